set_option maxHeartbeats 4000000 in
set_option maxRecDepth 100000 in
theorem m_comeC (l : Launch) (dC : Nat → ClassId) (dI : Nat → Nat → Nat) (sz h : Nat) (ad : Nat → Nat) (cA : Nat → ClassId) (hd : dM h ad) (fv : Nat → Int32) (wd : Int64) (ar : Nat → Nat → Int32) (hF_fv : rF fv) (hA_ar : rA ar) (a : Int32) (ht : (fv 2).toInt ≤ 336) : Met l yX12_come (.code yX12_come cX12_come 3 none :: lw_good) ({ frames := 2, cells := 0, slots := 0, locals := 40 }) (va_Pc [.ref h, .int a] (prM dC dI h ad cA fv wd ar sz)) (va_Qv (fun (u : mS) => rF u.1 ∧ rA u.2.2 ∧ fM [2] fv u.1 ∧ fA [1] ar u.2.2 ∧ ((u.1 2).toInt = (fv 2).toInt + 4) ∧ (u.2.2 1 = wt_tpw (ar 1) ((fv 2).toInt.toNat) a) ∧ True) (enM dC dI h ad cA) (aM h ad sz)) 0 0 (aM h ad sz) := by
  refine Met.ofW (cc := cX12_come) (maxL := 3) (ret := none) (by decide) rfl ?_
  intro p e s m args below meth c s₁ B hml hv
  obtain ⟨rfl, hsz, hP, hK⟩ := hv
  have hx := B.exec
  have hb := B.bytes
  have hr := B.returns
  have hts := atoms_spec (ws := (.code yX12_come cX12_come 3 none :: lw_good)) B.pre
  have htg : ∀ w ∈ lw_good, w.before _ s = true := fun w hw => hts w (List.mem_cons_of_mem _ hw)
  have hown : s.vm.findClass RX12 = some m.cls := findClass_of_methodNamed B.named
  have hlocks := B.notSynchronized
  subst hsz
  have hS : va_S (aM h ad s.heap.size) s.heap s.heap [] := va_S.rf
  have hl := lv_entry ([.ref h, .int a]) (n := 3) (Nat.le_of_ble_eq_true rfl)
  rw [lg_entry_eq]
  generalize (lg_sl ([.ref h, .int a]) ++ List.replicate (3 - (lg_sl ([.ref h, .int a])).length) Slot.unset).toArray = ls at hl ⊢
  have hl : lv_has ls 3 [(0, .ref h), (1, .int a)] := hl
  have i_1 : 0 ≤ (fv 2).toInt ∧ (fv 2).toInt ≤ 336 := ⟨(hF_fv 2).1, ht⟩
  refine lv_bipush (v := 24) hx hb dX12_come_0 (by decide) ?_
  refine lv_istore_n (lv' := [(2, .int 24), (0, .ref h), (1, .int a)]) hx hb dX12_come_2 rfl hl (by decide) rfl (fun ls hl => ?_)
  refine lv_iload_n hx hb dX12_come_3 rfl (lv_at hl 0 rfl) ?_
  refine lv_if_lt (tgt := 39) hx hb dX12_come_4 (by decide) (fun c_2 => ?_) (fun c_2 => ?_)
  · skip
    exact absurd c_2 (by decide)
  · skip
    refine lv_aload_n hx hb dX12_come_7 rfl (lv_at hl 1 rfl) ?_
    refine gM_1 hx hb htg hown hK hP dX12_come_8 ?_
    refine lv_aload_n hx hb dX12_come_11 rfl (lv_at hl 1 rfl) ?_
    refine gM_2 hx hb htg hown hK hP dX12_come_12 ?_
    refine lv_iload_n hx hb dX12_come_15 rfl (lv_at hl 2 rfl) ?_
    refine lv_iload_n hx hb dX12_come_16 rfl (lv_at hl 0 rfl) ?_
    refine lv_iushr hx hb dX12_come_17 rfl ?_
    refine lv_topi (fun v_3 ev_3 => ?_)
    refine lv_sipush (v := 255) hx hb dX12_come_18 (by decide) ?_
    refine lv_iand hx hb dX12_come_21 ?_
    refine lv_topi (fun v_4 ev_4 => ?_)
    have i_5 : 0 ≤ v_4.toInt ∧ v_4.toInt ≤ 255 := iv_and ev_4
    refine sM_1 hx hb hK hP hS hd (iv_in i_1 (by decide) (by decide)) dX12_come_22 (fun H locs ar_6 ear_6 hP hS => ?_)
    have hA_ar_6 : rA ar_6 := rA_put hA_ar ear_6 i_5
    refine lv_aload_n hx hb dX12_come_23 rfl (lv_at hl 1 rfl) ?_
    refine lv_dup hx hb dX12_come_24 rfl ?_
    refine gM_2 hx hb htg hown hK hP dX12_come_25 ?_
    refine lv_iconst (v := 1) hx hb dX12_come_28 (by decide) ?_
    refine lv_iadd hx hb dX12_come_29 ?_
    refine lv_topi (fun v_7 ev_7 => ?_)
    have t_8 : v_7.toInt = (fv 2).toInt + 1 ∧ 1 ≤ v_7.toInt ∧ v_7.toInt ≤ 337 := iv_addc ev_7 i_1 (by decide) (by decide) (by decide)
    refine pM_2 hx hb htg hown hK hP hS hd dX12_come_30 (fun H locs fv_10 efv_10 hP hS => ?_)
    have hF_fv_10 : rF fv_10 := rF_put hF_fv efv_10 (iv_w t_8.2 (by decide) (by decide))
    refine lv_iinc (v := 16) (lv' := [(2, .int 16), (0, .ref h), (1, .int a)]) hx hb dX12_come_33 hl (k := 0) rfl (by decide) (by decide) rfl (fun ls hl => ?_)
    refine lv_goto (tgt := 3) hx hb dX12_come_36 (by decide) ?_
    refine lv_iload_n hx hb dX12_come_3 rfl (lv_at hl 0 rfl) ?_
    refine lv_if_lt (tgt := 39) hx hb dX12_come_4 (by decide) (fun c_11 => ?_) (fun c_11 => ?_)
    · skip
      exact absurd c_11 (by decide)
    · skip
      refine lv_aload_n hx hb dX12_come_7 rfl (lv_at hl 1 rfl) ?_
      refine gM_1 hx hb htg hown hK hP dX12_come_8 ?_
      refine lv_aload_n hx hb dX12_come_11 rfl (lv_at hl 1 rfl) ?_
      refine gM_2 hx hb htg hown hK hP dX12_come_12 ?_
      refine my_ti (y := v_7) ((congrFun efv_10 2)) ?_
      refine lv_iload_n hx hb dX12_come_15 rfl (lv_at hl 2 rfl) ?_
      refine lv_iload_n hx hb dX12_come_16 rfl (lv_at hl 0 rfl) ?_
      refine lv_iushr hx hb dX12_come_17 rfl ?_
      refine lv_topi (fun v_12 ev_12 => ?_)
      refine lv_sipush (v := 255) hx hb dX12_come_18 (by decide) ?_
      refine lv_iand hx hb dX12_come_21 ?_
      refine lv_topi (fun v_13 ev_13 => ?_)
      have i_14 : 0 ≤ v_13.toInt ∧ v_13.toInt ≤ 255 := iv_and ev_13
      refine sM_1 hx hb hK hP hS hd (iv_in t_8.2 (by decide) (by decide)) dX12_come_22 (fun H locs ar_15 ear_15 hP hS => ?_)
      have hA_ar_15 : rA ar_15 := rA_put hA_ar_6 ear_15 i_14
      refine lv_aload_n hx hb dX12_come_23 rfl (lv_at hl 1 rfl) ?_
      refine lv_dup hx hb dX12_come_24 rfl ?_
      refine gM_2 hx hb htg hown hK hP dX12_come_25 ?_
      refine my_ti (y := v_7) ((congrFun efv_10 2)) ?_
      refine lv_iconst (v := 1) hx hb dX12_come_28 (by decide) ?_
      refine lv_iadd hx hb dX12_come_29 ?_
      refine lv_topi (fun v_16 ev_16 => ?_)
      have t_17 : v_16.toInt = v_7.toInt + 1 ∧ 2 ≤ v_16.toInt ∧ v_16.toInt ≤ 338 := iv_addc ev_16 t_8.2 (by decide) (by decide) (by decide)
      refine pM_2 hx hb htg hown hK hP hS hd dX12_come_30 (fun H locs fv_19 efv_19 hP hS => ?_)
      have hF_fv_19 : rF fv_19 := rF_put hF_fv_10 efv_19 (iv_w t_17.2 (by decide) (by decide))
      refine lv_iinc (v := 8) (lv' := [(2, .int 8), (0, .ref h), (1, .int a)]) hx hb dX12_come_33 hl (k := 0) rfl (by decide) (by decide) rfl (fun ls hl => ?_)
      refine lv_goto (tgt := 3) hx hb dX12_come_36 (by decide) ?_
      refine lv_iload_n hx hb dX12_come_3 rfl (lv_at hl 0 rfl) ?_
      refine lv_if_lt (tgt := 39) hx hb dX12_come_4 (by decide) (fun c_20 => ?_) (fun c_20 => ?_)
      · skip
        exact absurd c_20 (by decide)
      · skip
        refine lv_aload_n hx hb dX12_come_7 rfl (lv_at hl 1 rfl) ?_
        refine gM_1 hx hb htg hown hK hP dX12_come_8 ?_
        refine lv_aload_n hx hb dX12_come_11 rfl (lv_at hl 1 rfl) ?_
        refine gM_2 hx hb htg hown hK hP dX12_come_12 ?_
        refine my_ti (y := v_16) ((congrFun efv_19 2)) ?_
        refine lv_iload_n hx hb dX12_come_15 rfl (lv_at hl 2 rfl) ?_
        refine lv_iload_n hx hb dX12_come_16 rfl (lv_at hl 0 rfl) ?_
        refine lv_iushr hx hb dX12_come_17 rfl ?_
        refine lv_topi (fun v_21 ev_21 => ?_)
        refine lv_sipush (v := 255) hx hb dX12_come_18 (by decide) ?_
        refine lv_iand hx hb dX12_come_21 ?_
        refine lv_topi (fun v_22 ev_22 => ?_)
        have i_23 : 0 ≤ v_22.toInt ∧ v_22.toInt ≤ 255 := iv_and ev_22
        refine sM_1 hx hb hK hP hS hd (iv_in t_17.2 (by decide) (by decide)) dX12_come_22 (fun H locs ar_24 ear_24 hP hS => ?_)
        have hA_ar_24 : rA ar_24 := rA_put hA_ar_15 ear_24 i_23
        refine lv_aload_n hx hb dX12_come_23 rfl (lv_at hl 1 rfl) ?_
        refine lv_dup hx hb dX12_come_24 rfl ?_
        refine gM_2 hx hb htg hown hK hP dX12_come_25 ?_
        refine my_ti (y := v_16) ((congrFun efv_19 2)) ?_
        refine lv_iconst (v := 1) hx hb dX12_come_28 (by decide) ?_
        refine lv_iadd hx hb dX12_come_29 ?_
        refine lv_topi (fun v_25 ev_25 => ?_)
        have t_26 : v_25.toInt = v_16.toInt + 1 ∧ 3 ≤ v_25.toInt ∧ v_25.toInt ≤ 339 := iv_addc ev_25 t_17.2 (by decide) (by decide) (by decide)
        refine pM_2 hx hb htg hown hK hP hS hd dX12_come_30 (fun H locs fv_28 efv_28 hP hS => ?_)
        have hF_fv_28 : rF fv_28 := rF_put hF_fv_19 efv_28 (iv_w t_26.2 (by decide) (by decide))
        refine lv_iinc (v := 0) (lv' := [(2, .int 0), (0, .ref h), (1, .int a)]) hx hb dX12_come_33 hl (k := 0) rfl (by decide) (by decide) rfl (fun ls hl => ?_)
        refine lv_goto (tgt := 3) hx hb dX12_come_36 (by decide) ?_
        refine lv_iload_n hx hb dX12_come_3 rfl (lv_at hl 0 rfl) ?_
        refine lv_if_lt (tgt := 39) hx hb dX12_come_4 (by decide) (fun c_29 => ?_) (fun c_29 => ?_)
        · skip
          exact absurd c_29 (by decide)
        · skip
          refine lv_aload_n hx hb dX12_come_7 rfl (lv_at hl 1 rfl) ?_
          refine gM_1 hx hb htg hown hK hP dX12_come_8 ?_
          refine lv_aload_n hx hb dX12_come_11 rfl (lv_at hl 1 rfl) ?_
          refine gM_2 hx hb htg hown hK hP dX12_come_12 ?_
          refine my_ti (y := v_25) ((congrFun efv_28 2)) ?_
          refine lv_iload_n hx hb dX12_come_15 rfl (lv_at hl 2 rfl) ?_
          refine lv_iload_n hx hb dX12_come_16 rfl (lv_at hl 0 rfl) ?_
          refine lv_iushr hx hb dX12_come_17 rfl ?_
          refine lv_topi (fun v_30 ev_30 => ?_)
          refine lv_sipush (v := 255) hx hb dX12_come_18 (by decide) ?_
          refine lv_iand hx hb dX12_come_21 ?_
          refine lv_topi (fun v_31 ev_31 => ?_)
          have i_32 : 0 ≤ v_31.toInt ∧ v_31.toInt ≤ 255 := iv_and ev_31
          refine sM_1 hx hb hK hP hS hd (iv_in t_26.2 (by decide) (by decide)) dX12_come_22 (fun H locs ar_33 ear_33 hP hS => ?_)
          have hA_ar_33 : rA ar_33 := rA_put hA_ar_24 ear_33 i_32
          refine lv_aload_n hx hb dX12_come_23 rfl (lv_at hl 1 rfl) ?_
          refine lv_dup hx hb dX12_come_24 rfl ?_
          refine gM_2 hx hb htg hown hK hP dX12_come_25 ?_
          refine my_ti (y := v_25) ((congrFun efv_28 2)) ?_
          refine lv_iconst (v := 1) hx hb dX12_come_28 (by decide) ?_
          refine lv_iadd hx hb dX12_come_29 ?_
          refine lv_topi (fun v_34 ev_34 => ?_)
          have t_35 : v_34.toInt = v_25.toInt + 1 ∧ 4 ≤ v_34.toInt ∧ v_34.toInt ≤ 340 := iv_addc ev_34 t_26.2 (by decide) (by decide) (by decide)
          refine pM_2 hx hb htg hown hK hP hS hd dX12_come_30 (fun H locs fv_37 efv_37 hP hS => ?_)
          have hF_fv_37 : rF fv_37 := rF_put hF_fv_28 efv_37 (iv_w t_35.2 (by decide) (by decide))
          refine lv_iinc (v := (-8)) (lv' := [(2, .int (-8)), (0, .ref h), (1, .int a)]) hx hb dX12_come_33 hl (k := 0) rfl (by decide) (by decide) rfl (fun ls hl => ?_)
          refine lv_goto (tgt := 3) hx hb dX12_come_36 (by decide) ?_
          refine lv_iload_n hx hb dX12_come_3 rfl (lv_at hl 0 rfl) ?_
          refine lv_if_lt (tgt := 39) hx hb dX12_come_4 (by decide) (fun c_38 => ?_) (fun c_38 => ?_)
          · skip
            exact W.vret hx hb hr (fun t ht hW => ⟨⟨(fv_37, wd, ar_33), rfl, ⟨hF_fv_37, hA_ar_33, (fM_put (fM_put (fM_put (fM_put (fM_rf [2] _) efv_10 (by decide)) efv_19 (by decide)) efv_28 (by decide)) efv_37 (by decide)), (fA_put (fA_put (fA_put (fA_put (fA_rf [1] _) ear_6 (by decide)) ear_15 (by decide)) ear_24 (by decide)) ear_33 (by decide)), (show (fv_37 2).toInt = (fv 2).toInt + 4 from by rw [show fv_37 2 = v_34 from (congrFun efv_37 2)]; omega), (show ar_33 1 = wt_tpw (ar 1) ((fv 2).toInt.toNat) a from by rw [ear_33, ear_24, ear_15, ear_6]; show upd (upd (upd (upd (ar 1) (Int32.toNatClampNeg (fv 2)) v_4) (Int32.toNatClampNeg v_7) v_13) (Int32.toNatClampNeg v_16) v_22) (Int32.toNatClampNeg v_25) v_31 = _; rw [show Int32.toNatClampNeg v_7 = (fv 2).toInt.toNat + 1 from (by show v_7.toInt.toNat = _; omega), show Int32.toNatClampNeg v_16 = (fv 2).toInt.toNat + 2 from (by show v_16.toInt.toNat = _; omega), show Int32.toNatClampNeg v_25 = (fv 2).toInt.toNat + 3 from (by show v_25.toInt.toNat = _; omega)]; rw [ev_4, ev_3, ev_13, ev_12, ev_22, ev_21, ev_31, ev_30]; exact wt_tpwM _ _ _), trivial⟩, ⟨by rw [ht]; exact hP, va_K.moved hW.alike hK⟩⟩, hS.F ht⟩) hS.2.2 dX12_come_39
          · skip
            exact absurd (Int32.not_lt.mp c_38) (by decide)
set_option maxHeartbeats 4000000 in
set_option maxRecDepth 100000 in
theorem m_feedC (l : Launch) (dC : Nat → ClassId) (dI : Nat → Nat → Nat) (sz h : Nat) (ad : Nat → Nat) (cA : Nat → ClassId) (hd : dM h ad) (fv : Nat → Int32) (wd : Int64) (ar : Nat → Nat → Int32) (hF_fv : rF fv) (hA_ar : rA ar) (a : Int32) (b : Int32) (v : Int32) (d : Int32) (f : Int32) : Met l yX12_feed (.code yX12_feed cX12_feed 6 (some .int) :: lw_good) ({ frames := 3, cells := 0, slots := 0, locals := 62 }) (va_Pc [.ref h, .int a, .int b, .int v, .int d, .int f] (prM dC dI h ad cA fv wd ar sz)) (va_Qi (fun (r : Int32) (u : mS) => rF u.1 ∧ rA u.2.2 ∧ fM [0, 2] fv u.1 ∧ fA [1] ar u.2.2 ∧ (ps_feed r (u.1 2) (fv 2)) ∧ (wt_tpU (u.2.2 1) (ar 1) (fv 2) a b v d f) ∧ True) (enM dC dI h ad cA) (aM h ad sz)) 0 0 (aM h ad sz) := by
  refine Met.ofW (cc := cX12_feed) (maxL := 6) (ret := (some .int)) (by decide) rfl ?_
  intro p e s m args below meth c s₁ B hml hv
  obtain ⟨rfl, hsz, hP, hK⟩ := hv
  have hx := B.exec
  have hb := B.bytes
  have hr := B.returns
  have hts := atoms_spec (ws := (.code yX12_feed cX12_feed 6 (some .int) :: lw_good)) B.pre
  have htg : ∀ w ∈ lw_good, w.before _ s = true := fun w hw => hts w (List.mem_cons_of_mem _ hw)
  have hown : s.vm.findClass RX12 = some m.cls := findClass_of_methodNamed B.named
  have hlocks := B.notSynchronized
  subst hsz
  have hS : va_S (aM h ad s.heap.size) s.heap s.heap [] := va_S.rf
  have hl := lv_entry ([.ref h, .int a, .int b, .int v, .int d, .int f]) (n := 6) (Nat.le_of_ble_eq_true rfl)
  rw [lg_entry_eq]
  generalize (lg_sl ([.ref h, .int a, .int b, .int v, .int d, .int f]) ++ List.replicate (6 - (lg_sl ([.ref h, .int a, .int b, .int v, .int d, .int f])).length) Slot.unset).toArray = ls at hl ⊢
  have hl : lv_has ls 6 [(0, .ref h), (1, .int a), (2, .int b), (3, .int v), (4, .int d), (5, .int f)] := hl
  have zc0 : (0 : Int32).toInt = 0 := by decide
  have zc1 : (1 : Int32).toInt = 1 := by decide
  have zc10 : (10 : Int32).toInt = 10 := by decide
  have zc99 : (99 : Int32).toInt = 99 := by decide
  have zc200 : (200 : Int32).toInt = 200 := by decide
  have zc9999 : (9999 : Int32).toInt = 9999 := by decide
  have zcm1 : ((-1) : Int32).toInt = (-1) := by decide
  refine lv_aload_n hx hb dX12_feed_0 rfl (lv_at hl 0 rfl) ?_
  refine lv_iconst (v := 0) hx hb dX12_feed_1 (by decide) ?_
  refine pM_0 hx hb htg hown hK hP hS hd dX12_feed_2 (fun H locs fv_1 efv_1 hP hS => ?_)
  have hF_fv_1 : rF fv_1 := rF_put hF_fv efv_1 (iv_any _)
  refine lv_aload_n hx hb dX12_feed_5 rfl (lv_at hl 0 rfl) ?_
  refine gM_2 hx hb htg hown hK hP dX12_feed_6 ?_
  refine my_ti (y := fv 2) ((congrFun efv_1 2)) ?_
  have i_2 : 0 ≤ (fv 2).toInt ∧ (fv 2).toInt ≤ 340 := hF_fv 2
  refine lv_bipush (v := 20) hx hb dX12_feed_9 (by decide) ?_
  refine lv_iadd hx hb dX12_feed_11 ?_
  refine lv_topi (fun v_3 ev_3 => ?_)
  have t_4 : v_3.toInt = (fv 2).toInt + 20 ∧ 20 ≤ v_3.toInt ∧ v_3.toInt ≤ 360 := iv_addc ev_3 i_2 (by decide) (by decide) (by decide)
  refine lv_sipush (v := 340) hx hb dX12_feed_12 (by decide) ?_
  refine lv_icmp_le (tgt := 20) hx hb dX12_feed_15 (by decide) (fun c_6 => ?_) (fun c_6 => ?_)
  · skip
    have i_7 : 20 ≤ v_3.toInt ∧ v_3.toInt ≤ 340 := iv_le1 t_4.2 (⟨by decide, by decide⟩ : (340 : Int) ≤ (340 : Int32).toInt ∧ (340 : Int32).toInt ≤ 340) c_6
    refine lv_aload_n hx hb dX12_feed_20 rfl (lv_at hl 0 rfl) ?_
    refine lv_iload_n hx hb dX12_feed_21 rfl (lv_at hl 1 rfl) ?_
    have z_8 : (fv_1 2).toInt = (fv 2).toInt := congrArg Int32.toInt ((congrFun efv_1 2))
    have z_9 : 0 ≤ (fv_1 2).toInt ∧ (fv_1 2).toInt ≤ 340 := hF_fv_1 2
    have z_10 : (fv_1 2).toInt = (fv 2).toInt := congrArg Int32.toInt ((congrFun efv_1 2))
    have z_11 : 0 ≤ (fv_1 2).toInt ∧ (fv_1 2).toInt ≤ 340 := hF_fv_1 2
    refine va_callv (va_runV (As := [.int a]) (rest := []) ⟨hx, hb, hml, hown, hts⟩ (m_comeC l dC dI H.size h ad cA hd fv_1 wd ar hF_fv_1 hA_ar a (by omega)) (cwV 1 hts (gV kw_7_206 kw_7_208 kw_p_57 kw_1_15 kw_7_209) rfl rfl rfl (by decide +kernel) ⟨Nat.le_of_ble_eq_true rfl, Nat.le_of_ble_eq_true rfl⟩) ⟨fun a U g mk q => ⟨q.1, q.2.1, q.2.2.1, va_K.moved (u := U) (U := U.calling g mk a) (Vm.Alike.refl U.vm) q.2.2.2⟩, va_recv hK hP (ci := 12) (q0 := 0) rfl rfl, fun U hU hW => ⟨rfl, by rw [hU], by rw [hU]; exact hP, va_K.moved hW.alike hK⟩⟩ rfl rfl hl.1 rfl (lv_room (Nat.le_of_ble_eq_true rfl)) dX12_feed_22 ⟨Nat.le_of_ble_eq_true rfl, Nat.le_of_ble_eq_true rfl⟩) hS (fun q _ h9 => aM_up hS q h9) (aM_up hS) (fun u t H1 locs ht _ hw hB _ hk1 hS => ?_)
    obtain ⟨fv_15, wd_16, ar_17⟩ := u
    obtain ⟨hF_fv_15, hA_ar_17, fr_18, fa_19, p_13, p_14, -⟩ := hw
    have hP : va_P (dC, dI) vwCl (wsM h ad cA fv_15 wd_16 ar_17) H1 := by have h9 := hB.1; rw [ht] at h9; exact h9
    have fr_18 : fM [2] fv_1 fv_15 := fr_18
    have fa_19 : fA [1] ar ar_17 := fa_19
    have p_13 : (fv_15 2).toInt = (fv_1 2).toInt + 4 := p_13
    have p_14 : ar_17 1 = wt_tpw (ar 1) ((fv_1 2).toInt.toNat) a := p_14
    generalize H1 = H at hP hS ⊢
    refine lv_aload_n hx hb dX12_feed_25 rfl (lv_at hl 0 rfl) ?_
    refine lv_iload_n hx hb dX12_feed_26 rfl (lv_at hl 2 rfl) ?_
    have z_20 : 0 ≤ (fv_15 2).toInt ∧ (fv_15 2).toInt ≤ 340 := hF_fv_15 2
    have z_21 : 0 ≤ (fv_15 2).toInt ∧ (fv_15 2).toInt ≤ 340 := hF_fv_15 2
    refine va_callv (va_runV (As := [.int b]) (rest := []) ⟨hx, hb, hml, hown, hts⟩ (m_comeC l dC dI H.size h ad cA hd fv_15 wd_16 ar_17 hF_fv_15 hA_ar_17 b (by omega)) (cwV 1 hts (gV kw_7_206 kw_7_208 kw_p_57 kw_1_15 kw_7_209) rfl rfl rfl (by decide +kernel) ⟨Nat.le_of_ble_eq_true rfl, Nat.le_of_ble_eq_true rfl⟩) ⟨fun a U g mk q => ⟨q.1, q.2.1, q.2.2.1, va_K.moved (u := U) (U := U.calling g mk a) (Vm.Alike.refl U.vm) q.2.2.2⟩, va_recv hK hP (ci := 12) (q0 := 0) rfl rfl, fun U hU hW => ⟨rfl, by rw [hU], by rw [hU]; exact hP, va_K.moved hW.alike hK⟩⟩ rfl rfl hl.1 rfl (lv_room (Nat.le_of_ble_eq_true rfl)) dX12_feed_27 ⟨Nat.le_of_ble_eq_true rfl, Nat.le_of_ble_eq_true rfl⟩) hS (fun q _ h9 => aM_up hS q h9) (aM_up hS) (fun u t H1 locs ht _ hw hB _ hk1 hS => ?_)
    obtain ⟨fv_25, wd_26, ar_27⟩ := u
    obtain ⟨hF_fv_25, hA_ar_27, fr_28, fa_29, p_23, p_24, -⟩ := hw
    have hP : va_P (dC, dI) vwCl (wsM h ad cA fv_25 wd_26 ar_27) H1 := by have h9 := hB.1; rw [ht] at h9; exact h9
    have fr_28 : fM [2] fv_15 fv_25 := fr_28
    have fa_29 : fA [1] ar_17 ar_27 := fa_29
    have p_23 : (fv_25 2).toInt = (fv_15 2).toInt + 4 := p_23
    have p_24 : ar_27 1 = wt_tpw (ar_17 1) ((fv_15 2).toInt.toNat) b := p_24
    generalize H1 = H at hP hS ⊢
    refine lv_aload_n hx hb dX12_feed_30 rfl (lv_at hl 0 rfl) ?_
    refine lv_iload_n hx hb dX12_feed_31 rfl (lv_at hl 3 rfl) ?_
    have z_30 : 0 ≤ (fv_25 2).toInt ∧ (fv_25 2).toInt ≤ 340 := hF_fv_25 2
    have z_31 : 0 ≤ (fv_25 2).toInt ∧ (fv_25 2).toInt ≤ 340 := hF_fv_25 2
    refine va_callv (va_runV (As := [.int v]) (rest := []) ⟨hx, hb, hml, hown, hts⟩ (m_comeC l dC dI H.size h ad cA hd fv_25 wd_26 ar_27 hF_fv_25 hA_ar_27 v (by omega)) (cwV 1 hts (gV kw_7_206 kw_7_208 kw_p_57 kw_1_15 kw_7_209) rfl rfl rfl (by decide +kernel) ⟨Nat.le_of_ble_eq_true rfl, Nat.le_of_ble_eq_true rfl⟩) ⟨fun a U g mk q => ⟨q.1, q.2.1, q.2.2.1, va_K.moved (u := U) (U := U.calling g mk a) (Vm.Alike.refl U.vm) q.2.2.2⟩, va_recv hK hP (ci := 12) (q0 := 0) rfl rfl, fun U hU hW => ⟨rfl, by rw [hU], by rw [hU]; exact hP, va_K.moved hW.alike hK⟩⟩ rfl rfl hl.1 rfl (lv_room (Nat.le_of_ble_eq_true rfl)) dX12_feed_32 ⟨Nat.le_of_ble_eq_true rfl, Nat.le_of_ble_eq_true rfl⟩) hS (fun q _ h9 => aM_up hS q h9) (aM_up hS) (fun u t H1 locs ht _ hw hB _ hk1 hS => ?_)
    obtain ⟨fv_35, wd_36, ar_37⟩ := u
    obtain ⟨hF_fv_35, hA_ar_37, fr_38, fa_39, p_33, p_34, -⟩ := hw
    have hP : va_P (dC, dI) vwCl (wsM h ad cA fv_35 wd_36 ar_37) H1 := by have h9 := hB.1; rw [ht] at h9; exact h9
    have fr_38 : fM [2] fv_25 fv_35 := fr_38
    have fa_39 : fA [1] ar_27 ar_37 := fa_39
    have p_33 : (fv_35 2).toInt = (fv_25 2).toInt + 4 := p_33
    have p_34 : ar_37 1 = wt_tpw (ar_27 1) ((fv_25 2).toInt.toNat) v := p_34
    generalize H1 = H at hP hS ⊢
    refine lv_aload_n hx hb dX12_feed_35 rfl (lv_at hl 0 rfl) ?_
    refine lv_iload hx hb dX12_feed_36 (lv_at hl 4 rfl) ?_
    have z_40 : 0 ≤ (fv_35 2).toInt ∧ (fv_35 2).toInt ≤ 340 := hF_fv_35 2
    have z_41 : 0 ≤ (fv_35 2).toInt ∧ (fv_35 2).toInt ≤ 340 := hF_fv_35 2
    refine va_callv (va_runV (As := [.int d]) (rest := []) ⟨hx, hb, hml, hown, hts⟩ (m_comeC l dC dI H.size h ad cA hd fv_35 wd_36 ar_37 hF_fv_35 hA_ar_37 d (by omega)) (cwV 1 hts (gV kw_7_206 kw_7_208 kw_p_57 kw_1_15 kw_7_209) rfl rfl rfl (by decide +kernel) ⟨Nat.le_of_ble_eq_true rfl, Nat.le_of_ble_eq_true rfl⟩) ⟨fun a U g mk q => ⟨q.1, q.2.1, q.2.2.1, va_K.moved (u := U) (U := U.calling g mk a) (Vm.Alike.refl U.vm) q.2.2.2⟩, va_recv hK hP (ci := 12) (q0 := 0) rfl rfl, fun U hU hW => ⟨rfl, by rw [hU], by rw [hU]; exact hP, va_K.moved hW.alike hK⟩⟩ rfl rfl hl.1 rfl (lv_room (Nat.le_of_ble_eq_true rfl)) dX12_feed_38 ⟨Nat.le_of_ble_eq_true rfl, Nat.le_of_ble_eq_true rfl⟩) hS (fun q _ h9 => aM_up hS q h9) (aM_up hS) (fun u t H1 locs ht _ hw hB _ hk1 hS => ?_)
    obtain ⟨fv_45, wd_46, ar_47⟩ := u
    obtain ⟨hF_fv_45, hA_ar_47, fr_48, fa_49, p_43, p_44, -⟩ := hw
    have hP : va_P (dC, dI) vwCl (wsM h ad cA fv_45 wd_46 ar_47) H1 := by have h9 := hB.1; rw [ht] at h9; exact h9
    have fr_48 : fM [2] fv_35 fv_45 := fr_48
    have fa_49 : fA [1] ar_37 ar_47 := fa_49
    have p_43 : (fv_45 2).toInt = (fv_35 2).toInt + 4 := p_43
    have p_44 : ar_47 1 = wt_tpw (ar_37 1) ((fv_35 2).toInt.toNat) d := p_44
    generalize H1 = H at hP hS ⊢
    refine lv_aload_n hx hb dX12_feed_41 rfl (lv_at hl 0 rfl) ?_
    refine lv_iload hx hb dX12_feed_42 (lv_at hl 5 rfl) ?_
    have z_50 : 0 ≤ (fv_45 2).toInt ∧ (fv_45 2).toInt ≤ 340 := hF_fv_45 2
    have z_51 : 0 ≤ (fv_45 2).toInt ∧ (fv_45 2).toInt ≤ 340 := hF_fv_45 2
    refine va_callv (va_runV (As := [.int f]) (rest := []) ⟨hx, hb, hml, hown, hts⟩ (m_comeC l dC dI H.size h ad cA hd fv_45 wd_46 ar_47 hF_fv_45 hA_ar_47 f (by omega)) (cwV 1 hts (gV kw_7_206 kw_7_208 kw_p_57 kw_1_15 kw_7_209) rfl rfl rfl (by decide +kernel) ⟨Nat.le_of_ble_eq_true rfl, Nat.le_of_ble_eq_true rfl⟩) ⟨fun a U g mk q => ⟨q.1, q.2.1, q.2.2.1, va_K.moved (u := U) (U := U.calling g mk a) (Vm.Alike.refl U.vm) q.2.2.2⟩, va_recv hK hP (ci := 12) (q0 := 0) rfl rfl, fun U hU hW => ⟨rfl, by rw [hU], by rw [hU]; exact hP, va_K.moved hW.alike hK⟩⟩ rfl rfl hl.1 rfl (lv_room (Nat.le_of_ble_eq_true rfl)) dX12_feed_44 ⟨Nat.le_of_ble_eq_true rfl, Nat.le_of_ble_eq_true rfl⟩) hS (fun q _ h9 => aM_up hS q h9) (aM_up hS) (fun u t H1 locs ht _ hw hB _ hk1 hS => ?_)
    obtain ⟨fv_55, wd_56, ar_57⟩ := u
    obtain ⟨hF_fv_55, hA_ar_57, fr_58, fa_59, p_53, p_54, -⟩ := hw
    have hP : va_P (dC, dI) vwCl (wsM h ad cA fv_55 wd_56 ar_57) H1 := by have h9 := hB.1; rw [ht] at h9; exact h9
    have fr_58 : fM [2] fv_45 fv_55 := fr_58
    have fa_59 : fA [1] ar_47 ar_57 := fa_59
    have p_53 : (fv_55 2).toInt = (fv_45 2).toInt + 4 := p_53
    have p_54 : ar_57 1 = wt_tpw (ar_47 1) ((fv_45 2).toInt.toNat) f := p_54
    generalize H1 = H at hP hS ⊢
    refine lv_aload_n hx hb dX12_feed_47 rfl (lv_at hl 0 rfl) ?_
    refine gM_2 hx hb htg hown hK hP dX12_feed_48 ?_
    have i_60 : 0 ≤ (fv_55 2).toInt ∧ (fv_55 2).toInt ≤ 340 := hF_fv_55 2
    exact W.iret (v := fv_55 2) hx hb hr (fun t ht hW => ⟨⟨fv_55 2, (fv_55, wd_56, ar_57), rfl, ⟨hF_fv_55, hA_ar_57, (fM_call (fM_call (fM_call (fM_call (fM_call (fM_put (fM_rf [0, 2] _) efv_1 (by decide)) fr_18 (by decide)) fr_28 (by decide)) fr_38 (by decide)) fr_48 (by decide)) fr_58 (by decide)), (fA_call (fA_call (fA_call (fA_call (fA_call (fA_rf [1] _) fa_19 (by decide)) fa_29 (by decide)) fa_39 (by decide)) fa_49 (by decide)) fa_59 (by decide)), (show ps_feed (fv_55 2) (fv_55 2) (fv 2) from by have q_fv_1_33 : (fv_1 33).toInt = (fv 33).toInt := congrArg Int32.toInt ((fM_put (fM_rf [0] _) efv_1 (by decide)) 33 rfl); have q_fv_1_3 : (fv_1 3).toInt = (fv 3).toInt := congrArg Int32.toInt ((fM_put (fM_rf [0] _) efv_1 (by decide)) 3 rfl); have q_fv_1_6 : (fv_1 6).toInt = (fv 6).toInt := congrArg Int32.toInt ((fM_put (fM_rf [0] _) efv_1 (by decide)) 6 rfl); have q_fv_1_34 : (fv_1 34).toInt = (fv 34).toInt := congrArg Int32.toInt ((fM_put (fM_rf [0] _) efv_1 (by decide)) 34 rfl); have q_fv_1_35 : (fv_1 35).toInt = (fv 35).toInt := congrArg Int32.toInt ((fM_put (fM_rf [0] _) efv_1 (by decide)) 35 rfl); have q_fv_1_2 : (fv_1 2).toInt = (fv 2).toInt := congrArg Int32.toInt ((fM_put (fM_rf [0] _) efv_1 (by decide)) 2 rfl); have q_fv_15_33 : (fv_15 33).toInt = (fv 33).toInt := congrArg Int32.toInt ((fM_call (fM_put (fM_rf [0, 2] _) efv_1 (by decide)) fr_18 (by decide)) 33 rfl); have q_fv_15_3 : (fv_15 3).toInt = (fv 3).toInt := congrArg Int32.toInt ((fM_call (fM_put (fM_rf [0, 2] _) efv_1 (by decide)) fr_18 (by decide)) 3 rfl); have q_fv_15_6 : (fv_15 6).toInt = (fv 6).toInt := congrArg Int32.toInt ((fM_call (fM_put (fM_rf [0, 2] _) efv_1 (by decide)) fr_18 (by decide)) 6 rfl); have q_fv_15_34 : (fv_15 34).toInt = (fv 34).toInt := congrArg Int32.toInt ((fM_call (fM_put (fM_rf [0, 2] _) efv_1 (by decide)) fr_18 (by decide)) 34 rfl); have q_fv_15_35 : (fv_15 35).toInt = (fv 35).toInt := congrArg Int32.toInt ((fM_call (fM_put (fM_rf [0, 2] _) efv_1 (by decide)) fr_18 (by decide)) 35 rfl); have q_fv_25_33 : (fv_25 33).toInt = (fv 33).toInt := congrArg Int32.toInt ((fM_call (fM_call (fM_put (fM_rf [0, 2] _) efv_1 (by decide)) fr_18 (by decide)) fr_28 (by decide)) 33 rfl); have q_fv_25_3 : (fv_25 3).toInt = (fv 3).toInt := congrArg Int32.toInt ((fM_call (fM_call (fM_put (fM_rf [0, 2] _) efv_1 (by decide)) fr_18 (by decide)) fr_28 (by decide)) 3 rfl); have q_fv_25_6 : (fv_25 6).toInt = (fv 6).toInt := congrArg Int32.toInt ((fM_call (fM_call (fM_put (fM_rf [0, 2] _) efv_1 (by decide)) fr_18 (by decide)) fr_28 (by decide)) 6 rfl); have q_fv_25_34 : (fv_25 34).toInt = (fv 34).toInt := congrArg Int32.toInt ((fM_call (fM_call (fM_put (fM_rf [0, 2] _) efv_1 (by decide)) fr_18 (by decide)) fr_28 (by decide)) 34 rfl); have q_fv_25_35 : (fv_25 35).toInt = (fv 35).toInt := congrArg Int32.toInt ((fM_call (fM_call (fM_put (fM_rf [0, 2] _) efv_1 (by decide)) fr_18 (by decide)) fr_28 (by decide)) 35 rfl); have q_fv_35_33 : (fv_35 33).toInt = (fv 33).toInt := congrArg Int32.toInt ((fM_call (fM_call (fM_call (fM_put (fM_rf [0, 2] _) efv_1 (by decide)) fr_18 (by decide)) fr_28 (by decide)) fr_38 (by decide)) 33 rfl); have q_fv_35_3 : (fv_35 3).toInt = (fv 3).toInt := congrArg Int32.toInt ((fM_call (fM_call (fM_call (fM_put (fM_rf [0, 2] _) efv_1 (by decide)) fr_18 (by decide)) fr_28 (by decide)) fr_38 (by decide)) 3 rfl); have q_fv_35_6 : (fv_35 6).toInt = (fv 6).toInt := congrArg Int32.toInt ((fM_call (fM_call (fM_call (fM_put (fM_rf [0, 2] _) efv_1 (by decide)) fr_18 (by decide)) fr_28 (by decide)) fr_38 (by decide)) 6 rfl); have q_fv_35_34 : (fv_35 34).toInt = (fv 34).toInt := congrArg Int32.toInt ((fM_call (fM_call (fM_call (fM_put (fM_rf [0, 2] _) efv_1 (by decide)) fr_18 (by decide)) fr_28 (by decide)) fr_38 (by decide)) 34 rfl); have q_fv_35_35 : (fv_35 35).toInt = (fv 35).toInt := congrArg Int32.toInt ((fM_call (fM_call (fM_call (fM_put (fM_rf [0, 2] _) efv_1 (by decide)) fr_18 (by decide)) fr_28 (by decide)) fr_38 (by decide)) 35 rfl); have q_fv_45_33 : (fv_45 33).toInt = (fv 33).toInt := congrArg Int32.toInt ((fM_call (fM_call (fM_call (fM_call (fM_put (fM_rf [0, 2] _) efv_1 (by decide)) fr_18 (by decide)) fr_28 (by decide)) fr_38 (by decide)) fr_48 (by decide)) 33 rfl); have q_fv_45_3 : (fv_45 3).toInt = (fv 3).toInt := congrArg Int32.toInt ((fM_call (fM_call (fM_call (fM_call (fM_put (fM_rf [0, 2] _) efv_1 (by decide)) fr_18 (by decide)) fr_28 (by decide)) fr_38 (by decide)) fr_48 (by decide)) 3 rfl); have q_fv_45_6 : (fv_45 6).toInt = (fv 6).toInt := congrArg Int32.toInt ((fM_call (fM_call (fM_call (fM_call (fM_put (fM_rf [0, 2] _) efv_1 (by decide)) fr_18 (by decide)) fr_28 (by decide)) fr_38 (by decide)) fr_48 (by decide)) 6 rfl); have q_fv_45_34 : (fv_45 34).toInt = (fv 34).toInt := congrArg Int32.toInt ((fM_call (fM_call (fM_call (fM_call (fM_put (fM_rf [0, 2] _) efv_1 (by decide)) fr_18 (by decide)) fr_28 (by decide)) fr_38 (by decide)) fr_48 (by decide)) 34 rfl); have q_fv_45_35 : (fv_45 35).toInt = (fv 35).toInt := congrArg Int32.toInt ((fM_call (fM_call (fM_call (fM_call (fM_put (fM_rf [0, 2] _) efv_1 (by decide)) fr_18 (by decide)) fr_28 (by decide)) fr_38 (by decide)) fr_48 (by decide)) 35 rfl); have q_fv_55_33 : (fv_55 33).toInt = (fv 33).toInt := congrArg Int32.toInt ((fM_call (fM_call (fM_call (fM_call (fM_call (fM_put (fM_rf [0, 2] _) efv_1 (by decide)) fr_18 (by decide)) fr_28 (by decide)) fr_38 (by decide)) fr_48 (by decide)) fr_58 (by decide)) 33 rfl); have q_fv_55_3 : (fv_55 3).toInt = (fv 3).toInt := congrArg Int32.toInt ((fM_call (fM_call (fM_call (fM_call (fM_call (fM_put (fM_rf [0, 2] _) efv_1 (by decide)) fr_18 (by decide)) fr_28 (by decide)) fr_38 (by decide)) fr_48 (by decide)) fr_58 (by decide)) 3 rfl); have q_fv_55_6 : (fv_55 6).toInt = (fv 6).toInt := congrArg Int32.toInt ((fM_call (fM_call (fM_call (fM_call (fM_call (fM_put (fM_rf [0, 2] _) efv_1 (by decide)) fr_18 (by decide)) fr_28 (by decide)) fr_38 (by decide)) fr_48 (by decide)) fr_58 (by decide)) 6 rfl); have q_fv_55_34 : (fv_55 34).toInt = (fv 34).toInt := congrArg Int32.toInt ((fM_call (fM_call (fM_call (fM_call (fM_call (fM_put (fM_rf [0, 2] _) efv_1 (by decide)) fr_18 (by decide)) fr_28 (by decide)) fr_38 (by decide)) fr_48 (by decide)) fr_58 (by decide)) 34 rfl); have q_fv_55_35 : (fv_55 35).toInt = (fv 35).toInt := congrArg Int32.toInt ((fM_call (fM_call (fM_call (fM_call (fM_call (fM_put (fM_rf [0, 2] _) efv_1 (by decide)) fr_18 (by decide)) fr_28 (by decide)) fr_38 (by decide)) fr_48 (by decide)) fr_58 (by decide)) 35 rfl); exact Or.inr ⟨by first | rfl | omega, by omega, by omega⟩), (show wt_tpU (ar_57 1) (ar 1) (fv 2) a b v d f from by have q_fv_1_33 : (fv_1 33).toInt = (fv 33).toInt := congrArg Int32.toInt ((fM_put (fM_rf [0] _) efv_1 (by decide)) 33 rfl); have q_fv_1_3 : (fv_1 3).toInt = (fv 3).toInt := congrArg Int32.toInt ((fM_put (fM_rf [0] _) efv_1 (by decide)) 3 rfl); have q_fv_1_6 : (fv_1 6).toInt = (fv 6).toInt := congrArg Int32.toInt ((fM_put (fM_rf [0] _) efv_1 (by decide)) 6 rfl); have q_fv_1_34 : (fv_1 34).toInt = (fv 34).toInt := congrArg Int32.toInt ((fM_put (fM_rf [0] _) efv_1 (by decide)) 34 rfl); have q_fv_1_35 : (fv_1 35).toInt = (fv 35).toInt := congrArg Int32.toInt ((fM_put (fM_rf [0] _) efv_1 (by decide)) 35 rfl); have q_fv_1_2 : (fv_1 2).toInt = (fv 2).toInt := congrArg Int32.toInt ((fM_put (fM_rf [0] _) efv_1 (by decide)) 2 rfl); have q_fv_15_33 : (fv_15 33).toInt = (fv 33).toInt := congrArg Int32.toInt ((fM_call (fM_put (fM_rf [0, 2] _) efv_1 (by decide)) fr_18 (by decide)) 33 rfl); have q_fv_15_3 : (fv_15 3).toInt = (fv 3).toInt := congrArg Int32.toInt ((fM_call (fM_put (fM_rf [0, 2] _) efv_1 (by decide)) fr_18 (by decide)) 3 rfl); have q_fv_15_6 : (fv_15 6).toInt = (fv 6).toInt := congrArg Int32.toInt ((fM_call (fM_put (fM_rf [0, 2] _) efv_1 (by decide)) fr_18 (by decide)) 6 rfl); have q_fv_15_34 : (fv_15 34).toInt = (fv 34).toInt := congrArg Int32.toInt ((fM_call (fM_put (fM_rf [0, 2] _) efv_1 (by decide)) fr_18 (by decide)) 34 rfl); have q_fv_15_35 : (fv_15 35).toInt = (fv 35).toInt := congrArg Int32.toInt ((fM_call (fM_put (fM_rf [0, 2] _) efv_1 (by decide)) fr_18 (by decide)) 35 rfl); have q_fv_25_33 : (fv_25 33).toInt = (fv 33).toInt := congrArg Int32.toInt ((fM_call (fM_call (fM_put (fM_rf [0, 2] _) efv_1 (by decide)) fr_18 (by decide)) fr_28 (by decide)) 33 rfl); have q_fv_25_3 : (fv_25 3).toInt = (fv 3).toInt := congrArg Int32.toInt ((fM_call (fM_call (fM_put (fM_rf [0, 2] _) efv_1 (by decide)) fr_18 (by decide)) fr_28 (by decide)) 3 rfl); have q_fv_25_6 : (fv_25 6).toInt = (fv 6).toInt := congrArg Int32.toInt ((fM_call (fM_call (fM_put (fM_rf [0, 2] _) efv_1 (by decide)) fr_18 (by decide)) fr_28 (by decide)) 6 rfl); have q_fv_25_34 : (fv_25 34).toInt = (fv 34).toInt := congrArg Int32.toInt ((fM_call (fM_call (fM_put (fM_rf [0, 2] _) efv_1 (by decide)) fr_18 (by decide)) fr_28 (by decide)) 34 rfl); have q_fv_25_35 : (fv_25 35).toInt = (fv 35).toInt := congrArg Int32.toInt ((fM_call (fM_call (fM_put (fM_rf [0, 2] _) efv_1 (by decide)) fr_18 (by decide)) fr_28 (by decide)) 35 rfl); have q_fv_35_33 : (fv_35 33).toInt = (fv 33).toInt := congrArg Int32.toInt ((fM_call (fM_call (fM_call (fM_put (fM_rf [0, 2] _) efv_1 (by decide)) fr_18 (by decide)) fr_28 (by decide)) fr_38 (by decide)) 33 rfl); have q_fv_35_3 : (fv_35 3).toInt = (fv 3).toInt := congrArg Int32.toInt ((fM_call (fM_call (fM_call (fM_put (fM_rf [0, 2] _) efv_1 (by decide)) fr_18 (by decide)) fr_28 (by decide)) fr_38 (by decide)) 3 rfl); have q_fv_35_6 : (fv_35 6).toInt = (fv 6).toInt := congrArg Int32.toInt ((fM_call (fM_call (fM_call (fM_put (fM_rf [0, 2] _) efv_1 (by decide)) fr_18 (by decide)) fr_28 (by decide)) fr_38 (by decide)) 6 rfl); have q_fv_35_34 : (fv_35 34).toInt = (fv 34).toInt := congrArg Int32.toInt ((fM_call (fM_call (fM_call (fM_put (fM_rf [0, 2] _) efv_1 (by decide)) fr_18 (by decide)) fr_28 (by decide)) fr_38 (by decide)) 34 rfl); have q_fv_35_35 : (fv_35 35).toInt = (fv 35).toInt := congrArg Int32.toInt ((fM_call (fM_call (fM_call (fM_put (fM_rf [0, 2] _) efv_1 (by decide)) fr_18 (by decide)) fr_28 (by decide)) fr_38 (by decide)) 35 rfl); have q_fv_45_33 : (fv_45 33).toInt = (fv 33).toInt := congrArg Int32.toInt ((fM_call (fM_call (fM_call (fM_call (fM_put (fM_rf [0, 2] _) efv_1 (by decide)) fr_18 (by decide)) fr_28 (by decide)) fr_38 (by decide)) fr_48 (by decide)) 33 rfl); have q_fv_45_3 : (fv_45 3).toInt = (fv 3).toInt := congrArg Int32.toInt ((fM_call (fM_call (fM_call (fM_call (fM_put (fM_rf [0, 2] _) efv_1 (by decide)) fr_18 (by decide)) fr_28 (by decide)) fr_38 (by decide)) fr_48 (by decide)) 3 rfl); have q_fv_45_6 : (fv_45 6).toInt = (fv 6).toInt := congrArg Int32.toInt ((fM_call (fM_call (fM_call (fM_call (fM_put (fM_rf [0, 2] _) efv_1 (by decide)) fr_18 (by decide)) fr_28 (by decide)) fr_38 (by decide)) fr_48 (by decide)) 6 rfl); have q_fv_45_34 : (fv_45 34).toInt = (fv 34).toInt := congrArg Int32.toInt ((fM_call (fM_call (fM_call (fM_call (fM_put (fM_rf [0, 2] _) efv_1 (by decide)) fr_18 (by decide)) fr_28 (by decide)) fr_38 (by decide)) fr_48 (by decide)) 34 rfl); have q_fv_45_35 : (fv_45 35).toInt = (fv 35).toInt := congrArg Int32.toInt ((fM_call (fM_call (fM_call (fM_call (fM_put (fM_rf [0, 2] _) efv_1 (by decide)) fr_18 (by decide)) fr_28 (by decide)) fr_38 (by decide)) fr_48 (by decide)) 35 rfl); have q_fv_55_33 : (fv_55 33).toInt = (fv 33).toInt := congrArg Int32.toInt ((fM_call (fM_call (fM_call (fM_call (fM_call (fM_put (fM_rf [0, 2] _) efv_1 (by decide)) fr_18 (by decide)) fr_28 (by decide)) fr_38 (by decide)) fr_48 (by decide)) fr_58 (by decide)) 33 rfl); have q_fv_55_3 : (fv_55 3).toInt = (fv 3).toInt := congrArg Int32.toInt ((fM_call (fM_call (fM_call (fM_call (fM_call (fM_put (fM_rf [0, 2] _) efv_1 (by decide)) fr_18 (by decide)) fr_28 (by decide)) fr_38 (by decide)) fr_48 (by decide)) fr_58 (by decide)) 3 rfl); have q_fv_55_6 : (fv_55 6).toInt = (fv 6).toInt := congrArg Int32.toInt ((fM_call (fM_call (fM_call (fM_call (fM_call (fM_put (fM_rf [0, 2] _) efv_1 (by decide)) fr_18 (by decide)) fr_28 (by decide)) fr_38 (by decide)) fr_48 (by decide)) fr_58 (by decide)) 6 rfl); have q_fv_55_34 : (fv_55 34).toInt = (fv 34).toInt := congrArg Int32.toInt ((fM_call (fM_call (fM_call (fM_call (fM_call (fM_put (fM_rf [0, 2] _) efv_1 (by decide)) fr_18 (by decide)) fr_28 (by decide)) fr_38 (by decide)) fr_48 (by decide)) fr_58 (by decide)) 34 rfl); have q_fv_55_35 : (fv_55 35).toInt = (fv 35).toInt := congrArg Int32.toInt ((fM_call (fM_call (fM_call (fM_call (fM_call (fM_put (fM_rf [0, 2] _) efv_1 (by decide)) fr_18 (by decide)) fr_28 (by decide)) fr_38 (by decide)) fr_48 (by decide)) fr_58 (by decide)) 35 rfl); exact Or.inr ⟨by omega, by rw [p_54, p_44, p_34, p_24, p_14, show (fv_1 2).toInt.toNat = (fv 2).toInt.toNat from (by omega), show (fv_15 2).toInt.toNat = (fv 2).toInt.toNat + 4 from (by omega), show (fv_25 2).toInt.toNat = (fv 2).toInt.toNat + 8 from (by omega), show (fv_35 2).toInt.toNat = (fv 2).toInt.toNat + 12 from (by omega), show (fv_45 2).toInt.toNat = (fv 2).toInt.toNat + 16 from (by omega)]; rfl⟩), trivial⟩, ⟨by rw [ht]; exact hP, va_K.moved hW.alike hK⟩⟩, hS.F ht⟩) hS.2.2 dX12_feed_51
  · skip
    have i_61 : 341 ≤ v_3.toInt ∧ v_3.toInt ≤ 360 := iv_lt2 (⟨by decide, by decide⟩ : (340 : Int) ≤ (340 : Int32).toInt ∧ (340 : Int32).toInt ≤ 340) t_4.2 (Int32.not_le.mp c_6)
    refine lv_iconst (v := (-1)) hx hb dX12_feed_18 (by decide) ?_
    have z_62 : ((-1) : Int32).toInt = (-1) := by decide
    exact W.iret (v := (-1)) hx hb hr (fun t ht hW => ⟨⟨(-1), (fv_1, wd, ar), rfl, ⟨hF_fv_1, hA_ar, (fM_put (fM_rf [0, 2] _) efv_1 (by decide)), (fA_rf [1] _), (show ps_feed ((-1) : Int32) (fv_1 2) (fv 2) from by have q_fv_1_33 : (fv_1 33).toInt = (fv 33).toInt := congrArg Int32.toInt ((fM_put (fM_rf [0] _) efv_1 (by decide)) 33 rfl); have q_fv_1_3 : (fv_1 3).toInt = (fv 3).toInt := congrArg Int32.toInt ((fM_put (fM_rf [0] _) efv_1 (by decide)) 3 rfl); have q_fv_1_6 : (fv_1 6).toInt = (fv 6).toInt := congrArg Int32.toInt ((fM_put (fM_rf [0] _) efv_1 (by decide)) 6 rfl); have q_fv_1_34 : (fv_1 34).toInt = (fv 34).toInt := congrArg Int32.toInt ((fM_put (fM_rf [0] _) efv_1 (by decide)) 34 rfl); have q_fv_1_35 : (fv_1 35).toInt = (fv 35).toInt := congrArg Int32.toInt ((fM_put (fM_rf [0] _) efv_1 (by decide)) 35 rfl); have q_fv_1_2 : (fv_1 2).toInt = (fv 2).toInt := congrArg Int32.toInt ((fM_put (fM_rf [0] _) efv_1 (by decide)) 2 rfl); exact Or.inl ⟨rfl, (congrFun efv_1 2), by omega⟩), (show wt_tpU (ar 1) (ar 1) (fv 2) a b v d f from by have q_fv_1_33 : (fv_1 33).toInt = (fv 33).toInt := congrArg Int32.toInt ((fM_put (fM_rf [0] _) efv_1 (by decide)) 33 rfl); have q_fv_1_3 : (fv_1 3).toInt = (fv 3).toInt := congrArg Int32.toInt ((fM_put (fM_rf [0] _) efv_1 (by decide)) 3 rfl); have q_fv_1_6 : (fv_1 6).toInt = (fv 6).toInt := congrArg Int32.toInt ((fM_put (fM_rf [0] _) efv_1 (by decide)) 6 rfl); have q_fv_1_34 : (fv_1 34).toInt = (fv 34).toInt := congrArg Int32.toInt ((fM_put (fM_rf [0] _) efv_1 (by decide)) 34 rfl); have q_fv_1_35 : (fv_1 35).toInt = (fv 35).toInt := congrArg Int32.toInt ((fM_put (fM_rf [0] _) efv_1 (by decide)) 35 rfl); have q_fv_1_2 : (fv_1 2).toInt = (fv 2).toInt := congrArg Int32.toInt ((fM_put (fM_rf [0] _) efv_1 (by decide)) 2 rfl); exact Or.inl ⟨by omega, rfl⟩), trivial⟩, ⟨by rw [ht]; exact hP, va_K.moved hW.alike hK⟩⟩, hS.F ht⟩) hS.2.2 dX12_feed_19
set_option maxHeartbeats 4000000 in
set_option maxRecDepth 100000 in
theorem m_twoC (l : Launch) (dC : Nat → ClassId) (dI : Nat → Nat → Nat) (sz h : Nat) (ad : Nat → Nat) (cA : Nat → ClassId) (hd : dM h ad) (fv : Nat → Int32) (wd : Int64) (ar : Nat → Nat → Int32) (hF_fv : rF fv) (hA_ar : rA ar) (a : Int32) (h_a : 0 ≤ a.toInt ∧ a.toInt ≤ 5) : Met l yX12_two (.code yX12_two cX12_two 2 (some .int) :: lw_good) ({ frames := 2, cells := 0, slots := 0, locals := 40 }) (va_Pc [.ref h, .int a] (prM dC dI h ad cA fv wd ar sz)) (va_Qi (fun (r : Int32) (u : mS) => rF u.1 ∧ rA u.2.2 ∧ fM [] fv u.1 ∧ fA [] ar u.2.2 ∧ (0 ≤ r.toInt ∧ r.toInt ≤ 65535) ∧ (r.toInt = wt_pr (ar 1) a.toInt.toNat) ∧ True) (enM dC dI h ad cA) (aM h ad sz)) 0 0 (aM h ad sz) := by
  refine Met.ofW (cc := cX12_two) (maxL := 2) (ret := (some .int)) (by decide) rfl ?_
  intro p e s m args below meth c s₁ B hml hv
  obtain ⟨rfl, hsz, hP, hK⟩ := hv
  have hx := B.exec
  have hb := B.bytes
  have hr := B.returns
  have hts := atoms_spec (ws := (.code yX12_two cX12_two 2 (some .int) :: lw_good)) B.pre
  have htg : ∀ w ∈ lw_good, w.before _ s = true := fun w hw => hts w (List.mem_cons_of_mem _ hw)
  have hown : s.vm.findClass RX12 = some m.cls := findClass_of_methodNamed B.named
  have hlocks := B.notSynchronized
  subst hsz
  have hS : va_S (aM h ad s.heap.size) s.heap s.heap [] := va_S.rf
  have hl := lv_entry ([.ref h, .int a]) (n := 2) (Nat.le_of_ble_eq_true rfl)
  rw [lg_entry_eq]
  generalize (lg_sl ([.ref h, .int a]) ++ List.replicate (2 - (lg_sl ([.ref h, .int a])).length) Slot.unset).toArray = ls at hl ⊢
  have hl : lv_has ls 2 [(0, .ref h), (1, .int a)] := hl
  refine lv_sipush (v := 256) hx hb dX12_two_0 (by decide) ?_
  refine lv_aload_n hx hb dX12_two_3 rfl (lv_at hl 0 rfl) ?_
  refine gM_1 hx hb htg hown hK hP dX12_two_4 ?_
  refine lv_iconst (v := 2) hx hb dX12_two_7 (by decide) ?_
  refine lv_iload_n hx hb dX12_two_8 rfl (lv_at hl 1 rfl) ?_
  refine lv_imul hx hb dX12_two_9 ?_
  refine lv_topi (fun v_1 ev_1 => ?_)
  have t_2 : v_1.toInt = 2 * a.toInt ∧ 0 ≤ v_1.toInt ∧ v_1.toInt ≤ 10 := iv_mulc ev_1 h_a (by decide) (by decide) (by decide) (by decide)
  refine lM_1 hx hb hK hP (iv_in t_2.2 (by decide) (by decide)) dX12_two_10 (fun v_4 ev_4 => ?_)
  have i_5 : 0 ≤ v_4.toInt ∧ v_4.toInt ≤ 255 := ev_4 ▸ hA_ar 1 _
  refine lv_imul hx hb dX12_two_11 ?_
  refine lv_topi (fun v_6 ev_6 => ?_)
  have t_7 : v_6.toInt = 256 * v_4.toInt ∧ 0 ≤ v_6.toInt ∧ v_6.toInt ≤ 65280 := iv_mulc ev_6 i_5 (by decide) (by decide) (by decide) (by decide)
  refine lv_aload_n hx hb dX12_two_12 rfl (lv_at hl 0 rfl) ?_
  refine gM_1 hx hb htg hown hK hP dX12_two_13 ?_
  refine lv_iconst (v := 2) hx hb dX12_two_16 (by decide) ?_
  refine lv_iload_n hx hb dX12_two_17 rfl (lv_at hl 1 rfl) ?_
  refine lv_imul hx hb dX12_two_18 ?_
  refine my_ti (y := v_1) ev_1.symm ?_
  refine lv_iconst (v := 1) hx hb dX12_two_19 (by decide) ?_
  refine lv_iadd hx hb dX12_two_20 ?_
  refine lv_topi (fun v_9 ev_9 => ?_)
  have t_10 : v_9.toInt = v_1.toInt + 1 ∧ 1 ≤ v_9.toInt ∧ v_9.toInt ≤ 11 := iv_addc ev_9 t_2.2 (by decide) (by decide) (by decide)
  refine lM_1 hx hb hK hP (iv_in t_10.2 (by decide) (by decide)) dX12_two_21 (fun v_12 ev_12 => ?_)
  have i_13 : 0 ≤ v_12.toInt ∧ v_12.toInt ≤ 255 := ev_12 ▸ hA_ar 1 _
  refine lv_iadd hx hb dX12_two_22 ?_
  refine lv_topi (fun v_14 ev_14 => ?_)
  have t_15 : v_14.toInt = v_6.toInt + v_12.toInt ∧ 0 ≤ v_14.toInt ∧ v_14.toInt ≤ 65535 := iv_add ev_14 t_7.2 i_13 (by decide) (by decide)
  exact W.iret (v := v_14) hx hb hr (fun t ht hW => ⟨⟨v_14, (fv, wd, ar), rfl, ⟨hF_fv, hA_ar, (fM_rf [] _), (fA_rf [] _), t_15.2, (show v_14.toInt = wt_pr (ar 1) a.toInt.toNat from by have h1 : v_4 = ar 1 (2 * a.toInt.toNat) := (by rw [ev_4]; show ar 1 (v_1.toInt.toNat) = _; rw [show v_1.toInt.toNat = 2 * a.toInt.toNat from (by omega)]); have h2 : v_12 = ar 1 (2 * a.toInt.toNat + 1) := (by rw [ev_12]; show ar 1 (v_9.toInt.toNat) = _; rw [show v_9.toInt.toNat = 2 * a.toInt.toNat + 1 from (by omega)]); unfold wt_pr; rw [← h1, ← h2]; omega), trivial⟩, ⟨by rw [ht]; exact hP, va_K.moved hW.alike hK⟩⟩, hS.F ht⟩) hS.2.2 dX12_two_23
set_option maxHeartbeats 4000000 in
set_option maxRecDepth 100000 in
theorem m_personC (l : Launch) (dC : Nat → ClassId) (dI : Nat → Nat → Nat) (sz h : Nat) (ad : Nat → Nat) (cA : Nat → ClassId) (hd : dM h ad) (fv : Nat → Int32) (wd : Int64) (ar : Nat → Nat → Int32) (hF_fv : rF fv) (hA_ar : rA ar) (a : Int32) (b : Int32) (v : Int32) : Met l yX12_person (.code yX12_person cX12_person 5 (some .int) :: lw_good) ({ frames := 3, cells := 0, slots := 0, locals := 62 }) (va_Pc [.ref h, .int a, .int b, .int v] (prM dC dI h ad cA fv wd ar sz)) (va_Qi (fun (r : Int32) (u : mS) => rF u.1 ∧ rA u.2.2 ∧ fM [0, 2, 32] fv u.1 ∧ fA [9, 10, 11, 12, 13, 14, 15, 16, 17, 72] ar u.2.2 ∧ (wt_person r (u.1 32) (fv 32) (fv 2) (ar 1) a b v) ∧ ((u.1 2).toInt = 0) ∧ True) (enM dC dI h ad cA) (aM h ad sz)) 0 0 (aM h ad sz) := by
  refine Met.ofW (cc := cX12_person) (maxL := 5) (ret := (some .int)) (by decide) rfl ?_
  intro p e s m args below meth c s₁ B hml hv
  obtain ⟨rfl, hsz, hP, hK⟩ := hv
  have hx := B.exec
  have hb := B.bytes
  have hr := B.returns
  have hts := atoms_spec (ws := (.code yX12_person cX12_person 5 (some .int) :: lw_good)) B.pre
  have htg : ∀ w ∈ lw_good, w.before _ s = true := fun w hw => hts w (List.mem_cons_of_mem _ hw)
  have hown : s.vm.findClass RX12 = some m.cls := findClass_of_methodNamed B.named
  have hlocks := B.notSynchronized
  subst hsz
  have hS : va_S (aM h ad s.heap.size) s.heap s.heap [] := va_S.rf
  have hl := lv_entry ([.ref h, .int a, .int b, .int v]) (n := 5) (Nat.le_of_ble_eq_true rfl)
  rw [lg_entry_eq]
  generalize (lg_sl ([.ref h, .int a, .int b, .int v]) ++ List.replicate (5 - (lg_sl ([.ref h, .int a, .int b, .int v])).length) Slot.unset).toArray = ls at hl ⊢
  have hl : lv_has ls 5 [(0, .ref h), (1, .int a), (2, .int b), (3, .int v)] := hl
  have zc0 : (0 : Int32).toInt = 0 := by decide
  have zc1 : (1 : Int32).toInt = 1 := by decide
  have zc10 : (10 : Int32).toInt = 10 := by decide
  have zc99 : (99 : Int32).toInt = 99 := by decide
  have zc200 : (200 : Int32).toInt = 200 := by decide
  have zc9999 : (9999 : Int32).toInt = 9999 := by decide
  have zcm1 : ((-1) : Int32).toInt = (-1) := by decide
  refine lv_aload_n hx hb dX12_person_0 rfl (lv_at hl 0 rfl) ?_
  refine lv_iconst (v := 0) hx hb dX12_person_1 (by decide) ?_
  refine pM_0 hx hb htg hown hK hP hS hd dX12_person_2 (fun H locs fv_1 efv_1 hP hS => ?_)
  have hF_fv_1 : rF fv_1 := rF_put hF_fv efv_1 (iv_any _)
  refine lv_aload_n hx hb dX12_person_5 rfl (lv_at hl 0 rfl) ?_
  refine va_calli (va_runV (As := []) (rest := []) ⟨hx, hb, hml, hown, hts⟩ (m_takeD l dC dI H.size h ad cA hd fv_1 wd ar hF_fv_1 hA_ar) (cwV 0 hts (gV kw_8_5 kw_8_7 kw_p_60 kw_1_15 kw_8_8) rfl rfl rfl (by decide +kernel) ⟨Nat.le_of_ble_eq_true rfl, Nat.le_of_ble_eq_true rfl⟩) ⟨fun a U g mk q => ⟨q.1, q.2.1, q.2.2.1, va_K.moved (u := U) (U := U.calling g mk a) (Vm.Alike.refl U.vm) q.2.2.2⟩, va_recv hK hP (ci := 12) (q0 := 0) rfl rfl, fun U hU hW => ⟨rfl, by rw [hU], by rw [hU]; exact hP, va_K.moved hW.alike hK⟩⟩ rfl rfl hl.1 rfl (lv_room (Nat.le_of_ble_eq_true rfl)) dX12_person_6 ⟨Nat.le_of_ble_eq_true rfl, Nat.le_of_ble_eq_true rfl⟩) hS (fun q _ h9 => aM_up hS q h9) (aM_up hS) (fun r_2 u t H1 locs ht _ hw hB _ hk1 hS => ?_)
  obtain ⟨fv_6, wd_7, ar_8⟩ := u
  obtain ⟨hF_fv_6, hA_ar_8, fr_9, fa_10, p_3, p_4, p_5, -⟩ := hw
  have hP : va_P (dC, dI) vwCl (wsM h ad cA fv_6 wd_7 ar_8) H1 := by have h9 := hB.1; rw [ht] at h9; exact h9
  have fr_9 : fM [2] fv_1 fv_6 := fr_9
  have fa_10 : fA [] ar ar_8 := fa_10
  have p_4 : r_2 = fv_1 2 := p_4
  have p_5 : (fv_6 2).toInt = 0 := p_5
  generalize H1 = H at hP hS ⊢
  have k_11 : r_2 = fv 2 := (p_4).trans (((fM_put (fM_rf [0] _) efv_1 (by decide)) 2 rfl))
  refine lv_istore (lv' := [(4, .int r_2), (0, .ref h), (1, .int a), (2, .int b), (3, .int v)]) hx hb dX12_person_9 hl (by decide) rfl (fun ls hl => ?_)
  refine lv_aload_n hx hb dX12_person_11 rfl (lv_at hl 1 rfl) ?_
  refine gM_32 hx hb htg hown hK hP dX12_person_12 ?_
  refine my_ti (y := fv 32) ((fr_9 32 rfl).trans ((congrFun efv_1 32))) ?_
  have i_12 : 0 ≤ (fv 32).toInt ∧ (fv 32).toInt ≤ 40 := hF_fv 32
  refine lv_bipush (v := 40) hx hb dX12_person_15 (by decide) ?_
  refine lv_icmp_eq (tgt := 52) hx hb dX12_person_17 (by decide) (fun c_13 => ?_) (fun c_13 => ?_)
  · skip
    have i_14 : 40 ≤ (fv 32).toInt ∧ (fv 32).toInt ≤ 40 := iv_eq1 (⟨by decide, by decide⟩ : (40 : Int) ≤ (40 : Int32).toInt ∧ (40 : Int32).toInt ≤ 40) c_13
    refine lv_iconst (v := (-1)) hx hb dX12_person_52 (by decide) ?_
    have z_16 : ((-1) : Int32).toInt = (-1) := by decide
    exact W.iret (v := (-1)) hx hb hr (fun t ht hW => ⟨⟨(-1), (fv_6, wd_7, ar_8), rfl, ⟨hF_fv_6, hA_ar_8, (fM_call (fM_put (fM_rf [0, 2, 32] _) efv_1 (by decide)) fr_9 (by decide)), (fA_call (fA_rf [9, 10, 11, 12, 13, 14, 15, 16, 17, 72] _) fa_10 (by decide)), (show wt_person ((-1) : Int32) (fv_6 32) (fv 32) (fv 2) (ar 1) a b v from by have q_fv_1 : (fv_1 32).toInt = (fv 32).toInt := congrArg Int32.toInt ((fM_put (fM_rf [0] _) efv_1 (by decide)) 32 rfl); have q_fv_6 : (fv_6 32).toInt = (fv 32).toInt := congrArg Int32.toInt ((fM_call (fM_put (fM_rf [0, 2] _) efv_1 (by decide)) fr_9 (by decide)) 32 rfl); exact Or.inl ⟨rfl, (fr_9 32 rfl).trans ((congrFun efv_1 32)), by omega⟩), (show (fv_6 2).toInt = 0 from by rw [show fv_6 2 = (fv_6 2) from rfl]; omega), trivial⟩, ⟨by rw [ht]; exact hP, va_K.moved hW.alike hK⟩⟩, hS.F ht⟩) hS.2.2 dX12_person_53
  · skip
    have i_17 : 0 ≤ (fv 32).toInt ∧ (fv 32).toInt ≤ 39 := iv_neh i_12 (by decide) c_13
    have k_18 : ¬ (fv 32).toInt = 40 := fun q => c_13 (Int32.toInt_inj.mp q)
    refine lv_iload_n hx hb dX12_person_20 rfl (lv_at hl 2 rfl) ?_
    refine va_calli (va_runS (As := [.int a]) (rest := []) ⟨hx, hb, hml, hown, hts⟩ (m_isCorner l H.size a) (va_cwS 1 hts (gS kw_7_225 kw_7_226 kw_1_15 kw_7_227) rfl rfl rfl (by decide +kernel) ⟨Nat.le_of_ble_eq_true rfl, Nat.le_of_ble_eq_true rfl⟩) ⟨fun a U g mk q => ⟨q.1, q.2⟩, fun U hU hW => ⟨rfl, congrArg Array.size hU⟩⟩ rfl rfl hl.1 rfl (lv_room (Nat.le_of_ble_eq_true rfl)) dX12_person_21 ⟨Nat.le_of_ble_eq_true rfl, Nat.le_of_ble_eq_true rfl⟩) hS (fun q _ h9 => nM_up hS q h9) (nM_up hS) (fun r_19 u t H1 locs ht _ hw hB _ hk1 hS => ?_)
    obtain ⟨p_20, p_21, -⟩ := hw
    have hP := my_keepM hP hk1
    generalize H1 = H at hP hS ⊢
    rcases p_21 with ⟨rfl, p_21⟩ | ⟨rfl, p_21⟩
    · skip
      refine lv_if_eq (tgt := 52) hx hb dX12_person_24 (by decide) (fun c_22 => ?_) (fun c_22 => ?_)
      · skip
        refine lv_iconst (v := (-1)) hx hb dX12_person_52 (by decide) ?_
        have z_23 : ((-1) : Int32).toInt = (-1) := by decide
        exact W.iret (v := (-1)) hx hb hr (fun t ht hW => ⟨⟨(-1), (fv_6, wd_7, ar_8), rfl, ⟨hF_fv_6, hA_ar_8, (fM_call (fM_put (fM_rf [0, 2, 32] _) efv_1 (by decide)) fr_9 (by decide)), (fA_call (fA_rf [9, 10, 11, 12, 13, 14, 15, 16, 17, 72] _) fa_10 (by decide)), (show wt_person ((-1) : Int32) (fv_6 32) (fv 32) (fv 2) (ar 1) a b v from by have q_fv_1 : (fv_1 32).toInt = (fv 32).toInt := congrArg Int32.toInt ((fM_put (fM_rf [0] _) efv_1 (by decide)) 32 rfl); have q_fv_6 : (fv_6 32).toInt = (fv 32).toInt := congrArg Int32.toInt ((fM_call (fM_put (fM_rf [0, 2] _) efv_1 (by decide)) fr_9 (by decide)) 32 rfl); exact Or.inl ⟨rfl, (fr_9 32 rfl).trans ((congrFun efv_1 32)), by omega⟩), (show (fv_6 2).toInt = 0 from by rw [show fv_6 2 = (fv_6 2) from rfl]; omega), trivial⟩, ⟨by rw [ht]; exact hP, va_K.moved hW.alike hK⟩⟩, hS.F ht⟩) hS.2.2 dX12_person_53
      · skip
        exact absurd c_22 (by decide)
    · skip
      have i_24 : 0 ≤ a.toInt ∧ a.toInt ≤ 2147483647 := ⟨p_21.1, (iv_any a).2⟩
      have i_25 : 0 ≤ a.toInt ∧ a.toInt ≤ 11 := ⟨i_24.1, p_21.2⟩
      refine lv_if_eq (tgt := 52) hx hb dX12_person_24 (by decide) (fun c_26 => ?_) (fun c_26 => ?_)
      · skip
        exact absurd c_26 (by decide)
      · skip
        refine lv_iload_n hx hb dX12_person_27 rfl (lv_at hl 3 rfl) ?_
        refine va_calli (va_runS (As := [.int b]) (rest := []) ⟨hx, hb, hml, hown, hts⟩ (m_isCorner l H.size b) (va_cwS 1 hts (gS kw_7_225 kw_7_226 kw_1_15 kw_7_227) rfl rfl rfl (by decide +kernel) ⟨Nat.le_of_ble_eq_true rfl, Nat.le_of_ble_eq_true rfl⟩) ⟨fun a U g mk q => ⟨q.1, q.2⟩, fun U hU hW => ⟨rfl, congrArg Array.size hU⟩⟩ rfl rfl hl.1 rfl (lv_room (Nat.le_of_ble_eq_true rfl)) dX12_person_28 ⟨Nat.le_of_ble_eq_true rfl, Nat.le_of_ble_eq_true rfl⟩) hS (fun q _ h9 => nM_up hS q h9) (nM_up hS) (fun r_27 u t H1 locs ht _ hw hB _ hk1 hS => ?_)
        obtain ⟨p_28, p_29, -⟩ := hw
        have hP := my_keepM hP hk1
        generalize H1 = H at hP hS ⊢
        rcases p_29 with ⟨rfl, p_29⟩ | ⟨rfl, p_29⟩
        · skip
          refine lv_if_eq (tgt := 52) hx hb dX12_person_31 (by decide) (fun c_30 => ?_) (fun c_30 => ?_)
          · skip
            refine lv_iconst (v := (-1)) hx hb dX12_person_52 (by decide) ?_
            have z_31 : ((-1) : Int32).toInt = (-1) := by decide
            exact W.iret (v := (-1)) hx hb hr (fun t ht hW => ⟨⟨(-1), (fv_6, wd_7, ar_8), rfl, ⟨hF_fv_6, hA_ar_8, (fM_call (fM_put (fM_rf [0, 2, 32] _) efv_1 (by decide)) fr_9 (by decide)), (fA_call (fA_rf [9, 10, 11, 12, 13, 14, 15, 16, 17, 72] _) fa_10 (by decide)), (show wt_person ((-1) : Int32) (fv_6 32) (fv 32) (fv 2) (ar 1) a b v from by have q_fv_1 : (fv_1 32).toInt = (fv 32).toInt := congrArg Int32.toInt ((fM_put (fM_rf [0] _) efv_1 (by decide)) 32 rfl); have q_fv_6 : (fv_6 32).toInt = (fv 32).toInt := congrArg Int32.toInt ((fM_call (fM_put (fM_rf [0, 2] _) efv_1 (by decide)) fr_9 (by decide)) 32 rfl); exact Or.inl ⟨rfl, (fr_9 32 rfl).trans ((congrFun efv_1 32)), by omega⟩), (show (fv_6 2).toInt = 0 from by rw [show fv_6 2 = (fv_6 2) from rfl]; omega), trivial⟩, ⟨by rw [ht]; exact hP, va_K.moved hW.alike hK⟩⟩, hS.F ht⟩) hS.2.2 dX12_person_53
          · skip
            exact absurd c_30 (by decide)
        · skip
          have i_32 : 0 ≤ b.toInt ∧ b.toInt ≤ 2147483647 := ⟨p_29.1, (iv_any b).2⟩
          have i_33 : 0 ≤ b.toInt ∧ b.toInt ≤ 11 := ⟨i_32.1, p_29.2⟩
          refine lv_if_eq (tgt := 52) hx hb dX12_person_31 (by decide) (fun c_34 => ?_) (fun c_34 => ?_)
          · skip
            exact absurd c_34 (by decide)
          · skip
            refine lv_iload_n hx hb dX12_person_34 rfl (lv_at hl 4 rfl) ?_
            refine lv_iconst (v := 0) hx hb dX12_person_35 (by decide) ?_
            refine lv_sipush (v := 9999) hx hb dX12_person_36 (by decide) ?_
            refine va_calli (va_runS (As := [.int v, .int 0, .int 9999]) (rest := []) ⟨hx, hb, hml, hown, hts⟩ (m_isIn l H.size v 0 9999) (va_cwS 3 hts (gS kw_7_218 kw_7_219 kw_1_15 kw_7_220) rfl rfl rfl (by decide +kernel) ⟨Nat.le_of_ble_eq_true rfl, Nat.le_of_ble_eq_true rfl⟩) ⟨fun a U g mk q => ⟨q.1, q.2⟩, fun U hU hW => ⟨rfl, congrArg Array.size hU⟩⟩ rfl rfl hl.1 rfl (lv_room (Nat.le_of_ble_eq_true rfl)) dX12_person_39 ⟨Nat.le_of_ble_eq_true rfl, Nat.le_of_ble_eq_true rfl⟩) hS (fun q _ h9 => nM_up hS q h9) (nM_up hS) (fun r_35 u t H1 locs ht _ hw hB _ hk1 hS => ?_)
            obtain ⟨p_36, p_37, -⟩ := hw
            have hP := my_keepM hP hk1
            generalize H1 = H at hP hS ⊢
            rcases p_37 with ⟨rfl, p_37⟩ | ⟨rfl, p_37⟩
            · skip
              refine lv_if_eq (tgt := 52) hx hb dX12_person_42 (by decide) (fun c_38 => ?_) (fun c_38 => ?_)
              · skip
                refine lv_iconst (v := (-1)) hx hb dX12_person_52 (by decide) ?_
                have z_39 : ((-1) : Int32).toInt = (-1) := by decide
                exact W.iret (v := (-1)) hx hb hr (fun t ht hW => ⟨⟨(-1), (fv_6, wd_7, ar_8), rfl, ⟨hF_fv_6, hA_ar_8, (fM_call (fM_put (fM_rf [0, 2, 32] _) efv_1 (by decide)) fr_9 (by decide)), (fA_call (fA_rf [9, 10, 11, 12, 13, 14, 15, 16, 17, 72] _) fa_10 (by decide)), (show wt_person ((-1) : Int32) (fv_6 32) (fv 32) (fv 2) (ar 1) a b v from by have q_fv_1 : (fv_1 32).toInt = (fv 32).toInt := congrArg Int32.toInt ((fM_put (fM_rf [0] _) efv_1 (by decide)) 32 rfl); have q_fv_6 : (fv_6 32).toInt = (fv 32).toInt := congrArg Int32.toInt ((fM_call (fM_put (fM_rf [0, 2] _) efv_1 (by decide)) fr_9 (by decide)) 32 rfl); exact Or.inl ⟨rfl, (fr_9 32 rfl).trans ((congrFun efv_1 32)), by omega⟩), (show (fv_6 2).toInt = 0 from by rw [show fv_6 2 = (fv_6 2) from rfl]; omega), trivial⟩, ⟨by rw [ht]; exact hP, va_K.moved hW.alike hK⟩⟩, hS.F ht⟩) hS.2.2 dX12_person_53
              · skip
                exact absurd c_38 (by decide)
            · skip
              have i_40 : 0 ≤ v.toInt ∧ v.toInt ≤ 2147483647 := iv_le2 (⟨by decide, by decide⟩ : (0 : Int) ≤ (0 : Int32).toInt ∧ (0 : Int32).toInt ≤ 0) (iv_any v) (Int32.le_iff_toInt_le.mpr p_37.1)
              have i_41 : 0 ≤ v.toInt ∧ v.toInt ≤ 9999 := iv_le1 i_40 (⟨by decide, by decide⟩ : (9999 : Int) ≤ (9999 : Int32).toInt ∧ (9999 : Int32).toInt ≤ 9999) (Int32.le_iff_toInt_le.mpr p_37.2)
              refine lv_if_eq (tgt := 52) hx hb dX12_person_42 (by decide) (fun c_42 => ?_) (fun c_42 => ?_)
              · skip
                exact absurd c_42 (by decide)
              · skip
                refine lv_iload hx hb dX12_person_45 (lv_at hl 0 rfl) ?_
                refine lv_bipush (v := 12) hx hb dX12_person_47 (by decide) ?_
                refine lv_icmp_eq (tgt := 54) hx hb dX12_person_49 (by decide) (fun c_43 => ?_) (fun c_43 => ?_)
                · skip
                  have i_44 : 12 ≤ r_2.toInt ∧ r_2.toInt ≤ 12 := iv_eq1 (⟨by decide, by decide⟩ : (12 : Int) ≤ (12 : Int32).toInt ∧ (12 : Int32).toInt ≤ 12) c_43
                  refine lv_aload_n hx hb dX12_person_54 rfl (lv_at hl 1 rfl) ?_
                  refine lv_iconst (v := 0) hx hb dX12_person_55 (by decide) ?_
                  refine va_calli (va_runV (As := [.int 0]) (rest := []) ⟨hx, hb, hml, hown, hts⟩ (m_twoC l dC dI H.size h ad cA hd fv_6 wd_7 ar_8 hF_fv_6 hA_ar_8 0 (iv_w (⟨by decide, by decide⟩ : (0 : Int) ≤ (0 : Int32).toInt ∧ (0 : Int32).toInt ≤ 0) (by decide) (by decide))) (cwV 1 hts (gV kw_8_24 kw_8_26 kw_p_62 kw_1_15 kw_8_27) rfl rfl rfl (by decide +kernel) ⟨Nat.le_of_ble_eq_true rfl, Nat.le_of_ble_eq_true rfl⟩) ⟨fun a U g mk q => ⟨q.1, q.2.1, q.2.2.1, va_K.moved (u := U) (U := U.calling g mk a) (Vm.Alike.refl U.vm) q.2.2.2⟩, va_recv hK hP (ci := 12) (q0 := 0) rfl rfl, fun U hU hW => ⟨rfl, by rw [hU], by rw [hU]; exact hP, va_K.moved hW.alike hK⟩⟩ rfl rfl hl.1 rfl (lv_room (Nat.le_of_ble_eq_true rfl)) dX12_person_56 ⟨Nat.le_of_ble_eq_true rfl, Nat.le_of_ble_eq_true rfl⟩) hS (fun q _ h9 => aM_up hS q h9) (aM_up hS) (fun r_46 u t H1 locs ht _ hw hB _ hk1 hS => ?_)
                  obtain ⟨fv_49, wd_50, ar_51⟩ := u
                  obtain ⟨hF_fv_49, hA_ar_51, fr_52, fa_53, p_47, p_48, -⟩ := hw
                  have hP : va_P (dC, dI) vwCl (wsM h ad cA fv_49 wd_50 ar_51) H1 := by have h9 := hB.1; rw [ht] at h9; exact h9
                  have fr_52 : fM [] fv_6 fv_49 := fr_52
                  have fa_53 : fA [] ar_8 ar_51 := fa_53
                  have p_48 : r_46.toInt = wt_pr (ar_8 1) (0 : Int32).toInt.toNat := p_48
                  generalize H1 = H at hP hS ⊢
                  have k_54 : r_46.toInt = wt_pr (ar 1) 0 := by have h9 := p_48; rw [show ar_8 1 = ar 1 from ((fA_call (fA_rf [] _) fa_10 (by decide)) 1 rfl), show (0 : Int32).toInt.toNat = 0 from (by decide)] at h9; exact h9
                  refine lv_sipush (v := 600) hx hb dX12_person_59 (by decide) ?_
                  refine lv_icmp_gt (tgt := 122) hx hb dX12_person_62 (by decide) (fun c_55 => ?_) (fun c_55 => ?_)
                  · skip
                    have i_56 : 601 ≤ r_46.toInt ∧ r_46.toInt ≤ 65535 := iv_lt2 (⟨by decide, by decide⟩ : (600 : Int) ≤ (600 : Int32).toInt ∧ (600 : Int32).toInt ≤ 600) p_47 c_55
                    refine lv_iconst (v := (-1)) hx hb dX12_person_122 (by decide) ?_
                    have z_57 : ((-1) : Int32).toInt = (-1) := by decide
                    exact W.iret (v := (-1)) hx hb hr (fun t ht hW => ⟨⟨(-1), (fv_49, wd_50, ar_51), rfl, ⟨hF_fv_49, hA_ar_51, (fM_call (fM_call (fM_put (fM_rf [0, 2, 32] _) efv_1 (by decide)) fr_9 (by decide)) fr_52 (by decide)), (fA_call (fA_call (fA_rf [9, 10, 11, 12, 13, 14, 15, 16, 17, 72] _) fa_10 (by decide)) fa_53 (by decide)), (show wt_person ((-1) : Int32) (fv_49 32) (fv 32) (fv 2) (ar 1) a b v from by have q_fv_1 : (fv_1 32).toInt = (fv 32).toInt := congrArg Int32.toInt ((fM_put (fM_rf [0] _) efv_1 (by decide)) 32 rfl); have q_fv_6 : (fv_6 32).toInt = (fv 32).toInt := congrArg Int32.toInt ((fM_call (fM_put (fM_rf [0, 2] _) efv_1 (by decide)) fr_9 (by decide)) 32 rfl); exact Or.inl ⟨rfl, (fr_52 32 rfl).trans ((fr_9 32 rfl).trans ((congrFun efv_1 32))), by omega⟩), (show (fv_49 2).toInt = 0 from by rw [show fv_49 2 = (fv_6 2) from (fr_52 2 rfl)]; omega), trivial⟩, ⟨by rw [ht]; exact hP, va_K.moved hW.alike hK⟩⟩, hS.F ht⟩) hS.2.2 dX12_person_123
                  · skip
                    have i_58 : 0 ≤ r_46.toInt ∧ r_46.toInt ≤ 600 := iv_le1 p_47 (⟨by decide, by decide⟩ : (600 : Int) ≤ (600 : Int32).toInt ∧ (600 : Int32).toInt ≤ 600) (Int32.not_lt.mp c_55)
                    refine lv_aload_n hx hb dX12_person_65 rfl (lv_at hl 1 rfl) ?_
                    refine lv_iconst (v := 1) hx hb dX12_person_66 (by decide) ?_
                    refine va_calli (va_runV (As := [.int 1]) (rest := []) ⟨hx, hb, hml, hown, hts⟩ (m_twoC l dC dI H.size h ad cA hd fv_49 wd_50 ar_51 hF_fv_49 hA_ar_51 1 (iv_w (⟨by decide, by decide⟩ : (1 : Int) ≤ (1 : Int32).toInt ∧ (1 : Int32).toInt ≤ 1) (by decide) (by decide))) (cwV 1 hts (gV kw_8_24 kw_8_26 kw_p_62 kw_1_15 kw_8_27) rfl rfl rfl (by decide +kernel) ⟨Nat.le_of_ble_eq_true rfl, Nat.le_of_ble_eq_true rfl⟩) ⟨fun a U g mk q => ⟨q.1, q.2.1, q.2.2.1, va_K.moved (u := U) (U := U.calling g mk a) (Vm.Alike.refl U.vm) q.2.2.2⟩, va_recv hK hP (ci := 12) (q0 := 0) rfl rfl, fun U hU hW => ⟨rfl, by rw [hU], by rw [hU]; exact hP, va_K.moved hW.alike hK⟩⟩ rfl rfl hl.1 rfl (lv_room (Nat.le_of_ble_eq_true rfl)) dX12_person_67 ⟨Nat.le_of_ble_eq_true rfl, Nat.le_of_ble_eq_true rfl⟩) hS (fun q _ h9 => aM_up hS q h9) (aM_up hS) (fun r_59 u t H1 locs ht _ hw hB _ hk1 hS => ?_)
                    obtain ⟨fv_62, wd_63, ar_64⟩ := u
                    obtain ⟨hF_fv_62, hA_ar_64, fr_65, fa_66, p_60, p_61, -⟩ := hw
                    have hP : va_P (dC, dI) vwCl (wsM h ad cA fv_62 wd_63 ar_64) H1 := by have h9 := hB.1; rw [ht] at h9; exact h9
                    have fr_65 : fM [] fv_49 fv_62 := fr_65
                    have fa_66 : fA [] ar_51 ar_64 := fa_66
                    have p_61 : r_59.toInt = wt_pr (ar_51 1) (1 : Int32).toInt.toNat := p_61
                    generalize H1 = H at hP hS ⊢
                    have k_67 : r_59.toInt = wt_pr (ar 1) 1 := by have h9 := p_61; rw [show ar_51 1 = ar 1 from ((fA_call (fA_call (fA_rf [] _) fa_10 (by decide)) fa_53 (by decide)) 1 rfl), show (1 : Int32).toInt.toNat = 1 from (by decide)] at h9; exact h9
                    refine lv_sipush (v := 719) hx hb dX12_person_70 (by decide) ?_
                    refine lv_icmp_gt (tgt := 122) hx hb dX12_person_73 (by decide) (fun c_68 => ?_) (fun c_68 => ?_)
                    · skip
                      have i_69 : 720 ≤ r_59.toInt ∧ r_59.toInt ≤ 65535 := iv_lt2 (⟨by decide, by decide⟩ : (719 : Int) ≤ (719 : Int32).toInt ∧ (719 : Int32).toInt ≤ 719) p_60 c_68
                      refine lv_iconst (v := (-1)) hx hb dX12_person_122 (by decide) ?_
                      have z_70 : ((-1) : Int32).toInt = (-1) := by decide
                      exact W.iret (v := (-1)) hx hb hr (fun t ht hW => ⟨⟨(-1), (fv_62, wd_63, ar_64), rfl, ⟨hF_fv_62, hA_ar_64, (fM_call (fM_call (fM_call (fM_put (fM_rf [0, 2, 32] _) efv_1 (by decide)) fr_9 (by decide)) fr_52 (by decide)) fr_65 (by decide)), (fA_call (fA_call (fA_call (fA_rf [9, 10, 11, 12, 13, 14, 15, 16, 17, 72] _) fa_10 (by decide)) fa_53 (by decide)) fa_66 (by decide)), (show wt_person ((-1) : Int32) (fv_62 32) (fv 32) (fv 2) (ar 1) a b v from by have q_fv_1 : (fv_1 32).toInt = (fv 32).toInt := congrArg Int32.toInt ((fM_put (fM_rf [0] _) efv_1 (by decide)) 32 rfl); have q_fv_6 : (fv_6 32).toInt = (fv 32).toInt := congrArg Int32.toInt ((fM_call (fM_put (fM_rf [0, 2] _) efv_1 (by decide)) fr_9 (by decide)) 32 rfl); exact Or.inl ⟨rfl, (fr_65 32 rfl).trans ((fr_52 32 rfl).trans ((fr_9 32 rfl).trans ((congrFun efv_1 32)))), by omega⟩), (show (fv_62 2).toInt = 0 from by rw [show fv_62 2 = (fv_6 2) from (fr_65 2 rfl).trans ((fr_52 2 rfl))]; omega), trivial⟩, ⟨by rw [ht]; exact hP, va_K.moved hW.alike hK⟩⟩, hS.F ht⟩) hS.2.2 dX12_person_123
                    · skip
                      have i_71 : 0 ≤ r_59.toInt ∧ r_59.toInt ≤ 719 := iv_le1 p_60 (⟨by decide, by decide⟩ : (719 : Int) ≤ (719 : Int32).toInt ∧ (719 : Int32).toInt ≤ 719) (Int32.not_lt.mp c_68)
                      refine lv_aload_n hx hb dX12_person_76 rfl (lv_at hl 1 rfl) ?_
                      refine lv_iconst (v := 2) hx hb dX12_person_77 (by decide) ?_
                      refine va_calli (va_runV (As := [.int 2]) (rest := []) ⟨hx, hb, hml, hown, hts⟩ (m_twoC l dC dI H.size h ad cA hd fv_62 wd_63 ar_64 hF_fv_62 hA_ar_64 2 (iv_w (⟨by decide, by decide⟩ : (2 : Int) ≤ (2 : Int32).toInt ∧ (2 : Int32).toInt ≤ 2) (by decide) (by decide))) (cwV 1 hts (gV kw_8_24 kw_8_26 kw_p_62 kw_1_15 kw_8_27) rfl rfl rfl (by decide +kernel) ⟨Nat.le_of_ble_eq_true rfl, Nat.le_of_ble_eq_true rfl⟩) ⟨fun a U g mk q => ⟨q.1, q.2.1, q.2.2.1, va_K.moved (u := U) (U := U.calling g mk a) (Vm.Alike.refl U.vm) q.2.2.2⟩, va_recv hK hP (ci := 12) (q0 := 0) rfl rfl, fun U hU hW => ⟨rfl, by rw [hU], by rw [hU]; exact hP, va_K.moved hW.alike hK⟩⟩ rfl rfl hl.1 rfl (lv_room (Nat.le_of_ble_eq_true rfl)) dX12_person_78 ⟨Nat.le_of_ble_eq_true rfl, Nat.le_of_ble_eq_true rfl⟩) hS (fun q _ h9 => aM_up hS q h9) (aM_up hS) (fun r_72 u t H1 locs ht _ hw hB _ hk1 hS => ?_)
                      obtain ⟨fv_75, wd_76, ar_77⟩ := u
                      obtain ⟨hF_fv_75, hA_ar_77, fr_78, fa_79, p_73, p_74, -⟩ := hw
                      have hP : va_P (dC, dI) vwCl (wsM h ad cA fv_75 wd_76 ar_77) H1 := by have h9 := hB.1; rw [ht] at h9; exact h9
                      have fr_78 : fM [] fv_62 fv_75 := fr_78
                      have fa_79 : fA [] ar_64 ar_77 := fa_79
                      have p_74 : r_72.toInt = wt_pr (ar_64 1) (2 : Int32).toInt.toNat := p_74
                      generalize H1 = H at hP hS ⊢
                      have k_80 : r_72.toInt = wt_pr (ar 1) 2 := by have h9 := p_74; rw [show ar_64 1 = ar 1 from ((fA_call (fA_call (fA_call (fA_rf [] _) fa_10 (by decide)) fa_53 (by decide)) fa_66 (by decide)) 1 rfl), show (2 : Int32).toInt.toNat = 2 from (by decide)] at h9; exact h9
                      refine lv_bipush (v := 10) hx hb dX12_person_81 (by decide) ?_
                      refine lv_bipush (v := 99) hx hb dX12_person_83 (by decide) ?_
                      refine va_calli (va_runS (As := [.int r_72, .int 10, .int 99]) (rest := []) ⟨hx, hb, hml, hown, hts⟩ (m_isIn l H.size r_72 10 99) (va_cwS 3 hts (gS kw_7_218 kw_7_219 kw_1_15 kw_7_220) rfl rfl rfl (by decide +kernel) ⟨Nat.le_of_ble_eq_true rfl, Nat.le_of_ble_eq_true rfl⟩) ⟨fun a U g mk q => ⟨q.1, q.2⟩, fun U hU hW => ⟨rfl, congrArg Array.size hU⟩⟩ rfl rfl hl.1 rfl (lv_room (Nat.le_of_ble_eq_true rfl)) dX12_person_85 ⟨Nat.le_of_ble_eq_true rfl, Nat.le_of_ble_eq_true rfl⟩) hS (fun q _ h9 => nM_up hS q h9) (nM_up hS) (fun r_81 u t H1 locs ht _ hw hB _ hk1 hS => ?_)
                      obtain ⟨p_82, p_83, -⟩ := hw
                      have hP := my_keepM hP hk1
                      generalize H1 = H at hP hS ⊢
                      rcases p_83 with ⟨rfl, p_83⟩ | ⟨rfl, p_83⟩
                      · skip
                        refine lv_if_eq (tgt := 122) hx hb dX12_person_88 (by decide) (fun c_84 => ?_) (fun c_84 => ?_)
                        · skip
                          refine lv_iconst (v := (-1)) hx hb dX12_person_122 (by decide) ?_
                          have z_85 : ((-1) : Int32).toInt = (-1) := by decide
                          exact W.iret (v := (-1)) hx hb hr (fun t ht hW => ⟨⟨(-1), (fv_75, wd_76, ar_77), rfl, ⟨hF_fv_75, hA_ar_77, (fM_call (fM_call (fM_call (fM_call (fM_put (fM_rf [0, 2, 32] _) efv_1 (by decide)) fr_9 (by decide)) fr_52 (by decide)) fr_65 (by decide)) fr_78 (by decide)), (fA_call (fA_call (fA_call (fA_call (fA_rf [9, 10, 11, 12, 13, 14, 15, 16, 17, 72] _) fa_10 (by decide)) fa_53 (by decide)) fa_66 (by decide)) fa_79 (by decide)), (show wt_person ((-1) : Int32) (fv_75 32) (fv 32) (fv 2) (ar 1) a b v from by have q_fv_1 : (fv_1 32).toInt = (fv 32).toInt := congrArg Int32.toInt ((fM_put (fM_rf [0] _) efv_1 (by decide)) 32 rfl); have q_fv_6 : (fv_6 32).toInt = (fv 32).toInt := congrArg Int32.toInt ((fM_call (fM_put (fM_rf [0, 2] _) efv_1 (by decide)) fr_9 (by decide)) 32 rfl); exact Or.inl ⟨rfl, (fr_78 32 rfl).trans ((fr_65 32 rfl).trans ((fr_52 32 rfl).trans ((fr_9 32 rfl).trans ((congrFun efv_1 32))))), by omega⟩), (show (fv_75 2).toInt = 0 from by rw [show fv_75 2 = (fv_6 2) from (fr_78 2 rfl).trans ((fr_65 2 rfl).trans ((fr_52 2 rfl)))]; omega), trivial⟩, ⟨by rw [ht]; exact hP, va_K.moved hW.alike hK⟩⟩, hS.F ht⟩) hS.2.2 dX12_person_123
                        · skip
                          exact absurd c_84 (by decide)
                      · skip
                        have i_86 : 10 ≤ r_72.toInt ∧ r_72.toInt ≤ 65535 := iv_le2 (⟨by decide, by decide⟩ : (10 : Int) ≤ (10 : Int32).toInt ∧ (10 : Int32).toInt ≤ 10) p_73 (Int32.le_iff_toInt_le.mpr p_83.1)
                        have i_87 : 10 ≤ r_72.toInt ∧ r_72.toInt ≤ 99 := iv_le1 i_86 (⟨by decide, by decide⟩ : (99 : Int) ≤ (99 : Int32).toInt ∧ (99 : Int32).toInt ≤ 99) (Int32.le_iff_toInt_le.mpr p_83.2)
                        refine lv_if_eq (tgt := 122) hx hb dX12_person_88 (by decide) (fun c_88 => ?_) (fun c_88 => ?_)
                        · skip
                          exact absurd c_88 (by decide)
                        · skip
                          refine lv_aload_n hx hb dX12_person_91 rfl (lv_at hl 1 rfl) ?_
                          refine lv_iconst (v := 3) hx hb dX12_person_92 (by decide) ?_
                          refine va_calli (va_runV (As := [.int 3]) (rest := []) ⟨hx, hb, hml, hown, hts⟩ (m_twoC l dC dI H.size h ad cA hd fv_75 wd_76 ar_77 hF_fv_75 hA_ar_77 3 (iv_w (⟨by decide, by decide⟩ : (3 : Int) ≤ (3 : Int32).toInt ∧ (3 : Int32).toInt ≤ 3) (by decide) (by decide))) (cwV 1 hts (gV kw_8_24 kw_8_26 kw_p_62 kw_1_15 kw_8_27) rfl rfl rfl (by decide +kernel) ⟨Nat.le_of_ble_eq_true rfl, Nat.le_of_ble_eq_true rfl⟩) ⟨fun a U g mk q => ⟨q.1, q.2.1, q.2.2.1, va_K.moved (u := U) (U := U.calling g mk a) (Vm.Alike.refl U.vm) q.2.2.2⟩, va_recv hK hP (ci := 12) (q0 := 0) rfl rfl, fun U hU hW => ⟨rfl, by rw [hU], by rw [hU]; exact hP, va_K.moved hW.alike hK⟩⟩ rfl rfl hl.1 rfl (lv_room (Nat.le_of_ble_eq_true rfl)) dX12_person_93 ⟨Nat.le_of_ble_eq_true rfl, Nat.le_of_ble_eq_true rfl⟩) hS (fun q _ h9 => aM_up hS q h9) (aM_up hS) (fun r_89 u t H1 locs ht _ hw hB _ hk1 hS => ?_)
                          obtain ⟨fv_92, wd_93, ar_94⟩ := u
                          obtain ⟨hF_fv_92, hA_ar_94, fr_95, fa_96, p_90, p_91, -⟩ := hw
                          have hP : va_P (dC, dI) vwCl (wsM h ad cA fv_92 wd_93 ar_94) H1 := by have h9 := hB.1; rw [ht] at h9; exact h9
                          have fr_95 : fM [] fv_75 fv_92 := fr_95
                          have fa_96 : fA [] ar_77 ar_94 := fa_96
                          have p_91 : r_89.toInt = wt_pr (ar_77 1) (3 : Int32).toInt.toNat := p_91
                          generalize H1 = H at hP hS ⊢
                          have k_97 : r_89.toInt = wt_pr (ar 1) 3 := by have h9 := p_91; rw [show ar_77 1 = ar 1 from ((fA_call (fA_call (fA_call (fA_call (fA_rf [] _) fa_10 (by decide)) fa_53 (by decide)) fa_66 (by decide)) fa_79 (by decide)) 1 rfl), show (3 : Int32).toInt.toNat = 3 from (by decide)] at h9; exact h9
                          refine lv_bipush (v := 9) hx hb dX12_person_96 (by decide) ?_
                          refine lv_icmp_gt (tgt := 122) hx hb dX12_person_98 (by decide) (fun c_98 => ?_) (fun c_98 => ?_)
                          · skip
                            have i_99 : 10 ≤ r_89.toInt ∧ r_89.toInt ≤ 65535 := iv_lt2 (⟨by decide, by decide⟩ : (9 : Int) ≤ (9 : Int32).toInt ∧ (9 : Int32).toInt ≤ 9) p_90 c_98
                            refine lv_iconst (v := (-1)) hx hb dX12_person_122 (by decide) ?_
                            have z_100 : ((-1) : Int32).toInt = (-1) := by decide
                            exact W.iret (v := (-1)) hx hb hr (fun t ht hW => ⟨⟨(-1), (fv_92, wd_93, ar_94), rfl, ⟨hF_fv_92, hA_ar_94, (fM_call (fM_call (fM_call (fM_call (fM_call (fM_put (fM_rf [0, 2, 32] _) efv_1 (by decide)) fr_9 (by decide)) fr_52 (by decide)) fr_65 (by decide)) fr_78 (by decide)) fr_95 (by decide)), (fA_call (fA_call (fA_call (fA_call (fA_call (fA_rf [9, 10, 11, 12, 13, 14, 15, 16, 17, 72] _) fa_10 (by decide)) fa_53 (by decide)) fa_66 (by decide)) fa_79 (by decide)) fa_96 (by decide)), (show wt_person ((-1) : Int32) (fv_92 32) (fv 32) (fv 2) (ar 1) a b v from by have q_fv_1 : (fv_1 32).toInt = (fv 32).toInt := congrArg Int32.toInt ((fM_put (fM_rf [0] _) efv_1 (by decide)) 32 rfl); have q_fv_6 : (fv_6 32).toInt = (fv 32).toInt := congrArg Int32.toInt ((fM_call (fM_put (fM_rf [0, 2] _) efv_1 (by decide)) fr_9 (by decide)) 32 rfl); exact Or.inl ⟨rfl, (fr_95 32 rfl).trans ((fr_78 32 rfl).trans ((fr_65 32 rfl).trans ((fr_52 32 rfl).trans ((fr_9 32 rfl).trans ((congrFun efv_1 32)))))), by omega⟩), (show (fv_92 2).toInt = 0 from by rw [show fv_92 2 = (fv_6 2) from (fr_95 2 rfl).trans ((fr_78 2 rfl).trans ((fr_65 2 rfl).trans ((fr_52 2 rfl))))]; omega), trivial⟩, ⟨by rw [ht]; exact hP, va_K.moved hW.alike hK⟩⟩, hS.F ht⟩) hS.2.2 dX12_person_123
                          · skip
                            have i_101 : 0 ≤ r_89.toInt ∧ r_89.toInt ≤ 9 := iv_le1 p_90 (⟨by decide, by decide⟩ : (9 : Int) ≤ (9 : Int32).toInt ∧ (9 : Int32).toInt ≤ 9) (Int32.not_lt.mp c_98)
                            refine lv_aload_n hx hb dX12_person_101 rfl (lv_at hl 1 rfl) ?_
                            refine lv_iconst (v := 4) hx hb dX12_person_102 (by decide) ?_
                            refine va_calli (va_runV (As := [.int 4]) (rest := []) ⟨hx, hb, hml, hown, hts⟩ (m_twoC l dC dI H.size h ad cA hd fv_92 wd_93 ar_94 hF_fv_92 hA_ar_94 4 (iv_w (⟨by decide, by decide⟩ : (4 : Int) ≤ (4 : Int32).toInt ∧ (4 : Int32).toInt ≤ 4) (by decide) (by decide))) (cwV 1 hts (gV kw_8_24 kw_8_26 kw_p_62 kw_1_15 kw_8_27) rfl rfl rfl (by decide +kernel) ⟨Nat.le_of_ble_eq_true rfl, Nat.le_of_ble_eq_true rfl⟩) ⟨fun a U g mk q => ⟨q.1, q.2.1, q.2.2.1, va_K.moved (u := U) (U := U.calling g mk a) (Vm.Alike.refl U.vm) q.2.2.2⟩, va_recv hK hP (ci := 12) (q0 := 0) rfl rfl, fun U hU hW => ⟨rfl, by rw [hU], by rw [hU]; exact hP, va_K.moved hW.alike hK⟩⟩ rfl rfl hl.1 rfl (lv_room (Nat.le_of_ble_eq_true rfl)) dX12_person_103 ⟨Nat.le_of_ble_eq_true rfl, Nat.le_of_ble_eq_true rfl⟩) hS (fun q _ h9 => aM_up hS q h9) (aM_up hS) (fun r_102 u t H1 locs ht _ hw hB _ hk1 hS => ?_)
                            obtain ⟨fv_105, wd_106, ar_107⟩ := u
                            obtain ⟨hF_fv_105, hA_ar_107, fr_108, fa_109, p_103, p_104, -⟩ := hw
                            have hP : va_P (dC, dI) vwCl (wsM h ad cA fv_105 wd_106 ar_107) H1 := by have h9 := hB.1; rw [ht] at h9; exact h9
                            have fr_108 : fM [] fv_92 fv_105 := fr_108
                            have fa_109 : fA [] ar_94 ar_107 := fa_109
                            have p_104 : r_102.toInt = wt_pr (ar_94 1) (4 : Int32).toInt.toNat := p_104
                            generalize H1 = H at hP hS ⊢
                            have k_110 : r_102.toInt = wt_pr (ar 1) 4 := by have h9 := p_104; rw [show ar_94 1 = ar 1 from ((fA_call (fA_call (fA_call (fA_call (fA_call (fA_rf [] _) fa_10 (by decide)) fa_53 (by decide)) fa_66 (by decide)) fa_79 (by decide)) fa_96 (by decide)) 1 rfl), show (4 : Int32).toInt.toNat = 4 from (by decide)] at h9; exact h9
                            refine lv_sipush (v := 10000) hx hb dX12_person_106 (by decide) ?_
                            refine lv_icmp_gt (tgt := 122) hx hb dX12_person_109 (by decide) (fun c_111 => ?_) (fun c_111 => ?_)
                            · skip
                              have i_112 : 10001 ≤ r_102.toInt ∧ r_102.toInt ≤ 65535 := iv_lt2 (⟨by decide, by decide⟩ : (10000 : Int) ≤ (10000 : Int32).toInt ∧ (10000 : Int32).toInt ≤ 10000) p_103 c_111
                              refine lv_iconst (v := (-1)) hx hb dX12_person_122 (by decide) ?_
                              have z_113 : ((-1) : Int32).toInt = (-1) := by decide
                              exact W.iret (v := (-1)) hx hb hr (fun t ht hW => ⟨⟨(-1), (fv_105, wd_106, ar_107), rfl, ⟨hF_fv_105, hA_ar_107, (fM_call (fM_call (fM_call (fM_call (fM_call (fM_call (fM_put (fM_rf [0, 2, 32] _) efv_1 (by decide)) fr_9 (by decide)) fr_52 (by decide)) fr_65 (by decide)) fr_78 (by decide)) fr_95 (by decide)) fr_108 (by decide)), (fA_call (fA_call (fA_call (fA_call (fA_call (fA_call (fA_rf [9, 10, 11, 12, 13, 14, 15, 16, 17, 72] _) fa_10 (by decide)) fa_53 (by decide)) fa_66 (by decide)) fa_79 (by decide)) fa_96 (by decide)) fa_109 (by decide)), (show wt_person ((-1) : Int32) (fv_105 32) (fv 32) (fv 2) (ar 1) a b v from by have q_fv_1 : (fv_1 32).toInt = (fv 32).toInt := congrArg Int32.toInt ((fM_put (fM_rf [0] _) efv_1 (by decide)) 32 rfl); have q_fv_6 : (fv_6 32).toInt = (fv 32).toInt := congrArg Int32.toInt ((fM_call (fM_put (fM_rf [0, 2] _) efv_1 (by decide)) fr_9 (by decide)) 32 rfl); exact Or.inl ⟨rfl, (fr_108 32 rfl).trans ((fr_95 32 rfl).trans ((fr_78 32 rfl).trans ((fr_65 32 rfl).trans ((fr_52 32 rfl).trans ((fr_9 32 rfl).trans ((congrFun efv_1 32))))))), by omega⟩), (show (fv_105 2).toInt = 0 from by rw [show fv_105 2 = (fv_6 2) from (fr_108 2 rfl).trans ((fr_95 2 rfl).trans ((fr_78 2 rfl).trans ((fr_65 2 rfl).trans ((fr_52 2 rfl)))))]; omega), trivial⟩, ⟨by rw [ht]; exact hP, va_K.moved hW.alike hK⟩⟩, hS.F ht⟩) hS.2.2 dX12_person_123
                            · skip
                              have i_114 : 0 ≤ r_102.toInt ∧ r_102.toInt ≤ 10000 := iv_le1 p_103 (⟨by decide, by decide⟩ : (10000 : Int) ≤ (10000 : Int32).toInt ∧ (10000 : Int32).toInt ≤ 10000) (Int32.not_lt.mp c_111)
                              refine lv_aload_n hx hb dX12_person_112 rfl (lv_at hl 1 rfl) ?_
                              refine lv_iconst (v := 5) hx hb dX12_person_113 (by decide) ?_
                              refine va_calli (va_runV (As := [.int 5]) (rest := []) ⟨hx, hb, hml, hown, hts⟩ (m_twoC l dC dI H.size h ad cA hd fv_105 wd_106 ar_107 hF_fv_105 hA_ar_107 5 (iv_w (⟨by decide, by decide⟩ : (5 : Int) ≤ (5 : Int32).toInt ∧ (5 : Int32).toInt ≤ 5) (by decide) (by decide))) (cwV 1 hts (gV kw_8_24 kw_8_26 kw_p_62 kw_1_15 kw_8_27) rfl rfl rfl (by decide +kernel) ⟨Nat.le_of_ble_eq_true rfl, Nat.le_of_ble_eq_true rfl⟩) ⟨fun a U g mk q => ⟨q.1, q.2.1, q.2.2.1, va_K.moved (u := U) (U := U.calling g mk a) (Vm.Alike.refl U.vm) q.2.2.2⟩, va_recv hK hP (ci := 12) (q0 := 0) rfl rfl, fun U hU hW => ⟨rfl, by rw [hU], by rw [hU]; exact hP, va_K.moved hW.alike hK⟩⟩ rfl rfl hl.1 rfl (lv_room (Nat.le_of_ble_eq_true rfl)) dX12_person_114 ⟨Nat.le_of_ble_eq_true rfl, Nat.le_of_ble_eq_true rfl⟩) hS (fun q _ h9 => aM_up hS q h9) (aM_up hS) (fun r_115 u t H1 locs ht _ hw hB _ hk1 hS => ?_)
                              obtain ⟨fv_118, wd_119, ar_120⟩ := u
                              obtain ⟨hF_fv_118, hA_ar_120, fr_121, fa_122, p_116, p_117, -⟩ := hw
                              have hP : va_P (dC, dI) vwCl (wsM h ad cA fv_118 wd_119 ar_120) H1 := by have h9 := hB.1; rw [ht] at h9; exact h9
                              have fr_121 : fM [] fv_105 fv_118 := fr_121
                              have fa_122 : fA [] ar_107 ar_120 := fa_122
                              have p_117 : r_115.toInt = wt_pr (ar_107 1) (5 : Int32).toInt.toNat := p_117
                              generalize H1 = H at hP hS ⊢
                              have k_123 : r_115.toInt = wt_pr (ar 1) 5 := by have h9 := p_117; rw [show ar_107 1 = ar 1 from ((fA_call (fA_call (fA_call (fA_call (fA_call (fA_call (fA_rf [] _) fa_10 (by decide)) fa_53 (by decide)) fa_66 (by decide)) fa_79 (by decide)) fa_96 (by decide)) fa_109 (by decide)) 1 rfl), show (5 : Int32).toInt.toNat = 5 from (by decide)] at h9; exact h9
                              refine lv_bipush (v := 9) hx hb dX12_person_117 (by decide) ?_
                              refine lv_icmp_le (tgt := 124) hx hb dX12_person_119 (by decide) (fun c_124 => ?_) (fun c_124 => ?_)
                              · skip
                                have i_125 : 0 ≤ r_115.toInt ∧ r_115.toInt ≤ 9 := iv_le1 p_116 (⟨by decide, by decide⟩ : (9 : Int) ≤ (9 : Int32).toInt ∧ (9 : Int32).toInt ≤ 9) c_124
                                refine lv_aload_n hx hb dX12_person_124 rfl (lv_at hl 1 rfl) ?_
                                refine gM_9 hx hb htg hown hK hP dX12_person_125 ?_
                                refine lv_aload_n hx hb dX12_person_128 rfl (lv_at hl 1 rfl) ?_
                                refine gM_32 hx hb htg hown hK hP dX12_person_129 ?_
                                refine my_ti (y := fv 32) ((fr_121 32 rfl).trans ((fr_108 32 rfl).trans ((fr_95 32 rfl).trans ((fr_78 32 rfl).trans ((fr_65 32 rfl).trans ((fr_52 32 rfl).trans ((fr_9 32 rfl).trans ((congrFun efv_1 32))))))))) ?_
                                refine lv_iload_n hx hb dX12_person_132 rfl (lv_at hl 2 rfl) ?_
                                refine sM_9 hx hb hK hP hS hd (iv_in i_17 (by decide) (by decide)) dX12_person_133 (fun H locs ar_126 ear_126 hP hS => ?_)
                                have hA_ar_126 : rA ar_126 := rA_put hA_ar_120 ear_126 i_25
                                refine lv_aload_n hx hb dX12_person_134 rfl (lv_at hl 1 rfl) ?_
                                refine gM_10 hx hb htg hown hK hP dX12_person_135 ?_
                                refine lv_aload_n hx hb dX12_person_138 rfl (lv_at hl 1 rfl) ?_
                                refine gM_32 hx hb htg hown hK hP dX12_person_139 ?_
                                refine my_ti (y := fv 32) ((fr_121 32 rfl).trans ((fr_108 32 rfl).trans ((fr_95 32 rfl).trans ((fr_78 32 rfl).trans ((fr_65 32 rfl).trans ((fr_52 32 rfl).trans ((fr_9 32 rfl).trans ((congrFun efv_1 32))))))))) ?_
                                refine lv_iload_n hx hb dX12_person_142 rfl (lv_at hl 3 rfl) ?_
                                refine sM_10 hx hb hK hP hS hd (iv_in i_17 (by decide) (by decide)) dX12_person_143 (fun H locs ar_127 ear_127 hP hS => ?_)
                                have hA_ar_127 : rA ar_127 := rA_put hA_ar_126 ear_127 i_33
                                refine lv_aload_n hx hb dX12_person_144 rfl (lv_at hl 1 rfl) ?_
                                refine gM_11 hx hb htg hown hK hP dX12_person_145 ?_
                                refine lv_aload_n hx hb dX12_person_148 rfl (lv_at hl 1 rfl) ?_
                                refine gM_32 hx hb htg hown hK hP dX12_person_149 ?_
                                refine my_ti (y := fv 32) ((fr_121 32 rfl).trans ((fr_108 32 rfl).trans ((fr_95 32 rfl).trans ((fr_78 32 rfl).trans ((fr_65 32 rfl).trans ((fr_52 32 rfl).trans ((fr_9 32 rfl).trans ((congrFun efv_1 32))))))))) ?_
                                refine lv_iload_n hx hb dX12_person_152 rfl (lv_at hl 4 rfl) ?_
                                refine sM_11 hx hb hK hP hS hd (iv_in i_17 (by decide) (by decide)) dX12_person_153 (fun H locs ar_128 ear_128 hP hS => ?_)
                                have hA_ar_128 : rA ar_128 := rA_put hA_ar_127 ear_128 (iv_any _)
                                refine lv_aload_n hx hb dX12_person_154 rfl (lv_at hl 1 rfl) ?_
                                refine gM_12 hx hb htg hown hK hP dX12_person_155 ?_
                                refine lv_aload_n hx hb dX12_person_158 rfl (lv_at hl 1 rfl) ?_
                                refine gM_32 hx hb htg hown hK hP dX12_person_159 ?_
                                refine my_ti (y := fv 32) ((fr_121 32 rfl).trans ((fr_108 32 rfl).trans ((fr_95 32 rfl).trans ((fr_78 32 rfl).trans ((fr_65 32 rfl).trans ((fr_52 32 rfl).trans ((fr_9 32 rfl).trans ((congrFun efv_1 32))))))))) ?_
                                refine lv_aload_n hx hb dX12_person_162 rfl (lv_at hl 1 rfl) ?_
                                refine lv_iconst (v := 0) hx hb dX12_person_163 (by decide) ?_
                                refine va_calli (va_runV (As := [.int 0]) (rest := [.int (fv 32), .ref (ad 12)]) ⟨hx, hb, hml, hown, hts⟩ (m_twoC l dC dI H.size h ad cA hd fv_118 wd_119 ar_128 hF_fv_118 hA_ar_128 0 (iv_w (⟨by decide, by decide⟩ : (0 : Int) ≤ (0 : Int32).toInt ∧ (0 : Int32).toInt ≤ 0) (by decide) (by decide))) (cwV 1 hts (gV kw_8_24 kw_8_26 kw_p_62 kw_1_15 kw_8_27) rfl rfl rfl (by decide +kernel) ⟨Nat.le_of_ble_eq_true rfl, Nat.le_of_ble_eq_true rfl⟩) ⟨fun a U g mk q => ⟨q.1, q.2.1, q.2.2.1, va_K.moved (u := U) (U := U.calling g mk a) (Vm.Alike.refl U.vm) q.2.2.2⟩, va_recv hK hP (ci := 12) (q0 := 0) rfl rfl, fun U hU hW => ⟨rfl, by rw [hU], by rw [hU]; exact hP, va_K.moved hW.alike hK⟩⟩ rfl rfl hl.1 rfl (lv_room (Nat.le_of_ble_eq_true rfl)) dX12_person_164 ⟨Nat.le_of_ble_eq_true rfl, Nat.le_of_ble_eq_true rfl⟩) hS (fun q _ h9 => aM_up hS q h9) (aM_up hS) (fun r_129 u t H1 locs ht _ hw hB _ hk1 hS => ?_)
                                obtain ⟨fv_132, wd_133, ar_134⟩ := u
                                obtain ⟨hF_fv_132, hA_ar_134, fr_135, fa_136, p_130, p_131, -⟩ := hw
                                have hP : va_P (dC, dI) vwCl (wsM h ad cA fv_132 wd_133 ar_134) H1 := by have h9 := hB.1; rw [ht] at h9; exact h9
                                have fr_135 : fM [] fv_118 fv_132 := fr_135
                                have fa_136 : fA [] ar_128 ar_134 := fa_136
                                have p_131 : r_129.toInt = wt_pr (ar_128 1) (0 : Int32).toInt.toNat := p_131
                                generalize H1 = H at hP hS ⊢
                                refine sM_12 hx hb hK hP hS hd (iv_in i_17 (by decide) (by decide)) dX12_person_167 (fun H locs ar_137 ear_137 hP hS => ?_)
                                have hA_ar_137 : rA ar_137 := rA_put hA_ar_134 ear_137 (iv_any _)
                                refine lv_aload_n hx hb dX12_person_168 rfl (lv_at hl 1 rfl) ?_
                                refine gM_13 hx hb htg hown hK hP dX12_person_169 ?_
                                refine lv_aload_n hx hb dX12_person_172 rfl (lv_at hl 1 rfl) ?_
                                refine gM_32 hx hb htg hown hK hP dX12_person_173 ?_
                                refine my_ti (y := fv 32) ((fr_135 32 rfl).trans ((fr_121 32 rfl).trans ((fr_108 32 rfl).trans ((fr_95 32 rfl).trans ((fr_78 32 rfl).trans ((fr_65 32 rfl).trans ((fr_52 32 rfl).trans ((fr_9 32 rfl).trans ((congrFun efv_1 32)))))))))) ?_
                                refine lv_aload_n hx hb dX12_person_176 rfl (lv_at hl 1 rfl) ?_
                                refine lv_iconst (v := 1) hx hb dX12_person_177 (by decide) ?_
                                refine va_calli (va_runV (As := [.int 1]) (rest := [.int (fv 32), .ref (ad 13)]) ⟨hx, hb, hml, hown, hts⟩ (m_twoC l dC dI H.size h ad cA hd fv_132 wd_133 ar_137 hF_fv_132 hA_ar_137 1 (iv_w (⟨by decide, by decide⟩ : (1 : Int) ≤ (1 : Int32).toInt ∧ (1 : Int32).toInt ≤ 1) (by decide) (by decide))) (cwV 1 hts (gV kw_8_24 kw_8_26 kw_p_62 kw_1_15 kw_8_27) rfl rfl rfl (by decide +kernel) ⟨Nat.le_of_ble_eq_true rfl, Nat.le_of_ble_eq_true rfl⟩) ⟨fun a U g mk q => ⟨q.1, q.2.1, q.2.2.1, va_K.moved (u := U) (U := U.calling g mk a) (Vm.Alike.refl U.vm) q.2.2.2⟩, va_recv hK hP (ci := 12) (q0 := 0) rfl rfl, fun U hU hW => ⟨rfl, by rw [hU], by rw [hU]; exact hP, va_K.moved hW.alike hK⟩⟩ rfl rfl hl.1 rfl (lv_room (Nat.le_of_ble_eq_true rfl)) dX12_person_178 ⟨Nat.le_of_ble_eq_true rfl, Nat.le_of_ble_eq_true rfl⟩) hS (fun q _ h9 => aM_up hS q h9) (aM_up hS) (fun r_138 u t H1 locs ht _ hw hB _ hk1 hS => ?_)
                                obtain ⟨fv_141, wd_142, ar_143⟩ := u
                                obtain ⟨hF_fv_141, hA_ar_143, fr_144, fa_145, p_139, p_140, -⟩ := hw
                                have hP : va_P (dC, dI) vwCl (wsM h ad cA fv_141 wd_142 ar_143) H1 := by have h9 := hB.1; rw [ht] at h9; exact h9
                                have fr_144 : fM [] fv_132 fv_141 := fr_144
                                have fa_145 : fA [] ar_137 ar_143 := fa_145
                                have p_140 : r_138.toInt = wt_pr (ar_137 1) (1 : Int32).toInt.toNat := p_140
                                generalize H1 = H at hP hS ⊢
                                refine sM_13 hx hb hK hP hS hd (iv_in i_17 (by decide) (by decide)) dX12_person_181 (fun H locs ar_146 ear_146 hP hS => ?_)
                                have hA_ar_146 : rA ar_146 := rA_put hA_ar_143 ear_146 (iv_any _)
                                refine lv_aload_n hx hb dX12_person_182 rfl (lv_at hl 1 rfl) ?_
                                refine gM_14 hx hb htg hown hK hP dX12_person_183 ?_
                                refine lv_aload_n hx hb dX12_person_186 rfl (lv_at hl 1 rfl) ?_
                                refine gM_32 hx hb htg hown hK hP dX12_person_187 ?_
                                refine my_ti (y := fv 32) ((fr_144 32 rfl).trans ((fr_135 32 rfl).trans ((fr_121 32 rfl).trans ((fr_108 32 rfl).trans ((fr_95 32 rfl).trans ((fr_78 32 rfl).trans ((fr_65 32 rfl).trans ((fr_52 32 rfl).trans ((fr_9 32 rfl).trans ((congrFun efv_1 32))))))))))) ?_
                                refine lv_aload_n hx hb dX12_person_190 rfl (lv_at hl 1 rfl) ?_
                                refine lv_iconst (v := 2) hx hb dX12_person_191 (by decide) ?_
                                refine va_calli (va_runV (As := [.int 2]) (rest := [.int (fv 32), .ref (ad 14)]) ⟨hx, hb, hml, hown, hts⟩ (m_twoC l dC dI H.size h ad cA hd fv_141 wd_142 ar_146 hF_fv_141 hA_ar_146 2 (iv_w (⟨by decide, by decide⟩ : (2 : Int) ≤ (2 : Int32).toInt ∧ (2 : Int32).toInt ≤ 2) (by decide) (by decide))) (cwV 1 hts (gV kw_8_24 kw_8_26 kw_p_62 kw_1_15 kw_8_27) rfl rfl rfl (by decide +kernel) ⟨Nat.le_of_ble_eq_true rfl, Nat.le_of_ble_eq_true rfl⟩) ⟨fun a U g mk q => ⟨q.1, q.2.1, q.2.2.1, va_K.moved (u := U) (U := U.calling g mk a) (Vm.Alike.refl U.vm) q.2.2.2⟩, va_recv hK hP (ci := 12) (q0 := 0) rfl rfl, fun U hU hW => ⟨rfl, by rw [hU], by rw [hU]; exact hP, va_K.moved hW.alike hK⟩⟩ rfl rfl hl.1 rfl (lv_room (Nat.le_of_ble_eq_true rfl)) dX12_person_192 ⟨Nat.le_of_ble_eq_true rfl, Nat.le_of_ble_eq_true rfl⟩) hS (fun q _ h9 => aM_up hS q h9) (aM_up hS) (fun r_147 u t H1 locs ht _ hw hB _ hk1 hS => ?_)
                                obtain ⟨fv_150, wd_151, ar_152⟩ := u
                                obtain ⟨hF_fv_150, hA_ar_152, fr_153, fa_154, p_148, p_149, -⟩ := hw
                                have hP : va_P (dC, dI) vwCl (wsM h ad cA fv_150 wd_151 ar_152) H1 := by have h9 := hB.1; rw [ht] at h9; exact h9
                                have fr_153 : fM [] fv_141 fv_150 := fr_153
                                have fa_154 : fA [] ar_146 ar_152 := fa_154
                                have p_149 : r_147.toInt = wt_pr (ar_146 1) (2 : Int32).toInt.toNat := p_149
                                generalize H1 = H at hP hS ⊢
                                refine sM_14 hx hb hK hP hS hd (iv_in i_17 (by decide) (by decide)) dX12_person_195 (fun H locs ar_155 ear_155 hP hS => ?_)
                                have hA_ar_155 : rA ar_155 := rA_put hA_ar_152 ear_155 (iv_any _)
                                refine lv_aload_n hx hb dX12_person_196 rfl (lv_at hl 1 rfl) ?_
                                refine gM_15 hx hb htg hown hK hP dX12_person_197 ?_
                                refine lv_aload_n hx hb dX12_person_200 rfl (lv_at hl 1 rfl) ?_
                                refine gM_32 hx hb htg hown hK hP dX12_person_201 ?_
                                refine my_ti (y := fv 32) ((fr_153 32 rfl).trans ((fr_144 32 rfl).trans ((fr_135 32 rfl).trans ((fr_121 32 rfl).trans ((fr_108 32 rfl).trans ((fr_95 32 rfl).trans ((fr_78 32 rfl).trans ((fr_65 32 rfl).trans ((fr_52 32 rfl).trans ((fr_9 32 rfl).trans ((congrFun efv_1 32)))))))))))) ?_
                                refine lv_aload_n hx hb dX12_person_204 rfl (lv_at hl 1 rfl) ?_
                                refine lv_iconst (v := 3) hx hb dX12_person_205 (by decide) ?_
                                refine va_calli (va_runV (As := [.int 3]) (rest := [.int (fv 32), .ref (ad 15)]) ⟨hx, hb, hml, hown, hts⟩ (m_twoC l dC dI H.size h ad cA hd fv_150 wd_151 ar_155 hF_fv_150 hA_ar_155 3 (iv_w (⟨by decide, by decide⟩ : (3 : Int) ≤ (3 : Int32).toInt ∧ (3 : Int32).toInt ≤ 3) (by decide) (by decide))) (cwV 1 hts (gV kw_8_24 kw_8_26 kw_p_62 kw_1_15 kw_8_27) rfl rfl rfl (by decide +kernel) ⟨Nat.le_of_ble_eq_true rfl, Nat.le_of_ble_eq_true rfl⟩) ⟨fun a U g mk q => ⟨q.1, q.2.1, q.2.2.1, va_K.moved (u := U) (U := U.calling g mk a) (Vm.Alike.refl U.vm) q.2.2.2⟩, va_recv hK hP (ci := 12) (q0 := 0) rfl rfl, fun U hU hW => ⟨rfl, by rw [hU], by rw [hU]; exact hP, va_K.moved hW.alike hK⟩⟩ rfl rfl hl.1 rfl (lv_room (Nat.le_of_ble_eq_true rfl)) dX12_person_206 ⟨Nat.le_of_ble_eq_true rfl, Nat.le_of_ble_eq_true rfl⟩) hS (fun q _ h9 => aM_up hS q h9) (aM_up hS) (fun r_156 u t H1 locs ht _ hw hB _ hk1 hS => ?_)
                                obtain ⟨fv_159, wd_160, ar_161⟩ := u
                                obtain ⟨hF_fv_159, hA_ar_161, fr_162, fa_163, p_157, p_158, -⟩ := hw
                                have hP : va_P (dC, dI) vwCl (wsM h ad cA fv_159 wd_160 ar_161) H1 := by have h9 := hB.1; rw [ht] at h9; exact h9
                                have fr_162 : fM [] fv_150 fv_159 := fr_162
                                have fa_163 : fA [] ar_155 ar_161 := fa_163
                                have p_158 : r_156.toInt = wt_pr (ar_155 1) (3 : Int32).toInt.toNat := p_158
                                generalize H1 = H at hP hS ⊢
                                refine sM_15 hx hb hK hP hS hd (iv_in i_17 (by decide) (by decide)) dX12_person_209 (fun H locs ar_164 ear_164 hP hS => ?_)
                                have hA_ar_164 : rA ar_164 := rA_put hA_ar_161 ear_164 (iv_any _)
                                refine lv_aload_n hx hb dX12_person_210 rfl (lv_at hl 1 rfl) ?_
                                refine gM_16 hx hb htg hown hK hP dX12_person_211 ?_
                                refine lv_aload_n hx hb dX12_person_214 rfl (lv_at hl 1 rfl) ?_
                                refine gM_32 hx hb htg hown hK hP dX12_person_215 ?_
                                refine my_ti (y := fv 32) ((fr_162 32 rfl).trans ((fr_153 32 rfl).trans ((fr_144 32 rfl).trans ((fr_135 32 rfl).trans ((fr_121 32 rfl).trans ((fr_108 32 rfl).trans ((fr_95 32 rfl).trans ((fr_78 32 rfl).trans ((fr_65 32 rfl).trans ((fr_52 32 rfl).trans ((fr_9 32 rfl).trans ((congrFun efv_1 32))))))))))))) ?_
                                refine lv_bipush (v := 10) hx hb dX12_person_218 (by decide) ?_
                                refine lv_aload_n hx hb dX12_person_220 rfl (lv_at hl 1 rfl) ?_
                                refine lv_iconst (v := 4) hx hb dX12_person_221 (by decide) ?_
                                refine va_calli (va_runV (As := [.int 4]) (rest := [.int 10, .int (fv 32), .ref (ad 16)]) ⟨hx, hb, hml, hown, hts⟩ (m_twoC l dC dI H.size h ad cA hd fv_159 wd_160 ar_164 hF_fv_159 hA_ar_164 4 (iv_w (⟨by decide, by decide⟩ : (4 : Int) ≤ (4 : Int32).toInt ∧ (4 : Int32).toInt ≤ 4) (by decide) (by decide))) (cwV 1 hts (gV kw_8_24 kw_8_26 kw_p_62 kw_1_15 kw_8_27) rfl rfl rfl (by decide +kernel) ⟨Nat.le_of_ble_eq_true rfl, Nat.le_of_ble_eq_true rfl⟩) ⟨fun a U g mk q => ⟨q.1, q.2.1, q.2.2.1, va_K.moved (u := U) (U := U.calling g mk a) (Vm.Alike.refl U.vm) q.2.2.2⟩, va_recv hK hP (ci := 12) (q0 := 0) rfl rfl, fun U hU hW => ⟨rfl, by rw [hU], by rw [hU]; exact hP, va_K.moved hW.alike hK⟩⟩ rfl rfl hl.1 rfl (lv_room (Nat.le_of_ble_eq_true rfl)) dX12_person_222 ⟨Nat.le_of_ble_eq_true rfl, Nat.le_of_ble_eq_true rfl⟩) hS (fun q _ h9 => aM_up hS q h9) (aM_up hS) (fun r_165 u t H1 locs ht _ hw hB _ hk1 hS => ?_)
                                obtain ⟨fv_168, wd_169, ar_170⟩ := u
                                obtain ⟨hF_fv_168, hA_ar_170, fr_171, fa_172, p_166, p_167, -⟩ := hw
                                have hP : va_P (dC, dI) vwCl (wsM h ad cA fv_168 wd_169 ar_170) H1 := by have h9 := hB.1; rw [ht] at h9; exact h9
                                have fr_171 : fM [] fv_159 fv_168 := fr_171
                                have fa_172 : fA [] ar_164 ar_170 := fa_172
                                have p_167 : r_165.toInt = wt_pr (ar_164 1) (4 : Int32).toInt.toNat := p_167
                                generalize H1 = H at hP hS ⊢
                                refine lv_imul hx hb dX12_person_225 ?_
                                refine lv_topi (fun v_173 ev_173 => ?_)
                                have t_174 : v_173.toInt = 10 * r_165.toInt ∧ 0 ≤ v_173.toInt ∧ v_173.toInt ≤ 655350 := iv_mulc ev_173 p_166 (by decide) (by decide) (by decide) (by decide)
                                refine sM_16 hx hb hK hP hS hd (iv_in i_17 (by decide) (by decide)) dX12_person_226 (fun H locs ar_176 ear_176 hP hS => ?_)
                                have hA_ar_176 : rA ar_176 := rA_put hA_ar_170 ear_176 (iv_any _)
                                refine lv_aload_n hx hb dX12_person_227 rfl (lv_at hl 1 rfl) ?_
                                refine gM_17 hx hb htg hown hK hP dX12_person_228 ?_
                                refine lv_aload_n hx hb dX12_person_231 rfl (lv_at hl 1 rfl) ?_
                                refine gM_32 hx hb htg hown hK hP dX12_person_232 ?_
                                refine my_ti (y := fv 32) ((fr_171 32 rfl).trans ((fr_162 32 rfl).trans ((fr_153 32 rfl).trans ((fr_144 32 rfl).trans ((fr_135 32 rfl).trans ((fr_121 32 rfl).trans ((fr_108 32 rfl).trans ((fr_95 32 rfl).trans ((fr_78 32 rfl).trans ((fr_65 32 rfl).trans ((fr_52 32 rfl).trans ((fr_9 32 rfl).trans ((congrFun efv_1 32)))))))))))))) ?_
                                refine lv_aload_n hx hb dX12_person_235 rfl (lv_at hl 1 rfl) ?_
                                refine lv_iconst (v := 5) hx hb dX12_person_236 (by decide) ?_
                                refine va_calli (va_runV (As := [.int 5]) (rest := [.int (fv 32), .ref (ad 17)]) ⟨hx, hb, hml, hown, hts⟩ (m_twoC l dC dI H.size h ad cA hd fv_168 wd_169 ar_176 hF_fv_168 hA_ar_176 5 (iv_w (⟨by decide, by decide⟩ : (5 : Int) ≤ (5 : Int32).toInt ∧ (5 : Int32).toInt ≤ 5) (by decide) (by decide))) (cwV 1 hts (gV kw_8_24 kw_8_26 kw_p_62 kw_1_15 kw_8_27) rfl rfl rfl (by decide +kernel) ⟨Nat.le_of_ble_eq_true rfl, Nat.le_of_ble_eq_true rfl⟩) ⟨fun a U g mk q => ⟨q.1, q.2.1, q.2.2.1, va_K.moved (u := U) (U := U.calling g mk a) (Vm.Alike.refl U.vm) q.2.2.2⟩, va_recv hK hP (ci := 12) (q0 := 0) rfl rfl, fun U hU hW => ⟨rfl, by rw [hU], by rw [hU]; exact hP, va_K.moved hW.alike hK⟩⟩ rfl rfl hl.1 rfl (lv_room (Nat.le_of_ble_eq_true rfl)) dX12_person_237 ⟨Nat.le_of_ble_eq_true rfl, Nat.le_of_ble_eq_true rfl⟩) hS (fun q _ h9 => aM_up hS q h9) (aM_up hS) (fun r_177 u t H1 locs ht _ hw hB _ hk1 hS => ?_)
                                obtain ⟨fv_180, wd_181, ar_182⟩ := u
                                obtain ⟨hF_fv_180, hA_ar_182, fr_183, fa_184, p_178, p_179, -⟩ := hw
                                have hP : va_P (dC, dI) vwCl (wsM h ad cA fv_180 wd_181 ar_182) H1 := by have h9 := hB.1; rw [ht] at h9; exact h9
                                have fr_183 : fM [] fv_168 fv_180 := fr_183
                                have fa_184 : fA [] ar_176 ar_182 := fa_184
                                have p_179 : r_177.toInt = wt_pr (ar_176 1) (5 : Int32).toInt.toNat := p_179
                                generalize H1 = H at hP hS ⊢
                                refine sM_17 hx hb hK hP hS hd (iv_in i_17 (by decide) (by decide)) dX12_person_240 (fun H locs ar_185 ear_185 hP hS => ?_)
                                have hA_ar_185 : rA ar_185 := rA_put hA_ar_182 ear_185 (iv_any _)
                                refine lv_aload_n hx hb dX12_person_241 rfl (lv_at hl 1 rfl) ?_
                                refine gM_72 hx hb htg hown hK hP dX12_person_242 ?_
                                refine lv_aload_n hx hb dX12_person_245 rfl (lv_at hl 1 rfl) ?_
                                refine gM_32 hx hb htg hown hK hP dX12_person_246 ?_
                                refine my_ti (y := fv 32) ((fr_183 32 rfl).trans ((fr_171 32 rfl).trans ((fr_162 32 rfl).trans ((fr_153 32 rfl).trans ((fr_144 32 rfl).trans ((fr_135 32 rfl).trans ((fr_121 32 rfl).trans ((fr_108 32 rfl).trans ((fr_95 32 rfl).trans ((fr_78 32 rfl).trans ((fr_65 32 rfl).trans ((fr_52 32 rfl).trans ((fr_9 32 rfl).trans ((congrFun efv_1 32))))))))))))))) ?_
                                refine lv_iconst (v := (-1)) hx hb dX12_person_249 (by decide) ?_
                                refine sM_72 hx hb hK hP hS hd (iv_in i_17 (by decide) (by decide)) dX12_person_250 (fun H locs ar_186 ear_186 hP hS => ?_)
                                have hA_ar_186 : rA ar_186 := rA_put hA_ar_185 ear_186 (iv_any _)
                                refine lv_aload_n hx hb dX12_person_251 rfl (lv_at hl 1 rfl) ?_
                                refine lv_dup hx hb dX12_person_252 rfl ?_
                                refine gM_32 hx hb htg hown hK hP dX12_person_253 ?_
                                refine my_ti (y := fv 32) ((fr_183 32 rfl).trans ((fr_171 32 rfl).trans ((fr_162 32 rfl).trans ((fr_153 32 rfl).trans ((fr_144 32 rfl).trans ((fr_135 32 rfl).trans ((fr_121 32 rfl).trans ((fr_108 32 rfl).trans ((fr_95 32 rfl).trans ((fr_78 32 rfl).trans ((fr_65 32 rfl).trans ((fr_52 32 rfl).trans ((fr_9 32 rfl).trans ((congrFun efv_1 32))))))))))))))) ?_
                                refine lv_iconst (v := 1) hx hb dX12_person_256 (by decide) ?_
                                refine lv_iadd hx hb dX12_person_257 ?_
                                refine lv_topi (fun v_187 ev_187 => ?_)
                                have t_188 : v_187.toInt = (fv 32).toInt + 1 ∧ 1 ≤ v_187.toInt ∧ v_187.toInt ≤ 40 := iv_addc ev_187 i_17 (by decide) (by decide) (by decide)
                                refine pM_32 hx hb htg hown hK hP hS hd dX12_person_258 (fun H locs fv_190 efv_190 hP hS => ?_)
                                have hF_fv_190 : rF fv_190 := rF_put hF_fv_180 efv_190 (iv_w t_188.2 (by decide) (by decide))
                                refine lv_aload_n hx hb dX12_person_261 rfl (lv_at hl 1 rfl) ?_
                                refine gM_32 hx hb htg hown hK hP dX12_person_262 ?_
                                refine my_ti (y := v_187) ((congrFun efv_190 32)) ?_
                                refine lv_iconst (v := 1) hx hb dX12_person_265 (by decide) ?_
                                refine lv_isub hx hb dX12_person_266 ?_
                                refine lv_topi (fun v_191 ev_191 => ?_)
                                have t_192 : v_191.toInt = v_187.toInt - 1 ∧ 0 ≤ v_191.toInt ∧ v_191.toInt ≤ 39 := iv_subc ev_191 t_188.2 (by decide) (by decide) (by decide)
                                exact W.iret (v := v_191) hx hb hr (fun t ht hW => ⟨⟨v_191, (fv_190, wd_181, ar_186), rfl, ⟨hF_fv_190, hA_ar_186, (fM_put (fM_call (fM_call (fM_call (fM_call (fM_call (fM_call (fM_call (fM_call (fM_call (fM_call (fM_call (fM_call (fM_call (fM_put (fM_rf [0, 2, 32] _) efv_1 (by decide)) fr_9 (by decide)) fr_52 (by decide)) fr_65 (by decide)) fr_78 (by decide)) fr_95 (by decide)) fr_108 (by decide)) fr_121 (by decide)) fr_135 (by decide)) fr_144 (by decide)) fr_153 (by decide)) fr_162 (by decide)) fr_171 (by decide)) fr_183 (by decide)) efv_190 (by decide)), (fA_put (fA_put (fA_call (fA_put (fA_call (fA_put (fA_call (fA_put (fA_call (fA_put (fA_call (fA_put (fA_call (fA_put (fA_put (fA_put (fA_call (fA_call (fA_call (fA_call (fA_call (fA_call (fA_call (fA_rf [9, 10, 11, 12, 13, 14, 15, 16, 17, 72] _) fa_10 (by decide)) fa_53 (by decide)) fa_66 (by decide)) fa_79 (by decide)) fa_96 (by decide)) fa_109 (by decide)) fa_122 (by decide)) ear_126 (by decide)) ear_127 (by decide)) ear_128 (by decide)) fa_136 (by decide)) ear_137 (by decide)) fa_145 (by decide)) ear_146 (by decide)) fa_154 (by decide)) ear_155 (by decide)) fa_163 (by decide)) ear_164 (by decide)) fa_172 (by decide)) ear_176 (by decide)) fa_184 (by decide)) ear_185 (by decide)) ear_186 (by decide)), (show wt_person v_191 (fv_190 32) (fv 32) (fv 2) (ar 1) a b v from by have q_fv_1 : (fv_1 32).toInt = (fv 32).toInt := congrArg Int32.toInt ((fM_put (fM_rf [0] _) efv_1 (by decide)) 32 rfl); have q_fv_6 : (fv_6 32).toInt = (fv 32).toInt := congrArg Int32.toInt ((fM_call (fM_put (fM_rf [0, 2] _) efv_1 (by decide)) fr_9 (by decide)) 32 rfl); exact Or.inr ⟨by omega, by rw [show fv_190 32 = v_187 from (congrFun efv_190 32)]; omega, by omega⟩), (show (fv_190 2).toInt = 0 from by rw [show fv_190 2 = (fv_6 2) from (congrFun efv_190 2).trans ((fr_183 2 rfl).trans ((fr_171 2 rfl).trans ((fr_162 2 rfl).trans ((fr_153 2 rfl).trans ((fr_144 2 rfl).trans ((fr_135 2 rfl).trans ((fr_121 2 rfl).trans ((fr_108 2 rfl).trans ((fr_95 2 rfl).trans ((fr_78 2 rfl).trans ((fr_65 2 rfl).trans ((fr_52 2 rfl)))))))))))))]; omega), trivial⟩, ⟨by rw [ht]; exact hP, va_K.moved hW.alike hK⟩⟩, hS.F ht⟩) hS.2.2 dX12_person_267
                              · skip
                                have i_194 : 10 ≤ r_115.toInt ∧ r_115.toInt ≤ 65535 := iv_lt2 (⟨by decide, by decide⟩ : (9 : Int) ≤ (9 : Int32).toInt ∧ (9 : Int32).toInt ≤ 9) p_116 (Int32.not_le.mp c_124)
                                refine lv_iconst (v := (-1)) hx hb dX12_person_122 (by decide) ?_
                                have z_195 : ((-1) : Int32).toInt = (-1) := by decide
                                exact W.iret (v := (-1)) hx hb hr (fun t ht hW => ⟨⟨(-1), (fv_118, wd_119, ar_120), rfl, ⟨hF_fv_118, hA_ar_120, (fM_call (fM_call (fM_call (fM_call (fM_call (fM_call (fM_call (fM_put (fM_rf [0, 2, 32] _) efv_1 (by decide)) fr_9 (by decide)) fr_52 (by decide)) fr_65 (by decide)) fr_78 (by decide)) fr_95 (by decide)) fr_108 (by decide)) fr_121 (by decide)), (fA_call (fA_call (fA_call (fA_call (fA_call (fA_call (fA_call (fA_rf [9, 10, 11, 12, 13, 14, 15, 16, 17, 72] _) fa_10 (by decide)) fa_53 (by decide)) fa_66 (by decide)) fa_79 (by decide)) fa_96 (by decide)) fa_109 (by decide)) fa_122 (by decide)), (show wt_person ((-1) : Int32) (fv_118 32) (fv 32) (fv 2) (ar 1) a b v from by have q_fv_1 : (fv_1 32).toInt = (fv 32).toInt := congrArg Int32.toInt ((fM_put (fM_rf [0] _) efv_1 (by decide)) 32 rfl); have q_fv_6 : (fv_6 32).toInt = (fv 32).toInt := congrArg Int32.toInt ((fM_call (fM_put (fM_rf [0, 2] _) efv_1 (by decide)) fr_9 (by decide)) 32 rfl); exact Or.inl ⟨rfl, (fr_121 32 rfl).trans ((fr_108 32 rfl).trans ((fr_95 32 rfl).trans ((fr_78 32 rfl).trans ((fr_65 32 rfl).trans ((fr_52 32 rfl).trans ((fr_9 32 rfl).trans ((congrFun efv_1 32)))))))), by omega⟩), (show (fv_118 2).toInt = 0 from by rw [show fv_118 2 = (fv_6 2) from (fr_121 2 rfl).trans ((fr_108 2 rfl).trans ((fr_95 2 rfl).trans ((fr_78 2 rfl).trans ((fr_65 2 rfl).trans ((fr_52 2 rfl))))))]; omega), trivial⟩, ⟨by rw [ht]; exact hP, va_K.moved hW.alike hK⟩⟩, hS.F ht⟩) hS.2.2 dX12_person_123
                · skip
                  have k_196 : ¬ r_2.toInt = 12 := fun q => c_43 (Int32.toInt_inj.mp q)
                  refine lv_iconst (v := (-1)) hx hb dX12_person_52 (by decide) ?_
                  have z_197 : ((-1) : Int32).toInt = (-1) := by decide
                  exact W.iret (v := (-1)) hx hb hr (fun t ht hW => ⟨⟨(-1), (fv_6, wd_7, ar_8), rfl, ⟨hF_fv_6, hA_ar_8, (fM_call (fM_put (fM_rf [0, 2, 32] _) efv_1 (by decide)) fr_9 (by decide)), (fA_call (fA_rf [9, 10, 11, 12, 13, 14, 15, 16, 17, 72] _) fa_10 (by decide)), (show wt_person ((-1) : Int32) (fv_6 32) (fv 32) (fv 2) (ar 1) a b v from by have q_fv_1 : (fv_1 32).toInt = (fv 32).toInt := congrArg Int32.toInt ((fM_put (fM_rf [0] _) efv_1 (by decide)) 32 rfl); have q_fv_6 : (fv_6 32).toInt = (fv 32).toInt := congrArg Int32.toInt ((fM_call (fM_put (fM_rf [0, 2] _) efv_1 (by decide)) fr_9 (by decide)) 32 rfl); exact Or.inl ⟨rfl, (fr_9 32 rfl).trans ((congrFun efv_1 32)), by omega⟩), (show (fv_6 2).toInt = 0 from by rw [show fv_6 2 = (fv_6 2) from rfl]; omega), trivial⟩, ⟨by rw [ht]; exact hP, va_K.moved hW.alike hK⟩⟩, hS.F ht⟩) hS.2.2 dX12_person_53
set_option maxHeartbeats 4000000 in
set_option maxRecDepth 100000 in
theorem m_rainC (l : Launch) (dC : Nat → ClassId) (dI : Nat → Nat → Nat) (sz h : Nat) (ad : Nat → Nat) (cA : Nat → ClassId) (hd : dM h ad) (fv : Nat → Int32) (wd : Int64) (ar : Nat → Nat → Int32) (hF_fv : rF fv) (hA_ar : rA ar) : Met l yX12_rain (.code yX12_rain cX12_rain 3 (some .boolean) :: lw_good) ({ frames := 3, cells := 0, slots := 0, locals := 62 }) (va_Pc [.ref h] (prM dC dI h ad cA fv wd ar sz)) (va_Qi (fun (r : Int32) (u : mS) => rF u.1 ∧ rA u.2.2 ∧ fM [0, 2, 7] fv u.1 ∧ fA [5] ar u.2.2 ∧ (0 ≤ r.toInt ∧ r.toInt ≤ 1) ∧ (wt_rain r (u.1 7) (fv 7) (fv 2) (u.2.2 5) (ar 5) (ar 1)) ∧ ((u.1 2).toInt = 0) ∧ True) (enM dC dI h ad cA) (aM h ad sz)) 0 0 (aM h ad sz) := by
  refine Met.ofW (cc := cX12_rain) (maxL := 3) (ret := (some .boolean)) (by decide) rfl ?_
  intro p e s m args below meth c s₁ B hml hv
  obtain ⟨rfl, hsz, hP, hK⟩ := hv
  have hx := B.exec
  have hb := B.bytes
  have hr := B.returns
  have hts := atoms_spec (ws := (.code yX12_rain cX12_rain 3 (some .boolean) :: lw_good)) B.pre
  have htg : ∀ w ∈ lw_good, w.before _ s = true := fun w hw => hts w (List.mem_cons_of_mem _ hw)
  have hown : s.vm.findClass RX12 = some m.cls := findClass_of_methodNamed B.named
  have hlocks := B.notSynchronized
  subst hsz
  have hS : va_S (aM h ad s.heap.size) s.heap s.heap [] := va_S.rf
  have hl := lv_entry ([.ref h]) (n := 3) (Nat.le_of_ble_eq_true rfl)
  rw [lg_entry_eq]
  generalize (lg_sl ([.ref h]) ++ List.replicate (3 - (lg_sl ([.ref h])).length) Slot.unset).toArray = ls at hl ⊢
  have hl : lv_has ls 3 [(0, .ref h)] := hl
  have zc0 : (0 : Int32).toInt = 0 := by decide
  have zc1 : (1 : Int32).toInt = 1 := by decide
  have zc10 : (10 : Int32).toInt = 10 := by decide
  have zc99 : (99 : Int32).toInt = 99 := by decide
  have zc200 : (200 : Int32).toInt = 200 := by decide
  have zc9999 : (9999 : Int32).toInt = 9999 := by decide
  have zcm1 : ((-1) : Int32).toInt = (-1) := by decide
  refine lv_aload_n hx hb dX12_rain_0 rfl (lv_at hl 0 rfl) ?_
  refine lv_iconst (v := 0) hx hb dX12_rain_1 (by decide) ?_
  refine pM_0 hx hb htg hown hK hP hS hd dX12_rain_2 (fun H locs fv_1 efv_1 hP hS => ?_)
  have hF_fv_1 : rF fv_1 := rF_put hF_fv efv_1 (iv_any _)
  refine lv_aload_n hx hb dX12_rain_5 rfl (lv_at hl 0 rfl) ?_
  refine va_calli (va_runV (As := []) (rest := []) ⟨hx, hb, hml, hown, hts⟩ (m_takeD l dC dI H.size h ad cA hd fv_1 wd ar hF_fv_1 hA_ar) (cwV 0 hts (gV kw_8_5 kw_8_7 kw_p_60 kw_1_15 kw_8_8) rfl rfl rfl (by decide +kernel) ⟨Nat.le_of_ble_eq_true rfl, Nat.le_of_ble_eq_true rfl⟩) ⟨fun a U g mk q => ⟨q.1, q.2.1, q.2.2.1, va_K.moved (u := U) (U := U.calling g mk a) (Vm.Alike.refl U.vm) q.2.2.2⟩, va_recv hK hP (ci := 12) (q0 := 0) rfl rfl, fun U hU hW => ⟨rfl, by rw [hU], by rw [hU]; exact hP, va_K.moved hW.alike hK⟩⟩ rfl rfl hl.1 rfl (lv_room (Nat.le_of_ble_eq_true rfl)) dX12_rain_6 ⟨Nat.le_of_ble_eq_true rfl, Nat.le_of_ble_eq_true rfl⟩) hS (fun q _ h9 => aM_up hS q h9) (aM_up hS) (fun r_2 u t H1 locs ht _ hw hB _ hk1 hS => ?_)
  obtain ⟨fv_6, wd_7, ar_8⟩ := u
  obtain ⟨hF_fv_6, hA_ar_8, fr_9, fa_10, p_3, p_4, p_5, -⟩ := hw
  have hP : va_P (dC, dI) vwCl (wsM h ad cA fv_6 wd_7 ar_8) H1 := by have h9 := hB.1; rw [ht] at h9; exact h9
  have fr_9 : fM [2] fv_1 fv_6 := fr_9
  have fa_10 : fA [] ar ar_8 := fa_10
  have p_4 : r_2 = fv_1 2 := p_4
  have p_5 : (fv_6 2).toInt = 0 := p_5
  generalize H1 = H at hP hS ⊢
  have k_11 : r_2 = fv 2 := (p_4).trans (((fM_put (fM_rf [0] _) efv_1 (by decide)) 2 rfl))
  refine lv_istore_n (lv' := [(1, .int r_2), (0, .ref h)]) hx hb dX12_rain_9 rfl hl (by decide) rfl (fun ls hl => ?_)
  refine lv_iload_n hx hb dX12_rain_10 rfl (lv_at hl 0 rfl) ?_
  refine lv_iconst (v := 1) hx hb dX12_rain_11 (by decide) ?_
  refine lv_sipush (v := 200) hx hb dX12_rain_12 (by decide) ?_
  refine va_calli (va_runS (As := [.int r_2, .int 1, .int 200]) (rest := []) ⟨hx, hb, hml, hown, hts⟩ (m_isIn l H.size r_2 1 200) (va_cwS 3 hts (gS kw_7_218 kw_7_219 kw_1_15 kw_7_220) rfl rfl rfl (by decide +kernel) ⟨Nat.le_of_ble_eq_true rfl, Nat.le_of_ble_eq_true rfl⟩) ⟨fun a U g mk q => ⟨q.1, q.2⟩, fun U hU hW => ⟨rfl, congrArg Array.size hU⟩⟩ rfl rfl hl.1 rfl (lv_room (Nat.le_of_ble_eq_true rfl)) dX12_rain_15 ⟨Nat.le_of_ble_eq_true rfl, Nat.le_of_ble_eq_true rfl⟩) hS (fun q _ h9 => nM_up hS q h9) (nM_up hS) (fun r_12 u t H1 locs ht _ hw hB _ hk1 hS => ?_)
  obtain ⟨p_13, p_14, -⟩ := hw
  have hP := my_keepM hP hk1
  generalize H1 = H at hP hS ⊢
  rcases p_14 with ⟨rfl, p_14⟩ | ⟨rfl, p_14⟩
  · skip
    refine lv_if_ne (tgt := 23) hx hb dX12_rain_18 (by decide) (fun c_15 => ?_) (fun c_15 => ?_)
    · skip
      exact absurd c_15 (by decide)
    · skip
      refine lv_iconst (v := 0) hx hb dX12_rain_21 (by decide) ?_
      have z_16 : (0 : Int32).toInt = 0 := by decide
      exact W.zret (v := 0) hx hb hr (by decide) (fun t ht hW => ⟨⟨0, (fv_6, wd_7, ar_8), rfl, ⟨hF_fv_6, hA_ar_8, (fM_call (fM_put (fM_rf [0, 2, 7] _) efv_1 (by decide)) fr_9 (by decide)), (fA_call (fA_rf [5] _) fa_10 (by decide)), (iv_w (⟨by decide, by decide⟩ : (0 : Int) ≤ (0 : Int32).toInt ∧ (0 : Int32).toInt ≤ 0) (by decide) (by decide)), (show wt_rain (0 : Int32) (fv_6 7) (fv 7) (fv 2) (ar_8 5) (ar 5) (ar 1) from Or.inl ⟨rfl, (fr_9 7 rfl).trans ((congrFun efv_1 7)), ((fA_call (fA_rf [] _) fa_10 (by decide)) 5 rfl), (fun w => by have h1 := w.1; have h2 := w.2.1; omega)⟩), (show (fv_6 2).toInt = 0 from by rw [show fv_6 2 = (fv_6 2) from rfl]; omega), trivial⟩, ⟨by rw [ht]; exact hP, va_K.moved hW.alike hK⟩⟩, hS.F ht⟩) hS.2.2 dX12_rain_22
  · skip
    have i_17 : 1 ≤ r_2.toInt ∧ r_2.toInt ≤ 340 := iv_le2 (⟨by decide, by decide⟩ : (1 : Int) ≤ (1 : Int32).toInt ∧ (1 : Int32).toInt ≤ 1) p_3 (Int32.le_iff_toInt_le.mpr p_14.1)
    have i_18 : 1 ≤ r_2.toInt ∧ r_2.toInt ≤ 200 := iv_le1 i_17 (⟨by decide, by decide⟩ : (200 : Int) ≤ (200 : Int32).toInt ∧ (200 : Int32).toInt ≤ 200) (Int32.le_iff_toInt_le.mpr p_14.2)
    refine lv_if_ne (tgt := 23) hx hb dX12_rain_18 (by decide) (fun c_19 => ?_) (fun c_19 => ?_)
    · skip
      refine lv_iconst (v := 0) hx hb dX12_rain_23 (by decide) ?_
      refine lv_istore_n (lv' := [(2, .int 0), (1, .int r_2), (0, .ref h)]) hx hb dX12_rain_24 rfl hl (by decide) rfl (fun ls hl => ?_)
      refine my_cut (P := fun R9 a9 Q9 => ∀ (n_22 : Nat) (x_20 : Int32) (H : Heap) (locs : List Loc) (ls : Array Slot), 200 - x_20.toInt < (n_22 : Int) → (0 ≤ x_20.toInt ∧ x_20.toInt ≤ 200) → (∀ j : Nat, (j : Int) < x_20.toInt → (ar 1 j).toInt ≤ 9 ∨ (ar 1 j).toInt = 255) → va_P (dC, dI) vwCl (wsM h ad cA fv_6 wd_7 ar_8) H → va_S (aM h ad s.heap.size) s.heap H locs → lv_has ls 3 [(0, .ref h), (1, .int r_2), (2, .int x_20)] → W p l e R9 s m a9 below meth c H locs 0 0 Q9 (F0 m 25 ls [])) ?_ (fun hj_24 => ?_)
      · intro n_22
        induction n_22 with
        | zero => intro x_20 H locs ls fu_23 i_x_20 q_21; exfalso; omega
        | succ n_22 ih_22 =>
          intro x_20 H locs ls fu_23 i_x_20 q_21 hP hS hl
          refine lv_iload_n hx hb dX12_rain_25 rfl (lv_at hl 2 rfl) ?_
          refine lv_iload_n hx hb dX12_rain_26 rfl (lv_at hl 1 rfl) ?_
          refine lv_icmp_ge (tgt := 61) hx hb dX12_rain_27 (by decide) (fun c_25 => ?_) (fun c_25 => ?_)
          · skip
            have i_26 : 1 ≤ x_20.toInt ∧ x_20.toInt ≤ 200 := iv_le2 i_18 i_x_20 c_25
            have k_27 := Int32.le_iff_toInt_le.mp c_25
            refine lv_iconst (v := 0) hx hb dX12_rain_61 (by decide) ?_
            refine lv_istore_n (lv' := [(2, .int 0), (0, .ref h), (1, .int r_2)]) hx hb dX12_rain_62 rfl hl (by decide) rfl (fun ls hl => ?_)
            refine my_cut (P := fun R9 a9 Q9 => ∀ (n_33 : Nat) (x_28 : Int32) (ar_29 : Nat → Nat → Int32) (H : Heap) (locs : List Loc) (ls : Array Slot), 200 - x_28.toInt < (n_33 : Int) → (0 ≤ x_28.toInt ∧ x_28.toInt ≤ 200) → rA ar_29 → fA [5] ar_8 ar_29 → (ar_29 5 = wt_rn x_28.toInt.toNat (ar 5) (ar 1)) → (x_28.toInt ≤ (fv 2).toInt) → va_P (dC, dI) vwCl (wsM h ad cA fv_6 wd_7 ar_29) H → va_S (aM h ad s.heap.size) s.heap H locs → lv_has ls 3 [(0, .ref h), (1, .int r_2), (2, .int x_28)] → W p l e R9 s m a9 below meth c H locs 0 0 Q9 (F0 m 63 ls [])) ?_ (fun hj_35 => ?_)
            · intro n_33
              induction n_33 with
              | zero => intro x_28 ar_29 H locs ls fu_34 i_x_28 hA_ar_29 fa_30 q_31 q_32; exfalso; omega
              | succ n_33 ih_33 =>
                intro x_28 ar_29 H locs ls fu_34 i_x_28 hA_ar_29 fa_30 q_31 q_32 hP hS hl
                refine lv_iload_n hx hb dX12_rain_63 rfl (lv_at hl 2 rfl) ?_
                refine lv_iload_n hx hb dX12_rain_64 rfl (lv_at hl 1 rfl) ?_
                refine lv_icmp_ge (tgt := 116) hx hb dX12_rain_65 (by decide) (fun c_36 => ?_) (fun c_36 => ?_)
                · skip
                  have i_37 : 1 ≤ x_28.toInt ∧ x_28.toInt ≤ 200 := iv_le2 i_18 i_x_28 c_36
                  have k_38 := Int32.le_iff_toInt_le.mp c_36
                  refine lv_aload_n hx hb dX12_rain_116 rfl (lv_at hl 0 rfl) ?_
                  refine lv_iload_n hx hb dX12_rain_117 rfl (lv_at hl 1 rfl) ?_
                  refine pM_7 hx hb htg hown hK hP hS hd dX12_rain_118 (fun H locs fv_39 efv_39 hP hS => ?_)
                  have hF_fv_39 : rF fv_39 := rF_put hF_fv_6 efv_39 (iv_w i_18 (by decide) (by decide))
                  refine lv_iconst (v := 1) hx hb dX12_rain_121 (by decide) ?_
                  have z_40 : (1 : Int32).toInt = 1 := by decide
                  exact W.zret (v := 1) hx hb hr (by decide) (fun t ht hW => ⟨⟨1, (fv_39, wd_7, ar_29), rfl, ⟨hF_fv_39, hA_ar_29, (fM_put (fM_call (fM_put (fM_rf [0, 2, 7] _) efv_1 (by decide)) fr_9 (by decide)) efv_39 (by decide)), (fA_call (fA_call (fA_rf [5] _) fa_10 (by decide)) fa_30 (by decide)), (iv_w (⟨by decide, by decide⟩ : (1 : Int) ≤ (1 : Int32).toInt ∧ (1 : Int32).toInt ≤ 1) (by decide) (by decide)), (show wt_rain (1 : Int32) (fv_39 7) (fv 7) (fv 2) (ar_29 5) (ar 5) (ar 1) from Or.inr ⟨rfl, ((congrFun efv_39 7)).trans p_4, by rw [q_31, show x_28.toInt.toNat = (fv 2).toInt.toNat from (by omega)], ⟨by omega, by omega, fun j hj => q_21 j (by omega)⟩⟩), (show (fv_39 2).toInt = 0 from by rw [show fv_39 2 = (fv_6 2) from (congrFun efv_39 2)]; omega), trivial⟩, ⟨by rw [ht]; exact hP, va_K.moved hW.alike hK⟩⟩, hS.F ht⟩) hS.2.2 dX12_rain_122
                · skip
                  have i_41 : 0 ≤ x_28.toInt ∧ x_28.toInt ≤ 199 := iv_lt1 i_x_28 i_18 (Int32.not_le.mp c_36)
                  have k_42 := Int32.lt_iff_toInt_lt.mp (Int32.not_le.mp c_36)
                  refine lv_aload_n hx hb dX12_rain_68 rfl (lv_at hl 0 rfl) ?_
                  refine gM_5 hx hb htg hown hK hP dX12_rain_69 ?_
                  refine lv_iload_n hx hb dX12_rain_72 rfl (lv_at hl 2 rfl) ?_
                  refine lv_aload_n hx hb dX12_rain_73 rfl (lv_at hl 0 rfl) ?_
                  refine gM_1 hx hb htg hown hK hP dX12_rain_74 ?_
                  refine lv_iload_n hx hb dX12_rain_77 rfl (lv_at hl 2 rfl) ?_
                  refine lM_1 hx hb hK hP (iv_in i_41 (by decide) (by decide)) dX12_rain_78 (fun v_43 ev_43 => ?_)
                  have i_44 : 0 ≤ v_43.toInt ∧ v_43.toInt ≤ 255 := ev_43 ▸ hA_ar_29 1 _
                  refine lv_bipush (v := 10) hx hb dX12_rain_79 (by decide) ?_
                  refine lv_icmp_ge (tgt := 93) hx hb dX12_rain_81 (by decide) (fun c_45 => ?_) (fun c_45 => ?_)
                  · skip
                    have i_46 : 10 ≤ v_43.toInt ∧ v_43.toInt ≤ 255 := iv_le2 (⟨by decide, by decide⟩ : (10 : Int) ≤ (10 : Int32).toInt ∧ (10 : Int32).toInt ≤ 10) i_44 c_45
                    refine lv_iload_n hx hb dX12_rain_93 rfl (lv_at hl 2 rfl) ?_
                    refine lv_if_ne (tgt := 101) hx hb dX12_rain_94 (by decide) (fun c_47 => ?_) (fun c_47 => ?_)
                    · skip
                      have i_48 : 1 ≤ x_28.toInt ∧ x_28.toInt ≤ 199 := iv_nel i_41 (by decide) c_47
                      have k_49 : ¬ x_28.toInt = 0 := fun q => c_47 (Int32.toInt_inj.mp q)
                      refine lv_aload_n hx hb dX12_rain_101 rfl (lv_at hl 0 rfl) ?_
                      refine gM_5 hx hb htg hown hK hP dX12_rain_102 ?_
                      refine lv_iload_n hx hb dX12_rain_105 rfl (lv_at hl 2 rfl) ?_
                      refine lv_iconst (v := 1) hx hb dX12_rain_106 (by decide) ?_
                      refine lv_isub hx hb dX12_rain_107 ?_
                      refine lv_topi (fun v_50 ev_50 => ?_)
                      have t_51 : v_50.toInt = x_28.toInt - 1 ∧ 0 ≤ v_50.toInt ∧ v_50.toInt ≤ 198 := iv_subc ev_50 i_48 (by decide) (by decide) (by decide)
                      refine lM_5 hx hb hK hP (iv_in t_51.2 (by decide) (by decide)) dX12_rain_108 (fun v_53 ev_53 => ?_)
                      refine sM_5 hx hb hK hP hS hd (iv_in i_48 (by decide) (by decide)) dX12_rain_109 (fun H locs ar_54 ear_54 hP hS => ?_)
                      have hA_ar_54 : rA ar_54 := rA_put hA_ar_29 ear_54 (iv_any _)
                      obtain ⟨v_55, ev_55⟩ : ∃ z : Int32, z = x_28 + 1 := ⟨_, rfl⟩
                      refine lv_iinc (v := v_55) (lv' := [(2, .int v_55), (0, .ref h), (1, .int r_2)]) hx hb dX12_rain_110 hl (k := 2) rfl (by rw [ev_55]; rfl) (by decide) rfl (fun ls hl => ?_)
                      have t_56 : v_55.toInt = x_28.toInt + 1 ∧ 2 ≤ v_55.toInt ∧ v_55.toInt ≤ 200 := iv_addc ev_55 i_48 (by decide) (by decide) (by decide)
                      refine lv_goto (tgt := 63) hx hb dX12_rain_113 (by decide) ?_
                      exact ih_33 v_55 ar_54 _ _ ls (by omega) (iv_w t_56.2 (by decide) (by decide)) hA_ar_54 (fA_put (fA_call (fA_rf [5] _) fa_30 (by decide)) ear_54 (by decide)) (by have hT : ar 1 (x_28.toInt.toNat) = v_43 := (congrFun (((fA_call (fA_call (fA_rf [5] _) fa_10 (by decide)) fa_30 (by decide)) 1 rfl)) _).symm.trans ev_43.symm; have hq : v_43.toInt ≤ 9 ∨ v_43.toInt = 255 := (by have h9 := q_21 (x_28.toInt.toNat) (by omega); rw [hT] at h9; exact h9); rw [show v_55.toInt.toNat = x_28.toInt.toNat + 1 from (by omega)]; exact wt_rs q_31 (show ar_54 5 = upd (ar_29 5) (x_28.toInt.toNat) v_53 from by rw [ear_54]; rfl) (Or.inr (Or.inl ⟨by rw [hT]; omega, by omega, by rw [ev_53]; show ar_29 5 (v_50.toInt.toNat) = _; rw [show v_50.toInt.toNat = x_28.toInt.toNat - 1 from (by omega)]⟩))) (by omega) hP hS (lv_sub hl [1, 2, 0] rfl)
                    · skip
                      have i_58 : 0 ≤ x_28.toInt ∧ x_28.toInt ≤ 0 := iv_eq1 (⟨by decide, by decide⟩ : (0 : Int) ≤ (0 : Int32).toInt ∧ (0 : Int32).toInt ≤ 0) c_47
                      refine lv_iconst (v := 0) hx hb dX12_rain_97 (by decide) ?_
                      refine lv_goto (tgt := 109) hx hb dX12_rain_98 (by decide) ?_
                      refine sM_5 hx hb hK hP hS hd (iv_in i_58 (by decide) (by decide)) dX12_rain_109 (fun H locs ar_60 ear_60 hP hS => ?_)
                      have hA_ar_60 : rA ar_60 := rA_put hA_ar_29 ear_60 (iv_any _)
                      obtain ⟨v_61, ev_61⟩ : ∃ z : Int32, z = x_28 + 1 := ⟨_, rfl⟩
                      refine lv_iinc (v := v_61) (lv' := [(2, .int v_61), (0, .ref h), (1, .int r_2)]) hx hb dX12_rain_110 hl (k := 2) rfl (by rw [ev_61]; rfl) (by decide) rfl (fun ls hl => ?_)
                      have t_62 : v_61.toInt = x_28.toInt + 1 ∧ 1 ≤ v_61.toInt ∧ v_61.toInt ≤ 1 := iv_addc ev_61 i_58 (by decide) (by decide) (by decide)
                      refine lv_goto (tgt := 63) hx hb dX12_rain_113 (by decide) ?_
                      exact ih_33 v_61 ar_60 _ _ ls (by omega) (iv_w t_62.2 (by decide) (by decide)) hA_ar_60 (fA_put (fA_call (fA_rf [5] _) fa_30 (by decide)) ear_60 (by decide)) (by have hT : ar 1 (x_28.toInt.toNat) = v_43 := (congrFun (((fA_call (fA_call (fA_rf [5] _) fa_10 (by decide)) fa_30 (by decide)) 1 rfl)) _).symm.trans ev_43.symm; have hq : v_43.toInt ≤ 9 ∨ v_43.toInt = 255 := (by have h9 := q_21 (x_28.toInt.toNat) (by omega); rw [hT] at h9; exact h9); rw [show v_61.toInt.toNat = x_28.toInt.toNat + 1 from (by omega)]; exact wt_rs q_31 (show ar_60 5 = upd (ar_29 5) (x_28.toInt.toNat) 0 from by rw [ear_60]; rfl) (Or.inl ⟨by rw [hT]; omega, by omega, rfl⟩)) (by omega) hP hS (lv_sub hl [1, 2, 0] rfl)
                  · skip
                    have i_64 : 0 ≤ v_43.toInt ∧ v_43.toInt ≤ 9 := iv_lt1 i_44 (⟨by decide, by decide⟩ : (10 : Int) ≤ (10 : Int32).toInt ∧ (10 : Int32).toInt ≤ 10) (Int32.not_le.mp c_45)
                    refine lv_aload_n hx hb dX12_rain_84 rfl (lv_at hl 0 rfl) ?_
                    refine gM_1 hx hb htg hown hK hP dX12_rain_85 ?_
                    refine lv_iload_n hx hb dX12_rain_88 rfl (lv_at hl 2 rfl) ?_
                    refine lM_1 hx hb hK hP (iv_in i_41 (by decide) (by decide)) dX12_rain_89 (fun v_65 ev_65 => ?_)
                    obtain rfl : v_43 = v_65 := ev_43.trans ev_65.symm
                    refine lv_goto (tgt := 109) hx hb dX12_rain_90 (by decide) ?_
                    refine sM_5 hx hb hK hP hS hd (iv_in i_41 (by decide) (by decide)) dX12_rain_109 (fun H locs ar_66 ear_66 hP hS => ?_)
                    have hA_ar_66 : rA ar_66 := rA_put hA_ar_29 ear_66 (iv_any _)
                    obtain ⟨v_67, ev_67⟩ : ∃ z : Int32, z = x_28 + 1 := ⟨_, rfl⟩
                    refine lv_iinc (v := v_67) (lv' := [(2, .int v_67), (0, .ref h), (1, .int r_2)]) hx hb dX12_rain_110 hl (k := 2) rfl (by rw [ev_67]; rfl) (by decide) rfl (fun ls hl => ?_)
                    have t_68 : v_67.toInt = x_28.toInt + 1 ∧ 1 ≤ v_67.toInt ∧ v_67.toInt ≤ 200 := iv_addc ev_67 i_41 (by decide) (by decide) (by decide)
                    refine lv_goto (tgt := 63) hx hb dX12_rain_113 (by decide) ?_
                    exact ih_33 v_67 ar_66 _ _ ls (by omega) (iv_w t_68.2 (by decide) (by decide)) hA_ar_66 (fA_put (fA_call (fA_rf [5] _) fa_30 (by decide)) ear_66 (by decide)) (by have hT : ar 1 (x_28.toInt.toNat) = v_43 := (congrFun (((fA_call (fA_call (fA_rf [5] _) fa_10 (by decide)) fa_30 (by decide)) 1 rfl)) _).symm.trans ev_43.symm; have hq : v_43.toInt ≤ 9 ∨ v_43.toInt = 255 := (by have h9 := q_21 (x_28.toInt.toNat) (by omega); rw [hT] at h9; exact h9); rw [show v_67.toInt.toNat = x_28.toInt.toNat + 1 from (by omega)]; exact wt_rs q_31 (show ar_66 5 = upd (ar_29 5) (x_28.toInt.toNat) v_43 from by rw [ear_66]; rfl) (Or.inr (Or.inr ⟨by rw [hT]; omega, hT.symm⟩))) (by omega) hP hS (lv_sub hl [1, 2, 0] rfl)
            · skip
              have z_70 : (0 : Int32).toInt = 0 := by decide
              exact hj_35 201 0 ar_8 _ _ ls (by first | decide | omega) (iv_w (⟨by decide, by decide⟩ : (0 : Int) ≤ (0 : Int32).toInt ∧ (0 : Int32).toInt ≤ 0) (by decide) (by decide)) hA_ar_8 (fA_rf [5] _) (by rw [show (0 : Int32).toInt.toNat = 0 from (by decide), show ar_8 5 = ar 5 from ((fA_call (fA_rf [] _) fa_10 (by decide)) 5 rfl)]; rfl) (by omega) hP hS (lv_sub hl [1, 2, 0] rfl)
          · skip
            have i_71 : 0 ≤ x_20.toInt ∧ x_20.toInt ≤ 199 := iv_lt1 i_x_20 i_18 (Int32.not_le.mp c_25)
            have k_72 := Int32.lt_iff_toInt_lt.mp (Int32.not_le.mp c_25)
            refine lv_aload_n hx hb dX12_rain_30 rfl (lv_at hl 0 rfl) ?_
            refine gM_1 hx hb htg hown hK hP dX12_rain_31 ?_
            refine lv_iload_n hx hb dX12_rain_34 rfl (lv_at hl 2 rfl) ?_
            refine lM_1 hx hb hK hP (iv_in i_71 (by decide) (by decide)) dX12_rain_35 (fun v_73 ev_73 => ?_)
            have i_74 : 0 ≤ v_73.toInt ∧ v_73.toInt ≤ 255 := ev_73 ▸ hA_ar_8 1 _
            refine lv_bipush (v := 9) hx hb dX12_rain_36 (by decide) ?_
            refine lv_icmp_le (tgt := 55) hx hb dX12_rain_38 (by decide) (fun c_75 => ?_) (fun c_75 => ?_)
            · skip
              have i_76 : 0 ≤ v_73.toInt ∧ v_73.toInt ≤ 9 := iv_le1 i_74 (⟨by decide, by decide⟩ : (9 : Int) ≤ (9 : Int32).toInt ∧ (9 : Int32).toInt ≤ 9) c_75
              obtain ⟨v_77, ev_77⟩ : ∃ z : Int32, z = x_20 + 1 := ⟨_, rfl⟩
              refine lv_iinc (v := v_77) (lv' := [(2, .int v_77), (0, .ref h), (1, .int r_2)]) hx hb dX12_rain_55 hl (k := 2) rfl (by rw [ev_77]; rfl) (by decide) rfl (fun ls hl => ?_)
              have t_78 : v_77.toInt = x_20.toInt + 1 ∧ 1 ≤ v_77.toInt ∧ v_77.toInt ≤ 200 := iv_addc ev_77 i_71 (by decide) (by decide) (by decide)
              refine lv_goto (tgt := 25) hx hb dX12_rain_58 (by decide) ?_
              exact ih_22 v_77 _ _ ls (by omega) (iv_w t_78.2 (by decide) (by decide)) (fun j hj => by by_cases h9 : (j : Int) < x_20.toInt; exact q_21 j h9; have h8 : j = x_20.toInt.toNat := (by omega); have h7 : ar 1 (x_20.toInt.toNat) = v_73 := (congrFun (((fA_call (fA_rf [] _) fa_10 (by decide)) 1 rfl)) _).symm.trans ev_73.symm; rw [h8, h7]; omega) hP hS (lv_sub hl [1, 2, 0] rfl)
            · skip
              have i_80 : 10 ≤ v_73.toInt ∧ v_73.toInt ≤ 255 := iv_lt2 (⟨by decide, by decide⟩ : (9 : Int) ≤ (9 : Int32).toInt ∧ (9 : Int32).toInt ≤ 9) i_74 (Int32.not_le.mp c_75)
              refine lv_aload_n hx hb dX12_rain_41 rfl (lv_at hl 0 rfl) ?_
              refine gM_1 hx hb htg hown hK hP dX12_rain_42 ?_
              refine lv_iload_n hx hb dX12_rain_45 rfl (lv_at hl 2 rfl) ?_
              refine lM_1 hx hb hK hP (iv_in i_71 (by decide) (by decide)) dX12_rain_46 (fun v_81 ev_81 => ?_)
              obtain rfl : v_73 = v_81 := ev_73.trans ev_81.symm
              refine lv_sipush (v := 255) hx hb dX12_rain_47 (by decide) ?_
              refine lv_icmp_eq (tgt := 55) hx hb dX12_rain_50 (by decide) (fun c_82 => ?_) (fun c_82 => ?_)
              · skip
                have i_83 : 255 ≤ v_73.toInt ∧ v_73.toInt ≤ 255 := iv_eq1 (⟨by decide, by decide⟩ : (255 : Int) ≤ (255 : Int32).toInt ∧ (255 : Int32).toInt ≤ 255) c_82
                obtain ⟨v_85, ev_85⟩ : ∃ z : Int32, z = x_20 + 1 := ⟨_, rfl⟩
                refine lv_iinc (v := v_85) (lv' := [(2, .int v_85), (0, .ref h), (1, .int r_2)]) hx hb dX12_rain_55 hl (k := 2) rfl (by rw [ev_85]; rfl) (by decide) rfl (fun ls hl => ?_)
                have t_86 : v_85.toInt = x_20.toInt + 1 ∧ 1 ≤ v_85.toInt ∧ v_85.toInt ≤ 200 := iv_addc ev_85 i_71 (by decide) (by decide) (by decide)
                refine lv_goto (tgt := 25) hx hb dX12_rain_58 (by decide) ?_
                exact ih_22 v_85 _ _ ls (by omega) (iv_w t_86.2 (by decide) (by decide)) (fun j hj => by by_cases h9 : (j : Int) < x_20.toInt; exact q_21 j h9; have h8 : j = x_20.toInt.toNat := (by omega); have h7 : ar 1 (x_20.toInt.toNat) = v_73 := (congrFun (((fA_call (fA_rf [] _) fa_10 (by decide)) 1 rfl)) _).symm.trans ev_73.symm; rw [h8, h7]; omega) hP hS (lv_sub hl [1, 2, 0] rfl)
              · skip
                have i_88 : 10 ≤ v_73.toInt ∧ v_73.toInt ≤ 254 := iv_neh i_80 (by decide) c_82
                have k_89 : ¬ v_73.toInt = 255 := fun q => c_82 (Int32.toInt_inj.mp q)
                refine lv_iconst (v := 0) hx hb dX12_rain_53 (by decide) ?_
                have z_90 : (0 : Int32).toInt = 0 := by decide
                exact W.zret (v := 0) hx hb hr (by decide) (fun t ht hW => ⟨⟨0, (fv_6, wd_7, ar_8), rfl, ⟨hF_fv_6, hA_ar_8, (fM_call (fM_put (fM_rf [0, 2, 7] _) efv_1 (by decide)) fr_9 (by decide)), (fA_call (fA_rf [5] _) fa_10 (by decide)), (iv_w (⟨by decide, by decide⟩ : (0 : Int) ≤ (0 : Int32).toInt ∧ (0 : Int32).toInt ≤ 0) (by decide) (by decide)), (show wt_rain (0 : Int32) (fv_6 7) (fv 7) (fv 2) (ar_8 5) (ar 5) (ar 1) from Or.inl ⟨rfl, (fr_9 7 rfl).trans ((congrFun efv_1 7)), ((fA_call (fA_rf [] _) fa_10 (by decide)) 5 rfl), (fun w => by have h1 := w.2.2 (x_20.toInt.toNat) (by omega); have h2 : ar 1 (x_20.toInt.toNat) = v_73 := (congrFun (((fA_call (fA_rf [] _) fa_10 (by decide)) 1 rfl)) _).symm.trans ev_73.symm; rw [h2] at h1; omega)⟩), (show (fv_6 2).toInt = 0 from by rw [show fv_6 2 = (fv_6 2) from rfl]; omega), trivial⟩, ⟨by rw [ht]; exact hP, va_K.moved hW.alike hK⟩⟩, hS.F ht⟩) hS.2.2 dX12_rain_54
      · skip
        have z_91 : (0 : Int32).toInt = 0 := by decide
        exact hj_24 201 0 _ _ ls (by first | decide | omega) (iv_w (⟨by decide, by decide⟩ : (0 : Int) ≤ (0 : Int32).toInt ∧ (0 : Int32).toInt ≤ 0) (by decide) (by decide)) (fun j hj => absurd hj (by have h9 : (0 : Int32).toInt = 0 := (by decide); omega)) hP hS (lv_sub hl [2, 1, 0] rfl)
    · skip
      exact absurd c_19 (by decide)
set_option maxHeartbeats 4000000 in
set_option maxRecDepth 100000 in
theorem m_rainOfC (l : Launch) (dC : Nat → ClassId) (dI : Nat → Nat → Nat) (sz h : Nat) (ad : Nat → Nat) (cA : Nat → ClassId) (hd : dM h ad) (fv : Nat → Int32) (wd : Int64) (ar : Nat → Nat → Int32) (hF_fv : rF fv) (hA_ar : rA ar) (a : Int32) (h_a : 0 ≤ a.toInt ∧ a.toInt ≤ 199) : Met l yX12_rainOf (.code yX12_rainOf cX12_rainOf 2 (some .int) :: lw_good) ({ frames := 2, cells := 0, slots := 0, locals := 40 }) (va_Pc [.ref h, .int a] (prM dC dI h ad cA fv wd ar sz)) (va_Qi (fun (r : Int32) (u : mS) => rF u.1 ∧ rA u.2.2 ∧ fM [] fv u.1 ∧ fA [] ar u.2.2 ∧ (wt_on r a (fv 7) (ar 5)) ∧ True) (enM dC dI h ad cA) (aM h ad sz)) 0 0 (aM h ad sz) := by
  refine Met.ofW (cc := cX12_rainOf) (maxL := 2) (ret := (some .int)) (by decide) rfl ?_
  intro p e s m args below meth c s₁ B hml hv
  obtain ⟨rfl, hsz, hP, hK⟩ := hv
  have hx := B.exec
  have hb := B.bytes
  have hr := B.returns
  have hts := atoms_spec (ws := (.code yX12_rainOf cX12_rainOf 2 (some .int) :: lw_good)) B.pre
  have htg : ∀ w ∈ lw_good, w.before _ s = true := fun w hw => hts w (List.mem_cons_of_mem _ hw)
  have hown : s.vm.findClass RX12 = some m.cls := findClass_of_methodNamed B.named
  have hlocks := B.notSynchronized
  subst hsz
  have hS : va_S (aM h ad s.heap.size) s.heap s.heap [] := va_S.rf
  have hl := lv_entry ([.ref h, .int a]) (n := 2) (Nat.le_of_ble_eq_true rfl)
  rw [lg_entry_eq]
  generalize (lg_sl ([.ref h, .int a]) ++ List.replicate (2 - (lg_sl ([.ref h, .int a])).length) Slot.unset).toArray = ls at hl ⊢
  have hl : lv_has ls 2 [(0, .ref h), (1, .int a)] := hl
  refine lv_aload_n hx hb dX12_rainOf_0 rfl (lv_at hl 0 rfl) ?_
  refine gM_7 hx hb htg hown hK hP dX12_rainOf_1 ?_
  have i_1 : 0 ≤ (fv 7).toInt ∧ (fv 7).toInt ≤ 200 := hF_fv 7
  refine lv_if_ne (tgt := 11) hx hb dX12_rainOf_4 (by decide) (fun c_2 => ?_) (fun c_2 => ?_)
  · skip
    have i_3 : 1 ≤ (fv 7).toInt ∧ (fv 7).toInt ≤ 200 := iv_nel i_1 (by decide) c_2
    have k_4 : ¬ (fv 7).toInt = 0 := fun q => c_2 (Int32.toInt_inj.mp q)
    refine lv_iload_n hx hb dX12_rainOf_11 rfl (lv_at hl 1 rfl) ?_
    refine lv_aload_n hx hb dX12_rainOf_12 rfl (lv_at hl 0 rfl) ?_
    refine gM_7 hx hb htg hown hK hP dX12_rainOf_13 ?_
    refine lv_icmp_lt (tgt := 24) hx hb dX12_rainOf_16 (by decide) (fun c_5 => ?_) (fun c_5 => ?_)
    · skip
      have k_6 := Int32.lt_iff_toInt_lt.mp c_5
      refine lv_aload_n hx hb dX12_rainOf_24 rfl (lv_at hl 0 rfl) ?_
      refine gM_5 hx hb htg hown hK hP dX12_rainOf_25 ?_
      refine lv_iload_n hx hb dX12_rainOf_28 rfl (lv_at hl 1 rfl) ?_
      refine lM_5 hx hb hK hP (iv_in h_a (by decide) (by decide)) dX12_rainOf_29 (fun v_7 ev_7 => ?_)
      exact W.iret (v := v_7) hx hb hr (fun t ht hW => ⟨⟨v_7, (fv, wd, ar), rfl, ⟨hF_fv, hA_ar, (fM_rf [] _), (fA_rf [] _), (show wt_on v_7 a (fv 7) (ar 5) from Or.inr (Or.inl ⟨by omega, by omega, ev_7⟩)), trivial⟩, ⟨by rw [ht]; exact hP, va_K.moved hW.alike hK⟩⟩, hS.F ht⟩) hS.2.2 dX12_rainOf_30
    · skip
      have i_8 : 1 ≤ (fv 7).toInt ∧ (fv 7).toInt ≤ 199 := iv_le1 i_3 h_a (Int32.not_lt.mp c_5)
      have i_9 : 1 ≤ a.toInt ∧ a.toInt ≤ 199 := iv_le2 i_3 h_a (Int32.not_lt.mp c_5)
      have k_10 := Int32.le_iff_toInt_le.mp (Int32.not_lt.mp c_5)
      refine lv_bipush (v := 9) hx hb dX12_rainOf_19 (by decide) ?_
      refine lv_goto (tgt := 30) hx hb dX12_rainOf_21 (by decide) ?_
      have z_11 : (9 : Int32).toInt = 9 := by decide
      exact W.iret (v := 9) hx hb hr (fun t ht hW => ⟨⟨9, (fv, wd, ar), rfl, ⟨hF_fv, hA_ar, (fM_rf [] _), (fA_rf [] _), (show wt_on (9 : Int32) a (fv 7) (ar 5) from Or.inr (Or.inr ⟨by omega, by omega, rfl⟩)), trivial⟩, ⟨by rw [ht]; exact hP, va_K.moved hW.alike hK⟩⟩, hS.F ht⟩) hS.2.2 dX12_rainOf_30
  · skip
    have i_12 : 0 ≤ (fv 7).toInt ∧ (fv 7).toInt ≤ 0 := iv_eq1 (⟨by decide, by decide⟩ : (0 : Int) ≤ (0 : Int32).toInt ∧ (0 : Int32).toInt ≤ 0) c_2
    refine lv_iconst (v := 0) hx hb dX12_rainOf_7 (by decide) ?_
    refine lv_goto (tgt := 30) hx hb dX12_rainOf_8 (by decide) ?_
    have z_14 : (0 : Int32).toInt = 0 := by decide
    exact W.iret (v := 0) hx hb hr (fun t ht hW => ⟨⟨0, (fv, wd, ar), rfl, ⟨hF_fv, hA_ar, (fM_rf [] _), (fA_rf [] _), (show wt_on (0 : Int32) a (fv 7) (ar 5) from Or.inl ⟨by omega, rfl⟩), trivial⟩, ⟨by rw [ht]; exact hP, va_K.moved hW.alike hK⟩⟩, hS.F ht⟩) hS.2.2 dX12_rainOf_30
set_option maxHeartbeats 4000000 in
set_option maxRecDepth 100000 in
theorem m_wetC (l : Launch) (dC : Nat → ClassId) (dI : Nat → Nat → Nat) (sz h : Nat) (ad : Nat → Nat) (cA : Nat → ClassId) (hd : dM h ad) (fv : Nat → Int32) (wd : Int64) (ar : Nat → Nat → Int32) (hF_fv : rF fv) (hA_ar : rA ar) (a : Int32) : Met l yX12_wet (.code yX12_wet cX12_wet 2 (some .int) :: lw_good) ({ frames := 3, cells := 0, slots := 0, locals := 61 }) (va_Pc [.ref h, .int a] (prM dC dI h ad cA fv wd ar sz)) (va_Qi (fun (r : Int32) (u : mS) => rF u.1 ∧ rA u.2.2 ∧ fM [0] fv u.1 ∧ fA [] ar u.2.2 ∧ (wt_wet r a (fv 7) (ar 5)) ∧ True) (enM dC dI h ad cA) (aM h ad sz)) 0 0 (aM h ad sz) := by
  refine Met.ofW (cc := cX12_wet) (maxL := 2) (ret := (some .int)) (by decide) rfl ?_
  intro p e s m args below meth c s₁ B hml hv
  obtain ⟨rfl, hsz, hP, hK⟩ := hv
  have hx := B.exec
  have hb := B.bytes
  have hr := B.returns
  have hts := atoms_spec (ws := (.code yX12_wet cX12_wet 2 (some .int) :: lw_good)) B.pre
  have htg : ∀ w ∈ lw_good, w.before _ s = true := fun w hw => hts w (List.mem_cons_of_mem _ hw)
  have hown : s.vm.findClass RX12 = some m.cls := findClass_of_methodNamed B.named
  have hlocks := B.notSynchronized
  subst hsz
  have hS : va_S (aM h ad s.heap.size) s.heap s.heap [] := va_S.rf
  have hl := lv_entry ([.ref h, .int a]) (n := 2) (Nat.le_of_ble_eq_true rfl)
  rw [lg_entry_eq]
  generalize (lg_sl ([.ref h, .int a]) ++ List.replicate (2 - (lg_sl ([.ref h, .int a])).length) Slot.unset).toArray = ls at hl ⊢
  have hl : lv_has ls 2 [(0, .ref h), (1, .int a)] := hl
  refine lv_aload_n hx hb dX12_wet_0 rfl (lv_at hl 0 rfl) ?_
  refine lv_iconst (v := 0) hx hb dX12_wet_1 (by decide) ?_
  refine pM_0 hx hb htg hown hK hP hS hd dX12_wet_2 (fun H locs fv_1 efv_1 hP hS => ?_)
  have hF_fv_1 : rF fv_1 := rF_put hF_fv efv_1 (iv_any _)
  refine lv_iload_n hx hb dX12_wet_5 rfl (lv_at hl 1 rfl) ?_
  refine va_calli (va_runS (As := [.int a]) (rest := []) ⟨hx, hb, hml, hown, hts⟩ (m_isDay l H.size a) (va_cwS 1 hts (gS kw_8_13 kw_8_14 kw_1_15 kw_8_15) rfl rfl rfl (by decide +kernel) ⟨Nat.le_of_ble_eq_true rfl, Nat.le_of_ble_eq_true rfl⟩) ⟨fun a U g mk q => ⟨q.1, q.2⟩, fun U hU hW => ⟨rfl, congrArg Array.size hU⟩⟩ rfl rfl hl.1 rfl (lv_room (Nat.le_of_ble_eq_true rfl)) dX12_wet_6 ⟨Nat.le_of_ble_eq_true rfl, Nat.le_of_ble_eq_true rfl⟩) hS (fun q _ h9 => nM_up hS q h9) (nM_up hS) (fun r_2 u t H1 locs ht _ hw hB _ hk1 hS => ?_)
  obtain ⟨p_3, p_4, -⟩ := hw
  have hP := my_keepM hP hk1
  generalize H1 = H at hP hS ⊢
  rcases p_4 with ⟨rfl, p_4⟩ | ⟨rfl, p_4⟩
  · skip
    refine lv_if_eq (tgt := 20) hx hb dX12_wet_9 (by decide) (fun c_5 => ?_) (fun c_5 => ?_)
    · skip
      refine lv_iconst (v := (-1)) hx hb dX12_wet_20 (by decide) ?_
      have z_6 : ((-1) : Int32).toInt = (-1) := by decide
      exact W.iret (v := (-1)) hx hb hr (fun t ht hW => ⟨⟨(-1), (fv_1, wd, ar), rfl, ⟨hF_fv_1, hA_ar, (fM_put (fM_rf [0] _) efv_1 (by decide)), (fA_rf [] _), (show wt_wet ((-1) : Int32) a (fv 7) (ar 5) from Or.inl ⟨by omega, rfl⟩), trivial⟩, ⟨by rw [ht]; exact hP, va_K.moved hW.alike hK⟩⟩, hS.F ht⟩) hS.2.2 dX12_wet_21
    · skip
      exact absurd c_5 (by decide)
  · skip
    have i_7 : 0 ≤ a.toInt ∧ a.toInt ≤ 2147483647 := ⟨p_4.1, (iv_any a).2⟩
    have i_8 : 0 ≤ a.toInt ∧ a.toInt ≤ 199 := ⟨i_7.1, p_4.2⟩
    refine lv_if_eq (tgt := 20) hx hb dX12_wet_9 (by decide) (fun c_9 => ?_) (fun c_9 => ?_)
    · skip
      exact absurd c_9 (by decide)
    · skip
      refine lv_aload_n hx hb dX12_wet_12 rfl (lv_at hl 0 rfl) ?_
      refine lv_iload_n hx hb dX12_wet_13 rfl (lv_at hl 1 rfl) ?_
      have z_10 : (fv_1 7).toInt = (fv 7).toInt := congrArg Int32.toInt ((congrFun efv_1 7))
      have z_11 : 0 ≤ (fv_1 7).toInt ∧ (fv_1 7).toInt ≤ 200 := hF_fv_1 7
      refine va_calli (va_runV (As := [.int a]) (rest := []) ⟨hx, hb, hml, hown, hts⟩ (m_rainOfC l dC dI H.size h ad cA hd fv_1 wd ar hF_fv_1 hA_ar a i_8) (cwV 1 hts (gV kw_8_16 kw_8_18 kw_p_61 kw_1_15 kw_8_19) rfl rfl rfl (by decide +kernel) ⟨Nat.le_of_ble_eq_true rfl, Nat.le_of_ble_eq_true rfl⟩) ⟨fun a U g mk q => ⟨q.1, q.2.1, q.2.2.1, va_K.moved (u := U) (U := U.calling g mk a) (Vm.Alike.refl U.vm) q.2.2.2⟩, va_recv hK hP (ci := 12) (q0 := 0) rfl rfl, fun U hU hW => ⟨rfl, by rw [hU], by rw [hU]; exact hP, va_K.moved hW.alike hK⟩⟩ rfl rfl hl.1 rfl (lv_room (Nat.le_of_ble_eq_true rfl)) dX12_wet_14 ⟨Nat.le_of_ble_eq_true rfl, Nat.le_of_ble_eq_true rfl⟩) hS (fun q _ h9 => aM_up hS q h9) (aM_up hS) (fun r_12 u t H1 locs ht _ hw hB _ hk1 hS => ?_)
      obtain ⟨fv_14, wd_15, ar_16⟩ := u
      obtain ⟨hF_fv_14, hA_ar_16, fr_17, fa_18, p_13, -⟩ := hw
      have hP : va_P (dC, dI) vwCl (wsM h ad cA fv_14 wd_15 ar_16) H1 := by have h9 := hB.1; rw [ht] at h9; exact h9
      have fr_17 : fM [] fv_1 fv_14 := fr_17
      have fa_18 : fA [] ar ar_16 := fa_18
      have p_13 : wt_on r_12 a (fv_1 7) (ar 5) := p_13
      generalize H1 = H at hP hS ⊢
      refine lv_goto (tgt := 21) hx hb dX12_wet_17 (by decide) ?_
      exact W.iret (v := r_12) hx hb hr (fun t ht hW => ⟨⟨r_12, (fv_14, wd_15, ar_16), rfl, ⟨hF_fv_14, hA_ar_16, (fM_call (fM_put (fM_rf [0] _) efv_1 (by decide)) fr_17 (by decide)), (fA_call (fA_rf [] _) fa_18 (by decide)), (show wt_wet r_12 a (fv 7) (ar 5) from Or.inr ⟨by omega, by have h9 := p_13; rw [show fv_1 7 = fv 7 from ((fM_put (fM_rf [0] _) efv_1 (by decide)) 7 rfl)] at h9; exact h9⟩), trivial⟩, ⟨by rw [ht]; exact hP, va_K.moved hW.alike hK⟩⟩, hS.F ht⟩) hS.2.2 dX12_wet_21

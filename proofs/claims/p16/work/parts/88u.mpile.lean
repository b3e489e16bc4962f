set_option maxHeartbeats 4000000 in
set_option maxRecDepth 100000 in
theorem m_emitC (l : Launch) (dC : Nat → ClassId) (dI : Nat → Nat → Nat) (sz h : Nat) (ad : Nat → Nat) (cA : Nat → ClassId) (hd : dM h ad) (fv : Nat → Int32) (wd : Int64) (ar : Nat → Nat → Int32) (hF_fv : rF fv) (hA_ar : rA ar) (aa : Int32) (ab : Int32) (ac : Int32) (h_aa : 0 ≤ aa.toInt ∧ aa.toInt ≤ 15) (he : (fv 60).toInt ≤ 119) (hp_vM : vM fv ar) : Met l yX12_emit (.code yX12_emit cX12_emit 5 none :: lw_good) ({ frames := 2, cells := 0, slots := 0, locals := 40 }) (va_Pc [.ref h, .int aa, .int ab, .int ac] (prM dC dI h ad cA fv wd ar sz)) (va_Qv (fun (u : mS) => rF u.1 ∧ rA u.2.2 ∧ fM [60] fv u.1 ∧ fA [54, 55, 56] ar u.2.2 ∧ ((u.1 60).toInt = (fv 60).toInt + 1) ∧ (u.2.2 54 = upd (ar 54) (1200 + (fv 60).toInt.toNat) aa) ∧ (u.2.1 = wd) ∧ (vM u.1 u.2.2) ∧ True) (enM dC dI h ad cA) (aM h ad sz)) 0 0 (aM h ad sz) := by
  refine Met.ofW (cc := cX12_emit) (maxL := 5) (ret := none) (by decide) rfl ?_
  intro p e s m args below meth c s₁ B hml hv
  obtain ⟨rfl, hsz, hP, hK⟩ := hv
  have hx := B.exec
  have hb := B.bytes
  have hr := B.returns
  have hts := atoms_spec (ws := (.code yX12_emit cX12_emit 5 none :: lw_good)) B.pre
  have htg : ∀ w ∈ lw_good, w.before _ s = true := fun w hw => hts w (List.mem_cons_of_mem _ hw)
  have hown : s.vm.findClass RX12 = some m.cls := findClass_of_methodNamed B.named
  have hlocks := B.notSynchronized
  subst hsz
  have hS : va_S (aM h ad s.heap.size) s.heap s.heap [] := va_S.rf
  have hl := lv_entry ([.ref h, .int aa, .int ab, .int ac]) (n := 5) (Nat.le_of_ble_eq_true rfl)
  rw [lg_entry_eq]
  generalize (lg_sl ([.ref h, .int aa, .int ab, .int ac]) ++ List.replicate (5 - (lg_sl ([.ref h, .int aa, .int ab, .int ac])).length) Slot.unset).toArray = ls at hl ⊢
  have hl : lv_has ls 5 [(0, .ref h), (1, .int aa), (2, .int ab), (3, .int ac)] := hl
  refine lv_sipush (v := 1200) hx hb dX12_emit_0 (by decide) ?_
  refine lv_aload_n hx hb dX12_emit_3 rfl (lv_at hl 0 rfl) ?_
  refine gM_60 hx hb htg hown hK hP dX12_emit_4 ?_
  have i_1 : 0 ≤ (fv 60).toInt ∧ (fv 60).toInt ≤ 120 := hF_fv 60
  refine lv_iadd hx hb dX12_emit_7 ?_
  refine lv_topi (fun v_2 ev_2 => ?_)
  have t_3 : v_2.toInt = (fv 60).toInt + 1200 ∧ 1200 ≤ v_2.toInt ∧ v_2.toInt ≤ 1320 := iv_addc (by rw [ev_2, Int32.add_comm]) i_1 (by decide) (by decide) (by decide)
  have i_5 : 1200 ≤ v_2.toInt ∧ v_2.toInt ≤ 1319 := (by omega)
  refine lv_istore (lv' := [(4, .int v_2), (0, .ref h), (1, .int aa), (2, .int ab), (3, .int ac)]) hx hb dX12_emit_8 hl (by decide) rfl (fun ls hl => ?_)
  refine lv_aload_n hx hb dX12_emit_10 rfl (lv_at hl 1 rfl) ?_
  refine gM_54 hx hb htg hown hK hP dX12_emit_11 ?_
  refine lv_iload hx hb dX12_emit_14 (lv_at hl 0 rfl) ?_
  refine lv_iload_n hx hb dX12_emit_16 rfl (lv_at hl 2 rfl) ?_
  refine sM_54 hx hb hK hP hS hd (iv_in i_5 (by decide) (by decide)) dX12_emit_17 (fun H locs ar_6 ear_6 hP hS => ?_)
  have hA_ar_6 : rA ar_6 := rA_put hA_ar ear_6 h_aa
  have hp_7 : vM fv ar_6 := vM_54 hp_vM hA_ar ear_6 (by have h58 : (0 : Int) ≤ (fv 58).toInt ∧ (fv 58).toInt ≤ 10 := hF_fv 58; show _ ≤ ((v_2.toInt.toNat : Nat) : Int); omega)
  refine lv_aload_n hx hb dX12_emit_18 rfl (lv_at hl 1 rfl) ?_
  refine gM_55 hx hb htg hown hK hP dX12_emit_19 ?_
  refine lv_iload hx hb dX12_emit_22 (lv_at hl 0 rfl) ?_
  refine lv_iload_n hx hb dX12_emit_24 rfl (lv_at hl 3 rfl) ?_
  refine sM_55 hx hb hK hP hS hd (iv_in i_5 (by decide) (by decide)) dX12_emit_25 (fun H locs ar_8 ear_8 hP hS => ?_)
  have hA_ar_8 : rA ar_8 := rA_put hA_ar_6 ear_8 (iv_any _)
  refine lv_aload_n hx hb dX12_emit_26 rfl (lv_at hl 1 rfl) ?_
  refine gM_56 hx hb htg hown hK hP dX12_emit_27 ?_
  refine lv_iload hx hb dX12_emit_30 (lv_at hl 0 rfl) ?_
  refine lv_iload_n hx hb dX12_emit_32 rfl (lv_at hl 4 rfl) ?_
  refine sM_56 hx hb hK hP hS hd (iv_in i_5 (by decide) (by decide)) dX12_emit_33 (fun H locs ar_9 ear_9 hP hS => ?_)
  have hA_ar_9 : rA ar_9 := rA_put hA_ar_8 ear_9 (iv_any _)
  refine lv_aload_n hx hb dX12_emit_34 rfl (lv_at hl 1 rfl) ?_
  refine lv_dup hx hb dX12_emit_35 rfl ?_
  refine gM_60 hx hb htg hown hK hP dX12_emit_36 ?_
  refine lv_iconst (v := 1) hx hb dX12_emit_39 (by decide) ?_
  refine lv_iadd hx hb dX12_emit_40 ?_
  refine lv_topi (fun v_10 ev_10 => ?_)
  have t_11 : v_10.toInt = (fv 60).toInt + 1 ∧ 1 ≤ v_10.toInt ∧ v_10.toInt ≤ 121 := iv_addc ev_10 i_1 (by decide) (by decide) (by decide)
  have i_13 : 1 ≤ v_10.toInt ∧ v_10.toInt ≤ 120 := (by omega)
  refine pM_60 hx hb htg hown hK hP hS hd dX12_emit_41 (fun H locs fv_14 efv_14 hP hS => ?_)
  have hF_fv_14 : rF fv_14 := rF_put hF_fv efv_14 (iv_w i_13 (by decide) (by decide))
  have z_15 : (fv_14 60).toInt = v_10.toInt := congrArg Int32.toInt ((congrFun efv_14 60))
  have z_16 : 0 ≤ (fv_14 60).toInt ∧ (fv_14 60).toInt ≤ 120 := hF_fv_14 60
  exact W.vret hx hb hr (fun t ht hW => ⟨⟨(fv_14, wd, ar_9), rfl, ⟨hF_fv_14, hA_ar_9, (fM_put (fM_rf [60] _) efv_14 (by decide)), (fA_put (fA_put (fA_put (fA_rf [54, 55, 56] _) ear_6 (by decide)) ear_8 (by decide)) ear_9 (by decide)), (show (fv_14 60).toInt = (fv 60).toInt + 1 from by omega), (show ar_9 54 = _ from by rw [((fA_put (fA_put (fA_rf [55, 56] _) ear_8 (by decide)) ear_9 (by decide)) 54 rfl), ear_6]; show upd (ar 54) (Int32.toNatClampNeg v_2) aa = _; congr 1; show v_2.toInt.toNat = _; omega), rfl, (vM_fr hp_7 (fM_put (fM_rf [60] _) efv_14 (by decide)) (fA_put (fA_put (fA_rf [55, 56] _) ear_8 (by decide)) ear_9 (by decide)) rfl rfl rfl rfl rfl), trivial⟩, ⟨by rw [ht]; exact hP, va_K.moved hW.alike hK⟩⟩, hS.F ht⟩) hS.2.2 dX12_emit_44
set_option maxHeartbeats 4000000 in
set_option maxRecDepth 100000 in
theorem m_dropC (l : Launch) (dC : Nat → ClassId) (dI : Nat → Nat → Nat) (sz h : Nat) (ad : Nat → Nat) (cA : Nat → ClassId) (hd : dM h ad) (fv : Nat → Int32) (wd : Int64) (ar : Nat → Nat → Int32) (hF_fv : rF fv) (hA_ar : rA ar) (FF : Nat) (g0 : Nat → Int32) (ll : Int32) (mm : Int32) (h_ll : 13 ≤ ll.toInt ∧ ll.toInt ≤ 13) (h_mm : 13 ≤ mm.toInt ∧ mm.toInt ≤ 14) (hp_c1 : cX FF g0 1 (fv 60).toInt (fv 61).toInt (fv 62).toInt (fv 63).toInt (ar 54) (ar 57)) (hp_vM : vM fv ar) : Met l yX12_drop (.code yX12_drop cX12_drop 3 none :: lw_good) ({ frames := 3, cells := 0, slots := 0, locals := 64 }) (va_Pc [.ref h, .int ll, .int mm] (prM dC dI h ad cA fv wd ar sz)) (va_Qv (fun (u : mS) => rF u.1 ∧ rA u.2.2 ∧ fM [60, 61] fv u.1 ∧ fA [54, 55, 56] ar u.2.2 ∧ ((u.1 61).toInt ≤ (fv 61).toInt) ∧ (∀ j : Nat, (j : Int) < (fv 61).toInt → (ar 57 j).toInt = 15 → (j : Int) < (u.1 61).toInt) ∧ ((u.1 61).toInt = 0 ∨ (ar 57 ((u.1 61).toInt - 1).toNat).toInt < ll.toInt ∨ mm.toInt < (ar 57 ((u.1 61).toInt - 1).toNat).toInt) ∧ (rd_pl (ar 57) ((u.1 61).toInt.toNat) = rd_pl (ar 57) ((fv 61).toInt.toNat)) ∧ (u.2.1 = wd) ∧ (cX FF g0 1 (u.1 60).toInt (u.1 61).toInt (u.1 62).toInt (u.1 63).toInt (u.2.2 54) (u.2.2 57)) ∧ (vM u.1 u.2.2) ∧ True) (enM dC dI h ad cA) (aM h ad sz)) 0 0 (aM h ad sz) := by
  refine Met.ofW (cc := cX12_drop) (maxL := 3) (ret := none) (by decide) rfl ?_
  intro p e s m args below meth c s₁ B hml hv
  obtain ⟨rfl, hsz, hP, hK⟩ := hv
  have hx := B.exec
  have hb := B.bytes
  have hr := B.returns
  have hts := atoms_spec (ws := (.code yX12_drop cX12_drop 3 none :: lw_good)) B.pre
  have htg : ∀ w ∈ lw_good, w.before _ s = true := fun w hw => hts w (List.mem_cons_of_mem _ hw)
  have hown : s.vm.findClass RX12 = some m.cls := findClass_of_methodNamed B.named
  have hlocks := B.notSynchronized
  subst hsz
  have hS : va_S (aM h ad s.heap.size) s.heap s.heap [] := va_S.rf
  have hl := lv_entry ([.ref h, .int ll, .int mm]) (n := 3) (Nat.le_of_ble_eq_true rfl)
  rw [lg_entry_eq]
  generalize (lg_sl ([.ref h, .int ll, .int mm]) ++ List.replicate (3 - (lg_sl ([.ref h, .int ll, .int mm])).length) Slot.unset).toArray = ls at hl ⊢
  have hl : lv_has ls 3 [(0, .ref h), (1, .int ll), (2, .int mm)] := hl
  refine my_cut (P := fun R9 a9 Q9 => ∀ (n_11 : Nat) (fv_1 : Nat → Int32) (ar_3 : Nat → Nat → Int32) (H : Heap) (locs : List Loc) (ls : Array Slot), (fv_1 61).toInt < (n_11 : Int) → rF fv_1 → fM [60, 61] fv fv_1 → rA ar_3 → fA [54, 55, 56] ar ar_3 → cX FF g0 1 (fv_1 60).toInt (fv_1 61).toInt (fv_1 62).toInt (fv_1 63).toInt (ar_3 54) (ar_3 57) → vM fv_1 ar_3 → ((fv_1 61).toInt ≤ (fv 61).toInt) → (∀ j : Nat, (j : Int) < (fv 61).toInt → (ar 57 j).toInt = 15 → (j : Int) < (fv_1 61).toInt) → (0 ≤ (fv_1 61).toInt ∧ (fv_1 61).toInt ≤ 64) → (rd_pl (ar 57) ((fv_1 61).toInt.toNat) = rd_pl (ar 57) ((fv 61).toInt.toNat)) → va_P (dC, dI) vwCl (wsM h ad cA fv_1 wd ar_3) H → va_S (aM h ad s.heap.size) s.heap H locs → lv_has ls 3 [(0, .ref h), (1, .int ll), (2, .int mm)] → W p l e R9 s m a9 below meth c H locs 0 0 Q9 (F0 m 0 ls [])) ?_ (fun hj_13 => ?_)
  · intro n_11
    induction n_11 with
    | zero => intro fv_1 ar_3 H locs ls fu_12 hF_fv_1 fr_2 hA_ar_3 fa_4 hp_5 hp_6 q_7 q_8 q_9 q_10; exfalso; omega
    | succ n_11 ih_11 =>
      intro fv_1 ar_3 H locs ls fu_12 hF_fv_1 fr_2 hA_ar_3 fa_4 hp_5 hp_6 q_7 q_8 q_9 q_10 hP hS hl
      have z_14 : 0 ≤ (fv_1 60).toInt ∧ (fv_1 60).toInt ≤ 120 := hF_fv_1 60
      have z_15 : 0 ≤ (fv_1 61).toInt ∧ (fv_1 61).toInt ≤ 64 := hF_fv_1 61
      have z_16 : (fv_1 62).toInt = (fv 62).toInt := congrArg Int32.toInt ((fr_2 62 rfl))
      have z_17 : 0 ≤ (fv_1 62).toInt ∧ (fv_1 62).toInt ≤ 50 := hF_fv_1 62
      have z_18 : (fv_1 63).toInt = (fv 63).toInt := congrArg Int32.toInt ((fr_2 63 rfl))
      have z_19 : (-100) ≤ (fv_1 63).toInt ∧ (fv_1 63).toInt ≤ 10 := hF_fv_1 63
      have n9 := cX_n hp_5
      refine lv_aload_n hx hb dX12_drop_0 rfl (lv_at hl 0 rfl) ?_
      refine gM_61 hx hb htg hown hK hP dX12_drop_1 ?_
      have i_20 : 0 ≤ (fv_1 61).toInt ∧ (fv_1 61).toInt ≤ 64 := hF_fv_1 61
      refine lv_if_le (tgt := 54) hx hb dX12_drop_4 (by decide) (fun c_21 => ?_) (fun c_21 => ?_)
      · skip
        have i_22 : 0 ≤ (fv_1 61).toInt ∧ (fv_1 61).toInt ≤ 0 := iv_le1 i_20 (⟨by decide, by decide⟩ : (0 : Int) ≤ (0 : Int32).toInt ∧ (0 : Int32).toInt ≤ 0) c_21
        have z_23 : 0 ≤ (fv_1 61).toInt ∧ (fv_1 61).toInt ≤ 64 := hF_fv_1 61
        exact W.vret hx hb hr (fun t ht hW => ⟨⟨(fv_1, wd, ar_3), rfl, ⟨hF_fv_1, hA_ar_3, (fM_call (fM_rf [60, 61] _) fr_2 (by decide)), (fA_call (fA_rf [54, 55, 56] _) fa_4 (by decide)), (show (fv_1 61).toInt ≤ (fv 61).toInt from by omega), (show ∀ j : Nat, (j : Int) < (fv 61).toInt → (ar 57 j).toInt = 15 → (j : Int) < (fv_1 61).toInt from q_8), (show (fv_1 61).toInt = 0 ∨ _ from by omega), (show rd_pl (ar 57) ((fv_1 61).toInt.toNat) = rd_pl (ar 57) ((fv 61).toInt.toNat) from q_10), rfl, hp_5, hp_6, trivial⟩, ⟨by rw [ht]; exact hP, va_K.moved hW.alike hK⟩⟩, hS.F ht⟩) hS.2.2 dX12_drop_54
      · skip
        have i_24 : 1 ≤ (fv_1 61).toInt ∧ (fv_1 61).toInt ≤ 64 := iv_lt2 (⟨by decide, by decide⟩ : (0 : Int) ≤ (0 : Int32).toInt ∧ (0 : Int32).toInt ≤ 0) i_20 (Int32.not_le.mp c_21)
        refine lv_aload_n hx hb dX12_drop_7 rfl (lv_at hl 0 rfl) ?_
        refine gM_57 hx hb htg hown hK hP dX12_drop_8 ?_
        refine lv_aload_n hx hb dX12_drop_11 rfl (lv_at hl 0 rfl) ?_
        refine gM_61 hx hb htg hown hK hP dX12_drop_12 ?_
        refine lv_iconst (v := 1) hx hb dX12_drop_15 (by decide) ?_
        refine lv_isub hx hb dX12_drop_16 ?_
        refine lv_topi (fun v_25 ev_25 => ?_)
        have t_26 : v_25.toInt = (fv_1 61).toInt - 1 ∧ 0 ≤ v_25.toInt ∧ v_25.toInt ≤ 63 := iv_subc ev_25 i_24 (by decide) (by decide) (by decide)
        refine lM_57 hx hb hK hP (iv_in t_26.2 (by decide) (by decide)) dX12_drop_17 (fun v_28 ev_28 => ?_)
        have i_29 : 0 ≤ v_28.toInt ∧ v_28.toInt ≤ 15 := ev_28 ▸ hA_ar_3 57 _
        refine lv_iload_n hx hb dX12_drop_18 rfl (lv_at hl 1 rfl) ?_
        refine lv_iload_n hx hb dX12_drop_19 rfl (lv_at hl 2 rfl) ?_
        refine va_calli (va_runS (As := [.int v_28, .int ll, .int mm]) (rest := []) ⟨hx, hb, hml, hown, hts⟩ (m_isIn l H.size v_28 ll mm) (va_cwS 3 hts (gS kw_7_218 kw_7_219 kw_1_15 kw_7_220) rfl rfl rfl (by decide +kernel) ⟨Nat.le_of_ble_eq_true rfl, Nat.le_of_ble_eq_true rfl⟩) ⟨fun a U g mk q => ⟨q.1, q.2⟩, fun U hU hW => ⟨rfl, congrArg Array.size hU⟩⟩ rfl rfl hl.1 rfl (lv_room (Nat.le_of_ble_eq_true rfl)) dX12_drop_20 ⟨Nat.le_of_ble_eq_true rfl, Nat.le_of_ble_eq_true rfl⟩) hS (fun q _ h9 => nM_up hS q h9) (nM_up hS) (fun r_30 u t H1 locs ht _ hw hB _ hk1 hS => ?_)
        obtain ⟨p_31, p_32, -⟩ := hw
        have hP := my_keepM hP hk1
        generalize H1 = H at hP hS ⊢
        rcases p_32 with ⟨rfl, p_32⟩ | ⟨rfl, p_32⟩
        · skip
          refine lv_if_eq (tgt := 54) hx hb dX12_drop_23 (by decide) (fun c_33 => ?_) (fun c_33 => ?_)
          · skip
            have z_34 : 0 ≤ (fv_1 61).toInt ∧ (fv_1 61).toInt ≤ 64 := hF_fv_1 61
            exact W.vret hx hb hr (fun t ht hW => ⟨⟨(fv_1, wd, ar_3), rfl, ⟨hF_fv_1, hA_ar_3, (fM_call (fM_rf [60, 61] _) fr_2 (by decide)), (fA_call (fA_rf [54, 55, 56] _) fa_4 (by decide)), (show (fv_1 61).toInt ≤ (fv 61).toInt from by omega), (show ∀ j : Nat, (j : Int) < (fv 61).toInt → (ar 57 j).toInt = 15 → (j : Int) < (fv_1 61).toInt from q_8), (show (fv_1 61).toInt = 0 ∨ (ar 57 ((fv_1 61).toInt - 1).toNat).toInt < ll.toInt ∨ mm.toInt < (ar 57 ((fv_1 61).toInt - 1).toNat).toInt from by rw [show ar 57 ((fv_1 61).toInt - 1).toNat = v_28 from by rw [ev_28, ((fA_call (fA_rf [54, 55, 56] _) fa_4 (by decide)) 57 rfl)]; congr 1; show _ = v_25.toInt.toNat; omega]; omega), (show rd_pl (ar 57) ((fv_1 61).toInt.toNat) = rd_pl (ar 57) ((fv 61).toInt.toNat) from q_10), rfl, hp_5, hp_6, trivial⟩, ⟨by rw [ht]; exact hP, va_K.moved hW.alike hK⟩⟩, hS.F ht⟩) hS.2.2 dX12_drop_54
          · skip
            exact absurd c_33 (by decide)
        · skip
          have i_35 : 13 ≤ v_28.toInt ∧ v_28.toInt ≤ 15 := iv_le2 h_ll i_29 (Int32.le_iff_toInt_le.mpr p_32.1)
          have i_36 : 13 ≤ v_28.toInt ∧ v_28.toInt ≤ 14 := iv_le1 i_35 h_mm (Int32.le_iff_toInt_le.mpr p_32.2)
          refine lv_if_eq (tgt := 54) hx hb dX12_drop_23 (by decide) (fun c_37 => ?_) (fun c_37 => ?_)
          · skip
            exact absurd c_37 (by decide)
          · skip
            refine lv_aload_n hx hb dX12_drop_26 rfl (lv_at hl 0 rfl) ?_
            refine lv_dup hx hb dX12_drop_27 rfl ?_
            refine gM_61 hx hb htg hown hK hP dX12_drop_28 ?_
            refine lv_iconst (v := 1) hx hb dX12_drop_31 (by decide) ?_
            refine lv_isub hx hb dX12_drop_32 ?_
            refine my_ti (y := v_25) ev_25.symm ?_
            refine pM_61 hx hb htg hown hK hP hS hd dX12_drop_33 (fun H locs fv_38 efv_38 hP hS => ?_)
            have hF_fv_38 : rF fv_38 := rF_put hF_fv_1 efv_38 (iv_w t_26.2 (by decide) (by decide))
            refine lv_aload_n hx hb dX12_drop_36 rfl (lv_at hl 0 rfl) ?_
            refine lv_aload_n hx hb dX12_drop_37 rfl (lv_at hl 0 rfl) ?_
            refine gM_57 hx hb htg hown hK hP dX12_drop_38 ?_
            refine lv_aload_n hx hb dX12_drop_41 rfl (lv_at hl 0 rfl) ?_
            refine gM_61 hx hb htg hown hK hP dX12_drop_42 ?_
            refine my_ti (y := v_25) ((congrFun efv_38 61)) ?_
            refine lM_57 hx hb hK hP (iv_in t_26.2 (by decide) (by decide)) dX12_drop_45 (fun v_39 ev_39 => ?_)
            obtain rfl : v_28 = v_39 := ev_28.trans ev_39.symm
            refine lv_iconst (v := 0) hx hb dX12_drop_46 (by decide) ?_
            refine lv_iconst (v := 0) hx hb dX12_drop_47 (by decide) ?_
            have pl9 : ar 57 ((fv_1 61).toInt - 1).toNat = v_28 := by rw [ev_28, ((fA_call (fA_rf [54, 55, 56] _) fa_4 (by decide)) 57 rfl)]; congr 1; show _ = v_25.toInt.toNat; omega
            have z_40 : (fv_38 60).toInt = (fv_1 60).toInt := congrArg Int32.toInt ((congrFun efv_38 60))
            have z_41 : 0 ≤ (fv_38 60).toInt ∧ (fv_38 60).toInt ≤ 120 := hF_fv_38 60
            have z_42 : (fv_38 61).toInt = v_25.toInt := congrArg Int32.toInt ((congrFun efv_38 61))
            have z_43 : 0 ≤ (fv_38 61).toInt ∧ (fv_38 61).toInt ≤ 64 := hF_fv_38 61
            have z_44 : (fv_38 62).toInt = (fv 62).toInt := congrArg Int32.toInt ((congrFun efv_38 62).trans ((fr_2 62 rfl)))
            have z_45 : 0 ≤ (fv_38 62).toInt ∧ (fv_38 62).toInt ≤ 50 := hF_fv_38 62
            have z_46 : (fv_38 63).toInt = (fv 63).toInt := congrArg Int32.toInt ((congrFun efv_38 63).trans ((fr_2 63 rfl)))
            have z_47 : (-100) ≤ (fv_38 63).toInt ∧ (fv_38 63).toInt ≤ 10 := hF_fv_38 63
            have z_48 : (fv_38 60).toInt = (fv_1 60).toInt := congrArg Int32.toInt ((congrFun efv_38 60))
            have z_49 : 0 ≤ (fv_38 60).toInt ∧ (fv_38 60).toInt ≤ 120 := hF_fv_38 60
            have z_50 : (fv_38 60).toInt = (fv_1 60).toInt := congrArg Int32.toInt ((congrFun efv_38 60))
            have z_51 : 0 ≤ (fv_38 60).toInt ∧ (fv_38 60).toInt ≤ 120 := hF_fv_38 60
            refine va_callv (va_runV (As := [.int v_28, .int 0, .int 0]) (rest := []) ⟨hx, hb, hml, hown, hts⟩ (m_emitC l dC dI H.size h ad cA hd fv_38 wd ar_3 hF_fv_38 hA_ar_3 v_28 0 0 (iv_w i_36 (by decide) (by decide)) (by omega) (vM_fr hp_6 (fM_put (fM_rf [61] _) efv_38 (by decide)) (fA_rf [] _) rfl rfl rfl rfl rfl)) (cwV 3 hts (gV kw_8_121 kw_8_123 kw_p_75 kw_1_15 kw_8_124) rfl rfl rfl (by decide +kernel) ⟨Nat.le_of_ble_eq_true rfl, Nat.le_of_ble_eq_true rfl⟩) ⟨fun a U g mk q => ⟨q.1, q.2.1, q.2.2.1, va_K.moved (u := U) (U := U.calling g mk a) (Vm.Alike.refl U.vm) q.2.2.2⟩, va_recv hK hP (ci := 12) (q0 := 0) rfl rfl, fun U hU hW => ⟨rfl, by rw [hU], by rw [hU]; exact hP, va_K.moved hW.alike hK⟩⟩ rfl rfl hl.1 rfl (lv_room (Nat.le_of_ble_eq_true rfl)) dX12_drop_48 ⟨Nat.le_of_ble_eq_true rfl, Nat.le_of_ble_eq_true rfl⟩) hS (fun q _ h9 => aM_up hS q h9) (aM_up hS) (fun u t H1 locs ht _ hw hB _ hk1 hS => ?_)
            obtain ⟨fv_57, wd_58, ar_59⟩ := u
            obtain ⟨hF_fv_57, hA_ar_59, fr_60, fa_61, p_53, p_54, p_55, p_56, -⟩ := hw
            have hP : va_P (dC, dI) vwCl (wsM h ad cA fv_57 wd_58 ar_59) H1 := by have h9 := hB.1; rw [ht] at h9; exact h9
            have fr_60 : fM [60] fv_38 fv_57 := fr_60
            have fa_61 : fA [54, 55, 56] ar_3 ar_59 := fa_61
            have p_56 : vM fv_57 ar_59 := p_56
            have p_53 : (fv_57 60).toInt = (fv_38 60).toInt + 1 := p_53
            have p_54 : ar_59 54 = upd (ar_3 54) (1200 + (fv_38 60).toInt.toNat) v_28 := p_54
            have p_55 : wd_58 = wd := p_55
            generalize H1 = H at hP hS ⊢
            rw [p_55] at hP
            have z_62 : 0 ≤ (fv_57 60).toInt ∧ (fv_57 60).toInt ≤ 120 := hF_fv_57 60
            have z_63 : (fv_57 61).toInt = v_25.toInt := congrArg Int32.toInt ((fr_60 61 rfl).trans ((congrFun efv_38 61)))
            have z_64 : 0 ≤ (fv_57 61).toInt ∧ (fv_57 61).toInt ≤ 64 := hF_fv_57 61
            have z_65 : (fv_57 62).toInt = (fv 62).toInt := congrArg Int32.toInt ((fr_60 62 rfl).trans ((congrFun efv_38 62).trans ((fr_2 62 rfl))))
            have z_66 : 0 ≤ (fv_57 62).toInt ∧ (fv_57 62).toInt ≤ 50 := hF_fv_57 62
            have z_67 : (fv_57 63).toInt = (fv 63).toInt := congrArg Int32.toInt ((fr_60 63 rfl).trans ((congrFun efv_38 63).trans ((fr_2 63 rfl))))
            have z_68 : (-100) ≤ (fv_57 63).toInt ∧ (fv_57 63).toInt ≤ 10 := hF_fv_57 63
            have hp_69 : cX FF g0 1 (fv_57 60).toInt (fv_57 61).toInt (fv_57 62).toInt (fv_57 63).toInt (ar_59 54) (ar_59 57) := cX_eq (cX_drop (g1 := ar_59 54) hp_5 (by omega) (by rw [((fA_call (fA_rf [54, 55, 56] _) fa_4 (by decide)) 57 rfl)]; exact pl9) (by omega) (p1 := (fv_57 60).toInt) (t1 := (fv_57 61).toInt) (o1 := (fv_57 62).toInt) (w1 := (fv_57 63).toInt) (by omega) (by omega) (by omega) (by omega) (i := _) (by omega) p_54) rfl rfl rfl rfl rfl ((fA_call (fA_rf [54, 55, 56] _) fa_61 (by decide)) 57 rfl)
            refine lv_goto (tgt := 0) hx hb dX12_drop_51 (by decide) ?_
            have z_70 : 0 ≤ (fv_57 60).toInt ∧ (fv_57 60).toInt ≤ 120 := hF_fv_57 60
            have z_71 : (fv_57 61).toInt = v_25.toInt := congrArg Int32.toInt ((fr_60 61 rfl).trans ((congrFun efv_38 61)))
            have z_72 : 0 ≤ (fv_57 61).toInt ∧ (fv_57 61).toInt ≤ 64 := hF_fv_57 61
            exact ih_11 fv_57 ar_59 _ _ ls (by omega) hF_fv_57 (fM_call (fM_put (fM_call (fM_rf [60, 61] _) fr_2 (by decide)) efv_38 (by decide)) fr_60 (by decide)) hA_ar_59 (fA_call (fA_call (fA_rf [54, 55, 56] _) fa_4 (by decide)) fa_61 (by decide)) hp_69 p_56 (by omega) (fun j h1 h2 => by have a9 := q_8 j h1 h2; have c9 : j ≠ ((fv_1 61).toInt - 1).toNat := (fun e9 => by (rw [e9, pl9] at h2; omega)); omega) (by omega) (by rw [← q_10, show (fv_1 61).toInt.toNat = ((fv_1 61).toInt - 1).toNat + 1 from (by omega), rd_pl_jn (by rw [pl9]; omega), show (fv_57 61).toInt.toNat = ((fv_1 61).toInt - 1).toNat from (by omega)]) hP hS (lv_sub hl [0, 1, 2] rfl)
  · skip
    have z_73 : 0 ≤ (fv 60).toInt ∧ (fv 60).toInt ≤ 120 := hF_fv 60
    have z_74 : 0 ≤ (fv 61).toInt ∧ (fv 61).toInt ≤ 64 := hF_fv 61
    exact hj_13 65 fv ar _ _ ls (by omega) hF_fv (fM_rf [60, 61] _) hA_ar (fA_rf [54, 55, 56] _) hp_c1 hp_vM (Int.le_refl _) (fun j h _ => h) (hF_fv 61) rfl hP hS (lv_sub hl [0, 1, 2] rfl)
set_option maxHeartbeats 4000000 in
set_option maxRecDepth 100000 in
theorem m_dropNotsC (l : Launch) (dC : Nat → ClassId) (dI : Nat → Nat → Nat) (sz h : Nat) (ad : Nat → Nat) (cA : Nat → ClassId) (hd : dM h ad) (fv : Nat → Int32) (wd : Int64) (ar : Nat → Nat → Int32) (hF_fv : rF fv) (hA_ar : rA ar) (FF : Nat) (g0 : Nat → Int32) (hpj : rd_pj (ar 57) ((fv 61).toInt.toNat)) (hwi : (fv 63).toInt = ((rd_pl (ar 57) ((fv 61).toInt.toNat)).length : Nat)) (hp_c1 : cX FF g0 1 (fv 60).toInt (fv 61).toInt (fv 62).toInt (fv 63).toInt (ar 54) (ar 57)) (hp_vM : vM fv ar) : Met l yX12_dropNots (.code yX12_dropNots cX12_dropNots 1 none :: lw_good) ({ frames := 3, cells := 0, slots := 0, locals := 64 }) (va_Pc [.ref h] (prM dC dI h ad cA fv wd ar sz)) (va_Qv (fun (u : mS) => rF u.1 ∧ rA u.2.2 ∧ fM [60, 61, 63] fv u.1 ∧ fA [54, 55, 56] ar u.2.2 ∧ ((u.1 61).toInt ≤ (fv 61).toInt) ∧ (rd_pl (ar 57) ((u.1 61).toInt.toNat) = rd_dn (rd_pl (ar 57) ((fv 61).toInt.toNat))) ∧ ((u.1 63).toInt = ((rd_pl (ar 57) ((u.1 61).toInt.toNat)).length : Nat)) ∧ (rd_pj (ar 57) ((u.1 61).toInt.toNat)) ∧ (u.2.1 = wd) ∧ (cX FF g0 1 (u.1 60).toInt (u.1 61).toInt (u.1 62).toInt (u.1 63).toInt (u.2.2 54) (u.2.2 57)) ∧ (vM u.1 u.2.2) ∧ True) (enM dC dI h ad cA) (aM h ad sz)) 0 0 (aM h ad sz) := by
  refine Met.ofW (cc := cX12_dropNots) (maxL := 1) (ret := none) (by decide) rfl ?_
  intro p e s m args below meth c s₁ B hml hv
  obtain ⟨rfl, hsz, hP, hK⟩ := hv
  have hx := B.exec
  have hb := B.bytes
  have hr := B.returns
  have hts := atoms_spec (ws := (.code yX12_dropNots cX12_dropNots 1 none :: lw_good)) B.pre
  have htg : ∀ w ∈ lw_good, w.before _ s = true := fun w hw => hts w (List.mem_cons_of_mem _ hw)
  have hown : s.vm.findClass RX12 = some m.cls := findClass_of_methodNamed B.named
  have hlocks := B.notSynchronized
  subst hsz
  have hS : va_S (aM h ad s.heap.size) s.heap s.heap [] := va_S.rf
  have hl := lv_entry ([.ref h]) (n := 1) (Nat.le_of_ble_eq_true rfl)
  rw [lg_entry_eq]
  generalize (lg_sl ([.ref h]) ++ List.replicate (1 - (lg_sl ([.ref h])).length) Slot.unset).toArray = ls at hl ⊢
  have hl : lv_has ls 1 [(0, .ref h)] := hl
  refine my_cut (P := fun R9 a9 Q9 => ∀ (n_11 : Nat) (fv_1 : Nat → Int32) (ar_3 : Nat → Nat → Int32) (H : Heap) (locs : List Loc) (ls : Array Slot), (fv_1 61).toInt < (n_11 : Int) → rF fv_1 → fM [60, 61, 63] fv fv_1 → rA ar_3 → fA [54, 55, 56] ar ar_3 → cX FF g0 1 (fv_1 60).toInt (fv_1 61).toInt (fv_1 62).toInt (fv_1 63).toInt (ar_3 54) (ar_3 57) → vM fv_1 ar_3 → (0 ≤ (fv_1 61).toInt ∧ (fv_1 61).toInt ≤ 64) → ((fv_1 61).toInt ≤ (fv 61).toInt) → (rd_dn (rd_pl (ar 57) ((fv_1 61).toInt.toNat)) = rd_dn (rd_pl (ar 57) ((fv 61).toInt.toNat))) → ((fv_1 63).toInt = ((rd_pl (ar 57) ((fv_1 61).toInt.toNat)).length : Nat)) → va_P (dC, dI) vwCl (wsM h ad cA fv_1 wd ar_3) H → va_S (aM h ad s.heap.size) s.heap H locs → lv_has ls 1 [(0, .ref h)] → W p l e R9 s m a9 below meth c H locs 0 0 Q9 (F0 m 0 ls [])) ?_ (fun hj_13 => ?_)
  · intro n_11
    induction n_11 with
    | zero => intro fv_1 ar_3 H locs ls fu_12 hF_fv_1 fr_2 hA_ar_3 fa_4 hp_5 hp_6 q_7 q_8 q_9 q_10; exfalso; omega
    | succ n_11 ih_11 =>
      intro fv_1 ar_3 H locs ls fu_12 hF_fv_1 fr_2 hA_ar_3 fa_4 hp_5 hp_6 q_7 q_8 q_9 q_10 hP hS hl
      have z_14 : 0 ≤ (fv_1 60).toInt ∧ (fv_1 60).toInt ≤ 120 := hF_fv_1 60
      have z_15 : 0 ≤ (fv_1 61).toInt ∧ (fv_1 61).toInt ≤ 64 := hF_fv_1 61
      have z_16 : (fv_1 62).toInt = (fv 62).toInt := congrArg Int32.toInt ((fr_2 62 rfl))
      have z_17 : 0 ≤ (fv_1 62).toInt ∧ (fv_1 62).toInt ≤ 50 := hF_fv_1 62
      have z_18 : (-100) ≤ (fv_1 63).toInt ∧ (fv_1 63).toInt ≤ 10 := hF_fv_1 63
      have n9 := cX_n hp_5
      refine lv_aload_n hx hb dX12_dropNots_0 rfl (lv_at hl 0 rfl) ?_
      refine gM_61 hx hb htg hown hK hP dX12_dropNots_1 ?_
      have i_19 : 0 ≤ (fv_1 61).toInt ∧ (fv_1 61).toInt ≤ 64 := hF_fv_1 61
      refine lv_if_le (tgt := 54) hx hb dX12_dropNots_4 (by decide) (fun c_20 => ?_) (fun c_20 => ?_)
      · skip
        have i_21 : 0 ≤ (fv_1 61).toInt ∧ (fv_1 61).toInt ≤ 0 := iv_le1 i_19 (⟨by decide, by decide⟩ : (0 : Int) ≤ (0 : Int32).toInt ∧ (0 : Int32).toInt ≤ 0) c_20
        have z_22 : 0 ≤ (fv_1 61).toInt ∧ (fv_1 61).toInt ≤ 64 := hF_fv_1 61
        exact W.vret hx hb hr (fun t ht hW => ⟨⟨(fv_1, wd, ar_3), rfl, ⟨hF_fv_1, hA_ar_3, (fM_call (fM_rf [60, 61, 63] _) fr_2 (by decide)), (fA_call (fA_rf [54, 55, 56] _) fa_4 (by decide)), (show (fv_1 61).toInt ≤ (fv 61).toInt from by omega), (show rd_pl (ar 57) ((fv_1 61).toInt.toNat) = rd_dn (rd_pl (ar 57) ((fv 61).toInt.toNat)) from by have h9 := rd_dn_top ((fv_1 61).toInt.toNat) (rd_pj_le hpj (by omega)) (Or.inl (by omega)); rw [← q_9, h9]), (show (fv_1 63).toInt = ((rd_pl (ar 57) ((fv_1 61).toInt.toNat)).length : Nat) from q_10), (show rd_pj (ar 57) ((fv_1 61).toInt.toNat) from rd_pj_le hpj (by omega)), rfl, hp_5, hp_6, trivial⟩, ⟨by rw [ht]; exact hP, va_K.moved hW.alike hK⟩⟩, hS.F ht⟩) hS.2.2 dX12_dropNots_54
      · skip
        have i_23 : 1 ≤ (fv_1 61).toInt ∧ (fv_1 61).toInt ≤ 64 := iv_lt2 (⟨by decide, by decide⟩ : (0 : Int) ≤ (0 : Int32).toInt ∧ (0 : Int32).toInt ≤ 0) i_19 (Int32.not_le.mp c_20)
        refine lv_aload_n hx hb dX12_dropNots_7 rfl (lv_at hl 0 rfl) ?_
        refine gM_57 hx hb htg hown hK hP dX12_dropNots_8 ?_
        refine lv_aload_n hx hb dX12_dropNots_11 rfl (lv_at hl 0 rfl) ?_
        refine gM_61 hx hb htg hown hK hP dX12_dropNots_12 ?_
        refine lv_iconst (v := 1) hx hb dX12_dropNots_15 (by decide) ?_
        refine lv_isub hx hb dX12_dropNots_16 ?_
        refine lv_topi (fun v_24 ev_24 => ?_)
        have t_25 : v_24.toInt = (fv_1 61).toInt - 1 ∧ 0 ≤ v_24.toInt ∧ v_24.toInt ≤ 63 := iv_subc ev_24 i_23 (by decide) (by decide) (by decide)
        refine lM_57 hx hb hK hP (iv_in t_25.2 (by decide) (by decide)) dX12_dropNots_17 (fun v_27 ev_27 => ?_)
        have i_28 : 0 ≤ v_27.toInt ∧ v_27.toInt ≤ 15 := ev_27 ▸ hA_ar_3 57 _
        refine lv_bipush (v := 12) hx hb dX12_dropNots_18 (by decide) ?_
        refine lv_icmp_ne (tgt := 54) hx hb dX12_dropNots_20 (by decide) (fun c_29 => ?_) (fun c_29 => ?_)
        · skip
          have k_30 : ¬ v_27.toInt = 12 := fun q => c_29 (Int32.toInt_inj.mp q)
          have z_31 : 0 ≤ (fv_1 61).toInt ∧ (fv_1 61).toInt ≤ 64 := hF_fv_1 61
          exact W.vret hx hb hr (fun t ht hW => ⟨⟨(fv_1, wd, ar_3), rfl, ⟨hF_fv_1, hA_ar_3, (fM_call (fM_rf [60, 61, 63] _) fr_2 (by decide)), (fA_call (fA_rf [54, 55, 56] _) fa_4 (by decide)), (show (fv_1 61).toInt ≤ (fv 61).toInt from by omega), (show rd_pl (ar 57) ((fv_1 61).toInt.toNat) = rd_dn (rd_pl (ar 57) ((fv 61).toInt.toNat)) from by have h9 := rd_dn_top ((fv_1 61).toInt.toNat) (rd_pj_le hpj (by omega)) (Or.inr (by rw [show ar 57 ((fv_1 61).toInt.toNat - 1) = v_27 from (by rw [ev_27, show ar_3 57 = ar 57 from ((fA_call (fA_rf [54, 55, 56] _) fa_4 (by decide)) 57 rfl)]; exact congrArg (ar 57) (show (fv_1 61).toInt.toNat - 1 = v_24.toInt.toNat from (by omega)))]; omega)); rw [← q_9, h9]), (show (fv_1 63).toInt = ((rd_pl (ar 57) ((fv_1 61).toInt.toNat)).length : Nat) from q_10), (show rd_pj (ar 57) ((fv_1 61).toInt.toNat) from rd_pj_le hpj (by omega)), rfl, hp_5, hp_6, trivial⟩, ⟨by rw [ht]; exact hP, va_K.moved hW.alike hK⟩⟩, hS.F ht⟩) hS.2.2 dX12_dropNots_54
        · skip
          have i_32 : 12 ≤ v_27.toInt ∧ v_27.toInt ≤ 12 := iv_eq1 (⟨by decide, by decide⟩ : (12 : Int) ≤ (12 : Int32).toInt ∧ (12 : Int32).toInt ≤ 12) c_29
          refine lv_aload_n hx hb dX12_dropNots_23 rfl (lv_at hl 0 rfl) ?_
          refine lv_dup hx hb dX12_dropNots_24 rfl ?_
          refine gM_61 hx hb htg hown hK hP dX12_dropNots_25 ?_
          refine lv_iconst (v := 1) hx hb dX12_dropNots_28 (by decide) ?_
          refine lv_isub hx hb dX12_dropNots_29 ?_
          refine my_ti (y := v_24) ev_24.symm ?_
          refine pM_61 hx hb htg hown hK hP hS hd dX12_dropNots_30 (fun H locs fv_34 efv_34 hP hS => ?_)
          have hF_fv_34 : rF fv_34 := rF_put hF_fv_1 efv_34 (iv_w t_25.2 (by decide) (by decide))
          refine lv_aload_n hx hb dX12_dropNots_33 rfl (lv_at hl 0 rfl) ?_
          refine lv_dup hx hb dX12_dropNots_34 rfl ?_
          refine gM_63 hx hb htg hown hK hP dX12_dropNots_35 ?_
          refine my_ti (y := fv_1 63) ((congrFun efv_34 63)) ?_
          have i_35 : (-100) ≤ (fv_1 63).toInt ∧ (fv_1 63).toInt ≤ 10 := hF_fv_1 63
          refine lv_iconst (v := 1) hx hb dX12_dropNots_38 (by decide) ?_
          refine lv_isub hx hb dX12_dropNots_39 ?_
          refine lv_topi (fun v_36 ev_36 => ?_)
          have t_37 : v_36.toInt = (fv_1 63).toInt - 1 ∧ (-101) ≤ v_36.toInt ∧ v_36.toInt ≤ 9 := iv_subc ev_36 i_35 (by decide) (by decide) (by decide)
          have i_39 : (-100) ≤ v_36.toInt ∧ v_36.toInt ≤ 10 := (by omega)
          refine pM_63 hx hb htg hown hK hP hS hd dX12_dropNots_40 (fun H locs fv_40 efv_40 hP hS => ?_)
          have hF_fv_40 : rF fv_40 := rF_put hF_fv_34 efv_40 i_39
          have pl9 : (ar_3 57 ((fv_1 61).toInt - 1).toNat).toInt = 12 := by rw [show ar_3 57 ((fv_1 61).toInt - 1).toNat = v_27 from by rw [ev_27]; congr 1; show _ = v_24.toInt.toNat; omega]; omega
          have z_41 : (fv_40 60).toInt = (fv_1 60).toInt := congrArg Int32.toInt ((congrFun efv_40 60).trans ((congrFun efv_34 60)))
          have z_42 : 0 ≤ (fv_40 60).toInt ∧ (fv_40 60).toInt ≤ 120 := hF_fv_40 60
          have z_43 : (fv_40 61).toInt = v_24.toInt := congrArg Int32.toInt ((congrFun efv_40 61).trans ((congrFun efv_34 61)))
          have z_44 : 0 ≤ (fv_40 61).toInt ∧ (fv_40 61).toInt ≤ 64 := hF_fv_40 61
          have z_45 : (fv_40 62).toInt = (fv 62).toInt := congrArg Int32.toInt ((congrFun efv_40 62).trans ((congrFun efv_34 62).trans ((fr_2 62 rfl))))
          have z_46 : 0 ≤ (fv_40 62).toInt ∧ (fv_40 62).toInt ≤ 50 := hF_fv_40 62
          have z_47 : (fv_40 63).toInt = v_36.toInt := congrArg Int32.toInt ((congrFun efv_40 63))
          have z_48 : (-100) ≤ (fv_40 63).toInt ∧ (fv_40 63).toInt ≤ 10 := hF_fv_40 63
          refine lv_aload_n hx hb dX12_dropNots_43 rfl (lv_at hl 0 rfl) ?_
          refine lv_bipush (v := 12) hx hb dX12_dropNots_44 (by decide) ?_
          refine lv_iconst (v := 0) hx hb dX12_dropNots_46 (by decide) ?_
          refine lv_iconst (v := 0) hx hb dX12_dropNots_47 (by decide) ?_
          have z_49 : (fv_40 60).toInt = (fv_1 60).toInt := congrArg Int32.toInt ((congrFun efv_40 60).trans ((congrFun efv_34 60)))
          have z_50 : 0 ≤ (fv_40 60).toInt ∧ (fv_40 60).toInt ≤ 120 := hF_fv_40 60
          have z_51 : (fv_40 60).toInt = (fv_1 60).toInt := congrArg Int32.toInt ((congrFun efv_40 60).trans ((congrFun efv_34 60)))
          have z_52 : 0 ≤ (fv_40 60).toInt ∧ (fv_40 60).toInt ≤ 120 := hF_fv_40 60
          refine va_callv (va_runV (As := [.int 12, .int 0, .int 0]) (rest := []) ⟨hx, hb, hml, hown, hts⟩ (m_emitC l dC dI H.size h ad cA hd fv_40 wd ar_3 hF_fv_40 hA_ar_3 12 0 0 (iv_w (⟨by decide, by decide⟩ : (12 : Int) ≤ (12 : Int32).toInt ∧ (12 : Int32).toInt ≤ 12) (by decide) (by decide)) (by omega) (vM_fr hp_6 (fM_put (fM_put (fM_rf [61, 63] _) efv_34 (by decide)) efv_40 (by decide)) (fA_rf [] _) rfl rfl rfl rfl rfl)) (cwV 3 hts (gV kw_8_121 kw_8_123 kw_p_75 kw_1_15 kw_8_124) rfl rfl rfl (by decide +kernel) ⟨Nat.le_of_ble_eq_true rfl, Nat.le_of_ble_eq_true rfl⟩) ⟨fun a U g mk q => ⟨q.1, q.2.1, q.2.2.1, va_K.moved (u := U) (U := U.calling g mk a) (Vm.Alike.refl U.vm) q.2.2.2⟩, va_recv hK hP (ci := 12) (q0 := 0) rfl rfl, fun U hU hW => ⟨rfl, by rw [hU], by rw [hU]; exact hP, va_K.moved hW.alike hK⟩⟩ rfl rfl hl.1 rfl (lv_room (Nat.le_of_ble_eq_true rfl)) dX12_dropNots_48 ⟨Nat.le_of_ble_eq_true rfl, Nat.le_of_ble_eq_true rfl⟩) hS (fun q _ h9 => aM_up hS q h9) (aM_up hS) (fun u t H1 locs ht _ hw hB _ hk1 hS => ?_)
          obtain ⟨fv_58, wd_59, ar_60⟩ := u
          obtain ⟨hF_fv_58, hA_ar_60, fr_61, fa_62, p_54, p_55, p_56, p_57, -⟩ := hw
          have hP : va_P (dC, dI) vwCl (wsM h ad cA fv_58 wd_59 ar_60) H1 := by have h9 := hB.1; rw [ht] at h9; exact h9
          have fr_61 : fM [60] fv_40 fv_58 := fr_61
          have fa_62 : fA [54, 55, 56] ar_3 ar_60 := fa_62
          have p_57 : vM fv_58 ar_60 := p_57
          have p_54 : (fv_58 60).toInt = (fv_40 60).toInt + 1 := p_54
          have p_55 : ar_60 54 = upd (ar_3 54) (1200 + (fv_40 60).toInt.toNat) (12 : Int32) := p_55
          have p_56 : wd_59 = wd := p_56
          generalize H1 = H at hP hS ⊢
          rw [p_56] at hP
          have z_63 : 0 ≤ (fv_58 60).toInt ∧ (fv_58 60).toInt ≤ 120 := hF_fv_58 60
          have z_64 : (fv_58 61).toInt = v_24.toInt := congrArg Int32.toInt ((fr_61 61 rfl).trans ((congrFun efv_40 61).trans ((congrFun efv_34 61))))
          have z_65 : 0 ≤ (fv_58 61).toInt ∧ (fv_58 61).toInt ≤ 64 := hF_fv_58 61
          have z_66 : (fv_58 62).toInt = (fv 62).toInt := congrArg Int32.toInt ((fr_61 62 rfl).trans ((congrFun efv_40 62).trans ((congrFun efv_34 62).trans ((fr_2 62 rfl)))))
          have z_67 : 0 ≤ (fv_58 62).toInt ∧ (fv_58 62).toInt ≤ 50 := hF_fv_58 62
          have z_68 : (fv_58 63).toInt = v_36.toInt := congrArg Int32.toInt ((fr_61 63 rfl).trans ((congrFun efv_40 63)))
          have z_69 : (-100) ≤ (fv_58 63).toInt ∧ (fv_58 63).toInt ≤ 10 := hF_fv_58 63
          have hp_70 : cX FF g0 1 (fv_58 60).toInt (fv_58 61).toInt (fv_58 62).toInt (fv_58 63).toInt (ar_60 54) (ar_60 57) := cX_eq (cX_not (g1 := ar_60 54) hp_5 (by omega) pl9 (by decide) (p1 := (fv_58 60).toInt) (t1 := (fv_58 61).toInt) (o1 := (fv_58 62).toInt) (w1 := (fv_58 63).toInt) (by omega) (by omega) (by omega) (by omega) (i := _) (by omega) p_55) rfl rfl rfl rfl rfl ((fA_call (fA_rf [54, 55, 56] _) fa_62 (by decide)) 57 rfl)
          refine lv_goto (tgt := 0) hx hb dX12_dropNots_51 (by decide) ?_
          have z_71 : 0 ≤ (fv_58 60).toInt ∧ (fv_58 60).toInt ≤ 120 := hF_fv_58 60
          have z_72 : (fv_58 61).toInt = v_24.toInt := congrArg Int32.toInt ((fr_61 61 rfl).trans ((congrFun efv_40 61).trans ((congrFun efv_34 61))))
          have z_73 : 0 ≤ (fv_58 61).toInt ∧ (fv_58 61).toInt ≤ 64 := hF_fv_58 61
          have z_74 : (fv_58 63).toInt = v_36.toInt := congrArg Int32.toInt ((fr_61 63 rfl).trans ((congrFun efv_40 63)))
          have z_75 : (-100) ≤ (fv_58 63).toInt ∧ (fv_58 63).toInt ≤ 10 := hF_fv_58 63
          exact ih_11 fv_58 ar_60 _ _ ls (by omega) hF_fv_58 (fM_call (fM_put (fM_put (fM_call (fM_rf [60, 61, 63] _) fr_2 (by decide)) efv_34 (by decide)) efv_40 (by decide)) fr_61 (by decide)) hA_ar_60 (fA_call (fA_call (fA_rf [54, 55, 56] _) fa_4 (by decide)) fa_62 (by decide)) hp_70 p_57 (by omega) (by omega) (by have hp9 : (ar 57 ((fv_1 61).toInt - 1).toNat).toInt = 12 := (by have h9 := pl9; rw [show ar_3 57 = ar 57 from ((fA_call (fA_rf [54, 55, 56] _) fa_4 (by decide)) 57 rfl)] at h9; exact h9); have he9 : rd_pl (ar 57) ((fv_1 61).toInt.toNat) = true :: rd_pl (ar 57) ((fv_58 61).toInt.toNat) := (by rw [show (fv_1 61).toInt.toNat = ((fv_1 61).toInt - 1).toNat + 1 from (by omega), rd_pl_12 hp9, show (fv_58 61).toInt.toNat = ((fv_1 61).toInt - 1).toNat from (by omega)]); rw [← q_9, he9, rd_dn_t]) (by have hp9 : (ar 57 ((fv_1 61).toInt - 1).toNat).toInt = 12 := (by have h9 := pl9; rw [show ar_3 57 = ar 57 from ((fA_call (fA_rf [54, 55, 56] _) fa_4 (by decide)) 57 rfl)] at h9; exact h9); have he9 : rd_pl (ar 57) ((fv_1 61).toInt.toNat) = true :: rd_pl (ar 57) ((fv_58 61).toInt.toNat) := (by rw [show (fv_1 61).toInt.toNat = ((fv_1 61).toInt - 1).toNat + 1 from (by omega), rd_pl_12 hp9, show (fv_58 61).toInt.toNat = ((fv_1 61).toInt - 1).toNat from (by omega)]); have h9 := q_10; rw [he9, List.length_cons] at h9; omega) hP hS (lv_sub hl [0] rfl)
  · skip
    have z_76 : 0 ≤ (fv 60).toInt ∧ (fv 60).toInt ≤ 120 := hF_fv 60
    have z_77 : 0 ≤ (fv 61).toInt ∧ (fv 61).toInt ≤ 64 := hF_fv 61
    have z_78 : (-100) ≤ (fv 63).toInt ∧ (fv 63).toInt ≤ 10 := hF_fv 63
    exact hj_13 65 fv ar _ _ ls (by omega) hF_fv (fM_rf [60, 61, 63] _) hA_ar (fA_rf [54, 55, 56] _) hp_c1 hp_vM (hF_fv 61) (Int.le_refl _) rfl hwi hP hS (lv_sub hl [0] rfl)
set_option maxHeartbeats 4000000 in
set_option maxRecDepth 100000 in
theorem m_isOpenC (l : Launch) (dC : Nat → ClassId) (dI : Nat → Nat → Nat) (sz h : Nat) (ad : Nat → Nat) (cA : Nat → ClassId) (hd : dM h ad) (fv : Nat → Int32) (wd : Int64) (ar : Nat → Nat → Int32) (hF_fv : rF fv) (hA_ar : rA ar) : Met l yX12_isOpen (.code yX12_isOpen cX12_isOpen 2 (some .boolean) :: lw_good) ({ frames := 2, cells := 0, slots := 0, locals := 40 }) (va_Pc [.ref h] (prM dC dI h ad cA fv wd ar sz)) (va_Qi (fun (r : Int32) (u : mS) => rF u.1 ∧ rA u.2.2 ∧ fM [] fv u.1 ∧ fA [] ar u.2.2 ∧ (0 ≤ r.toInt ∧ r.toInt ≤ 1) ∧ ((r = 0 ∧ (∀ j : Nat, (j : Int) < (fv 61).toInt → ¬ (ar 57 j).toInt = 15)) ∨ (r = 1 ∧ (∃ j : Nat, (j : Int) < (fv 61).toInt ∧ (ar 57 j).toInt = 15))) ∧ (u.2.1 = wd) ∧ True) (enM dC dI h ad cA) (aM h ad sz)) 0 0 (aM h ad sz) := by
  refine Met.ofW (cc := cX12_isOpen) (maxL := 2) (ret := (some .boolean)) (by decide) rfl ?_
  intro p e s m args below meth c s₁ B hml hv
  obtain ⟨rfl, hsz, hP, hK⟩ := hv
  have hx := B.exec
  have hb := B.bytes
  have hr := B.returns
  have hts := atoms_spec (ws := (.code yX12_isOpen cX12_isOpen 2 (some .boolean) :: lw_good)) B.pre
  have htg : ∀ w ∈ lw_good, w.before _ s = true := fun w hw => hts w (List.mem_cons_of_mem _ hw)
  have hown : s.vm.findClass RX12 = some m.cls := findClass_of_methodNamed B.named
  have hlocks := B.notSynchronized
  subst hsz
  have hS : va_S (aM h ad s.heap.size) s.heap s.heap [] := va_S.rf
  have hl := lv_entry ([.ref h]) (n := 2) (Nat.le_of_ble_eq_true rfl)
  rw [lg_entry_eq]
  generalize (lg_sl ([.ref h]) ++ List.replicate (2 - (lg_sl ([.ref h])).length) Slot.unset).toArray = ls at hl ⊢
  have hl : lv_has ls 2 [(0, .ref h)] := hl
  refine lv_iconst (v := 0) hx hb dX12_isOpen_0 (by decide) ?_
  refine lv_istore_n (lv' := [(1, .int 0), (0, .ref h)]) hx hb dX12_isOpen_1 rfl hl (by decide) rfl (fun ls hl => ?_)
  refine my_cut (P := fun R9 a9 Q9 => ∀ (n_3 : Nat) (x_1 : Int32) (H : Heap) (locs : List Loc) (ls : Array Slot), 64 - x_1.toInt < (n_3 : Int) → (0 ≤ x_1.toInt ∧ x_1.toInt ≤ 64) → (∀ j : Nat, (j : Int) < x_1.toInt → ¬ (ar 57 j).toInt = 15) → va_P (dC, dI) vwCl (wsM h ad cA fv wd ar) H → va_S (aM h ad s.heap.size) s.heap H locs → lv_has ls 2 [(0, .ref h), (1, .int x_1)] → W p l e R9 s m a9 below meth c H locs 0 0 Q9 (F0 m 2 ls [])) ?_ (fun hj_5 => ?_)
  · intro n_3
    induction n_3 with
    | zero => intro x_1 H locs ls fu_4 i_x_1 q_2; exfalso; omega
    | succ n_3 ih_3 =>
      intro x_1 H locs ls fu_4 i_x_1 q_2 hP hS hl
      refine lv_iload_n hx hb dX12_isOpen_2 rfl (lv_at hl 1 rfl) ?_
      refine lv_aload_n hx hb dX12_isOpen_3 rfl (lv_at hl 0 rfl) ?_
      refine gM_61 hx hb htg hown hK hP dX12_isOpen_4 ?_
      have i_6 : 0 ≤ (fv 61).toInt ∧ (fv 61).toInt ≤ 64 := hF_fv 61
      refine lv_icmp_ge (tgt := 29) hx hb dX12_isOpen_7 (by decide) (fun c_7 => ?_) (fun c_7 => ?_)
      · skip
        have k_8 := Int32.le_iff_toInt_le.mp c_7
        refine lv_iconst (v := 0) hx hb dX12_isOpen_29 (by decide) ?_
        have z_9 : (0 : Int32).toInt = 0 := by decide
        exact W.zret (v := 0) hx hb hr (by decide) (fun t ht hW => ⟨⟨0, (fv, wd, ar), rfl, ⟨hF_fv, hA_ar, (fM_rf [] _), (fA_rf [] _), (iv_w (⟨by decide, by decide⟩ : (0 : Int) ≤ (0 : Int32).toInt ∧ (0 : Int32).toInt ≤ 0) (by decide) (by decide)), (Or.inl ⟨rfl, (fun j hj => q_2 j (by omega))⟩), rfl, trivial⟩, ⟨by rw [ht]; exact hP, va_K.moved hW.alike hK⟩⟩, hS.F ht⟩) hS.2.2 dX12_isOpen_30
      · skip
        have i_10 : 0 ≤ x_1.toInt ∧ x_1.toInt ≤ 63 := iv_lt1 i_x_1 i_6 (Int32.not_le.mp c_7)
        have i_11 : 1 ≤ (fv 61).toInt ∧ (fv 61).toInt ≤ 64 := iv_lt2 i_x_1 i_6 (Int32.not_le.mp c_7)
        have k_12 := Int32.lt_iff_toInt_lt.mp (Int32.not_le.mp c_7)
        refine lv_aload_n hx hb dX12_isOpen_10 rfl (lv_at hl 0 rfl) ?_
        refine gM_57 hx hb htg hown hK hP dX12_isOpen_11 ?_
        refine lv_iload_n hx hb dX12_isOpen_14 rfl (lv_at hl 1 rfl) ?_
        refine lM_57 hx hb hK hP (iv_in i_10 (by decide) (by decide)) dX12_isOpen_15 (fun v_13 ev_13 => ?_)
        have i_14 : 0 ≤ v_13.toInt ∧ v_13.toInt ≤ 15 := ev_13 ▸ hA_ar 57 _
        refine lv_bipush (v := 15) hx hb dX12_isOpen_16 (by decide) ?_
        refine lv_icmp_ne (tgt := 23) hx hb dX12_isOpen_18 (by decide) (fun c_15 => ?_) (fun c_15 => ?_)
        · skip
          have i_16 : 0 ≤ v_13.toInt ∧ v_13.toInt ≤ 14 := iv_neh i_14 (by decide) c_15
          have k_17 : ¬ v_13.toInt = 15 := fun q => c_15 (Int32.toInt_inj.mp q)
          obtain ⟨v_18, ev_18⟩ : ∃ z : Int32, z = x_1 + 1 := ⟨_, rfl⟩
          refine lv_iinc (v := v_18) (lv' := [(1, .int v_18), (0, .ref h)]) hx hb dX12_isOpen_23 hl (k := 1) rfl (by rw [ev_18]; rfl) (by decide) rfl (fun ls hl => ?_)
          have t_19 : v_18.toInt = x_1.toInt + 1 ∧ 1 ≤ v_18.toInt ∧ v_18.toInt ≤ 64 := iv_addc ev_18 i_10 (by decide) (by decide) (by decide)
          refine lv_goto (tgt := 2) hx hb dX12_isOpen_26 (by decide) ?_
          exact ih_3 v_18 _ _ ls (by omega) (iv_w t_19.2 (by decide) (by decide)) (fun j hj => by by_cases h9 : (j : Int) < x_1.toInt; exact q_2 j h9; have h8 : j = x_1.toInt.toNat := (by omega); have h7 : ar 57 (x_1.toInt.toNat) = v_13 := ev_13.symm; rw [h8, h7]; omega) hP hS (lv_sub hl [1, 0] rfl)
        · skip
          have i_21 : 15 ≤ v_13.toInt ∧ v_13.toInt ≤ 15 := iv_eq1 (⟨by decide, by decide⟩ : (15 : Int) ≤ (15 : Int32).toInt ∧ (15 : Int32).toInt ≤ 15) c_15
          refine lv_iconst (v := 1) hx hb dX12_isOpen_21 (by decide) ?_
          have z_23 : (1 : Int32).toInt = 1 := by decide
          exact W.zret (v := 1) hx hb hr (by decide) (fun t ht hW => ⟨⟨1, (fv, wd, ar), rfl, ⟨hF_fv, hA_ar, (fM_rf [] _), (fA_rf [] _), (iv_w (⟨by decide, by decide⟩ : (1 : Int) ≤ (1 : Int32).toInt ∧ (1 : Int32).toInt ≤ 1) (by decide) (by decide)), (Or.inr (⟨rfl, ⟨x_1.toInt.toNat, by omega, by show (ar 57 (Int32.toNatClampNeg x_1)).toInt = 15; rw [← ev_13]; omega⟩⟩)), rfl, trivial⟩, ⟨by rw [ht]; exact hP, va_K.moved hW.alike hK⟩⟩, hS.F ht⟩) hS.2.2 dX12_isOpen_22
  · skip
    have z_24 : (0 : Int32).toInt = 0 := by decide
    exact hj_5 65 0 _ _ ls (by first | decide | omega) (iv_w (⟨by decide, by decide⟩ : (0 : Int) ≤ (0 : Int32).toInt ∧ (0 : Int32).toInt ≤ 0) (by decide) (by decide)) (fun j hj => absurd hj (by have h9 : (0 : Int32).toInt = 0 := (by decide); omega)) hP hS (lv_sub hl [1, 0] rfl)

set_option maxHeartbeats 4000000 in
set_option maxRecDepth 100000 in
theorem m_rodeE (l : Launch) (dC : Nat → ClassId) (dI : Nat → Nat → Nat) (sz h : Nat) (ad : Nat → Nat) (cA : Nat → ClassId) (hd : dM h ad) (fv : Nat → Int32) (wd : Int64) (ar : Nat → Nat → Int32) (hF_fv : rF fv) (hA_ar : rA ar) (a : Int32) : Met l yX12_rode (.code yX12_rode cX12_rode 2 (some .int) :: lw_good) ({ frames := 3, cells := 0, slots := 0, locals := 62 }) (va_Pc [.ref h, .int a] (prM dC dI h ad cA fv wd ar sz)) (va_Qi (fun (r : Int32) (u : mS) => rF u.1 ∧ rA u.2.2 ∧ fM [0] fv u.1 ∧ fA [] ar u.2.2 ∧ (((a.toInt < 0 ∨ (fv 35).toInt ≤ a.toInt) ∧ r = -1) ∨ (¬ (a.toInt < 0 ∨ (fv 35).toInt ≤ a.toInt) ∧ r = ar 81 (a.toInt.toNat))) ∧ True) (enM dC dI h ad cA) (aM h ad sz)) 0 0 (aM h ad sz) := by
  refine Met.ofW (cc := cX12_rode) (maxL := 2) (ret := (some .int)) (by decide) rfl ?_
  intro p e s m args below meth c s₁ B hml hv
  obtain ⟨rfl, hsz, hP, hK⟩ := hv
  have hx := B.exec
  have hb := B.bytes
  have hr := B.returns
  have hts := atoms_spec (ws := (.code yX12_rode cX12_rode 2 (some .int) :: lw_good)) B.pre
  have htg : ∀ w ∈ lw_good, w.before _ s = true := fun w hw => hts w (List.mem_cons_of_mem _ hw)
  have hown : s.vm.findClass RX12 = some m.cls := findClass_of_methodNamed B.named
  have hlocks := B.notSynchronized
  subst hsz
  have hS : va_S (aM h ad s.heap.size) s.heap s.heap [] := va_S.rf
  have hl := lv_entry ([.ref h, .int a]) (n := 2) (Nat.le_of_ble_eq_true rfl)
  rw [lg_entry_eq]
  generalize (lg_sl ([.ref h, .int a]) ++ List.replicate (2 - (lg_sl ([.ref h, .int a])).length) Slot.unset).toArray = ls at hl ⊢
  have hl : lv_has ls 2 [(0, .ref h), (1, .int a)] := hl
  refine lv_aload_n hx hb dX12_rode_0 rfl (lv_at hl 0 rfl) ?_
  refine lv_iconst (v := 0) hx hb dX12_rode_1 (by decide) ?_
  refine pM_0 hx hb htg hown hK hP hS hd dX12_rode_2 (fun H locs fv_1 efv_1 hP hS => ?_)
  have hF_fv_1 : rF fv_1 := rF_put hF_fv efv_1 (iv_any _)
  refine lv_iload_n hx hb dX12_rode_5 rfl (lv_at hl 1 rfl) ?_
  refine lv_iconst (v := 0) hx hb dX12_rode_6 (by decide) ?_
  refine lv_aload_n hx hb dX12_rode_7 rfl (lv_at hl 0 rfl) ?_
  refine gM_35 hx hb htg hown hK hP dX12_rode_8 ?_
  refine my_ti (y := fv 35) ((congrFun efv_1 35)) ?_
  have i_2 : 0 ≤ (fv 35).toInt ∧ (fv 35).toInt ≤ 80 := hF_fv 35
  refine lv_iconst (v := 1) hx hb dX12_rode_11 (by decide) ?_
  refine lv_isub hx hb dX12_rode_12 ?_
  refine lv_topi (fun v_3 ev_3 => ?_)
  have t_4 : v_3.toInt = (fv 35).toInt - 1 ∧ (-1) ≤ v_3.toInt ∧ v_3.toInt ≤ 79 := iv_subc ev_3 i_2 (by decide) (by decide) (by decide)
  refine va_calli (va_runS (As := [.int a, .int 0, .int v_3]) (rest := []) ⟨hx, hb, hml, hown, hts⟩ (m_isIn l H.size a 0 v_3) (va_cwS 3 hts (gS kw_7_218 kw_7_219 kw_1_15 kw_7_220) rfl rfl rfl (by decide +kernel) ⟨Nat.le_of_ble_eq_true rfl, Nat.le_of_ble_eq_true rfl⟩) ⟨fun a U g mk q => ⟨q.1, q.2⟩, fun U hU hW => ⟨rfl, congrArg Array.size hU⟩⟩ rfl rfl hl.1 rfl (lv_room (Nat.le_of_ble_eq_true rfl)) dX12_rode_13 ⟨Nat.le_of_ble_eq_true rfl, Nat.le_of_ble_eq_true rfl⟩) hS (fun q _ h9 => nM_up hS q h9) (nM_up hS) (fun r_6 u t H1 locs ht _ hw hB _ hk1 hS => ?_)
  obtain ⟨p_7, p_8, -⟩ := hw
  have hP := my_keepM hP hk1
  generalize H1 = H at hP hS ⊢
  rcases p_8 with ⟨rfl, p_8⟩ | ⟨rfl, p_8⟩
  · skip
    refine lv_if_eq (tgt := 28) hx hb dX12_rode_16 (by decide) (fun c_9 => ?_) (fun c_9 => ?_)
    · skip
      refine lv_iconst (v := (-1)) hx hb dX12_rode_28 (by decide) ?_
      have z_10 : ((-1) : Int32).toInt = (-1) := by decide
      exact W.iret (v := (-1)) hx hb hr (fun t ht hW => ⟨⟨(-1), (fv_1, wd, ar), rfl, ⟨hF_fv_1, hA_ar, (fM_put (fM_rf [0] _) efv_1 (by decide)), (fA_rf [] _), (show ((a.toInt < 0 ∨ (fv 35).toInt ≤ a.toInt) ∧ ((-1) : Int32) = -1) ∨ (¬ (a.toInt < 0 ∨ (fv 35).toInt ≤ a.toInt) ∧ ((-1) : Int32) = ar 81 (a.toInt.toNat)) from by have hz0 : (0 : Int32).toInt = 0 := (by decide); have hz1 : (1 : Int32).toInt = 1 := (by decide); have hz6 : (6 : Int32).toInt = 6 := (by decide); have : (fv_1 35).toInt = (fv 35).toInt := congrArg Int32.toInt ((fM_put (fM_rf [0] _) efv_1 (by decide)) 35 rfl); exact Or.inl ⟨by omega, rfl⟩), trivial⟩, ⟨by rw [ht]; exact hP, va_K.moved hW.alike hK⟩⟩, hS.F ht⟩) hS.2.2 dX12_rode_29
    · skip
      exact absurd c_9 (by decide)
  · skip
    have i_11 : 0 ≤ a.toInt ∧ a.toInt ≤ 2147483647 := iv_le2 (⟨by decide, by decide⟩ : (0 : Int) ≤ (0 : Int32).toInt ∧ (0 : Int32).toInt ≤ 0) (iv_any a) (Int32.le_iff_toInt_le.mpr p_8.1)
    have i_12 : 0 ≤ a.toInt ∧ a.toInt ≤ 79 := iv_le1 i_11 t_4.2 (Int32.le_iff_toInt_le.mpr p_8.2)
    have i_13 : 0 ≤ v_3.toInt ∧ v_3.toInt ≤ 79 := iv_le2 i_11 t_4.2 (Int32.le_iff_toInt_le.mpr p_8.2)
    refine lv_if_eq (tgt := 28) hx hb dX12_rode_16 (by decide) (fun c_14 => ?_) (fun c_14 => ?_)
    · skip
      exact absurd c_14 (by decide)
    · skip
      refine lv_aload_n hx hb dX12_rode_19 rfl (lv_at hl 0 rfl) ?_
      refine gM_81 hx hb htg hown hK hP dX12_rode_20 ?_
      refine lv_iload_n hx hb dX12_rode_23 rfl (lv_at hl 1 rfl) ?_
      refine lM_81 hx hb hK hP (iv_in i_12 (by decide) (by decide)) dX12_rode_24 (fun v_15 ev_15 => ?_)
      refine lv_goto (tgt := 29) hx hb dX12_rode_25 (by decide) ?_
      exact W.iret (v := v_15) hx hb hr (fun t ht hW => ⟨⟨v_15, (fv_1, wd, ar), rfl, ⟨hF_fv_1, hA_ar, (fM_put (fM_rf [0] _) efv_1 (by decide)), (fA_rf [] _), (show ((a.toInt < 0 ∨ (fv 35).toInt ≤ a.toInt) ∧ v_15 = -1) ∨ (¬ (a.toInt < 0 ∨ (fv 35).toInt ≤ a.toInt) ∧ v_15 = ar 81 (a.toInt.toNat)) from by have hz0 : (0 : Int32).toInt = 0 := (by decide); have hz1 : (1 : Int32).toInt = 1 := (by decide); have hz6 : (6 : Int32).toInt = 6 := (by decide); have : (fv_1 35).toInt = (fv 35).toInt := congrArg Int32.toInt ((fM_put (fM_rf [0] _) efv_1 (by decide)) 35 rfl); exact Or.inr ⟨by omega, (show v_15 = ar 81 (a.toInt.toNat) from by rw [ev_15]; exact congrArg (ar 81) (show a.toInt.toNat = (a.toInt.toNat) from by omega))⟩), trivial⟩, ⟨by rw [ht]; exact hP, va_K.moved hW.alike hK⟩⟩, hS.F ht⟩) hS.2.2 dX12_rode_29
set_option maxHeartbeats 4000000 in
set_option maxRecDepth 100000 in
theorem m_wheeledE (l : Launch) (dC : Nat → ClassId) (dI : Nat → Nat → Nat) (sz h : Nat) (ad : Nat → Nat) (cA : Nat → ClassId) (hd : dM h ad) (fv : Nat → Int32) (wd : Int64) (ar : Nat → Nat → Int32) (hF_fv : rF fv) (hA_ar : rA ar) (a : Int32) (b : Int32) : Met l yX12_wheeled (.code yX12_wheeled cX12_wheeled 3 (some .int) :: lw_good) ({ frames := 3, cells := 0, slots := 0, locals := 61 }) (va_Pc [.ref h, .int a, .int b] (prM dC dI h ad cA fv wd ar sz)) (va_Qi (fun (r : Int32) (u : mS) => rF u.1 ∧ rA u.2.2 ∧ fM [0] fv u.1 ∧ fA [] ar u.2.2 ∧ (((a.toInt < 0 ∨ (fv 34).toInt ≤ a.toInt) ∧ r = -1) ∨ (¬ (a.toInt < 0 ∨ (fv 34).toInt ≤ a.toInt) ∧ r = mo_w4 b.toInt (ar 78 (a.toInt.toNat)) (ar 79 (a.toInt.toNat)) (ar 24 (a.toInt.toNat)) (ar 76 (a.toInt.toNat)))) ∧ True) (enM dC dI h ad cA) (aM h ad sz)) 0 0 (aM h ad sz) := by
  refine Met.ofW (cc := cX12_wheeled) (maxL := 3) (ret := (some .int)) (by decide) rfl ?_
  intro p e s m args below meth c s₁ B hml hv
  obtain ⟨rfl, hsz, hP, hK⟩ := hv
  have hx := B.exec
  have hb := B.bytes
  have hr := B.returns
  have hts := atoms_spec (ws := (.code yX12_wheeled cX12_wheeled 3 (some .int) :: lw_good)) B.pre
  have htg : ∀ w ∈ lw_good, w.before _ s = true := fun w hw => hts w (List.mem_cons_of_mem _ hw)
  have hown : s.vm.findClass RX12 = some m.cls := findClass_of_methodNamed B.named
  have hlocks := B.notSynchronized
  subst hsz
  have hS : va_S (aM h ad s.heap.size) s.heap s.heap [] := va_S.rf
  have hl := lv_entry ([.ref h, .int a, .int b]) (n := 3) (Nat.le_of_ble_eq_true rfl)
  rw [lg_entry_eq]
  generalize (lg_sl ([.ref h, .int a, .int b]) ++ List.replicate (3 - (lg_sl ([.ref h, .int a, .int b])).length) Slot.unset).toArray = ls at hl ⊢
  have hl : lv_has ls 3 [(0, .ref h), (1, .int a), (2, .int b)] := hl
  refine lv_aload_n hx hb dX12_wheeled_0 rfl (lv_at hl 0 rfl) ?_
  refine lv_iconst (v := 0) hx hb dX12_wheeled_1 (by decide) ?_
  refine pM_0 hx hb htg hown hK hP hS hd dX12_wheeled_2 (fun H locs fv_1 efv_1 hP hS => ?_)
  have hF_fv_1 : rF fv_1 := rF_put hF_fv efv_1 (iv_any _)
  refine lv_aload_n hx hb dX12_wheeled_5 rfl (lv_at hl 0 rfl) ?_
  refine lv_iload_n hx hb dX12_wheeled_6 rfl (lv_at hl 1 rfl) ?_
  refine va_calli (va_runV (As := [.int a]) (rest := []) ⟨hx, hb, hml, hown, hts⟩ (m_isWheelE l dC dI H.size h ad cA hd fv_1 wd ar hF_fv_1 hA_ar a) (cwV 1 hts (gV kw_8_40 kw_8_42 kw_p_63 kw_1_15 kw_8_43) rfl rfl rfl (by decide +kernel) ⟨Nat.le_of_ble_eq_true rfl, Nat.le_of_ble_eq_true rfl⟩) ⟨fun a U g mk q => ⟨q.1, q.2.1, q.2.2.1, va_K.moved (u := U) (U := U.calling g mk a) (Vm.Alike.refl U.vm) q.2.2.2⟩, va_recv hK hP (ci := 12) (q0 := 0) rfl rfl, fun U hU hW => ⟨rfl, by rw [hU], by rw [hU]; exact hP, va_K.moved hW.alike hK⟩⟩ rfl rfl hl.1 rfl (lv_room (Nat.le_of_ble_eq_true rfl)) dX12_wheeled_7 ⟨Nat.le_of_ble_eq_true rfl, Nat.le_of_ble_eq_true rfl⟩) hS (fun q _ h9 => aM_up hS q h9) (aM_up hS) (fun r_2 u t H1 locs ht _ hw hB _ hk1 hS => ?_)
  obtain ⟨fv_5, wd_6, ar_7⟩ := u
  obtain ⟨hF_fv_5, hA_ar_7, fr_8, fa_9, p_3, p_4, -⟩ := hw
  have hP : va_P (dC, dI) vwCl (wsM h ad cA fv_5 wd_6 ar_7) H1 := by have h9 := hB.1; rw [ht] at h9; exact h9
  have fr_8 : fM [] fv_1 fv_5 := fr_8
  have fa_9 : fA [] ar ar_7 := fa_9
  generalize H1 = H at hP hS ⊢
  rcases p_4 with ⟨rfl, p_4⟩ | ⟨rfl, p_4⟩
  · skip
    have q_10 : a.toInt < 0 ∨ (fv_1 34).toInt ≤ a.toInt := p_4
    refine lv_if_ne (tgt := 15) hx hb dX12_wheeled_10 (by decide) (fun c_11 => ?_) (fun c_11 => ?_)
    · skip
      exact absurd c_11 (by decide)
    · skip
      refine lv_iconst (v := (-1)) hx hb dX12_wheeled_13 (by decide) ?_
      have z_12 : ((-1) : Int32).toInt = (-1) := by decide
      exact W.iret (v := (-1)) hx hb hr (fun t ht hW => ⟨⟨(-1), (fv_5, wd_6, ar_7), rfl, ⟨hF_fv_5, hA_ar_7, (fM_call (fM_put (fM_rf [0] _) efv_1 (by decide)) fr_8 (by decide)), (fA_call (fA_rf [] _) fa_9 (by decide)), (show ((a.toInt < 0 ∨ (fv 34).toInt ≤ a.toInt) ∧ ((-1) : Int32) = -1) ∨ (¬ (a.toInt < 0 ∨ (fv 34).toInt ≤ a.toInt) ∧ ((-1) : Int32) = mo_w4 b.toInt (ar 78 (a.toInt.toNat)) (ar 79 (a.toInt.toNat)) (ar 24 (a.toInt.toNat)) (ar 76 (a.toInt.toNat))) from by have hz0 : (0 : Int32).toInt = 0 := (by decide); have hz1 : (1 : Int32).toInt = 1 := (by decide); have hz6 : (6 : Int32).toInt = 6 := (by decide); have : (fv_1 34).toInt = (fv 34).toInt := congrArg Int32.toInt ((fM_put (fM_rf [0] _) efv_1 (by decide)) 34 rfl); have : (fv_5 34).toInt = (fv_1 34).toInt := congrArg Int32.toInt ((fM_call (fM_rf [] _) fr_8 (by decide)) 34 rfl); exact Or.inl ⟨by omega, rfl⟩), trivial⟩, ⟨by rw [ht]; exact hP, va_K.moved hW.alike hK⟩⟩, hS.F ht⟩) hS.2.2 dX12_wheeled_14
  · skip
    have i_13 : 0 ≤ a.toInt ∧ a.toInt ≤ 2147483647 := ⟨p_4.1, (iv_any a).2⟩
    have i_14 : 0 ≤ a.toInt ∧ a.toInt ≤ 19 := ⟨i_13.1, p_4.2.1⟩
    have q_15 : a.toInt < (fv_1 34).toInt := p_4.2.2
    refine lv_if_ne (tgt := 15) hx hb dX12_wheeled_10 (by decide) (fun c_16 => ?_) (fun c_16 => ?_)
    · skip
      refine lv_iload_n hx hb dX12_wheeled_15 rfl (lv_at hl 2 rfl) ?_
      rcases iv_sw_0_4 b with w_17 | w_17 | w_17 | w_17 | w_17 | w_17
      · skip
        refine lv_tableOut (tgt := 76) hx hb dX12_wheeled_16 (Or.inl w_17) (by decide) ?_
        refine lv_iconst (v := (-1)) hx hb dX12_wheeled_76 (by decide) ?_
        have z_18 : ((-1) : Int32).toInt = (-1) := by decide
        exact W.iret (v := (-1)) hx hb hr (fun t ht hW => ⟨⟨(-1), (fv_5, wd_6, ar_7), rfl, ⟨hF_fv_5, hA_ar_7, (fM_call (fM_put (fM_rf [0] _) efv_1 (by decide)) fr_8 (by decide)), (fA_call (fA_rf [] _) fa_9 (by decide)), (show ((a.toInt < 0 ∨ (fv 34).toInt ≤ a.toInt) ∧ ((-1) : Int32) = -1) ∨ (¬ (a.toInt < 0 ∨ (fv 34).toInt ≤ a.toInt) ∧ ((-1) : Int32) = mo_w4 b.toInt (ar 78 (a.toInt.toNat)) (ar 79 (a.toInt.toNat)) (ar 24 (a.toInt.toNat)) (ar 76 (a.toInt.toNat))) from by have hz0 : (0 : Int32).toInt = 0 := (by decide); have hz1 : (1 : Int32).toInt = 1 := (by decide); have hz6 : (6 : Int32).toInt = 6 := (by decide); have : (fv_1 34).toInt = (fv 34).toInt := congrArg Int32.toInt ((fM_put (fM_rf [0] _) efv_1 (by decide)) 34 rfl); have : (fv_5 34).toInt = (fv_1 34).toInt := congrArg Int32.toInt ((fM_call (fM_rf [] _) fr_8 (by decide)) 34 rfl); exact Or.inr ⟨by omega, by skip; unfold mo_w4; rw [if_neg (by omega), if_neg (by omega), if_neg (by omega), if_neg (by omega)]⟩), trivial⟩, ⟨by rw [ht]; exact hP, va_K.moved hW.alike hK⟩⟩, hS.F ht⟩) hS.2.2 dX12_wheeled_77
      · skip
        refine lv_tableOut (tgt := 76) hx hb dX12_wheeled_16 (Or.inr w_17) (by decide) ?_
        refine lv_iconst (v := (-1)) hx hb dX12_wheeled_76 (by decide) ?_
        have z_19 : ((-1) : Int32).toInt = (-1) := by decide
        exact W.iret (v := (-1)) hx hb hr (fun t ht hW => ⟨⟨(-1), (fv_5, wd_6, ar_7), rfl, ⟨hF_fv_5, hA_ar_7, (fM_call (fM_put (fM_rf [0] _) efv_1 (by decide)) fr_8 (by decide)), (fA_call (fA_rf [] _) fa_9 (by decide)), (show ((a.toInt < 0 ∨ (fv 34).toInt ≤ a.toInt) ∧ ((-1) : Int32) = -1) ∨ (¬ (a.toInt < 0 ∨ (fv 34).toInt ≤ a.toInt) ∧ ((-1) : Int32) = mo_w4 b.toInt (ar 78 (a.toInt.toNat)) (ar 79 (a.toInt.toNat)) (ar 24 (a.toInt.toNat)) (ar 76 (a.toInt.toNat))) from by have hz0 : (0 : Int32).toInt = 0 := (by decide); have hz1 : (1 : Int32).toInt = 1 := (by decide); have hz6 : (6 : Int32).toInt = 6 := (by decide); have : (fv_1 34).toInt = (fv 34).toInt := congrArg Int32.toInt ((fM_put (fM_rf [0] _) efv_1 (by decide)) 34 rfl); have : (fv_5 34).toInt = (fv_1 34).toInt := congrArg Int32.toInt ((fM_call (fM_rf [] _) fr_8 (by decide)) 34 rfl); exact Or.inr ⟨by omega, by skip; unfold mo_w4; rw [if_neg (by omega), if_neg (by omega), if_neg (by omega), if_neg (by omega)]⟩), trivial⟩, ⟨by rw [ht]; exact hP, va_K.moved hW.alike hK⟩⟩, hS.F ht⟩) hS.2.2 dX12_wheeled_77
      · skip
        refine lv_tableIn (off := 32) (tgt := 48) hx hb dX12_wheeled_16 (by rw [w_17]; decide) (by rw [w_17]; decide) (by rw [w_17]; rfl) (by decide) ?_
        refine lv_aload_n hx hb dX12_wheeled_48 rfl (lv_at hl 0 rfl) ?_
        refine gM_78 hx hb htg hown hK hP dX12_wheeled_49 ?_
        refine lv_iload_n hx hb dX12_wheeled_52 rfl (lv_at hl 1 rfl) ?_
        refine lM_78 hx hb hK hP (iv_in i_14 (by decide) (by decide)) dX12_wheeled_53 (fun v_20 ev_20 => ?_)
        exact W.iret (v := v_20) hx hb hr (fun t ht hW => ⟨⟨v_20, (fv_5, wd_6, ar_7), rfl, ⟨hF_fv_5, hA_ar_7, (fM_call (fM_put (fM_rf [0] _) efv_1 (by decide)) fr_8 (by decide)), (fA_call (fA_rf [] _) fa_9 (by decide)), (show ((a.toInt < 0 ∨ (fv 34).toInt ≤ a.toInt) ∧ v_20 = -1) ∨ (¬ (a.toInt < 0 ∨ (fv 34).toInt ≤ a.toInt) ∧ v_20 = mo_w4 b.toInt (ar 78 (a.toInt.toNat)) (ar 79 (a.toInt.toNat)) (ar 24 (a.toInt.toNat)) (ar 76 (a.toInt.toNat))) from by have hz0 : (0 : Int32).toInt = 0 := (by decide); have hz1 : (1 : Int32).toInt = 1 := (by decide); have hz6 : (6 : Int32).toInt = 6 := (by decide); have : (fv_1 34).toInt = (fv 34).toInt := congrArg Int32.toInt ((fM_put (fM_rf [0] _) efv_1 (by decide)) 34 rfl); have : (fv_5 34).toInt = (fv_1 34).toInt := congrArg Int32.toInt ((fM_call (fM_rf [] _) fr_8 (by decide)) 34 rfl); exact Or.inr ⟨by omega, by have hk9 : b.toInt = 0 := (congrArg Int32.toInt (by assumption : b = (0 : Int32))).trans (by decide); unfold mo_w4; rw [if_pos (by omega)]; exact (show v_20 = ar 78 (a.toInt.toNat) from by rw [ev_20, show ar_7 78 = ar 78 from ((fA_call (fA_rf [] _) fa_9 (by decide)) 78 rfl)]; exact congrArg (ar 78) (show a.toInt.toNat = (a.toInt.toNat) from by omega))⟩), trivial⟩, ⟨by rw [ht]; exact hP, va_K.moved hW.alike hK⟩⟩, hS.F ht⟩) hS.2.2 dX12_wheeled_54
      · skip
        refine lv_tableIn (off := 39) (tgt := 55) hx hb dX12_wheeled_16 (by rw [w_17]; decide) (by rw [w_17]; decide) (by rw [w_17]; rfl) (by decide) ?_
        refine lv_aload_n hx hb dX12_wheeled_55 rfl (lv_at hl 0 rfl) ?_
        refine gM_79 hx hb htg hown hK hP dX12_wheeled_56 ?_
        refine lv_iload_n hx hb dX12_wheeled_59 rfl (lv_at hl 1 rfl) ?_
        refine lM_79 hx hb hK hP (iv_in i_14 (by decide) (by decide)) dX12_wheeled_60 (fun v_21 ev_21 => ?_)
        exact W.iret (v := v_21) hx hb hr (fun t ht hW => ⟨⟨v_21, (fv_5, wd_6, ar_7), rfl, ⟨hF_fv_5, hA_ar_7, (fM_call (fM_put (fM_rf [0] _) efv_1 (by decide)) fr_8 (by decide)), (fA_call (fA_rf [] _) fa_9 (by decide)), (show ((a.toInt < 0 ∨ (fv 34).toInt ≤ a.toInt) ∧ v_21 = -1) ∨ (¬ (a.toInt < 0 ∨ (fv 34).toInt ≤ a.toInt) ∧ v_21 = mo_w4 b.toInt (ar 78 (a.toInt.toNat)) (ar 79 (a.toInt.toNat)) (ar 24 (a.toInt.toNat)) (ar 76 (a.toInt.toNat))) from by have hz0 : (0 : Int32).toInt = 0 := (by decide); have hz1 : (1 : Int32).toInt = 1 := (by decide); have hz6 : (6 : Int32).toInt = 6 := (by decide); have : (fv_1 34).toInt = (fv 34).toInt := congrArg Int32.toInt ((fM_put (fM_rf [0] _) efv_1 (by decide)) 34 rfl); have : (fv_5 34).toInt = (fv_1 34).toInt := congrArg Int32.toInt ((fM_call (fM_rf [] _) fr_8 (by decide)) 34 rfl); exact Or.inr ⟨by omega, by have hk9 : b.toInt = 1 := (congrArg Int32.toInt (by assumption : b = (1 : Int32))).trans (by decide); unfold mo_w4; rw [if_neg (by omega), if_pos (by omega)]; exact (show v_21 = ar 79 (a.toInt.toNat) from by rw [ev_21, show ar_7 79 = ar 79 from ((fA_call (fA_rf [] _) fa_9 (by decide)) 79 rfl)]; exact congrArg (ar 79) (show a.toInt.toNat = (a.toInt.toNat) from by omega))⟩), trivial⟩, ⟨by rw [ht]; exact hP, va_K.moved hW.alike hK⟩⟩, hS.F ht⟩) hS.2.2 dX12_wheeled_61
      · skip
        refine lv_tableIn (off := 46) (tgt := 62) hx hb dX12_wheeled_16 (by rw [w_17]; decide) (by rw [w_17]; decide) (by rw [w_17]; rfl) (by decide) ?_
        refine lv_aload_n hx hb dX12_wheeled_62 rfl (lv_at hl 0 rfl) ?_
        refine gM_24 hx hb htg hown hK hP dX12_wheeled_63 ?_
        refine lv_iload_n hx hb dX12_wheeled_66 rfl (lv_at hl 1 rfl) ?_
        refine lM_24 hx hb hK hP (iv_in i_14 (by decide) (by decide)) dX12_wheeled_67 (fun v_22 ev_22 => ?_)
        exact W.iret (v := v_22) hx hb hr (fun t ht hW => ⟨⟨v_22, (fv_5, wd_6, ar_7), rfl, ⟨hF_fv_5, hA_ar_7, (fM_call (fM_put (fM_rf [0] _) efv_1 (by decide)) fr_8 (by decide)), (fA_call (fA_rf [] _) fa_9 (by decide)), (show ((a.toInt < 0 ∨ (fv 34).toInt ≤ a.toInt) ∧ v_22 = -1) ∨ (¬ (a.toInt < 0 ∨ (fv 34).toInt ≤ a.toInt) ∧ v_22 = mo_w4 b.toInt (ar 78 (a.toInt.toNat)) (ar 79 (a.toInt.toNat)) (ar 24 (a.toInt.toNat)) (ar 76 (a.toInt.toNat))) from by have hz0 : (0 : Int32).toInt = 0 := (by decide); have hz1 : (1 : Int32).toInt = 1 := (by decide); have hz6 : (6 : Int32).toInt = 6 := (by decide); have : (fv_1 34).toInt = (fv 34).toInt := congrArg Int32.toInt ((fM_put (fM_rf [0] _) efv_1 (by decide)) 34 rfl); have : (fv_5 34).toInt = (fv_1 34).toInt := congrArg Int32.toInt ((fM_call (fM_rf [] _) fr_8 (by decide)) 34 rfl); exact Or.inr ⟨by omega, by have hk9 : b.toInt = 2 := (congrArg Int32.toInt (by assumption : b = (2 : Int32))).trans (by decide); unfold mo_w4; rw [if_neg (by omega), if_neg (by omega), if_pos (by omega)]; exact (show v_22 = ar 24 (a.toInt.toNat) from by rw [ev_22, show ar_7 24 = ar 24 from ((fA_call (fA_rf [] _) fa_9 (by decide)) 24 rfl)]; exact congrArg (ar 24) (show a.toInt.toNat = (a.toInt.toNat) from by omega))⟩), trivial⟩, ⟨by rw [ht]; exact hP, va_K.moved hW.alike hK⟩⟩, hS.F ht⟩) hS.2.2 dX12_wheeled_68
      · skip
        refine lv_tableIn (off := 53) (tgt := 69) hx hb dX12_wheeled_16 (by rw [w_17]; decide) (by rw [w_17]; decide) (by rw [w_17]; rfl) (by decide) ?_
        refine lv_aload_n hx hb dX12_wheeled_69 rfl (lv_at hl 0 rfl) ?_
        refine gM_76 hx hb htg hown hK hP dX12_wheeled_70 ?_
        refine lv_iload_n hx hb dX12_wheeled_73 rfl (lv_at hl 1 rfl) ?_
        refine lM_76 hx hb hK hP (iv_in i_14 (by decide) (by decide)) dX12_wheeled_74 (fun v_23 ev_23 => ?_)
        exact W.iret (v := v_23) hx hb hr (fun t ht hW => ⟨⟨v_23, (fv_5, wd_6, ar_7), rfl, ⟨hF_fv_5, hA_ar_7, (fM_call (fM_put (fM_rf [0] _) efv_1 (by decide)) fr_8 (by decide)), (fA_call (fA_rf [] _) fa_9 (by decide)), (show ((a.toInt < 0 ∨ (fv 34).toInt ≤ a.toInt) ∧ v_23 = -1) ∨ (¬ (a.toInt < 0 ∨ (fv 34).toInt ≤ a.toInt) ∧ v_23 = mo_w4 b.toInt (ar 78 (a.toInt.toNat)) (ar 79 (a.toInt.toNat)) (ar 24 (a.toInt.toNat)) (ar 76 (a.toInt.toNat))) from by have hz0 : (0 : Int32).toInt = 0 := (by decide); have hz1 : (1 : Int32).toInt = 1 := (by decide); have hz6 : (6 : Int32).toInt = 6 := (by decide); have : (fv_1 34).toInt = (fv 34).toInt := congrArg Int32.toInt ((fM_put (fM_rf [0] _) efv_1 (by decide)) 34 rfl); have : (fv_5 34).toInt = (fv_1 34).toInt := congrArg Int32.toInt ((fM_call (fM_rf [] _) fr_8 (by decide)) 34 rfl); exact Or.inr ⟨by omega, by have hk9 : b.toInt = 3 := (congrArg Int32.toInt (by assumption : b = (3 : Int32))).trans (by decide); unfold mo_w4; rw [if_neg (by omega), if_neg (by omega), if_neg (by omega), if_pos (by omega)]; exact (show v_23 = ar 76 (a.toInt.toNat) from by rw [ev_23, show ar_7 76 = ar 76 from ((fA_call (fA_rf [] _) fa_9 (by decide)) 76 rfl)]; exact congrArg (ar 76) (show a.toInt.toNat = (a.toInt.toNat) from by omega))⟩), trivial⟩, ⟨by rw [ht]; exact hP, va_K.moved hW.alike hK⟩⟩, hS.F ht⟩) hS.2.2 dX12_wheeled_75
    · skip
      exact absurd c_16 (by decide)
set_option maxHeartbeats 4000000 in
set_option maxRecDepth 100000 in
theorem m_countE (l : Launch) (dC : Nat → ClassId) (dI : Nat → Nat → Nat) (sz h : Nat) (ad : Nat → Nat) (cA : Nat → ClassId) (hd : dM h ad) (fv : Nat → Int32) (wd : Int64) (ar : Nat → Nat → Int32) (hF_fv : rF fv) (hA_ar : rA ar) (a : Int32) : Met l yX12_count (.code yX12_count cX12_count 2 (some .int) :: lw_good) ({ frames := 2, cells := 0, slots := 0, locals := 40 }) (va_Pc [.ref h, .int a] (prM dC dI h ad cA fv wd ar sz)) (va_Qi (fun (r : Int32) (u : mS) => rF u.1 ∧ rA u.2.2 ∧ fM [0] fv u.1 ∧ fA [] ar u.2.2 ∧ (r = mo_c8 a.toInt (fv 3) (fv 32) (fv 33) (fv 34) (fv 35) (fv 58) (fv 36) (fv 2)) ∧ True) (enM dC dI h ad cA) (aM h ad sz)) 0 0 (aM h ad sz) := by
  refine Met.ofW (cc := cX12_count) (maxL := 2) (ret := (some .int)) (by decide) rfl ?_
  intro p e s m args below meth c s₁ B hml hv
  obtain ⟨rfl, hsz, hP, hK⟩ := hv
  have hx := B.exec
  have hb := B.bytes
  have hr := B.returns
  have hts := atoms_spec (ws := (.code yX12_count cX12_count 2 (some .int) :: lw_good)) B.pre
  have htg : ∀ w ∈ lw_good, w.before _ s = true := fun w hw => hts w (List.mem_cons_of_mem _ hw)
  have hown : s.vm.findClass RX12 = some m.cls := findClass_of_methodNamed B.named
  have hlocks := B.notSynchronized
  subst hsz
  have hS : va_S (aM h ad s.heap.size) s.heap s.heap [] := va_S.rf
  have hl := lv_entry ([.ref h, .int a]) (n := 2) (Nat.le_of_ble_eq_true rfl)
  rw [lg_entry_eq]
  generalize (lg_sl ([.ref h, .int a]) ++ List.replicate (2 - (lg_sl ([.ref h, .int a])).length) Slot.unset).toArray = ls at hl ⊢
  have hl : lv_has ls 2 [(0, .ref h), (1, .int a)] := hl
  refine lv_aload_n hx hb dX12_count_0 rfl (lv_at hl 0 rfl) ?_
  refine lv_iconst (v := 0) hx hb dX12_count_1 (by decide) ?_
  refine pM_0 hx hb htg hown hK hP hS hd dX12_count_2 (fun H locs fv_1 efv_1 hP hS => ?_)
  have hF_fv_1 : rF fv_1 := rF_put hF_fv efv_1 (iv_any _)
  refine lv_iload_n hx hb dX12_count_5 rfl (lv_at hl 1 rfl) ?_
  rcases iv_sw_0_8 a with w_2 | w_2 | w_2 | w_2 | w_2 | w_2 | w_2 | w_2 | w_2 | w_2
  · skip
    refine lv_tableOut (tgt := 92) hx hb dX12_count_6 (Or.inl w_2) (by decide) ?_
    refine lv_iconst (v := (-1)) hx hb dX12_count_92 (by decide) ?_
    have z_3 : ((-1) : Int32).toInt = (-1) := by decide
    exact W.iret (v := (-1)) hx hb hr (fun t ht hW => ⟨⟨(-1), (fv_1, wd, ar), rfl, ⟨hF_fv_1, hA_ar, (fM_put (fM_rf [0] _) efv_1 (by decide)), (fA_rf [] _), (show ((-1) : Int32) = mo_c8 a.toInt (fv 3) (fv 32) (fv 33) (fv 34) (fv 35) (fv 58) (fv 36) (fv 2) from by have hz0 : (0 : Int32).toInt = 0 := (by decide); have hz1 : (1 : Int32).toInt = 1 := (by decide); have hz6 : (6 : Int32).toInt = 6 := (by decide); skip; unfold mo_c8; rw [if_neg (by omega), if_neg (by omega), if_neg (by omega), if_neg (by omega), if_neg (by omega), if_neg (by omega), if_neg (by omega), if_neg (by omega)]), trivial⟩, ⟨by rw [ht]; exact hP, va_K.moved hW.alike hK⟩⟩, hS.F ht⟩) hS.2.2 dX12_count_93
  · skip
    refine lv_tableOut (tgt := 92) hx hb dX12_count_6 (Or.inr w_2) (by decide) ?_
    refine lv_iconst (v := (-1)) hx hb dX12_count_92 (by decide) ?_
    have z_4 : ((-1) : Int32).toInt = (-1) := by decide
    exact W.iret (v := (-1)) hx hb hr (fun t ht hW => ⟨⟨(-1), (fv_1, wd, ar), rfl, ⟨hF_fv_1, hA_ar, (fM_put (fM_rf [0] _) efv_1 (by decide)), (fA_rf [] _), (show ((-1) : Int32) = mo_c8 a.toInt (fv 3) (fv 32) (fv 33) (fv 34) (fv 35) (fv 58) (fv 36) (fv 2) from by have hz0 : (0 : Int32).toInt = 0 := (by decide); have hz1 : (1 : Int32).toInt = 1 := (by decide); have hz6 : (6 : Int32).toInt = 6 := (by decide); skip; unfold mo_c8; rw [if_neg (by omega), if_neg (by omega), if_neg (by omega), if_neg (by omega), if_neg (by omega), if_neg (by omega), if_neg (by omega), if_neg (by omega)]), trivial⟩, ⟨by rw [ht]; exact hP, va_K.moved hW.alike hK⟩⟩, hS.F ht⟩) hS.2.2 dX12_count_93
  · skip
    refine lv_tableIn (off := 46) (tgt := 52) hx hb dX12_count_6 (by rw [w_2]; decide) (by rw [w_2]; decide) (by rw [w_2]; rfl) (by decide) ?_
    refine lv_aload_n hx hb dX12_count_52 rfl (lv_at hl 0 rfl) ?_
    refine gM_3 hx hb htg hown hK hP dX12_count_53 ?_
    refine my_ti (y := fv 3) ((congrFun efv_1 3)) ?_
    have i_5 : 0 ≤ (fv 3).toInt ∧ (fv 3).toInt ≤ 199 := hF_fv 3
    exact W.iret (v := fv 3) hx hb hr (fun t ht hW => ⟨⟨fv 3, (fv_1, wd, ar), rfl, ⟨hF_fv_1, hA_ar, (fM_put (fM_rf [0] _) efv_1 (by decide)), (fA_rf [] _), (show (fv 3) = mo_c8 a.toInt (fv 3) (fv 32) (fv 33) (fv 34) (fv 35) (fv 58) (fv 36) (fv 2) from by have hz0 : (0 : Int32).toInt = 0 := (by decide); have hz1 : (1 : Int32).toInt = 1 := (by decide); have hz6 : (6 : Int32).toInt = 6 := (by decide); have hk9 : a.toInt = 0 := (congrArg Int32.toInt (by assumption : a = (0 : Int32))).trans (by decide); unfold mo_c8; rw [if_pos (by omega)]), trivial⟩, ⟨by rw [ht]; exact hP, va_K.moved hW.alike hK⟩⟩, hS.F ht⟩) hS.2.2 dX12_count_56
  · skip
    refine lv_tableIn (off := 51) (tgt := 57) hx hb dX12_count_6 (by rw [w_2]; decide) (by rw [w_2]; decide) (by rw [w_2]; rfl) (by decide) ?_
    refine lv_aload_n hx hb dX12_count_57 rfl (lv_at hl 0 rfl) ?_
    refine gM_32 hx hb htg hown hK hP dX12_count_58 ?_
    refine my_ti (y := fv 32) ((congrFun efv_1 32)) ?_
    have i_6 : 0 ≤ (fv 32).toInt ∧ (fv 32).toInt ≤ 40 := hF_fv 32
    exact W.iret (v := fv 32) hx hb hr (fun t ht hW => ⟨⟨fv 32, (fv_1, wd, ar), rfl, ⟨hF_fv_1, hA_ar, (fM_put (fM_rf [0] _) efv_1 (by decide)), (fA_rf [] _), (show (fv 32) = mo_c8 a.toInt (fv 3) (fv 32) (fv 33) (fv 34) (fv 35) (fv 58) (fv 36) (fv 2) from by have hz0 : (0 : Int32).toInt = 0 := (by decide); have hz1 : (1 : Int32).toInt = 1 := (by decide); have hz6 : (6 : Int32).toInt = 6 := (by decide); have hk9 : a.toInt = 1 := (congrArg Int32.toInt (by assumption : a = (1 : Int32))).trans (by decide); unfold mo_c8; rw [if_neg (by omega), if_pos (by omega)]), trivial⟩, ⟨by rw [ht]; exact hP, va_K.moved hW.alike hK⟩⟩, hS.F ht⟩) hS.2.2 dX12_count_61
  · skip
    refine lv_tableIn (off := 56) (tgt := 62) hx hb dX12_count_6 (by rw [w_2]; decide) (by rw [w_2]; decide) (by rw [w_2]; rfl) (by decide) ?_
    refine lv_aload_n hx hb dX12_count_62 rfl (lv_at hl 0 rfl) ?_
    refine gM_33 hx hb htg hown hK hP dX12_count_63 ?_
    refine my_ti (y := fv 33) ((congrFun efv_1 33)) ?_
    have i_7 : 0 ≤ (fv 33).toInt ∧ (fv 33).toInt ≤ 8 := hF_fv 33
    exact W.iret (v := fv 33) hx hb hr (fun t ht hW => ⟨⟨fv 33, (fv_1, wd, ar), rfl, ⟨hF_fv_1, hA_ar, (fM_put (fM_rf [0] _) efv_1 (by decide)), (fA_rf [] _), (show (fv 33) = mo_c8 a.toInt (fv 3) (fv 32) (fv 33) (fv 34) (fv 35) (fv 58) (fv 36) (fv 2) from by have hz0 : (0 : Int32).toInt = 0 := (by decide); have hz1 : (1 : Int32).toInt = 1 := (by decide); have hz6 : (6 : Int32).toInt = 6 := (by decide); have hk9 : a.toInt = 2 := (congrArg Int32.toInt (by assumption : a = (2 : Int32))).trans (by decide); unfold mo_c8; rw [if_neg (by omega), if_neg (by omega), if_pos (by omega)]), trivial⟩, ⟨by rw [ht]; exact hP, va_K.moved hW.alike hK⟩⟩, hS.F ht⟩) hS.2.2 dX12_count_66
  · skip
    refine lv_tableIn (off := 61) (tgt := 67) hx hb dX12_count_6 (by rw [w_2]; decide) (by rw [w_2]; decide) (by rw [w_2]; rfl) (by decide) ?_
    refine lv_aload_n hx hb dX12_count_67 rfl (lv_at hl 0 rfl) ?_
    refine gM_34 hx hb htg hown hK hP dX12_count_68 ?_
    refine my_ti (y := fv 34) ((congrFun efv_1 34)) ?_
    have i_8 : 0 ≤ (fv 34).toInt ∧ (fv 34).toInt ≤ 20 := hF_fv 34
    exact W.iret (v := fv 34) hx hb hr (fun t ht hW => ⟨⟨fv 34, (fv_1, wd, ar), rfl, ⟨hF_fv_1, hA_ar, (fM_put (fM_rf [0] _) efv_1 (by decide)), (fA_rf [] _), (show (fv 34) = mo_c8 a.toInt (fv 3) (fv 32) (fv 33) (fv 34) (fv 35) (fv 58) (fv 36) (fv 2) from by have hz0 : (0 : Int32).toInt = 0 := (by decide); have hz1 : (1 : Int32).toInt = 1 := (by decide); have hz6 : (6 : Int32).toInt = 6 := (by decide); have hk9 : a.toInt = 3 := (congrArg Int32.toInt (by assumption : a = (3 : Int32))).trans (by decide); unfold mo_c8; rw [if_neg (by omega), if_neg (by omega), if_neg (by omega), if_pos (by omega)]), trivial⟩, ⟨by rw [ht]; exact hP, va_K.moved hW.alike hK⟩⟩, hS.F ht⟩) hS.2.2 dX12_count_71
  · skip
    refine lv_tableIn (off := 66) (tgt := 72) hx hb dX12_count_6 (by rw [w_2]; decide) (by rw [w_2]; decide) (by rw [w_2]; rfl) (by decide) ?_
    refine lv_aload_n hx hb dX12_count_72 rfl (lv_at hl 0 rfl) ?_
    refine gM_35 hx hb htg hown hK hP dX12_count_73 ?_
    refine my_ti (y := fv 35) ((congrFun efv_1 35)) ?_
    have i_9 : 0 ≤ (fv 35).toInt ∧ (fv 35).toInt ≤ 80 := hF_fv 35
    exact W.iret (v := fv 35) hx hb hr (fun t ht hW => ⟨⟨fv 35, (fv_1, wd, ar), rfl, ⟨hF_fv_1, hA_ar, (fM_put (fM_rf [0] _) efv_1 (by decide)), (fA_rf [] _), (show (fv 35) = mo_c8 a.toInt (fv 3) (fv 32) (fv 33) (fv 34) (fv 35) (fv 58) (fv 36) (fv 2) from by have hz0 : (0 : Int32).toInt = 0 := (by decide); have hz1 : (1 : Int32).toInt = 1 := (by decide); have hz6 : (6 : Int32).toInt = 6 := (by decide); have hk9 : a.toInt = 4 := (congrArg Int32.toInt (by assumption : a = (4 : Int32))).trans (by decide); unfold mo_c8; rw [if_neg (by omega), if_neg (by omega), if_neg (by omega), if_neg (by omega), if_pos (by omega)]), trivial⟩, ⟨by rw [ht]; exact hP, va_K.moved hW.alike hK⟩⟩, hS.F ht⟩) hS.2.2 dX12_count_76
  · skip
    refine lv_tableIn (off := 71) (tgt := 77) hx hb dX12_count_6 (by rw [w_2]; decide) (by rw [w_2]; decide) (by rw [w_2]; rfl) (by decide) ?_
    refine lv_aload_n hx hb dX12_count_77 rfl (lv_at hl 0 rfl) ?_
    refine gM_58 hx hb htg hown hK hP dX12_count_78 ?_
    refine my_ti (y := fv 58) ((congrFun efv_1 58)) ?_
    have i_10 : 0 ≤ (fv 58).toInt ∧ (fv 58).toInt ≤ 10 := hF_fv 58
    exact W.iret (v := fv 58) hx hb hr (fun t ht hW => ⟨⟨fv 58, (fv_1, wd, ar), rfl, ⟨hF_fv_1, hA_ar, (fM_put (fM_rf [0] _) efv_1 (by decide)), (fA_rf [] _), (show (fv 58) = mo_c8 a.toInt (fv 3) (fv 32) (fv 33) (fv 34) (fv 35) (fv 58) (fv 36) (fv 2) from by have hz0 : (0 : Int32).toInt = 0 := (by decide); have hz1 : (1 : Int32).toInt = 1 := (by decide); have hz6 : (6 : Int32).toInt = 6 := (by decide); have hk9 : a.toInt = 5 := (congrArg Int32.toInt (by assumption : a = (5 : Int32))).trans (by decide); unfold mo_c8; rw [if_neg (by omega), if_neg (by omega), if_neg (by omega), if_neg (by omega), if_neg (by omega), if_pos (by omega)]), trivial⟩, ⟨by rw [ht]; exact hP, va_K.moved hW.alike hK⟩⟩, hS.F ht⟩) hS.2.2 dX12_count_81
  · skip
    refine lv_tableIn (off := 76) (tgt := 82) hx hb dX12_count_6 (by rw [w_2]; decide) (by rw [w_2]; decide) (by rw [w_2]; rfl) (by decide) ?_
    refine lv_aload_n hx hb dX12_count_82 rfl (lv_at hl 0 rfl) ?_
    refine gM_36 hx hb htg hown hK hP dX12_count_83 ?_
    refine my_ti (y := fv 36) ((congrFun efv_1 36)) ?_
    exact W.iret (v := fv 36) hx hb hr (fun t ht hW => ⟨⟨fv 36, (fv_1, wd, ar), rfl, ⟨hF_fv_1, hA_ar, (fM_put (fM_rf [0] _) efv_1 (by decide)), (fA_rf [] _), (show (fv 36) = mo_c8 a.toInt (fv 3) (fv 32) (fv 33) (fv 34) (fv 35) (fv 58) (fv 36) (fv 2) from by have hz0 : (0 : Int32).toInt = 0 := (by decide); have hz1 : (1 : Int32).toInt = 1 := (by decide); have hz6 : (6 : Int32).toInt = 6 := (by decide); have hk9 : a.toInt = 6 := (congrArg Int32.toInt (by assumption : a = (6 : Int32))).trans (by decide); unfold mo_c8; rw [if_neg (by omega), if_neg (by omega), if_neg (by omega), if_neg (by omega), if_neg (by omega), if_neg (by omega), if_pos (by omega)]), trivial⟩, ⟨by rw [ht]; exact hP, va_K.moved hW.alike hK⟩⟩, hS.F ht⟩) hS.2.2 dX12_count_86
  · skip
    refine lv_tableIn (off := 81) (tgt := 87) hx hb dX12_count_6 (by rw [w_2]; decide) (by rw [w_2]; decide) (by rw [w_2]; rfl) (by decide) ?_
    refine lv_aload_n hx hb dX12_count_87 rfl (lv_at hl 0 rfl) ?_
    refine gM_2 hx hb htg hown hK hP dX12_count_88 ?_
    refine my_ti (y := fv 2) ((congrFun efv_1 2)) ?_
    have i_11 : 0 ≤ (fv 2).toInt ∧ (fv 2).toInt ≤ 340 := hF_fv 2
    exact W.iret (v := fv 2) hx hb hr (fun t ht hW => ⟨⟨fv 2, (fv_1, wd, ar), rfl, ⟨hF_fv_1, hA_ar, (fM_put (fM_rf [0] _) efv_1 (by decide)), (fA_rf [] _), (show (fv 2) = mo_c8 a.toInt (fv 3) (fv 32) (fv 33) (fv 34) (fv 35) (fv 58) (fv 36) (fv 2) from by have hz0 : (0 : Int32).toInt = 0 := (by decide); have hz1 : (1 : Int32).toInt = 1 := (by decide); have hz6 : (6 : Int32).toInt = 6 := (by decide); have hk9 : a.toInt = 7 := (congrArg Int32.toInt (by assumption : a = (7 : Int32))).trans (by decide); unfold mo_c8; rw [if_neg (by omega), if_neg (by omega), if_neg (by omega), if_neg (by omega), if_neg (by omega), if_neg (by omega), if_neg (by omega), if_pos (by omega)]), trivial⟩, ⟨by rw [ht]; exact hP, va_K.moved hW.alike hK⟩⟩, hS.F ht⟩) hS.2.2 dX12_count_91
set_option maxHeartbeats 4000000 in
set_option maxRecDepth 100000 in
theorem m_refuseE (l : Launch) (dC : Nat → ClassId) (dI : Nat → Nat → Nat) (sz h : Nat) (ad : Nat → Nat) (cA : Nat → ClassId) (hd : dM h ad) (fv : Nat → Int32) (wd : Int64) (ar : Nat → Nat → Int32) (hF_fv : rF fv) (hA_ar : rA ar) : Met l yX12_refuse (.code yX12_refuse cX12_refuse 1 (some .int) :: lw_good) ({ frames := 2, cells := 0, slots := 0, locals := 40 }) (va_Pc [.ref h] (prM dC dI h ad cA fv wd ar sz)) (va_Qi (fun (r : Int32) (u : mS) => rF u.1 ∧ rA u.2.2 ∧ fM [0] fv u.1 ∧ fA [] ar u.2.2 ∧ (u.1 0 = 1) ∧ True) (enM dC dI h ad cA) (aM h ad sz)) 0 0 (aM h ad sz) := by
  refine Met.ofW (cc := cX12_refuse) (maxL := 1) (ret := (some .int)) (by decide) rfl ?_
  intro p e s m args below meth c s₁ B hml hv
  obtain ⟨rfl, hsz, hP, hK⟩ := hv
  have hx := B.exec
  have hb := B.bytes
  have hr := B.returns
  have hts := atoms_spec (ws := (.code yX12_refuse cX12_refuse 1 (some .int) :: lw_good)) B.pre
  have htg : ∀ w ∈ lw_good, w.before _ s = true := fun w hw => hts w (List.mem_cons_of_mem _ hw)
  have hown : s.vm.findClass RX12 = some m.cls := findClass_of_methodNamed B.named
  have hlocks := B.notSynchronized
  subst hsz
  have hS : va_S (aM h ad s.heap.size) s.heap s.heap [] := va_S.rf
  have hl := lv_entry ([.ref h]) (n := 1) (Nat.le_of_ble_eq_true rfl)
  rw [lg_entry_eq]
  generalize (lg_sl ([.ref h]) ++ List.replicate (1 - (lg_sl ([.ref h])).length) Slot.unset).toArray = ls at hl ⊢
  have hl : lv_has ls 1 [(0, .ref h)] := hl
  refine lv_aload_n hx hb dX12_refuse_0 rfl (lv_at hl 0 rfl) ?_
  refine lv_iconst (v := 1) hx hb dX12_refuse_1 (by decide) ?_
  refine pM_0 hx hb htg hown hK hP hS hd dX12_refuse_2 (fun H locs fv_1 efv_1 hP hS => ?_)
  have hF_fv_1 : rF fv_1 := rF_put hF_fv efv_1 (iv_any _)
  refine lv_iconst (v := 0) hx hb dX12_refuse_5 (by decide) ?_
  have z_2 : (0 : Int32).toInt = 0 := by decide
  exact W.iret (v := 0) hx hb hr (fun t ht hW => ⟨⟨0, (fv_1, wd, ar), rfl, ⟨hF_fv_1, hA_ar, (fM_put (fM_rf [0] _) efv_1 (by decide)), (fA_rf [] _), (show fv_1 0 = 1 from (congrFun efv_1 0)), trivial⟩, ⟨by rw [ht]; exact hP, va_K.moved hW.alike hK⟩⟩, hS.F ht⟩) hS.2.2 dX12_refuse_6
set_option maxHeartbeats 4000000 in
set_option maxRecDepth 100000 in
theorem m_ofE (l : Launch) (dC : Nat → ClassId) (dI : Nat → Nat → Nat) (sz h : Nat) (ad : Nat → Nat) (cA : Nat → ClassId) (hd : dM h ad) (fv : Nat → Int32) (wd : Int64) (ar : Nat → Nat → Int32) (hF_fv : rF fv) (hA_ar : rA ar) (a : Int32) (b : Int32) : Met l yX12_of (.code yX12_of cX12_of 3 (some .int) :: lw_good) ({ frames := 3, cells := 0, slots := 0, locals := 62 }) (va_Pc [.ref h, .int a, .int b] (prM dC dI h ad cA fv wd ar sz)) (va_Qi (fun (r : Int32) (u : mS) => rF u.1 ∧ rA u.2.2 ∧ fM [0] fv u.1 ∧ fA [] ar u.2.2 ∧ (((a.toInt < 0 ∨ (fv 32).toInt ≤ a.toInt ∨ b.toInt < 0 ∨ 6 < b.toInt) ∧ u.1 0 = 1) ∨ (¬ (a.toInt < 0 ∨ (fv 32).toInt ≤ a.toInt ∨ b.toInt < 0 ∨ 6 < b.toInt) ∧ u.1 0 = 0 ∧ r = mo_o7 b.toInt (ar 72 (a.toInt.toNat)) (ar 73 (a.toInt.toNat)) (ar 74 (a.toInt.toNat)) (ar 75 (a.toInt.toNat)) (ar 16 (a.toInt.toNat)) (ar 15 (a.toInt.toNat)) (ar 18 (a.toInt.toNat)))) ∧ True) (enM dC dI h ad cA) (aM h ad sz)) 0 0 (aM h ad sz) := by
  refine Met.ofW (cc := cX12_of) (maxL := 3) (ret := (some .int)) (by decide) rfl ?_
  intro p e s m args below meth c s₁ B hml hv
  obtain ⟨rfl, hsz, hP, hK⟩ := hv
  have hx := B.exec
  have hb := B.bytes
  have hr := B.returns
  have hts := atoms_spec (ws := (.code yX12_of cX12_of 3 (some .int) :: lw_good)) B.pre
  have htg : ∀ w ∈ lw_good, w.before _ s = true := fun w hw => hts w (List.mem_cons_of_mem _ hw)
  have hown : s.vm.findClass RX12 = some m.cls := findClass_of_methodNamed B.named
  have hlocks := B.notSynchronized
  subst hsz
  have hS : va_S (aM h ad s.heap.size) s.heap s.heap [] := va_S.rf
  have hl := lv_entry ([.ref h, .int a, .int b]) (n := 3) (Nat.le_of_ble_eq_true rfl)
  rw [lg_entry_eq]
  generalize (lg_sl ([.ref h, .int a, .int b]) ++ List.replicate (3 - (lg_sl ([.ref h, .int a, .int b])).length) Slot.unset).toArray = ls at hl ⊢
  have hl : lv_has ls 3 [(0, .ref h), (1, .int a), (2, .int b)] := hl
  refine lv_iload_n hx hb dX12_of_0 rfl (lv_at hl 1 rfl) ?_
  refine lv_iconst (v := 0) hx hb dX12_of_1 (by decide) ?_
  refine lv_aload_n hx hb dX12_of_2 rfl (lv_at hl 0 rfl) ?_
  refine gM_32 hx hb htg hown hK hP dX12_of_3 ?_
  have i_1 : 0 ≤ (fv 32).toInt ∧ (fv 32).toInt ≤ 40 := hF_fv 32
  refine lv_iconst (v := 1) hx hb dX12_of_6 (by decide) ?_
  refine lv_isub hx hb dX12_of_7 ?_
  refine lv_topi (fun v_2 ev_2 => ?_)
  have t_3 : v_2.toInt = (fv 32).toInt - 1 ∧ (-1) ≤ v_2.toInt ∧ v_2.toInt ≤ 39 := iv_subc ev_2 i_1 (by decide) (by decide) (by decide)
  refine va_calli (va_runS (As := [.int a, .int 0, .int v_2]) (rest := []) ⟨hx, hb, hml, hown, hts⟩ (m_isIn l s.heap.size a 0 v_2) (va_cwS 3 hts (gS kw_7_218 kw_7_219 kw_1_15 kw_7_220) rfl rfl rfl (by decide +kernel) ⟨Nat.le_of_ble_eq_true rfl, Nat.le_of_ble_eq_true rfl⟩) ⟨fun a U g mk q => ⟨q.1, q.2⟩, fun U hU hW => ⟨rfl, congrArg Array.size hU⟩⟩ rfl rfl hl.1 rfl (lv_room (Nat.le_of_ble_eq_true rfl)) dX12_of_8 ⟨Nat.le_of_ble_eq_true rfl, Nat.le_of_ble_eq_true rfl⟩) hS (fun q _ h9 => nM_up hS q h9) (nM_up hS) (fun r_5 u t H1 locs ht _ hw hB _ hk1 hS => ?_)
  obtain ⟨p_6, p_7, -⟩ := hw
  have hP := my_keepM hP hk1
  generalize H1 = H at hP hS ⊢
  rcases p_7 with ⟨rfl, p_7⟩ | ⟨rfl, p_7⟩
  · skip
    refine lv_if_eq (tgt := 24) hx hb dX12_of_11 (by decide) (fun c_8 => ?_) (fun c_8 => ?_)
    · skip
      refine lv_aload_n hx hb dX12_of_24 rfl (lv_at hl 0 rfl) ?_
      refine va_calli (va_runV (As := []) (rest := []) ⟨hx, hb, hml, hown, hts⟩ (m_refuseE l dC dI H.size h ad cA hd fv wd ar hF_fv hA_ar) (cwV 0 hts (gV kw_9_8 kw_9_10 kw_p_100 kw_1_15 kw_9_11) rfl rfl rfl (by decide +kernel) ⟨Nat.le_of_ble_eq_true rfl, Nat.le_of_ble_eq_true rfl⟩) ⟨fun a U g mk q => ⟨q.1, q.2.1, q.2.2.1, va_K.moved (u := U) (U := U.calling g mk a) (Vm.Alike.refl U.vm) q.2.2.2⟩, va_recv hK hP (ci := 12) (q0 := 0) rfl rfl, fun U hU hW => ⟨rfl, by rw [hU], by rw [hU]; exact hP, va_K.moved hW.alike hK⟩⟩ rfl rfl hl.1 rfl (lv_room (Nat.le_of_ble_eq_true rfl)) dX12_of_25 ⟨Nat.le_of_ble_eq_true rfl, Nat.le_of_ble_eq_true rfl⟩) hS (fun q _ h9 => aM_up hS q h9) (aM_up hS) (fun r_9 u t H1 locs ht _ hw hB _ hk1 hS => ?_)
      obtain ⟨fv_11, wd_12, ar_13⟩ := u
      obtain ⟨hF_fv_11, hA_ar_13, fr_14, fa_15, p_10, -⟩ := hw
      have hP : va_P (dC, dI) vwCl (wsM h ad cA fv_11 wd_12 ar_13) H1 := by have h9 := hB.1; rw [ht] at h9; exact h9
      have fr_14 : fM [0] fv fv_11 := fr_14
      have fa_15 : fA [] ar ar_13 := fa_15
      have p_10 : fv_11 0 = 1 := p_10
      generalize H1 = H at hP hS ⊢
      exact W.iret (v := r_9) hx hb hr (fun t ht hW => ⟨⟨r_9, (fv_11, wd_12, ar_13), rfl, ⟨hF_fv_11, hA_ar_13, (fM_call (fM_rf [0] _) fr_14 (by decide)), (fA_call (fA_rf [] _) fa_15 (by decide)), (show ((a.toInt < 0 ∨ (fv 32).toInt ≤ a.toInt ∨ b.toInt < 0 ∨ 6 < b.toInt) ∧ fv_11 0 = 1) ∨ (¬ (a.toInt < 0 ∨ (fv 32).toInt ≤ a.toInt ∨ b.toInt < 0 ∨ 6 < b.toInt) ∧ fv_11 0 = 0 ∧ r_9 = mo_o7 b.toInt (ar 72 (a.toInt.toNat)) (ar 73 (a.toInt.toNat)) (ar 74 (a.toInt.toNat)) (ar 75 (a.toInt.toNat)) (ar 16 (a.toInt.toNat)) (ar 15 (a.toInt.toNat)) (ar 18 (a.toInt.toNat))) from by have hz0 : (0 : Int32).toInt = 0 := (by decide); have hz1 : (1 : Int32).toInt = 1 := (by decide); have hz6 : (6 : Int32).toInt = 6 := (by decide); have : (fv_11 32).toInt = (fv 32).toInt := congrArg Int32.toInt ((fM_call (fM_rf [0] _) fr_14 (by decide)) 32 rfl); exact Or.inl ⟨by omega, p_10⟩), trivial⟩, ⟨by rw [ht]; exact hP, va_K.moved hW.alike hK⟩⟩, hS.F ht⟩) hS.2.2 dX12_of_28
    · skip
      exact absurd c_8 (by decide)
  · skip
    have i_16 : 0 ≤ a.toInt ∧ a.toInt ≤ 2147483647 := iv_le2 (⟨by decide, by decide⟩ : (0 : Int) ≤ (0 : Int32).toInt ∧ (0 : Int32).toInt ≤ 0) (iv_any a) (Int32.le_iff_toInt_le.mpr p_7.1)
    have i_17 : 0 ≤ a.toInt ∧ a.toInt ≤ 39 := iv_le1 i_16 t_3.2 (Int32.le_iff_toInt_le.mpr p_7.2)
    have i_18 : 0 ≤ v_2.toInt ∧ v_2.toInt ≤ 39 := iv_le2 i_16 t_3.2 (Int32.le_iff_toInt_le.mpr p_7.2)
    refine lv_if_eq (tgt := 24) hx hb dX12_of_11 (by decide) (fun c_19 => ?_) (fun c_19 => ?_)
    · skip
      exact absurd c_19 (by decide)
    · skip
      refine lv_iload_n hx hb dX12_of_14 rfl (lv_at hl 2 rfl) ?_
      refine lv_iconst (v := 0) hx hb dX12_of_15 (by decide) ?_
      refine lv_bipush (v := 6) hx hb dX12_of_16 (by decide) ?_
      refine va_calli (va_runS (As := [.int b, .int 0, .int 6]) (rest := []) ⟨hx, hb, hml, hown, hts⟩ (m_isIn l H.size b 0 6) (va_cwS 3 hts (gS kw_7_218 kw_7_219 kw_1_15 kw_7_220) rfl rfl rfl (by decide +kernel) ⟨Nat.le_of_ble_eq_true rfl, Nat.le_of_ble_eq_true rfl⟩) ⟨fun a U g mk q => ⟨q.1, q.2⟩, fun U hU hW => ⟨rfl, congrArg Array.size hU⟩⟩ rfl rfl hl.1 rfl (lv_room (Nat.le_of_ble_eq_true rfl)) dX12_of_18 ⟨Nat.le_of_ble_eq_true rfl, Nat.le_of_ble_eq_true rfl⟩) hS (fun q _ h9 => nM_up hS q h9) (nM_up hS) (fun r_20 u t H1 locs ht _ hw hB _ hk1 hS => ?_)
      obtain ⟨p_21, p_22, -⟩ := hw
      have hP := my_keepM hP hk1
      generalize H1 = H at hP hS ⊢
      rcases p_22 with ⟨rfl, p_22⟩ | ⟨rfl, p_22⟩
      · skip
        refine lv_if_ne (tgt := 29) hx hb dX12_of_21 (by decide) (fun c_23 => ?_) (fun c_23 => ?_)
        · skip
          exact absurd c_23 (by decide)
        · skip
          refine lv_aload_n hx hb dX12_of_24 rfl (lv_at hl 0 rfl) ?_
          refine va_calli (va_runV (As := []) (rest := []) ⟨hx, hb, hml, hown, hts⟩ (m_refuseE l dC dI H.size h ad cA hd fv wd ar hF_fv hA_ar) (cwV 0 hts (gV kw_9_8 kw_9_10 kw_p_100 kw_1_15 kw_9_11) rfl rfl rfl (by decide +kernel) ⟨Nat.le_of_ble_eq_true rfl, Nat.le_of_ble_eq_true rfl⟩) ⟨fun a U g mk q => ⟨q.1, q.2.1, q.2.2.1, va_K.moved (u := U) (U := U.calling g mk a) (Vm.Alike.refl U.vm) q.2.2.2⟩, va_recv hK hP (ci := 12) (q0 := 0) rfl rfl, fun U hU hW => ⟨rfl, by rw [hU], by rw [hU]; exact hP, va_K.moved hW.alike hK⟩⟩ rfl rfl hl.1 rfl (lv_room (Nat.le_of_ble_eq_true rfl)) dX12_of_25 ⟨Nat.le_of_ble_eq_true rfl, Nat.le_of_ble_eq_true rfl⟩) hS (fun q _ h9 => aM_up hS q h9) (aM_up hS) (fun r_24 u t H1 locs ht _ hw hB _ hk1 hS => ?_)
          obtain ⟨fv_26, wd_27, ar_28⟩ := u
          obtain ⟨hF_fv_26, hA_ar_28, fr_29, fa_30, p_25, -⟩ := hw
          have hP : va_P (dC, dI) vwCl (wsM h ad cA fv_26 wd_27 ar_28) H1 := by have h9 := hB.1; rw [ht] at h9; exact h9
          have fr_29 : fM [0] fv fv_26 := fr_29
          have fa_30 : fA [] ar ar_28 := fa_30
          have p_25 : fv_26 0 = 1 := p_25
          generalize H1 = H at hP hS ⊢
          exact W.iret (v := r_24) hx hb hr (fun t ht hW => ⟨⟨r_24, (fv_26, wd_27, ar_28), rfl, ⟨hF_fv_26, hA_ar_28, (fM_call (fM_rf [0] _) fr_29 (by decide)), (fA_call (fA_rf [] _) fa_30 (by decide)), (show ((a.toInt < 0 ∨ (fv 32).toInt ≤ a.toInt ∨ b.toInt < 0 ∨ 6 < b.toInt) ∧ fv_26 0 = 1) ∨ (¬ (a.toInt < 0 ∨ (fv 32).toInt ≤ a.toInt ∨ b.toInt < 0 ∨ 6 < b.toInt) ∧ fv_26 0 = 0 ∧ r_24 = mo_o7 b.toInt (ar 72 (a.toInt.toNat)) (ar 73 (a.toInt.toNat)) (ar 74 (a.toInt.toNat)) (ar 75 (a.toInt.toNat)) (ar 16 (a.toInt.toNat)) (ar 15 (a.toInt.toNat)) (ar 18 (a.toInt.toNat))) from by have hz0 : (0 : Int32).toInt = 0 := (by decide); have hz1 : (1 : Int32).toInt = 1 := (by decide); have hz6 : (6 : Int32).toInt = 6 := (by decide); have : (fv_26 32).toInt = (fv 32).toInt := congrArg Int32.toInt ((fM_call (fM_rf [0] _) fr_29 (by decide)) 32 rfl); exact Or.inl ⟨by omega, p_25⟩), trivial⟩, ⟨by rw [ht]; exact hP, va_K.moved hW.alike hK⟩⟩, hS.F ht⟩) hS.2.2 dX12_of_28
      · skip
        have i_31 : 0 ≤ b.toInt ∧ b.toInt ≤ 2147483647 := iv_le2 (⟨by decide, by decide⟩ : (0 : Int) ≤ (0 : Int32).toInt ∧ (0 : Int32).toInt ≤ 0) (iv_any b) (Int32.le_iff_toInt_le.mpr p_22.1)
        have i_32 : 0 ≤ b.toInt ∧ b.toInt ≤ 6 := iv_le1 i_31 (⟨by decide, by decide⟩ : (6 : Int) ≤ (6 : Int32).toInt ∧ (6 : Int32).toInt ≤ 6) (Int32.le_iff_toInt_le.mpr p_22.2)
        refine lv_if_ne (tgt := 29) hx hb dX12_of_21 (by decide) (fun c_33 => ?_) (fun c_33 => ?_)
        · skip
          refine lv_aload_n hx hb dX12_of_29 rfl (lv_at hl 0 rfl) ?_
          refine lv_iconst (v := 0) hx hb dX12_of_30 (by decide) ?_
          refine pM_0 hx hb htg hown hK hP hS hd dX12_of_31 (fun H locs fv_34 efv_34 hP hS => ?_)
          have hF_fv_34 : rF fv_34 := rF_put hF_fv efv_34 (iv_any _)
          refine lv_iload_n hx hb dX12_of_34 rfl (lv_at hl 2 rfl) ?_
          rcases iv_sw_0_6 b with w_35 | w_35 | w_35 | w_35 | w_35 | w_35 | w_35 | w_35
          · skip
            refine lv_tableOut (tgt := 114) hx hb dX12_of_35 (Or.inl w_35) (by decide) ?_
            refine lv_aload_n hx hb dX12_of_114 rfl (lv_at hl 0 rfl) ?_
            refine gM_18 hx hb htg hown hK hP dX12_of_115 ?_
            refine lv_iload_n hx hb dX12_of_118 rfl (lv_at hl 1 rfl) ?_
            refine lM_18 hx hb hK hP (iv_in i_17 (by decide) (by decide)) dX12_of_119 (fun v_36 ev_36 => ?_)
            exact W.iret (v := v_36) hx hb hr (fun t ht hW => ⟨⟨v_36, (fv_34, wd, ar), rfl, ⟨hF_fv_34, hA_ar, (fM_put (fM_rf [0] _) efv_34 (by decide)), (fA_rf [] _), (show ((a.toInt < 0 ∨ (fv 32).toInt ≤ a.toInt ∨ b.toInt < 0 ∨ 6 < b.toInt) ∧ fv_34 0 = 1) ∨ (¬ (a.toInt < 0 ∨ (fv 32).toInt ≤ a.toInt ∨ b.toInt < 0 ∨ 6 < b.toInt) ∧ fv_34 0 = 0 ∧ v_36 = mo_o7 b.toInt (ar 72 (a.toInt.toNat)) (ar 73 (a.toInt.toNat)) (ar 74 (a.toInt.toNat)) (ar 75 (a.toInt.toNat)) (ar 16 (a.toInt.toNat)) (ar 15 (a.toInt.toNat)) (ar 18 (a.toInt.toNat))) from by have hz0 : (0 : Int32).toInt = 0 := (by decide); have hz1 : (1 : Int32).toInt = 1 := (by decide); have hz6 : (6 : Int32).toInt = 6 := (by decide); have : (fv_34 32).toInt = (fv 32).toInt := congrArg Int32.toInt ((fM_put (fM_rf [0] _) efv_34 (by decide)) 32 rfl); exact Or.inr ⟨by omega, (congrFun efv_34 0), by skip; unfold mo_o7; rw [if_neg (by omega), if_neg (by omega), if_neg (by omega), if_neg (by omega), if_neg (by omega), if_neg (by omega)]; exact (show v_36 = ar 18 (a.toInt.toNat) from by rw [ev_36]; exact congrArg (ar 18) (show a.toInt.toNat = (a.toInt.toNat) from by omega))⟩), trivial⟩, ⟨by rw [ht]; exact hP, va_K.moved hW.alike hK⟩⟩, hS.F ht⟩) hS.2.2 dX12_of_120
          · skip
            refine lv_tableOut (tgt := 114) hx hb dX12_of_35 (Or.inr w_35) (by decide) ?_
            refine lv_aload_n hx hb dX12_of_114 rfl (lv_at hl 0 rfl) ?_
            refine gM_18 hx hb htg hown hK hP dX12_of_115 ?_
            refine lv_iload_n hx hb dX12_of_118 rfl (lv_at hl 1 rfl) ?_
            refine lM_18 hx hb hK hP (iv_in i_17 (by decide) (by decide)) dX12_of_119 (fun v_37 ev_37 => ?_)
            exact W.iret (v := v_37) hx hb hr (fun t ht hW => ⟨⟨v_37, (fv_34, wd, ar), rfl, ⟨hF_fv_34, hA_ar, (fM_put (fM_rf [0] _) efv_34 (by decide)), (fA_rf [] _), (show ((a.toInt < 0 ∨ (fv 32).toInt ≤ a.toInt ∨ b.toInt < 0 ∨ 6 < b.toInt) ∧ fv_34 0 = 1) ∨ (¬ (a.toInt < 0 ∨ (fv 32).toInt ≤ a.toInt ∨ b.toInt < 0 ∨ 6 < b.toInt) ∧ fv_34 0 = 0 ∧ v_37 = mo_o7 b.toInt (ar 72 (a.toInt.toNat)) (ar 73 (a.toInt.toNat)) (ar 74 (a.toInt.toNat)) (ar 75 (a.toInt.toNat)) (ar 16 (a.toInt.toNat)) (ar 15 (a.toInt.toNat)) (ar 18 (a.toInt.toNat))) from by have hz0 : (0 : Int32).toInt = 0 := (by decide); have hz1 : (1 : Int32).toInt = 1 := (by decide); have hz6 : (6 : Int32).toInt = 6 := (by decide); have : (fv_34 32).toInt = (fv 32).toInt := congrArg Int32.toInt ((fM_put (fM_rf [0] _) efv_34 (by decide)) 32 rfl); exact Or.inr ⟨by omega, (congrFun efv_34 0), by skip; unfold mo_o7; rw [if_neg (by omega), if_neg (by omega), if_neg (by omega), if_neg (by omega), if_neg (by omega), if_neg (by omega)]; exact (show v_37 = ar 18 (a.toInt.toNat) from by rw [ev_37]; exact congrArg (ar 18) (show a.toInt.toNat = (a.toInt.toNat) from by omega))⟩), trivial⟩, ⟨by rw [ht]; exact hP, va_K.moved hW.alike hK⟩⟩, hS.F ht⟩) hS.2.2 dX12_of_120
          · skip
            refine lv_tableIn (off := 37) (tgt := 72) hx hb dX12_of_35 (by rw [w_35]; decide) (by rw [w_35]; decide) (by rw [w_35]; rfl) (by decide) ?_
            refine lv_aload_n hx hb dX12_of_72 rfl (lv_at hl 0 rfl) ?_
            refine gM_72 hx hb htg hown hK hP dX12_of_73 ?_
            refine lv_iload_n hx hb dX12_of_76 rfl (lv_at hl 1 rfl) ?_
            refine lM_72 hx hb hK hP (iv_in i_17 (by decide) (by decide)) dX12_of_77 (fun v_38 ev_38 => ?_)
            exact W.iret (v := v_38) hx hb hr (fun t ht hW => ⟨⟨v_38, (fv_34, wd, ar), rfl, ⟨hF_fv_34, hA_ar, (fM_put (fM_rf [0] _) efv_34 (by decide)), (fA_rf [] _), (show ((a.toInt < 0 ∨ (fv 32).toInt ≤ a.toInt ∨ b.toInt < 0 ∨ 6 < b.toInt) ∧ fv_34 0 = 1) ∨ (¬ (a.toInt < 0 ∨ (fv 32).toInt ≤ a.toInt ∨ b.toInt < 0 ∨ 6 < b.toInt) ∧ fv_34 0 = 0 ∧ v_38 = mo_o7 b.toInt (ar 72 (a.toInt.toNat)) (ar 73 (a.toInt.toNat)) (ar 74 (a.toInt.toNat)) (ar 75 (a.toInt.toNat)) (ar 16 (a.toInt.toNat)) (ar 15 (a.toInt.toNat)) (ar 18 (a.toInt.toNat))) from by have hz0 : (0 : Int32).toInt = 0 := (by decide); have hz1 : (1 : Int32).toInt = 1 := (by decide); have hz6 : (6 : Int32).toInt = 6 := (by decide); have : (fv_34 32).toInt = (fv 32).toInt := congrArg Int32.toInt ((fM_put (fM_rf [0] _) efv_34 (by decide)) 32 rfl); exact Or.inr ⟨by omega, (congrFun efv_34 0), by have hk9 : b.toInt = 0 := (congrArg Int32.toInt (by assumption : b = (0 : Int32))).trans (by decide); unfold mo_o7; rw [if_pos (by omega)]; exact (show v_38 = ar 72 (a.toInt.toNat) from by rw [ev_38]; exact congrArg (ar 72) (show a.toInt.toNat = (a.toInt.toNat) from by omega))⟩), trivial⟩, ⟨by rw [ht]; exact hP, va_K.moved hW.alike hK⟩⟩, hS.F ht⟩) hS.2.2 dX12_of_78
          · skip
            refine lv_tableIn (off := 44) (tgt := 79) hx hb dX12_of_35 (by rw [w_35]; decide) (by rw [w_35]; decide) (by rw [w_35]; rfl) (by decide) ?_
            refine lv_aload_n hx hb dX12_of_79 rfl (lv_at hl 0 rfl) ?_
            refine gM_73 hx hb htg hown hK hP dX12_of_80 ?_
            refine lv_iload_n hx hb dX12_of_83 rfl (lv_at hl 1 rfl) ?_
            refine lM_73 hx hb hK hP (iv_in i_17 (by decide) (by decide)) dX12_of_84 (fun v_39 ev_39 => ?_)
            exact W.iret (v := v_39) hx hb hr (fun t ht hW => ⟨⟨v_39, (fv_34, wd, ar), rfl, ⟨hF_fv_34, hA_ar, (fM_put (fM_rf [0] _) efv_34 (by decide)), (fA_rf [] _), (show ((a.toInt < 0 ∨ (fv 32).toInt ≤ a.toInt ∨ b.toInt < 0 ∨ 6 < b.toInt) ∧ fv_34 0 = 1) ∨ (¬ (a.toInt < 0 ∨ (fv 32).toInt ≤ a.toInt ∨ b.toInt < 0 ∨ 6 < b.toInt) ∧ fv_34 0 = 0 ∧ v_39 = mo_o7 b.toInt (ar 72 (a.toInt.toNat)) (ar 73 (a.toInt.toNat)) (ar 74 (a.toInt.toNat)) (ar 75 (a.toInt.toNat)) (ar 16 (a.toInt.toNat)) (ar 15 (a.toInt.toNat)) (ar 18 (a.toInt.toNat))) from by have hz0 : (0 : Int32).toInt = 0 := (by decide); have hz1 : (1 : Int32).toInt = 1 := (by decide); have hz6 : (6 : Int32).toInt = 6 := (by decide); have : (fv_34 32).toInt = (fv 32).toInt := congrArg Int32.toInt ((fM_put (fM_rf [0] _) efv_34 (by decide)) 32 rfl); exact Or.inr ⟨by omega, (congrFun efv_34 0), by have hk9 : b.toInt = 1 := (congrArg Int32.toInt (by assumption : b = (1 : Int32))).trans (by decide); unfold mo_o7; rw [if_neg (by omega), if_pos (by omega)]; exact (show v_39 = ar 73 (a.toInt.toNat) from by rw [ev_39]; exact congrArg (ar 73) (show a.toInt.toNat = (a.toInt.toNat) from by omega))⟩), trivial⟩, ⟨by rw [ht]; exact hP, va_K.moved hW.alike hK⟩⟩, hS.F ht⟩) hS.2.2 dX12_of_85
          · skip
            refine lv_tableIn (off := 51) (tgt := 86) hx hb dX12_of_35 (by rw [w_35]; decide) (by rw [w_35]; decide) (by rw [w_35]; rfl) (by decide) ?_
            refine lv_aload_n hx hb dX12_of_86 rfl (lv_at hl 0 rfl) ?_
            refine gM_74 hx hb htg hown hK hP dX12_of_87 ?_
            refine lv_iload_n hx hb dX12_of_90 rfl (lv_at hl 1 rfl) ?_
            refine lM_74 hx hb hK hP (iv_in i_17 (by decide) (by decide)) dX12_of_91 (fun v_40 ev_40 => ?_)
            exact W.iret (v := v_40) hx hb hr (fun t ht hW => ⟨⟨v_40, (fv_34, wd, ar), rfl, ⟨hF_fv_34, hA_ar, (fM_put (fM_rf [0] _) efv_34 (by decide)), (fA_rf [] _), (show ((a.toInt < 0 ∨ (fv 32).toInt ≤ a.toInt ∨ b.toInt < 0 ∨ 6 < b.toInt) ∧ fv_34 0 = 1) ∨ (¬ (a.toInt < 0 ∨ (fv 32).toInt ≤ a.toInt ∨ b.toInt < 0 ∨ 6 < b.toInt) ∧ fv_34 0 = 0 ∧ v_40 = mo_o7 b.toInt (ar 72 (a.toInt.toNat)) (ar 73 (a.toInt.toNat)) (ar 74 (a.toInt.toNat)) (ar 75 (a.toInt.toNat)) (ar 16 (a.toInt.toNat)) (ar 15 (a.toInt.toNat)) (ar 18 (a.toInt.toNat))) from by have hz0 : (0 : Int32).toInt = 0 := (by decide); have hz1 : (1 : Int32).toInt = 1 := (by decide); have hz6 : (6 : Int32).toInt = 6 := (by decide); have : (fv_34 32).toInt = (fv 32).toInt := congrArg Int32.toInt ((fM_put (fM_rf [0] _) efv_34 (by decide)) 32 rfl); exact Or.inr ⟨by omega, (congrFun efv_34 0), by have hk9 : b.toInt = 2 := (congrArg Int32.toInt (by assumption : b = (2 : Int32))).trans (by decide); unfold mo_o7; rw [if_neg (by omega), if_neg (by omega), if_pos (by omega)]; exact (show v_40 = ar 74 (a.toInt.toNat) from by rw [ev_40]; exact congrArg (ar 74) (show a.toInt.toNat = (a.toInt.toNat) from by omega))⟩), trivial⟩, ⟨by rw [ht]; exact hP, va_K.moved hW.alike hK⟩⟩, hS.F ht⟩) hS.2.2 dX12_of_92
          · skip
            refine lv_tableIn (off := 58) (tgt := 93) hx hb dX12_of_35 (by rw [w_35]; decide) (by rw [w_35]; decide) (by rw [w_35]; rfl) (by decide) ?_
            refine lv_aload_n hx hb dX12_of_93 rfl (lv_at hl 0 rfl) ?_
            refine gM_75 hx hb htg hown hK hP dX12_of_94 ?_
            refine lv_iload_n hx hb dX12_of_97 rfl (lv_at hl 1 rfl) ?_
            refine lM_75 hx hb hK hP (iv_in i_17 (by decide) (by decide)) dX12_of_98 (fun v_41 ev_41 => ?_)
            exact W.iret (v := v_41) hx hb hr (fun t ht hW => ⟨⟨v_41, (fv_34, wd, ar), rfl, ⟨hF_fv_34, hA_ar, (fM_put (fM_rf [0] _) efv_34 (by decide)), (fA_rf [] _), (show ((a.toInt < 0 ∨ (fv 32).toInt ≤ a.toInt ∨ b.toInt < 0 ∨ 6 < b.toInt) ∧ fv_34 0 = 1) ∨ (¬ (a.toInt < 0 ∨ (fv 32).toInt ≤ a.toInt ∨ b.toInt < 0 ∨ 6 < b.toInt) ∧ fv_34 0 = 0 ∧ v_41 = mo_o7 b.toInt (ar 72 (a.toInt.toNat)) (ar 73 (a.toInt.toNat)) (ar 74 (a.toInt.toNat)) (ar 75 (a.toInt.toNat)) (ar 16 (a.toInt.toNat)) (ar 15 (a.toInt.toNat)) (ar 18 (a.toInt.toNat))) from by have hz0 : (0 : Int32).toInt = 0 := (by decide); have hz1 : (1 : Int32).toInt = 1 := (by decide); have hz6 : (6 : Int32).toInt = 6 := (by decide); have : (fv_34 32).toInt = (fv 32).toInt := congrArg Int32.toInt ((fM_put (fM_rf [0] _) efv_34 (by decide)) 32 rfl); exact Or.inr ⟨by omega, (congrFun efv_34 0), by have hk9 : b.toInt = 3 := (congrArg Int32.toInt (by assumption : b = (3 : Int32))).trans (by decide); unfold mo_o7; rw [if_neg (by omega), if_neg (by omega), if_neg (by omega), if_pos (by omega)]; exact (show v_41 = ar 75 (a.toInt.toNat) from by rw [ev_41]; exact congrArg (ar 75) (show a.toInt.toNat = (a.toInt.toNat) from by omega))⟩), trivial⟩, ⟨by rw [ht]; exact hP, va_K.moved hW.alike hK⟩⟩, hS.F ht⟩) hS.2.2 dX12_of_99
          · skip
            refine lv_tableIn (off := 65) (tgt := 100) hx hb dX12_of_35 (by rw [w_35]; decide) (by rw [w_35]; decide) (by rw [w_35]; rfl) (by decide) ?_
            refine lv_aload_n hx hb dX12_of_100 rfl (lv_at hl 0 rfl) ?_
            refine gM_16 hx hb htg hown hK hP dX12_of_101 ?_
            refine lv_iload_n hx hb dX12_of_104 rfl (lv_at hl 1 rfl) ?_
            refine lM_16 hx hb hK hP (iv_in i_17 (by decide) (by decide)) dX12_of_105 (fun v_42 ev_42 => ?_)
            exact W.iret (v := v_42) hx hb hr (fun t ht hW => ⟨⟨v_42, (fv_34, wd, ar), rfl, ⟨hF_fv_34, hA_ar, (fM_put (fM_rf [0] _) efv_34 (by decide)), (fA_rf [] _), (show ((a.toInt < 0 ∨ (fv 32).toInt ≤ a.toInt ∨ b.toInt < 0 ∨ 6 < b.toInt) ∧ fv_34 0 = 1) ∨ (¬ (a.toInt < 0 ∨ (fv 32).toInt ≤ a.toInt ∨ b.toInt < 0 ∨ 6 < b.toInt) ∧ fv_34 0 = 0 ∧ v_42 = mo_o7 b.toInt (ar 72 (a.toInt.toNat)) (ar 73 (a.toInt.toNat)) (ar 74 (a.toInt.toNat)) (ar 75 (a.toInt.toNat)) (ar 16 (a.toInt.toNat)) (ar 15 (a.toInt.toNat)) (ar 18 (a.toInt.toNat))) from by have hz0 : (0 : Int32).toInt = 0 := (by decide); have hz1 : (1 : Int32).toInt = 1 := (by decide); have hz6 : (6 : Int32).toInt = 6 := (by decide); have : (fv_34 32).toInt = (fv 32).toInt := congrArg Int32.toInt ((fM_put (fM_rf [0] _) efv_34 (by decide)) 32 rfl); exact Or.inr ⟨by omega, (congrFun efv_34 0), by have hk9 : b.toInt = 4 := (congrArg Int32.toInt (by assumption : b = (4 : Int32))).trans (by decide); unfold mo_o7; rw [if_neg (by omega), if_neg (by omega), if_neg (by omega), if_neg (by omega), if_pos (by omega)]; exact (show v_42 = ar 16 (a.toInt.toNat) from by rw [ev_42]; exact congrArg (ar 16) (show a.toInt.toNat = (a.toInt.toNat) from by omega))⟩), trivial⟩, ⟨by rw [ht]; exact hP, va_K.moved hW.alike hK⟩⟩, hS.F ht⟩) hS.2.2 dX12_of_106
          · skip
            refine lv_tableIn (off := 72) (tgt := 107) hx hb dX12_of_35 (by rw [w_35]; decide) (by rw [w_35]; decide) (by rw [w_35]; rfl) (by decide) ?_
            refine lv_aload_n hx hb dX12_of_107 rfl (lv_at hl 0 rfl) ?_
            refine gM_15 hx hb htg hown hK hP dX12_of_108 ?_
            refine lv_iload_n hx hb dX12_of_111 rfl (lv_at hl 1 rfl) ?_
            refine lM_15 hx hb hK hP (iv_in i_17 (by decide) (by decide)) dX12_of_112 (fun v_43 ev_43 => ?_)
            exact W.iret (v := v_43) hx hb hr (fun t ht hW => ⟨⟨v_43, (fv_34, wd, ar), rfl, ⟨hF_fv_34, hA_ar, (fM_put (fM_rf [0] _) efv_34 (by decide)), (fA_rf [] _), (show ((a.toInt < 0 ∨ (fv 32).toInt ≤ a.toInt ∨ b.toInt < 0 ∨ 6 < b.toInt) ∧ fv_34 0 = 1) ∨ (¬ (a.toInt < 0 ∨ (fv 32).toInt ≤ a.toInt ∨ b.toInt < 0 ∨ 6 < b.toInt) ∧ fv_34 0 = 0 ∧ v_43 = mo_o7 b.toInt (ar 72 (a.toInt.toNat)) (ar 73 (a.toInt.toNat)) (ar 74 (a.toInt.toNat)) (ar 75 (a.toInt.toNat)) (ar 16 (a.toInt.toNat)) (ar 15 (a.toInt.toNat)) (ar 18 (a.toInt.toNat))) from by have hz0 : (0 : Int32).toInt = 0 := (by decide); have hz1 : (1 : Int32).toInt = 1 := (by decide); have hz6 : (6 : Int32).toInt = 6 := (by decide); have : (fv_34 32).toInt = (fv 32).toInt := congrArg Int32.toInt ((fM_put (fM_rf [0] _) efv_34 (by decide)) 32 rfl); exact Or.inr ⟨by omega, (congrFun efv_34 0), by have hk9 : b.toInt = 5 := (congrArg Int32.toInt (by assumption : b = (5 : Int32))).trans (by decide); unfold mo_o7; rw [if_neg (by omega), if_neg (by omega), if_neg (by omega), if_neg (by omega), if_neg (by omega), if_pos (by omega)]; exact (show v_43 = ar 15 (a.toInt.toNat) from by rw [ev_43]; exact congrArg (ar 15) (show a.toInt.toNat = (a.toInt.toNat) from by omega))⟩), trivial⟩, ⟨by rw [ht]; exact hP, va_K.moved hW.alike hK⟩⟩, hS.F ht⟩) hS.2.2 dX12_of_113
        · skip
          exact absurd c_33 (by decide)

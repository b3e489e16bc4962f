set_option maxHeartbeats 4000000 in
set_option maxRecDepth 100000 in
theorem m_isWheelE (l : Launch) (dC : Nat → ClassId) (dI : Nat → Nat → Nat) (sz h : Nat) (ad : Nat → Nat) (cA : Nat → ClassId) (hd : dM h ad) (fv : Nat → Int32) (wd : Int64) (ar : Nat → Nat → Int32) (hF_fv : rF fv) (hA_ar : rA ar) (v : Int32) : Met l yX12_isWheel (.code yX12_isWheel cX12_isWheel 2 (some .boolean) :: lw_good) ({ frames := 2, cells := 0, slots := 0, locals := 40 }) (va_Pc [.ref h, .int v] (prM dC dI h ad cA fv wd ar sz)) (va_Qi (fun (r : Int32) (u : mS) => rF u.1 ∧ rA u.2.2 ∧ fM [] fv u.1 ∧ fA [] ar u.2.2 ∧ (0 ≤ r.toInt ∧ r.toInt ≤ 1) ∧ ((r = 0 ∧ (v.toInt < 0 ∨ (fv 34).toInt ≤ v.toInt)) ∨ (r = 1 ∧ (0 ≤ v.toInt) ∧ (v.toInt ≤ 19) ∧ (v.toInt < (fv 34).toInt))) ∧ True) (enM dC dI h ad cA) (aM h ad sz)) 0 0 (aM h ad sz) := by
  refine Met.ofW (cc := cX12_isWheel) (maxL := 2) (ret := (some .boolean)) (by decide) rfl ?_
  intro p e s m args below meth c s₁ B hml hv
  obtain ⟨rfl, hsz, hP, hK⟩ := hv
  have hx := B.exec
  have hb := B.bytes
  have hr := B.returns
  have hts := atoms_spec (ws := (.code yX12_isWheel cX12_isWheel 2 (some .boolean) :: lw_good)) B.pre
  have htg : ∀ w ∈ lw_good, w.before _ s = true := fun w hw => hts w (List.mem_cons_of_mem _ hw)
  have hown : s.vm.findClass RX12 = some m.cls := findClass_of_methodNamed B.named
  have hlocks := B.notSynchronized
  subst hsz
  have hS : va_S (aM h ad s.heap.size) s.heap s.heap [] := va_S.rf
  have hl := lv_entry ([.ref h, .int v]) (n := 2) (Nat.le_of_ble_eq_true rfl)
  rw [lg_entry_eq]
  generalize (lg_sl ([.ref h, .int v]) ++ List.replicate (2 - (lg_sl ([.ref h, .int v])).length) Slot.unset).toArray = ls at hl ⊢
  have hl : lv_has ls 2 [(0, .ref h), (1, .int v)] := hl
  have zc0 : (0 : Int32).toInt = 0 := by decide
  have zc1 : (1 : Int32).toInt = 1 := by decide
  have zc2 : (2 : Int32).toInt = 2 := by decide
  have zc9 : (9 : Int32).toInt = 9 := by decide
  have zc11 : (11 : Int32).toInt = 11 := by decide
  have zc12 : (12 : Int32).toInt = 12 := by decide
  have zc19 : (19 : Int32).toInt = 19 := by decide
  have zc99 : (99 : Int32).toInt = 99 := by decide
  have zc199 : (199 : Int32).toInt = 199 := by decide
  have zc719 : (719 : Int32).toInt = 719 := by decide
  have zc20 : (20 : Int32).toInt = 20 := by decide
  have zc340 : (340 : Int32).toInt = 340 := by decide
  have zcm1 : ((-1) : Int32).toInt = (-1) := by decide
  refine lv_iload_n hx hb dX12_isWheel_0 rfl (lv_at hl 1 rfl) ?_
  refine lv_if_lt (tgt := 16) hx hb dX12_isWheel_1 (by decide) (fun c_1 => ?_) (fun c_1 => ?_)
  · skip
    have i_2 : (-2147483648) ≤ v.toInt ∧ v.toInt ≤ (-1) := iv_lt1 (iv_any v) (⟨by decide, by decide⟩ : (0 : Int) ≤ (0 : Int32).toInt ∧ (0 : Int32).toInt ≤ 0) c_1
    refine lv_iconst (v := 0) hx hb dX12_isWheel_16 (by decide) ?_
    exact W.zret (v := 0) hx hb hr (by decide) (fun t ht hW => ⟨⟨0, (fv, wd, ar), rfl, ⟨hF_fv, hA_ar, (fM_rf [] _), (fA_rf [] _), (iv_w (⟨by decide, by decide⟩ : (0 : Int) ≤ (0 : Int32).toInt ∧ (0 : Int32).toInt ≤ 0) (by decide) (by decide)), (Or.inl ⟨rfl, by omega⟩), trivial⟩, ⟨by rw [ht]; exact hP, va_K.moved hW.alike hK⟩⟩, hS.F ht⟩) hS.2.2 dX12_isWheel_17
  · skip
    have i_3 : 0 ≤ v.toInt ∧ v.toInt ≤ 2147483647 := iv_le2 (⟨by decide, by decide⟩ : (0 : Int) ≤ (0 : Int32).toInt ∧ (0 : Int32).toInt ≤ 0) (iv_any v) (Int32.not_lt.mp c_1)
    refine lv_iload_n hx hb dX12_isWheel_4 rfl (lv_at hl 1 rfl) ?_
    refine lv_aload_n hx hb dX12_isWheel_5 rfl (lv_at hl 0 rfl) ?_
    refine gM_34 hx hb htg hown hK hP dX12_isWheel_6 ?_
    have i_4 : 0 ≤ (fv 34).toInt ∧ (fv 34).toInt ≤ 20 := hF_fv 34
    refine lv_icmp_ge (tgt := 16) hx hb dX12_isWheel_9 (by decide) (fun c_5 => ?_) (fun c_5 => ?_)
    · skip
      have k_6 := Int32.le_iff_toInt_le.mp c_5
      refine lv_iconst (v := 0) hx hb dX12_isWheel_16 (by decide) ?_
      exact W.zret (v := 0) hx hb hr (by decide) (fun t ht hW => ⟨⟨0, (fv, wd, ar), rfl, ⟨hF_fv, hA_ar, (fM_rf [] _), (fA_rf [] _), (iv_w (⟨by decide, by decide⟩ : (0 : Int) ≤ (0 : Int32).toInt ∧ (0 : Int32).toInt ≤ 0) (by decide) (by decide)), (Or.inl ⟨rfl, by omega⟩), trivial⟩, ⟨by rw [ht]; exact hP, va_K.moved hW.alike hK⟩⟩, hS.F ht⟩) hS.2.2 dX12_isWheel_17
    · skip
      have i_7 : 0 ≤ v.toInt ∧ v.toInt ≤ 19 := iv_lt1 i_3 i_4 (Int32.not_le.mp c_5)
      have i_8 : 1 ≤ (fv 34).toInt ∧ (fv 34).toInt ≤ 20 := iv_lt2 i_3 i_4 (Int32.not_le.mp c_5)
      have k_9 := Int32.lt_iff_toInt_lt.mp (Int32.not_le.mp c_5)
      refine lv_iconst (v := 1) hx hb dX12_isWheel_12 (by decide) ?_
      refine lv_goto (tgt := 17) hx hb dX12_isWheel_13 (by decide) ?_
      exact W.zret (v := 1) hx hb hr (by decide) (fun t ht hW => ⟨⟨1, (fv, wd, ar), rfl, ⟨hF_fv, hA_ar, (fM_rf [] _), (fA_rf [] _), (iv_w (⟨by decide, by decide⟩ : (1 : Int) ≤ (1 : Int32).toInt ∧ (1 : Int32).toInt ≤ 1) (by decide) (by decide)), (Or.inr (⟨rfl, by omega⟩)), trivial⟩, ⟨by rw [ht]; exact hP, va_K.moved hW.alike hK⟩⟩, hS.F ht⟩) hS.2.2 dX12_isWheel_17
set_option maxHeartbeats 4000000 in
set_option maxRecDepth 100000 in
theorem m_streetE (l : Launch) (dC : Nat → ClassId) (dI : Nat → Nat → Nat) (sz h : Nat) (ad : Nat → Nat) (cA : Nat → ClassId) (hd : dM h ad) (fv : Nat → Int32) (wd : Int64) (ar : Nat → Nat → Int32) (hF_fv : rF fv) (hA_ar : rA ar) (a : Int32) (b : Int32) (v : Int32) : Met l yX12_street (.code yX12_street cX12_street 9 (some .boolean) :: lw_good) ({ frames := 3, cells := 0, slots := 0, locals := 62 }) (va_Pc [.ref h, .int a, .int b, .int v] (prM dC dI h ad cA fv wd ar sz)) (va_Qi (fun (r : Int32) (u : mS) => rF u.1 ∧ rA u.2.2 ∧ fM [0, 6, 8] fv u.1 ∧ fA [4] ar u.2.2 ∧ (0 ≤ r.toInt ∧ r.toInt ≤ 1) ∧ (ps_street r (u.1 6) (fv 6) a b v) ∧ True) (enM dC dI h ad cA) (aM h ad sz)) 0 0 (aM h ad sz) := by
  refine Met.ofW (cc := cX12_street) (maxL := 9) (ret := (some .boolean)) (by decide) rfl ?_
  intro p e s m args below meth c s₁ B hml hv
  obtain ⟨rfl, hsz, hP, hK⟩ := hv
  have hx := B.exec
  have hb := B.bytes
  have hr := B.returns
  have hts := atoms_spec (ws := (.code yX12_street cX12_street 9 (some .boolean) :: lw_good)) B.pre
  have htg : ∀ w ∈ lw_good, w.before _ s = true := fun w hw => hts w (List.mem_cons_of_mem _ hw)
  have hown : s.vm.findClass RX12 = some m.cls := findClass_of_methodNamed B.named
  have hlocks := B.notSynchronized
  subst hsz
  have hS : va_S (aM h ad s.heap.size) s.heap s.heap [] := va_S.rf
  have hl := lv_entry ([.ref h, .int a, .int b, .int v]) (n := 9) (Nat.le_of_ble_eq_true rfl)
  rw [lg_entry_eq]
  generalize (lg_sl ([.ref h, .int a, .int b, .int v]) ++ List.replicate (9 - (lg_sl ([.ref h, .int a, .int b, .int v])).length) Slot.unset).toArray = ls at hl ⊢
  have hl : lv_has ls 9 [(0, .ref h), (1, .int a), (2, .int b), (3, .int v)] := hl
  have zc0 : (0 : Int32).toInt = 0 := by decide
  have zc1 : (1 : Int32).toInt = 1 := by decide
  have zc2 : (2 : Int32).toInt = 2 := by decide
  have zc9 : (9 : Int32).toInt = 9 := by decide
  have zc11 : (11 : Int32).toInt = 11 := by decide
  have zc12 : (12 : Int32).toInt = 12 := by decide
  have zc19 : (19 : Int32).toInt = 19 := by decide
  have zc99 : (99 : Int32).toInt = 99 := by decide
  have zc199 : (199 : Int32).toInt = 199 := by decide
  have zc719 : (719 : Int32).toInt = 719 := by decide
  have zc20 : (20 : Int32).toInt = 20 := by decide
  have zc340 : (340 : Int32).toInt = 340 := by decide
  have zcm1 : ((-1) : Int32).toInt = (-1) := by decide
  refine lv_aload_n hx hb dX12_street_0 rfl (lv_at hl 0 rfl) ?_
  refine lv_iconst (v := 0) hx hb dX12_street_1 (by decide) ?_
  refine pM_0 hx hb htg hown hK hP hS hd dX12_street_2 (fun H locs fv_1 efv_1 hP hS => ?_)
  have hF_fv_1 : rF fv_1 := rF_put hF_fv efv_1 (iv_any _)
  refine lv_aload_n hx hb dX12_street_5 rfl (lv_at hl 0 rfl) ?_
  refine gM_6 hx hb htg hown hK hP dX12_street_6 ?_
  refine my_ti (y := fv 6) ((congrFun efv_1 6)) ?_
  have i_2 : 0 ≤ (fv 6).toInt ∧ (fv 6).toInt ≤ 30 := hF_fv 6
  refine lv_bipush (v := 30) hx hb dX12_street_9 (by decide) ?_
  refine lv_icmp_eq (tgt := 43) hx hb dX12_street_11 (by decide) (fun c_3 => ?_) (fun c_3 => ?_)
  · skip
    have i_4 : 30 ≤ (fv 6).toInt ∧ (fv 6).toInt ≤ 30 := iv_eq1 (⟨by decide, by decide⟩ : (30 : Int) ≤ (30 : Int32).toInt ∧ (30 : Int32).toInt ≤ 30) c_3
    refine lv_iconst (v := 0) hx hb dX12_street_43 (by decide) ?_
    have z_6 : (0 : Int32).toInt = 0 := by decide
    exact W.zret (v := 0) hx hb hr (by decide) (fun t ht hW => ⟨⟨0, (fv_1, wd, ar), rfl, ⟨hF_fv_1, hA_ar, (fM_put (fM_rf [0, 6, 8] _) efv_1 (by decide)), (fA_rf [4] _), (iv_w (⟨by decide, by decide⟩ : (0 : Int) ≤ (0 : Int32).toInt ∧ (0 : Int32).toInt ≤ 0) (by decide) (by decide)), (show ps_street (0 : Int32) (fv_1 6) (fv 6) a b v from by have q_fv_1_33 : (fv_1 33).toInt = (fv 33).toInt := congrArg Int32.toInt ((fM_put (fM_rf [0] _) efv_1 (by decide)) 33 rfl); have q_fv_1_3 : (fv_1 3).toInt = (fv 3).toInt := congrArg Int32.toInt ((fM_put (fM_rf [0] _) efv_1 (by decide)) 3 rfl); have q_fv_1_6 : (fv_1 6).toInt = (fv 6).toInt := congrArg Int32.toInt ((fM_put (fM_rf [0] _) efv_1 (by decide)) 6 rfl); have q_fv_1_34 : (fv_1 34).toInt = (fv 34).toInt := congrArg Int32.toInt ((fM_put (fM_rf [0] _) efv_1 (by decide)) 34 rfl); have q_fv_1_35 : (fv_1 35).toInt = (fv 35).toInt := congrArg Int32.toInt ((fM_put (fM_rf [0] _) efv_1 (by decide)) 35 rfl); have q_fv_1_2 : (fv_1 2).toInt = (fv 2).toInt := congrArg Int32.toInt ((fM_put (fM_rf [0] _) efv_1 (by decide)) 2 rfl); exact Or.inl ⟨rfl, (congrFun efv_1 6), by omega⟩), trivial⟩, ⟨by rw [ht]; exact hP, va_K.moved hW.alike hK⟩⟩, hS.F ht⟩) hS.2.2 dX12_street_44
  · skip
    have i_7 : 0 ≤ (fv 6).toInt ∧ (fv 6).toInt ≤ 29 := iv_neh i_2 (by decide) c_3
    have k_8 : ¬ (fv 6).toInt = 30 := fun q => c_3 (Int32.toInt_inj.mp q)
    refine lv_iload_n hx hb dX12_street_14 rfl (lv_at hl 1 rfl) ?_
    refine va_calli (va_runS (As := [.int a]) (rest := []) ⟨hx, hb, hml, hown, hts⟩ (m_isCorner l H.size a) (va_cwS 1 hts (gS kw_7_225 kw_7_226 kw_1_15 kw_7_227) rfl rfl rfl (by decide +kernel) ⟨Nat.le_of_ble_eq_true rfl, Nat.le_of_ble_eq_true rfl⟩) ⟨fun a U g mk q => ⟨q.1, q.2⟩, fun U hU hW => ⟨rfl, congrArg Array.size hU⟩⟩ rfl rfl hl.1 rfl (lv_room (Nat.le_of_ble_eq_true rfl)) dX12_street_15 ⟨Nat.le_of_ble_eq_true rfl, Nat.le_of_ble_eq_true rfl⟩) hS (fun q _ h9 => nM_up hS q h9) (nM_up hS) (fun r_9 u t H1 locs ht _ hw hB _ hk1 hS => ?_)
    obtain ⟨p_10, p_11, -⟩ := hw
    have hP := my_keepM hP hk1
    generalize H1 = H at hP hS ⊢
    rcases p_11 with ⟨rfl, p_11⟩ | ⟨rfl, p_11⟩
    · skip
      refine lv_if_eq (tgt := 43) hx hb dX12_street_18 (by decide) (fun c_12 => ?_) (fun c_12 => ?_)
      · skip
        refine lv_iconst (v := 0) hx hb dX12_street_43 (by decide) ?_
        have z_13 : (0 : Int32).toInt = 0 := by decide
        exact W.zret (v := 0) hx hb hr (by decide) (fun t ht hW => ⟨⟨0, (fv_1, wd, ar), rfl, ⟨hF_fv_1, hA_ar, (fM_put (fM_rf [0, 6, 8] _) efv_1 (by decide)), (fA_rf [4] _), (iv_w (⟨by decide, by decide⟩ : (0 : Int) ≤ (0 : Int32).toInt ∧ (0 : Int32).toInt ≤ 0) (by decide) (by decide)), (show ps_street (0 : Int32) (fv_1 6) (fv 6) a b v from by have q_fv_1_33 : (fv_1 33).toInt = (fv 33).toInt := congrArg Int32.toInt ((fM_put (fM_rf [0] _) efv_1 (by decide)) 33 rfl); have q_fv_1_3 : (fv_1 3).toInt = (fv 3).toInt := congrArg Int32.toInt ((fM_put (fM_rf [0] _) efv_1 (by decide)) 3 rfl); have q_fv_1_6 : (fv_1 6).toInt = (fv 6).toInt := congrArg Int32.toInt ((fM_put (fM_rf [0] _) efv_1 (by decide)) 6 rfl); have q_fv_1_34 : (fv_1 34).toInt = (fv 34).toInt := congrArg Int32.toInt ((fM_put (fM_rf [0] _) efv_1 (by decide)) 34 rfl); have q_fv_1_35 : (fv_1 35).toInt = (fv 35).toInt := congrArg Int32.toInt ((fM_put (fM_rf [0] _) efv_1 (by decide)) 35 rfl); have q_fv_1_2 : (fv_1 2).toInt = (fv 2).toInt := congrArg Int32.toInt ((fM_put (fM_rf [0] _) efv_1 (by decide)) 2 rfl); exact Or.inl ⟨rfl, (congrFun efv_1 6), by omega⟩), trivial⟩, ⟨by rw [ht]; exact hP, va_K.moved hW.alike hK⟩⟩, hS.F ht⟩) hS.2.2 dX12_street_44
      · skip
        exact absurd c_12 (by decide)
    · skip
      have i_14 : 0 ≤ a.toInt ∧ a.toInt ≤ 2147483647 := ⟨p_11.1, (iv_any a).2⟩
      have i_15 : 0 ≤ a.toInt ∧ a.toInt ≤ 11 := ⟨i_14.1, p_11.2⟩
      refine lv_if_eq (tgt := 43) hx hb dX12_street_18 (by decide) (fun c_16 => ?_) (fun c_16 => ?_)
      · skip
        exact absurd c_16 (by decide)
      · skip
        refine lv_iload_n hx hb dX12_street_21 rfl (lv_at hl 2 rfl) ?_
        refine va_calli (va_runS (As := [.int b]) (rest := []) ⟨hx, hb, hml, hown, hts⟩ (m_isCorner l H.size b) (va_cwS 1 hts (gS kw_7_225 kw_7_226 kw_1_15 kw_7_227) rfl rfl rfl (by decide +kernel) ⟨Nat.le_of_ble_eq_true rfl, Nat.le_of_ble_eq_true rfl⟩) ⟨fun a U g mk q => ⟨q.1, q.2⟩, fun U hU hW => ⟨rfl, congrArg Array.size hU⟩⟩ rfl rfl hl.1 rfl (lv_room (Nat.le_of_ble_eq_true rfl)) dX12_street_22 ⟨Nat.le_of_ble_eq_true rfl, Nat.le_of_ble_eq_true rfl⟩) hS (fun q _ h9 => nM_up hS q h9) (nM_up hS) (fun r_17 u t H1 locs ht _ hw hB _ hk1 hS => ?_)
        obtain ⟨p_18, p_19, -⟩ := hw
        have hP := my_keepM hP hk1
        generalize H1 = H at hP hS ⊢
        rcases p_19 with ⟨rfl, p_19⟩ | ⟨rfl, p_19⟩
        · skip
          refine lv_if_eq (tgt := 43) hx hb dX12_street_25 (by decide) (fun c_20 => ?_) (fun c_20 => ?_)
          · skip
            refine lv_iconst (v := 0) hx hb dX12_street_43 (by decide) ?_
            have z_21 : (0 : Int32).toInt = 0 := by decide
            exact W.zret (v := 0) hx hb hr (by decide) (fun t ht hW => ⟨⟨0, (fv_1, wd, ar), rfl, ⟨hF_fv_1, hA_ar, (fM_put (fM_rf [0, 6, 8] _) efv_1 (by decide)), (fA_rf [4] _), (iv_w (⟨by decide, by decide⟩ : (0 : Int) ≤ (0 : Int32).toInt ∧ (0 : Int32).toInt ≤ 0) (by decide) (by decide)), (show ps_street (0 : Int32) (fv_1 6) (fv 6) a b v from by have q_fv_1_33 : (fv_1 33).toInt = (fv 33).toInt := congrArg Int32.toInt ((fM_put (fM_rf [0] _) efv_1 (by decide)) 33 rfl); have q_fv_1_3 : (fv_1 3).toInt = (fv 3).toInt := congrArg Int32.toInt ((fM_put (fM_rf [0] _) efv_1 (by decide)) 3 rfl); have q_fv_1_6 : (fv_1 6).toInt = (fv 6).toInt := congrArg Int32.toInt ((fM_put (fM_rf [0] _) efv_1 (by decide)) 6 rfl); have q_fv_1_34 : (fv_1 34).toInt = (fv 34).toInt := congrArg Int32.toInt ((fM_put (fM_rf [0] _) efv_1 (by decide)) 34 rfl); have q_fv_1_35 : (fv_1 35).toInt = (fv 35).toInt := congrArg Int32.toInt ((fM_put (fM_rf [0] _) efv_1 (by decide)) 35 rfl); have q_fv_1_2 : (fv_1 2).toInt = (fv 2).toInt := congrArg Int32.toInt ((fM_put (fM_rf [0] _) efv_1 (by decide)) 2 rfl); exact Or.inl ⟨rfl, (congrFun efv_1 6), by omega⟩), trivial⟩, ⟨by rw [ht]; exact hP, va_K.moved hW.alike hK⟩⟩, hS.F ht⟩) hS.2.2 dX12_street_44
          · skip
            exact absurd c_20 (by decide)
        · skip
          have i_22 : 0 ≤ b.toInt ∧ b.toInt ≤ 2147483647 := ⟨p_19.1, (iv_any b).2⟩
          have i_23 : 0 ≤ b.toInt ∧ b.toInt ≤ 11 := ⟨i_22.1, p_19.2⟩
          refine lv_if_eq (tgt := 43) hx hb dX12_street_25 (by decide) (fun c_24 => ?_) (fun c_24 => ?_)
          · skip
            exact absurd c_24 (by decide)
          · skip
            refine lv_iload_n hx hb dX12_street_28 rfl (lv_at hl 1 rfl) ?_
            refine lv_iload_n hx hb dX12_street_29 rfl (lv_at hl 2 rfl) ?_
            refine lv_icmp_eq (tgt := 43) hx hb dX12_street_30 (by decide) (fun c_25 => ?_) (fun c_25 => ?_)
            · skip
              have k_26 := congrArg Int32.toInt c_25
              refine lv_iconst (v := 0) hx hb dX12_street_43 (by decide) ?_
              have z_27 : (0 : Int32).toInt = 0 := by decide
              exact W.zret (v := 0) hx hb hr (by decide) (fun t ht hW => ⟨⟨0, (fv_1, wd, ar), rfl, ⟨hF_fv_1, hA_ar, (fM_put (fM_rf [0, 6, 8] _) efv_1 (by decide)), (fA_rf [4] _), (iv_w (⟨by decide, by decide⟩ : (0 : Int) ≤ (0 : Int32).toInt ∧ (0 : Int32).toInt ≤ 0) (by decide) (by decide)), (show ps_street (0 : Int32) (fv_1 6) (fv 6) a b v from by have q_fv_1_33 : (fv_1 33).toInt = (fv 33).toInt := congrArg Int32.toInt ((fM_put (fM_rf [0] _) efv_1 (by decide)) 33 rfl); have q_fv_1_3 : (fv_1 3).toInt = (fv 3).toInt := congrArg Int32.toInt ((fM_put (fM_rf [0] _) efv_1 (by decide)) 3 rfl); have q_fv_1_6 : (fv_1 6).toInt = (fv 6).toInt := congrArg Int32.toInt ((fM_put (fM_rf [0] _) efv_1 (by decide)) 6 rfl); have q_fv_1_34 : (fv_1 34).toInt = (fv 34).toInt := congrArg Int32.toInt ((fM_put (fM_rf [0] _) efv_1 (by decide)) 34 rfl); have q_fv_1_35 : (fv_1 35).toInt = (fv 35).toInt := congrArg Int32.toInt ((fM_put (fM_rf [0] _) efv_1 (by decide)) 35 rfl); have q_fv_1_2 : (fv_1 2).toInt = (fv 2).toInt := congrArg Int32.toInt ((fM_put (fM_rf [0] _) efv_1 (by decide)) 2 rfl); exact Or.inl ⟨rfl, (congrFun efv_1 6), by omega⟩), trivial⟩, ⟨by rw [ht]; exact hP, va_K.moved hW.alike hK⟩⟩, hS.F ht⟩) hS.2.2 dX12_street_44
            · skip
              have k_28 : ¬ a.toInt = b.toInt := fun q => c_25 (Int32.toInt_inj.mp q)
              refine lv_iload_n hx hb dX12_street_33 rfl (lv_at hl 3 rfl) ?_
              refine lv_iconst (v := 1) hx hb dX12_street_34 (by decide) ?_
              refine lv_bipush (v := 99) hx hb dX12_street_35 (by decide) ?_
              refine va_calli (va_runS (As := [.int v, .int 1, .int 99]) (rest := []) ⟨hx, hb, hml, hown, hts⟩ (m_isIn l H.size v 1 99) (va_cwS 3 hts (gS kw_7_218 kw_7_219 kw_1_15 kw_7_220) rfl rfl rfl (by decide +kernel) ⟨Nat.le_of_ble_eq_true rfl, Nat.le_of_ble_eq_true rfl⟩) ⟨fun a U g mk q => ⟨q.1, q.2⟩, fun U hU hW => ⟨rfl, congrArg Array.size hU⟩⟩ rfl rfl hl.1 rfl (lv_room (Nat.le_of_ble_eq_true rfl)) dX12_street_37 ⟨Nat.le_of_ble_eq_true rfl, Nat.le_of_ble_eq_true rfl⟩) hS (fun q _ h9 => nM_up hS q h9) (nM_up hS) (fun r_29 u t H1 locs ht _ hw hB _ hk1 hS => ?_)
              obtain ⟨p_30, p_31, -⟩ := hw
              have hP := my_keepM hP hk1
              generalize H1 = H at hP hS ⊢
              rcases p_31 with ⟨rfl, p_31⟩ | ⟨rfl, p_31⟩
              · skip
                refine lv_if_ne (tgt := 45) hx hb dX12_street_40 (by decide) (fun c_32 => ?_) (fun c_32 => ?_)
                · skip
                  exact absurd c_32 (by decide)
                · skip
                  refine lv_iconst (v := 0) hx hb dX12_street_43 (by decide) ?_
                  have z_33 : (0 : Int32).toInt = 0 := by decide
                  exact W.zret (v := 0) hx hb hr (by decide) (fun t ht hW => ⟨⟨0, (fv_1, wd, ar), rfl, ⟨hF_fv_1, hA_ar, (fM_put (fM_rf [0, 6, 8] _) efv_1 (by decide)), (fA_rf [4] _), (iv_w (⟨by decide, by decide⟩ : (0 : Int) ≤ (0 : Int32).toInt ∧ (0 : Int32).toInt ≤ 0) (by decide) (by decide)), (show ps_street (0 : Int32) (fv_1 6) (fv 6) a b v from by have q_fv_1_33 : (fv_1 33).toInt = (fv 33).toInt := congrArg Int32.toInt ((fM_put (fM_rf [0] _) efv_1 (by decide)) 33 rfl); have q_fv_1_3 : (fv_1 3).toInt = (fv 3).toInt := congrArg Int32.toInt ((fM_put (fM_rf [0] _) efv_1 (by decide)) 3 rfl); have q_fv_1_6 : (fv_1 6).toInt = (fv 6).toInt := congrArg Int32.toInt ((fM_put (fM_rf [0] _) efv_1 (by decide)) 6 rfl); have q_fv_1_34 : (fv_1 34).toInt = (fv 34).toInt := congrArg Int32.toInt ((fM_put (fM_rf [0] _) efv_1 (by decide)) 34 rfl); have q_fv_1_35 : (fv_1 35).toInt = (fv 35).toInt := congrArg Int32.toInt ((fM_put (fM_rf [0] _) efv_1 (by decide)) 35 rfl); have q_fv_1_2 : (fv_1 2).toInt = (fv 2).toInt := congrArg Int32.toInt ((fM_put (fM_rf [0] _) efv_1 (by decide)) 2 rfl); exact Or.inl ⟨rfl, (congrFun efv_1 6), by omega⟩), trivial⟩, ⟨by rw [ht]; exact hP, va_K.moved hW.alike hK⟩⟩, hS.F ht⟩) hS.2.2 dX12_street_44
              · skip
                have i_34 : 1 ≤ v.toInt ∧ v.toInt ≤ 2147483647 := iv_le2 (⟨by decide, by decide⟩ : (1 : Int) ≤ (1 : Int32).toInt ∧ (1 : Int32).toInt ≤ 1) (iv_any v) (Int32.le_iff_toInt_le.mpr p_31.1)
                have i_35 : 1 ≤ v.toInt ∧ v.toInt ≤ 99 := iv_le1 i_34 (⟨by decide, by decide⟩ : (99 : Int) ≤ (99 : Int32).toInt ∧ (99 : Int32).toInt ≤ 99) (Int32.le_iff_toInt_le.mpr p_31.2)
                refine lv_if_ne (tgt := 45) hx hb dX12_street_40 (by decide) (fun c_36 => ?_) (fun c_36 => ?_)
                · skip
                  refine lv_aload_n hx hb dX12_street_45 rfl (lv_at hl 0 rfl) ?_
                  refine va_callv (va_runV (As := []) (rest := []) ⟨hx, hb, hml, hown, hts⟩ (m_begin l dC dI H.size h ad cA hd fv_1 wd ar hF_fv_1 hA_ar) (cwV 0 hts (gV kw_7_228 kw_7_230 kw_p_58 kw_1_15 kw_7_231) rfl rfl rfl (by decide +kernel) ⟨Nat.le_of_ble_eq_true rfl, Nat.le_of_ble_eq_true rfl⟩) ⟨fun a U g mk q => ⟨q.1, q.2.1, q.2.2.1, va_K.moved (u := U) (U := U.calling g mk a) (Vm.Alike.refl U.vm) q.2.2.2⟩, va_recv hK hP (ci := 12) (q0 := 0) rfl rfl, fun U hU hW => ⟨rfl, by rw [hU], by rw [hU]; exact hP, va_K.moved hW.alike hK⟩⟩ rfl rfl hl.1 rfl (lv_room (Nat.le_of_ble_eq_true rfl)) dX12_street_46 ⟨Nat.le_of_ble_eq_true rfl, Nat.le_of_ble_eq_true rfl⟩) hS (fun q _ h9 => aM_up hS q h9) (aM_up hS) (fun u t H1 locs ht _ hw hB _ hk1 hS => ?_)
                  obtain ⟨fv_38, wd_39, ar_40⟩ := u
                  obtain ⟨hF_fv_38, hA_ar_40, fr_41, fa_42, -⟩ := hw
                  have hP : va_P (dC, dI) vwCl (wsM h ad cA fv_38 wd_39 ar_40) H1 := by have h9 := hB.1; rw [ht] at h9; exact h9
                  have fr_41 : fM [8] fv_1 fv_38 := fr_41
                  have fa_42 : fA [4] ar ar_40 := fa_42
                  generalize H1 = H at hP hS ⊢
                  refine lv_aload_n hx hb dX12_street_49 rfl (lv_at hl 0 rfl) ?_
                  refine lv_dup hx hb dX12_street_50 rfl ?_
                  refine gM_6 hx hb htg hown hK hP dX12_street_51 ?_
                  refine my_ti (y := fv 6) ((fr_41 6 rfl).trans ((congrFun efv_1 6))) ?_
                  refine lv_iconst (v := 1) hx hb dX12_street_54 (by decide) ?_
                  refine lv_iadd hx hb dX12_street_55 ?_
                  refine lv_topi (fun v_43 ev_43 => ?_)
                  have t_44 : v_43.toInt = (fv 6).toInt + 1 ∧ 1 ≤ v_43.toInt ∧ v_43.toInt ≤ 30 := iv_addc ev_43 i_7 (by decide) (by decide) (by decide)
                  refine pM_6 hx hb htg hown hK hP hS hd dX12_street_56 (fun H locs fv_46 efv_46 hP hS => ?_)
                  have hF_fv_46 : rF fv_46 := rF_put hF_fv_38 efv_46 (iv_w t_44.2 (by decide) (by decide))
                  refine lv_iconst (v := 0) hx hb dX12_street_59 (by decide) ?_
                  refine lv_istore (lv' := [(4, .int 0), (0, .ref h), (1, .int a), (2, .int b), (3, .int v)]) hx hb dX12_street_60 hl (by decide) rfl (fun ls hl => ?_)
                  refine my_cut (P := fun R9 a9 Q9 => ∀ (n_50 : Nat) (x_47 : Int32) (ar_48 : Nat → Nat → Int32) (H : Heap) (locs : List Loc) (ls : Array Slot), 12 - x_47.toInt < (n_50 : Int) → (0 ≤ x_47.toInt ∧ x_47.toInt ≤ 12) → rA ar_48 → fA [4] ar_40 ar_48 → va_P (dC, dI) vwCl (wsM h ad cA fv_46 wd_39 ar_48) H → va_S (aM h ad s.heap.size) s.heap H locs → lv_has ls 9 [(0, .ref h), (1, .int a), (2, .int b), (3, .int v), (4, .int x_47)] → W p l e R9 s m a9 below meth c H locs 0 0 Q9 (F0 m 62 ls [])) ?_ (fun hj_52 => ?_)
                  · intro n_50
                    induction n_50 with
                    | zero => intro x_47 ar_48 H locs ls fu_51 i_x_47 hA_ar_48 fa_49; exfalso; omega
                    | succ n_50 ih_50 =>
                      intro x_47 ar_48 H locs ls fu_51 i_x_47 hA_ar_48 fa_49 hP hS hl
                      refine lv_iload hx hb dX12_street_62 (lv_at hl 4 rfl) ?_
                      refine lv_bipush (v := 12) hx hb dX12_street_64 (by decide) ?_
                      refine lv_icmp_ge (tgt := 198) hx hb dX12_street_66 (by decide) (fun c_53 => ?_) (fun c_53 => ?_)
                      · skip
                        have i_54 : 12 ≤ x_47.toInt ∧ x_47.toInt ≤ 12 := iv_le2 (⟨by decide, by decide⟩ : (12 : Int) ≤ (12 : Int32).toInt ∧ (12 : Int32).toInt ≤ 12) i_x_47 c_53
                        refine lv_iconst (v := 1) hx hb dX12_street_198 (by decide) ?_
                        have z_55 : (1 : Int32).toInt = 1 := by decide
                        exact W.zret (v := 1) hx hb hr (by decide) (fun t ht hW => ⟨⟨1, (fv_46, wd_39, ar_48), rfl, ⟨hF_fv_46, hA_ar_48, (fM_put (fM_call (fM_put (fM_rf [0, 6, 8] _) efv_1 (by decide)) fr_41 (by decide)) efv_46 (by decide)), (fA_call (fA_call (fA_rf [4] _) fa_42 (by decide)) fa_49 (by decide)), (iv_w (⟨by decide, by decide⟩ : (1 : Int) ≤ (1 : Int32).toInt ∧ (1 : Int32).toInt ≤ 1) (by decide) (by decide)), (show ps_street (1 : Int32) (fv_46 6) (fv 6) a b v from by have q_fv_1_33 : (fv_1 33).toInt = (fv 33).toInt := congrArg Int32.toInt ((fM_put (fM_rf [0] _) efv_1 (by decide)) 33 rfl); have q_fv_1_3 : (fv_1 3).toInt = (fv 3).toInt := congrArg Int32.toInt ((fM_put (fM_rf [0] _) efv_1 (by decide)) 3 rfl); have q_fv_1_6 : (fv_1 6).toInt = (fv 6).toInt := congrArg Int32.toInt ((fM_put (fM_rf [0] _) efv_1 (by decide)) 6 rfl); have q_fv_1_34 : (fv_1 34).toInt = (fv 34).toInt := congrArg Int32.toInt ((fM_put (fM_rf [0] _) efv_1 (by decide)) 34 rfl); have q_fv_1_35 : (fv_1 35).toInt = (fv 35).toInt := congrArg Int32.toInt ((fM_put (fM_rf [0] _) efv_1 (by decide)) 35 rfl); have q_fv_1_2 : (fv_1 2).toInt = (fv 2).toInt := congrArg Int32.toInt ((fM_put (fM_rf [0] _) efv_1 (by decide)) 2 rfl); have q_fv_38_33 : (fv_38 33).toInt = (fv 33).toInt := congrArg Int32.toInt ((fM_call (fM_put (fM_rf [0, 8] _) efv_1 (by decide)) fr_41 (by decide)) 33 rfl); have q_fv_38_3 : (fv_38 3).toInt = (fv 3).toInt := congrArg Int32.toInt ((fM_call (fM_put (fM_rf [0, 8] _) efv_1 (by decide)) fr_41 (by decide)) 3 rfl); have q_fv_38_6 : (fv_38 6).toInt = (fv 6).toInt := congrArg Int32.toInt ((fM_call (fM_put (fM_rf [0, 8] _) efv_1 (by decide)) fr_41 (by decide)) 6 rfl); have q_fv_38_34 : (fv_38 34).toInt = (fv 34).toInt := congrArg Int32.toInt ((fM_call (fM_put (fM_rf [0, 8] _) efv_1 (by decide)) fr_41 (by decide)) 34 rfl); have q_fv_38_35 : (fv_38 35).toInt = (fv 35).toInt := congrArg Int32.toInt ((fM_call (fM_put (fM_rf [0, 8] _) efv_1 (by decide)) fr_41 (by decide)) 35 rfl); have q_fv_38_2 : (fv_38 2).toInt = (fv 2).toInt := congrArg Int32.toInt ((fM_call (fM_put (fM_rf [0, 8] _) efv_1 (by decide)) fr_41 (by decide)) 2 rfl); have q_fv_46_33 : (fv_46 33).toInt = (fv 33).toInt := congrArg Int32.toInt ((fM_put (fM_call (fM_put (fM_rf [0, 6, 8] _) efv_1 (by decide)) fr_41 (by decide)) efv_46 (by decide)) 33 rfl); have q_fv_46_3 : (fv_46 3).toInt = (fv 3).toInt := congrArg Int32.toInt ((fM_put (fM_call (fM_put (fM_rf [0, 6, 8] _) efv_1 (by decide)) fr_41 (by decide)) efv_46 (by decide)) 3 rfl); have q_fv_46_34 : (fv_46 34).toInt = (fv 34).toInt := congrArg Int32.toInt ((fM_put (fM_call (fM_put (fM_rf [0, 6, 8] _) efv_1 (by decide)) fr_41 (by decide)) efv_46 (by decide)) 34 rfl); have q_fv_46_35 : (fv_46 35).toInt = (fv 35).toInt := congrArg Int32.toInt ((fM_put (fM_call (fM_put (fM_rf [0, 6, 8] _) efv_1 (by decide)) fr_41 (by decide)) efv_46 (by decide)) 35 rfl); have q_fv_46_2 : (fv_46 2).toInt = (fv 2).toInt := congrArg Int32.toInt ((fM_put (fM_call (fM_put (fM_rf [0, 6, 8] _) efv_1 (by decide)) fr_41 (by decide)) efv_46 (by decide)) 2 rfl); exact Or.inr ⟨rfl, by rw [show fv_46 6 = v_43 from (congrFun efv_46 6)]; omega, by omega⟩), trivial⟩, ⟨by rw [ht]; exact hP, va_K.moved hW.alike hK⟩⟩, hS.F ht⟩) hS.2.2 dX12_street_199
                      · skip
                        have i_56 : 0 ≤ x_47.toInt ∧ x_47.toInt ≤ 11 := iv_lt1 i_x_47 (⟨by decide, by decide⟩ : (12 : Int) ≤ (12 : Int32).toInt ∧ (12 : Int32).toInt ≤ 12) (Int32.not_le.mp c_53)
                        refine lv_iconst (v := 0) hx hb dX12_street_69 (by decide) ?_
                        refine lv_istore (lv' := [(5, .int 0), (0, .ref h), (1, .int a), (2, .int b), (3, .int v), (4, .int x_47)]) hx hb dX12_street_70 hl (by decide) rfl (fun ls hl => ?_)
                        refine my_cut (P := fun R9 a9 Q9 => ∀ (n_60 : Nat) (x_57 : Int32) (ar_58 : Nat → Nat → Int32) (H : Heap) (locs : List Loc) (ls : Array Slot), 12 - x_57.toInt < (n_60 : Int) → (0 ≤ x_57.toInt ∧ x_57.toInt ≤ 12) → rA ar_58 → fA [4] ar_48 ar_58 → va_P (dC, dI) vwCl (wsM h ad cA fv_46 wd_39 ar_58) H → va_S (aM h ad s.heap.size) s.heap H locs → lv_has ls 9 [(0, .ref h), (1, .int a), (2, .int b), (3, .int v), (4, .int x_47), (5, .int x_57)] → W p l e R9 s m a9 below meth c H locs 0 0 Q9 (F0 m 72 ls [])) ?_ (fun hj_62 => ?_)
                        · intro n_60
                          induction n_60 with
                          | zero => intro x_57 ar_58 H locs ls fu_61 i_x_57 hA_ar_58 fa_59; exfalso; omega
                          | succ n_60 ih_60 =>
                            intro x_57 ar_58 H locs ls fu_61 i_x_57 hA_ar_58 fa_59 hP hS hl
                            refine lv_iload hx hb dX12_street_72 (lv_at hl 5 rfl) ?_
                            refine lv_bipush (v := 12) hx hb dX12_street_74 (by decide) ?_
                            refine lv_icmp_ge (tgt := 192) hx hb dX12_street_76 (by decide) (fun c_63 => ?_) (fun c_63 => ?_)
                            · skip
                              have i_64 : 12 ≤ x_57.toInt ∧ x_57.toInt ≤ 12 := iv_le2 (⟨by decide, by decide⟩ : (12 : Int) ≤ (12 : Int32).toInt ∧ (12 : Int32).toInt ≤ 12) i_x_57 c_63
                              obtain ⟨v_118, ev_118⟩ : ∃ z : Int32, z = x_47 + 1 := ⟨_, rfl⟩
                              refine lv_iinc (v := v_118) (lv' := [(4, .int v_118), (0, .ref h), (1, .int a), (2, .int b), (3, .int v), (5, .int x_57)]) hx hb dX12_street_192 hl (k := 4) rfl (by rw [ev_118]; rfl) (by decide) rfl (fun ls hl => ?_)
                              have t_119 : v_118.toInt = x_47.toInt + 1 ∧ 1 ≤ v_118.toInt ∧ v_118.toInt ≤ 12 := iv_addc ev_118 i_56 (by decide) (by decide) (by decide)
                              refine lv_goto (tgt := 62) hx hb dX12_street_195 (by decide) ?_
                              exact ih_50 v_118 ar_58 _ _ ls (by omega) (iv_w t_119.2 (by decide) (by decide)) hA_ar_58 (fA_call (fA_call (fA_rf [4] _) fa_49 (by decide)) fa_59 (by decide)) hP hS (lv_sub hl [1, 2, 3, 4, 0] rfl)
                            · skip
                              have i_65 : 0 ≤ x_57.toInt ∧ x_57.toInt ≤ 11 := iv_lt1 i_x_57 (⟨by decide, by decide⟩ : (12 : Int) ≤ (12 : Int32).toInt ∧ (12 : Int32).toInt ≤ 12) (Int32.not_le.mp c_63)
                              refine lv_aload_n hx hb dX12_street_79 rfl (lv_at hl 0 rfl) ?_
                              refine gM_4 hx hb htg hown hK hP dX12_street_80 ?_
                              refine lv_bipush (v := 12) hx hb dX12_street_83 (by decide) ?_
                              refine lv_iload hx hb dX12_street_85 (lv_at hl 4 rfl) ?_
                              refine lv_imul hx hb dX12_street_87 ?_
                              refine lv_topi (fun v_66 ev_66 => ?_)
                              have t_67 : v_66.toInt = 12 * x_47.toInt ∧ 0 ≤ v_66.toInt ∧ v_66.toInt ≤ 132 := iv_mulc ev_66 i_56 (by decide) (by decide) (by decide) (by decide)
                              refine lv_iload_n hx hb dX12_street_88 rfl (lv_at hl 1 rfl) ?_
                              refine lv_iadd hx hb dX12_street_89 ?_
                              refine lv_topi (fun v_69 ev_69 => ?_)
                              have t_70 : v_69.toInt = v_66.toInt + a.toInt ∧ 0 ≤ v_69.toInt ∧ v_69.toInt ≤ 143 := iv_add ev_69 t_67.2 i_15 (by decide) (by decide)
                              refine lM_4 hx hb hK hP (iv_in t_70.2 (by decide) (by decide)) dX12_street_90 (fun v_72 ev_72 => ?_)
                              refine lv_iload_n hx hb dX12_street_91 rfl (lv_at hl 3 rfl) ?_
                              refine lv_iadd hx hb dX12_street_92 ?_
                              refine lv_topi (fun v_73 ev_73 => ?_)
                              refine lv_aload_n hx hb dX12_street_93 rfl (lv_at hl 0 rfl) ?_
                              refine gM_4 hx hb htg hown hK hP dX12_street_94 ?_
                              refine lv_bipush (v := 12) hx hb dX12_street_97 (by decide) ?_
                              refine lv_iload_n hx hb dX12_street_99 rfl (lv_at hl 2 rfl) ?_
                              refine lv_imul hx hb dX12_street_100 ?_
                              refine lv_topi (fun v_74 ev_74 => ?_)
                              have t_75 : v_74.toInt = 12 * b.toInt ∧ 0 ≤ v_74.toInt ∧ v_74.toInt ≤ 132 := iv_mulc ev_74 i_23 (by decide) (by decide) (by decide) (by decide)
                              refine lv_iload hx hb dX12_street_101 (lv_at hl 5 rfl) ?_
                              refine lv_iadd hx hb dX12_street_103 ?_
                              refine lv_topi (fun v_77 ev_77 => ?_)
                              have t_78 : v_77.toInt = v_74.toInt + x_57.toInt ∧ 0 ≤ v_77.toInt ∧ v_77.toInt ≤ 143 := iv_add ev_77 t_75.2 i_65 (by decide) (by decide)
                              refine lM_4 hx hb hK hP (iv_in t_78.2 (by decide) (by decide)) dX12_street_104 (fun v_80 ev_80 => ?_)
                              refine lv_iadd hx hb dX12_street_105 ?_
                              refine lv_topi (fun v_81 ev_81 => ?_)
                              refine lv_istore (lv' := [(6, .int v_81), (0, .ref h), (1, .int a), (2, .int b), (3, .int v), (4, .int x_47), (5, .int x_57)]) hx hb dX12_street_106 hl (by decide) rfl (fun ls hl => ?_)
                              refine lv_aload_n hx hb dX12_street_108 rfl (lv_at hl 1 rfl) ?_
                              refine gM_4 hx hb htg hown hK hP dX12_street_109 ?_
                              refine lv_bipush (v := 12) hx hb dX12_street_112 (by decide) ?_
                              refine lv_iload hx hb dX12_street_114 (lv_at hl 5 rfl) ?_
                              refine lv_imul hx hb dX12_street_116 ?_
                              refine my_ti (y := v_66) ev_66.symm ?_
                              refine lv_iload_n hx hb dX12_street_117 rfl (lv_at hl 3 rfl) ?_
                              refine lv_iadd hx hb dX12_street_118 ?_
                              refine lv_topi (fun v_82 ev_82 => ?_)
                              have t_83 : v_82.toInt = v_66.toInt + b.toInt ∧ 0 ≤ v_82.toInt ∧ v_82.toInt ≤ 143 := iv_add ev_82 t_67.2 i_23 (by decide) (by decide)
                              refine lM_4 hx hb hK hP (iv_in t_83.2 (by decide) (by decide)) dX12_street_119 (fun v_85 ev_85 => ?_)
                              refine lv_iload_n hx hb dX12_street_120 rfl (lv_at hl 4 rfl) ?_
                              refine lv_iadd hx hb dX12_street_121 ?_
                              refine lv_topi (fun v_86 ev_86 => ?_)
                              refine lv_aload_n hx hb dX12_street_122 rfl (lv_at hl 1 rfl) ?_
                              refine gM_4 hx hb htg hown hK hP dX12_street_123 ?_
                              refine lv_bipush (v := 12) hx hb dX12_street_126 (by decide) ?_
                              refine lv_iload_n hx hb dX12_street_128 rfl (lv_at hl 2 rfl) ?_
                              refine lv_imul hx hb dX12_street_129 ?_
                              refine lv_topi (fun v_87 ev_87 => ?_)
                              have t_88 : v_87.toInt = 12 * a.toInt ∧ 0 ≤ v_87.toInt ∧ v_87.toInt ≤ 132 := iv_mulc ev_87 i_15 (by decide) (by decide) (by decide) (by decide)
                              refine lv_iload hx hb dX12_street_130 (lv_at hl 6 rfl) ?_
                              refine lv_iadd hx hb dX12_street_132 ?_
                              refine lv_topi (fun v_90 ev_90 => ?_)
                              have t_91 : v_90.toInt = v_87.toInt + x_57.toInt ∧ 0 ≤ v_90.toInt ∧ v_90.toInt ≤ 143 := iv_add ev_90 t_88.2 i_65 (by decide) (by decide)
                              refine lM_4 hx hb hK hP (iv_in t_91.2 (by decide) (by decide)) dX12_street_133 (fun v_93 ev_93 => ?_)
                              refine lv_iadd hx hb dX12_street_134 ?_
                              refine lv_topi (fun v_94 ev_94 => ?_)
                              refine lv_istore (lv' := [(7, .int v_94), (6, .int v_81), (0, .ref h), (1, .int a), (2, .int b), (3, .int v), (4, .int x_47), (5, .int x_57)]) hx hb dX12_street_135 hl (by decide) rfl (fun ls hl => ?_)
                              refine lv_iload hx hb dX12_street_137 (lv_at hl 1 rfl) ?_
                              refine lv_iload hx hb dX12_street_139 (lv_at hl 0 rfl) ?_
                              refine my_cut (P := fun R9 a9 Q9 => ∀ (x_100 : Int32) (H : Heap) (locs : List Loc) (ls : Array Slot), va_P (dC, dI) vwCl (wsM h ad cA fv_46 wd_39 ar_58) H → va_S (aM h ad s.heap.size) s.heap H locs → lv_has ls 9 [(0, .ref h), (1, .int a), (2, .int b), (3, .int v), (4, .int x_47), (5, .int x_57)] → W p l e R9 s m a9 below meth c H locs 0 0 Q9 (F0 m 151 ls [.int x_100])) ?_ (fun hj_101 => ?_)
                              · intro x_100 H locs ls  hP hS hl
                                refine lv_istore (lv' := [(8, .int x_100), (0, .ref h), (1, .int a), (2, .int b), (3, .int v), (4, .int x_47), (5, .int x_57)]) hx hb dX12_street_151 hl (by decide) rfl (fun ls hl => ?_)
                                refine lv_iload hx hb dX12_street_153 (lv_at hl 0 rfl) ?_
                                refine lv_aload_n hx hb dX12_street_155 rfl (lv_at hl 1 rfl) ?_
                                refine gM_4 hx hb htg hown hK hP dX12_street_156 ?_
                                refine lv_bipush (v := 12) hx hb dX12_street_159 (by decide) ?_
                                refine lv_iload hx hb dX12_street_161 (lv_at hl 5 rfl) ?_
                                refine lv_imul hx hb dX12_street_163 ?_
                                refine my_ti (y := v_66) ev_66.symm ?_
                                refine lv_iload hx hb dX12_street_164 (lv_at hl 6 rfl) ?_
                                refine lv_iadd hx hb dX12_street_166 ?_
                                refine lv_topi (fun v_102 ev_102 => ?_)
                                have t_103 : v_102.toInt = v_66.toInt + x_57.toInt ∧ 0 ≤ v_102.toInt ∧ v_102.toInt ≤ 143 := iv_add ev_102 t_67.2 i_65 (by decide) (by decide)
                                refine lM_4 hx hb hK hP (iv_in t_103.2 (by decide) (by decide)) dX12_street_167 (fun v_105 ev_105 => ?_)
                                refine my_cut (P := fun R9 a9 Q9 => ∀ (ar_112 : Nat → Nat → Int32) (H : Heap) (locs : List Loc) (ls : Array Slot), rA ar_112 → fA [4] ar_58 ar_112 → va_P (dC, dI) vwCl (wsM h ad cA fv_46 wd_39 ar_112) H → va_S (aM h ad s.heap.size) s.heap H locs → lv_has ls 9 [(0, .ref h), (1, .int a), (2, .int b), (3, .int v), (4, .int x_47), (5, .int x_57)] → W p l e R9 s m a9 below meth c H locs 0 0 Q9 (F0 m 186 ls [])) ?_ (fun hj_114 => ?_)
                                · intro ar_112 H locs ls hA_ar_112 fa_113 hP hS hl
                                  obtain ⟨v_115, ev_115⟩ : ∃ z : Int32, z = x_57 + 1 := ⟨_, rfl⟩
                                  refine lv_iinc (v := v_115) (lv' := [(5, .int v_115), (0, .ref h), (1, .int a), (2, .int b), (3, .int v), (4, .int x_47)]) hx hb dX12_street_186 hl (k := 5) rfl (by rw [ev_115]; rfl) (by decide) rfl (fun ls hl => ?_)
                                  have t_116 : v_115.toInt = x_57.toInt + 1 ∧ 1 ≤ v_115.toInt ∧ v_115.toInt ≤ 12 := iv_addc ev_115 i_65 (by decide) (by decide) (by decide)
                                  refine lv_goto (tgt := 72) hx hb dX12_street_189 (by decide) ?_
                                  exact ih_60 v_115 ar_112 _ _ ls (by omega) (iv_w t_116.2 (by decide) (by decide)) hA_ar_112 (fA_call (fA_call (fA_rf [4] _) fa_59 (by decide)) fa_113 (by decide)) hP hS (lv_sub hl [1, 2, 3, 4, 5, 0] rfl)
                                · skip
                                  refine lv_icmp_ge (tgt := 186) hx hb dX12_street_168 (by decide) (fun c_106 => ?_) (fun c_106 => ?_)
                                  · skip
                                    have k_107 := Int32.le_iff_toInt_le.mp c_106
                                    exact hj_114 ar_58 _ _ ls hA_ar_58 (fA_rf [4] _) hP hS (lv_sub hl [1, 2, 3, 4, 5, 6] rfl)
                                  · skip
                                    have i_108 : (-2147483648) ≤ x_100.toInt ∧ x_100.toInt ≤ 2147483646 := iv_lt1 (iv_any x_100) (iv_any v_105) (Int32.not_le.mp c_106)
                                    have i_109 : (-2147483647) ≤ v_105.toInt ∧ v_105.toInt ≤ 2147483647 := iv_lt2 (iv_any x_100) (iv_any v_105) (Int32.not_le.mp c_106)
                                    have k_110 := Int32.lt_iff_toInt_lt.mp (Int32.not_le.mp c_106)
                                    refine lv_aload_n hx hb dX12_street_171 rfl (lv_at hl 1 rfl) ?_
                                    refine gM_4 hx hb htg hown hK hP dX12_street_172 ?_
                                    refine lv_bipush (v := 12) hx hb dX12_street_175 (by decide) ?_
                                    refine lv_iload hx hb dX12_street_177 (lv_at hl 5 rfl) ?_
                                    refine lv_imul hx hb dX12_street_179 ?_
                                    refine my_ti (y := v_66) ev_66.symm ?_
                                    refine lv_iload hx hb dX12_street_180 (lv_at hl 6 rfl) ?_
                                    refine lv_iadd hx hb dX12_street_182 ?_
                                    refine my_ti (y := v_102) ev_102.symm ?_
                                    refine lv_iload hx hb dX12_street_183 (lv_at hl 0 rfl) ?_
                                    refine sM_4 hx hb hK hP hS hd (iv_in t_103.2 (by decide) (by decide)) dX12_street_185 (fun H locs ar_111 ear_111 hP hS => ?_)
                                    have hA_ar_111 : rA ar_111 := rA_put hA_ar_58 ear_111 (iv_any _)
                                    exact hj_114 ar_111 _ _ ls hA_ar_111 (fA_put (fA_rf [4] _) ear_111 (by decide)) hP hS (lv_sub hl [1, 2, 3, 4, 5, 6] rfl)
                              · skip
                                refine lv_icmp_ge (tgt := 149) hx hb dX12_street_141 (by decide) (fun c_95 => ?_) (fun c_95 => ?_)
                                · skip
                                  have k_96 := Int32.le_iff_toInt_le.mp c_95
                                  refine lv_iload hx hb dX12_street_149 (lv_at hl 0 rfl) ?_
                                  exact hj_101 v_94 _ _ ls  hP hS (lv_sub hl [2, 3, 4, 5, 6, 7] rfl)
                                · skip
                                  have i_97 : (-2147483648) ≤ v_81.toInt ∧ v_81.toInt ≤ 2147483646 := iv_lt1 (iv_any v_81) (iv_any v_94) (Int32.not_le.mp c_95)
                                  have i_98 : (-2147483647) ≤ v_94.toInt ∧ v_94.toInt ≤ 2147483647 := iv_lt2 (iv_any v_81) (iv_any v_94) (Int32.not_le.mp c_95)
                                  have k_99 := Int32.lt_iff_toInt_lt.mp (Int32.not_le.mp c_95)
                                  refine lv_iload hx hb dX12_street_144 (lv_at hl 1 rfl) ?_
                                  refine lv_goto (tgt := 151) hx hb dX12_street_146 (by decide) ?_
                                  exact hj_101 v_81 _ _ ls  hP hS (lv_sub hl [2, 3, 4, 5, 6, 7] rfl)
                        · skip
                          have z_121 : (0 : Int32).toInt = 0 := by decide
                          exact hj_62 13 0 ar_48 _ _ ls (by first | decide | omega) (iv_w (⟨by decide, by decide⟩ : (0 : Int) ≤ (0 : Int32).toInt ∧ (0 : Int32).toInt ≤ 0) (by decide) (by decide)) hA_ar_48 (fA_rf [4] _) hP hS (lv_sub hl [1, 2, 3, 4, 5, 0] rfl)
                  · skip
                    have z_122 : (0 : Int32).toInt = 0 := by decide
                    exact hj_52 13 0 ar_40 _ _ ls (by first | decide | omega) (iv_w (⟨by decide, by decide⟩ : (0 : Int) ≤ (0 : Int32).toInt ∧ (0 : Int32).toInt ≤ 0) (by decide) (by decide)) hA_ar_40 (fA_rf [4] _) hP hS (lv_sub hl [1, 2, 3, 4, 0] rfl)
                · skip
                  exact absurd c_36 (by decide)
set_option maxHeartbeats 4000000 in
set_option maxRecDepth 100000 in
theorem m_insureE (l : Launch) (dC : Nat → ClassId) (dI : Nat → Nat → Nat) (sz h : Nat) (ad : Nat → Nat) (cA : Nat → ClassId) (hd : dM h ad) (fv : Nat → Int32) (wd : Int64) (ar : Nat → Nat → Int32) (hF_fv : rF fv) (hA_ar : rA ar) (a : Int32) (b : Int32) : Met l yX12_insure (.code yX12_insure cX12_insure 3 (some .boolean) :: lw_good) ({ frames := 3, cells := 0, slots := 0, locals := 62 }) (va_Pc [.ref h, .int a, .int b] (prM dC dI h ad cA fv wd ar sz)) (va_Qi (fun (r : Int32) (u : mS) => rF u.1 ∧ rA u.2.2 ∧ fM [0] fv u.1 ∧ fA [23] ar u.2.2 ∧ (0 ≤ r.toInt ∧ r.toInt ≤ 1) ∧ (ps_insure r (fv 34) a b) ∧ True) (enM dC dI h ad cA) (aM h ad sz)) 0 0 (aM h ad sz) := by
  refine Met.ofW (cc := cX12_insure) (maxL := 3) (ret := (some .boolean)) (by decide) rfl ?_
  intro p e s m args below meth c s₁ B hml hv
  obtain ⟨rfl, hsz, hP, hK⟩ := hv
  have hx := B.exec
  have hb := B.bytes
  have hr := B.returns
  have hts := atoms_spec (ws := (.code yX12_insure cX12_insure 3 (some .boolean) :: lw_good)) B.pre
  have htg : ∀ w ∈ lw_good, w.before _ s = true := fun w hw => hts w (List.mem_cons_of_mem _ hw)
  have hown : s.vm.findClass RX12 = some m.cls := findClass_of_methodNamed B.named
  have hlocks := B.notSynchronized
  subst hsz
  have hS : va_S (aM h ad s.heap.size) s.heap s.heap [] := va_S.rf
  have hl := lv_entry ([.ref h, .int a, .int b]) (n := 3) (Nat.le_of_ble_eq_true rfl)
  rw [lg_entry_eq]
  generalize (lg_sl ([.ref h, .int a, .int b]) ++ List.replicate (3 - (lg_sl ([.ref h, .int a, .int b])).length) Slot.unset).toArray = ls at hl ⊢
  have hl : lv_has ls 3 [(0, .ref h), (1, .int a), (2, .int b)] := hl
  have zc0 : (0 : Int32).toInt = 0 := by decide
  have zc1 : (1 : Int32).toInt = 1 := by decide
  have zc2 : (2 : Int32).toInt = 2 := by decide
  have zc9 : (9 : Int32).toInt = 9 := by decide
  have zc11 : (11 : Int32).toInt = 11 := by decide
  have zc12 : (12 : Int32).toInt = 12 := by decide
  have zc19 : (19 : Int32).toInt = 19 := by decide
  have zc99 : (99 : Int32).toInt = 99 := by decide
  have zc199 : (199 : Int32).toInt = 199 := by decide
  have zc719 : (719 : Int32).toInt = 719 := by decide
  have zc20 : (20 : Int32).toInt = 20 := by decide
  have zc340 : (340 : Int32).toInt = 340 := by decide
  have zcm1 : ((-1) : Int32).toInt = (-1) := by decide
  refine lv_aload_n hx hb dX12_insure_0 rfl (lv_at hl 0 rfl) ?_
  refine lv_iconst (v := 0) hx hb dX12_insure_1 (by decide) ?_
  refine pM_0 hx hb htg hown hK hP hS hd dX12_insure_2 (fun H locs fv_1 efv_1 hP hS => ?_)
  have hF_fv_1 : rF fv_1 := rF_put hF_fv efv_1 (iv_any _)
  refine lv_aload_n hx hb dX12_insure_5 rfl (lv_at hl 0 rfl) ?_
  refine lv_iload_n hx hb dX12_insure_6 rfl (lv_at hl 1 rfl) ?_
  refine va_calli (va_runV (As := [.int a]) (rest := []) ⟨hx, hb, hml, hown, hts⟩ (m_isWheelE l dC dI H.size h ad cA hd fv_1 wd ar hF_fv_1 hA_ar a) (cwV 1 hts (gV kw_8_40 kw_8_42 kw_p_63 kw_1_15 kw_8_43) rfl rfl rfl (by decide +kernel) ⟨Nat.le_of_ble_eq_true rfl, Nat.le_of_ble_eq_true rfl⟩) ⟨fun a U g mk q => ⟨q.1, q.2.1, q.2.2.1, va_K.moved (u := U) (U := U.calling g mk a) (Vm.Alike.refl U.vm) q.2.2.2⟩, va_recv hK hP (ci := 12) (q0 := 0) rfl rfl, fun U hU hW => ⟨rfl, by rw [hU], by rw [hU]; exact hP, va_K.moved hW.alike hK⟩⟩ rfl rfl hl.1 rfl (lv_room (Nat.le_of_ble_eq_true rfl)) dX12_insure_7 ⟨Nat.le_of_ble_eq_true rfl, Nat.le_of_ble_eq_true rfl⟩) hS (fun q _ h9 => aM_up hS q h9) (aM_up hS) (fun r_2 u t H1 locs ht _ hw hB _ hk1 hS => ?_)
  obtain ⟨fv_5, wd_6, ar_7⟩ := u
  obtain ⟨hF_fv_5, hA_ar_7, fr_8, fa_9, p_3, p_4, -⟩ := hw
  have hP : va_P (dC, dI) vwCl (wsM h ad cA fv_5 wd_6 ar_7) H1 := by have h9 := hB.1; rw [ht] at h9; exact h9
  have fr_8 : fM [] fv_1 fv_5 := fr_8
  have fa_9 : fA [] ar ar_7 := fa_9
  generalize H1 = H at hP hS ⊢
  rcases p_4 with ⟨rfl, p_4⟩ | ⟨rfl, p_4⟩
  · skip
    have q_10 : a.toInt < 0 ∨ (fv_1 34).toInt ≤ a.toInt := p_4
    refine lv_if_eq (tgt := 24) hx hb dX12_insure_10 (by decide) (fun c_11 => ?_) (fun c_11 => ?_)
    · skip
      refine lv_iconst (v := 0) hx hb dX12_insure_24 (by decide) ?_
      have z_12 : (0 : Int32).toInt = 0 := by decide
      exact W.zret (v := 0) hx hb hr (by decide) (fun t ht hW => ⟨⟨0, (fv_5, wd_6, ar_7), rfl, ⟨hF_fv_5, hA_ar_7, (fM_call (fM_put (fM_rf [0] _) efv_1 (by decide)) fr_8 (by decide)), (fA_call (fA_rf [23] _) fa_9 (by decide)), (iv_w (⟨by decide, by decide⟩ : (0 : Int) ≤ (0 : Int32).toInt ∧ (0 : Int32).toInt ≤ 0) (by decide) (by decide)), (show ps_insure (0 : Int32) (fv 34) a b from by have q_fv_1_33 : (fv_1 33).toInt = (fv 33).toInt := congrArg Int32.toInt ((fM_put (fM_rf [0] _) efv_1 (by decide)) 33 rfl); have q_fv_1_3 : (fv_1 3).toInt = (fv 3).toInt := congrArg Int32.toInt ((fM_put (fM_rf [0] _) efv_1 (by decide)) 3 rfl); have q_fv_1_6 : (fv_1 6).toInt = (fv 6).toInt := congrArg Int32.toInt ((fM_put (fM_rf [0] _) efv_1 (by decide)) 6 rfl); have q_fv_1_34 : (fv_1 34).toInt = (fv 34).toInt := congrArg Int32.toInt ((fM_put (fM_rf [0] _) efv_1 (by decide)) 34 rfl); have q_fv_1_35 : (fv_1 35).toInt = (fv 35).toInt := congrArg Int32.toInt ((fM_put (fM_rf [0] _) efv_1 (by decide)) 35 rfl); have q_fv_1_2 : (fv_1 2).toInt = (fv 2).toInt := congrArg Int32.toInt ((fM_put (fM_rf [0] _) efv_1 (by decide)) 2 rfl); have q_fv_5_33 : (fv_5 33).toInt = (fv 33).toInt := congrArg Int32.toInt ((fM_call (fM_put (fM_rf [0] _) efv_1 (by decide)) fr_8 (by decide)) 33 rfl); have q_fv_5_3 : (fv_5 3).toInt = (fv 3).toInt := congrArg Int32.toInt ((fM_call (fM_put (fM_rf [0] _) efv_1 (by decide)) fr_8 (by decide)) 3 rfl); have q_fv_5_6 : (fv_5 6).toInt = (fv 6).toInt := congrArg Int32.toInt ((fM_call (fM_put (fM_rf [0] _) efv_1 (by decide)) fr_8 (by decide)) 6 rfl); have q_fv_5_34 : (fv_5 34).toInt = (fv 34).toInt := congrArg Int32.toInt ((fM_call (fM_put (fM_rf [0] _) efv_1 (by decide)) fr_8 (by decide)) 34 rfl); have q_fv_5_35 : (fv_5 35).toInt = (fv 35).toInt := congrArg Int32.toInt ((fM_call (fM_put (fM_rf [0] _) efv_1 (by decide)) fr_8 (by decide)) 35 rfl); have q_fv_5_2 : (fv_5 2).toInt = (fv 2).toInt := congrArg Int32.toInt ((fM_call (fM_put (fM_rf [0] _) efv_1 (by decide)) fr_8 (by decide)) 2 rfl); exact Or.inl ⟨rfl, by omega⟩), trivial⟩, ⟨by rw [ht]; exact hP, va_K.moved hW.alike hK⟩⟩, hS.F ht⟩) hS.2.2 dX12_insure_25
    · skip
      exact absurd c_11 (by decide)
  · skip
    have i_13 : 0 ≤ a.toInt ∧ a.toInt ≤ 2147483647 := ⟨p_4.1, (iv_any a).2⟩
    have i_14 : 0 ≤ a.toInt ∧ a.toInt ≤ 19 := ⟨i_13.1, p_4.2.1⟩
    have q_15 : a.toInt < (fv_1 34).toInt := p_4.2.2
    refine lv_if_eq (tgt := 24) hx hb dX12_insure_10 (by decide) (fun c_16 => ?_) (fun c_16 => ?_)
    · skip
      exact absurd c_16 (by decide)
    · skip
      refine lv_iload_n hx hb dX12_insure_13 rfl (lv_at hl 2 rfl) ?_
      refine lv_iconst (v := (-1)) hx hb dX12_insure_14 (by decide) ?_
      refine lv_sipush (v := 199) hx hb dX12_insure_15 (by decide) ?_
      refine va_calli (va_runS (As := [.int b, .int (-1), .int 199]) (rest := []) ⟨hx, hb, hml, hown, hts⟩ (m_isIn l H.size b (-1) 199) (va_cwS 3 hts (gS kw_7_218 kw_7_219 kw_1_15 kw_7_220) rfl rfl rfl (by decide +kernel) ⟨Nat.le_of_ble_eq_true rfl, Nat.le_of_ble_eq_true rfl⟩) ⟨fun a U g mk q => ⟨q.1, q.2⟩, fun U hU hW => ⟨rfl, congrArg Array.size hU⟩⟩ rfl rfl hl.1 rfl (lv_room (Nat.le_of_ble_eq_true rfl)) dX12_insure_18 ⟨Nat.le_of_ble_eq_true rfl, Nat.le_of_ble_eq_true rfl⟩) hS (fun q _ h9 => nM_up hS q h9) (nM_up hS) (fun r_17 u t H1 locs ht _ hw hB _ hk1 hS => ?_)
      obtain ⟨p_18, p_19, -⟩ := hw
      have hP := my_keepM hP hk1
      generalize H1 = H at hP hS ⊢
      rcases p_19 with ⟨rfl, p_19⟩ | ⟨rfl, p_19⟩
      · skip
        refine lv_if_ne (tgt := 26) hx hb dX12_insure_21 (by decide) (fun c_20 => ?_) (fun c_20 => ?_)
        · skip
          exact absurd c_20 (by decide)
        · skip
          refine lv_iconst (v := 0) hx hb dX12_insure_24 (by decide) ?_
          have z_21 : (0 : Int32).toInt = 0 := by decide
          exact W.zret (v := 0) hx hb hr (by decide) (fun t ht hW => ⟨⟨0, (fv_5, wd_6, ar_7), rfl, ⟨hF_fv_5, hA_ar_7, (fM_call (fM_put (fM_rf [0] _) efv_1 (by decide)) fr_8 (by decide)), (fA_call (fA_rf [23] _) fa_9 (by decide)), (iv_w (⟨by decide, by decide⟩ : (0 : Int) ≤ (0 : Int32).toInt ∧ (0 : Int32).toInt ≤ 0) (by decide) (by decide)), (show ps_insure (0 : Int32) (fv 34) a b from by have q_fv_1_33 : (fv_1 33).toInt = (fv 33).toInt := congrArg Int32.toInt ((fM_put (fM_rf [0] _) efv_1 (by decide)) 33 rfl); have q_fv_1_3 : (fv_1 3).toInt = (fv 3).toInt := congrArg Int32.toInt ((fM_put (fM_rf [0] _) efv_1 (by decide)) 3 rfl); have q_fv_1_6 : (fv_1 6).toInt = (fv 6).toInt := congrArg Int32.toInt ((fM_put (fM_rf [0] _) efv_1 (by decide)) 6 rfl); have q_fv_1_34 : (fv_1 34).toInt = (fv 34).toInt := congrArg Int32.toInt ((fM_put (fM_rf [0] _) efv_1 (by decide)) 34 rfl); have q_fv_1_35 : (fv_1 35).toInt = (fv 35).toInt := congrArg Int32.toInt ((fM_put (fM_rf [0] _) efv_1 (by decide)) 35 rfl); have q_fv_1_2 : (fv_1 2).toInt = (fv 2).toInt := congrArg Int32.toInt ((fM_put (fM_rf [0] _) efv_1 (by decide)) 2 rfl); have q_fv_5_33 : (fv_5 33).toInt = (fv 33).toInt := congrArg Int32.toInt ((fM_call (fM_put (fM_rf [0] _) efv_1 (by decide)) fr_8 (by decide)) 33 rfl); have q_fv_5_3 : (fv_5 3).toInt = (fv 3).toInt := congrArg Int32.toInt ((fM_call (fM_put (fM_rf [0] _) efv_1 (by decide)) fr_8 (by decide)) 3 rfl); have q_fv_5_6 : (fv_5 6).toInt = (fv 6).toInt := congrArg Int32.toInt ((fM_call (fM_put (fM_rf [0] _) efv_1 (by decide)) fr_8 (by decide)) 6 rfl); have q_fv_5_34 : (fv_5 34).toInt = (fv 34).toInt := congrArg Int32.toInt ((fM_call (fM_put (fM_rf [0] _) efv_1 (by decide)) fr_8 (by decide)) 34 rfl); have q_fv_5_35 : (fv_5 35).toInt = (fv 35).toInt := congrArg Int32.toInt ((fM_call (fM_put (fM_rf [0] _) efv_1 (by decide)) fr_8 (by decide)) 35 rfl); have q_fv_5_2 : (fv_5 2).toInt = (fv 2).toInt := congrArg Int32.toInt ((fM_call (fM_put (fM_rf [0] _) efv_1 (by decide)) fr_8 (by decide)) 2 rfl); exact Or.inl ⟨rfl, by omega⟩), trivial⟩, ⟨by rw [ht]; exact hP, va_K.moved hW.alike hK⟩⟩, hS.F ht⟩) hS.2.2 dX12_insure_25
      · skip
        have i_22 : (-1) ≤ b.toInt ∧ b.toInt ≤ 2147483647 := iv_le2 (⟨by decide, by decide⟩ : (-1 : Int) ≤ ((-1) : Int32).toInt ∧ ((-1) : Int32).toInt ≤ -1) (iv_any b) (Int32.le_iff_toInt_le.mpr p_19.1)
        have i_23 : (-1) ≤ b.toInt ∧ b.toInt ≤ 199 := iv_le1 i_22 (⟨by decide, by decide⟩ : (199 : Int) ≤ (199 : Int32).toInt ∧ (199 : Int32).toInt ≤ 199) (Int32.le_iff_toInt_le.mpr p_19.2)
        refine lv_if_ne (tgt := 26) hx hb dX12_insure_21 (by decide) (fun c_24 => ?_) (fun c_24 => ?_)
        · skip
          refine lv_aload_n hx hb dX12_insure_26 rfl (lv_at hl 0 rfl) ?_
          refine gM_23 hx hb htg hown hK hP dX12_insure_27 ?_
          refine lv_iload_n hx hb dX12_insure_30 rfl (lv_at hl 1 rfl) ?_
          refine lv_iload_n hx hb dX12_insure_31 rfl (lv_at hl 2 rfl) ?_
          refine sM_23 hx hb hK hP hS hd (iv_in i_14 (by decide) (by decide)) dX12_insure_32 (fun H locs ar_25 ear_25 hP hS => ?_)
          have hA_ar_25 : rA ar_25 := rA_put hA_ar_7 ear_25 (iv_any _)
          refine lv_iconst (v := 1) hx hb dX12_insure_33 (by decide) ?_
          have z_26 : (1 : Int32).toInt = 1 := by decide
          exact W.zret (v := 1) hx hb hr (by decide) (fun t ht hW => ⟨⟨1, (fv_5, wd_6, ar_25), rfl, ⟨hF_fv_5, hA_ar_25, (fM_call (fM_put (fM_rf [0] _) efv_1 (by decide)) fr_8 (by decide)), (fA_put (fA_call (fA_rf [23] _) fa_9 (by decide)) ear_25 (by decide)), (iv_w (⟨by decide, by decide⟩ : (1 : Int) ≤ (1 : Int32).toInt ∧ (1 : Int32).toInt ≤ 1) (by decide) (by decide)), (show ps_insure (1 : Int32) (fv 34) a b from by have q_fv_1_33 : (fv_1 33).toInt = (fv 33).toInt := congrArg Int32.toInt ((fM_put (fM_rf [0] _) efv_1 (by decide)) 33 rfl); have q_fv_1_3 : (fv_1 3).toInt = (fv 3).toInt := congrArg Int32.toInt ((fM_put (fM_rf [0] _) efv_1 (by decide)) 3 rfl); have q_fv_1_6 : (fv_1 6).toInt = (fv 6).toInt := congrArg Int32.toInt ((fM_put (fM_rf [0] _) efv_1 (by decide)) 6 rfl); have q_fv_1_34 : (fv_1 34).toInt = (fv 34).toInt := congrArg Int32.toInt ((fM_put (fM_rf [0] _) efv_1 (by decide)) 34 rfl); have q_fv_1_35 : (fv_1 35).toInt = (fv 35).toInt := congrArg Int32.toInt ((fM_put (fM_rf [0] _) efv_1 (by decide)) 35 rfl); have q_fv_1_2 : (fv_1 2).toInt = (fv 2).toInt := congrArg Int32.toInt ((fM_put (fM_rf [0] _) efv_1 (by decide)) 2 rfl); have q_fv_5_33 : (fv_5 33).toInt = (fv 33).toInt := congrArg Int32.toInt ((fM_call (fM_put (fM_rf [0] _) efv_1 (by decide)) fr_8 (by decide)) 33 rfl); have q_fv_5_3 : (fv_5 3).toInt = (fv 3).toInt := congrArg Int32.toInt ((fM_call (fM_put (fM_rf [0] _) efv_1 (by decide)) fr_8 (by decide)) 3 rfl); have q_fv_5_6 : (fv_5 6).toInt = (fv 6).toInt := congrArg Int32.toInt ((fM_call (fM_put (fM_rf [0] _) efv_1 (by decide)) fr_8 (by decide)) 6 rfl); have q_fv_5_34 : (fv_5 34).toInt = (fv 34).toInt := congrArg Int32.toInt ((fM_call (fM_put (fM_rf [0] _) efv_1 (by decide)) fr_8 (by decide)) 34 rfl); have q_fv_5_35 : (fv_5 35).toInt = (fv 35).toInt := congrArg Int32.toInt ((fM_call (fM_put (fM_rf [0] _) efv_1 (by decide)) fr_8 (by decide)) 35 rfl); have q_fv_5_2 : (fv_5 2).toInt = (fv 2).toInt := congrArg Int32.toInt ((fM_call (fM_put (fM_rf [0] _) efv_1 (by decide)) fr_8 (by decide)) 2 rfl); exact Or.inr ⟨rfl, by omega⟩), trivial⟩, ⟨by rw [ht]; exact hP, va_K.moved hW.alike hK⟩⟩, hS.F ht⟩) hS.2.2 dX12_insure_34
        · skip
          exact absurd c_24 (by decide)
set_option maxHeartbeats 4000000 in
set_option maxRecDepth 100000 in
theorem m_endE (l : Launch) (dC : Nat → ClassId) (dI : Nat → Nat → Nat) (sz h : Nat) (ad : Nat → Nat) (cA : Nat → ClassId) (hd : dM h ad) (fv : Nat → Int32) (wd : Int64) (ar : Nat → Nat → Int32) (hF_fv : rF fv) (hA_ar : rA ar) (n : Int32) : Met l yX12_end (.code yX12_end cX12_end 2 (some .boolean) :: lw_good) ({ frames := 2, cells := 0, slots := 0, locals := 40 }) (va_Pc [.ref h, .int n] (prM dC dI h ad cA fv wd ar sz)) (va_Qi (fun (r : Int32) (u : mS) => rF u.1 ∧ rA u.2.2 ∧ fM [0, 2] fv u.1 ∧ fA [] ar u.2.2 ∧ (0 ≤ r.toInt ∧ r.toInt ≤ 1) ∧ (ps_end r (u.1 2) (fv 2) n) ∧ True) (enM dC dI h ad cA) (aM h ad sz)) 0 0 (aM h ad sz) := by
  refine Met.ofW (cc := cX12_end) (maxL := 2) (ret := (some .boolean)) (by decide) rfl ?_
  intro p e s m args below meth c s₁ B hml hv
  obtain ⟨rfl, hsz, hP, hK⟩ := hv
  have hx := B.exec
  have hb := B.bytes
  have hr := B.returns
  have hts := atoms_spec (ws := (.code yX12_end cX12_end 2 (some .boolean) :: lw_good)) B.pre
  have htg : ∀ w ∈ lw_good, w.before _ s = true := fun w hw => hts w (List.mem_cons_of_mem _ hw)
  have hown : s.vm.findClass RX12 = some m.cls := findClass_of_methodNamed B.named
  have hlocks := B.notSynchronized
  subst hsz
  have hS : va_S (aM h ad s.heap.size) s.heap s.heap [] := va_S.rf
  have hl := lv_entry ([.ref h, .int n]) (n := 2) (Nat.le_of_ble_eq_true rfl)
  rw [lg_entry_eq]
  generalize (lg_sl ([.ref h, .int n]) ++ List.replicate (2 - (lg_sl ([.ref h, .int n])).length) Slot.unset).toArray = ls at hl ⊢
  have hl : lv_has ls 2 [(0, .ref h), (1, .int n)] := hl
  have zc0 : (0 : Int32).toInt = 0 := by decide
  have zc1 : (1 : Int32).toInt = 1 := by decide
  have zc2 : (2 : Int32).toInt = 2 := by decide
  have zc9 : (9 : Int32).toInt = 9 := by decide
  have zc11 : (11 : Int32).toInt = 11 := by decide
  have zc12 : (12 : Int32).toInt = 12 := by decide
  have zc19 : (19 : Int32).toInt = 19 := by decide
  have zc99 : (99 : Int32).toInt = 99 := by decide
  have zc199 : (199 : Int32).toInt = 199 := by decide
  have zc719 : (719 : Int32).toInt = 719 := by decide
  have zc20 : (20 : Int32).toInt = 20 := by decide
  have zc340 : (340 : Int32).toInt = 340 := by decide
  have zcm1 : ((-1) : Int32).toInt = (-1) := by decide
  refine lv_aload_n hx hb dX12_end_0 rfl (lv_at hl 0 rfl) ?_
  refine lv_iconst (v := 0) hx hb dX12_end_1 (by decide) ?_
  refine pM_0 hx hb htg hown hK hP hS hd dX12_end_2 (fun H locs fv_1 efv_1 hP hS => ?_)
  have hF_fv_1 : rF fv_1 := rF_put hF_fv efv_1 (iv_any _)
  refine lv_iload_n hx hb dX12_end_5 rfl (lv_at hl 1 rfl) ?_
  refine lv_if_lt (tgt := 17) hx hb dX12_end_6 (by decide) (fun c_2 => ?_) (fun c_2 => ?_)
  · skip
    have i_3 : (-2147483648) ≤ n.toInt ∧ n.toInt ≤ (-1) := iv_lt1 (iv_any n) (⟨by decide, by decide⟩ : (0 : Int) ≤ (0 : Int32).toInt ∧ (0 : Int32).toInt ≤ 0) c_2
    refine lv_iconst (v := 0) hx hb dX12_end_17 (by decide) ?_
    have z_4 : (0 : Int32).toInt = 0 := by decide
    exact W.zret (v := 0) hx hb hr (by decide) (fun t ht hW => ⟨⟨0, (fv_1, wd, ar), rfl, ⟨hF_fv_1, hA_ar, (fM_put (fM_rf [0, 2] _) efv_1 (by decide)), (fA_rf [] _), (iv_w (⟨by decide, by decide⟩ : (0 : Int) ≤ (0 : Int32).toInt ∧ (0 : Int32).toInt ≤ 0) (by decide) (by decide)), (show ps_end (0 : Int32) (fv_1 2) (fv 2) n from by have q_fv_1_33 : (fv_1 33).toInt = (fv 33).toInt := congrArg Int32.toInt ((fM_put (fM_rf [0] _) efv_1 (by decide)) 33 rfl); have q_fv_1_3 : (fv_1 3).toInt = (fv 3).toInt := congrArg Int32.toInt ((fM_put (fM_rf [0] _) efv_1 (by decide)) 3 rfl); have q_fv_1_6 : (fv_1 6).toInt = (fv 6).toInt := congrArg Int32.toInt ((fM_put (fM_rf [0] _) efv_1 (by decide)) 6 rfl); have q_fv_1_34 : (fv_1 34).toInt = (fv 34).toInt := congrArg Int32.toInt ((fM_put (fM_rf [0] _) efv_1 (by decide)) 34 rfl); have q_fv_1_35 : (fv_1 35).toInt = (fv 35).toInt := congrArg Int32.toInt ((fM_put (fM_rf [0] _) efv_1 (by decide)) 35 rfl); have q_fv_1_2 : (fv_1 2).toInt = (fv 2).toInt := congrArg Int32.toInt ((fM_put (fM_rf [0] _) efv_1 (by decide)) 2 rfl); exact Or.inl ⟨rfl, (congrFun efv_1 2), by omega⟩), trivial⟩, ⟨by rw [ht]; exact hP, va_K.moved hW.alike hK⟩⟩, hS.F ht⟩) hS.2.2 dX12_end_18
  · skip
    have i_5 : 0 ≤ n.toInt ∧ n.toInt ≤ 2147483647 := iv_le2 (⟨by decide, by decide⟩ : (0 : Int) ≤ (0 : Int32).toInt ∧ (0 : Int32).toInt ≤ 0) (iv_any n) (Int32.not_lt.mp c_2)
    refine lv_iload_n hx hb dX12_end_9 rfl (lv_at hl 1 rfl) ?_
    refine lv_aload_n hx hb dX12_end_10 rfl (lv_at hl 0 rfl) ?_
    refine gM_2 hx hb htg hown hK hP dX12_end_11 ?_
    refine my_ti (y := fv 2) ((congrFun efv_1 2)) ?_
    have i_6 : 0 ≤ (fv 2).toInt ∧ (fv 2).toInt ≤ 340 := hF_fv 2
    refine lv_icmp_le (tgt := 19) hx hb dX12_end_14 (by decide) (fun c_7 => ?_) (fun c_7 => ?_)
    · skip
      have i_8 : 0 ≤ n.toInt ∧ n.toInt ≤ 340 := iv_le1 i_5 i_6 c_7
      have k_9 := Int32.le_iff_toInt_le.mp c_7
      refine lv_aload_n hx hb dX12_end_19 rfl (lv_at hl 0 rfl) ?_
      refine lv_iload_n hx hb dX12_end_20 rfl (lv_at hl 1 rfl) ?_
      refine pM_2 hx hb htg hown hK hP hS hd dX12_end_21 (fun H locs fv_10 efv_10 hP hS => ?_)
      have hF_fv_10 : rF fv_10 := rF_put hF_fv_1 efv_10 i_8
      refine lv_iconst (v := 1) hx hb dX12_end_24 (by decide) ?_
      have z_11 : (1 : Int32).toInt = 1 := by decide
      exact W.zret (v := 1) hx hb hr (by decide) (fun t ht hW => ⟨⟨1, (fv_10, wd, ar), rfl, ⟨hF_fv_10, hA_ar, (fM_put (fM_put (fM_rf [0, 2] _) efv_1 (by decide)) efv_10 (by decide)), (fA_rf [] _), (iv_w (⟨by decide, by decide⟩ : (1 : Int) ≤ (1 : Int32).toInt ∧ (1 : Int32).toInt ≤ 1) (by decide) (by decide)), (show ps_end (1 : Int32) (fv_10 2) (fv 2) n from by have q_fv_1_33 : (fv_1 33).toInt = (fv 33).toInt := congrArg Int32.toInt ((fM_put (fM_rf [0] _) efv_1 (by decide)) 33 rfl); have q_fv_1_3 : (fv_1 3).toInt = (fv 3).toInt := congrArg Int32.toInt ((fM_put (fM_rf [0] _) efv_1 (by decide)) 3 rfl); have q_fv_1_6 : (fv_1 6).toInt = (fv 6).toInt := congrArg Int32.toInt ((fM_put (fM_rf [0] _) efv_1 (by decide)) 6 rfl); have q_fv_1_34 : (fv_1 34).toInt = (fv 34).toInt := congrArg Int32.toInt ((fM_put (fM_rf [0] _) efv_1 (by decide)) 34 rfl); have q_fv_1_35 : (fv_1 35).toInt = (fv 35).toInt := congrArg Int32.toInt ((fM_put (fM_rf [0] _) efv_1 (by decide)) 35 rfl); have q_fv_1_2 : (fv_1 2).toInt = (fv 2).toInt := congrArg Int32.toInt ((fM_put (fM_rf [0] _) efv_1 (by decide)) 2 rfl); have q_fv_10_33 : (fv_10 33).toInt = (fv 33).toInt := congrArg Int32.toInt ((fM_put (fM_put (fM_rf [0, 2] _) efv_1 (by decide)) efv_10 (by decide)) 33 rfl); have q_fv_10_3 : (fv_10 3).toInt = (fv 3).toInt := congrArg Int32.toInt ((fM_put (fM_put (fM_rf [0, 2] _) efv_1 (by decide)) efv_10 (by decide)) 3 rfl); have q_fv_10_6 : (fv_10 6).toInt = (fv 6).toInt := congrArg Int32.toInt ((fM_put (fM_put (fM_rf [0, 2] _) efv_1 (by decide)) efv_10 (by decide)) 6 rfl); have q_fv_10_34 : (fv_10 34).toInt = (fv 34).toInt := congrArg Int32.toInt ((fM_put (fM_put (fM_rf [0, 2] _) efv_1 (by decide)) efv_10 (by decide)) 34 rfl); have q_fv_10_35 : (fv_10 35).toInt = (fv 35).toInt := congrArg Int32.toInt ((fM_put (fM_put (fM_rf [0, 2] _) efv_1 (by decide)) efv_10 (by decide)) 35 rfl); exact Or.inr ⟨rfl, (congrFun efv_10 2), by omega⟩), trivial⟩, ⟨by rw [ht]; exact hP, va_K.moved hW.alike hK⟩⟩, hS.F ht⟩) hS.2.2 dX12_end_25
    · skip
      have i_12 : 1 ≤ n.toInt ∧ n.toInt ≤ 2147483647 := iv_lt2 i_6 i_5 (Int32.not_le.mp c_7)
      have k_13 := Int32.lt_iff_toInt_lt.mp (Int32.not_le.mp c_7)
      refine lv_iconst (v := 0) hx hb dX12_end_17 (by decide) ?_
      have z_14 : (0 : Int32).toInt = 0 := by decide
      exact W.zret (v := 0) hx hb hr (by decide) (fun t ht hW => ⟨⟨0, (fv_1, wd, ar), rfl, ⟨hF_fv_1, hA_ar, (fM_put (fM_rf [0, 2] _) efv_1 (by decide)), (fA_rf [] _), (iv_w (⟨by decide, by decide⟩ : (0 : Int) ≤ (0 : Int32).toInt ∧ (0 : Int32).toInt ≤ 0) (by decide) (by decide)), (show ps_end (0 : Int32) (fv_1 2) (fv 2) n from by have q_fv_1_33 : (fv_1 33).toInt = (fv 33).toInt := congrArg Int32.toInt ((fM_put (fM_rf [0] _) efv_1 (by decide)) 33 rfl); have q_fv_1_3 : (fv_1 3).toInt = (fv 3).toInt := congrArg Int32.toInt ((fM_put (fM_rf [0] _) efv_1 (by decide)) 3 rfl); have q_fv_1_6 : (fv_1 6).toInt = (fv 6).toInt := congrArg Int32.toInt ((fM_put (fM_rf [0] _) efv_1 (by decide)) 6 rfl); have q_fv_1_34 : (fv_1 34).toInt = (fv 34).toInt := congrArg Int32.toInt ((fM_put (fM_rf [0] _) efv_1 (by decide)) 34 rfl); have q_fv_1_35 : (fv_1 35).toInt = (fv 35).toInt := congrArg Int32.toInt ((fM_put (fM_rf [0] _) efv_1 (by decide)) 35 rfl); have q_fv_1_2 : (fv_1 2).toInt = (fv 2).toInt := congrArg Int32.toInt ((fM_put (fM_rf [0] _) efv_1 (by decide)) 2 rfl); exact Or.inl ⟨rfl, (congrFun efv_1 2), by omega⟩), trivial⟩, ⟨by rw [ht]; exact hP, va_K.moved hW.alike hK⟩⟩, hS.F ht⟩) hS.2.2 dX12_end_18
set_option maxHeartbeats 4000000 in
set_option maxRecDepth 100000 in
theorem m_wheelE (l : Launch) (dC : Nat → ClassId) (dI : Nat → Nat → Nat) (sz h : Nat) (ad : Nat → Nat) (cA : Nat → ClassId) (hd : dM h ad) (fv : Nat → Int32) (wd : Int64) (ar : Nat → Nat → Int32) (hF_fv : rF fv) (hA_ar : rA ar) (a : Int32) (b : Int32) (v : Int32) (d : Int32) : Met l yX12_wheel (.code yX12_wheel cX12_wheel 5 (some .int) :: lw_good) ({ frames := 3, cells := 0, slots := 0, locals := 62 }) (va_Pc [.ref h, .int a, .int b, .int v, .int d] (prM dC dI h ad cA fv wd ar sz)) (va_Qi (fun (r : Int32) (u : mS) => rF u.1 ∧ rA u.2.2 ∧ fM [0, 34] fv u.1 ∧ fA [20, 21, 22, 23, 76] ar u.2.2 ∧ (ps_wheel r (u.1 34) (fv 34) (fv 33) a b v d) ∧ True) (enM dC dI h ad cA) (aM h ad sz)) 0 0 (aM h ad sz) := by
  refine Met.ofW (cc := cX12_wheel) (maxL := 5) (ret := (some .int)) (by decide) rfl ?_
  intro p e s m args below meth c s₁ B hml hv
  obtain ⟨rfl, hsz, hP, hK⟩ := hv
  have hx := B.exec
  have hb := B.bytes
  have hr := B.returns
  have hts := atoms_spec (ws := (.code yX12_wheel cX12_wheel 5 (some .int) :: lw_good)) B.pre
  have htg : ∀ w ∈ lw_good, w.before _ s = true := fun w hw => hts w (List.mem_cons_of_mem _ hw)
  have hown : s.vm.findClass RX12 = some m.cls := findClass_of_methodNamed B.named
  have hlocks := B.notSynchronized
  subst hsz
  have hS : va_S (aM h ad s.heap.size) s.heap s.heap [] := va_S.rf
  have hl := lv_entry ([.ref h, .int a, .int b, .int v, .int d]) (n := 5) (Nat.le_of_ble_eq_true rfl)
  rw [lg_entry_eq]
  generalize (lg_sl ([.ref h, .int a, .int b, .int v, .int d]) ++ List.replicate (5 - (lg_sl ([.ref h, .int a, .int b, .int v, .int d])).length) Slot.unset).toArray = ls at hl ⊢
  have hl : lv_has ls 5 [(0, .ref h), (1, .int a), (2, .int b), (3, .int v), (4, .int d)] := hl
  have zc0 : (0 : Int32).toInt = 0 := by decide
  have zc1 : (1 : Int32).toInt = 1 := by decide
  have zc2 : (2 : Int32).toInt = 2 := by decide
  have zc9 : (9 : Int32).toInt = 9 := by decide
  have zc11 : (11 : Int32).toInt = 11 := by decide
  have zc12 : (12 : Int32).toInt = 12 := by decide
  have zc19 : (19 : Int32).toInt = 19 := by decide
  have zc99 : (99 : Int32).toInt = 99 := by decide
  have zc199 : (199 : Int32).toInt = 199 := by decide
  have zc719 : (719 : Int32).toInt = 719 := by decide
  have zc20 : (20 : Int32).toInt = 20 := by decide
  have zc340 : (340 : Int32).toInt = 340 := by decide
  have zcm1 : ((-1) : Int32).toInt = (-1) := by decide
  refine lv_aload_n hx hb dX12_wheel_0 rfl (lv_at hl 0 rfl) ?_
  refine lv_iconst (v := 0) hx hb dX12_wheel_1 (by decide) ?_
  refine pM_0 hx hb htg hown hK hP hS hd dX12_wheel_2 (fun H locs fv_1 efv_1 hP hS => ?_)
  have hF_fv_1 : rF fv_1 := rF_put hF_fv efv_1 (iv_any _)
  refine lv_aload_n hx hb dX12_wheel_5 rfl (lv_at hl 0 rfl) ?_
  refine gM_34 hx hb htg hown hK hP dX12_wheel_6 ?_
  refine my_ti (y := fv 34) ((congrFun efv_1 34)) ?_
  have i_2 : 0 ≤ (fv 34).toInt ∧ (fv 34).toInt ≤ 20 := hF_fv 34
  refine lv_bipush (v := 20) hx hb dX12_wheel_9 (by decide) ?_
  refine lv_icmp_eq (tgt := 59) hx hb dX12_wheel_11 (by decide) (fun c_3 => ?_) (fun c_3 => ?_)
  · skip
    have i_4 : 20 ≤ (fv 34).toInt ∧ (fv 34).toInt ≤ 20 := iv_eq1 (⟨by decide, by decide⟩ : (20 : Int) ≤ (20 : Int32).toInt ∧ (20 : Int32).toInt ≤ 20) c_3
    refine lv_iconst (v := (-1)) hx hb dX12_wheel_59 (by decide) ?_
    have z_6 : ((-1) : Int32).toInt = (-1) := by decide
    exact W.iret (v := (-1)) hx hb hr (fun t ht hW => ⟨⟨(-1), (fv_1, wd, ar), rfl, ⟨hF_fv_1, hA_ar, (fM_put (fM_rf [0, 34] _) efv_1 (by decide)), (fA_rf [20, 21, 22, 23, 76] _), (show ps_wheel ((-1) : Int32) (fv_1 34) (fv 34) (fv 33) a b v d from by have q_fv_1_33 : (fv_1 33).toInt = (fv 33).toInt := congrArg Int32.toInt ((fM_put (fM_rf [0] _) efv_1 (by decide)) 33 rfl); have q_fv_1_3 : (fv_1 3).toInt = (fv 3).toInt := congrArg Int32.toInt ((fM_put (fM_rf [0] _) efv_1 (by decide)) 3 rfl); have q_fv_1_6 : (fv_1 6).toInt = (fv 6).toInt := congrArg Int32.toInt ((fM_put (fM_rf [0] _) efv_1 (by decide)) 6 rfl); have q_fv_1_34 : (fv_1 34).toInt = (fv 34).toInt := congrArg Int32.toInt ((fM_put (fM_rf [0] _) efv_1 (by decide)) 34 rfl); have q_fv_1_35 : (fv_1 35).toInt = (fv 35).toInt := congrArg Int32.toInt ((fM_put (fM_rf [0] _) efv_1 (by decide)) 35 rfl); have q_fv_1_2 : (fv_1 2).toInt = (fv 2).toInt := congrArg Int32.toInt ((fM_put (fM_rf [0] _) efv_1 (by decide)) 2 rfl); exact Or.inl ⟨rfl, (congrFun efv_1 34), by omega⟩), trivial⟩, ⟨by rw [ht]; exact hP, va_K.moved hW.alike hK⟩⟩, hS.F ht⟩) hS.2.2 dX12_wheel_60
  · skip
    have i_7 : 0 ≤ (fv 34).toInt ∧ (fv 34).toInt ≤ 19 := iv_neh i_2 (by decide) c_3
    have k_8 : ¬ (fv 34).toInt = 20 := fun q => c_3 (Int32.toInt_inj.mp q)
    refine lv_iload_n hx hb dX12_wheel_14 rfl (lv_at hl 1 rfl) ?_
    refine lv_iconst (v := 0) hx hb dX12_wheel_15 (by decide) ?_
    refine lv_iconst (v := 2) hx hb dX12_wheel_16 (by decide) ?_
    refine va_calli (va_runS (As := [.int a, .int 0, .int 2]) (rest := []) ⟨hx, hb, hml, hown, hts⟩ (m_isIn l H.size a 0 2) (va_cwS 3 hts (gS kw_7_218 kw_7_219 kw_1_15 kw_7_220) rfl rfl rfl (by decide +kernel) ⟨Nat.le_of_ble_eq_true rfl, Nat.le_of_ble_eq_true rfl⟩) ⟨fun a U g mk q => ⟨q.1, q.2⟩, fun U hU hW => ⟨rfl, congrArg Array.size hU⟩⟩ rfl rfl hl.1 rfl (lv_room (Nat.le_of_ble_eq_true rfl)) dX12_wheel_17 ⟨Nat.le_of_ble_eq_true rfl, Nat.le_of_ble_eq_true rfl⟩) hS (fun q _ h9 => nM_up hS q h9) (nM_up hS) (fun r_9 u t H1 locs ht _ hw hB _ hk1 hS => ?_)
    obtain ⟨p_10, p_11, -⟩ := hw
    have hP := my_keepM hP hk1
    generalize H1 = H at hP hS ⊢
    rcases p_11 with ⟨rfl, p_11⟩ | ⟨rfl, p_11⟩
    · skip
      refine lv_if_eq (tgt := 59) hx hb dX12_wheel_20 (by decide) (fun c_12 => ?_) (fun c_12 => ?_)
      · skip
        refine lv_iconst (v := (-1)) hx hb dX12_wheel_59 (by decide) ?_
        have z_13 : ((-1) : Int32).toInt = (-1) := by decide
        exact W.iret (v := (-1)) hx hb hr (fun t ht hW => ⟨⟨(-1), (fv_1, wd, ar), rfl, ⟨hF_fv_1, hA_ar, (fM_put (fM_rf [0, 34] _) efv_1 (by decide)), (fA_rf [20, 21, 22, 23, 76] _), (show ps_wheel ((-1) : Int32) (fv_1 34) (fv 34) (fv 33) a b v d from by have q_fv_1_33 : (fv_1 33).toInt = (fv 33).toInt := congrArg Int32.toInt ((fM_put (fM_rf [0] _) efv_1 (by decide)) 33 rfl); have q_fv_1_3 : (fv_1 3).toInt = (fv 3).toInt := congrArg Int32.toInt ((fM_put (fM_rf [0] _) efv_1 (by decide)) 3 rfl); have q_fv_1_6 : (fv_1 6).toInt = (fv 6).toInt := congrArg Int32.toInt ((fM_put (fM_rf [0] _) efv_1 (by decide)) 6 rfl); have q_fv_1_34 : (fv_1 34).toInt = (fv 34).toInt := congrArg Int32.toInt ((fM_put (fM_rf [0] _) efv_1 (by decide)) 34 rfl); have q_fv_1_35 : (fv_1 35).toInt = (fv 35).toInt := congrArg Int32.toInt ((fM_put (fM_rf [0] _) efv_1 (by decide)) 35 rfl); have q_fv_1_2 : (fv_1 2).toInt = (fv 2).toInt := congrArg Int32.toInt ((fM_put (fM_rf [0] _) efv_1 (by decide)) 2 rfl); exact Or.inl ⟨rfl, (congrFun efv_1 34), by omega⟩), trivial⟩, ⟨by rw [ht]; exact hP, va_K.moved hW.alike hK⟩⟩, hS.F ht⟩) hS.2.2 dX12_wheel_60
      · skip
        exact absurd c_12 (by decide)
    · skip
      have i_14 : 0 ≤ a.toInt ∧ a.toInt ≤ 2147483647 := iv_le2 (⟨by decide, by decide⟩ : (0 : Int) ≤ (0 : Int32).toInt ∧ (0 : Int32).toInt ≤ 0) (iv_any a) (Int32.le_iff_toInt_le.mpr p_11.1)
      have i_15 : 0 ≤ a.toInt ∧ a.toInt ≤ 2 := iv_le1 i_14 (⟨by decide, by decide⟩ : (2 : Int) ≤ (2 : Int32).toInt ∧ (2 : Int32).toInt ≤ 2) (Int32.le_iff_toInt_le.mpr p_11.2)
      refine lv_if_eq (tgt := 59) hx hb dX12_wheel_20 (by decide) (fun c_16 => ?_) (fun c_16 => ?_)
      · skip
        exact absurd c_16 (by decide)
      · skip
        refine lv_iload_n hx hb dX12_wheel_23 rfl (lv_at hl 2 rfl) ?_
        refine lv_iconst (v := 0) hx hb dX12_wheel_24 (by decide) ?_
        refine lv_aload_n hx hb dX12_wheel_25 rfl (lv_at hl 0 rfl) ?_
        refine gM_33 hx hb htg hown hK hP dX12_wheel_26 ?_
        refine my_ti (y := fv 33) ((congrFun efv_1 33)) ?_
        have i_17 : 0 ≤ (fv 33).toInt ∧ (fv 33).toInt ≤ 8 := hF_fv 33
        refine lv_iconst (v := 1) hx hb dX12_wheel_29 (by decide) ?_
        refine lv_isub hx hb dX12_wheel_30 ?_
        refine lv_topi (fun v_18 ev_18 => ?_)
        have t_19 : v_18.toInt = (fv 33).toInt - 1 ∧ (-1) ≤ v_18.toInt ∧ v_18.toInt ≤ 7 := iv_subc ev_18 i_17 (by decide) (by decide) (by decide)
        refine va_calli (va_runS (As := [.int b, .int 0, .int v_18]) (rest := []) ⟨hx, hb, hml, hown, hts⟩ (m_isIn l H.size b 0 v_18) (va_cwS 3 hts (gS kw_7_218 kw_7_219 kw_1_15 kw_7_220) rfl rfl rfl (by decide +kernel) ⟨Nat.le_of_ble_eq_true rfl, Nat.le_of_ble_eq_true rfl⟩) ⟨fun a U g mk q => ⟨q.1, q.2⟩, fun U hU hW => ⟨rfl, congrArg Array.size hU⟩⟩ rfl rfl hl.1 rfl (lv_room (Nat.le_of_ble_eq_true rfl)) dX12_wheel_31 ⟨Nat.le_of_ble_eq_true rfl, Nat.le_of_ble_eq_true rfl⟩) hS (fun q _ h9 => nM_up hS q h9) (nM_up hS) (fun r_21 u t H1 locs ht _ hw hB _ hk1 hS => ?_)
        obtain ⟨p_22, p_23, -⟩ := hw
        have hP := my_keepM hP hk1
        generalize H1 = H at hP hS ⊢
        rcases p_23 with ⟨rfl, p_23⟩ | ⟨rfl, p_23⟩
        · skip
          refine lv_if_eq (tgt := 59) hx hb dX12_wheel_34 (by decide) (fun c_24 => ?_) (fun c_24 => ?_)
          · skip
            refine lv_iconst (v := (-1)) hx hb dX12_wheel_59 (by decide) ?_
            have z_25 : ((-1) : Int32).toInt = (-1) := by decide
            exact W.iret (v := (-1)) hx hb hr (fun t ht hW => ⟨⟨(-1), (fv_1, wd, ar), rfl, ⟨hF_fv_1, hA_ar, (fM_put (fM_rf [0, 34] _) efv_1 (by decide)), (fA_rf [20, 21, 22, 23, 76] _), (show ps_wheel ((-1) : Int32) (fv_1 34) (fv 34) (fv 33) a b v d from by have q_fv_1_33 : (fv_1 33).toInt = (fv 33).toInt := congrArg Int32.toInt ((fM_put (fM_rf [0] _) efv_1 (by decide)) 33 rfl); have q_fv_1_3 : (fv_1 3).toInt = (fv 3).toInt := congrArg Int32.toInt ((fM_put (fM_rf [0] _) efv_1 (by decide)) 3 rfl); have q_fv_1_6 : (fv_1 6).toInt = (fv 6).toInt := congrArg Int32.toInt ((fM_put (fM_rf [0] _) efv_1 (by decide)) 6 rfl); have q_fv_1_34 : (fv_1 34).toInt = (fv 34).toInt := congrArg Int32.toInt ((fM_put (fM_rf [0] _) efv_1 (by decide)) 34 rfl); have q_fv_1_35 : (fv_1 35).toInt = (fv 35).toInt := congrArg Int32.toInt ((fM_put (fM_rf [0] _) efv_1 (by decide)) 35 rfl); have q_fv_1_2 : (fv_1 2).toInt = (fv 2).toInt := congrArg Int32.toInt ((fM_put (fM_rf [0] _) efv_1 (by decide)) 2 rfl); exact Or.inl ⟨rfl, (congrFun efv_1 34), by omega⟩), trivial⟩, ⟨by rw [ht]; exact hP, va_K.moved hW.alike hK⟩⟩, hS.F ht⟩) hS.2.2 dX12_wheel_60
          · skip
            exact absurd c_24 (by decide)
        · skip
          have i_26 : 0 ≤ b.toInt ∧ b.toInt ≤ 2147483647 := iv_le2 (⟨by decide, by decide⟩ : (0 : Int) ≤ (0 : Int32).toInt ∧ (0 : Int32).toInt ≤ 0) (iv_any b) (Int32.le_iff_toInt_le.mpr p_23.1)
          have i_27 : 0 ≤ b.toInt ∧ b.toInt ≤ 7 := iv_le1 i_26 t_19.2 (Int32.le_iff_toInt_le.mpr p_23.2)
          have i_28 : 0 ≤ v_18.toInt ∧ v_18.toInt ≤ 7 := iv_le2 i_26 t_19.2 (Int32.le_iff_toInt_le.mpr p_23.2)
          refine lv_if_eq (tgt := 59) hx hb dX12_wheel_34 (by decide) (fun c_29 => ?_) (fun c_29 => ?_)
          · skip
            exact absurd c_29 (by decide)
          · skip
            refine lv_iload_n hx hb dX12_wheel_37 rfl (lv_at hl 3 rfl) ?_
            refine lv_iconst (v := 1) hx hb dX12_wheel_38 (by decide) ?_
            refine lv_bipush (v := 9) hx hb dX12_wheel_39 (by decide) ?_
            refine va_calli (va_runS (As := [.int v, .int 1, .int 9]) (rest := []) ⟨hx, hb, hml, hown, hts⟩ (m_isIn l H.size v 1 9) (va_cwS 3 hts (gS kw_7_218 kw_7_219 kw_1_15 kw_7_220) rfl rfl rfl (by decide +kernel) ⟨Nat.le_of_ble_eq_true rfl, Nat.le_of_ble_eq_true rfl⟩) ⟨fun a U g mk q => ⟨q.1, q.2⟩, fun U hU hW => ⟨rfl, congrArg Array.size hU⟩⟩ rfl rfl hl.1 rfl (lv_room (Nat.le_of_ble_eq_true rfl)) dX12_wheel_41 ⟨Nat.le_of_ble_eq_true rfl, Nat.le_of_ble_eq_true rfl⟩) hS (fun q _ h9 => nM_up hS q h9) (nM_up hS) (fun r_30 u t H1 locs ht _ hw hB _ hk1 hS => ?_)
            obtain ⟨p_31, p_32, -⟩ := hw
            have hP := my_keepM hP hk1
            generalize H1 = H at hP hS ⊢
            rcases p_32 with ⟨rfl, p_32⟩ | ⟨rfl, p_32⟩
            · skip
              refine lv_if_eq (tgt := 59) hx hb dX12_wheel_44 (by decide) (fun c_33 => ?_) (fun c_33 => ?_)
              · skip
                refine lv_iconst (v := (-1)) hx hb dX12_wheel_59 (by decide) ?_
                have z_34 : ((-1) : Int32).toInt = (-1) := by decide
                exact W.iret (v := (-1)) hx hb hr (fun t ht hW => ⟨⟨(-1), (fv_1, wd, ar), rfl, ⟨hF_fv_1, hA_ar, (fM_put (fM_rf [0, 34] _) efv_1 (by decide)), (fA_rf [20, 21, 22, 23, 76] _), (show ps_wheel ((-1) : Int32) (fv_1 34) (fv 34) (fv 33) a b v d from by have q_fv_1_33 : (fv_1 33).toInt = (fv 33).toInt := congrArg Int32.toInt ((fM_put (fM_rf [0] _) efv_1 (by decide)) 33 rfl); have q_fv_1_3 : (fv_1 3).toInt = (fv 3).toInt := congrArg Int32.toInt ((fM_put (fM_rf [0] _) efv_1 (by decide)) 3 rfl); have q_fv_1_6 : (fv_1 6).toInt = (fv 6).toInt := congrArg Int32.toInt ((fM_put (fM_rf [0] _) efv_1 (by decide)) 6 rfl); have q_fv_1_34 : (fv_1 34).toInt = (fv 34).toInt := congrArg Int32.toInt ((fM_put (fM_rf [0] _) efv_1 (by decide)) 34 rfl); have q_fv_1_35 : (fv_1 35).toInt = (fv 35).toInt := congrArg Int32.toInt ((fM_put (fM_rf [0] _) efv_1 (by decide)) 35 rfl); have q_fv_1_2 : (fv_1 2).toInt = (fv 2).toInt := congrArg Int32.toInt ((fM_put (fM_rf [0] _) efv_1 (by decide)) 2 rfl); exact Or.inl ⟨rfl, (congrFun efv_1 34), by omega⟩), trivial⟩, ⟨by rw [ht]; exact hP, va_K.moved hW.alike hK⟩⟩, hS.F ht⟩) hS.2.2 dX12_wheel_60
              · skip
                exact absurd c_33 (by decide)
            · skip
              have i_35 : 1 ≤ v.toInt ∧ v.toInt ≤ 2147483647 := iv_le2 (⟨by decide, by decide⟩ : (1 : Int) ≤ (1 : Int32).toInt ∧ (1 : Int32).toInt ≤ 1) (iv_any v) (Int32.le_iff_toInt_le.mpr p_32.1)
              have i_36 : 1 ≤ v.toInt ∧ v.toInt ≤ 9 := iv_le1 i_35 (⟨by decide, by decide⟩ : (9 : Int) ≤ (9 : Int32).toInt ∧ (9 : Int32).toInt ≤ 9) (Int32.le_iff_toInt_le.mpr p_32.2)
              refine lv_if_eq (tgt := 59) hx hb dX12_wheel_44 (by decide) (fun c_37 => ?_) (fun c_37 => ?_)
              · skip
                exact absurd c_37 (by decide)
              · skip
                refine lv_iload hx hb dX12_wheel_47 (lv_at hl 4 rfl) ?_
                refine lv_iconst (v := (-1)) hx hb dX12_wheel_49 (by decide) ?_
                refine lv_sipush (v := 199) hx hb dX12_wheel_50 (by decide) ?_
                refine va_calli (va_runS (As := [.int d, .int (-1), .int 199]) (rest := []) ⟨hx, hb, hml, hown, hts⟩ (m_isIn l H.size d (-1) 199) (va_cwS 3 hts (gS kw_7_218 kw_7_219 kw_1_15 kw_7_220) rfl rfl rfl (by decide +kernel) ⟨Nat.le_of_ble_eq_true rfl, Nat.le_of_ble_eq_true rfl⟩) ⟨fun a U g mk q => ⟨q.1, q.2⟩, fun U hU hW => ⟨rfl, congrArg Array.size hU⟩⟩ rfl rfl hl.1 rfl (lv_room (Nat.le_of_ble_eq_true rfl)) dX12_wheel_53 ⟨Nat.le_of_ble_eq_true rfl, Nat.le_of_ble_eq_true rfl⟩) hS (fun q _ h9 => nM_up hS q h9) (nM_up hS) (fun r_38 u t H1 locs ht _ hw hB _ hk1 hS => ?_)
                obtain ⟨p_39, p_40, -⟩ := hw
                have hP := my_keepM hP hk1
                generalize H1 = H at hP hS ⊢
                rcases p_40 with ⟨rfl, p_40⟩ | ⟨rfl, p_40⟩
                · skip
                  refine lv_if_ne (tgt := 61) hx hb dX12_wheel_56 (by decide) (fun c_41 => ?_) (fun c_41 => ?_)
                  · skip
                    exact absurd c_41 (by decide)
                  · skip
                    refine lv_iconst (v := (-1)) hx hb dX12_wheel_59 (by decide) ?_
                    have z_42 : ((-1) : Int32).toInt = (-1) := by decide
                    exact W.iret (v := (-1)) hx hb hr (fun t ht hW => ⟨⟨(-1), (fv_1, wd, ar), rfl, ⟨hF_fv_1, hA_ar, (fM_put (fM_rf [0, 34] _) efv_1 (by decide)), (fA_rf [20, 21, 22, 23, 76] _), (show ps_wheel ((-1) : Int32) (fv_1 34) (fv 34) (fv 33) a b v d from by have q_fv_1_33 : (fv_1 33).toInt = (fv 33).toInt := congrArg Int32.toInt ((fM_put (fM_rf [0] _) efv_1 (by decide)) 33 rfl); have q_fv_1_3 : (fv_1 3).toInt = (fv 3).toInt := congrArg Int32.toInt ((fM_put (fM_rf [0] _) efv_1 (by decide)) 3 rfl); have q_fv_1_6 : (fv_1 6).toInt = (fv 6).toInt := congrArg Int32.toInt ((fM_put (fM_rf [0] _) efv_1 (by decide)) 6 rfl); have q_fv_1_34 : (fv_1 34).toInt = (fv 34).toInt := congrArg Int32.toInt ((fM_put (fM_rf [0] _) efv_1 (by decide)) 34 rfl); have q_fv_1_35 : (fv_1 35).toInt = (fv 35).toInt := congrArg Int32.toInt ((fM_put (fM_rf [0] _) efv_1 (by decide)) 35 rfl); have q_fv_1_2 : (fv_1 2).toInt = (fv 2).toInt := congrArg Int32.toInt ((fM_put (fM_rf [0] _) efv_1 (by decide)) 2 rfl); exact Or.inl ⟨rfl, (congrFun efv_1 34), by omega⟩), trivial⟩, ⟨by rw [ht]; exact hP, va_K.moved hW.alike hK⟩⟩, hS.F ht⟩) hS.2.2 dX12_wheel_60
                · skip
                  have i_43 : (-1) ≤ d.toInt ∧ d.toInt ≤ 2147483647 := iv_le2 (⟨by decide, by decide⟩ : (-1 : Int) ≤ ((-1) : Int32).toInt ∧ ((-1) : Int32).toInt ≤ -1) (iv_any d) (Int32.le_iff_toInt_le.mpr p_40.1)
                  have i_44 : (-1) ≤ d.toInt ∧ d.toInt ≤ 199 := iv_le1 i_43 (⟨by decide, by decide⟩ : (199 : Int) ≤ (199 : Int32).toInt ∧ (199 : Int32).toInt ≤ 199) (Int32.le_iff_toInt_le.mpr p_40.2)
                  refine lv_if_ne (tgt := 61) hx hb dX12_wheel_56 (by decide) (fun c_45 => ?_) (fun c_45 => ?_)
                  · skip
                    refine lv_aload_n hx hb dX12_wheel_61 rfl (lv_at hl 0 rfl) ?_
                    refine gM_20 hx hb htg hown hK hP dX12_wheel_62 ?_
                    refine lv_aload_n hx hb dX12_wheel_65 rfl (lv_at hl 0 rfl) ?_
                    refine gM_34 hx hb htg hown hK hP dX12_wheel_66 ?_
                    refine my_ti (y := fv 34) ((congrFun efv_1 34)) ?_
                    refine lv_iload_n hx hb dX12_wheel_69 rfl (lv_at hl 1 rfl) ?_
                    refine sM_20 hx hb hK hP hS hd (iv_in i_7 (by decide) (by decide)) dX12_wheel_70 (fun H locs ar_46 ear_46 hP hS => ?_)
                    have hA_ar_46 : rA ar_46 := rA_put hA_ar ear_46 (iv_any _)
                    refine lv_aload_n hx hb dX12_wheel_71 rfl (lv_at hl 0 rfl) ?_
                    refine gM_21 hx hb htg hown hK hP dX12_wheel_72 ?_
                    refine lv_aload_n hx hb dX12_wheel_75 rfl (lv_at hl 0 rfl) ?_
                    refine gM_34 hx hb htg hown hK hP dX12_wheel_76 ?_
                    refine my_ti (y := fv 34) ((congrFun efv_1 34)) ?_
                    refine lv_iload_n hx hb dX12_wheel_79 rfl (lv_at hl 2 rfl) ?_
                    refine sM_21 hx hb hK hP hS hd (iv_in i_7 (by decide) (by decide)) dX12_wheel_80 (fun H locs ar_47 ear_47 hP hS => ?_)
                    have hA_ar_47 : rA ar_47 := rA_put hA_ar_46 ear_47 (iv_any _)
                    refine lv_aload_n hx hb dX12_wheel_81 rfl (lv_at hl 0 rfl) ?_
                    refine gM_22 hx hb htg hown hK hP dX12_wheel_82 ?_
                    refine lv_aload_n hx hb dX12_wheel_85 rfl (lv_at hl 0 rfl) ?_
                    refine gM_34 hx hb htg hown hK hP dX12_wheel_86 ?_
                    refine my_ti (y := fv 34) ((congrFun efv_1 34)) ?_
                    refine lv_iload_n hx hb dX12_wheel_89 rfl (lv_at hl 3 rfl) ?_
                    refine sM_22 hx hb hK hP hS hd (iv_in i_7 (by decide) (by decide)) dX12_wheel_90 (fun H locs ar_48 ear_48 hP hS => ?_)
                    have hA_ar_48 : rA ar_48 := rA_put hA_ar_47 ear_48 (iv_any _)
                    refine lv_aload_n hx hb dX12_wheel_91 rfl (lv_at hl 0 rfl) ?_
                    refine gM_23 hx hb htg hown hK hP dX12_wheel_92 ?_
                    refine lv_aload_n hx hb dX12_wheel_95 rfl (lv_at hl 0 rfl) ?_
                    refine gM_34 hx hb htg hown hK hP dX12_wheel_96 ?_
                    refine my_ti (y := fv 34) ((congrFun efv_1 34)) ?_
                    refine lv_iload hx hb dX12_wheel_99 (lv_at hl 4 rfl) ?_
                    refine sM_23 hx hb hK hP hS hd (iv_in i_7 (by decide) (by decide)) dX12_wheel_101 (fun H locs ar_49 ear_49 hP hS => ?_)
                    have hA_ar_49 : rA ar_49 := rA_put hA_ar_48 ear_49 (iv_any _)
                    refine lv_aload_n hx hb dX12_wheel_102 rfl (lv_at hl 0 rfl) ?_
                    refine gM_76 hx hb htg hown hK hP dX12_wheel_103 ?_
                    refine lv_aload_n hx hb dX12_wheel_106 rfl (lv_at hl 0 rfl) ?_
                    refine gM_34 hx hb htg hown hK hP dX12_wheel_107 ?_
                    refine my_ti (y := fv 34) ((congrFun efv_1 34)) ?_
                    refine lv_iload_n hx hb dX12_wheel_110 rfl (lv_at hl 2 rfl) ?_
                    refine sM_76 hx hb hK hP hS hd (iv_in i_7 (by decide) (by decide)) dX12_wheel_111 (fun H locs ar_50 ear_50 hP hS => ?_)
                    have hA_ar_50 : rA ar_50 := rA_put hA_ar_49 ear_50 (iv_any _)
                    refine lv_aload_n hx hb dX12_wheel_112 rfl (lv_at hl 0 rfl) ?_
                    refine lv_dup hx hb dX12_wheel_113 rfl ?_
                    refine gM_34 hx hb htg hown hK hP dX12_wheel_114 ?_
                    refine my_ti (y := fv 34) ((congrFun efv_1 34)) ?_
                    refine lv_iconst (v := 1) hx hb dX12_wheel_117 (by decide) ?_
                    refine lv_iadd hx hb dX12_wheel_118 ?_
                    refine lv_topi (fun v_51 ev_51 => ?_)
                    have t_52 : v_51.toInt = (fv 34).toInt + 1 ∧ 1 ≤ v_51.toInt ∧ v_51.toInt ≤ 20 := iv_addc ev_51 i_7 (by decide) (by decide) (by decide)
                    refine pM_34 hx hb htg hown hK hP hS hd dX12_wheel_119 (fun H locs fv_54 efv_54 hP hS => ?_)
                    have hF_fv_54 : rF fv_54 := rF_put hF_fv_1 efv_54 (iv_w t_52.2 (by decide) (by decide))
                    refine lv_aload_n hx hb dX12_wheel_122 rfl (lv_at hl 0 rfl) ?_
                    refine gM_34 hx hb htg hown hK hP dX12_wheel_123 ?_
                    refine my_ti (y := v_51) ((congrFun efv_54 34)) ?_
                    refine lv_iconst (v := 1) hx hb dX12_wheel_126 (by decide) ?_
                    refine lv_isub hx hb dX12_wheel_127 ?_
                    refine lv_topi (fun v_55 ev_55 => ?_)
                    have t_56 : v_55.toInt = v_51.toInt - 1 ∧ 0 ≤ v_55.toInt ∧ v_55.toInt ≤ 19 := iv_subc ev_55 t_52.2 (by decide) (by decide) (by decide)
                    exact W.iret (v := v_55) hx hb hr (fun t ht hW => ⟨⟨v_55, (fv_54, wd, ar_50), rfl, ⟨hF_fv_54, hA_ar_50, (fM_put (fM_put (fM_rf [0, 34] _) efv_1 (by decide)) efv_54 (by decide)), (fA_put (fA_put (fA_put (fA_put (fA_put (fA_rf [20, 21, 22, 23, 76] _) ear_46 (by decide)) ear_47 (by decide)) ear_48 (by decide)) ear_49 (by decide)) ear_50 (by decide)), (show ps_wheel v_55 (fv_54 34) (fv 34) (fv 33) a b v d from by have q_fv_1_33 : (fv_1 33).toInt = (fv 33).toInt := congrArg Int32.toInt ((fM_put (fM_rf [0] _) efv_1 (by decide)) 33 rfl); have q_fv_1_3 : (fv_1 3).toInt = (fv 3).toInt := congrArg Int32.toInt ((fM_put (fM_rf [0] _) efv_1 (by decide)) 3 rfl); have q_fv_1_6 : (fv_1 6).toInt = (fv 6).toInt := congrArg Int32.toInt ((fM_put (fM_rf [0] _) efv_1 (by decide)) 6 rfl); have q_fv_1_34 : (fv_1 34).toInt = (fv 34).toInt := congrArg Int32.toInt ((fM_put (fM_rf [0] _) efv_1 (by decide)) 34 rfl); have q_fv_1_35 : (fv_1 35).toInt = (fv 35).toInt := congrArg Int32.toInt ((fM_put (fM_rf [0] _) efv_1 (by decide)) 35 rfl); have q_fv_1_2 : (fv_1 2).toInt = (fv 2).toInt := congrArg Int32.toInt ((fM_put (fM_rf [0] _) efv_1 (by decide)) 2 rfl); have q_fv_54_33 : (fv_54 33).toInt = (fv 33).toInt := congrArg Int32.toInt ((fM_put (fM_put (fM_rf [0, 34] _) efv_1 (by decide)) efv_54 (by decide)) 33 rfl); have q_fv_54_3 : (fv_54 3).toInt = (fv 3).toInt := congrArg Int32.toInt ((fM_put (fM_put (fM_rf [0, 34] _) efv_1 (by decide)) efv_54 (by decide)) 3 rfl); have q_fv_54_6 : (fv_54 6).toInt = (fv 6).toInt := congrArg Int32.toInt ((fM_put (fM_put (fM_rf [0, 34] _) efv_1 (by decide)) efv_54 (by decide)) 6 rfl); have q_fv_54_35 : (fv_54 35).toInt = (fv 35).toInt := congrArg Int32.toInt ((fM_put (fM_put (fM_rf [0, 34] _) efv_1 (by decide)) efv_54 (by decide)) 35 rfl); have q_fv_54_2 : (fv_54 2).toInt = (fv 2).toInt := congrArg Int32.toInt ((fM_put (fM_put (fM_rf [0, 34] _) efv_1 (by decide)) efv_54 (by decide)) 2 rfl); exact Or.inr ⟨by omega, by rw [show fv_54 34 = v_51 from (congrFun efv_54 34)]; omega, by omega⟩), trivial⟩, ⟨by rw [ht]; exact hP, va_K.moved hW.alike hK⟩⟩, hS.F ht⟩) hS.2.2 dX12_wheel_128
                  · skip
                    exact absurd c_45 (by decide)
set_option maxHeartbeats 4000000 in
set_option maxRecDepth 100000 in
theorem m_tripE (l : Launch) (dC : Nat → ClassId) (dI : Nat → Nat → Nat) (sz h : Nat) (ad : Nat → Nat) (cA : Nat → ClassId) (hd : dM h ad) (fv : Nat → Int32) (wd : Int64) (ar : Nat → Nat → Int32) (hF_fv : rF fv) (hA_ar : rA ar) (a : Int32) (b : Int32) (v : Int32) (d : Int32) (f : Int32) (g : Int32) : Met l yX12_trip (.code yX12_trip cX12_trip 7 (some .int) :: lw_good) ({ frames := 3, cells := 0, slots := 0, locals := 62 }) (va_Pc [.ref h, .int a, .int b, .int v, .int d, .int f, .int g] (prM dC dI h ad cA fv wd ar sz)) (va_Qi (fun (r : Int32) (u : mS) => rF u.1 ∧ rA u.2.2 ∧ fM [0, 35] fv u.1 ∧ fA [25, 26, 27, 28, 29, 30, 31, 81] ar u.2.2 ∧ (ps_trip r (u.1 35) (fv 35) (fv 34) (fv 33) (fv 3) a b v d f g) ∧ True) (enM dC dI h ad cA) (aM h ad sz)) 0 0 (aM h ad sz) := by
  refine Met.ofW (cc := cX12_trip) (maxL := 7) (ret := (some .int)) (by decide) rfl ?_
  intro p e s m args below meth c s₁ B hml hv
  obtain ⟨rfl, hsz, hP, hK⟩ := hv
  have hx := B.exec
  have hb := B.bytes
  have hr := B.returns
  have hts := atoms_spec (ws := (.code yX12_trip cX12_trip 7 (some .int) :: lw_good)) B.pre
  have htg : ∀ w ∈ lw_good, w.before _ s = true := fun w hw => hts w (List.mem_cons_of_mem _ hw)
  have hown : s.vm.findClass RX12 = some m.cls := findClass_of_methodNamed B.named
  have hlocks := B.notSynchronized
  subst hsz
  have hS : va_S (aM h ad s.heap.size) s.heap s.heap [] := va_S.rf
  have hl := lv_entry ([.ref h, .int a, .int b, .int v, .int d, .int f, .int g]) (n := 7) (Nat.le_of_ble_eq_true rfl)
  rw [lg_entry_eq]
  generalize (lg_sl ([.ref h, .int a, .int b, .int v, .int d, .int f, .int g]) ++ List.replicate (7 - (lg_sl ([.ref h, .int a, .int b, .int v, .int d, .int f, .int g])).length) Slot.unset).toArray = ls at hl ⊢
  have hl : lv_has ls 7 [(0, .ref h), (1, .int a), (2, .int b), (3, .int v), (4, .int d), (5, .int f), (6, .int g)] := hl
  have zc0 : (0 : Int32).toInt = 0 := by decide
  have zc1 : (1 : Int32).toInt = 1 := by decide
  have zc2 : (2 : Int32).toInt = 2 := by decide
  have zc9 : (9 : Int32).toInt = 9 := by decide
  have zc11 : (11 : Int32).toInt = 11 := by decide
  have zc12 : (12 : Int32).toInt = 12 := by decide
  have zc19 : (19 : Int32).toInt = 19 := by decide
  have zc99 : (99 : Int32).toInt = 99 := by decide
  have zc199 : (199 : Int32).toInt = 199 := by decide
  have zc719 : (719 : Int32).toInt = 719 := by decide
  have zc20 : (20 : Int32).toInt = 20 := by decide
  have zc340 : (340 : Int32).toInt = 340 := by decide
  have zcm1 : ((-1) : Int32).toInt = (-1) := by decide
  refine lv_aload_n hx hb dX12_trip_0 rfl (lv_at hl 0 rfl) ?_
  refine lv_iconst (v := 0) hx hb dX12_trip_1 (by decide) ?_
  refine pM_0 hx hb htg hown hK hP hS hd dX12_trip_2 (fun H locs fv_1 efv_1 hP hS => ?_)
  have hF_fv_1 : rF fv_1 := rF_put hF_fv efv_1 (iv_any _)
  refine lv_aload_n hx hb dX12_trip_5 rfl (lv_at hl 0 rfl) ?_
  refine gM_35 hx hb htg hown hK hP dX12_trip_6 ?_
  refine my_ti (y := fv 35) ((congrFun efv_1 35)) ?_
  have i_2 : 0 ≤ (fv 35).toInt ∧ (fv 35).toInt ≤ 80 := hF_fv 35
  refine lv_bipush (v := 80) hx hb dX12_trip_9 (by decide) ?_
  refine lv_icmp_eq (tgt := 95) hx hb dX12_trip_11 (by decide) (fun c_3 => ?_) (fun c_3 => ?_)
  · skip
    have i_4 : 80 ≤ (fv 35).toInt ∧ (fv 35).toInt ≤ 80 := iv_eq1 (⟨by decide, by decide⟩ : (80 : Int) ≤ (80 : Int32).toInt ∧ (80 : Int32).toInt ≤ 80) c_3
    refine lv_iconst (v := (-1)) hx hb dX12_trip_95 (by decide) ?_
    have z_6 : ((-1) : Int32).toInt = (-1) := by decide
    exact W.iret (v := (-1)) hx hb hr (fun t ht hW => ⟨⟨(-1), (fv_1, wd, ar), rfl, ⟨hF_fv_1, hA_ar, (fM_put (fM_rf [0, 35] _) efv_1 (by decide)), (fA_rf [25, 26, 27, 28, 29, 30, 31, 81] _), (show ps_trip ((-1) : Int32) (fv_1 35) (fv 35) (fv 34) (fv 33) (fv 3) a b v d f g from by have q_fv_1_33 : (fv_1 33).toInt = (fv 33).toInt := congrArg Int32.toInt ((fM_put (fM_rf [0] _) efv_1 (by decide)) 33 rfl); have q_fv_1_3 : (fv_1 3).toInt = (fv 3).toInt := congrArg Int32.toInt ((fM_put (fM_rf [0] _) efv_1 (by decide)) 3 rfl); have q_fv_1_6 : (fv_1 6).toInt = (fv 6).toInt := congrArg Int32.toInt ((fM_put (fM_rf [0] _) efv_1 (by decide)) 6 rfl); have q_fv_1_34 : (fv_1 34).toInt = (fv 34).toInt := congrArg Int32.toInt ((fM_put (fM_rf [0] _) efv_1 (by decide)) 34 rfl); have q_fv_1_35 : (fv_1 35).toInt = (fv 35).toInt := congrArg Int32.toInt ((fM_put (fM_rf [0] _) efv_1 (by decide)) 35 rfl); have q_fv_1_2 : (fv_1 2).toInt = (fv 2).toInt := congrArg Int32.toInt ((fM_put (fM_rf [0] _) efv_1 (by decide)) 2 rfl); exact Or.inl ⟨rfl, (congrFun efv_1 35), by omega⟩), trivial⟩, ⟨by rw [ht]; exact hP, va_K.moved hW.alike hK⟩⟩, hS.F ht⟩) hS.2.2 dX12_trip_96
  · skip
    have i_7 : 0 ≤ (fv 35).toInt ∧ (fv 35).toInt ≤ 79 := iv_neh i_2 (by decide) c_3
    have k_8 : ¬ (fv 35).toInt = 80 := fun q => c_3 (Int32.toInt_inj.mp q)
    refine lv_aload_n hx hb dX12_trip_14 rfl (lv_at hl 0 rfl) ?_
    refine lv_iload_n hx hb dX12_trip_15 rfl (lv_at hl 1 rfl) ?_
    refine va_calli (va_runV (As := [.int a]) (rest := []) ⟨hx, hb, hml, hown, hts⟩ (m_isWheelE l dC dI H.size h ad cA hd fv_1 wd ar hF_fv_1 hA_ar a) (cwV 1 hts (gV kw_8_40 kw_8_42 kw_p_63 kw_1_15 kw_8_43) rfl rfl rfl (by decide +kernel) ⟨Nat.le_of_ble_eq_true rfl, Nat.le_of_ble_eq_true rfl⟩) ⟨fun a U g mk q => ⟨q.1, q.2.1, q.2.2.1, va_K.moved (u := U) (U := U.calling g mk a) (Vm.Alike.refl U.vm) q.2.2.2⟩, va_recv hK hP (ci := 12) (q0 := 0) rfl rfl, fun U hU hW => ⟨rfl, by rw [hU], by rw [hU]; exact hP, va_K.moved hW.alike hK⟩⟩ rfl rfl hl.1 rfl (lv_room (Nat.le_of_ble_eq_true rfl)) dX12_trip_16 ⟨Nat.le_of_ble_eq_true rfl, Nat.le_of_ble_eq_true rfl⟩) hS (fun q _ h9 => aM_up hS q h9) (aM_up hS) (fun r_9 u t H1 locs ht _ hw hB _ hk1 hS => ?_)
    obtain ⟨fv_12, wd_13, ar_14⟩ := u
    obtain ⟨hF_fv_12, hA_ar_14, fr_15, fa_16, p_10, p_11, -⟩ := hw
    have hP : va_P (dC, dI) vwCl (wsM h ad cA fv_12 wd_13 ar_14) H1 := by have h9 := hB.1; rw [ht] at h9; exact h9
    have fr_15 : fM [] fv_1 fv_12 := fr_15
    have fa_16 : fA [] ar ar_14 := fa_16
    generalize H1 = H at hP hS ⊢
    rcases p_11 with ⟨rfl, p_11⟩ | ⟨rfl, p_11⟩
    · skip
      have q_17 : a.toInt < 0 ∨ (fv_1 34).toInt ≤ a.toInt := p_11
      refine lv_if_eq (tgt := 95) hx hb dX12_trip_19 (by decide) (fun c_18 => ?_) (fun c_18 => ?_)
      · skip
        refine lv_iconst (v := (-1)) hx hb dX12_trip_95 (by decide) ?_
        have z_19 : ((-1) : Int32).toInt = (-1) := by decide
        exact W.iret (v := (-1)) hx hb hr (fun t ht hW => ⟨⟨(-1), (fv_12, wd_13, ar_14), rfl, ⟨hF_fv_12, hA_ar_14, (fM_call (fM_put (fM_rf [0, 35] _) efv_1 (by decide)) fr_15 (by decide)), (fA_call (fA_rf [25, 26, 27, 28, 29, 30, 31, 81] _) fa_16 (by decide)), (show ps_trip ((-1) : Int32) (fv_12 35) (fv 35) (fv 34) (fv 33) (fv 3) a b v d f g from by have q_fv_1_33 : (fv_1 33).toInt = (fv 33).toInt := congrArg Int32.toInt ((fM_put (fM_rf [0] _) efv_1 (by decide)) 33 rfl); have q_fv_1_3 : (fv_1 3).toInt = (fv 3).toInt := congrArg Int32.toInt ((fM_put (fM_rf [0] _) efv_1 (by decide)) 3 rfl); have q_fv_1_6 : (fv_1 6).toInt = (fv 6).toInt := congrArg Int32.toInt ((fM_put (fM_rf [0] _) efv_1 (by decide)) 6 rfl); have q_fv_1_34 : (fv_1 34).toInt = (fv 34).toInt := congrArg Int32.toInt ((fM_put (fM_rf [0] _) efv_1 (by decide)) 34 rfl); have q_fv_1_35 : (fv_1 35).toInt = (fv 35).toInt := congrArg Int32.toInt ((fM_put (fM_rf [0] _) efv_1 (by decide)) 35 rfl); have q_fv_1_2 : (fv_1 2).toInt = (fv 2).toInt := congrArg Int32.toInt ((fM_put (fM_rf [0] _) efv_1 (by decide)) 2 rfl); have q_fv_12_33 : (fv_12 33).toInt = (fv 33).toInt := congrArg Int32.toInt ((fM_call (fM_put (fM_rf [0] _) efv_1 (by decide)) fr_15 (by decide)) 33 rfl); have q_fv_12_3 : (fv_12 3).toInt = (fv 3).toInt := congrArg Int32.toInt ((fM_call (fM_put (fM_rf [0] _) efv_1 (by decide)) fr_15 (by decide)) 3 rfl); have q_fv_12_6 : (fv_12 6).toInt = (fv 6).toInt := congrArg Int32.toInt ((fM_call (fM_put (fM_rf [0] _) efv_1 (by decide)) fr_15 (by decide)) 6 rfl); have q_fv_12_34 : (fv_12 34).toInt = (fv 34).toInt := congrArg Int32.toInt ((fM_call (fM_put (fM_rf [0] _) efv_1 (by decide)) fr_15 (by decide)) 34 rfl); have q_fv_12_35 : (fv_12 35).toInt = (fv 35).toInt := congrArg Int32.toInt ((fM_call (fM_put (fM_rf [0] _) efv_1 (by decide)) fr_15 (by decide)) 35 rfl); have q_fv_12_2 : (fv_12 2).toInt = (fv 2).toInt := congrArg Int32.toInt ((fM_call (fM_put (fM_rf [0] _) efv_1 (by decide)) fr_15 (by decide)) 2 rfl); exact Or.inl ⟨rfl, (fr_15 35 rfl).trans ((congrFun efv_1 35)), by omega⟩), trivial⟩, ⟨by rw [ht]; exact hP, va_K.moved hW.alike hK⟩⟩, hS.F ht⟩) hS.2.2 dX12_trip_96
      · skip
        exact absurd c_18 (by decide)
    · skip
      have i_20 : 0 ≤ a.toInt ∧ a.toInt ≤ 2147483647 := ⟨p_11.1, (iv_any a).2⟩
      have i_21 : 0 ≤ a.toInt ∧ a.toInt ≤ 19 := ⟨i_20.1, p_11.2.1⟩
      have q_22 : a.toInt < (fv_1 34).toInt := p_11.2.2
      refine lv_if_eq (tgt := 95) hx hb dX12_trip_19 (by decide) (fun c_23 => ?_) (fun c_23 => ?_)
      · skip
        exact absurd c_23 (by decide)
      · skip
        refine lv_iload_n hx hb dX12_trip_22 rfl (lv_at hl 2 rfl) ?_
        refine lv_iconst (v := 0) hx hb dX12_trip_23 (by decide) ?_
        refine lv_aload_n hx hb dX12_trip_24 rfl (lv_at hl 0 rfl) ?_
        refine gM_33 hx hb htg hown hK hP dX12_trip_25 ?_
        refine my_ti (y := fv 33) ((fr_15 33 rfl).trans ((congrFun efv_1 33))) ?_
        have i_24 : 0 ≤ (fv 33).toInt ∧ (fv 33).toInt ≤ 8 := hF_fv 33
        refine lv_iconst (v := 1) hx hb dX12_trip_28 (by decide) ?_
        refine lv_isub hx hb dX12_trip_29 ?_
        refine lv_topi (fun v_25 ev_25 => ?_)
        have t_26 : v_25.toInt = (fv 33).toInt - 1 ∧ (-1) ≤ v_25.toInt ∧ v_25.toInt ≤ 7 := iv_subc ev_25 i_24 (by decide) (by decide) (by decide)
        refine va_calli (va_runS (As := [.int b, .int 0, .int v_25]) (rest := []) ⟨hx, hb, hml, hown, hts⟩ (m_isIn l H.size b 0 v_25) (va_cwS 3 hts (gS kw_7_218 kw_7_219 kw_1_15 kw_7_220) rfl rfl rfl (by decide +kernel) ⟨Nat.le_of_ble_eq_true rfl, Nat.le_of_ble_eq_true rfl⟩) ⟨fun a U g mk q => ⟨q.1, q.2⟩, fun U hU hW => ⟨rfl, congrArg Array.size hU⟩⟩ rfl rfl hl.1 rfl (lv_room (Nat.le_of_ble_eq_true rfl)) dX12_trip_30 ⟨Nat.le_of_ble_eq_true rfl, Nat.le_of_ble_eq_true rfl⟩) hS (fun q _ h9 => nM_up hS q h9) (nM_up hS) (fun r_28 u t H1 locs ht _ hw hB _ hk1 hS => ?_)
        obtain ⟨p_29, p_30, -⟩ := hw
        have hP := my_keepM hP hk1
        generalize H1 = H at hP hS ⊢
        rcases p_30 with ⟨rfl, p_30⟩ | ⟨rfl, p_30⟩
        · skip
          refine lv_if_eq (tgt := 95) hx hb dX12_trip_33 (by decide) (fun c_31 => ?_) (fun c_31 => ?_)
          · skip
            refine lv_iconst (v := (-1)) hx hb dX12_trip_95 (by decide) ?_
            have z_32 : ((-1) : Int32).toInt = (-1) := by decide
            exact W.iret (v := (-1)) hx hb hr (fun t ht hW => ⟨⟨(-1), (fv_12, wd_13, ar_14), rfl, ⟨hF_fv_12, hA_ar_14, (fM_call (fM_put (fM_rf [0, 35] _) efv_1 (by decide)) fr_15 (by decide)), (fA_call (fA_rf [25, 26, 27, 28, 29, 30, 31, 81] _) fa_16 (by decide)), (show ps_trip ((-1) : Int32) (fv_12 35) (fv 35) (fv 34) (fv 33) (fv 3) a b v d f g from by have q_fv_1_33 : (fv_1 33).toInt = (fv 33).toInt := congrArg Int32.toInt ((fM_put (fM_rf [0] _) efv_1 (by decide)) 33 rfl); have q_fv_1_3 : (fv_1 3).toInt = (fv 3).toInt := congrArg Int32.toInt ((fM_put (fM_rf [0] _) efv_1 (by decide)) 3 rfl); have q_fv_1_6 : (fv_1 6).toInt = (fv 6).toInt := congrArg Int32.toInt ((fM_put (fM_rf [0] _) efv_1 (by decide)) 6 rfl); have q_fv_1_34 : (fv_1 34).toInt = (fv 34).toInt := congrArg Int32.toInt ((fM_put (fM_rf [0] _) efv_1 (by decide)) 34 rfl); have q_fv_1_35 : (fv_1 35).toInt = (fv 35).toInt := congrArg Int32.toInt ((fM_put (fM_rf [0] _) efv_1 (by decide)) 35 rfl); have q_fv_1_2 : (fv_1 2).toInt = (fv 2).toInt := congrArg Int32.toInt ((fM_put (fM_rf [0] _) efv_1 (by decide)) 2 rfl); have q_fv_12_33 : (fv_12 33).toInt = (fv 33).toInt := congrArg Int32.toInt ((fM_call (fM_put (fM_rf [0] _) efv_1 (by decide)) fr_15 (by decide)) 33 rfl); have q_fv_12_3 : (fv_12 3).toInt = (fv 3).toInt := congrArg Int32.toInt ((fM_call (fM_put (fM_rf [0] _) efv_1 (by decide)) fr_15 (by decide)) 3 rfl); have q_fv_12_6 : (fv_12 6).toInt = (fv 6).toInt := congrArg Int32.toInt ((fM_call (fM_put (fM_rf [0] _) efv_1 (by decide)) fr_15 (by decide)) 6 rfl); have q_fv_12_34 : (fv_12 34).toInt = (fv 34).toInt := congrArg Int32.toInt ((fM_call (fM_put (fM_rf [0] _) efv_1 (by decide)) fr_15 (by decide)) 34 rfl); have q_fv_12_35 : (fv_12 35).toInt = (fv 35).toInt := congrArg Int32.toInt ((fM_call (fM_put (fM_rf [0] _) efv_1 (by decide)) fr_15 (by decide)) 35 rfl); have q_fv_12_2 : (fv_12 2).toInt = (fv 2).toInt := congrArg Int32.toInt ((fM_call (fM_put (fM_rf [0] _) efv_1 (by decide)) fr_15 (by decide)) 2 rfl); exact Or.inl ⟨rfl, (fr_15 35 rfl).trans ((congrFun efv_1 35)), by omega⟩), trivial⟩, ⟨by rw [ht]; exact hP, va_K.moved hW.alike hK⟩⟩, hS.F ht⟩) hS.2.2 dX12_trip_96
          · skip
            exact absurd c_31 (by decide)
        · skip
          have i_33 : 0 ≤ b.toInt ∧ b.toInt ≤ 2147483647 := iv_le2 (⟨by decide, by decide⟩ : (0 : Int) ≤ (0 : Int32).toInt ∧ (0 : Int32).toInt ≤ 0) (iv_any b) (Int32.le_iff_toInt_le.mpr p_30.1)
          have i_34 : 0 ≤ b.toInt ∧ b.toInt ≤ 7 := iv_le1 i_33 t_26.2 (Int32.le_iff_toInt_le.mpr p_30.2)
          have i_35 : 0 ≤ v_25.toInt ∧ v_25.toInt ≤ 7 := iv_le2 i_33 t_26.2 (Int32.le_iff_toInt_le.mpr p_30.2)
          refine lv_if_eq (tgt := 95) hx hb dX12_trip_33 (by decide) (fun c_36 => ?_) (fun c_36 => ?_)
          · skip
            exact absurd c_36 (by decide)
          · skip
            refine lv_iload_n hx hb dX12_trip_36 rfl (lv_at hl 3 rfl) ?_
            refine lv_iconst (v := 0) hx hb dX12_trip_37 (by decide) ?_
            refine lv_aload_n hx hb dX12_trip_38 rfl (lv_at hl 0 rfl) ?_
            refine gM_33 hx hb htg hown hK hP dX12_trip_39 ?_
            refine my_ti (y := fv 33) ((fr_15 33 rfl).trans ((congrFun efv_1 33))) ?_
            refine lv_iconst (v := 1) hx hb dX12_trip_42 (by decide) ?_
            refine lv_isub hx hb dX12_trip_43 ?_
            refine my_ti (y := v_25) ev_25.symm ?_
            refine va_calli (va_runS (As := [.int v, .int 0, .int v_25]) (rest := []) ⟨hx, hb, hml, hown, hts⟩ (m_isIn l H.size v 0 v_25) (va_cwS 3 hts (gS kw_7_218 kw_7_219 kw_1_15 kw_7_220) rfl rfl rfl (by decide +kernel) ⟨Nat.le_of_ble_eq_true rfl, Nat.le_of_ble_eq_true rfl⟩) ⟨fun a U g mk q => ⟨q.1, q.2⟩, fun U hU hW => ⟨rfl, congrArg Array.size hU⟩⟩ rfl rfl hl.1 rfl (lv_room (Nat.le_of_ble_eq_true rfl)) dX12_trip_44 ⟨Nat.le_of_ble_eq_true rfl, Nat.le_of_ble_eq_true rfl⟩) hS (fun q _ h9 => nM_up hS q h9) (nM_up hS) (fun r_37 u t H1 locs ht _ hw hB _ hk1 hS => ?_)
            obtain ⟨p_38, p_39, -⟩ := hw
            have hP := my_keepM hP hk1
            generalize H1 = H at hP hS ⊢
            rcases p_39 with ⟨rfl, p_39⟩ | ⟨rfl, p_39⟩
            · skip
              refine lv_if_eq (tgt := 95) hx hb dX12_trip_47 (by decide) (fun c_40 => ?_) (fun c_40 => ?_)
              · skip
                refine lv_iconst (v := (-1)) hx hb dX12_trip_95 (by decide) ?_
                have z_41 : ((-1) : Int32).toInt = (-1) := by decide
                exact W.iret (v := (-1)) hx hb hr (fun t ht hW => ⟨⟨(-1), (fv_12, wd_13, ar_14), rfl, ⟨hF_fv_12, hA_ar_14, (fM_call (fM_put (fM_rf [0, 35] _) efv_1 (by decide)) fr_15 (by decide)), (fA_call (fA_rf [25, 26, 27, 28, 29, 30, 31, 81] _) fa_16 (by decide)), (show ps_trip ((-1) : Int32) (fv_12 35) (fv 35) (fv 34) (fv 33) (fv 3) a b v d f g from by have q_fv_1_33 : (fv_1 33).toInt = (fv 33).toInt := congrArg Int32.toInt ((fM_put (fM_rf [0] _) efv_1 (by decide)) 33 rfl); have q_fv_1_3 : (fv_1 3).toInt = (fv 3).toInt := congrArg Int32.toInt ((fM_put (fM_rf [0] _) efv_1 (by decide)) 3 rfl); have q_fv_1_6 : (fv_1 6).toInt = (fv 6).toInt := congrArg Int32.toInt ((fM_put (fM_rf [0] _) efv_1 (by decide)) 6 rfl); have q_fv_1_34 : (fv_1 34).toInt = (fv 34).toInt := congrArg Int32.toInt ((fM_put (fM_rf [0] _) efv_1 (by decide)) 34 rfl); have q_fv_1_35 : (fv_1 35).toInt = (fv 35).toInt := congrArg Int32.toInt ((fM_put (fM_rf [0] _) efv_1 (by decide)) 35 rfl); have q_fv_1_2 : (fv_1 2).toInt = (fv 2).toInt := congrArg Int32.toInt ((fM_put (fM_rf [0] _) efv_1 (by decide)) 2 rfl); have q_fv_12_33 : (fv_12 33).toInt = (fv 33).toInt := congrArg Int32.toInt ((fM_call (fM_put (fM_rf [0] _) efv_1 (by decide)) fr_15 (by decide)) 33 rfl); have q_fv_12_3 : (fv_12 3).toInt = (fv 3).toInt := congrArg Int32.toInt ((fM_call (fM_put (fM_rf [0] _) efv_1 (by decide)) fr_15 (by decide)) 3 rfl); have q_fv_12_6 : (fv_12 6).toInt = (fv 6).toInt := congrArg Int32.toInt ((fM_call (fM_put (fM_rf [0] _) efv_1 (by decide)) fr_15 (by decide)) 6 rfl); have q_fv_12_34 : (fv_12 34).toInt = (fv 34).toInt := congrArg Int32.toInt ((fM_call (fM_put (fM_rf [0] _) efv_1 (by decide)) fr_15 (by decide)) 34 rfl); have q_fv_12_35 : (fv_12 35).toInt = (fv 35).toInt := congrArg Int32.toInt ((fM_call (fM_put (fM_rf [0] _) efv_1 (by decide)) fr_15 (by decide)) 35 rfl); have q_fv_12_2 : (fv_12 2).toInt = (fv 2).toInt := congrArg Int32.toInt ((fM_call (fM_put (fM_rf [0] _) efv_1 (by decide)) fr_15 (by decide)) 2 rfl); exact Or.inl ⟨rfl, (fr_15 35 rfl).trans ((congrFun efv_1 35)), by omega⟩), trivial⟩, ⟨by rw [ht]; exact hP, va_K.moved hW.alike hK⟩⟩, hS.F ht⟩) hS.2.2 dX12_trip_96
              · skip
                exact absurd c_40 (by decide)
            · skip
              have i_42 : 0 ≤ v.toInt ∧ v.toInt ≤ 2147483647 := iv_le2 (⟨by decide, by decide⟩ : (0 : Int) ≤ (0 : Int32).toInt ∧ (0 : Int32).toInt ≤ 0) (iv_any v) (Int32.le_iff_toInt_le.mpr p_39.1)
              have i_43 : 0 ≤ v.toInt ∧ v.toInt ≤ 7 := iv_le1 i_42 i_35 (Int32.le_iff_toInt_le.mpr p_39.2)
              refine lv_if_eq (tgt := 95) hx hb dX12_trip_47 (by decide) (fun c_44 => ?_) (fun c_44 => ?_)
              · skip
                exact absurd c_44 (by decide)
              · skip
                refine lv_iload_n hx hb dX12_trip_50 rfl (lv_at hl 2 rfl) ?_
                refine lv_iload_n hx hb dX12_trip_51 rfl (lv_at hl 3 rfl) ?_
                refine lv_icmp_eq (tgt := 95) hx hb dX12_trip_52 (by decide) (fun c_45 => ?_) (fun c_45 => ?_)
                · skip
                  have k_46 := congrArg Int32.toInt c_45
                  refine lv_iconst (v := (-1)) hx hb dX12_trip_95 (by decide) ?_
                  have z_47 : ((-1) : Int32).toInt = (-1) := by decide
                  exact W.iret (v := (-1)) hx hb hr (fun t ht hW => ⟨⟨(-1), (fv_12, wd_13, ar_14), rfl, ⟨hF_fv_12, hA_ar_14, (fM_call (fM_put (fM_rf [0, 35] _) efv_1 (by decide)) fr_15 (by decide)), (fA_call (fA_rf [25, 26, 27, 28, 29, 30, 31, 81] _) fa_16 (by decide)), (show ps_trip ((-1) : Int32) (fv_12 35) (fv 35) (fv 34) (fv 33) (fv 3) a b v d f g from by have q_fv_1_33 : (fv_1 33).toInt = (fv 33).toInt := congrArg Int32.toInt ((fM_put (fM_rf [0] _) efv_1 (by decide)) 33 rfl); have q_fv_1_3 : (fv_1 3).toInt = (fv 3).toInt := congrArg Int32.toInt ((fM_put (fM_rf [0] _) efv_1 (by decide)) 3 rfl); have q_fv_1_6 : (fv_1 6).toInt = (fv 6).toInt := congrArg Int32.toInt ((fM_put (fM_rf [0] _) efv_1 (by decide)) 6 rfl); have q_fv_1_34 : (fv_1 34).toInt = (fv 34).toInt := congrArg Int32.toInt ((fM_put (fM_rf [0] _) efv_1 (by decide)) 34 rfl); have q_fv_1_35 : (fv_1 35).toInt = (fv 35).toInt := congrArg Int32.toInt ((fM_put (fM_rf [0] _) efv_1 (by decide)) 35 rfl); have q_fv_1_2 : (fv_1 2).toInt = (fv 2).toInt := congrArg Int32.toInt ((fM_put (fM_rf [0] _) efv_1 (by decide)) 2 rfl); have q_fv_12_33 : (fv_12 33).toInt = (fv 33).toInt := congrArg Int32.toInt ((fM_call (fM_put (fM_rf [0] _) efv_1 (by decide)) fr_15 (by decide)) 33 rfl); have q_fv_12_3 : (fv_12 3).toInt = (fv 3).toInt := congrArg Int32.toInt ((fM_call (fM_put (fM_rf [0] _) efv_1 (by decide)) fr_15 (by decide)) 3 rfl); have q_fv_12_6 : (fv_12 6).toInt = (fv 6).toInt := congrArg Int32.toInt ((fM_call (fM_put (fM_rf [0] _) efv_1 (by decide)) fr_15 (by decide)) 6 rfl); have q_fv_12_34 : (fv_12 34).toInt = (fv 34).toInt := congrArg Int32.toInt ((fM_call (fM_put (fM_rf [0] _) efv_1 (by decide)) fr_15 (by decide)) 34 rfl); have q_fv_12_35 : (fv_12 35).toInt = (fv 35).toInt := congrArg Int32.toInt ((fM_call (fM_put (fM_rf [0] _) efv_1 (by decide)) fr_15 (by decide)) 35 rfl); have q_fv_12_2 : (fv_12 2).toInt = (fv 2).toInt := congrArg Int32.toInt ((fM_call (fM_put (fM_rf [0] _) efv_1 (by decide)) fr_15 (by decide)) 2 rfl); exact Or.inl ⟨rfl, (fr_15 35 rfl).trans ((congrFun efv_1 35)), by omega⟩), trivial⟩, ⟨by rw [ht]; exact hP, va_K.moved hW.alike hK⟩⟩, hS.F ht⟩) hS.2.2 dX12_trip_96
                · skip
                  have k_48 : ¬ b.toInt = v.toInt := fun q => c_45 (Int32.toInt_inj.mp q)
                  refine lv_iload hx hb dX12_trip_55 (lv_at hl 4 rfl) ?_
                  refine lv_iconst (v := 0) hx hb dX12_trip_57 (by decide) ?_
                  refine lv_sipush (v := 719) hx hb dX12_trip_58 (by decide) ?_
                  refine va_calli (va_runS (As := [.int d, .int 0, .int 719]) (rest := []) ⟨hx, hb, hml, hown, hts⟩ (m_isIn l H.size d 0 719) (va_cwS 3 hts (gS kw_7_218 kw_7_219 kw_1_15 kw_7_220) rfl rfl rfl (by decide +kernel) ⟨Nat.le_of_ble_eq_true rfl, Nat.le_of_ble_eq_true rfl⟩) ⟨fun a U g mk q => ⟨q.1, q.2⟩, fun U hU hW => ⟨rfl, congrArg Array.size hU⟩⟩ rfl rfl hl.1 rfl (lv_room (Nat.le_of_ble_eq_true rfl)) dX12_trip_61 ⟨Nat.le_of_ble_eq_true rfl, Nat.le_of_ble_eq_true rfl⟩) hS (fun q _ h9 => nM_up hS q h9) (nM_up hS) (fun r_49 u t H1 locs ht _ hw hB _ hk1 hS => ?_)
                  obtain ⟨p_50, p_51, -⟩ := hw
                  have hP := my_keepM hP hk1
                  generalize H1 = H at hP hS ⊢
                  rcases p_51 with ⟨rfl, p_51⟩ | ⟨rfl, p_51⟩
                  · skip
                    refine lv_if_eq (tgt := 95) hx hb dX12_trip_64 (by decide) (fun c_52 => ?_) (fun c_52 => ?_)
                    · skip
                      refine lv_iconst (v := (-1)) hx hb dX12_trip_95 (by decide) ?_
                      have z_53 : ((-1) : Int32).toInt = (-1) := by decide
                      exact W.iret (v := (-1)) hx hb hr (fun t ht hW => ⟨⟨(-1), (fv_12, wd_13, ar_14), rfl, ⟨hF_fv_12, hA_ar_14, (fM_call (fM_put (fM_rf [0, 35] _) efv_1 (by decide)) fr_15 (by decide)), (fA_call (fA_rf [25, 26, 27, 28, 29, 30, 31, 81] _) fa_16 (by decide)), (show ps_trip ((-1) : Int32) (fv_12 35) (fv 35) (fv 34) (fv 33) (fv 3) a b v d f g from by have q_fv_1_33 : (fv_1 33).toInt = (fv 33).toInt := congrArg Int32.toInt ((fM_put (fM_rf [0] _) efv_1 (by decide)) 33 rfl); have q_fv_1_3 : (fv_1 3).toInt = (fv 3).toInt := congrArg Int32.toInt ((fM_put (fM_rf [0] _) efv_1 (by decide)) 3 rfl); have q_fv_1_6 : (fv_1 6).toInt = (fv 6).toInt := congrArg Int32.toInt ((fM_put (fM_rf [0] _) efv_1 (by decide)) 6 rfl); have q_fv_1_34 : (fv_1 34).toInt = (fv 34).toInt := congrArg Int32.toInt ((fM_put (fM_rf [0] _) efv_1 (by decide)) 34 rfl); have q_fv_1_35 : (fv_1 35).toInt = (fv 35).toInt := congrArg Int32.toInt ((fM_put (fM_rf [0] _) efv_1 (by decide)) 35 rfl); have q_fv_1_2 : (fv_1 2).toInt = (fv 2).toInt := congrArg Int32.toInt ((fM_put (fM_rf [0] _) efv_1 (by decide)) 2 rfl); have q_fv_12_33 : (fv_12 33).toInt = (fv 33).toInt := congrArg Int32.toInt ((fM_call (fM_put (fM_rf [0] _) efv_1 (by decide)) fr_15 (by decide)) 33 rfl); have q_fv_12_3 : (fv_12 3).toInt = (fv 3).toInt := congrArg Int32.toInt ((fM_call (fM_put (fM_rf [0] _) efv_1 (by decide)) fr_15 (by decide)) 3 rfl); have q_fv_12_6 : (fv_12 6).toInt = (fv 6).toInt := congrArg Int32.toInt ((fM_call (fM_put (fM_rf [0] _) efv_1 (by decide)) fr_15 (by decide)) 6 rfl); have q_fv_12_34 : (fv_12 34).toInt = (fv 34).toInt := congrArg Int32.toInt ((fM_call (fM_put (fM_rf [0] _) efv_1 (by decide)) fr_15 (by decide)) 34 rfl); have q_fv_12_35 : (fv_12 35).toInt = (fv 35).toInt := congrArg Int32.toInt ((fM_call (fM_put (fM_rf [0] _) efv_1 (by decide)) fr_15 (by decide)) 35 rfl); have q_fv_12_2 : (fv_12 2).toInt = (fv 2).toInt := congrArg Int32.toInt ((fM_call (fM_put (fM_rf [0] _) efv_1 (by decide)) fr_15 (by decide)) 2 rfl); exact Or.inl ⟨rfl, (fr_15 35 rfl).trans ((congrFun efv_1 35)), by omega⟩), trivial⟩, ⟨by rw [ht]; exact hP, va_K.moved hW.alike hK⟩⟩, hS.F ht⟩) hS.2.2 dX12_trip_96
                    · skip
                      exact absurd c_52 (by decide)
                  · skip
                    have i_54 : 0 ≤ d.toInt ∧ d.toInt ≤ 2147483647 := iv_le2 (⟨by decide, by decide⟩ : (0 : Int) ≤ (0 : Int32).toInt ∧ (0 : Int32).toInt ≤ 0) (iv_any d) (Int32.le_iff_toInt_le.mpr p_51.1)
                    have i_55 : 0 ≤ d.toInt ∧ d.toInt ≤ 719 := iv_le1 i_54 (⟨by decide, by decide⟩ : (719 : Int) ≤ (719 : Int32).toInt ∧ (719 : Int32).toInt ≤ 719) (Int32.le_iff_toInt_le.mpr p_51.2)
                    refine lv_if_eq (tgt := 95) hx hb dX12_trip_64 (by decide) (fun c_56 => ?_) (fun c_56 => ?_)
                    · skip
                      exact absurd c_56 (by decide)
                    · skip
                      refine lv_iload hx hb dX12_trip_67 (lv_at hl 5 rfl) ?_
                      refine lv_aload_n hx hb dX12_trip_69 rfl (lv_at hl 0 rfl) ?_
                      refine gM_3 hx hb htg hown hK hP dX12_trip_70 ?_
                      refine my_ti (y := fv 3) ((fr_15 3 rfl).trans ((congrFun efv_1 3))) ?_
                      have i_57 : 0 ≤ (fv 3).toInt ∧ (fv 3).toInt ≤ 199 := hF_fv 3
                      refine lv_sipush (v := 199) hx hb dX12_trip_73 (by decide) ?_
                      refine va_calli (va_runS (As := [.int f, .int (fv 3), .int 199]) (rest := []) ⟨hx, hb, hml, hown, hts⟩ (m_isIn l H.size f (fv 3) 199) (va_cwS 3 hts (gS kw_7_218 kw_7_219 kw_1_15 kw_7_220) rfl rfl rfl (by decide +kernel) ⟨Nat.le_of_ble_eq_true rfl, Nat.le_of_ble_eq_true rfl⟩) ⟨fun a U g mk q => ⟨q.1, q.2⟩, fun U hU hW => ⟨rfl, congrArg Array.size hU⟩⟩ rfl rfl hl.1 rfl (lv_room (Nat.le_of_ble_eq_true rfl)) dX12_trip_76 ⟨Nat.le_of_ble_eq_true rfl, Nat.le_of_ble_eq_true rfl⟩) hS (fun q _ h9 => nM_up hS q h9) (nM_up hS) (fun r_58 u t H1 locs ht _ hw hB _ hk1 hS => ?_)
                      obtain ⟨p_59, p_60, -⟩ := hw
                      have hP := my_keepM hP hk1
                      generalize H1 = H at hP hS ⊢
                      rcases p_60 with ⟨rfl, p_60⟩ | ⟨rfl, p_60⟩
                      · skip
                        refine lv_if_eq (tgt := 95) hx hb dX12_trip_79 (by decide) (fun c_61 => ?_) (fun c_61 => ?_)
                        · skip
                          refine lv_iconst (v := (-1)) hx hb dX12_trip_95 (by decide) ?_
                          have z_62 : ((-1) : Int32).toInt = (-1) := by decide
                          exact W.iret (v := (-1)) hx hb hr (fun t ht hW => ⟨⟨(-1), (fv_12, wd_13, ar_14), rfl, ⟨hF_fv_12, hA_ar_14, (fM_call (fM_put (fM_rf [0, 35] _) efv_1 (by decide)) fr_15 (by decide)), (fA_call (fA_rf [25, 26, 27, 28, 29, 30, 31, 81] _) fa_16 (by decide)), (show ps_trip ((-1) : Int32) (fv_12 35) (fv 35) (fv 34) (fv 33) (fv 3) a b v d f g from by have q_fv_1_33 : (fv_1 33).toInt = (fv 33).toInt := congrArg Int32.toInt ((fM_put (fM_rf [0] _) efv_1 (by decide)) 33 rfl); have q_fv_1_3 : (fv_1 3).toInt = (fv 3).toInt := congrArg Int32.toInt ((fM_put (fM_rf [0] _) efv_1 (by decide)) 3 rfl); have q_fv_1_6 : (fv_1 6).toInt = (fv 6).toInt := congrArg Int32.toInt ((fM_put (fM_rf [0] _) efv_1 (by decide)) 6 rfl); have q_fv_1_34 : (fv_1 34).toInt = (fv 34).toInt := congrArg Int32.toInt ((fM_put (fM_rf [0] _) efv_1 (by decide)) 34 rfl); have q_fv_1_35 : (fv_1 35).toInt = (fv 35).toInt := congrArg Int32.toInt ((fM_put (fM_rf [0] _) efv_1 (by decide)) 35 rfl); have q_fv_1_2 : (fv_1 2).toInt = (fv 2).toInt := congrArg Int32.toInt ((fM_put (fM_rf [0] _) efv_1 (by decide)) 2 rfl); have q_fv_12_33 : (fv_12 33).toInt = (fv 33).toInt := congrArg Int32.toInt ((fM_call (fM_put (fM_rf [0] _) efv_1 (by decide)) fr_15 (by decide)) 33 rfl); have q_fv_12_3 : (fv_12 3).toInt = (fv 3).toInt := congrArg Int32.toInt ((fM_call (fM_put (fM_rf [0] _) efv_1 (by decide)) fr_15 (by decide)) 3 rfl); have q_fv_12_6 : (fv_12 6).toInt = (fv 6).toInt := congrArg Int32.toInt ((fM_call (fM_put (fM_rf [0] _) efv_1 (by decide)) fr_15 (by decide)) 6 rfl); have q_fv_12_34 : (fv_12 34).toInt = (fv 34).toInt := congrArg Int32.toInt ((fM_call (fM_put (fM_rf [0] _) efv_1 (by decide)) fr_15 (by decide)) 34 rfl); have q_fv_12_35 : (fv_12 35).toInt = (fv 35).toInt := congrArg Int32.toInt ((fM_call (fM_put (fM_rf [0] _) efv_1 (by decide)) fr_15 (by decide)) 35 rfl); have q_fv_12_2 : (fv_12 2).toInt = (fv 2).toInt := congrArg Int32.toInt ((fM_call (fM_put (fM_rf [0] _) efv_1 (by decide)) fr_15 (by decide)) 2 rfl); exact Or.inl ⟨rfl, (fr_15 35 rfl).trans ((congrFun efv_1 35)), by omega⟩), trivial⟩, ⟨by rw [ht]; exact hP, va_K.moved hW.alike hK⟩⟩, hS.F ht⟩) hS.2.2 dX12_trip_96
                        · skip
                          exact absurd c_61 (by decide)
                      · skip
                        have i_63 : 0 ≤ f.toInt ∧ f.toInt ≤ 2147483647 := iv_le2 i_57 (iv_any f) (Int32.le_iff_toInt_le.mpr p_60.1)
                        have i_64 : 0 ≤ f.toInt ∧ f.toInt ≤ 199 := iv_le1 i_63 (⟨by decide, by decide⟩ : (199 : Int) ≤ (199 : Int32).toInt ∧ (199 : Int32).toInt ≤ 199) (Int32.le_iff_toInt_le.mpr p_60.2)
                        refine lv_if_eq (tgt := 95) hx hb dX12_trip_79 (by decide) (fun c_65 => ?_) (fun c_65 => ?_)
                        · skip
                          exact absurd c_65 (by decide)
                        · skip
                          refine lv_iload hx hb dX12_trip_82 (lv_at hl 6 rfl) ?_
                          refine lv_iload hx hb dX12_trip_84 (lv_at hl 5 rfl) ?_
                          refine lv_sipush (v := 199) hx hb dX12_trip_86 (by decide) ?_
                          refine va_calli (va_runS (As := [.int g, .int f, .int 199]) (rest := []) ⟨hx, hb, hml, hown, hts⟩ (m_isIn l H.size g f 199) (va_cwS 3 hts (gS kw_7_218 kw_7_219 kw_1_15 kw_7_220) rfl rfl rfl (by decide +kernel) ⟨Nat.le_of_ble_eq_true rfl, Nat.le_of_ble_eq_true rfl⟩) ⟨fun a U g mk q => ⟨q.1, q.2⟩, fun U hU hW => ⟨rfl, congrArg Array.size hU⟩⟩ rfl rfl hl.1 rfl (lv_room (Nat.le_of_ble_eq_true rfl)) dX12_trip_89 ⟨Nat.le_of_ble_eq_true rfl, Nat.le_of_ble_eq_true rfl⟩) hS (fun q _ h9 => nM_up hS q h9) (nM_up hS) (fun r_66 u t H1 locs ht _ hw hB _ hk1 hS => ?_)
                          obtain ⟨p_67, p_68, -⟩ := hw
                          have hP := my_keepM hP hk1
                          generalize H1 = H at hP hS ⊢
                          rcases p_68 with ⟨rfl, p_68⟩ | ⟨rfl, p_68⟩
                          · skip
                            refine lv_if_ne (tgt := 97) hx hb dX12_trip_92 (by decide) (fun c_69 => ?_) (fun c_69 => ?_)
                            · skip
                              exact absurd c_69 (by decide)
                            · skip
                              refine lv_iconst (v := (-1)) hx hb dX12_trip_95 (by decide) ?_
                              have z_70 : ((-1) : Int32).toInt = (-1) := by decide
                              exact W.iret (v := (-1)) hx hb hr (fun t ht hW => ⟨⟨(-1), (fv_12, wd_13, ar_14), rfl, ⟨hF_fv_12, hA_ar_14, (fM_call (fM_put (fM_rf [0, 35] _) efv_1 (by decide)) fr_15 (by decide)), (fA_call (fA_rf [25, 26, 27, 28, 29, 30, 31, 81] _) fa_16 (by decide)), (show ps_trip ((-1) : Int32) (fv_12 35) (fv 35) (fv 34) (fv 33) (fv 3) a b v d f g from by have q_fv_1_33 : (fv_1 33).toInt = (fv 33).toInt := congrArg Int32.toInt ((fM_put (fM_rf [0] _) efv_1 (by decide)) 33 rfl); have q_fv_1_3 : (fv_1 3).toInt = (fv 3).toInt := congrArg Int32.toInt ((fM_put (fM_rf [0] _) efv_1 (by decide)) 3 rfl); have q_fv_1_6 : (fv_1 6).toInt = (fv 6).toInt := congrArg Int32.toInt ((fM_put (fM_rf [0] _) efv_1 (by decide)) 6 rfl); have q_fv_1_34 : (fv_1 34).toInt = (fv 34).toInt := congrArg Int32.toInt ((fM_put (fM_rf [0] _) efv_1 (by decide)) 34 rfl); have q_fv_1_35 : (fv_1 35).toInt = (fv 35).toInt := congrArg Int32.toInt ((fM_put (fM_rf [0] _) efv_1 (by decide)) 35 rfl); have q_fv_1_2 : (fv_1 2).toInt = (fv 2).toInt := congrArg Int32.toInt ((fM_put (fM_rf [0] _) efv_1 (by decide)) 2 rfl); have q_fv_12_33 : (fv_12 33).toInt = (fv 33).toInt := congrArg Int32.toInt ((fM_call (fM_put (fM_rf [0] _) efv_1 (by decide)) fr_15 (by decide)) 33 rfl); have q_fv_12_3 : (fv_12 3).toInt = (fv 3).toInt := congrArg Int32.toInt ((fM_call (fM_put (fM_rf [0] _) efv_1 (by decide)) fr_15 (by decide)) 3 rfl); have q_fv_12_6 : (fv_12 6).toInt = (fv 6).toInt := congrArg Int32.toInt ((fM_call (fM_put (fM_rf [0] _) efv_1 (by decide)) fr_15 (by decide)) 6 rfl); have q_fv_12_34 : (fv_12 34).toInt = (fv 34).toInt := congrArg Int32.toInt ((fM_call (fM_put (fM_rf [0] _) efv_1 (by decide)) fr_15 (by decide)) 34 rfl); have q_fv_12_35 : (fv_12 35).toInt = (fv 35).toInt := congrArg Int32.toInt ((fM_call (fM_put (fM_rf [0] _) efv_1 (by decide)) fr_15 (by decide)) 35 rfl); have q_fv_12_2 : (fv_12 2).toInt = (fv 2).toInt := congrArg Int32.toInt ((fM_call (fM_put (fM_rf [0] _) efv_1 (by decide)) fr_15 (by decide)) 2 rfl); exact Or.inl ⟨rfl, (fr_15 35 rfl).trans ((congrFun efv_1 35)), by omega⟩), trivial⟩, ⟨by rw [ht]; exact hP, va_K.moved hW.alike hK⟩⟩, hS.F ht⟩) hS.2.2 dX12_trip_96
                          · skip
                            have i_71 : 0 ≤ g.toInt ∧ g.toInt ≤ 2147483647 := iv_le2 i_64 (iv_any g) (Int32.le_iff_toInt_le.mpr p_68.1)
                            have i_72 : 0 ≤ g.toInt ∧ g.toInt ≤ 199 := iv_le1 i_71 (⟨by decide, by decide⟩ : (199 : Int) ≤ (199 : Int32).toInt ∧ (199 : Int32).toInt ≤ 199) (Int32.le_iff_toInt_le.mpr p_68.2)
                            refine lv_if_ne (tgt := 97) hx hb dX12_trip_92 (by decide) (fun c_73 => ?_) (fun c_73 => ?_)
                            · skip
                              refine lv_aload_n hx hb dX12_trip_97 rfl (lv_at hl 0 rfl) ?_
                              refine gM_25 hx hb htg hown hK hP dX12_trip_98 ?_
                              refine lv_aload_n hx hb dX12_trip_101 rfl (lv_at hl 0 rfl) ?_
                              refine gM_35 hx hb htg hown hK hP dX12_trip_102 ?_
                              refine my_ti (y := fv 35) ((fr_15 35 rfl).trans ((congrFun efv_1 35))) ?_
                              refine lv_iload_n hx hb dX12_trip_105 rfl (lv_at hl 1 rfl) ?_
                              refine sM_25 hx hb hK hP hS hd (iv_in i_7 (by decide) (by decide)) dX12_trip_106 (fun H locs ar_74 ear_74 hP hS => ?_)
                              have hA_ar_74 : rA ar_74 := rA_put hA_ar_14 ear_74 i_21
                              refine lv_aload_n hx hb dX12_trip_107 rfl (lv_at hl 0 rfl) ?_
                              refine gM_26 hx hb htg hown hK hP dX12_trip_108 ?_
                              refine lv_aload_n hx hb dX12_trip_111 rfl (lv_at hl 0 rfl) ?_
                              refine gM_35 hx hb htg hown hK hP dX12_trip_112 ?_
                              refine my_ti (y := fv 35) ((fr_15 35 rfl).trans ((congrFun efv_1 35))) ?_
                              refine lv_iload_n hx hb dX12_trip_115 rfl (lv_at hl 2 rfl) ?_
                              refine sM_26 hx hb hK hP hS hd (iv_in i_7 (by decide) (by decide)) dX12_trip_116 (fun H locs ar_75 ear_75 hP hS => ?_)
                              have hA_ar_75 : rA ar_75 := rA_put hA_ar_74 ear_75 i_34
                              refine lv_aload_n hx hb dX12_trip_117 rfl (lv_at hl 0 rfl) ?_
                              refine gM_27 hx hb htg hown hK hP dX12_trip_118 ?_
                              refine lv_aload_n hx hb dX12_trip_121 rfl (lv_at hl 0 rfl) ?_
                              refine gM_35 hx hb htg hown hK hP dX12_trip_122 ?_
                              refine my_ti (y := fv 35) ((fr_15 35 rfl).trans ((congrFun efv_1 35))) ?_
                              refine lv_iload_n hx hb dX12_trip_125 rfl (lv_at hl 3 rfl) ?_
                              refine sM_27 hx hb hK hP hS hd (iv_in i_7 (by decide) (by decide)) dX12_trip_126 (fun H locs ar_76 ear_76 hP hS => ?_)
                              have hA_ar_76 : rA ar_76 := rA_put hA_ar_75 ear_76 i_43
                              refine lv_aload_n hx hb dX12_trip_127 rfl (lv_at hl 0 rfl) ?_
                              refine gM_28 hx hb htg hown hK hP dX12_trip_128 ?_
                              refine lv_aload_n hx hb dX12_trip_131 rfl (lv_at hl 0 rfl) ?_
                              refine gM_35 hx hb htg hown hK hP dX12_trip_132 ?_
                              refine my_ti (y := fv 35) ((fr_15 35 rfl).trans ((congrFun efv_1 35))) ?_
                              refine lv_iload hx hb dX12_trip_135 (lv_at hl 4 rfl) ?_
                              refine sM_28 hx hb hK hP hS hd (iv_in i_7 (by decide) (by decide)) dX12_trip_137 (fun H locs ar_77 ear_77 hP hS => ?_)
                              have hA_ar_77 : rA ar_77 := rA_put hA_ar_76 ear_77 (iv_any _)
                              refine lv_aload_n hx hb dX12_trip_138 rfl (lv_at hl 0 rfl) ?_
                              refine gM_29 hx hb htg hown hK hP dX12_trip_139 ?_
                              refine lv_aload_n hx hb dX12_trip_142 rfl (lv_at hl 0 rfl) ?_
                              refine gM_35 hx hb htg hown hK hP dX12_trip_143 ?_
                              refine my_ti (y := fv 35) ((fr_15 35 rfl).trans ((congrFun efv_1 35))) ?_
                              refine lv_iload hx hb dX12_trip_146 (lv_at hl 5 rfl) ?_
                              refine sM_29 hx hb hK hP hS hd (iv_in i_7 (by decide) (by decide)) dX12_trip_148 (fun H locs ar_78 ear_78 hP hS => ?_)
                              have hA_ar_78 : rA ar_78 := rA_put hA_ar_77 ear_78 (iv_any _)
                              refine lv_aload_n hx hb dX12_trip_149 rfl (lv_at hl 0 rfl) ?_
                              refine gM_30 hx hb htg hown hK hP dX12_trip_150 ?_
                              refine lv_aload_n hx hb dX12_trip_153 rfl (lv_at hl 0 rfl) ?_
                              refine gM_35 hx hb htg hown hK hP dX12_trip_154 ?_
                              refine my_ti (y := fv 35) ((fr_15 35 rfl).trans ((congrFun efv_1 35))) ?_
                              refine lv_iload hx hb dX12_trip_157 (lv_at hl 6 rfl) ?_
                              refine sM_30 hx hb hK hP hS hd (iv_in i_7 (by decide) (by decide)) dX12_trip_159 (fun H locs ar_79 ear_79 hP hS => ?_)
                              have hA_ar_79 : rA ar_79 := rA_put hA_ar_78 ear_79 (iv_any _)
                              refine lv_aload_n hx hb dX12_trip_160 rfl (lv_at hl 0 rfl) ?_
                              refine gM_31 hx hb htg hown hK hP dX12_trip_161 ?_
                              refine lv_aload_n hx hb dX12_trip_164 rfl (lv_at hl 0 rfl) ?_
                              refine gM_35 hx hb htg hown hK hP dX12_trip_165 ?_
                              refine my_ti (y := fv 35) ((fr_15 35 rfl).trans ((congrFun efv_1 35))) ?_
                              refine lv_aload_n hx hb dX12_trip_168 rfl (lv_at hl 0 rfl) ?_
                              refine gM_3 hx hb htg hown hK hP dX12_trip_169 ?_
                              refine my_ti (y := fv 3) ((fr_15 3 rfl).trans ((congrFun efv_1 3))) ?_
                              refine sM_31 hx hb hK hP hS hd (iv_in i_7 (by decide) (by decide)) dX12_trip_172 (fun H locs ar_80 ear_80 hP hS => ?_)
                              have hA_ar_80 : rA ar_80 := rA_put hA_ar_79 ear_80 (iv_any _)
                              refine lv_aload_n hx hb dX12_trip_173 rfl (lv_at hl 0 rfl) ?_
                              refine gM_81 hx hb htg hown hK hP dX12_trip_174 ?_
                              refine lv_aload_n hx hb dX12_trip_177 rfl (lv_at hl 0 rfl) ?_
                              refine gM_35 hx hb htg hown hK hP dX12_trip_178 ?_
                              refine my_ti (y := fv 35) ((fr_15 35 rfl).trans ((congrFun efv_1 35))) ?_
                              refine lv_iconst (v := (-1)) hx hb dX12_trip_181 (by decide) ?_
                              refine sM_81 hx hb hK hP hS hd (iv_in i_7 (by decide) (by decide)) dX12_trip_182 (fun H locs ar_81 ear_81 hP hS => ?_)
                              have hA_ar_81 : rA ar_81 := rA_put hA_ar_80 ear_81 (iv_any _)
                              refine lv_aload_n hx hb dX12_trip_183 rfl (lv_at hl 0 rfl) ?_
                              refine lv_dup hx hb dX12_trip_184 rfl ?_
                              refine gM_35 hx hb htg hown hK hP dX12_trip_185 ?_
                              refine my_ti (y := fv 35) ((fr_15 35 rfl).trans ((congrFun efv_1 35))) ?_
                              refine lv_iconst (v := 1) hx hb dX12_trip_188 (by decide) ?_
                              refine lv_iadd hx hb dX12_trip_189 ?_
                              refine lv_topi (fun v_82 ev_82 => ?_)
                              have t_83 : v_82.toInt = (fv 35).toInt + 1 ∧ 1 ≤ v_82.toInt ∧ v_82.toInt ≤ 80 := iv_addc ev_82 i_7 (by decide) (by decide) (by decide)
                              refine pM_35 hx hb htg hown hK hP hS hd dX12_trip_190 (fun H locs fv_85 efv_85 hP hS => ?_)
                              have hF_fv_85 : rF fv_85 := rF_put hF_fv_12 efv_85 (iv_w t_83.2 (by decide) (by decide))
                              refine lv_aload_n hx hb dX12_trip_193 rfl (lv_at hl 0 rfl) ?_
                              refine gM_35 hx hb htg hown hK hP dX12_trip_194 ?_
                              refine my_ti (y := v_82) ((congrFun efv_85 35)) ?_
                              refine lv_iconst (v := 1) hx hb dX12_trip_197 (by decide) ?_
                              refine lv_isub hx hb dX12_trip_198 ?_
                              refine lv_topi (fun v_86 ev_86 => ?_)
                              have t_87 : v_86.toInt = v_82.toInt - 1 ∧ 0 ≤ v_86.toInt ∧ v_86.toInt ≤ 79 := iv_subc ev_86 t_83.2 (by decide) (by decide) (by decide)
                              exact W.iret (v := v_86) hx hb hr (fun t ht hW => ⟨⟨v_86, (fv_85, wd_13, ar_81), rfl, ⟨hF_fv_85, hA_ar_81, (fM_put (fM_call (fM_put (fM_rf [0, 35] _) efv_1 (by decide)) fr_15 (by decide)) efv_85 (by decide)), (fA_put (fA_put (fA_put (fA_put (fA_put (fA_put (fA_put (fA_put (fA_call (fA_rf [25, 26, 27, 28, 29, 30, 31, 81] _) fa_16 (by decide)) ear_74 (by decide)) ear_75 (by decide)) ear_76 (by decide)) ear_77 (by decide)) ear_78 (by decide)) ear_79 (by decide)) ear_80 (by decide)) ear_81 (by decide)), (show ps_trip v_86 (fv_85 35) (fv 35) (fv 34) (fv 33) (fv 3) a b v d f g from by have q_fv_1_33 : (fv_1 33).toInt = (fv 33).toInt := congrArg Int32.toInt ((fM_put (fM_rf [0] _) efv_1 (by decide)) 33 rfl); have q_fv_1_3 : (fv_1 3).toInt = (fv 3).toInt := congrArg Int32.toInt ((fM_put (fM_rf [0] _) efv_1 (by decide)) 3 rfl); have q_fv_1_6 : (fv_1 6).toInt = (fv 6).toInt := congrArg Int32.toInt ((fM_put (fM_rf [0] _) efv_1 (by decide)) 6 rfl); have q_fv_1_34 : (fv_1 34).toInt = (fv 34).toInt := congrArg Int32.toInt ((fM_put (fM_rf [0] _) efv_1 (by decide)) 34 rfl); have q_fv_1_35 : (fv_1 35).toInt = (fv 35).toInt := congrArg Int32.toInt ((fM_put (fM_rf [0] _) efv_1 (by decide)) 35 rfl); have q_fv_1_2 : (fv_1 2).toInt = (fv 2).toInt := congrArg Int32.toInt ((fM_put (fM_rf [0] _) efv_1 (by decide)) 2 rfl); have q_fv_12_33 : (fv_12 33).toInt = (fv 33).toInt := congrArg Int32.toInt ((fM_call (fM_put (fM_rf [0] _) efv_1 (by decide)) fr_15 (by decide)) 33 rfl); have q_fv_12_3 : (fv_12 3).toInt = (fv 3).toInt := congrArg Int32.toInt ((fM_call (fM_put (fM_rf [0] _) efv_1 (by decide)) fr_15 (by decide)) 3 rfl); have q_fv_12_6 : (fv_12 6).toInt = (fv 6).toInt := congrArg Int32.toInt ((fM_call (fM_put (fM_rf [0] _) efv_1 (by decide)) fr_15 (by decide)) 6 rfl); have q_fv_12_34 : (fv_12 34).toInt = (fv 34).toInt := congrArg Int32.toInt ((fM_call (fM_put (fM_rf [0] _) efv_1 (by decide)) fr_15 (by decide)) 34 rfl); have q_fv_12_35 : (fv_12 35).toInt = (fv 35).toInt := congrArg Int32.toInt ((fM_call (fM_put (fM_rf [0] _) efv_1 (by decide)) fr_15 (by decide)) 35 rfl); have q_fv_12_2 : (fv_12 2).toInt = (fv 2).toInt := congrArg Int32.toInt ((fM_call (fM_put (fM_rf [0] _) efv_1 (by decide)) fr_15 (by decide)) 2 rfl); have q_fv_85_33 : (fv_85 33).toInt = (fv 33).toInt := congrArg Int32.toInt ((fM_put (fM_call (fM_put (fM_rf [0, 35] _) efv_1 (by decide)) fr_15 (by decide)) efv_85 (by decide)) 33 rfl); have q_fv_85_3 : (fv_85 3).toInt = (fv 3).toInt := congrArg Int32.toInt ((fM_put (fM_call (fM_put (fM_rf [0, 35] _) efv_1 (by decide)) fr_15 (by decide)) efv_85 (by decide)) 3 rfl); have q_fv_85_6 : (fv_85 6).toInt = (fv 6).toInt := congrArg Int32.toInt ((fM_put (fM_call (fM_put (fM_rf [0, 35] _) efv_1 (by decide)) fr_15 (by decide)) efv_85 (by decide)) 6 rfl); have q_fv_85_34 : (fv_85 34).toInt = (fv 34).toInt := congrArg Int32.toInt ((fM_put (fM_call (fM_put (fM_rf [0, 35] _) efv_1 (by decide)) fr_15 (by decide)) efv_85 (by decide)) 34 rfl); have q_fv_85_2 : (fv_85 2).toInt = (fv 2).toInt := congrArg Int32.toInt ((fM_put (fM_call (fM_put (fM_rf [0, 35] _) efv_1 (by decide)) fr_15 (by decide)) efv_85 (by decide)) 2 rfl); exact Or.inr ⟨by omega, by rw [show fv_85 35 = v_82 from (congrFun efv_85 35)]; omega, by omega⟩), trivial⟩, ⟨by rw [ht]; exact hP, va_K.moved hW.alike hK⟩⟩, hS.F ht⟩) hS.2.2 dX12_trip_199
                            · skip
                              exact absurd c_73 (by decide)
set_option maxHeartbeats 4000000 in
set_option maxRecDepth 100000 in
theorem m_feedE (l : Launch) (dC : Nat → ClassId) (dI : Nat → Nat → Nat) (sz h : Nat) (ad : Nat → Nat) (cA : Nat → ClassId) (hd : dM h ad) (fv : Nat → Int32) (wd : Int64) (ar : Nat → Nat → Int32) (hF_fv : rF fv) (hA_ar : rA ar) (a : Int32) (b : Int32) (v : Int32) (d : Int32) (f : Int32) : Met l yX12_feed (.code yX12_feed cX12_feed 6 (some .int) :: lw_good) ({ frames := 3, cells := 0, slots := 0, locals := 62 }) (va_Pc [.ref h, .int a, .int b, .int v, .int d, .int f] (prM dC dI h ad cA fv wd ar sz)) (va_Qi (fun (r : Int32) (u : mS) => rF u.1 ∧ rA u.2.2 ∧ fM [0, 2] fv u.1 ∧ fA [1] ar u.2.2 ∧ (ps_feed r (u.1 2) (fv 2)) ∧ True) (enM dC dI h ad cA) (aM h ad sz)) 0 0 (aM h ad sz) := by
  refine Met.ofW (cc := cX12_feed) (maxL := 6) (ret := (some .int)) (by decide) rfl ?_
  intro p e s m args below meth c s₁ B hml hv
  obtain ⟨rfl, hsz, hP, hK⟩ := hv
  have hx := B.exec
  have hb := B.bytes
  have hr := B.returns
  have hts := atoms_spec (ws := (.code yX12_feed cX12_feed 6 (some .int) :: lw_good)) B.pre
  have htg : ∀ w ∈ lw_good, w.before _ s = true := fun w hw => hts w (List.mem_cons_of_mem _ hw)
  have hown : s.vm.findClass RX12 = some m.cls := findClass_of_methodNamed B.named
  have hlocks := B.notSynchronized
  subst hsz
  have hS : va_S (aM h ad s.heap.size) s.heap s.heap [] := va_S.rf
  have hl := lv_entry ([.ref h, .int a, .int b, .int v, .int d, .int f]) (n := 6) (Nat.le_of_ble_eq_true rfl)
  rw [lg_entry_eq]
  generalize (lg_sl ([.ref h, .int a, .int b, .int v, .int d, .int f]) ++ List.replicate (6 - (lg_sl ([.ref h, .int a, .int b, .int v, .int d, .int f])).length) Slot.unset).toArray = ls at hl ⊢
  have hl : lv_has ls 6 [(0, .ref h), (1, .int a), (2, .int b), (3, .int v), (4, .int d), (5, .int f)] := hl
  have zc0 : (0 : Int32).toInt = 0 := by decide
  have zc1 : (1 : Int32).toInt = 1 := by decide
  have zc2 : (2 : Int32).toInt = 2 := by decide
  have zc9 : (9 : Int32).toInt = 9 := by decide
  have zc11 : (11 : Int32).toInt = 11 := by decide
  have zc12 : (12 : Int32).toInt = 12 := by decide
  have zc19 : (19 : Int32).toInt = 19 := by decide
  have zc99 : (99 : Int32).toInt = 99 := by decide
  have zc199 : (199 : Int32).toInt = 199 := by decide
  have zc719 : (719 : Int32).toInt = 719 := by decide
  have zc20 : (20 : Int32).toInt = 20 := by decide
  have zc340 : (340 : Int32).toInt = 340 := by decide
  have zcm1 : ((-1) : Int32).toInt = (-1) := by decide
  refine lv_aload_n hx hb dX12_feed_0 rfl (lv_at hl 0 rfl) ?_
  refine lv_iconst (v := 0) hx hb dX12_feed_1 (by decide) ?_
  refine pM_0 hx hb htg hown hK hP hS hd dX12_feed_2 (fun H locs fv_1 efv_1 hP hS => ?_)
  have hF_fv_1 : rF fv_1 := rF_put hF_fv efv_1 (iv_any _)
  refine lv_aload_n hx hb dX12_feed_5 rfl (lv_at hl 0 rfl) ?_
  refine gM_2 hx hb htg hown hK hP dX12_feed_6 ?_
  refine my_ti (y := fv 2) ((congrFun efv_1 2)) ?_
  have i_2 : 0 ≤ (fv 2).toInt ∧ (fv 2).toInt ≤ 340 := hF_fv 2
  refine lv_bipush (v := 20) hx hb dX12_feed_9 (by decide) ?_
  refine lv_iadd hx hb dX12_feed_11 ?_
  refine lv_topi (fun v_3 ev_3 => ?_)
  have t_4 : v_3.toInt = (fv 2).toInt + 20 ∧ 20 ≤ v_3.toInt ∧ v_3.toInt ≤ 360 := iv_addc ev_3 i_2 (by decide) (by decide) (by decide)
  refine lv_sipush (v := 340) hx hb dX12_feed_12 (by decide) ?_
  refine lv_icmp_le (tgt := 20) hx hb dX12_feed_15 (by decide) (fun c_6 => ?_) (fun c_6 => ?_)
  · skip
    have i_7 : 20 ≤ v_3.toInt ∧ v_3.toInt ≤ 340 := iv_le1 t_4.2 (⟨by decide, by decide⟩ : (340 : Int) ≤ (340 : Int32).toInt ∧ (340 : Int32).toInt ≤ 340) c_6
    refine lv_aload_n hx hb dX12_feed_20 rfl (lv_at hl 0 rfl) ?_
    refine lv_iload_n hx hb dX12_feed_21 rfl (lv_at hl 1 rfl) ?_
    have z_8 : (fv_1 2).toInt = (fv 2).toInt := congrArg Int32.toInt ((congrFun efv_1 2))
    have z_9 : 0 ≤ (fv_1 2).toInt ∧ (fv_1 2).toInt ≤ 340 := hF_fv_1 2
    have z_10 : (fv_1 2).toInt = (fv 2).toInt := congrArg Int32.toInt ((congrFun efv_1 2))
    have z_11 : 0 ≤ (fv_1 2).toInt ∧ (fv_1 2).toInt ≤ 340 := hF_fv_1 2
    refine va_callv (va_runV (As := [.int a]) (rest := []) ⟨hx, hb, hml, hown, hts⟩ (m_come l dC dI H.size h ad cA hd fv_1 wd ar hF_fv_1 hA_ar a (by omega)) (cwV 1 hts (gV kw_7_206 kw_7_208 kw_p_57 kw_1_15 kw_7_209) rfl rfl rfl (by decide +kernel) ⟨Nat.le_of_ble_eq_true rfl, Nat.le_of_ble_eq_true rfl⟩) ⟨fun a U g mk q => ⟨q.1, q.2.1, q.2.2.1, va_K.moved (u := U) (U := U.calling g mk a) (Vm.Alike.refl U.vm) q.2.2.2⟩, va_recv hK hP (ci := 12) (q0 := 0) rfl rfl, fun U hU hW => ⟨rfl, by rw [hU], by rw [hU]; exact hP, va_K.moved hW.alike hK⟩⟩ rfl rfl hl.1 rfl (lv_room (Nat.le_of_ble_eq_true rfl)) dX12_feed_22 ⟨Nat.le_of_ble_eq_true rfl, Nat.le_of_ble_eq_true rfl⟩) hS (fun q _ h9 => aM_up hS q h9) (aM_up hS) (fun u t H1 locs ht _ hw hB _ hk1 hS => ?_)
    obtain ⟨fv_14, wd_15, ar_16⟩ := u
    obtain ⟨hF_fv_14, hA_ar_16, fr_17, fa_18, p_13, -⟩ := hw
    have hP : va_P (dC, dI) vwCl (wsM h ad cA fv_14 wd_15 ar_16) H1 := by have h9 := hB.1; rw [ht] at h9; exact h9
    have fr_17 : fM [2] fv_1 fv_14 := fr_17
    have fa_18 : fA [1] ar ar_16 := fa_18
    have p_13 : (fv_14 2).toInt = (fv_1 2).toInt + 4 := p_13
    generalize H1 = H at hP hS ⊢
    refine lv_aload_n hx hb dX12_feed_25 rfl (lv_at hl 0 rfl) ?_
    refine lv_iload_n hx hb dX12_feed_26 rfl (lv_at hl 2 rfl) ?_
    have z_19 : 0 ≤ (fv_14 2).toInt ∧ (fv_14 2).toInt ≤ 340 := hF_fv_14 2
    have z_20 : 0 ≤ (fv_14 2).toInt ∧ (fv_14 2).toInt ≤ 340 := hF_fv_14 2
    refine va_callv (va_runV (As := [.int b]) (rest := []) ⟨hx, hb, hml, hown, hts⟩ (m_come l dC dI H.size h ad cA hd fv_14 wd_15 ar_16 hF_fv_14 hA_ar_16 b (by omega)) (cwV 1 hts (gV kw_7_206 kw_7_208 kw_p_57 kw_1_15 kw_7_209) rfl rfl rfl (by decide +kernel) ⟨Nat.le_of_ble_eq_true rfl, Nat.le_of_ble_eq_true rfl⟩) ⟨fun a U g mk q => ⟨q.1, q.2.1, q.2.2.1, va_K.moved (u := U) (U := U.calling g mk a) (Vm.Alike.refl U.vm) q.2.2.2⟩, va_recv hK hP (ci := 12) (q0 := 0) rfl rfl, fun U hU hW => ⟨rfl, by rw [hU], by rw [hU]; exact hP, va_K.moved hW.alike hK⟩⟩ rfl rfl hl.1 rfl (lv_room (Nat.le_of_ble_eq_true rfl)) dX12_feed_27 ⟨Nat.le_of_ble_eq_true rfl, Nat.le_of_ble_eq_true rfl⟩) hS (fun q _ h9 => aM_up hS q h9) (aM_up hS) (fun u t H1 locs ht _ hw hB _ hk1 hS => ?_)
    obtain ⟨fv_23, wd_24, ar_25⟩ := u
    obtain ⟨hF_fv_23, hA_ar_25, fr_26, fa_27, p_22, -⟩ := hw
    have hP : va_P (dC, dI) vwCl (wsM h ad cA fv_23 wd_24 ar_25) H1 := by have h9 := hB.1; rw [ht] at h9; exact h9
    have fr_26 : fM [2] fv_14 fv_23 := fr_26
    have fa_27 : fA [1] ar_16 ar_25 := fa_27
    have p_22 : (fv_23 2).toInt = (fv_14 2).toInt + 4 := p_22
    generalize H1 = H at hP hS ⊢
    refine lv_aload_n hx hb dX12_feed_30 rfl (lv_at hl 0 rfl) ?_
    refine lv_iload_n hx hb dX12_feed_31 rfl (lv_at hl 3 rfl) ?_
    have z_28 : 0 ≤ (fv_23 2).toInt ∧ (fv_23 2).toInt ≤ 340 := hF_fv_23 2
    have z_29 : 0 ≤ (fv_23 2).toInt ∧ (fv_23 2).toInt ≤ 340 := hF_fv_23 2
    refine va_callv (va_runV (As := [.int v]) (rest := []) ⟨hx, hb, hml, hown, hts⟩ (m_come l dC dI H.size h ad cA hd fv_23 wd_24 ar_25 hF_fv_23 hA_ar_25 v (by omega)) (cwV 1 hts (gV kw_7_206 kw_7_208 kw_p_57 kw_1_15 kw_7_209) rfl rfl rfl (by decide +kernel) ⟨Nat.le_of_ble_eq_true rfl, Nat.le_of_ble_eq_true rfl⟩) ⟨fun a U g mk q => ⟨q.1, q.2.1, q.2.2.1, va_K.moved (u := U) (U := U.calling g mk a) (Vm.Alike.refl U.vm) q.2.2.2⟩, va_recv hK hP (ci := 12) (q0 := 0) rfl rfl, fun U hU hW => ⟨rfl, by rw [hU], by rw [hU]; exact hP, va_K.moved hW.alike hK⟩⟩ rfl rfl hl.1 rfl (lv_room (Nat.le_of_ble_eq_true rfl)) dX12_feed_32 ⟨Nat.le_of_ble_eq_true rfl, Nat.le_of_ble_eq_true rfl⟩) hS (fun q _ h9 => aM_up hS q h9) (aM_up hS) (fun u t H1 locs ht _ hw hB _ hk1 hS => ?_)
    obtain ⟨fv_32, wd_33, ar_34⟩ := u
    obtain ⟨hF_fv_32, hA_ar_34, fr_35, fa_36, p_31, -⟩ := hw
    have hP : va_P (dC, dI) vwCl (wsM h ad cA fv_32 wd_33 ar_34) H1 := by have h9 := hB.1; rw [ht] at h9; exact h9
    have fr_35 : fM [2] fv_23 fv_32 := fr_35
    have fa_36 : fA [1] ar_25 ar_34 := fa_36
    have p_31 : (fv_32 2).toInt = (fv_23 2).toInt + 4 := p_31
    generalize H1 = H at hP hS ⊢
    refine lv_aload_n hx hb dX12_feed_35 rfl (lv_at hl 0 rfl) ?_
    refine lv_iload hx hb dX12_feed_36 (lv_at hl 4 rfl) ?_
    have z_37 : 0 ≤ (fv_32 2).toInt ∧ (fv_32 2).toInt ≤ 340 := hF_fv_32 2
    have z_38 : 0 ≤ (fv_32 2).toInt ∧ (fv_32 2).toInt ≤ 340 := hF_fv_32 2
    refine va_callv (va_runV (As := [.int d]) (rest := []) ⟨hx, hb, hml, hown, hts⟩ (m_come l dC dI H.size h ad cA hd fv_32 wd_33 ar_34 hF_fv_32 hA_ar_34 d (by omega)) (cwV 1 hts (gV kw_7_206 kw_7_208 kw_p_57 kw_1_15 kw_7_209) rfl rfl rfl (by decide +kernel) ⟨Nat.le_of_ble_eq_true rfl, Nat.le_of_ble_eq_true rfl⟩) ⟨fun a U g mk q => ⟨q.1, q.2.1, q.2.2.1, va_K.moved (u := U) (U := U.calling g mk a) (Vm.Alike.refl U.vm) q.2.2.2⟩, va_recv hK hP (ci := 12) (q0 := 0) rfl rfl, fun U hU hW => ⟨rfl, by rw [hU], by rw [hU]; exact hP, va_K.moved hW.alike hK⟩⟩ rfl rfl hl.1 rfl (lv_room (Nat.le_of_ble_eq_true rfl)) dX12_feed_38 ⟨Nat.le_of_ble_eq_true rfl, Nat.le_of_ble_eq_true rfl⟩) hS (fun q _ h9 => aM_up hS q h9) (aM_up hS) (fun u t H1 locs ht _ hw hB _ hk1 hS => ?_)
    obtain ⟨fv_41, wd_42, ar_43⟩ := u
    obtain ⟨hF_fv_41, hA_ar_43, fr_44, fa_45, p_40, -⟩ := hw
    have hP : va_P (dC, dI) vwCl (wsM h ad cA fv_41 wd_42 ar_43) H1 := by have h9 := hB.1; rw [ht] at h9; exact h9
    have fr_44 : fM [2] fv_32 fv_41 := fr_44
    have fa_45 : fA [1] ar_34 ar_43 := fa_45
    have p_40 : (fv_41 2).toInt = (fv_32 2).toInt + 4 := p_40
    generalize H1 = H at hP hS ⊢
    refine lv_aload_n hx hb dX12_feed_41 rfl (lv_at hl 0 rfl) ?_
    refine lv_iload hx hb dX12_feed_42 (lv_at hl 5 rfl) ?_
    have z_46 : 0 ≤ (fv_41 2).toInt ∧ (fv_41 2).toInt ≤ 340 := hF_fv_41 2
    have z_47 : 0 ≤ (fv_41 2).toInt ∧ (fv_41 2).toInt ≤ 340 := hF_fv_41 2
    refine va_callv (va_runV (As := [.int f]) (rest := []) ⟨hx, hb, hml, hown, hts⟩ (m_come l dC dI H.size h ad cA hd fv_41 wd_42 ar_43 hF_fv_41 hA_ar_43 f (by omega)) (cwV 1 hts (gV kw_7_206 kw_7_208 kw_p_57 kw_1_15 kw_7_209) rfl rfl rfl (by decide +kernel) ⟨Nat.le_of_ble_eq_true rfl, Nat.le_of_ble_eq_true rfl⟩) ⟨fun a U g mk q => ⟨q.1, q.2.1, q.2.2.1, va_K.moved (u := U) (U := U.calling g mk a) (Vm.Alike.refl U.vm) q.2.2.2⟩, va_recv hK hP (ci := 12) (q0 := 0) rfl rfl, fun U hU hW => ⟨rfl, by rw [hU], by rw [hU]; exact hP, va_K.moved hW.alike hK⟩⟩ rfl rfl hl.1 rfl (lv_room (Nat.le_of_ble_eq_true rfl)) dX12_feed_44 ⟨Nat.le_of_ble_eq_true rfl, Nat.le_of_ble_eq_true rfl⟩) hS (fun q _ h9 => aM_up hS q h9) (aM_up hS) (fun u t H1 locs ht _ hw hB _ hk1 hS => ?_)
    obtain ⟨fv_50, wd_51, ar_52⟩ := u
    obtain ⟨hF_fv_50, hA_ar_52, fr_53, fa_54, p_49, -⟩ := hw
    have hP : va_P (dC, dI) vwCl (wsM h ad cA fv_50 wd_51 ar_52) H1 := by have h9 := hB.1; rw [ht] at h9; exact h9
    have fr_53 : fM [2] fv_41 fv_50 := fr_53
    have fa_54 : fA [1] ar_43 ar_52 := fa_54
    have p_49 : (fv_50 2).toInt = (fv_41 2).toInt + 4 := p_49
    generalize H1 = H at hP hS ⊢
    refine lv_aload_n hx hb dX12_feed_47 rfl (lv_at hl 0 rfl) ?_
    refine gM_2 hx hb htg hown hK hP dX12_feed_48 ?_
    have i_55 : 0 ≤ (fv_50 2).toInt ∧ (fv_50 2).toInt ≤ 340 := hF_fv_50 2
    exact W.iret (v := fv_50 2) hx hb hr (fun t ht hW => ⟨⟨fv_50 2, (fv_50, wd_51, ar_52), rfl, ⟨hF_fv_50, hA_ar_52, (fM_call (fM_call (fM_call (fM_call (fM_call (fM_put (fM_rf [0, 2] _) efv_1 (by decide)) fr_17 (by decide)) fr_26 (by decide)) fr_35 (by decide)) fr_44 (by decide)) fr_53 (by decide)), (fA_call (fA_call (fA_call (fA_call (fA_call (fA_rf [1] _) fa_18 (by decide)) fa_27 (by decide)) fa_36 (by decide)) fa_45 (by decide)) fa_54 (by decide)), (show ps_feed (fv_50 2) (fv_50 2) (fv 2) from by have q_fv_1_33 : (fv_1 33).toInt = (fv 33).toInt := congrArg Int32.toInt ((fM_put (fM_rf [0] _) efv_1 (by decide)) 33 rfl); have q_fv_1_3 : (fv_1 3).toInt = (fv 3).toInt := congrArg Int32.toInt ((fM_put (fM_rf [0] _) efv_1 (by decide)) 3 rfl); have q_fv_1_6 : (fv_1 6).toInt = (fv 6).toInt := congrArg Int32.toInt ((fM_put (fM_rf [0] _) efv_1 (by decide)) 6 rfl); have q_fv_1_34 : (fv_1 34).toInt = (fv 34).toInt := congrArg Int32.toInt ((fM_put (fM_rf [0] _) efv_1 (by decide)) 34 rfl); have q_fv_1_35 : (fv_1 35).toInt = (fv 35).toInt := congrArg Int32.toInt ((fM_put (fM_rf [0] _) efv_1 (by decide)) 35 rfl); have q_fv_1_2 : (fv_1 2).toInt = (fv 2).toInt := congrArg Int32.toInt ((fM_put (fM_rf [0] _) efv_1 (by decide)) 2 rfl); have q_fv_14_33 : (fv_14 33).toInt = (fv 33).toInt := congrArg Int32.toInt ((fM_call (fM_put (fM_rf [0, 2] _) efv_1 (by decide)) fr_17 (by decide)) 33 rfl); have q_fv_14_3 : (fv_14 3).toInt = (fv 3).toInt := congrArg Int32.toInt ((fM_call (fM_put (fM_rf [0, 2] _) efv_1 (by decide)) fr_17 (by decide)) 3 rfl); have q_fv_14_6 : (fv_14 6).toInt = (fv 6).toInt := congrArg Int32.toInt ((fM_call (fM_put (fM_rf [0, 2] _) efv_1 (by decide)) fr_17 (by decide)) 6 rfl); have q_fv_14_34 : (fv_14 34).toInt = (fv 34).toInt := congrArg Int32.toInt ((fM_call (fM_put (fM_rf [0, 2] _) efv_1 (by decide)) fr_17 (by decide)) 34 rfl); have q_fv_14_35 : (fv_14 35).toInt = (fv 35).toInt := congrArg Int32.toInt ((fM_call (fM_put (fM_rf [0, 2] _) efv_1 (by decide)) fr_17 (by decide)) 35 rfl); have q_fv_23_33 : (fv_23 33).toInt = (fv 33).toInt := congrArg Int32.toInt ((fM_call (fM_call (fM_put (fM_rf [0, 2] _) efv_1 (by decide)) fr_17 (by decide)) fr_26 (by decide)) 33 rfl); have q_fv_23_3 : (fv_23 3).toInt = (fv 3).toInt := congrArg Int32.toInt ((fM_call (fM_call (fM_put (fM_rf [0, 2] _) efv_1 (by decide)) fr_17 (by decide)) fr_26 (by decide)) 3 rfl); have q_fv_23_6 : (fv_23 6).toInt = (fv 6).toInt := congrArg Int32.toInt ((fM_call (fM_call (fM_put (fM_rf [0, 2] _) efv_1 (by decide)) fr_17 (by decide)) fr_26 (by decide)) 6 rfl); have q_fv_23_34 : (fv_23 34).toInt = (fv 34).toInt := congrArg Int32.toInt ((fM_call (fM_call (fM_put (fM_rf [0, 2] _) efv_1 (by decide)) fr_17 (by decide)) fr_26 (by decide)) 34 rfl); have q_fv_23_35 : (fv_23 35).toInt = (fv 35).toInt := congrArg Int32.toInt ((fM_call (fM_call (fM_put (fM_rf [0, 2] _) efv_1 (by decide)) fr_17 (by decide)) fr_26 (by decide)) 35 rfl); have q_fv_32_33 : (fv_32 33).toInt = (fv 33).toInt := congrArg Int32.toInt ((fM_call (fM_call (fM_call (fM_put (fM_rf [0, 2] _) efv_1 (by decide)) fr_17 (by decide)) fr_26 (by decide)) fr_35 (by decide)) 33 rfl); have q_fv_32_3 : (fv_32 3).toInt = (fv 3).toInt := congrArg Int32.toInt ((fM_call (fM_call (fM_call (fM_put (fM_rf [0, 2] _) efv_1 (by decide)) fr_17 (by decide)) fr_26 (by decide)) fr_35 (by decide)) 3 rfl); have q_fv_32_6 : (fv_32 6).toInt = (fv 6).toInt := congrArg Int32.toInt ((fM_call (fM_call (fM_call (fM_put (fM_rf [0, 2] _) efv_1 (by decide)) fr_17 (by decide)) fr_26 (by decide)) fr_35 (by decide)) 6 rfl); have q_fv_32_34 : (fv_32 34).toInt = (fv 34).toInt := congrArg Int32.toInt ((fM_call (fM_call (fM_call (fM_put (fM_rf [0, 2] _) efv_1 (by decide)) fr_17 (by decide)) fr_26 (by decide)) fr_35 (by decide)) 34 rfl); have q_fv_32_35 : (fv_32 35).toInt = (fv 35).toInt := congrArg Int32.toInt ((fM_call (fM_call (fM_call (fM_put (fM_rf [0, 2] _) efv_1 (by decide)) fr_17 (by decide)) fr_26 (by decide)) fr_35 (by decide)) 35 rfl); have q_fv_41_33 : (fv_41 33).toInt = (fv 33).toInt := congrArg Int32.toInt ((fM_call (fM_call (fM_call (fM_call (fM_put (fM_rf [0, 2] _) efv_1 (by decide)) fr_17 (by decide)) fr_26 (by decide)) fr_35 (by decide)) fr_44 (by decide)) 33 rfl); have q_fv_41_3 : (fv_41 3).toInt = (fv 3).toInt := congrArg Int32.toInt ((fM_call (fM_call (fM_call (fM_call (fM_put (fM_rf [0, 2] _) efv_1 (by decide)) fr_17 (by decide)) fr_26 (by decide)) fr_35 (by decide)) fr_44 (by decide)) 3 rfl); have q_fv_41_6 : (fv_41 6).toInt = (fv 6).toInt := congrArg Int32.toInt ((fM_call (fM_call (fM_call (fM_call (fM_put (fM_rf [0, 2] _) efv_1 (by decide)) fr_17 (by decide)) fr_26 (by decide)) fr_35 (by decide)) fr_44 (by decide)) 6 rfl); have q_fv_41_34 : (fv_41 34).toInt = (fv 34).toInt := congrArg Int32.toInt ((fM_call (fM_call (fM_call (fM_call (fM_put (fM_rf [0, 2] _) efv_1 (by decide)) fr_17 (by decide)) fr_26 (by decide)) fr_35 (by decide)) fr_44 (by decide)) 34 rfl); have q_fv_41_35 : (fv_41 35).toInt = (fv 35).toInt := congrArg Int32.toInt ((fM_call (fM_call (fM_call (fM_call (fM_put (fM_rf [0, 2] _) efv_1 (by decide)) fr_17 (by decide)) fr_26 (by decide)) fr_35 (by decide)) fr_44 (by decide)) 35 rfl); have q_fv_50_33 : (fv_50 33).toInt = (fv 33).toInt := congrArg Int32.toInt ((fM_call (fM_call (fM_call (fM_call (fM_call (fM_put (fM_rf [0, 2] _) efv_1 (by decide)) fr_17 (by decide)) fr_26 (by decide)) fr_35 (by decide)) fr_44 (by decide)) fr_53 (by decide)) 33 rfl); have q_fv_50_3 : (fv_50 3).toInt = (fv 3).toInt := congrArg Int32.toInt ((fM_call (fM_call (fM_call (fM_call (fM_call (fM_put (fM_rf [0, 2] _) efv_1 (by decide)) fr_17 (by decide)) fr_26 (by decide)) fr_35 (by decide)) fr_44 (by decide)) fr_53 (by decide)) 3 rfl); have q_fv_50_6 : (fv_50 6).toInt = (fv 6).toInt := congrArg Int32.toInt ((fM_call (fM_call (fM_call (fM_call (fM_call (fM_put (fM_rf [0, 2] _) efv_1 (by decide)) fr_17 (by decide)) fr_26 (by decide)) fr_35 (by decide)) fr_44 (by decide)) fr_53 (by decide)) 6 rfl); have q_fv_50_34 : (fv_50 34).toInt = (fv 34).toInt := congrArg Int32.toInt ((fM_call (fM_call (fM_call (fM_call (fM_call (fM_put (fM_rf [0, 2] _) efv_1 (by decide)) fr_17 (by decide)) fr_26 (by decide)) fr_35 (by decide)) fr_44 (by decide)) fr_53 (by decide)) 34 rfl); have q_fv_50_35 : (fv_50 35).toInt = (fv 35).toInt := congrArg Int32.toInt ((fM_call (fM_call (fM_call (fM_call (fM_call (fM_put (fM_rf [0, 2] _) efv_1 (by decide)) fr_17 (by decide)) fr_26 (by decide)) fr_35 (by decide)) fr_44 (by decide)) fr_53 (by decide)) 35 rfl); exact Or.inr ⟨by first | rfl | omega, by omega, by omega⟩), trivial⟩, ⟨by rw [ht]; exact hP, va_K.moved hW.alike hK⟩⟩, hS.F ht⟩) hS.2.2 dX12_feed_51
  · skip
    have i_56 : 341 ≤ v_3.toInt ∧ v_3.toInt ≤ 360 := iv_lt2 (⟨by decide, by decide⟩ : (340 : Int) ≤ (340 : Int32).toInt ∧ (340 : Int32).toInt ≤ 340) t_4.2 (Int32.not_le.mp c_6)
    refine lv_iconst (v := (-1)) hx hb dX12_feed_18 (by decide) ?_
    have z_57 : ((-1) : Int32).toInt = (-1) := by decide
    exact W.iret (v := (-1)) hx hb hr (fun t ht hW => ⟨⟨(-1), (fv_1, wd, ar), rfl, ⟨hF_fv_1, hA_ar, (fM_put (fM_rf [0, 2] _) efv_1 (by decide)), (fA_rf [1] _), (show ps_feed ((-1) : Int32) (fv_1 2) (fv 2) from by have q_fv_1_33 : (fv_1 33).toInt = (fv 33).toInt := congrArg Int32.toInt ((fM_put (fM_rf [0] _) efv_1 (by decide)) 33 rfl); have q_fv_1_3 : (fv_1 3).toInt = (fv 3).toInt := congrArg Int32.toInt ((fM_put (fM_rf [0] _) efv_1 (by decide)) 3 rfl); have q_fv_1_6 : (fv_1 6).toInt = (fv 6).toInt := congrArg Int32.toInt ((fM_put (fM_rf [0] _) efv_1 (by decide)) 6 rfl); have q_fv_1_34 : (fv_1 34).toInt = (fv 34).toInt := congrArg Int32.toInt ((fM_put (fM_rf [0] _) efv_1 (by decide)) 34 rfl); have q_fv_1_35 : (fv_1 35).toInt = (fv 35).toInt := congrArg Int32.toInt ((fM_put (fM_rf [0] _) efv_1 (by decide)) 35 rfl); have q_fv_1_2 : (fv_1 2).toInt = (fv 2).toInt := congrArg Int32.toInt ((fM_put (fM_rf [0] _) efv_1 (by decide)) 2 rfl); exact Or.inl ⟨rfl, (congrFun efv_1 2), by omega⟩), trivial⟩, ⟨by rw [ht]; exact hP, va_K.moved hW.alike hK⟩⟩, hS.F ht⟩) hS.2.2 dX12_feed_19
set_option maxHeartbeats 4000000 in
set_option maxRecDepth 100000 in
theorem m_takeE (l : Launch) (dC : Nat → ClassId) (dI : Nat → Nat → Nat) (sz h : Nat) (ad : Nat → Nat) (cA : Nat → ClassId) (hd : dM h ad) (fv : Nat → Int32) (wd : Int64) (ar : Nat → Nat → Int32) (hF_fv : rF fv) (hA_ar : rA ar) : Met l yX12_take (.code yX12_take cX12_take 2 (some .int) :: lw_good) ({ frames := 2, cells := 0, slots := 0, locals := 40 }) (va_Pc [.ref h] (prM dC dI h ad cA fv wd ar sz)) (va_Qi (fun (r : Int32) (u : mS) => rF u.1 ∧ rA u.2.2 ∧ fM [2] fv u.1 ∧ fA [] ar u.2.2 ∧ (0 ≤ r.toInt ∧ r.toInt ≤ 340) ∧ ((u.1 2).toInt = 0) ∧ True) (enM dC dI h ad cA) (aM h ad sz)) 0 0 (aM h ad sz) := by
  refine Met.ofW (cc := cX12_take) (maxL := 2) (ret := (some .int)) (by decide) rfl ?_
  intro p e s m args below meth c s₁ B hml hv
  obtain ⟨rfl, hsz, hP, hK⟩ := hv
  have hx := B.exec
  have hb := B.bytes
  have hr := B.returns
  have hts := atoms_spec (ws := (.code yX12_take cX12_take 2 (some .int) :: lw_good)) B.pre
  have htg : ∀ w ∈ lw_good, w.before _ s = true := fun w hw => hts w (List.mem_cons_of_mem _ hw)
  have hown : s.vm.findClass RX12 = some m.cls := findClass_of_methodNamed B.named
  have hlocks := B.notSynchronized
  subst hsz
  have hS : va_S (aM h ad s.heap.size) s.heap s.heap [] := va_S.rf
  have hl := lv_entry ([.ref h]) (n := 2) (Nat.le_of_ble_eq_true rfl)
  rw [lg_entry_eq]
  generalize (lg_sl ([.ref h]) ++ List.replicate (2 - (lg_sl ([.ref h])).length) Slot.unset).toArray = ls at hl ⊢
  have hl : lv_has ls 2 [(0, .ref h)] := hl
  refine lv_aload_n hx hb dX12_take_0 rfl (lv_at hl 0 rfl) ?_
  refine gM_2 hx hb htg hown hK hP dX12_take_1 ?_
  have i_1 : 0 ≤ (fv 2).toInt ∧ (fv 2).toInt ≤ 340 := hF_fv 2
  refine lv_istore_n (lv' := [(1, .int (fv 2)), (0, .ref h)]) hx hb dX12_take_4 rfl hl (by decide) rfl (fun ls hl => ?_)
  refine lv_aload_n hx hb dX12_take_5 rfl (lv_at hl 1 rfl) ?_
  refine lv_iconst (v := 0) hx hb dX12_take_6 (by decide) ?_
  refine pM_2 hx hb htg hown hK hP hS hd dX12_take_7 (fun H locs fv_2 efv_2 hP hS => ?_)
  have hF_fv_2 : rF fv_2 := rF_put hF_fv efv_2 (iv_w (⟨by decide, by decide⟩ : (0 : Int) ≤ (0 : Int32).toInt ∧ (0 : Int32).toInt ≤ 0) (by decide) (by decide))
  refine lv_iload_n hx hb dX12_take_10 rfl (lv_at hl 0 rfl) ?_
  exact W.iret (v := fv 2) hx hb hr (fun t ht hW => ⟨⟨fv 2, (fv_2, wd, ar), rfl, ⟨hF_fv_2, hA_ar, (fM_put (fM_rf [2] _) efv_2 (by decide)), (fA_rf [] _), i_1, (show (fv_2 2).toInt = 0 from by rw [show fv_2 2 = (0 : Int32) from (congrFun efv_2 2)]; decide), trivial⟩, ⟨by rw [ht]; exact hP, va_K.moved hW.alike hK⟩⟩, hS.F ht⟩) hS.2.2 dX12_take_11
set_option maxHeartbeats 4000000 in
set_option maxRecDepth 100000 in
theorem m_personE (l : Launch) (dC : Nat → ClassId) (dI : Nat → Nat → Nat) (sz h : Nat) (ad : Nat → Nat) (cA : Nat → ClassId) (hd : dM h ad) (fv : Nat → Int32) (wd : Int64) (ar : Nat → Nat → Int32) (hF_fv : rF fv) (hA_ar : rA ar) (a : Int32) (b : Int32) (v : Int32) : Met l yX12_person (.code yX12_person cX12_person 5 (some .int) :: lw_good) ({ frames := 3, cells := 0, slots := 0, locals := 62 }) (va_Pc [.ref h, .int a, .int b, .int v] (prM dC dI h ad cA fv wd ar sz)) (va_Qi (fun (r : Int32) (u : mS) => rF u.1 ∧ rA u.2.2 ∧ fM [0, 2, 32] fv u.1 ∧ fA [9, 10, 11, 12, 13, 14, 15, 16, 17, 72] ar u.2.2 ∧ ((u.1 2).toInt = 0) ∧ True) (enM dC dI h ad cA) (aM h ad sz)) 0 0 (aM h ad sz) := by
  refine Met.ofW (cc := cX12_person) (maxL := 5) (ret := (some .int)) (by decide) rfl ?_
  intro p e s m args below meth c s₁ B hml hv
  obtain ⟨rfl, hsz, hP, hK⟩ := hv
  have hx := B.exec
  have hb := B.bytes
  have hr := B.returns
  have hts := atoms_spec (ws := (.code yX12_person cX12_person 5 (some .int) :: lw_good)) B.pre
  have htg : ∀ w ∈ lw_good, w.before _ s = true := fun w hw => hts w (List.mem_cons_of_mem _ hw)
  have hown : s.vm.findClass RX12 = some m.cls := findClass_of_methodNamed B.named
  have hlocks := B.notSynchronized
  subst hsz
  have hS : va_S (aM h ad s.heap.size) s.heap s.heap [] := va_S.rf
  have hl := lv_entry ([.ref h, .int a, .int b, .int v]) (n := 5) (Nat.le_of_ble_eq_true rfl)
  rw [lg_entry_eq]
  generalize (lg_sl ([.ref h, .int a, .int b, .int v]) ++ List.replicate (5 - (lg_sl ([.ref h, .int a, .int b, .int v])).length) Slot.unset).toArray = ls at hl ⊢
  have hl : lv_has ls 5 [(0, .ref h), (1, .int a), (2, .int b), (3, .int v)] := hl
  refine lv_aload_n hx hb dX12_person_0 rfl (lv_at hl 0 rfl) ?_
  refine lv_iconst (v := 0) hx hb dX12_person_1 (by decide) ?_
  refine pM_0 hx hb htg hown hK hP hS hd dX12_person_2 (fun H locs fv_1 efv_1 hP hS => ?_)
  have hF_fv_1 : rF fv_1 := rF_put hF_fv efv_1 (iv_any _)
  refine lv_aload_n hx hb dX12_person_5 rfl (lv_at hl 0 rfl) ?_
  refine va_calli (va_runV (As := []) (rest := []) ⟨hx, hb, hml, hown, hts⟩ (m_takeE l dC dI H.size h ad cA hd fv_1 wd ar hF_fv_1 hA_ar) (cwV 0 hts (gV kw_8_5 kw_8_7 kw_p_60 kw_1_15 kw_8_8) rfl rfl rfl (by decide +kernel) ⟨Nat.le_of_ble_eq_true rfl, Nat.le_of_ble_eq_true rfl⟩) ⟨fun a U g mk q => ⟨q.1, q.2.1, q.2.2.1, va_K.moved (u := U) (U := U.calling g mk a) (Vm.Alike.refl U.vm) q.2.2.2⟩, va_recv hK hP (ci := 12) (q0 := 0) rfl rfl, fun U hU hW => ⟨rfl, by rw [hU], by rw [hU]; exact hP, va_K.moved hW.alike hK⟩⟩ rfl rfl hl.1 rfl (lv_room (Nat.le_of_ble_eq_true rfl)) dX12_person_6 ⟨Nat.le_of_ble_eq_true rfl, Nat.le_of_ble_eq_true rfl⟩) hS (fun q _ h9 => aM_up hS q h9) (aM_up hS) (fun r_2 u t H1 locs ht _ hw hB _ hk1 hS => ?_)
  obtain ⟨fv_5, wd_6, ar_7⟩ := u
  obtain ⟨hF_fv_5, hA_ar_7, fr_8, fa_9, p_3, p_4, -⟩ := hw
  have hP : va_P (dC, dI) vwCl (wsM h ad cA fv_5 wd_6 ar_7) H1 := by have h9 := hB.1; rw [ht] at h9; exact h9
  have fr_8 : fM [2] fv_1 fv_5 := fr_8
  have fa_9 : fA [] ar ar_7 := fa_9
  have p_4 : (fv_5 2).toInt = 0 := p_4
  generalize H1 = H at hP hS ⊢
  refine lv_istore (lv' := [(4, .int r_2), (0, .ref h), (1, .int a), (2, .int b), (3, .int v)]) hx hb dX12_person_9 hl (by decide) rfl (fun ls hl => ?_)
  refine lv_aload_n hx hb dX12_person_11 rfl (lv_at hl 1 rfl) ?_
  refine gM_32 hx hb htg hown hK hP dX12_person_12 ?_
  refine my_ti (y := fv 32) ((fr_8 32 rfl).trans ((congrFun efv_1 32))) ?_
  have i_10 : 0 ≤ (fv 32).toInt ∧ (fv 32).toInt ≤ 40 := hF_fv 32
  refine lv_bipush (v := 40) hx hb dX12_person_15 (by decide) ?_
  refine lv_icmp_eq (tgt := 52) hx hb dX12_person_17 (by decide) (fun c_11 => ?_) (fun c_11 => ?_)
  · skip
    have i_12 : 40 ≤ (fv 32).toInt ∧ (fv 32).toInt ≤ 40 := iv_eq1 (⟨by decide, by decide⟩ : (40 : Int) ≤ (40 : Int32).toInt ∧ (40 : Int32).toInt ≤ 40) c_11
    refine lv_iconst (v := (-1)) hx hb dX12_person_52 (by decide) ?_
    have z_13 : ((-1) : Int32).toInt = (-1) := by decide
    exact W.iret (v := (-1)) hx hb hr (fun t ht hW => ⟨⟨(-1), (fv_5, wd_6, ar_7), rfl, ⟨hF_fv_5, hA_ar_7, (fM_call (fM_put (fM_rf [0, 2, 32] _) efv_1 (by decide)) fr_8 (by decide)), (fA_call (fA_rf [9, 10, 11, 12, 13, 14, 15, 16, 17, 72] _) fa_9 (by decide)), (show (fv_5 2).toInt = 0 from by rw [show fv_5 2 = (fv_5 2) from rfl]; omega), trivial⟩, ⟨by rw [ht]; exact hP, va_K.moved hW.alike hK⟩⟩, hS.F ht⟩) hS.2.2 dX12_person_53
  · skip
    have i_14 : 0 ≤ (fv 32).toInt ∧ (fv 32).toInt ≤ 39 := iv_neh i_10 (by decide) c_11
    refine lv_iload_n hx hb dX12_person_20 rfl (lv_at hl 2 rfl) ?_
    refine va_calli (va_runS (As := [.int a]) (rest := []) ⟨hx, hb, hml, hown, hts⟩ (m_isCorner l H.size a) (va_cwS 1 hts (gS kw_7_225 kw_7_226 kw_1_15 kw_7_227) rfl rfl rfl (by decide +kernel) ⟨Nat.le_of_ble_eq_true rfl, Nat.le_of_ble_eq_true rfl⟩) ⟨fun a U g mk q => ⟨q.1, q.2⟩, fun U hU hW => ⟨rfl, congrArg Array.size hU⟩⟩ rfl rfl hl.1 rfl (lv_room (Nat.le_of_ble_eq_true rfl)) dX12_person_21 ⟨Nat.le_of_ble_eq_true rfl, Nat.le_of_ble_eq_true rfl⟩) hS (fun q _ h9 => nM_up hS q h9) (nM_up hS) (fun r_15 u t H1 locs ht _ hw hB _ hk1 hS => ?_)
    obtain ⟨p_16, p_17, -⟩ := hw
    have hP := my_keepM hP hk1
    generalize H1 = H at hP hS ⊢
    rcases p_17 with ⟨rfl, p_17⟩ | ⟨rfl, p_17⟩
    · skip
      refine lv_if_eq (tgt := 52) hx hb dX12_person_24 (by decide) (fun c_18 => ?_) (fun c_18 => ?_)
      · skip
        refine lv_iconst (v := (-1)) hx hb dX12_person_52 (by decide) ?_
        have z_19 : ((-1) : Int32).toInt = (-1) := by decide
        exact W.iret (v := (-1)) hx hb hr (fun t ht hW => ⟨⟨(-1), (fv_5, wd_6, ar_7), rfl, ⟨hF_fv_5, hA_ar_7, (fM_call (fM_put (fM_rf [0, 2, 32] _) efv_1 (by decide)) fr_8 (by decide)), (fA_call (fA_rf [9, 10, 11, 12, 13, 14, 15, 16, 17, 72] _) fa_9 (by decide)), (show (fv_5 2).toInt = 0 from by rw [show fv_5 2 = (fv_5 2) from rfl]; omega), trivial⟩, ⟨by rw [ht]; exact hP, va_K.moved hW.alike hK⟩⟩, hS.F ht⟩) hS.2.2 dX12_person_53
      · skip
        exact absurd c_18 (by decide)
    · skip
      have i_20 : 0 ≤ a.toInt ∧ a.toInt ≤ 2147483647 := ⟨p_17.1, (iv_any a).2⟩
      have i_21 : 0 ≤ a.toInt ∧ a.toInt ≤ 11 := ⟨i_20.1, p_17.2⟩
      refine lv_if_eq (tgt := 52) hx hb dX12_person_24 (by decide) (fun c_22 => ?_) (fun c_22 => ?_)
      · skip
        exact absurd c_22 (by decide)
      · skip
        refine lv_iload_n hx hb dX12_person_27 rfl (lv_at hl 3 rfl) ?_
        refine va_calli (va_runS (As := [.int b]) (rest := []) ⟨hx, hb, hml, hown, hts⟩ (m_isCorner l H.size b) (va_cwS 1 hts (gS kw_7_225 kw_7_226 kw_1_15 kw_7_227) rfl rfl rfl (by decide +kernel) ⟨Nat.le_of_ble_eq_true rfl, Nat.le_of_ble_eq_true rfl⟩) ⟨fun a U g mk q => ⟨q.1, q.2⟩, fun U hU hW => ⟨rfl, congrArg Array.size hU⟩⟩ rfl rfl hl.1 rfl (lv_room (Nat.le_of_ble_eq_true rfl)) dX12_person_28 ⟨Nat.le_of_ble_eq_true rfl, Nat.le_of_ble_eq_true rfl⟩) hS (fun q _ h9 => nM_up hS q h9) (nM_up hS) (fun r_23 u t H1 locs ht _ hw hB _ hk1 hS => ?_)
        obtain ⟨p_24, p_25, -⟩ := hw
        have hP := my_keepM hP hk1
        generalize H1 = H at hP hS ⊢
        rcases p_25 with ⟨rfl, p_25⟩ | ⟨rfl, p_25⟩
        · skip
          refine lv_if_eq (tgt := 52) hx hb dX12_person_31 (by decide) (fun c_26 => ?_) (fun c_26 => ?_)
          · skip
            refine lv_iconst (v := (-1)) hx hb dX12_person_52 (by decide) ?_
            have z_27 : ((-1) : Int32).toInt = (-1) := by decide
            exact W.iret (v := (-1)) hx hb hr (fun t ht hW => ⟨⟨(-1), (fv_5, wd_6, ar_7), rfl, ⟨hF_fv_5, hA_ar_7, (fM_call (fM_put (fM_rf [0, 2, 32] _) efv_1 (by decide)) fr_8 (by decide)), (fA_call (fA_rf [9, 10, 11, 12, 13, 14, 15, 16, 17, 72] _) fa_9 (by decide)), (show (fv_5 2).toInt = 0 from by rw [show fv_5 2 = (fv_5 2) from rfl]; omega), trivial⟩, ⟨by rw [ht]; exact hP, va_K.moved hW.alike hK⟩⟩, hS.F ht⟩) hS.2.2 dX12_person_53
          · skip
            exact absurd c_26 (by decide)
        · skip
          have i_28 : 0 ≤ b.toInt ∧ b.toInt ≤ 2147483647 := ⟨p_25.1, (iv_any b).2⟩
          have i_29 : 0 ≤ b.toInt ∧ b.toInt ≤ 11 := ⟨i_28.1, p_25.2⟩
          refine lv_if_eq (tgt := 52) hx hb dX12_person_31 (by decide) (fun c_30 => ?_) (fun c_30 => ?_)
          · skip
            exact absurd c_30 (by decide)
          · skip
            refine lv_iload_n hx hb dX12_person_34 rfl (lv_at hl 4 rfl) ?_
            refine lv_iconst (v := 0) hx hb dX12_person_35 (by decide) ?_
            refine lv_sipush (v := 9999) hx hb dX12_person_36 (by decide) ?_
            refine va_calli (va_runS (As := [.int v, .int 0, .int 9999]) (rest := []) ⟨hx, hb, hml, hown, hts⟩ (m_isIn l H.size v 0 9999) (va_cwS 3 hts (gS kw_7_218 kw_7_219 kw_1_15 kw_7_220) rfl rfl rfl (by decide +kernel) ⟨Nat.le_of_ble_eq_true rfl, Nat.le_of_ble_eq_true rfl⟩) ⟨fun a U g mk q => ⟨q.1, q.2⟩, fun U hU hW => ⟨rfl, congrArg Array.size hU⟩⟩ rfl rfl hl.1 rfl (lv_room (Nat.le_of_ble_eq_true rfl)) dX12_person_39 ⟨Nat.le_of_ble_eq_true rfl, Nat.le_of_ble_eq_true rfl⟩) hS (fun q _ h9 => nM_up hS q h9) (nM_up hS) (fun r_31 u t H1 locs ht _ hw hB _ hk1 hS => ?_)
            obtain ⟨p_32, p_33, -⟩ := hw
            have hP := my_keepM hP hk1
            generalize H1 = H at hP hS ⊢
            rcases p_33 with ⟨rfl, p_33⟩ | ⟨rfl, p_33⟩
            · skip
              refine lv_if_eq (tgt := 52) hx hb dX12_person_42 (by decide) (fun c_34 => ?_) (fun c_34 => ?_)
              · skip
                refine lv_iconst (v := (-1)) hx hb dX12_person_52 (by decide) ?_
                have z_35 : ((-1) : Int32).toInt = (-1) := by decide
                exact W.iret (v := (-1)) hx hb hr (fun t ht hW => ⟨⟨(-1), (fv_5, wd_6, ar_7), rfl, ⟨hF_fv_5, hA_ar_7, (fM_call (fM_put (fM_rf [0, 2, 32] _) efv_1 (by decide)) fr_8 (by decide)), (fA_call (fA_rf [9, 10, 11, 12, 13, 14, 15, 16, 17, 72] _) fa_9 (by decide)), (show (fv_5 2).toInt = 0 from by rw [show fv_5 2 = (fv_5 2) from rfl]; omega), trivial⟩, ⟨by rw [ht]; exact hP, va_K.moved hW.alike hK⟩⟩, hS.F ht⟩) hS.2.2 dX12_person_53
              · skip
                exact absurd c_34 (by decide)
            · skip
              have i_36 : 0 ≤ v.toInt ∧ v.toInt ≤ 2147483647 := iv_le2 (⟨by decide, by decide⟩ : (0 : Int) ≤ (0 : Int32).toInt ∧ (0 : Int32).toInt ≤ 0) (iv_any v) (Int32.le_iff_toInt_le.mpr p_33.1)
              have i_37 : 0 ≤ v.toInt ∧ v.toInt ≤ 9999 := iv_le1 i_36 (⟨by decide, by decide⟩ : (9999 : Int) ≤ (9999 : Int32).toInt ∧ (9999 : Int32).toInt ≤ 9999) (Int32.le_iff_toInt_le.mpr p_33.2)
              refine lv_if_eq (tgt := 52) hx hb dX12_person_42 (by decide) (fun c_38 => ?_) (fun c_38 => ?_)
              · skip
                exact absurd c_38 (by decide)
              · skip
                refine lv_iload hx hb dX12_person_45 (lv_at hl 0 rfl) ?_
                refine lv_bipush (v := 12) hx hb dX12_person_47 (by decide) ?_
                refine lv_icmp_eq (tgt := 54) hx hb dX12_person_49 (by decide) (fun c_39 => ?_) (fun c_39 => ?_)
                · skip
                  have i_40 : 12 ≤ r_2.toInt ∧ r_2.toInt ≤ 12 := iv_eq1 (⟨by decide, by decide⟩ : (12 : Int) ≤ (12 : Int32).toInt ∧ (12 : Int32).toInt ≤ 12) c_39
                  refine lv_aload_n hx hb dX12_person_54 rfl (lv_at hl 1 rfl) ?_
                  refine lv_iconst (v := 0) hx hb dX12_person_55 (by decide) ?_
                  refine va_calli (va_runV (As := [.int 0]) (rest := []) ⟨hx, hb, hml, hown, hts⟩ (m_two l dC dI H.size h ad cA hd fv_5 wd_6 ar_7 hF_fv_5 hA_ar_7 0 (iv_w (⟨by decide, by decide⟩ : (0 : Int) ≤ (0 : Int32).toInt ∧ (0 : Int32).toInt ≤ 0) (by decide) (by decide))) (cwV 1 hts (gV kw_8_24 kw_8_26 kw_p_62 kw_1_15 kw_8_27) rfl rfl rfl (by decide +kernel) ⟨Nat.le_of_ble_eq_true rfl, Nat.le_of_ble_eq_true rfl⟩) ⟨fun a U g mk q => ⟨q.1, q.2.1, q.2.2.1, va_K.moved (u := U) (U := U.calling g mk a) (Vm.Alike.refl U.vm) q.2.2.2⟩, va_recv hK hP (ci := 12) (q0 := 0) rfl rfl, fun U hU hW => ⟨rfl, by rw [hU], by rw [hU]; exact hP, va_K.moved hW.alike hK⟩⟩ rfl rfl hl.1 rfl (lv_room (Nat.le_of_ble_eq_true rfl)) dX12_person_56 ⟨Nat.le_of_ble_eq_true rfl, Nat.le_of_ble_eq_true rfl⟩) hS (fun q _ h9 => aM_up hS q h9) (aM_up hS) (fun r_41 u t H1 locs ht _ hw hB _ hk1 hS => ?_)
                  obtain ⟨fv_42, wd_43, ar_44⟩ := u
                  obtain ⟨hF_fv_42, hA_ar_44, fr_45, fa_46, -⟩ := hw
                  have hP : va_P (dC, dI) vwCl (wsM h ad cA fv_42 wd_43 ar_44) H1 := by have h9 := hB.1; rw [ht] at h9; exact h9
                  have fr_45 : fM [] fv_5 fv_42 := fr_45
                  have fa_46 : fA [] ar_7 ar_44 := fa_46
                  generalize H1 = H at hP hS ⊢
                  refine lv_sipush (v := 600) hx hb dX12_person_59 (by decide) ?_
                  refine lv_icmp_gt (tgt := 122) hx hb dX12_person_62 (by decide) (fun c_47 => ?_) (fun c_47 => ?_)
                  · skip
                    have i_48 : 601 ≤ r_41.toInt ∧ r_41.toInt ≤ 2147483647 := iv_lt2 (⟨by decide, by decide⟩ : (600 : Int) ≤ (600 : Int32).toInt ∧ (600 : Int32).toInt ≤ 600) (iv_any r_41) c_47
                    refine lv_iconst (v := (-1)) hx hb dX12_person_122 (by decide) ?_
                    have z_49 : ((-1) : Int32).toInt = (-1) := by decide
                    exact W.iret (v := (-1)) hx hb hr (fun t ht hW => ⟨⟨(-1), (fv_42, wd_43, ar_44), rfl, ⟨hF_fv_42, hA_ar_44, (fM_call (fM_call (fM_put (fM_rf [0, 2, 32] _) efv_1 (by decide)) fr_8 (by decide)) fr_45 (by decide)), (fA_call (fA_call (fA_rf [9, 10, 11, 12, 13, 14, 15, 16, 17, 72] _) fa_9 (by decide)) fa_46 (by decide)), (show (fv_42 2).toInt = 0 from by rw [show fv_42 2 = (fv_5 2) from (fr_45 2 rfl)]; omega), trivial⟩, ⟨by rw [ht]; exact hP, va_K.moved hW.alike hK⟩⟩, hS.F ht⟩) hS.2.2 dX12_person_123
                  · skip
                    have i_50 : (-2147483648) ≤ r_41.toInt ∧ r_41.toInt ≤ 600 := iv_le1 (iv_any r_41) (⟨by decide, by decide⟩ : (600 : Int) ≤ (600 : Int32).toInt ∧ (600 : Int32).toInt ≤ 600) (Int32.not_lt.mp c_47)
                    refine lv_aload_n hx hb dX12_person_65 rfl (lv_at hl 1 rfl) ?_
                    refine lv_iconst (v := 1) hx hb dX12_person_66 (by decide) ?_
                    refine va_calli (va_runV (As := [.int 1]) (rest := []) ⟨hx, hb, hml, hown, hts⟩ (m_two l dC dI H.size h ad cA hd fv_42 wd_43 ar_44 hF_fv_42 hA_ar_44 1 (iv_w (⟨by decide, by decide⟩ : (1 : Int) ≤ (1 : Int32).toInt ∧ (1 : Int32).toInt ≤ 1) (by decide) (by decide))) (cwV 1 hts (gV kw_8_24 kw_8_26 kw_p_62 kw_1_15 kw_8_27) rfl rfl rfl (by decide +kernel) ⟨Nat.le_of_ble_eq_true rfl, Nat.le_of_ble_eq_true rfl⟩) ⟨fun a U g mk q => ⟨q.1, q.2.1, q.2.2.1, va_K.moved (u := U) (U := U.calling g mk a) (Vm.Alike.refl U.vm) q.2.2.2⟩, va_recv hK hP (ci := 12) (q0 := 0) rfl rfl, fun U hU hW => ⟨rfl, by rw [hU], by rw [hU]; exact hP, va_K.moved hW.alike hK⟩⟩ rfl rfl hl.1 rfl (lv_room (Nat.le_of_ble_eq_true rfl)) dX12_person_67 ⟨Nat.le_of_ble_eq_true rfl, Nat.le_of_ble_eq_true rfl⟩) hS (fun q _ h9 => aM_up hS q h9) (aM_up hS) (fun r_51 u t H1 locs ht _ hw hB _ hk1 hS => ?_)
                    obtain ⟨fv_52, wd_53, ar_54⟩ := u
                    obtain ⟨hF_fv_52, hA_ar_54, fr_55, fa_56, -⟩ := hw
                    have hP : va_P (dC, dI) vwCl (wsM h ad cA fv_52 wd_53 ar_54) H1 := by have h9 := hB.1; rw [ht] at h9; exact h9
                    have fr_55 : fM [] fv_42 fv_52 := fr_55
                    have fa_56 : fA [] ar_44 ar_54 := fa_56
                    generalize H1 = H at hP hS ⊢
                    refine lv_sipush (v := 719) hx hb dX12_person_70 (by decide) ?_
                    refine lv_icmp_gt (tgt := 122) hx hb dX12_person_73 (by decide) (fun c_57 => ?_) (fun c_57 => ?_)
                    · skip
                      have i_58 : 720 ≤ r_51.toInt ∧ r_51.toInt ≤ 2147483647 := iv_lt2 (⟨by decide, by decide⟩ : (719 : Int) ≤ (719 : Int32).toInt ∧ (719 : Int32).toInt ≤ 719) (iv_any r_51) c_57
                      refine lv_iconst (v := (-1)) hx hb dX12_person_122 (by decide) ?_
                      have z_59 : ((-1) : Int32).toInt = (-1) := by decide
                      exact W.iret (v := (-1)) hx hb hr (fun t ht hW => ⟨⟨(-1), (fv_52, wd_53, ar_54), rfl, ⟨hF_fv_52, hA_ar_54, (fM_call (fM_call (fM_call (fM_put (fM_rf [0, 2, 32] _) efv_1 (by decide)) fr_8 (by decide)) fr_45 (by decide)) fr_55 (by decide)), (fA_call (fA_call (fA_call (fA_rf [9, 10, 11, 12, 13, 14, 15, 16, 17, 72] _) fa_9 (by decide)) fa_46 (by decide)) fa_56 (by decide)), (show (fv_52 2).toInt = 0 from by rw [show fv_52 2 = (fv_5 2) from (fr_55 2 rfl).trans ((fr_45 2 rfl))]; omega), trivial⟩, ⟨by rw [ht]; exact hP, va_K.moved hW.alike hK⟩⟩, hS.F ht⟩) hS.2.2 dX12_person_123
                    · skip
                      have i_60 : (-2147483648) ≤ r_51.toInt ∧ r_51.toInt ≤ 719 := iv_le1 (iv_any r_51) (⟨by decide, by decide⟩ : (719 : Int) ≤ (719 : Int32).toInt ∧ (719 : Int32).toInt ≤ 719) (Int32.not_lt.mp c_57)
                      refine lv_aload_n hx hb dX12_person_76 rfl (lv_at hl 1 rfl) ?_
                      refine lv_iconst (v := 2) hx hb dX12_person_77 (by decide) ?_
                      refine va_calli (va_runV (As := [.int 2]) (rest := []) ⟨hx, hb, hml, hown, hts⟩ (m_two l dC dI H.size h ad cA hd fv_52 wd_53 ar_54 hF_fv_52 hA_ar_54 2 (iv_w (⟨by decide, by decide⟩ : (2 : Int) ≤ (2 : Int32).toInt ∧ (2 : Int32).toInt ≤ 2) (by decide) (by decide))) (cwV 1 hts (gV kw_8_24 kw_8_26 kw_p_62 kw_1_15 kw_8_27) rfl rfl rfl (by decide +kernel) ⟨Nat.le_of_ble_eq_true rfl, Nat.le_of_ble_eq_true rfl⟩) ⟨fun a U g mk q => ⟨q.1, q.2.1, q.2.2.1, va_K.moved (u := U) (U := U.calling g mk a) (Vm.Alike.refl U.vm) q.2.2.2⟩, va_recv hK hP (ci := 12) (q0 := 0) rfl rfl, fun U hU hW => ⟨rfl, by rw [hU], by rw [hU]; exact hP, va_K.moved hW.alike hK⟩⟩ rfl rfl hl.1 rfl (lv_room (Nat.le_of_ble_eq_true rfl)) dX12_person_78 ⟨Nat.le_of_ble_eq_true rfl, Nat.le_of_ble_eq_true rfl⟩) hS (fun q _ h9 => aM_up hS q h9) (aM_up hS) (fun r_61 u t H1 locs ht _ hw hB _ hk1 hS => ?_)
                      obtain ⟨fv_62, wd_63, ar_64⟩ := u
                      obtain ⟨hF_fv_62, hA_ar_64, fr_65, fa_66, -⟩ := hw
                      have hP : va_P (dC, dI) vwCl (wsM h ad cA fv_62 wd_63 ar_64) H1 := by have h9 := hB.1; rw [ht] at h9; exact h9
                      have fr_65 : fM [] fv_52 fv_62 := fr_65
                      have fa_66 : fA [] ar_54 ar_64 := fa_66
                      generalize H1 = H at hP hS ⊢
                      refine lv_bipush (v := 10) hx hb dX12_person_81 (by decide) ?_
                      refine lv_bipush (v := 99) hx hb dX12_person_83 (by decide) ?_
                      refine va_calli (va_runS (As := [.int r_61, .int 10, .int 99]) (rest := []) ⟨hx, hb, hml, hown, hts⟩ (m_isIn l H.size r_61 10 99) (va_cwS 3 hts (gS kw_7_218 kw_7_219 kw_1_15 kw_7_220) rfl rfl rfl (by decide +kernel) ⟨Nat.le_of_ble_eq_true rfl, Nat.le_of_ble_eq_true rfl⟩) ⟨fun a U g mk q => ⟨q.1, q.2⟩, fun U hU hW => ⟨rfl, congrArg Array.size hU⟩⟩ rfl rfl hl.1 rfl (lv_room (Nat.le_of_ble_eq_true rfl)) dX12_person_85 ⟨Nat.le_of_ble_eq_true rfl, Nat.le_of_ble_eq_true rfl⟩) hS (fun q _ h9 => nM_up hS q h9) (nM_up hS) (fun r_67 u t H1 locs ht _ hw hB _ hk1 hS => ?_)
                      obtain ⟨p_68, p_69, -⟩ := hw
                      have hP := my_keepM hP hk1
                      generalize H1 = H at hP hS ⊢
                      rcases p_69 with ⟨rfl, p_69⟩ | ⟨rfl, p_69⟩
                      · skip
                        refine lv_if_eq (tgt := 122) hx hb dX12_person_88 (by decide) (fun c_70 => ?_) (fun c_70 => ?_)
                        · skip
                          refine lv_iconst (v := (-1)) hx hb dX12_person_122 (by decide) ?_
                          have z_71 : ((-1) : Int32).toInt = (-1) := by decide
                          exact W.iret (v := (-1)) hx hb hr (fun t ht hW => ⟨⟨(-1), (fv_62, wd_63, ar_64), rfl, ⟨hF_fv_62, hA_ar_64, (fM_call (fM_call (fM_call (fM_call (fM_put (fM_rf [0, 2, 32] _) efv_1 (by decide)) fr_8 (by decide)) fr_45 (by decide)) fr_55 (by decide)) fr_65 (by decide)), (fA_call (fA_call (fA_call (fA_call (fA_rf [9, 10, 11, 12, 13, 14, 15, 16, 17, 72] _) fa_9 (by decide)) fa_46 (by decide)) fa_56 (by decide)) fa_66 (by decide)), (show (fv_62 2).toInt = 0 from by rw [show fv_62 2 = (fv_5 2) from (fr_65 2 rfl).trans ((fr_55 2 rfl).trans ((fr_45 2 rfl)))]; omega), trivial⟩, ⟨by rw [ht]; exact hP, va_K.moved hW.alike hK⟩⟩, hS.F ht⟩) hS.2.2 dX12_person_123
                        · skip
                          exact absurd c_70 (by decide)
                      · skip
                        have i_72 : 10 ≤ r_61.toInt ∧ r_61.toInt ≤ 2147483647 := iv_le2 (⟨by decide, by decide⟩ : (10 : Int) ≤ (10 : Int32).toInt ∧ (10 : Int32).toInt ≤ 10) (iv_any r_61) (Int32.le_iff_toInt_le.mpr p_69.1)
                        have i_73 : 10 ≤ r_61.toInt ∧ r_61.toInt ≤ 99 := iv_le1 i_72 (⟨by decide, by decide⟩ : (99 : Int) ≤ (99 : Int32).toInt ∧ (99 : Int32).toInt ≤ 99) (Int32.le_iff_toInt_le.mpr p_69.2)
                        refine lv_if_eq (tgt := 122) hx hb dX12_person_88 (by decide) (fun c_74 => ?_) (fun c_74 => ?_)
                        · skip
                          exact absurd c_74 (by decide)
                        · skip
                          refine lv_aload_n hx hb dX12_person_91 rfl (lv_at hl 1 rfl) ?_
                          refine lv_iconst (v := 3) hx hb dX12_person_92 (by decide) ?_
                          refine va_calli (va_runV (As := [.int 3]) (rest := []) ⟨hx, hb, hml, hown, hts⟩ (m_two l dC dI H.size h ad cA hd fv_62 wd_63 ar_64 hF_fv_62 hA_ar_64 3 (iv_w (⟨by decide, by decide⟩ : (3 : Int) ≤ (3 : Int32).toInt ∧ (3 : Int32).toInt ≤ 3) (by decide) (by decide))) (cwV 1 hts (gV kw_8_24 kw_8_26 kw_p_62 kw_1_15 kw_8_27) rfl rfl rfl (by decide +kernel) ⟨Nat.le_of_ble_eq_true rfl, Nat.le_of_ble_eq_true rfl⟩) ⟨fun a U g mk q => ⟨q.1, q.2.1, q.2.2.1, va_K.moved (u := U) (U := U.calling g mk a) (Vm.Alike.refl U.vm) q.2.2.2⟩, va_recv hK hP (ci := 12) (q0 := 0) rfl rfl, fun U hU hW => ⟨rfl, by rw [hU], by rw [hU]; exact hP, va_K.moved hW.alike hK⟩⟩ rfl rfl hl.1 rfl (lv_room (Nat.le_of_ble_eq_true rfl)) dX12_person_93 ⟨Nat.le_of_ble_eq_true rfl, Nat.le_of_ble_eq_true rfl⟩) hS (fun q _ h9 => aM_up hS q h9) (aM_up hS) (fun r_75 u t H1 locs ht _ hw hB _ hk1 hS => ?_)
                          obtain ⟨fv_76, wd_77, ar_78⟩ := u
                          obtain ⟨hF_fv_76, hA_ar_78, fr_79, fa_80, -⟩ := hw
                          have hP : va_P (dC, dI) vwCl (wsM h ad cA fv_76 wd_77 ar_78) H1 := by have h9 := hB.1; rw [ht] at h9; exact h9
                          have fr_79 : fM [] fv_62 fv_76 := fr_79
                          have fa_80 : fA [] ar_64 ar_78 := fa_80
                          generalize H1 = H at hP hS ⊢
                          refine lv_bipush (v := 9) hx hb dX12_person_96 (by decide) ?_
                          refine lv_icmp_gt (tgt := 122) hx hb dX12_person_98 (by decide) (fun c_81 => ?_) (fun c_81 => ?_)
                          · skip
                            have i_82 : 10 ≤ r_75.toInt ∧ r_75.toInt ≤ 2147483647 := iv_lt2 (⟨by decide, by decide⟩ : (9 : Int) ≤ (9 : Int32).toInt ∧ (9 : Int32).toInt ≤ 9) (iv_any r_75) c_81
                            refine lv_iconst (v := (-1)) hx hb dX12_person_122 (by decide) ?_
                            have z_83 : ((-1) : Int32).toInt = (-1) := by decide
                            exact W.iret (v := (-1)) hx hb hr (fun t ht hW => ⟨⟨(-1), (fv_76, wd_77, ar_78), rfl, ⟨hF_fv_76, hA_ar_78, (fM_call (fM_call (fM_call (fM_call (fM_call (fM_put (fM_rf [0, 2, 32] _) efv_1 (by decide)) fr_8 (by decide)) fr_45 (by decide)) fr_55 (by decide)) fr_65 (by decide)) fr_79 (by decide)), (fA_call (fA_call (fA_call (fA_call (fA_call (fA_rf [9, 10, 11, 12, 13, 14, 15, 16, 17, 72] _) fa_9 (by decide)) fa_46 (by decide)) fa_56 (by decide)) fa_66 (by decide)) fa_80 (by decide)), (show (fv_76 2).toInt = 0 from by rw [show fv_76 2 = (fv_5 2) from (fr_79 2 rfl).trans ((fr_65 2 rfl).trans ((fr_55 2 rfl).trans ((fr_45 2 rfl))))]; omega), trivial⟩, ⟨by rw [ht]; exact hP, va_K.moved hW.alike hK⟩⟩, hS.F ht⟩) hS.2.2 dX12_person_123
                          · skip
                            have i_84 : (-2147483648) ≤ r_75.toInt ∧ r_75.toInt ≤ 9 := iv_le1 (iv_any r_75) (⟨by decide, by decide⟩ : (9 : Int) ≤ (9 : Int32).toInt ∧ (9 : Int32).toInt ≤ 9) (Int32.not_lt.mp c_81)
                            refine lv_aload_n hx hb dX12_person_101 rfl (lv_at hl 1 rfl) ?_
                            refine lv_iconst (v := 4) hx hb dX12_person_102 (by decide) ?_
                            refine va_calli (va_runV (As := [.int 4]) (rest := []) ⟨hx, hb, hml, hown, hts⟩ (m_two l dC dI H.size h ad cA hd fv_76 wd_77 ar_78 hF_fv_76 hA_ar_78 4 (iv_w (⟨by decide, by decide⟩ : (4 : Int) ≤ (4 : Int32).toInt ∧ (4 : Int32).toInt ≤ 4) (by decide) (by decide))) (cwV 1 hts (gV kw_8_24 kw_8_26 kw_p_62 kw_1_15 kw_8_27) rfl rfl rfl (by decide +kernel) ⟨Nat.le_of_ble_eq_true rfl, Nat.le_of_ble_eq_true rfl⟩) ⟨fun a U g mk q => ⟨q.1, q.2.1, q.2.2.1, va_K.moved (u := U) (U := U.calling g mk a) (Vm.Alike.refl U.vm) q.2.2.2⟩, va_recv hK hP (ci := 12) (q0 := 0) rfl rfl, fun U hU hW => ⟨rfl, by rw [hU], by rw [hU]; exact hP, va_K.moved hW.alike hK⟩⟩ rfl rfl hl.1 rfl (lv_room (Nat.le_of_ble_eq_true rfl)) dX12_person_103 ⟨Nat.le_of_ble_eq_true rfl, Nat.le_of_ble_eq_true rfl⟩) hS (fun q _ h9 => aM_up hS q h9) (aM_up hS) (fun r_85 u t H1 locs ht _ hw hB _ hk1 hS => ?_)
                            obtain ⟨fv_86, wd_87, ar_88⟩ := u
                            obtain ⟨hF_fv_86, hA_ar_88, fr_89, fa_90, -⟩ := hw
                            have hP : va_P (dC, dI) vwCl (wsM h ad cA fv_86 wd_87 ar_88) H1 := by have h9 := hB.1; rw [ht] at h9; exact h9
                            have fr_89 : fM [] fv_76 fv_86 := fr_89
                            have fa_90 : fA [] ar_78 ar_88 := fa_90
                            generalize H1 = H at hP hS ⊢
                            refine lv_sipush (v := 10000) hx hb dX12_person_106 (by decide) ?_
                            refine lv_icmp_gt (tgt := 122) hx hb dX12_person_109 (by decide) (fun c_91 => ?_) (fun c_91 => ?_)
                            · skip
                              have i_92 : 10001 ≤ r_85.toInt ∧ r_85.toInt ≤ 2147483647 := iv_lt2 (⟨by decide, by decide⟩ : (10000 : Int) ≤ (10000 : Int32).toInt ∧ (10000 : Int32).toInt ≤ 10000) (iv_any r_85) c_91
                              refine lv_iconst (v := (-1)) hx hb dX12_person_122 (by decide) ?_
                              have z_93 : ((-1) : Int32).toInt = (-1) := by decide
                              exact W.iret (v := (-1)) hx hb hr (fun t ht hW => ⟨⟨(-1), (fv_86, wd_87, ar_88), rfl, ⟨hF_fv_86, hA_ar_88, (fM_call (fM_call (fM_call (fM_call (fM_call (fM_call (fM_put (fM_rf [0, 2, 32] _) efv_1 (by decide)) fr_8 (by decide)) fr_45 (by decide)) fr_55 (by decide)) fr_65 (by decide)) fr_79 (by decide)) fr_89 (by decide)), (fA_call (fA_call (fA_call (fA_call (fA_call (fA_call (fA_rf [9, 10, 11, 12, 13, 14, 15, 16, 17, 72] _) fa_9 (by decide)) fa_46 (by decide)) fa_56 (by decide)) fa_66 (by decide)) fa_80 (by decide)) fa_90 (by decide)), (show (fv_86 2).toInt = 0 from by rw [show fv_86 2 = (fv_5 2) from (fr_89 2 rfl).trans ((fr_79 2 rfl).trans ((fr_65 2 rfl).trans ((fr_55 2 rfl).trans ((fr_45 2 rfl)))))]; omega), trivial⟩, ⟨by rw [ht]; exact hP, va_K.moved hW.alike hK⟩⟩, hS.F ht⟩) hS.2.2 dX12_person_123
                            · skip
                              have i_94 : (-2147483648) ≤ r_85.toInt ∧ r_85.toInt ≤ 10000 := iv_le1 (iv_any r_85) (⟨by decide, by decide⟩ : (10000 : Int) ≤ (10000 : Int32).toInt ∧ (10000 : Int32).toInt ≤ 10000) (Int32.not_lt.mp c_91)
                              refine lv_aload_n hx hb dX12_person_112 rfl (lv_at hl 1 rfl) ?_
                              refine lv_iconst (v := 5) hx hb dX12_person_113 (by decide) ?_
                              refine va_calli (va_runV (As := [.int 5]) (rest := []) ⟨hx, hb, hml, hown, hts⟩ (m_two l dC dI H.size h ad cA hd fv_86 wd_87 ar_88 hF_fv_86 hA_ar_88 5 (iv_w (⟨by decide, by decide⟩ : (5 : Int) ≤ (5 : Int32).toInt ∧ (5 : Int32).toInt ≤ 5) (by decide) (by decide))) (cwV 1 hts (gV kw_8_24 kw_8_26 kw_p_62 kw_1_15 kw_8_27) rfl rfl rfl (by decide +kernel) ⟨Nat.le_of_ble_eq_true rfl, Nat.le_of_ble_eq_true rfl⟩) ⟨fun a U g mk q => ⟨q.1, q.2.1, q.2.2.1, va_K.moved (u := U) (U := U.calling g mk a) (Vm.Alike.refl U.vm) q.2.2.2⟩, va_recv hK hP (ci := 12) (q0 := 0) rfl rfl, fun U hU hW => ⟨rfl, by rw [hU], by rw [hU]; exact hP, va_K.moved hW.alike hK⟩⟩ rfl rfl hl.1 rfl (lv_room (Nat.le_of_ble_eq_true rfl)) dX12_person_114 ⟨Nat.le_of_ble_eq_true rfl, Nat.le_of_ble_eq_true rfl⟩) hS (fun q _ h9 => aM_up hS q h9) (aM_up hS) (fun r_95 u t H1 locs ht _ hw hB _ hk1 hS => ?_)
                              obtain ⟨fv_96, wd_97, ar_98⟩ := u
                              obtain ⟨hF_fv_96, hA_ar_98, fr_99, fa_100, -⟩ := hw
                              have hP : va_P (dC, dI) vwCl (wsM h ad cA fv_96 wd_97 ar_98) H1 := by have h9 := hB.1; rw [ht] at h9; exact h9
                              have fr_99 : fM [] fv_86 fv_96 := fr_99
                              have fa_100 : fA [] ar_88 ar_98 := fa_100
                              generalize H1 = H at hP hS ⊢
                              refine lv_bipush (v := 9) hx hb dX12_person_117 (by decide) ?_
                              refine lv_icmp_le (tgt := 124) hx hb dX12_person_119 (by decide) (fun c_101 => ?_) (fun c_101 => ?_)
                              · skip
                                have i_102 : (-2147483648) ≤ r_95.toInt ∧ r_95.toInt ≤ 9 := iv_le1 (iv_any r_95) (⟨by decide, by decide⟩ : (9 : Int) ≤ (9 : Int32).toInt ∧ (9 : Int32).toInt ≤ 9) c_101
                                refine lv_aload_n hx hb dX12_person_124 rfl (lv_at hl 1 rfl) ?_
                                refine gM_9 hx hb htg hown hK hP dX12_person_125 ?_
                                refine lv_aload_n hx hb dX12_person_128 rfl (lv_at hl 1 rfl) ?_
                                refine gM_32 hx hb htg hown hK hP dX12_person_129 ?_
                                refine my_ti (y := fv 32) ((fr_99 32 rfl).trans ((fr_89 32 rfl).trans ((fr_79 32 rfl).trans ((fr_65 32 rfl).trans ((fr_55 32 rfl).trans ((fr_45 32 rfl).trans ((fr_8 32 rfl).trans ((congrFun efv_1 32))))))))) ?_
                                refine lv_iload_n hx hb dX12_person_132 rfl (lv_at hl 2 rfl) ?_
                                refine sM_9 hx hb hK hP hS hd (iv_in i_14 (by decide) (by decide)) dX12_person_133 (fun H locs ar_103 ear_103 hP hS => ?_)
                                have hA_ar_103 : rA ar_103 := rA_put hA_ar_98 ear_103 i_21
                                refine lv_aload_n hx hb dX12_person_134 rfl (lv_at hl 1 rfl) ?_
                                refine gM_10 hx hb htg hown hK hP dX12_person_135 ?_
                                refine lv_aload_n hx hb dX12_person_138 rfl (lv_at hl 1 rfl) ?_
                                refine gM_32 hx hb htg hown hK hP dX12_person_139 ?_
                                refine my_ti (y := fv 32) ((fr_99 32 rfl).trans ((fr_89 32 rfl).trans ((fr_79 32 rfl).trans ((fr_65 32 rfl).trans ((fr_55 32 rfl).trans ((fr_45 32 rfl).trans ((fr_8 32 rfl).trans ((congrFun efv_1 32))))))))) ?_
                                refine lv_iload_n hx hb dX12_person_142 rfl (lv_at hl 3 rfl) ?_
                                refine sM_10 hx hb hK hP hS hd (iv_in i_14 (by decide) (by decide)) dX12_person_143 (fun H locs ar_104 ear_104 hP hS => ?_)
                                have hA_ar_104 : rA ar_104 := rA_put hA_ar_103 ear_104 i_29
                                refine lv_aload_n hx hb dX12_person_144 rfl (lv_at hl 1 rfl) ?_
                                refine gM_11 hx hb htg hown hK hP dX12_person_145 ?_
                                refine lv_aload_n hx hb dX12_person_148 rfl (lv_at hl 1 rfl) ?_
                                refine gM_32 hx hb htg hown hK hP dX12_person_149 ?_
                                refine my_ti (y := fv 32) ((fr_99 32 rfl).trans ((fr_89 32 rfl).trans ((fr_79 32 rfl).trans ((fr_65 32 rfl).trans ((fr_55 32 rfl).trans ((fr_45 32 rfl).trans ((fr_8 32 rfl).trans ((congrFun efv_1 32))))))))) ?_
                                refine lv_iload_n hx hb dX12_person_152 rfl (lv_at hl 4 rfl) ?_
                                refine sM_11 hx hb hK hP hS hd (iv_in i_14 (by decide) (by decide)) dX12_person_153 (fun H locs ar_105 ear_105 hP hS => ?_)
                                have hA_ar_105 : rA ar_105 := rA_put hA_ar_104 ear_105 (iv_any _)
                                refine lv_aload_n hx hb dX12_person_154 rfl (lv_at hl 1 rfl) ?_
                                refine gM_12 hx hb htg hown hK hP dX12_person_155 ?_
                                refine lv_aload_n hx hb dX12_person_158 rfl (lv_at hl 1 rfl) ?_
                                refine gM_32 hx hb htg hown hK hP dX12_person_159 ?_
                                refine my_ti (y := fv 32) ((fr_99 32 rfl).trans ((fr_89 32 rfl).trans ((fr_79 32 rfl).trans ((fr_65 32 rfl).trans ((fr_55 32 rfl).trans ((fr_45 32 rfl).trans ((fr_8 32 rfl).trans ((congrFun efv_1 32))))))))) ?_
                                refine lv_aload_n hx hb dX12_person_162 rfl (lv_at hl 1 rfl) ?_
                                refine lv_iconst (v := 0) hx hb dX12_person_163 (by decide) ?_
                                refine va_calli (va_runV (As := [.int 0]) (rest := [.int (fv 32), .ref (ad 12)]) ⟨hx, hb, hml, hown, hts⟩ (m_two l dC dI H.size h ad cA hd fv_96 wd_97 ar_105 hF_fv_96 hA_ar_105 0 (iv_w (⟨by decide, by decide⟩ : (0 : Int) ≤ (0 : Int32).toInt ∧ (0 : Int32).toInt ≤ 0) (by decide) (by decide))) (cwV 1 hts (gV kw_8_24 kw_8_26 kw_p_62 kw_1_15 kw_8_27) rfl rfl rfl (by decide +kernel) ⟨Nat.le_of_ble_eq_true rfl, Nat.le_of_ble_eq_true rfl⟩) ⟨fun a U g mk q => ⟨q.1, q.2.1, q.2.2.1, va_K.moved (u := U) (U := U.calling g mk a) (Vm.Alike.refl U.vm) q.2.2.2⟩, va_recv hK hP (ci := 12) (q0 := 0) rfl rfl, fun U hU hW => ⟨rfl, by rw [hU], by rw [hU]; exact hP, va_K.moved hW.alike hK⟩⟩ rfl rfl hl.1 rfl (lv_room (Nat.le_of_ble_eq_true rfl)) dX12_person_164 ⟨Nat.le_of_ble_eq_true rfl, Nat.le_of_ble_eq_true rfl⟩) hS (fun q _ h9 => aM_up hS q h9) (aM_up hS) (fun r_106 u t H1 locs ht _ hw hB _ hk1 hS => ?_)
                                obtain ⟨fv_107, wd_108, ar_109⟩ := u
                                obtain ⟨hF_fv_107, hA_ar_109, fr_110, fa_111, -⟩ := hw
                                have hP : va_P (dC, dI) vwCl (wsM h ad cA fv_107 wd_108 ar_109) H1 := by have h9 := hB.1; rw [ht] at h9; exact h9
                                have fr_110 : fM [] fv_96 fv_107 := fr_110
                                have fa_111 : fA [] ar_105 ar_109 := fa_111
                                generalize H1 = H at hP hS ⊢
                                refine sM_12 hx hb hK hP hS hd (iv_in i_14 (by decide) (by decide)) dX12_person_167 (fun H locs ar_112 ear_112 hP hS => ?_)
                                have hA_ar_112 : rA ar_112 := rA_put hA_ar_109 ear_112 (iv_any _)
                                refine lv_aload_n hx hb dX12_person_168 rfl (lv_at hl 1 rfl) ?_
                                refine gM_13 hx hb htg hown hK hP dX12_person_169 ?_
                                refine lv_aload_n hx hb dX12_person_172 rfl (lv_at hl 1 rfl) ?_
                                refine gM_32 hx hb htg hown hK hP dX12_person_173 ?_
                                refine my_ti (y := fv 32) ((fr_110 32 rfl).trans ((fr_99 32 rfl).trans ((fr_89 32 rfl).trans ((fr_79 32 rfl).trans ((fr_65 32 rfl).trans ((fr_55 32 rfl).trans ((fr_45 32 rfl).trans ((fr_8 32 rfl).trans ((congrFun efv_1 32)))))))))) ?_
                                refine lv_aload_n hx hb dX12_person_176 rfl (lv_at hl 1 rfl) ?_
                                refine lv_iconst (v := 1) hx hb dX12_person_177 (by decide) ?_
                                refine va_calli (va_runV (As := [.int 1]) (rest := [.int (fv 32), .ref (ad 13)]) ⟨hx, hb, hml, hown, hts⟩ (m_two l dC dI H.size h ad cA hd fv_107 wd_108 ar_112 hF_fv_107 hA_ar_112 1 (iv_w (⟨by decide, by decide⟩ : (1 : Int) ≤ (1 : Int32).toInt ∧ (1 : Int32).toInt ≤ 1) (by decide) (by decide))) (cwV 1 hts (gV kw_8_24 kw_8_26 kw_p_62 kw_1_15 kw_8_27) rfl rfl rfl (by decide +kernel) ⟨Nat.le_of_ble_eq_true rfl, Nat.le_of_ble_eq_true rfl⟩) ⟨fun a U g mk q => ⟨q.1, q.2.1, q.2.2.1, va_K.moved (u := U) (U := U.calling g mk a) (Vm.Alike.refl U.vm) q.2.2.2⟩, va_recv hK hP (ci := 12) (q0 := 0) rfl rfl, fun U hU hW => ⟨rfl, by rw [hU], by rw [hU]; exact hP, va_K.moved hW.alike hK⟩⟩ rfl rfl hl.1 rfl (lv_room (Nat.le_of_ble_eq_true rfl)) dX12_person_178 ⟨Nat.le_of_ble_eq_true rfl, Nat.le_of_ble_eq_true rfl⟩) hS (fun q _ h9 => aM_up hS q h9) (aM_up hS) (fun r_113 u t H1 locs ht _ hw hB _ hk1 hS => ?_)
                                obtain ⟨fv_114, wd_115, ar_116⟩ := u
                                obtain ⟨hF_fv_114, hA_ar_116, fr_117, fa_118, -⟩ := hw
                                have hP : va_P (dC, dI) vwCl (wsM h ad cA fv_114 wd_115 ar_116) H1 := by have h9 := hB.1; rw [ht] at h9; exact h9
                                have fr_117 : fM [] fv_107 fv_114 := fr_117
                                have fa_118 : fA [] ar_112 ar_116 := fa_118
                                generalize H1 = H at hP hS ⊢
                                refine sM_13 hx hb hK hP hS hd (iv_in i_14 (by decide) (by decide)) dX12_person_181 (fun H locs ar_119 ear_119 hP hS => ?_)
                                have hA_ar_119 : rA ar_119 := rA_put hA_ar_116 ear_119 (iv_any _)
                                refine lv_aload_n hx hb dX12_person_182 rfl (lv_at hl 1 rfl) ?_
                                refine gM_14 hx hb htg hown hK hP dX12_person_183 ?_
                                refine lv_aload_n hx hb dX12_person_186 rfl (lv_at hl 1 rfl) ?_
                                refine gM_32 hx hb htg hown hK hP dX12_person_187 ?_
                                refine my_ti (y := fv 32) ((fr_117 32 rfl).trans ((fr_110 32 rfl).trans ((fr_99 32 rfl).trans ((fr_89 32 rfl).trans ((fr_79 32 rfl).trans ((fr_65 32 rfl).trans ((fr_55 32 rfl).trans ((fr_45 32 rfl).trans ((fr_8 32 rfl).trans ((congrFun efv_1 32))))))))))) ?_
                                refine lv_aload_n hx hb dX12_person_190 rfl (lv_at hl 1 rfl) ?_
                                refine lv_iconst (v := 2) hx hb dX12_person_191 (by decide) ?_
                                refine va_calli (va_runV (As := [.int 2]) (rest := [.int (fv 32), .ref (ad 14)]) ⟨hx, hb, hml, hown, hts⟩ (m_two l dC dI H.size h ad cA hd fv_114 wd_115 ar_119 hF_fv_114 hA_ar_119 2 (iv_w (⟨by decide, by decide⟩ : (2 : Int) ≤ (2 : Int32).toInt ∧ (2 : Int32).toInt ≤ 2) (by decide) (by decide))) (cwV 1 hts (gV kw_8_24 kw_8_26 kw_p_62 kw_1_15 kw_8_27) rfl rfl rfl (by decide +kernel) ⟨Nat.le_of_ble_eq_true rfl, Nat.le_of_ble_eq_true rfl⟩) ⟨fun a U g mk q => ⟨q.1, q.2.1, q.2.2.1, va_K.moved (u := U) (U := U.calling g mk a) (Vm.Alike.refl U.vm) q.2.2.2⟩, va_recv hK hP (ci := 12) (q0 := 0) rfl rfl, fun U hU hW => ⟨rfl, by rw [hU], by rw [hU]; exact hP, va_K.moved hW.alike hK⟩⟩ rfl rfl hl.1 rfl (lv_room (Nat.le_of_ble_eq_true rfl)) dX12_person_192 ⟨Nat.le_of_ble_eq_true rfl, Nat.le_of_ble_eq_true rfl⟩) hS (fun q _ h9 => aM_up hS q h9) (aM_up hS) (fun r_120 u t H1 locs ht _ hw hB _ hk1 hS => ?_)
                                obtain ⟨fv_121, wd_122, ar_123⟩ := u
                                obtain ⟨hF_fv_121, hA_ar_123, fr_124, fa_125, -⟩ := hw
                                have hP : va_P (dC, dI) vwCl (wsM h ad cA fv_121 wd_122 ar_123) H1 := by have h9 := hB.1; rw [ht] at h9; exact h9
                                have fr_124 : fM [] fv_114 fv_121 := fr_124
                                have fa_125 : fA [] ar_119 ar_123 := fa_125
                                generalize H1 = H at hP hS ⊢
                                refine sM_14 hx hb hK hP hS hd (iv_in i_14 (by decide) (by decide)) dX12_person_195 (fun H locs ar_126 ear_126 hP hS => ?_)
                                have hA_ar_126 : rA ar_126 := rA_put hA_ar_123 ear_126 (iv_any _)
                                refine lv_aload_n hx hb dX12_person_196 rfl (lv_at hl 1 rfl) ?_
                                refine gM_15 hx hb htg hown hK hP dX12_person_197 ?_
                                refine lv_aload_n hx hb dX12_person_200 rfl (lv_at hl 1 rfl) ?_
                                refine gM_32 hx hb htg hown hK hP dX12_person_201 ?_
                                refine my_ti (y := fv 32) ((fr_124 32 rfl).trans ((fr_117 32 rfl).trans ((fr_110 32 rfl).trans ((fr_99 32 rfl).trans ((fr_89 32 rfl).trans ((fr_79 32 rfl).trans ((fr_65 32 rfl).trans ((fr_55 32 rfl).trans ((fr_45 32 rfl).trans ((fr_8 32 rfl).trans ((congrFun efv_1 32)))))))))))) ?_
                                refine lv_aload_n hx hb dX12_person_204 rfl (lv_at hl 1 rfl) ?_
                                refine lv_iconst (v := 3) hx hb dX12_person_205 (by decide) ?_
                                refine va_calli (va_runV (As := [.int 3]) (rest := [.int (fv 32), .ref (ad 15)]) ⟨hx, hb, hml, hown, hts⟩ (m_two l dC dI H.size h ad cA hd fv_121 wd_122 ar_126 hF_fv_121 hA_ar_126 3 (iv_w (⟨by decide, by decide⟩ : (3 : Int) ≤ (3 : Int32).toInt ∧ (3 : Int32).toInt ≤ 3) (by decide) (by decide))) (cwV 1 hts (gV kw_8_24 kw_8_26 kw_p_62 kw_1_15 kw_8_27) rfl rfl rfl (by decide +kernel) ⟨Nat.le_of_ble_eq_true rfl, Nat.le_of_ble_eq_true rfl⟩) ⟨fun a U g mk q => ⟨q.1, q.2.1, q.2.2.1, va_K.moved (u := U) (U := U.calling g mk a) (Vm.Alike.refl U.vm) q.2.2.2⟩, va_recv hK hP (ci := 12) (q0 := 0) rfl rfl, fun U hU hW => ⟨rfl, by rw [hU], by rw [hU]; exact hP, va_K.moved hW.alike hK⟩⟩ rfl rfl hl.1 rfl (lv_room (Nat.le_of_ble_eq_true rfl)) dX12_person_206 ⟨Nat.le_of_ble_eq_true rfl, Nat.le_of_ble_eq_true rfl⟩) hS (fun q _ h9 => aM_up hS q h9) (aM_up hS) (fun r_127 u t H1 locs ht _ hw hB _ hk1 hS => ?_)
                                obtain ⟨fv_128, wd_129, ar_130⟩ := u
                                obtain ⟨hF_fv_128, hA_ar_130, fr_131, fa_132, -⟩ := hw
                                have hP : va_P (dC, dI) vwCl (wsM h ad cA fv_128 wd_129 ar_130) H1 := by have h9 := hB.1; rw [ht] at h9; exact h9
                                have fr_131 : fM [] fv_121 fv_128 := fr_131
                                have fa_132 : fA [] ar_126 ar_130 := fa_132
                                generalize H1 = H at hP hS ⊢
                                refine sM_15 hx hb hK hP hS hd (iv_in i_14 (by decide) (by decide)) dX12_person_209 (fun H locs ar_133 ear_133 hP hS => ?_)
                                have hA_ar_133 : rA ar_133 := rA_put hA_ar_130 ear_133 (iv_any _)
                                refine lv_aload_n hx hb dX12_person_210 rfl (lv_at hl 1 rfl) ?_
                                refine gM_16 hx hb htg hown hK hP dX12_person_211 ?_
                                refine lv_aload_n hx hb dX12_person_214 rfl (lv_at hl 1 rfl) ?_
                                refine gM_32 hx hb htg hown hK hP dX12_person_215 ?_
                                refine my_ti (y := fv 32) ((fr_131 32 rfl).trans ((fr_124 32 rfl).trans ((fr_117 32 rfl).trans ((fr_110 32 rfl).trans ((fr_99 32 rfl).trans ((fr_89 32 rfl).trans ((fr_79 32 rfl).trans ((fr_65 32 rfl).trans ((fr_55 32 rfl).trans ((fr_45 32 rfl).trans ((fr_8 32 rfl).trans ((congrFun efv_1 32))))))))))))) ?_
                                refine lv_bipush (v := 10) hx hb dX12_person_218 (by decide) ?_
                                refine lv_aload_n hx hb dX12_person_220 rfl (lv_at hl 1 rfl) ?_
                                refine lv_iconst (v := 4) hx hb dX12_person_221 (by decide) ?_
                                refine va_calli (va_runV (As := [.int 4]) (rest := [.int 10, .int (fv 32), .ref (ad 16)]) ⟨hx, hb, hml, hown, hts⟩ (m_two l dC dI H.size h ad cA hd fv_128 wd_129 ar_133 hF_fv_128 hA_ar_133 4 (iv_w (⟨by decide, by decide⟩ : (4 : Int) ≤ (4 : Int32).toInt ∧ (4 : Int32).toInt ≤ 4) (by decide) (by decide))) (cwV 1 hts (gV kw_8_24 kw_8_26 kw_p_62 kw_1_15 kw_8_27) rfl rfl rfl (by decide +kernel) ⟨Nat.le_of_ble_eq_true rfl, Nat.le_of_ble_eq_true rfl⟩) ⟨fun a U g mk q => ⟨q.1, q.2.1, q.2.2.1, va_K.moved (u := U) (U := U.calling g mk a) (Vm.Alike.refl U.vm) q.2.2.2⟩, va_recv hK hP (ci := 12) (q0 := 0) rfl rfl, fun U hU hW => ⟨rfl, by rw [hU], by rw [hU]; exact hP, va_K.moved hW.alike hK⟩⟩ rfl rfl hl.1 rfl (lv_room (Nat.le_of_ble_eq_true rfl)) dX12_person_222 ⟨Nat.le_of_ble_eq_true rfl, Nat.le_of_ble_eq_true rfl⟩) hS (fun q _ h9 => aM_up hS q h9) (aM_up hS) (fun r_134 u t H1 locs ht _ hw hB _ hk1 hS => ?_)
                                obtain ⟨fv_135, wd_136, ar_137⟩ := u
                                obtain ⟨hF_fv_135, hA_ar_137, fr_138, fa_139, -⟩ := hw
                                have hP : va_P (dC, dI) vwCl (wsM h ad cA fv_135 wd_136 ar_137) H1 := by have h9 := hB.1; rw [ht] at h9; exact h9
                                have fr_138 : fM [] fv_128 fv_135 := fr_138
                                have fa_139 : fA [] ar_133 ar_137 := fa_139
                                generalize H1 = H at hP hS ⊢
                                refine lv_imul hx hb dX12_person_225 ?_
                                refine lv_topi (fun v_140 ev_140 => ?_)
                                refine sM_16 hx hb hK hP hS hd (iv_in i_14 (by decide) (by decide)) dX12_person_226 (fun H locs ar_141 ear_141 hP hS => ?_)
                                have hA_ar_141 : rA ar_141 := rA_put hA_ar_137 ear_141 (iv_any _)
                                refine lv_aload_n hx hb dX12_person_227 rfl (lv_at hl 1 rfl) ?_
                                refine gM_17 hx hb htg hown hK hP dX12_person_228 ?_
                                refine lv_aload_n hx hb dX12_person_231 rfl (lv_at hl 1 rfl) ?_
                                refine gM_32 hx hb htg hown hK hP dX12_person_232 ?_
                                refine my_ti (y := fv 32) ((fr_138 32 rfl).trans ((fr_131 32 rfl).trans ((fr_124 32 rfl).trans ((fr_117 32 rfl).trans ((fr_110 32 rfl).trans ((fr_99 32 rfl).trans ((fr_89 32 rfl).trans ((fr_79 32 rfl).trans ((fr_65 32 rfl).trans ((fr_55 32 rfl).trans ((fr_45 32 rfl).trans ((fr_8 32 rfl).trans ((congrFun efv_1 32)))))))))))))) ?_
                                refine lv_aload_n hx hb dX12_person_235 rfl (lv_at hl 1 rfl) ?_
                                refine lv_iconst (v := 5) hx hb dX12_person_236 (by decide) ?_
                                refine va_calli (va_runV (As := [.int 5]) (rest := [.int (fv 32), .ref (ad 17)]) ⟨hx, hb, hml, hown, hts⟩ (m_two l dC dI H.size h ad cA hd fv_135 wd_136 ar_141 hF_fv_135 hA_ar_141 5 (iv_w (⟨by decide, by decide⟩ : (5 : Int) ≤ (5 : Int32).toInt ∧ (5 : Int32).toInt ≤ 5) (by decide) (by decide))) (cwV 1 hts (gV kw_8_24 kw_8_26 kw_p_62 kw_1_15 kw_8_27) rfl rfl rfl (by decide +kernel) ⟨Nat.le_of_ble_eq_true rfl, Nat.le_of_ble_eq_true rfl⟩) ⟨fun a U g mk q => ⟨q.1, q.2.1, q.2.2.1, va_K.moved (u := U) (U := U.calling g mk a) (Vm.Alike.refl U.vm) q.2.2.2⟩, va_recv hK hP (ci := 12) (q0 := 0) rfl rfl, fun U hU hW => ⟨rfl, by rw [hU], by rw [hU]; exact hP, va_K.moved hW.alike hK⟩⟩ rfl rfl hl.1 rfl (lv_room (Nat.le_of_ble_eq_true rfl)) dX12_person_237 ⟨Nat.le_of_ble_eq_true rfl, Nat.le_of_ble_eq_true rfl⟩) hS (fun q _ h9 => aM_up hS q h9) (aM_up hS) (fun r_142 u t H1 locs ht _ hw hB _ hk1 hS => ?_)
                                obtain ⟨fv_143, wd_144, ar_145⟩ := u
                                obtain ⟨hF_fv_143, hA_ar_145, fr_146, fa_147, -⟩ := hw
                                have hP : va_P (dC, dI) vwCl (wsM h ad cA fv_143 wd_144 ar_145) H1 := by have h9 := hB.1; rw [ht] at h9; exact h9
                                have fr_146 : fM [] fv_135 fv_143 := fr_146
                                have fa_147 : fA [] ar_141 ar_145 := fa_147
                                generalize H1 = H at hP hS ⊢
                                refine sM_17 hx hb hK hP hS hd (iv_in i_14 (by decide) (by decide)) dX12_person_240 (fun H locs ar_148 ear_148 hP hS => ?_)
                                have hA_ar_148 : rA ar_148 := rA_put hA_ar_145 ear_148 (iv_any _)
                                refine lv_aload_n hx hb dX12_person_241 rfl (lv_at hl 1 rfl) ?_
                                refine gM_72 hx hb htg hown hK hP dX12_person_242 ?_
                                refine lv_aload_n hx hb dX12_person_245 rfl (lv_at hl 1 rfl) ?_
                                refine gM_32 hx hb htg hown hK hP dX12_person_246 ?_
                                refine my_ti (y := fv 32) ((fr_146 32 rfl).trans ((fr_138 32 rfl).trans ((fr_131 32 rfl).trans ((fr_124 32 rfl).trans ((fr_117 32 rfl).trans ((fr_110 32 rfl).trans ((fr_99 32 rfl).trans ((fr_89 32 rfl).trans ((fr_79 32 rfl).trans ((fr_65 32 rfl).trans ((fr_55 32 rfl).trans ((fr_45 32 rfl).trans ((fr_8 32 rfl).trans ((congrFun efv_1 32))))))))))))))) ?_
                                refine lv_iconst (v := (-1)) hx hb dX12_person_249 (by decide) ?_
                                refine sM_72 hx hb hK hP hS hd (iv_in i_14 (by decide) (by decide)) dX12_person_250 (fun H locs ar_149 ear_149 hP hS => ?_)
                                have hA_ar_149 : rA ar_149 := rA_put hA_ar_148 ear_149 (iv_any _)
                                refine lv_aload_n hx hb dX12_person_251 rfl (lv_at hl 1 rfl) ?_
                                refine lv_dup hx hb dX12_person_252 rfl ?_
                                refine gM_32 hx hb htg hown hK hP dX12_person_253 ?_
                                refine my_ti (y := fv 32) ((fr_146 32 rfl).trans ((fr_138 32 rfl).trans ((fr_131 32 rfl).trans ((fr_124 32 rfl).trans ((fr_117 32 rfl).trans ((fr_110 32 rfl).trans ((fr_99 32 rfl).trans ((fr_89 32 rfl).trans ((fr_79 32 rfl).trans ((fr_65 32 rfl).trans ((fr_55 32 rfl).trans ((fr_45 32 rfl).trans ((fr_8 32 rfl).trans ((congrFun efv_1 32))))))))))))))) ?_
                                refine lv_iconst (v := 1) hx hb dX12_person_256 (by decide) ?_
                                refine lv_iadd hx hb dX12_person_257 ?_
                                refine lv_topi (fun v_150 ev_150 => ?_)
                                have t_151 : v_150.toInt = (fv 32).toInt + 1 ∧ 1 ≤ v_150.toInt ∧ v_150.toInt ≤ 40 := iv_addc ev_150 i_14 (by decide) (by decide) (by decide)
                                refine pM_32 hx hb htg hown hK hP hS hd dX12_person_258 (fun H locs fv_153 efv_153 hP hS => ?_)
                                have hF_fv_153 : rF fv_153 := rF_put hF_fv_143 efv_153 (iv_w t_151.2 (by decide) (by decide))
                                refine lv_aload_n hx hb dX12_person_261 rfl (lv_at hl 1 rfl) ?_
                                refine gM_32 hx hb htg hown hK hP dX12_person_262 ?_
                                refine my_ti (y := v_150) ((congrFun efv_153 32)) ?_
                                refine lv_iconst (v := 1) hx hb dX12_person_265 (by decide) ?_
                                refine lv_isub hx hb dX12_person_266 ?_
                                refine lv_topi (fun v_154 ev_154 => ?_)
                                have t_155 : v_154.toInt = v_150.toInt - 1 ∧ 0 ≤ v_154.toInt ∧ v_154.toInt ≤ 39 := iv_subc ev_154 t_151.2 (by decide) (by decide) (by decide)
                                exact W.iret (v := v_154) hx hb hr (fun t ht hW => ⟨⟨v_154, (fv_153, wd_144, ar_149), rfl, ⟨hF_fv_153, hA_ar_149, (fM_put (fM_call (fM_call (fM_call (fM_call (fM_call (fM_call (fM_call (fM_call (fM_call (fM_call (fM_call (fM_call (fM_call (fM_put (fM_rf [0, 2, 32] _) efv_1 (by decide)) fr_8 (by decide)) fr_45 (by decide)) fr_55 (by decide)) fr_65 (by decide)) fr_79 (by decide)) fr_89 (by decide)) fr_99 (by decide)) fr_110 (by decide)) fr_117 (by decide)) fr_124 (by decide)) fr_131 (by decide)) fr_138 (by decide)) fr_146 (by decide)) efv_153 (by decide)), (fA_put (fA_put (fA_call (fA_put (fA_call (fA_put (fA_call (fA_put (fA_call (fA_put (fA_call (fA_put (fA_call (fA_put (fA_put (fA_put (fA_call (fA_call (fA_call (fA_call (fA_call (fA_call (fA_call (fA_rf [9, 10, 11, 12, 13, 14, 15, 16, 17, 72] _) fa_9 (by decide)) fa_46 (by decide)) fa_56 (by decide)) fa_66 (by decide)) fa_80 (by decide)) fa_90 (by decide)) fa_100 (by decide)) ear_103 (by decide)) ear_104 (by decide)) ear_105 (by decide)) fa_111 (by decide)) ear_112 (by decide)) fa_118 (by decide)) ear_119 (by decide)) fa_125 (by decide)) ear_126 (by decide)) fa_132 (by decide)) ear_133 (by decide)) fa_139 (by decide)) ear_141 (by decide)) fa_147 (by decide)) ear_148 (by decide)) ear_149 (by decide)), (show (fv_153 2).toInt = 0 from by rw [show fv_153 2 = (fv_5 2) from (congrFun efv_153 2).trans ((fr_146 2 rfl).trans ((fr_138 2 rfl).trans ((fr_131 2 rfl).trans ((fr_124 2 rfl).trans ((fr_117 2 rfl).trans ((fr_110 2 rfl).trans ((fr_99 2 rfl).trans ((fr_89 2 rfl).trans ((fr_79 2 rfl).trans ((fr_65 2 rfl).trans ((fr_55 2 rfl).trans ((fr_45 2 rfl)))))))))))))]; omega), trivial⟩, ⟨by rw [ht]; exact hP, va_K.moved hW.alike hK⟩⟩, hS.F ht⟩) hS.2.2 dX12_person_267
                              · skip
                                have i_157 : 10 ≤ r_95.toInt ∧ r_95.toInt ≤ 2147483647 := iv_lt2 (⟨by decide, by decide⟩ : (9 : Int) ≤ (9 : Int32).toInt ∧ (9 : Int32).toInt ≤ 9) (iv_any r_95) (Int32.not_le.mp c_101)
                                refine lv_iconst (v := (-1)) hx hb dX12_person_122 (by decide) ?_
                                have z_158 : ((-1) : Int32).toInt = (-1) := by decide
                                exact W.iret (v := (-1)) hx hb hr (fun t ht hW => ⟨⟨(-1), (fv_96, wd_97, ar_98), rfl, ⟨hF_fv_96, hA_ar_98, (fM_call (fM_call (fM_call (fM_call (fM_call (fM_call (fM_call (fM_put (fM_rf [0, 2, 32] _) efv_1 (by decide)) fr_8 (by decide)) fr_45 (by decide)) fr_55 (by decide)) fr_65 (by decide)) fr_79 (by decide)) fr_89 (by decide)) fr_99 (by decide)), (fA_call (fA_call (fA_call (fA_call (fA_call (fA_call (fA_call (fA_rf [9, 10, 11, 12, 13, 14, 15, 16, 17, 72] _) fa_9 (by decide)) fa_46 (by decide)) fa_56 (by decide)) fa_66 (by decide)) fa_80 (by decide)) fa_90 (by decide)) fa_100 (by decide)), (show (fv_96 2).toInt = 0 from by rw [show fv_96 2 = (fv_5 2) from (fr_99 2 rfl).trans ((fr_89 2 rfl).trans ((fr_79 2 rfl).trans ((fr_65 2 rfl).trans ((fr_55 2 rfl).trans ((fr_45 2 rfl))))))]; omega), trivial⟩, ⟨by rw [ht]; exact hP, va_K.moved hW.alike hK⟩⟩, hS.F ht⟩) hS.2.2 dX12_person_123
                · skip
                  refine lv_iconst (v := (-1)) hx hb dX12_person_52 (by decide) ?_
                  have z_159 : ((-1) : Int32).toInt = (-1) := by decide
                  exact W.iret (v := (-1)) hx hb hr (fun t ht hW => ⟨⟨(-1), (fv_5, wd_6, ar_7), rfl, ⟨hF_fv_5, hA_ar_7, (fM_call (fM_put (fM_rf [0, 2, 32] _) efv_1 (by decide)) fr_8 (by decide)), (fA_call (fA_rf [9, 10, 11, 12, 13, 14, 15, 16, 17, 72] _) fa_9 (by decide)), (show (fv_5 2).toInt = 0 from by rw [show fv_5 2 = (fv_5 2) from rfl]; omega), trivial⟩, ⟨by rw [ht]; exact hP, va_K.moved hW.alike hK⟩⟩, hS.F ht⟩) hS.2.2 dX12_person_53
set_option maxHeartbeats 4000000 in
set_option maxRecDepth 100000 in
theorem m_rainE (l : Launch) (dC : Nat → ClassId) (dI : Nat → Nat → Nat) (sz h : Nat) (ad : Nat → Nat) (cA : Nat → ClassId) (hd : dM h ad) (fv : Nat → Int32) (wd : Int64) (ar : Nat → Nat → Int32) (hF_fv : rF fv) (hA_ar : rA ar) : Met l yX12_rain (.code yX12_rain cX12_rain 3 (some .boolean) :: lw_good) ({ frames := 3, cells := 0, slots := 0, locals := 62 }) (va_Pc [.ref h] (prM dC dI h ad cA fv wd ar sz)) (va_Qi (fun (r : Int32) (u : mS) => rF u.1 ∧ rA u.2.2 ∧ fM [0, 2, 7] fv u.1 ∧ fA [5] ar u.2.2 ∧ (0 ≤ r.toInt ∧ r.toInt ≤ 1) ∧ ((u.1 2).toInt = 0) ∧ True) (enM dC dI h ad cA) (aM h ad sz)) 0 0 (aM h ad sz) := by
  refine Met.ofW (cc := cX12_rain) (maxL := 3) (ret := (some .boolean)) (by decide) rfl ?_
  intro p e s m args below meth c s₁ B hml hv
  obtain ⟨rfl, hsz, hP, hK⟩ := hv
  have hx := B.exec
  have hb := B.bytes
  have hr := B.returns
  have hts := atoms_spec (ws := (.code yX12_rain cX12_rain 3 (some .boolean) :: lw_good)) B.pre
  have htg : ∀ w ∈ lw_good, w.before _ s = true := fun w hw => hts w (List.mem_cons_of_mem _ hw)
  have hown : s.vm.findClass RX12 = some m.cls := findClass_of_methodNamed B.named
  have hlocks := B.notSynchronized
  subst hsz
  have hS : va_S (aM h ad s.heap.size) s.heap s.heap [] := va_S.rf
  have hl := lv_entry ([.ref h]) (n := 3) (Nat.le_of_ble_eq_true rfl)
  rw [lg_entry_eq]
  generalize (lg_sl ([.ref h]) ++ List.replicate (3 - (lg_sl ([.ref h])).length) Slot.unset).toArray = ls at hl ⊢
  have hl : lv_has ls 3 [(0, .ref h)] := hl
  refine lv_aload_n hx hb dX12_rain_0 rfl (lv_at hl 0 rfl) ?_
  refine lv_iconst (v := 0) hx hb dX12_rain_1 (by decide) ?_
  refine pM_0 hx hb htg hown hK hP hS hd dX12_rain_2 (fun H locs fv_1 efv_1 hP hS => ?_)
  have hF_fv_1 : rF fv_1 := rF_put hF_fv efv_1 (iv_any _)
  refine lv_aload_n hx hb dX12_rain_5 rfl (lv_at hl 0 rfl) ?_
  refine va_calli (va_runV (As := []) (rest := []) ⟨hx, hb, hml, hown, hts⟩ (m_takeE l dC dI H.size h ad cA hd fv_1 wd ar hF_fv_1 hA_ar) (cwV 0 hts (gV kw_8_5 kw_8_7 kw_p_60 kw_1_15 kw_8_8) rfl rfl rfl (by decide +kernel) ⟨Nat.le_of_ble_eq_true rfl, Nat.le_of_ble_eq_true rfl⟩) ⟨fun a U g mk q => ⟨q.1, q.2.1, q.2.2.1, va_K.moved (u := U) (U := U.calling g mk a) (Vm.Alike.refl U.vm) q.2.2.2⟩, va_recv hK hP (ci := 12) (q0 := 0) rfl rfl, fun U hU hW => ⟨rfl, by rw [hU], by rw [hU]; exact hP, va_K.moved hW.alike hK⟩⟩ rfl rfl hl.1 rfl (lv_room (Nat.le_of_ble_eq_true rfl)) dX12_rain_6 ⟨Nat.le_of_ble_eq_true rfl, Nat.le_of_ble_eq_true rfl⟩) hS (fun q _ h9 => aM_up hS q h9) (aM_up hS) (fun r_2 u t H1 locs ht _ hw hB _ hk1 hS => ?_)
  obtain ⟨fv_5, wd_6, ar_7⟩ := u
  obtain ⟨hF_fv_5, hA_ar_7, fr_8, fa_9, p_3, p_4, -⟩ := hw
  have hP : va_P (dC, dI) vwCl (wsM h ad cA fv_5 wd_6 ar_7) H1 := by have h9 := hB.1; rw [ht] at h9; exact h9
  have fr_8 : fM [2] fv_1 fv_5 := fr_8
  have fa_9 : fA [] ar ar_7 := fa_9
  have p_4 : (fv_5 2).toInt = 0 := p_4
  generalize H1 = H at hP hS ⊢
  refine lv_istore_n (lv' := [(1, .int r_2), (0, .ref h)]) hx hb dX12_rain_9 rfl hl (by decide) rfl (fun ls hl => ?_)
  refine lv_iload_n hx hb dX12_rain_10 rfl (lv_at hl 0 rfl) ?_
  refine lv_iconst (v := 1) hx hb dX12_rain_11 (by decide) ?_
  refine lv_sipush (v := 200) hx hb dX12_rain_12 (by decide) ?_
  refine va_calli (va_runS (As := [.int r_2, .int 1, .int 200]) (rest := []) ⟨hx, hb, hml, hown, hts⟩ (m_isIn l H.size r_2 1 200) (va_cwS 3 hts (gS kw_7_218 kw_7_219 kw_1_15 kw_7_220) rfl rfl rfl (by decide +kernel) ⟨Nat.le_of_ble_eq_true rfl, Nat.le_of_ble_eq_true rfl⟩) ⟨fun a U g mk q => ⟨q.1, q.2⟩, fun U hU hW => ⟨rfl, congrArg Array.size hU⟩⟩ rfl rfl hl.1 rfl (lv_room (Nat.le_of_ble_eq_true rfl)) dX12_rain_15 ⟨Nat.le_of_ble_eq_true rfl, Nat.le_of_ble_eq_true rfl⟩) hS (fun q _ h9 => nM_up hS q h9) (nM_up hS) (fun r_10 u t H1 locs ht _ hw hB _ hk1 hS => ?_)
  obtain ⟨p_11, p_12, -⟩ := hw
  have hP := my_keepM hP hk1
  generalize H1 = H at hP hS ⊢
  rcases p_12 with ⟨rfl, p_12⟩ | ⟨rfl, p_12⟩
  · skip
    refine lv_if_ne (tgt := 23) hx hb dX12_rain_18 (by decide) (fun c_13 => ?_) (fun c_13 => ?_)
    · skip
      exact absurd c_13 (by decide)
    · skip
      refine lv_iconst (v := 0) hx hb dX12_rain_21 (by decide) ?_
      have z_14 : (0 : Int32).toInt = 0 := by decide
      exact W.zret (v := 0) hx hb hr (by decide) (fun t ht hW => ⟨⟨0, (fv_5, wd_6, ar_7), rfl, ⟨hF_fv_5, hA_ar_7, (fM_call (fM_put (fM_rf [0, 2, 7] _) efv_1 (by decide)) fr_8 (by decide)), (fA_call (fA_rf [5] _) fa_9 (by decide)), (iv_w (⟨by decide, by decide⟩ : (0 : Int) ≤ (0 : Int32).toInt ∧ (0 : Int32).toInt ≤ 0) (by decide) (by decide)), (show (fv_5 2).toInt = 0 from by rw [show fv_5 2 = (fv_5 2) from rfl]; omega), trivial⟩, ⟨by rw [ht]; exact hP, va_K.moved hW.alike hK⟩⟩, hS.F ht⟩) hS.2.2 dX12_rain_22
  · skip
    have i_15 : 1 ≤ r_2.toInt ∧ r_2.toInt ≤ 340 := iv_le2 (⟨by decide, by decide⟩ : (1 : Int) ≤ (1 : Int32).toInt ∧ (1 : Int32).toInt ≤ 1) p_3 (Int32.le_iff_toInt_le.mpr p_12.1)
    have i_16 : 1 ≤ r_2.toInt ∧ r_2.toInt ≤ 200 := iv_le1 i_15 (⟨by decide, by decide⟩ : (200 : Int) ≤ (200 : Int32).toInt ∧ (200 : Int32).toInt ≤ 200) (Int32.le_iff_toInt_le.mpr p_12.2)
    refine lv_if_ne (tgt := 23) hx hb dX12_rain_18 (by decide) (fun c_17 => ?_) (fun c_17 => ?_)
    · skip
      refine lv_iconst (v := 0) hx hb dX12_rain_23 (by decide) ?_
      refine lv_istore_n (lv' := [(2, .int 0), (1, .int r_2), (0, .ref h)]) hx hb dX12_rain_24 rfl hl (by decide) rfl (fun ls hl => ?_)
      refine my_cut (P := fun R9 a9 Q9 => ∀ (n_19 : Nat) (x_18 : Int32) (H : Heap) (locs : List Loc) (ls : Array Slot), 200 - x_18.toInt < (n_19 : Int) → (0 ≤ x_18.toInt ∧ x_18.toInt ≤ 200) → va_P (dC, dI) vwCl (wsM h ad cA fv_5 wd_6 ar_7) H → va_S (aM h ad s.heap.size) s.heap H locs → lv_has ls 3 [(0, .ref h), (1, .int r_2), (2, .int x_18)] → W p l e R9 s m a9 below meth c H locs 0 0 Q9 (F0 m 25 ls [])) ?_ (fun hj_21 => ?_)
      · intro n_19
        induction n_19 with
        | zero => intro x_18 H locs ls fu_20 i_x_18; exfalso; omega
        | succ n_19 ih_19 =>
          intro x_18 H locs ls fu_20 i_x_18 hP hS hl
          refine lv_iload_n hx hb dX12_rain_25 rfl (lv_at hl 2 rfl) ?_
          refine lv_iload_n hx hb dX12_rain_26 rfl (lv_at hl 1 rfl) ?_
          refine lv_icmp_ge (tgt := 61) hx hb dX12_rain_27 (by decide) (fun c_22 => ?_) (fun c_22 => ?_)
          · skip
            have i_23 : 1 ≤ x_18.toInt ∧ x_18.toInt ≤ 200 := iv_le2 i_16 i_x_18 c_22
            refine lv_iconst (v := 0) hx hb dX12_rain_61 (by decide) ?_
            refine lv_istore_n (lv' := [(2, .int 0), (0, .ref h), (1, .int r_2)]) hx hb dX12_rain_62 rfl hl (by decide) rfl (fun ls hl => ?_)
            refine my_cut (P := fun R9 a9 Q9 => ∀ (n_27 : Nat) (x_24 : Int32) (ar_25 : Nat → Nat → Int32) (H : Heap) (locs : List Loc) (ls : Array Slot), 200 - x_24.toInt < (n_27 : Int) → (0 ≤ x_24.toInt ∧ x_24.toInt ≤ 200) → rA ar_25 → fA [5] ar_7 ar_25 → va_P (dC, dI) vwCl (wsM h ad cA fv_5 wd_6 ar_25) H → va_S (aM h ad s.heap.size) s.heap H locs → lv_has ls 3 [(0, .ref h), (1, .int r_2), (2, .int x_24)] → W p l e R9 s m a9 below meth c H locs 0 0 Q9 (F0 m 63 ls [])) ?_ (fun hj_29 => ?_)
            · intro n_27
              induction n_27 with
              | zero => intro x_24 ar_25 H locs ls fu_28 i_x_24 hA_ar_25 fa_26; exfalso; omega
              | succ n_27 ih_27 =>
                intro x_24 ar_25 H locs ls fu_28 i_x_24 hA_ar_25 fa_26 hP hS hl
                refine lv_iload_n hx hb dX12_rain_63 rfl (lv_at hl 2 rfl) ?_
                refine lv_iload_n hx hb dX12_rain_64 rfl (lv_at hl 1 rfl) ?_
                refine lv_icmp_ge (tgt := 116) hx hb dX12_rain_65 (by decide) (fun c_30 => ?_) (fun c_30 => ?_)
                · skip
                  have i_31 : 1 ≤ x_24.toInt ∧ x_24.toInt ≤ 200 := iv_le2 i_16 i_x_24 c_30
                  refine lv_aload_n hx hb dX12_rain_116 rfl (lv_at hl 0 rfl) ?_
                  refine lv_iload_n hx hb dX12_rain_117 rfl (lv_at hl 1 rfl) ?_
                  refine pM_7 hx hb htg hown hK hP hS hd dX12_rain_118 (fun H locs fv_32 efv_32 hP hS => ?_)
                  have hF_fv_32 : rF fv_32 := rF_put hF_fv_5 efv_32 (iv_w i_16 (by decide) (by decide))
                  refine lv_iconst (v := 1) hx hb dX12_rain_121 (by decide) ?_
                  have z_33 : (1 : Int32).toInt = 1 := by decide
                  exact W.zret (v := 1) hx hb hr (by decide) (fun t ht hW => ⟨⟨1, (fv_32, wd_6, ar_25), rfl, ⟨hF_fv_32, hA_ar_25, (fM_put (fM_call (fM_put (fM_rf [0, 2, 7] _) efv_1 (by decide)) fr_8 (by decide)) efv_32 (by decide)), (fA_call (fA_call (fA_rf [5] _) fa_9 (by decide)) fa_26 (by decide)), (iv_w (⟨by decide, by decide⟩ : (1 : Int) ≤ (1 : Int32).toInt ∧ (1 : Int32).toInt ≤ 1) (by decide) (by decide)), (show (fv_32 2).toInt = 0 from by rw [show fv_32 2 = (fv_5 2) from (congrFun efv_32 2)]; omega), trivial⟩, ⟨by rw [ht]; exact hP, va_K.moved hW.alike hK⟩⟩, hS.F ht⟩) hS.2.2 dX12_rain_122
                · skip
                  have i_34 : 0 ≤ x_24.toInt ∧ x_24.toInt ≤ 199 := iv_lt1 i_x_24 i_16 (Int32.not_le.mp c_30)
                  refine lv_aload_n hx hb dX12_rain_68 rfl (lv_at hl 0 rfl) ?_
                  refine gM_5 hx hb htg hown hK hP dX12_rain_69 ?_
                  refine lv_iload_n hx hb dX12_rain_72 rfl (lv_at hl 2 rfl) ?_
                  refine lv_aload_n hx hb dX12_rain_73 rfl (lv_at hl 0 rfl) ?_
                  refine gM_1 hx hb htg hown hK hP dX12_rain_74 ?_
                  refine lv_iload_n hx hb dX12_rain_77 rfl (lv_at hl 2 rfl) ?_
                  refine lM_1 hx hb hK hP (iv_in i_34 (by decide) (by decide)) dX12_rain_78 (fun v_35 ev_35 => ?_)
                  have i_36 : 0 ≤ v_35.toInt ∧ v_35.toInt ≤ 255 := ev_35 ▸ hA_ar_25 1 _
                  refine lv_bipush (v := 10) hx hb dX12_rain_79 (by decide) ?_
                  refine my_cut (P := fun R9 a9 Q9 => ∀ (x_48 : Int32) (H : Heap) (locs : List Loc) (ls : Array Slot), va_P (dC, dI) vwCl (wsM h ad cA fv_5 wd_6 ar_25) H → va_S (aM h ad s.heap.size) s.heap H locs → lv_has ls 3 [(0, .ref h), (1, .int r_2), (2, .int x_24)] → W p l e R9 s m a9 below meth c H locs 0 0 Q9 (F0 m 109 ls [.int x_48, .int x_24, .ref (ad 5)])) ?_ (fun hj_49 => ?_)
                  · intro x_48 H locs ls  hP hS hl
                    refine sM_5 hx hb hK hP hS hd (iv_in i_34 (by decide) (by decide)) dX12_rain_109 (fun H locs ar_50 ear_50 hP hS => ?_)
                    have hA_ar_50 : rA ar_50 := rA_put hA_ar_25 ear_50 (iv_any _)
                    obtain ⟨v_51, ev_51⟩ : ∃ z : Int32, z = x_24 + 1 := ⟨_, rfl⟩
                    refine lv_iinc (v := v_51) (lv' := [(2, .int v_51), (0, .ref h), (1, .int r_2)]) hx hb dX12_rain_110 hl (k := 2) rfl (by rw [ev_51]; rfl) (by decide) rfl (fun ls hl => ?_)
                    have t_52 : v_51.toInt = x_24.toInt + 1 ∧ 1 ≤ v_51.toInt ∧ v_51.toInt ≤ 200 := iv_addc ev_51 i_34 (by decide) (by decide) (by decide)
                    refine lv_goto (tgt := 63) hx hb dX12_rain_113 (by decide) ?_
                    exact ih_27 v_51 ar_50 _ _ ls (by omega) (iv_w t_52.2 (by decide) (by decide)) hA_ar_50 (fA_put (fA_call (fA_rf [5] _) fa_26 (by decide)) ear_50 (by decide)) hP hS (lv_sub hl [1, 2, 0] rfl)
                  · skip
                    refine lv_icmp_ge (tgt := 93) hx hb dX12_rain_81 (by decide) (fun c_37 => ?_) (fun c_37 => ?_)
                    · skip
                      have i_38 : 10 ≤ v_35.toInt ∧ v_35.toInt ≤ 255 := iv_le2 (⟨by decide, by decide⟩ : (10 : Int) ≤ (10 : Int32).toInt ∧ (10 : Int32).toInt ≤ 10) i_36 c_37
                      refine lv_iload_n hx hb dX12_rain_93 rfl (lv_at hl 2 rfl) ?_
                      refine lv_if_ne (tgt := 101) hx hb dX12_rain_94 (by decide) (fun c_39 => ?_) (fun c_39 => ?_)
                      · skip
                        have i_40 : 1 ≤ x_24.toInt ∧ x_24.toInt ≤ 199 := iv_nel i_34 (by decide) c_39
                        refine lv_aload_n hx hb dX12_rain_101 rfl (lv_at hl 0 rfl) ?_
                        refine gM_5 hx hb htg hown hK hP dX12_rain_102 ?_
                        refine lv_iload_n hx hb dX12_rain_105 rfl (lv_at hl 2 rfl) ?_
                        refine lv_iconst (v := 1) hx hb dX12_rain_106 (by decide) ?_
                        refine lv_isub hx hb dX12_rain_107 ?_
                        refine lv_topi (fun v_41 ev_41 => ?_)
                        have t_42 : v_41.toInt = x_24.toInt - 1 ∧ 0 ≤ v_41.toInt ∧ v_41.toInt ≤ 198 := iv_subc ev_41 i_40 (by decide) (by decide) (by decide)
                        refine lM_5 hx hb hK hP (iv_in t_42.2 (by decide) (by decide)) dX12_rain_108 (fun v_44 ev_44 => ?_)
                        exact hj_49 v_44 _ _ ls  hP hS (lv_sub hl [0, 1, 2] rfl)
                      · skip
                        have i_45 : 0 ≤ x_24.toInt ∧ x_24.toInt ≤ 0 := iv_eq1 (⟨by decide, by decide⟩ : (0 : Int) ≤ (0 : Int32).toInt ∧ (0 : Int32).toInt ≤ 0) c_39
                        refine lv_iconst (v := 0) hx hb dX12_rain_97 (by decide) ?_
                        refine lv_goto (tgt := 109) hx hb dX12_rain_98 (by decide) ?_
                        exact hj_49 0 _ _ ls  hP hS (lv_sub hl [0, 1, 2] rfl)
                    · skip
                      have i_46 : 0 ≤ v_35.toInt ∧ v_35.toInt ≤ 9 := iv_lt1 i_36 (⟨by decide, by decide⟩ : (10 : Int) ≤ (10 : Int32).toInt ∧ (10 : Int32).toInt ≤ 10) (Int32.not_le.mp c_37)
                      refine lv_aload_n hx hb dX12_rain_84 rfl (lv_at hl 0 rfl) ?_
                      refine gM_1 hx hb htg hown hK hP dX12_rain_85 ?_
                      refine lv_iload_n hx hb dX12_rain_88 rfl (lv_at hl 2 rfl) ?_
                      refine lM_1 hx hb hK hP (iv_in i_34 (by decide) (by decide)) dX12_rain_89 (fun v_47 ev_47 => ?_)
                      obtain rfl : v_35 = v_47 := ev_35.trans ev_47.symm
                      refine lv_goto (tgt := 109) hx hb dX12_rain_90 (by decide) ?_
                      exact hj_49 v_35 _ _ ls  hP hS (lv_sub hl [0, 1, 2] rfl)
            · skip
              have z_54 : (0 : Int32).toInt = 0 := by decide
              exact hj_29 201 0 ar_7 _ _ ls (by first | decide | omega) (iv_w (⟨by decide, by decide⟩ : (0 : Int) ≤ (0 : Int32).toInt ∧ (0 : Int32).toInt ≤ 0) (by decide) (by decide)) hA_ar_7 (fA_rf [5] _) hP hS (lv_sub hl [1, 2, 0] rfl)
          · skip
            have i_55 : 0 ≤ x_18.toInt ∧ x_18.toInt ≤ 199 := iv_lt1 i_x_18 i_16 (Int32.not_le.mp c_22)
            refine lv_aload_n hx hb dX12_rain_30 rfl (lv_at hl 0 rfl) ?_
            refine gM_1 hx hb htg hown hK hP dX12_rain_31 ?_
            refine lv_iload_n hx hb dX12_rain_34 rfl (lv_at hl 2 rfl) ?_
            refine lM_1 hx hb hK hP (iv_in i_55 (by decide) (by decide)) dX12_rain_35 (fun v_56 ev_56 => ?_)
            have i_57 : 0 ≤ v_56.toInt ∧ v_56.toInt ≤ 255 := ev_56 ▸ hA_ar_7 1 _
            refine lv_bipush (v := 9) hx hb dX12_rain_36 (by decide) ?_
            refine lv_icmp_le (tgt := 55) hx hb dX12_rain_38 (by decide) (fun c_58 => ?_) (fun c_58 => ?_)
            · skip
              have i_59 : 0 ≤ v_56.toInt ∧ v_56.toInt ≤ 9 := iv_le1 i_57 (⟨by decide, by decide⟩ : (9 : Int) ≤ (9 : Int32).toInt ∧ (9 : Int32).toInt ≤ 9) c_58
              obtain ⟨v_60, ev_60⟩ : ∃ z : Int32, z = x_18 + 1 := ⟨_, rfl⟩
              refine lv_iinc (v := v_60) (lv' := [(2, .int v_60), (0, .ref h), (1, .int r_2)]) hx hb dX12_rain_55 hl (k := 2) rfl (by rw [ev_60]; rfl) (by decide) rfl (fun ls hl => ?_)
              have t_61 : v_60.toInt = x_18.toInt + 1 ∧ 1 ≤ v_60.toInt ∧ v_60.toInt ≤ 200 := iv_addc ev_60 i_55 (by decide) (by decide) (by decide)
              refine lv_goto (tgt := 25) hx hb dX12_rain_58 (by decide) ?_
              exact ih_19 v_60 _ _ ls (by omega) (iv_w t_61.2 (by decide) (by decide)) hP hS (lv_sub hl [1, 2, 0] rfl)
            · skip
              have i_63 : 10 ≤ v_56.toInt ∧ v_56.toInt ≤ 255 := iv_lt2 (⟨by decide, by decide⟩ : (9 : Int) ≤ (9 : Int32).toInt ∧ (9 : Int32).toInt ≤ 9) i_57 (Int32.not_le.mp c_58)
              refine lv_aload_n hx hb dX12_rain_41 rfl (lv_at hl 0 rfl) ?_
              refine gM_1 hx hb htg hown hK hP dX12_rain_42 ?_
              refine lv_iload_n hx hb dX12_rain_45 rfl (lv_at hl 2 rfl) ?_
              refine lM_1 hx hb hK hP (iv_in i_55 (by decide) (by decide)) dX12_rain_46 (fun v_64 ev_64 => ?_)
              obtain rfl : v_56 = v_64 := ev_56.trans ev_64.symm
              refine lv_sipush (v := 255) hx hb dX12_rain_47 (by decide) ?_
              refine lv_icmp_eq (tgt := 55) hx hb dX12_rain_50 (by decide) (fun c_65 => ?_) (fun c_65 => ?_)
              · skip
                have i_66 : 255 ≤ v_56.toInt ∧ v_56.toInt ≤ 255 := iv_eq1 (⟨by decide, by decide⟩ : (255 : Int) ≤ (255 : Int32).toInt ∧ (255 : Int32).toInt ≤ 255) c_65
                obtain ⟨v_67, ev_67⟩ : ∃ z : Int32, z = x_18 + 1 := ⟨_, rfl⟩
                refine lv_iinc (v := v_67) (lv' := [(2, .int v_67), (0, .ref h), (1, .int r_2)]) hx hb dX12_rain_55 hl (k := 2) rfl (by rw [ev_67]; rfl) (by decide) rfl (fun ls hl => ?_)
                have t_68 : v_67.toInt = x_18.toInt + 1 ∧ 1 ≤ v_67.toInt ∧ v_67.toInt ≤ 200 := iv_addc ev_67 i_55 (by decide) (by decide) (by decide)
                refine lv_goto (tgt := 25) hx hb dX12_rain_58 (by decide) ?_
                exact ih_19 v_67 _ _ ls (by omega) (iv_w t_68.2 (by decide) (by decide)) hP hS (lv_sub hl [1, 2, 0] rfl)
              · skip
                have i_70 : 10 ≤ v_56.toInt ∧ v_56.toInt ≤ 254 := iv_neh i_63 (by decide) c_65
                refine lv_iconst (v := 0) hx hb dX12_rain_53 (by decide) ?_
                have z_71 : (0 : Int32).toInt = 0 := by decide
                exact W.zret (v := 0) hx hb hr (by decide) (fun t ht hW => ⟨⟨0, (fv_5, wd_6, ar_7), rfl, ⟨hF_fv_5, hA_ar_7, (fM_call (fM_put (fM_rf [0, 2, 7] _) efv_1 (by decide)) fr_8 (by decide)), (fA_call (fA_rf [5] _) fa_9 (by decide)), (iv_w (⟨by decide, by decide⟩ : (0 : Int) ≤ (0 : Int32).toInt ∧ (0 : Int32).toInt ≤ 0) (by decide) (by decide)), (show (fv_5 2).toInt = 0 from by rw [show fv_5 2 = (fv_5 2) from rfl]; omega), trivial⟩, ⟨by rw [ht]; exact hP, va_K.moved hW.alike hK⟩⟩, hS.F ht⟩) hS.2.2 dX12_rain_54
      · skip
        have z_72 : (0 : Int32).toInt = 0 := by decide
        exact hj_21 201 0 _ _ ls (by first | decide | omega) (iv_w (⟨by decide, by decide⟩ : (0 : Int) ≤ (0 : Int32).toInt ∧ (0 : Int32).toInt ≤ 0) (by decide) (by decide)) hP hS (lv_sub hl [2, 1, 0] rfl)
    · skip
      exact absurd c_17 (by decide)
set_option maxHeartbeats 4000000 in
set_option maxRecDepth 100000 in
theorem m_bylawE (l : Launch) (dC : Nat → ClassId) (dI : Nat → Nat → Nat) (sz h : Nat) (ad : Nat → Nat) (cA : Nat → ClassId) (hd : dM h ad) (fv : Nat → Int32) (wd : Int64) (ar : Nat → Nat → Int32) (hF_fv : rF fv) (hA_ar : rA ar) (dd : Int32) (hp_vM : vM fv ar) : Met l yX12_bylaw (.code yX12_bylaw cX12_bylaw 3 (some .int) :: lw_good) ({ frames := 7, cells := 0, slots := 0, locals := 151 }) (va_Pc [.ref h, .int dd] (prM dC dI h ad cA fv wd ar sz)) (va_Qi (fun (r : Int32) (u : mS) => rF u.1 ∧ rA u.2.2 ∧ fM [0, 2, 37, 38, 39, 40, 41, 42, 43, 44, 45, 58, 59, 60, 61, 62, 63] fv u.1 ∧ fA [47, 48, 49, 50, 51, 52, 53, 54, 55, 56, 57] ar u.2.2 ∧ ((u.1 2).toInt = 0) ∧ (vM u.1 u.2.2) ∧ True) (enM dC dI h ad cA) (aM h ad sz)) 0 0 (aM h ad sz) := by
  refine Met.ofW (cc := cX12_bylaw) (maxL := 3) (ret := (some .int)) (by decide) rfl ?_
  intro p e s m args below meth c s₁ B hml hv
  obtain ⟨rfl, hsz, hP, hK⟩ := hv
  have hx := B.exec
  have hb := B.bytes
  have hr := B.returns
  have hts := atoms_spec (ws := (.code yX12_bylaw cX12_bylaw 3 (some .int) :: lw_good)) B.pre
  have htg : ∀ w ∈ lw_good, w.before _ s = true := fun w hw => hts w (List.mem_cons_of_mem _ hw)
  have hown : s.vm.findClass RX12 = some m.cls := findClass_of_methodNamed B.named
  have hlocks := B.notSynchronized
  subst hsz
  have hS : va_S (aM h ad s.heap.size) s.heap s.heap [] := va_S.rf
  have hl := lv_entry ([.ref h, .int dd]) (n := 3) (Nat.le_of_ble_eq_true rfl)
  rw [lg_entry_eq]
  generalize (lg_sl ([.ref h, .int dd]) ++ List.replicate (3 - (lg_sl ([.ref h, .int dd])).length) Slot.unset).toArray = ls at hl ⊢
  have hl : lv_has ls 3 [(0, .ref h), (1, .int dd)] := hl
  refine lv_aload_n hx hb dX12_bylaw_0 rfl (lv_at hl 0 rfl) ?_
  refine lv_iconst (v := 0) hx hb dX12_bylaw_1 (by decide) ?_
  refine pM_0 hx hb htg hown hK hP hS hd dX12_bylaw_2 (fun H locs fv_1 efv_1 hP hS => ?_)
  have hF_fv_1 : rF fv_1 := rF_put hF_fv efv_1 (iv_any _)
  refine lv_aload_n hx hb dX12_bylaw_5 rfl (lv_at hl 0 rfl) ?_
  refine lv_aload_n hx hb dX12_bylaw_6 rfl (lv_at hl 0 rfl) ?_
  refine va_calli (va_runV (As := []) (rest := [.ref h]) ⟨hx, hb, hml, hown, hts⟩ (m_takeE l dC dI H.size h ad cA hd fv_1 wd ar hF_fv_1 hA_ar) (cwV 0 hts (gV kw_8_5 kw_8_7 kw_p_60 kw_1_15 kw_8_8) rfl rfl rfl (by decide +kernel) ⟨Nat.le_of_ble_eq_true rfl, Nat.le_of_ble_eq_true rfl⟩) ⟨fun a U g mk q => ⟨q.1, q.2.1, q.2.2.1, va_K.moved (u := U) (U := U.calling g mk a) (Vm.Alike.refl U.vm) q.2.2.2⟩, va_recv hK hP (ci := 12) (q0 := 0) rfl rfl, fun U hU hW => ⟨rfl, by rw [hU], by rw [hU]; exact hP, va_K.moved hW.alike hK⟩⟩ rfl rfl hl.1 rfl (lv_room (Nat.le_of_ble_eq_true rfl)) dX12_bylaw_7 ⟨Nat.le_of_ble_eq_true rfl, Nat.le_of_ble_eq_true rfl⟩) hS (fun q _ h9 => aM_up hS q h9) (aM_up hS) (fun r_2 u t H1 locs ht _ hw hB _ hk1 hS => ?_)
  obtain ⟨fv_5, wd_6, ar_7⟩ := u
  obtain ⟨hF_fv_5, hA_ar_7, fr_8, fa_9, p_3, p_4, -⟩ := hw
  have hP : va_P (dC, dI) vwCl (wsM h ad cA fv_5 wd_6 ar_7) H1 := by have h9 := hB.1; rw [ht] at h9; exact h9
  have fr_8 : fM [2] fv_1 fv_5 := fr_8
  have fa_9 : fA [] ar ar_7 := fa_9
  have p_4 : (fv_5 2).toInt = 0 := p_4
  generalize H1 = H at hP hS ⊢
  refine pM_37 hx hb htg hown hK hP hS hd dX12_bylaw_10 (fun H locs fv_10 efv_10 hP hS => ?_)
  have hF_fv_10 : rF fv_10 := rF_put hF_fv_5 efv_10 p_3
  refine lv_aload_n hx hb dX12_bylaw_13 rfl (lv_at hl 0 rfl) ?_
  refine gM_58 hx hb htg hown hK hP dX12_bylaw_14 ?_
  refine my_ti (y := fv 58) ((congrFun efv_10 58).trans ((fr_8 58 rfl).trans ((congrFun efv_1 58)))) ?_
  have i_11 : 0 ≤ (fv 58).toInt ∧ (fv 58).toInt ≤ 10 := hF_fv 58
  refine lv_bipush (v := 10) hx hb dX12_bylaw_17 (by decide) ?_
  refine lv_icmp_eq (tgt := 36) hx hb dX12_bylaw_19 (by decide) (fun c_12 => ?_) (fun c_12 => ?_)
  · skip
    have i_13 : 10 ≤ (fv 58).toInt ∧ (fv 58).toInt ≤ 10 := iv_eq1 (⟨by decide, by decide⟩ : (10 : Int) ≤ (10 : Int32).toInt ∧ (10 : Int32).toInt ≤ 10) c_12
    refine lv_sipush (v := (-1000)) hx hb dX12_bylaw_36 (by decide) ?_
    have z_15 : ((-1000) : Int32).toInt = (-1000) := by decide
    exact W.iret (v := (-1000)) hx hb hr (fun t ht hW => ⟨⟨(-1000), (fv_10, wd_6, ar_7), rfl, ⟨hF_fv_10, hA_ar_7, (fM_put (fM_call (fM_put (fM_rf [0, 2, 37, 38, 39, 40, 41, 42, 43, 44, 45, 58, 59, 60, 61, 62, 63] _) efv_1 (by decide)) fr_8 (by decide)) efv_10 (by decide)), (fA_call (fA_rf [47, 48, 49, 50, 51, 52, 53, 54, 55, 56, 57] _) fa_9 (by decide)), (show (fv_10 2).toInt = 0 from by rw [show fv_10 2 = (fv_5 2) from (congrFun efv_10 2)]; omega), (vM_fr hp_vM (fM_put (fM_call (fM_put (fM_rf [0, 2, 37] _) efv_1 (by decide)) fr_8 (by decide)) efv_10 (by decide)) (fA_call (fA_rf [] _) fa_9 (by decide)) rfl rfl rfl rfl rfl), trivial⟩, ⟨by rw [ht]; exact hP, va_K.moved hW.alike hK⟩⟩, hS.F ht⟩) hS.2.2 dX12_bylaw_39
  · skip
    have i_16 : 0 ≤ (fv 58).toInt ∧ (fv 58).toInt ≤ 9 := iv_neh i_11 (by decide) c_12
    have k_17 : ¬ (fv 58).toInt = 10 := fun q => c_12 (Int32.toInt_inj.mp q)
    refine lv_iload_n hx hb dX12_bylaw_22 rfl (lv_at hl 1 rfl) ?_
    refine lv_aload_n hx hb dX12_bylaw_23 rfl (lv_at hl 0 rfl) ?_
    refine gM_3 hx hb htg hown hK hP dX12_bylaw_24 ?_
    refine my_ti (y := fv 3) ((congrFun efv_10 3).trans ((fr_8 3 rfl).trans ((congrFun efv_1 3)))) ?_
    have i_18 : 0 ≤ (fv 3).toInt ∧ (fv 3).toInt ≤ 199 := hF_fv 3
    refine lv_sipush (v := 199) hx hb dX12_bylaw_27 (by decide) ?_
    refine va_calli (va_runS (As := [.int dd, .int (fv 3), .int 199]) (rest := []) ⟨hx, hb, hml, hown, hts⟩ (m_isIn l H.size dd (fv 3) 199) (va_cwS 3 hts (gS kw_7_218 kw_7_219 kw_1_15 kw_7_220) rfl rfl rfl (by decide +kernel) ⟨Nat.le_of_ble_eq_true rfl, Nat.le_of_ble_eq_true rfl⟩) ⟨fun a U g mk q => ⟨q.1, q.2⟩, fun U hU hW => ⟨rfl, congrArg Array.size hU⟩⟩ rfl rfl hl.1 rfl (lv_room (Nat.le_of_ble_eq_true rfl)) dX12_bylaw_30 ⟨Nat.le_of_ble_eq_true rfl, Nat.le_of_ble_eq_true rfl⟩) hS (fun q _ h9 => nM_up hS q h9) (nM_up hS) (fun r_19 u t H1 locs ht _ hw hB _ hk1 hS => ?_)
    obtain ⟨p_20, p_21, -⟩ := hw
    have hP := my_keepM hP hk1
    generalize H1 = H at hP hS ⊢
    rcases p_21 with ⟨rfl, p_21⟩ | ⟨rfl, p_21⟩
    · skip
      refine lv_if_ne (tgt := 40) hx hb dX12_bylaw_33 (by decide) (fun c_22 => ?_) (fun c_22 => ?_)
      · skip
        exact absurd c_22 (by decide)
      · skip
        refine lv_sipush (v := (-1000)) hx hb dX12_bylaw_36 (by decide) ?_
        have z_23 : ((-1000) : Int32).toInt = (-1000) := by decide
        exact W.iret (v := (-1000)) hx hb hr (fun t ht hW => ⟨⟨(-1000), (fv_10, wd_6, ar_7), rfl, ⟨hF_fv_10, hA_ar_7, (fM_put (fM_call (fM_put (fM_rf [0, 2, 37, 38, 39, 40, 41, 42, 43, 44, 45, 58, 59, 60, 61, 62, 63] _) efv_1 (by decide)) fr_8 (by decide)) efv_10 (by decide)), (fA_call (fA_rf [47, 48, 49, 50, 51, 52, 53, 54, 55, 56, 57] _) fa_9 (by decide)), (show (fv_10 2).toInt = 0 from by rw [show fv_10 2 = (fv_5 2) from (congrFun efv_10 2)]; omega), (vM_fr hp_vM (fM_put (fM_call (fM_put (fM_rf [0, 2, 37] _) efv_1 (by decide)) fr_8 (by decide)) efv_10 (by decide)) (fA_call (fA_rf [] _) fa_9 (by decide)) rfl rfl rfl rfl rfl), trivial⟩, ⟨by rw [ht]; exact hP, va_K.moved hW.alike hK⟩⟩, hS.F ht⟩) hS.2.2 dX12_bylaw_39
    · skip
      have i_24 : 0 ≤ dd.toInt ∧ dd.toInt ≤ 2147483647 := iv_le2 i_18 (iv_any dd) (Int32.le_iff_toInt_le.mpr p_21.1)
      have i_25 : 0 ≤ dd.toInt ∧ dd.toInt ≤ 199 := iv_le1 i_24 (⟨by decide, by decide⟩ : (199 : Int) ≤ (199 : Int32).toInt ∧ (199 : Int32).toInt ≤ 199) (Int32.le_iff_toInt_le.mpr p_21.2)
      refine lv_if_ne (tgt := 40) hx hb dX12_bylaw_33 (by decide) (fun c_26 => ?_) (fun c_26 => ?_)
      · skip
        refine lv_aload_n hx hb dX12_bylaw_40 rfl (lv_at hl 0 rfl) ?_
        refine lv_iconst (v := 0) hx hb dX12_bylaw_41 (by decide) ?_
        refine pM_43 hx hb htg hown hK hP hS hd dX12_bylaw_42 (fun H locs fv_27 efv_27 hP hS => ?_)
        have hF_fv_27 : rF fv_27 := rF_put hF_fv_10 efv_27 (iv_any _)
        refine lv_aload_n hx hb dX12_bylaw_45 rfl (lv_at hl 0 rfl) ?_
        refine lv_iconst (v := 0) hx hb dX12_bylaw_46 (by decide) ?_
        refine pM_45 hx hb htg hown hK hP hS hd dX12_bylaw_47 (fun H locs fv_28 efv_28 hP hS => ?_)
        have hF_fv_28 : rF fv_28 := rF_put hF_fv_27 efv_28 (iv_any _)
        refine lv_aload_n hx hb dX12_bylaw_50 rfl (lv_at hl 0 rfl) ?_
        refine lv_iconst (v := 0) hx hb dX12_bylaw_51 (by decide) ?_
        refine pM_59 hx hb htg hown hK hP hS hd dX12_bylaw_52 (fun H locs fv_29 efv_29 hP hS => ?_)
        have hF_fv_29 : rF fv_29 := rF_put hF_fv_28 efv_29 (iv_w (⟨by decide, by decide⟩ : (0 : Int) ≤ (0 : Int32).toInt ∧ (0 : Int32).toInt ≤ 0) (by decide) (by decide))
        refine lv_aload_n hx hb dX12_bylaw_55 rfl (lv_at hl 0 rfl) ?_
        refine lv_iconst (v := 0) hx hb dX12_bylaw_56 (by decide) ?_
        refine pM_60 hx hb htg hown hK hP hS hd dX12_bylaw_57 (fun H locs fv_30 efv_30 hP hS => ?_)
        have hF_fv_30 : rF fv_30 := rF_put hF_fv_29 efv_30 (iv_w (⟨by decide, by decide⟩ : (0 : Int) ≤ (0 : Int32).toInt ∧ (0 : Int32).toInt ≤ 0) (by decide) (by decide))
        refine lv_aload_n hx hb dX12_bylaw_60 rfl (lv_at hl 0 rfl) ?_
        refine lv_iconst (v := 0) hx hb dX12_bylaw_61 (by decide) ?_
        refine pM_62 hx hb htg hown hK hP hS hd dX12_bylaw_62 (fun H locs fv_31 efv_31 hP hS => ?_)
        have hF_fv_31 : rF fv_31 := rF_put hF_fv_30 efv_31 (iv_w (⟨by decide, by decide⟩ : (0 : Int) ≤ (0 : Int32).toInt ∧ (0 : Int32).toInt ≤ 0) (by decide) (by decide))
        refine lv_aload_n hx hb dX12_bylaw_65 rfl (lv_at hl 0 rfl) ?_
        refine lv_iconst (v := 0) hx hb dX12_bylaw_66 (by decide) ?_
        refine pM_63 hx hb htg hown hK hP hS hd dX12_bylaw_67 (fun H locs fv_32 efv_32 hP hS => ?_)
        have hF_fv_32 : rF fv_32 := rF_put hF_fv_31 efv_32 (iv_w (⟨by decide, by decide⟩ : (0 : Int) ≤ (0 : Int32).toInt ∧ (0 : Int32).toInt ≤ 0) (by decide) (by decide))
        refine lv_aload_n hx hb dX12_bylaw_70 rfl (lv_at hl 0 rfl) ?_
        refine gM_48 hx hb htg hown hK hP dX12_bylaw_71 ?_
        refine lv_bipush (v := 10) hx hb dX12_bylaw_74 (by decide) ?_
        refine lv_iconst (v := 0) hx hb dX12_bylaw_76 (by decide) ?_
        refine sM_48 hx hb hK hP hS hd (iv_in (⟨by decide, by decide⟩ : (10 : Int) ≤ (10 : Int32).toInt ∧ (10 : Int32).toInt ≤ 10) (by decide) (by decide)) dX12_bylaw_77 (fun H locs ar_33 ear_33 hP hS => ?_)
        have hA_ar_33 : rA ar_33 := rA_put hA_ar_7 ear_33 (iv_any _)
        refine lv_aload_n hx hb dX12_bylaw_78 rfl (lv_at hl 0 rfl) ?_
        refine lv_iconst (v := 0) hx hb dX12_bylaw_79 (by decide) ?_
        refine pM_38 hx hb htg hown hK hP hS hd dX12_bylaw_80 (fun H locs fv_34 efv_34 hP hS => ?_)
        have hF_fv_34 : rF fv_34 := rF_put hF_fv_32 efv_34 (iv_w (⟨by decide, by decide⟩ : (0 : Int) ≤ (0 : Int32).toInt ∧ (0 : Int32).toInt ≤ 0) (by decide) (by decide))
        refine lv_aload_n hx hb dX12_bylaw_83 rfl (lv_at hl 0 rfl) ?_
        refine va_callv (va_runV (As := []) (rest := []) ⟨hx, hb, hml, hown, hts⟩ (m_go l dC dI H.size h ad cA hd fv_34 wd_6 ar_33 hF_fv_34 hA_ar_33) (cwV 0 hts (gV kw_8_60 kw_8_62 kw_p_64 kw_1_15 kw_8_63) rfl rfl rfl (by decide +kernel) ⟨Nat.le_of_ble_eq_true rfl, Nat.le_of_ble_eq_true rfl⟩) ⟨fun a U g mk q => ⟨q.1, q.2.1, q.2.2.1, va_K.moved (u := U) (U := U.calling g mk a) (Vm.Alike.refl U.vm) q.2.2.2⟩, va_recv hK hP (ci := 12) (q0 := 0) rfl rfl, fun U hU hW => ⟨rfl, by rw [hU], by rw [hU]; exact hP, va_K.moved hW.alike hK⟩⟩ rfl rfl hl.1 rfl (lv_room (Nat.le_of_ble_eq_true rfl)) dX12_bylaw_84 ⟨Nat.le_of_ble_eq_true rfl, Nat.le_of_ble_eq_true rfl⟩) hS (fun q _ h9 => aM_up hS q h9) (aM_up hS) (fun u t H1 locs ht _ hw hB _ hk1 hS => ?_)
        obtain ⟨fv_36, wd_37, ar_38⟩ := u
        obtain ⟨hF_fv_36, hA_ar_38, fr_39, fa_40, -⟩ := hw
        have hP : va_P (dC, dI) vwCl (wsM h ad cA fv_36 wd_37 ar_38) H1 := by have h9 := hB.1; rw [ht] at h9; exact h9
        have fr_39 : fM [38, 39, 40, 41, 42] fv_34 fv_36 := fr_39
        have fa_40 : fA [] ar_33 ar_38 := fa_40
        generalize H1 = H at hP hS ⊢
        have z_41 : (fv_36 59).toInt = (0 : Int32).toInt := congrArg Int32.toInt ((fr_39 59 rfl).trans ((congrFun efv_34 59).trans ((congrFun efv_32 59).trans ((congrFun efv_31 59).trans ((congrFun efv_30 59).trans ((congrFun efv_29 59)))))))
        have z_42 : (0 : Int32).toInt = 0 := by decide
        have z_43 : 0 ≤ (fv_36 59).toInt ∧ (fv_36 59).toInt ≤ 16 := hF_fv_36 59
        have z_44 : (fv_36 60).toInt = (0 : Int32).toInt := congrArg Int32.toInt ((fr_39 60 rfl).trans ((congrFun efv_34 60).trans ((congrFun efv_32 60).trans ((congrFun efv_31 60).trans ((congrFun efv_30 60))))))
        have z_45 : (0 : Int32).toInt = 0 := by decide
        have z_46 : 0 ≤ (fv_36 60).toInt ∧ (fv_36 60).toInt ≤ 120 := hF_fv_36 60
        have z_47 : (fv_36 62).toInt = (0 : Int32).toInt := congrArg Int32.toInt ((fr_39 62 rfl).trans ((congrFun efv_34 62).trans ((congrFun efv_32 62).trans ((congrFun efv_31 62)))))
        have z_48 : (0 : Int32).toInt = 0 := by decide
        have z_49 : 0 ≤ (fv_36 62).toInt ∧ (fv_36 62).toInt ≤ 50 := hF_fv_36 62
        have z_50 : (fv_36 63).toInt = (0 : Int32).toInt := congrArg Int32.toInt ((fr_39 63 rfl).trans ((congrFun efv_34 63).trans ((congrFun efv_32 63))))
        have z_51 : (0 : Int32).toInt = 0 := by decide
        have z_52 : (-100) ≤ (fv_36 63).toInt ∧ (fv_36 63).toInt ≤ 10 := hF_fv_36 63
        have hp_53 : rL fv_36 ar_38 := (fun k hk => absurd hk (by omega))
        refine my_cut (P := fun R9 a9 Q9 => ∀ (n_64 : Nat) (fv_54 : Nat → Int32) (ar_56 : Nat → Nat → Int32) (wd_58 : Int64) (H : Heap) (locs : List Loc) (ls : Array Slot), 16 - (fv_54 59).toInt < (n_64 : Int) → rF fv_54 → fM [38, 39, 40, 41, 42, 43, 44, 45, 59, 60, 61, 62, 63] fv_36 fv_54 → rA ar_56 → fA [48, 50, 51, 52, 53, 54, 55, 56, 57] ar_38 ar_56 → rL fv_54 ar_56 → vM fv_54 ar_56 → ((fv_54 60).toInt ≤ 2 * (fv_54 62).toInt) → (0 ≤ (fv_54 63).toInt + (fv_54 62).toInt) → (0 ≤ (fv_54 59).toInt ∧ (fv_54 59).toInt ≤ 16) → va_P (dC, dI) vwCl (wsM h ad cA fv_54 wd_58 ar_56) H → va_S (aM h ad s.heap.size) s.heap H locs → lv_has ls 3 [(0, .ref h), (1, .int dd)] → W p l e R9 s m a9 below meth c H locs 0 0 Q9 (F0 m 87 ls [])) ?_ (fun hj_66 => ?_)
        · intro n_64
          induction n_64 with
          | zero => intro fv_54 ar_56 wd_58 H locs ls fu_65 hF_fv_54 fr_55 hA_ar_56 fa_57 hp_59 hp_60 q_61 q_62 q_63; exfalso; omega
          | succ n_64 ih_64 =>
            intro fv_54 ar_56 wd_58 H locs ls fu_65 hF_fv_54 fr_55 hA_ar_56 fa_57 hp_59 hp_60 q_61 q_62 q_63 hP hS hl
            refine lv_aload_n hx hb dX12_bylaw_87 rfl (lv_at hl 0 rfl) ?_
            refine gM_40 hx hb htg hown hK hP dX12_bylaw_88 ?_
            refine lv_if_eq (tgt := 115) hx hb dX12_bylaw_91 (by decide) (fun c_67 => ?_) (fun c_67 => ?_)
            · skip
              have i_68 : 0 ≤ (fv_54 40).toInt ∧ (fv_54 40).toInt ≤ 0 := iv_eq1 (⟨by decide, by decide⟩ : (0 : Int) ≤ (0 : Int32).toInt ∧ (0 : Int32).toInt ≤ 0) c_67
              refine lv_aload_n hx hb dX12_bylaw_115 rfl (lv_at hl 0 rfl) ?_
              refine gM_47 hx hb htg hown hK hP dX12_bylaw_116 ?_
              refine lv_aload_n hx hb dX12_bylaw_119 rfl (lv_at hl 0 rfl) ?_
              refine gM_58 hx hb htg hown hK hP dX12_bylaw_120 ?_
              refine my_ti (y := fv 58) ((fr_55 58 rfl).trans ((fr_39 58 rfl).trans ((congrFun efv_34 58).trans ((congrFun efv_32 58).trans ((congrFun efv_31 58).trans ((congrFun efv_30 58).trans ((congrFun efv_29 58).trans ((congrFun efv_28 58).trans ((congrFun efv_27 58).trans ((congrFun efv_10 58).trans ((fr_8 58 rfl).trans ((congrFun efv_1 58))))))))))))) ?_
              refine lv_aload_n hx hb dX12_bylaw_123 rfl (lv_at hl 0 rfl) ?_
              refine gM_59 hx hb htg hown hK hP dX12_bylaw_124 ?_
              have i_70 : 0 ≤ (fv_54 59).toInt ∧ (fv_54 59).toInt ≤ 16 := hF_fv_54 59
              refine sM_47 hx hb hK hP hS hd (iv_in i_16 (by decide) (by decide)) dX12_bylaw_127 (fun H locs ar_71 ear_71 hP hS => ?_)
              have hA_ar_71 : rA ar_71 := rA_put hA_ar_56 ear_71 i_70
              have hp_72 : vM fv_54 ar_71 := vM_47 hp_60 hA_ar_56 ear_71 (by have h58 : (0 : Int) ≤ (fv_54 58).toInt ∧ (fv_54 58).toInt ≤ 10 := hF_fv_54 58; have h57 : (fv_54 58).toInt = (fv 58).toInt := congrArg Int32.toInt ((fr_55 58 rfl).trans ((fr_39 58 rfl).trans ((congrFun efv_34 58).trans ((congrFun efv_32 58).trans ((congrFun efv_31 58).trans ((congrFun efv_30 58).trans ((congrFun efv_29 58).trans ((congrFun efv_28 58).trans ((congrFun efv_27 58).trans ((congrFun efv_10 58).trans ((fr_8 58 rfl).trans ((congrFun efv_1 58))))))))))))); show _ ≤ (((fv 58).toInt.toNat : Nat) : Int); omega)
              refine lv_aload_n hx hb dX12_bylaw_128 rfl (lv_at hl 0 rfl) ?_
              refine gM_48 hx hb htg hown hK hP dX12_bylaw_129 ?_
              refine lv_aload_n hx hb dX12_bylaw_132 rfl (lv_at hl 0 rfl) ?_
              refine gM_58 hx hb htg hown hK hP dX12_bylaw_133 ?_
              refine my_ti (y := fv 58) ((fr_55 58 rfl).trans ((fr_39 58 rfl).trans ((congrFun efv_34 58).trans ((congrFun efv_32 58).trans ((congrFun efv_31 58).trans ((congrFun efv_30 58).trans ((congrFun efv_29 58).trans ((congrFun efv_28 58).trans ((congrFun efv_27 58).trans ((congrFun efv_10 58).trans ((fr_8 58 rfl).trans ((congrFun efv_1 58))))))))))))) ?_
              refine lv_aload_n hx hb dX12_bylaw_136 rfl (lv_at hl 0 rfl) ?_
              refine gM_48 hx hb htg hown hK hP dX12_bylaw_137 ?_
              refine lv_bipush (v := 10) hx hb dX12_bylaw_140 (by decide) ?_
              refine lM_48 hx hb hK hP (iv_in (⟨by decide, by decide⟩ : (10 : Int) ≤ (10 : Int32).toInt ∧ (10 : Int32).toInt ≤ 10) (by decide) (by decide)) dX12_bylaw_142 (fun v_73 ev_73 => ?_)
              refine sM_48 hx hb hK hP hS hd (iv_in i_16 (by decide) (by decide)) dX12_bylaw_143 (fun H locs ar_74 ear_74 hP hS => ?_)
              have hA_ar_74 : rA ar_74 := rA_put hA_ar_71 ear_74 (iv_any _)
              refine lv_aload_n hx hb dX12_bylaw_144 rfl (lv_at hl 0 rfl) ?_
              refine gM_49 hx hb htg hown hK hP dX12_bylaw_145 ?_
              refine lv_aload_n hx hb dX12_bylaw_148 rfl (lv_at hl 0 rfl) ?_
              refine gM_58 hx hb htg hown hK hP dX12_bylaw_149 ?_
              refine my_ti (y := fv 58) ((fr_55 58 rfl).trans ((fr_39 58 rfl).trans ((congrFun efv_34 58).trans ((congrFun efv_32 58).trans ((congrFun efv_31 58).trans ((congrFun efv_30 58).trans ((congrFun efv_29 58).trans ((congrFun efv_28 58).trans ((congrFun efv_27 58).trans ((congrFun efv_10 58).trans ((fr_8 58 rfl).trans ((congrFun efv_1 58))))))))))))) ?_
              refine lv_iload_n hx hb dX12_bylaw_152 rfl (lv_at hl 1 rfl) ?_
              refine sM_49 hx hb hK hP hS hd (iv_in i_16 (by decide) (by decide)) dX12_bylaw_153 (fun H locs ar_75 ear_75 hP hS => ?_)
              have hA_ar_75 : rA ar_75 := rA_put hA_ar_74 ear_75 (iv_any _)
              refine lv_iconst (v := 0) hx hb dX12_bylaw_154 (by decide) ?_
              refine lv_istore_n (lv' := [(2, .int 0), (0, .ref h), (1, .int dd)]) hx hb dX12_bylaw_155 rfl hl (by decide) rfl (fun ls hl => ?_)
              refine my_cut (P := fun R9 a9 Q9 => ∀ (n_82 : Nat) (x_76 : Int32) (ar_77 : Nat → Nat → Int32) (H : Heap) (locs : List Loc) (ls : Array Slot), 16 - x_76.toInt < (n_82 : Int) → (0 ≤ x_76.toInt ∧ x_76.toInt ≤ 16) → rA ar_77 → fA [50, 51, 52, 53] ar_75 ar_77 → rL fv_54 ar_77 → vM fv_54 ar_77 → (∀ j : Nat, (j : Int) < x_76.toInt → ar_77 52 (16 * (fv 58).toInt.toNat + j) = ar_77 52 (160 + j) ∧ ar_77 53 (16 * (fv 58).toInt.toNat + j) = ar_77 53 (160 + j)) → va_P (dC, dI) vwCl (wsM h ad cA fv_54 wd_58 ar_77) H → va_S (aM h ad s.heap.size) s.heap H locs → lv_has ls 3 [(0, .ref h), (2, .int x_76)] → W p l e R9 s m a9 below meth c H locs 0 0 Q9 (F0 m 156 ls [])) ?_ (fun hj_84 => ?_)
              · intro n_82
                induction n_82 with
                | zero => intro x_76 ar_77 H locs ls fu_83 i_x_76 hA_ar_77 fa_78 hp_79 hp_80 q_81; exfalso; omega
                | succ n_82 ih_82 =>
                  intro x_76 ar_77 H locs ls fu_83 i_x_76 hA_ar_77 fa_78 hp_79 hp_80 q_81 hP hS hl
                  refine lv_iload_n hx hb dX12_bylaw_156 rfl (lv_at hl 1 rfl) ?_
                  refine lv_aload_n hx hb dX12_bylaw_157 rfl (lv_at hl 0 rfl) ?_
                  refine gM_59 hx hb htg hown hK hP dX12_bylaw_158 ?_
                  refine lv_icmp_ge (tgt := 266) hx hb dX12_bylaw_161 (by decide) (fun c_85 => ?_) (fun c_85 => ?_)
                  · skip
                    have k_86 := Int32.le_iff_toInt_le.mp c_85
                    refine lv_iconst (v := 0) hx hb dX12_bylaw_266 (by decide) ?_
                    refine lv_istore_n (lv' := [(2, .int 0), (0, .ref h)]) hx hb dX12_bylaw_267 rfl hl (by decide) rfl (fun ls hl => ?_)
                    refine my_cut (P := fun R9 a9 Q9 => ∀ (n_122 : Nat) (x_116 : Int32) (ar_117 : Nat → Nat → Int32) (H : Heap) (locs : List Loc) (ls : Array Slot), 120 - x_116.toInt < (n_122 : Int) → (0 ≤ x_116.toInt ∧ x_116.toInt ≤ 120) → rA ar_117 → fA [54, 55, 56] ar_77 ar_117 → rL fv_54 ar_117 → vM fv_54 ar_117 → (∀ j : Nat, (j : Int) < x_116.toInt → ar_117 54 (120 * (fv 58).toInt.toNat + j) = ar_117 54 (1200 + j)) → va_P (dC, dI) vwCl (wsM h ad cA fv_54 wd_58 ar_117) H → va_S (aM h ad s.heap.size) s.heap H locs → lv_has ls 3 [(0, .ref h), (2, .int x_116)] → W p l e R9 s m a9 below meth c H locs 0 0 Q9 (F0 m 268 ls [])) ?_ (fun hj_124 => ?_)
                    · intro n_122
                      induction n_122 with
                      | zero => intro x_116 ar_117 H locs ls fu_123 i_x_116 hA_ar_117 fa_118 hp_119 hp_120 q_121; exfalso; omega
                      | succ n_122 ih_122 =>
                        intro x_116 ar_117 H locs ls fu_123 i_x_116 hA_ar_117 fa_118 hp_119 hp_120 q_121 hP hS hl
                        refine lv_iload_n hx hb dX12_bylaw_268 rfl (lv_at hl 1 rfl) ?_
                        refine lv_aload_n hx hb dX12_bylaw_269 rfl (lv_at hl 0 rfl) ?_
                        refine gM_60 hx hb htg hown hK hP dX12_bylaw_270 ?_
                        have i_125 : 0 ≤ (fv_54 60).toInt ∧ (fv_54 60).toInt ≤ 120 := hF_fv_54 60
                        refine lv_icmp_ge (tgt := 354) hx hb dX12_bylaw_273 (by decide) (fun c_126 => ?_) (fun c_126 => ?_)
                        · skip
                          have k_127 := Int32.le_iff_toInt_le.mp c_126
                          refine lv_aload_n hx hb dX12_bylaw_354 rfl (lv_at hl 0 rfl) ?_
                          refine lv_dup hx hb dX12_bylaw_355 rfl ?_
                          refine gM_58 hx hb htg hown hK hP dX12_bylaw_356 ?_
                          refine my_ti (y := fv 58) ((fr_55 58 rfl).trans ((fr_39 58 rfl).trans ((congrFun efv_34 58).trans ((congrFun efv_32 58).trans ((congrFun efv_31 58).trans ((congrFun efv_30 58).trans ((congrFun efv_29 58).trans ((congrFun efv_28 58).trans ((congrFun efv_27 58).trans ((congrFun efv_10 58).trans ((fr_8 58 rfl).trans ((congrFun efv_1 58))))))))))))) ?_
                          refine lv_iconst (v := 1) hx hb dX12_bylaw_359 (by decide) ?_
                          refine lv_iadd hx hb dX12_bylaw_360 ?_
                          refine lv_topi (fun v_152 ev_152 => ?_)
                          have t_153 : v_152.toInt = (fv 58).toInt + 1 ∧ 1 ≤ v_152.toInt ∧ v_152.toInt ≤ 10 := iv_addc ev_152 i_16 (by decide) (by decide) (by decide)
                          have z_155 : (fv_54 58).toInt = (fv 58).toInt := congrArg Int32.toInt ((fr_55 58 rfl).trans ((fr_39 58 rfl).trans ((congrFun efv_34 58).trans ((congrFun efv_32 58).trans ((congrFun efv_31 58).trans ((congrFun efv_30 58).trans ((congrFun efv_29 58).trans ((congrFun efv_28 58).trans ((congrFun efv_27 58).trans ((congrFun efv_10 58).trans ((fr_8 58 rfl).trans ((congrFun efv_1 58)))))))))))))
                          have z_156 : 0 ≤ (fv_54 58).toInt ∧ (fv_54 58).toInt ≤ 10 := hF_fv_54 58
                          have z_157 : 0 ≤ (fv_54 59).toInt ∧ (fv_54 59).toInt ≤ 16 := hF_fv_54 59
                          have z_158 : 0 ≤ (fv_54 60).toInt ∧ (fv_54 60).toInt ≤ 120 := hF_fv_54 60
                          refine pM_58 hx hb htg hown hK hP hS hd dX12_bylaw_361 (fun H locs fv_159 efv_159 hP hS => ?_)
                          have hF_fv_159 : rF fv_159 := rF_put hF_fv_54 efv_159 (iv_w t_153.2 (by decide) (by decide))
                          have z_160 : (fv_159 58).toInt = v_152.toInt := congrArg Int32.toInt ((congrFun efv_159 58))
                          have z_161 : 0 ≤ (fv_159 58).toInt ∧ (fv_159 58).toInt ≤ 10 := hF_fv_159 58
                          have b58 : (fv_54 58).toInt.toNat = (fv 58).toInt.toNat := by omega
                          have n47 : (ar_117 47 (fv_54 58).toInt.toNat).toInt = (fv_54 59).toInt := by rw [((fA_call (fA_call (fA_put (fA_put (fA_rf [48, 49, 50, 51, 52, 53, 54, 55, 56] _) ear_74 (by decide)) ear_75 (by decide)) fa_78 (by decide)) fa_118 (by decide)) 47 rfl), ear_71]; show (upd _ ((fv 58).toInt.toNat) _ _).toInt = _; rw [b58, up_eq] <;> omega
                          have hp_162 : vM fv_159 ar_117 := vM_add hp_120 hp_119 hA_ar_117 (by omega) (by omega) n47 (fun j hj => by rw [b58, ((fA_call (fA_rf [54, 55, 56] _) fa_118 (by decide)) 52 rfl), ((fA_call (fA_rf [54, 55, 56] _) fa_118 (by decide)) 53 rfl)]; exact q_81 j (by omega)) (fun j hj => by rw [b58]; exact q_121 j (by omega))
                          refine lv_aload_n hx hb dX12_bylaw_364 rfl (lv_at hl 0 rfl) ?_
                          refine gM_59 hx hb htg hown hK hP dX12_bylaw_365 ?_
                          refine my_ti (y := fv_54 59) ((congrFun efv_159 59)) ?_
                          exact W.iret (v := fv_54 59) hx hb hr (fun t ht hW => ⟨⟨fv_54 59, (fv_159, wd_58, ar_117), rfl, ⟨hF_fv_159, hA_ar_117, (fM_put (fM_call (fM_call (fM_put (fM_put (fM_put (fM_put (fM_put (fM_put (fM_put (fM_put (fM_call (fM_put (fM_rf [0, 2, 37, 38, 39, 40, 41, 42, 43, 44, 45, 58, 59, 60, 61, 62, 63] _) efv_1 (by decide)) fr_8 (by decide)) efv_10 (by decide)) efv_27 (by decide)) efv_28 (by decide)) efv_29 (by decide)) efv_30 (by decide)) efv_31 (by decide)) efv_32 (by decide)) efv_34 (by decide)) fr_39 (by decide)) fr_55 (by decide)) efv_159 (by decide)), (fA_call (fA_call (fA_put (fA_put (fA_put (fA_call (fA_call (fA_put (fA_call (fA_rf [47, 48, 49, 50, 51, 52, 53, 54, 55, 56, 57] _) fa_9 (by decide)) ear_33 (by decide)) fa_40 (by decide)) fa_57 (by decide)) ear_71 (by decide)) ear_74 (by decide)) ear_75 (by decide)) fa_78 (by decide)) fa_118 (by decide)), (show (fv_159 2).toInt = 0 from by rw [show fv_159 2 = (fv_5 2) from (congrFun efv_159 2).trans ((fr_55 2 rfl).trans ((fr_39 2 rfl).trans ((congrFun efv_34 2).trans ((congrFun efv_32 2).trans ((congrFun efv_31 2).trans ((congrFun efv_30 2).trans ((congrFun efv_29 2).trans ((congrFun efv_28 2).trans ((congrFun efv_27 2).trans ((congrFun efv_10 2)))))))))))]; omega), hp_162, trivial⟩, ⟨by rw [ht]; exact hP, va_K.moved hW.alike hK⟩⟩, hS.F ht⟩) hS.2.2 dX12_bylaw_368
                        · skip
                          have i_128 : 0 ≤ x_116.toInt ∧ x_116.toInt ≤ 119 := iv_lt1 i_x_116 i_125 (Int32.not_le.mp c_126)
                          have i_129 : 1 ≤ (fv_54 60).toInt ∧ (fv_54 60).toInt ≤ 120 := iv_lt2 i_x_116 i_125 (Int32.not_le.mp c_126)
                          have k_130 := Int32.lt_iff_toInt_lt.mp (Int32.not_le.mp c_126)
                          refine lv_aload_n hx hb dX12_bylaw_276 rfl (lv_at hl 0 rfl) ?_
                          refine gM_54 hx hb htg hown hK hP dX12_bylaw_277 ?_
                          refine lv_bipush (v := 120) hx hb dX12_bylaw_280 (by decide) ?_
                          refine lv_aload_n hx hb dX12_bylaw_282 rfl (lv_at hl 0 rfl) ?_
                          refine gM_58 hx hb htg hown hK hP dX12_bylaw_283 ?_
                          refine my_ti (y := fv 58) ((fr_55 58 rfl).trans ((fr_39 58 rfl).trans ((congrFun efv_34 58).trans ((congrFun efv_32 58).trans ((congrFun efv_31 58).trans ((congrFun efv_30 58).trans ((congrFun efv_29 58).trans ((congrFun efv_28 58).trans ((congrFun efv_27 58).trans ((congrFun efv_10 58).trans ((fr_8 58 rfl).trans ((congrFun efv_1 58))))))))))))) ?_
                          refine lv_imul hx hb dX12_bylaw_286 ?_
                          refine lv_topi (fun v_131 ev_131 => ?_)
                          have t_132 : v_131.toInt = 120 * (fv 58).toInt ∧ 0 ≤ v_131.toInt ∧ v_131.toInt ≤ 1080 := iv_mulc ev_131 i_16 (by decide) (by decide) (by decide) (by decide)
                          refine lv_iload_n hx hb dX12_bylaw_287 rfl (lv_at hl 1 rfl) ?_
                          refine lv_iadd hx hb dX12_bylaw_288 ?_
                          refine lv_topi (fun v_134 ev_134 => ?_)
                          have t_135 : v_134.toInt = v_131.toInt + x_116.toInt ∧ 0 ≤ v_134.toInt ∧ v_134.toInt ≤ 1199 := iv_add ev_134 t_132.2 i_128 (by decide) (by decide)
                          refine lv_aload_n hx hb dX12_bylaw_289 rfl (lv_at hl 0 rfl) ?_
                          refine gM_54 hx hb htg hown hK hP dX12_bylaw_290 ?_
                          refine lv_sipush (v := 1200) hx hb dX12_bylaw_293 (by decide) ?_
                          refine lv_iload_n hx hb dX12_bylaw_296 rfl (lv_at hl 1 rfl) ?_
                          refine lv_iadd hx hb dX12_bylaw_297 ?_
                          refine lv_topi (fun v_137 ev_137 => ?_)
                          have t_138 : v_137.toInt = x_116.toInt + 1200 ∧ 1200 ≤ v_137.toInt ∧ v_137.toInt ≤ 1319 := iv_addc (by rw [ev_137, Int32.add_comm]) i_128 (by decide) (by decide) (by decide)
                          refine lM_54 hx hb hK hP (iv_in t_138.2 (by decide) (by decide)) dX12_bylaw_298 (fun v_140 ev_140 => ?_)
                          have i_141 : 0 ≤ v_140.toInt ∧ v_140.toInt ≤ 15 := ev_140 ▸ hA_ar_117 54 _
                          refine sM_54 hx hb hK hP hS hd (iv_in t_135.2 (by decide) (by decide)) dX12_bylaw_299 (fun H locs ar_142 ear_142 hP hS => ?_)
                          have hA_ar_142 : rA ar_142 := rA_put hA_ar_117 ear_142 i_141
                          have hp_143 : vM fv_54 ar_142 := vM_54 hp_120 hA_ar_117 ear_142 (by have h58 : (0 : Int) ≤ (fv_54 58).toInt ∧ (fv_54 58).toInt ≤ 10 := hF_fv_54 58; have h57 : (fv_54 58).toInt = (fv 58).toInt := congrArg Int32.toInt ((fr_55 58 rfl).trans ((fr_39 58 rfl).trans ((congrFun efv_34 58).trans ((congrFun efv_32 58).trans ((congrFun efv_31 58).trans ((congrFun efv_30 58).trans ((congrFun efv_29 58).trans ((congrFun efv_28 58).trans ((congrFun efv_27 58).trans ((congrFun efv_10 58).trans ((fr_8 58 rfl).trans ((congrFun efv_1 58))))))))))))); show _ ≤ ((v_134.toInt.toNat : Nat) : Int); omega)
                          have hp_144 : rL fv_54 ar_142 := rL_54 hp_119 ear_142 (by show ((v_134.toInt.toNat : Nat) : Int) < 1200; omega)
                          refine lv_aload_n hx hb dX12_bylaw_300 rfl (lv_at hl 0 rfl) ?_
                          refine gM_55 hx hb htg hown hK hP dX12_bylaw_301 ?_
                          refine lv_bipush (v := 120) hx hb dX12_bylaw_304 (by decide) ?_
                          refine lv_aload_n hx hb dX12_bylaw_306 rfl (lv_at hl 0 rfl) ?_
                          refine gM_58 hx hb htg hown hK hP dX12_bylaw_307 ?_
                          refine my_ti (y := fv 58) ((fr_55 58 rfl).trans ((fr_39 58 rfl).trans ((congrFun efv_34 58).trans ((congrFun efv_32 58).trans ((congrFun efv_31 58).trans ((congrFun efv_30 58).trans ((congrFun efv_29 58).trans ((congrFun efv_28 58).trans ((congrFun efv_27 58).trans ((congrFun efv_10 58).trans ((fr_8 58 rfl).trans ((congrFun efv_1 58))))))))))))) ?_
                          refine lv_imul hx hb dX12_bylaw_310 ?_
                          refine my_ti (y := v_131) ev_131.symm ?_
                          refine lv_iload_n hx hb dX12_bylaw_311 rfl (lv_at hl 1 rfl) ?_
                          refine lv_iadd hx hb dX12_bylaw_312 ?_
                          refine my_ti (y := v_134) ev_134.symm ?_
                          refine lv_aload_n hx hb dX12_bylaw_313 rfl (lv_at hl 0 rfl) ?_
                          refine gM_55 hx hb htg hown hK hP dX12_bylaw_314 ?_
                          refine lv_sipush (v := 1200) hx hb dX12_bylaw_317 (by decide) ?_
                          refine lv_iload_n hx hb dX12_bylaw_320 rfl (lv_at hl 1 rfl) ?_
                          refine lv_iadd hx hb dX12_bylaw_321 ?_
                          refine my_ti (y := v_137) ev_137.symm ?_
                          refine lM_55 hx hb hK hP (iv_in t_138.2 (by decide) (by decide)) dX12_bylaw_322 (fun v_145 ev_145 => ?_)
                          refine sM_55 hx hb hK hP hS hd (iv_in t_135.2 (by decide) (by decide)) dX12_bylaw_323 (fun H locs ar_146 ear_146 hP hS => ?_)
                          have hA_ar_146 : rA ar_146 := rA_put hA_ar_142 ear_146 (iv_any _)
                          refine lv_aload_n hx hb dX12_bylaw_324 rfl (lv_at hl 0 rfl) ?_
                          refine gM_56 hx hb htg hown hK hP dX12_bylaw_325 ?_
                          refine lv_bipush (v := 120) hx hb dX12_bylaw_328 (by decide) ?_
                          refine lv_aload_n hx hb dX12_bylaw_330 rfl (lv_at hl 0 rfl) ?_
                          refine gM_58 hx hb htg hown hK hP dX12_bylaw_331 ?_
                          refine my_ti (y := fv 58) ((fr_55 58 rfl).trans ((fr_39 58 rfl).trans ((congrFun efv_34 58).trans ((congrFun efv_32 58).trans ((congrFun efv_31 58).trans ((congrFun efv_30 58).trans ((congrFun efv_29 58).trans ((congrFun efv_28 58).trans ((congrFun efv_27 58).trans ((congrFun efv_10 58).trans ((fr_8 58 rfl).trans ((congrFun efv_1 58))))))))))))) ?_
                          refine lv_imul hx hb dX12_bylaw_334 ?_
                          refine my_ti (y := v_131) ev_131.symm ?_
                          refine lv_iload_n hx hb dX12_bylaw_335 rfl (lv_at hl 1 rfl) ?_
                          refine lv_iadd hx hb dX12_bylaw_336 ?_
                          refine my_ti (y := v_134) ev_134.symm ?_
                          refine lv_aload_n hx hb dX12_bylaw_337 rfl (lv_at hl 0 rfl) ?_
                          refine gM_56 hx hb htg hown hK hP dX12_bylaw_338 ?_
                          refine lv_sipush (v := 1200) hx hb dX12_bylaw_341 (by decide) ?_
                          refine lv_iload_n hx hb dX12_bylaw_344 rfl (lv_at hl 1 rfl) ?_
                          refine lv_iadd hx hb dX12_bylaw_345 ?_
                          refine my_ti (y := v_137) ev_137.symm ?_
                          refine lM_56 hx hb hK hP (iv_in t_138.2 (by decide) (by decide)) dX12_bylaw_346 (fun v_147 ev_147 => ?_)
                          refine sM_56 hx hb hK hP hS hd (iv_in t_135.2 (by decide) (by decide)) dX12_bylaw_347 (fun H locs ar_148 ear_148 hP hS => ?_)
                          have hA_ar_148 : rA ar_148 := rA_put hA_ar_146 ear_148 (iv_any _)
                          have g54 : ar_148 54 = upd (ar_117 54) (120 * (fv 58).toInt.toNat + x_116.toInt.toNat) v_140 := by rw [((fA_put (fA_put (fA_rf [55, 56] _) ear_146 (by decide)) ear_148 (by decide)) 54 rfl), ear_142]; show upd (ar_117 54) (v_134.toInt.toNat) _ = _; rw [show v_134.toInt.toNat = 120 * (fv 58).toInt.toNat + x_116.toInt.toNat from by omega]
                          have x54 : v_140 = ar_117 54 (1200 + x_116.toInt.toNat) := by rw [ev_140]; congr 1; show v_137.toInt.toNat = _; omega
                          obtain ⟨v_149, ev_149⟩ : ∃ z : Int32, z = x_116 + 1 := ⟨_, rfl⟩
                          refine lv_iinc (v := v_149) (lv' := [(2, .int v_149), (0, .ref h)]) hx hb dX12_bylaw_348 hl (k := 1) rfl (by rw [ev_149]; rfl) (by decide) rfl (fun ls hl => ?_)
                          have t_150 : v_149.toInt = x_116.toInt + 1 ∧ 1 ≤ v_149.toInt ∧ v_149.toInt ≤ 120 := iv_addc ev_149 i_128 (by decide) (by decide) (by decide)
                          refine lv_goto (tgt := 268) hx hb dX12_bylaw_351 (by decide) ?_
                          exact ih_122 v_149 ar_148 _ _ ls (by omega) (iv_w t_150.2 (by decide) (by decide)) hA_ar_148 (fA_put (fA_put (fA_put (fA_call (fA_rf [54, 55, 56] _) fa_118 (by decide)) ear_142 (by decide)) ear_146 (by decide)) ear_148 (by decide)) (rL_fr hp_144 (fM_rf [] _) (fA_put (fA_put (fA_rf [55, 56] _) ear_146 (by decide)) ear_148 (by decide)) rfl rfl rfl rfl rfl) (vM_fr hp_143 (fM_rf [] _) (fA_put (fA_put (fA_rf [55, 56] _) ear_146 (by decide)) ear_148 (by decide)) rfl rfl rfl rfl rfl) (fun j hj => cp_st (fun j hj => q_121 j (by omega)) g54 x54 (by omega) j (by omega)) hP hS (lv_sub hl [1, 0] rfl)
                    · skip
                      have z_163 : (0 : Int32).toInt = 0 := by decide
                      exact hj_124 121 0 ar_77 _ _ ls (by first | decide | omega) (iv_w (⟨by decide, by decide⟩ : (0 : Int) ≤ (0 : Int32).toInt ∧ (0 : Int32).toInt ≤ 0) (by decide) (by decide)) hA_ar_77 (fA_rf [54, 55, 56] _) hp_79 hp_80 (fun j hj => absurd hj (by omega)) hP hS (lv_sub hl [1, 0] rfl)
                  · skip
                    have i_87 : 0 ≤ x_76.toInt ∧ x_76.toInt ≤ 15 := iv_lt1 i_x_76 i_70 (Int32.not_le.mp c_85)
                    have i_88 : 1 ≤ (fv_54 59).toInt ∧ (fv_54 59).toInt ≤ 16 := iv_lt2 i_x_76 i_70 (Int32.not_le.mp c_85)
                    have k_89 := Int32.lt_iff_toInt_lt.mp (Int32.not_le.mp c_85)
                    refine lv_aload_n hx hb dX12_bylaw_164 rfl (lv_at hl 0 rfl) ?_
                    refine gM_50 hx hb htg hown hK hP dX12_bylaw_165 ?_
                    refine lv_bipush (v := 16) hx hb dX12_bylaw_168 (by decide) ?_
                    refine lv_aload_n hx hb dX12_bylaw_170 rfl (lv_at hl 0 rfl) ?_
                    refine gM_58 hx hb htg hown hK hP dX12_bylaw_171 ?_
                    refine my_ti (y := fv 58) ((fr_55 58 rfl).trans ((fr_39 58 rfl).trans ((congrFun efv_34 58).trans ((congrFun efv_32 58).trans ((congrFun efv_31 58).trans ((congrFun efv_30 58).trans ((congrFun efv_29 58).trans ((congrFun efv_28 58).trans ((congrFun efv_27 58).trans ((congrFun efv_10 58).trans ((fr_8 58 rfl).trans ((congrFun efv_1 58))))))))))))) ?_
                    refine lv_imul hx hb dX12_bylaw_174 ?_
                    refine lv_topi (fun v_90 ev_90 => ?_)
                    have t_91 : v_90.toInt = 16 * (fv 58).toInt ∧ 0 ≤ v_90.toInt ∧ v_90.toInt ≤ 144 := iv_mulc ev_90 i_16 (by decide) (by decide) (by decide) (by decide)
                    refine lv_iload_n hx hb dX12_bylaw_175 rfl (lv_at hl 1 rfl) ?_
                    refine lv_iadd hx hb dX12_bylaw_176 ?_
                    refine lv_topi (fun v_93 ev_93 => ?_)
                    have t_94 : v_93.toInt = v_90.toInt + x_76.toInt ∧ 0 ≤ v_93.toInt ∧ v_93.toInt ≤ 159 := iv_add ev_93 t_91.2 i_87 (by decide) (by decide)
                    refine lv_aload_n hx hb dX12_bylaw_177 rfl (lv_at hl 0 rfl) ?_
                    refine gM_50 hx hb htg hown hK hP dX12_bylaw_178 ?_
                    refine lv_sipush (v := 160) hx hb dX12_bylaw_181 (by decide) ?_
                    refine lv_iload_n hx hb dX12_bylaw_184 rfl (lv_at hl 1 rfl) ?_
                    refine lv_iadd hx hb dX12_bylaw_185 ?_
                    refine lv_topi (fun v_96 ev_96 => ?_)
                    have t_97 : v_96.toInt = x_76.toInt + 160 ∧ 160 ≤ v_96.toInt ∧ v_96.toInt ≤ 175 := iv_addc (by rw [ev_96, Int32.add_comm]) i_87 (by decide) (by decide) (by decide)
                    refine lM_50 hx hb hK hP (iv_in t_97.2 (by decide) (by decide)) dX12_bylaw_186 (fun v_99 ev_99 => ?_)
                    refine sM_50 hx hb hK hP hS hd (iv_in t_94.2 (by decide) (by decide)) dX12_bylaw_187 (fun H locs ar_100 ear_100 hP hS => ?_)
                    have hA_ar_100 : rA ar_100 := rA_put hA_ar_77 ear_100 (iv_any _)
                    refine lv_aload_n hx hb dX12_bylaw_188 rfl (lv_at hl 0 rfl) ?_
                    refine gM_51 hx hb htg hown hK hP dX12_bylaw_189 ?_
                    refine lv_bipush (v := 16) hx hb dX12_bylaw_192 (by decide) ?_
                    refine lv_aload_n hx hb dX12_bylaw_194 rfl (lv_at hl 0 rfl) ?_
                    refine gM_58 hx hb htg hown hK hP dX12_bylaw_195 ?_
                    refine my_ti (y := fv 58) ((fr_55 58 rfl).trans ((fr_39 58 rfl).trans ((congrFun efv_34 58).trans ((congrFun efv_32 58).trans ((congrFun efv_31 58).trans ((congrFun efv_30 58).trans ((congrFun efv_29 58).trans ((congrFun efv_28 58).trans ((congrFun efv_27 58).trans ((congrFun efv_10 58).trans ((fr_8 58 rfl).trans ((congrFun efv_1 58))))))))))))) ?_
                    refine lv_imul hx hb dX12_bylaw_198 ?_
                    refine my_ti (y := v_90) ev_90.symm ?_
                    refine lv_iload_n hx hb dX12_bylaw_199 rfl (lv_at hl 1 rfl) ?_
                    refine lv_iadd hx hb dX12_bylaw_200 ?_
                    refine my_ti (y := v_93) ev_93.symm ?_
                    refine lv_aload_n hx hb dX12_bylaw_201 rfl (lv_at hl 0 rfl) ?_
                    refine gM_51 hx hb htg hown hK hP dX12_bylaw_202 ?_
                    refine lv_sipush (v := 160) hx hb dX12_bylaw_205 (by decide) ?_
                    refine lv_iload_n hx hb dX12_bylaw_208 rfl (lv_at hl 1 rfl) ?_
                    refine lv_iadd hx hb dX12_bylaw_209 ?_
                    refine my_ti (y := v_96) ev_96.symm ?_
                    refine lM_51 hx hb hK hP (iv_in t_97.2 (by decide) (by decide)) dX12_bylaw_210 (fun v_101 ev_101 => ?_)
                    refine sM_51 hx hb hK hP hS hd (iv_in t_94.2 (by decide) (by decide)) dX12_bylaw_211 (fun H locs ar_102 ear_102 hP hS => ?_)
                    have hA_ar_102 : rA ar_102 := rA_put hA_ar_100 ear_102 (iv_any _)
                    refine lv_aload_n hx hb dX12_bylaw_212 rfl (lv_at hl 0 rfl) ?_
                    refine gM_52 hx hb htg hown hK hP dX12_bylaw_213 ?_
                    refine lv_bipush (v := 16) hx hb dX12_bylaw_216 (by decide) ?_
                    refine lv_aload_n hx hb dX12_bylaw_218 rfl (lv_at hl 0 rfl) ?_
                    refine gM_58 hx hb htg hown hK hP dX12_bylaw_219 ?_
                    refine my_ti (y := fv 58) ((fr_55 58 rfl).trans ((fr_39 58 rfl).trans ((congrFun efv_34 58).trans ((congrFun efv_32 58).trans ((congrFun efv_31 58).trans ((congrFun efv_30 58).trans ((congrFun efv_29 58).trans ((congrFun efv_28 58).trans ((congrFun efv_27 58).trans ((congrFun efv_10 58).trans ((fr_8 58 rfl).trans ((congrFun efv_1 58))))))))))))) ?_
                    refine lv_imul hx hb dX12_bylaw_222 ?_
                    refine my_ti (y := v_90) ev_90.symm ?_
                    refine lv_iload_n hx hb dX12_bylaw_223 rfl (lv_at hl 1 rfl) ?_
                    refine lv_iadd hx hb dX12_bylaw_224 ?_
                    refine my_ti (y := v_93) ev_93.symm ?_
                    refine lv_aload_n hx hb dX12_bylaw_225 rfl (lv_at hl 0 rfl) ?_
                    refine gM_52 hx hb htg hown hK hP dX12_bylaw_226 ?_
                    refine lv_sipush (v := 160) hx hb dX12_bylaw_229 (by decide) ?_
                    refine lv_iload_n hx hb dX12_bylaw_232 rfl (lv_at hl 1 rfl) ?_
                    refine lv_iadd hx hb dX12_bylaw_233 ?_
                    refine my_ti (y := v_96) ev_96.symm ?_
                    refine lM_52 hx hb hK hP (iv_in t_97.2 (by decide) (by decide)) dX12_bylaw_234 (fun v_103 ev_103 => ?_)
                    have i_104 : 0 ≤ v_103.toInt ∧ v_103.toInt ≤ 120 := ev_103 ▸ hA_ar_102 52 _
                    refine sM_52 hx hb hK hP hS hd (iv_in t_94.2 (by decide) (by decide)) dX12_bylaw_235 (fun H locs ar_105 ear_105 hP hS => ?_)
                    have hA_ar_105 : rA ar_105 := rA_put hA_ar_102 ear_105 i_104
                    have hp_106 : vM fv_54 ar_105 := vM_52 (vM_fr hp_80 (fM_rf [] _) (fA_put (fA_put (fA_rf [50, 51] _) ear_100 (by decide)) ear_102 (by decide)) rfl rfl rfl rfl rfl) hA_ar_102 ear_105 (by have h58 : (0 : Int) ≤ (fv_54 58).toInt ∧ (fv_54 58).toInt ≤ 10 := hF_fv_54 58; have h57 : (fv_54 58).toInt = (fv 58).toInt := congrArg Int32.toInt ((fr_55 58 rfl).trans ((fr_39 58 rfl).trans ((congrFun efv_34 58).trans ((congrFun efv_32 58).trans ((congrFun efv_31 58).trans ((congrFun efv_30 58).trans ((congrFun efv_29 58).trans ((congrFun efv_28 58).trans ((congrFun efv_27 58).trans ((congrFun efv_10 58).trans ((fr_8 58 rfl).trans ((congrFun efv_1 58))))))))))))); show _ ≤ ((v_93.toInt.toNat : Nat) : Int); omega)
                    have hp_107 : rL fv_54 ar_105 := rL_52 (rL_fr hp_79 (fM_rf [] _) (fA_put (fA_put (fA_rf [50, 51] _) ear_100 (by decide)) ear_102 (by decide)) rfl rfl rfl rfl rfl) ear_105 (by show ((v_93.toInt.toNat : Nat) : Int) < 160 ∨ _ ≤ ((v_93.toInt.toNat : Nat) : Int); omega)
                    refine lv_aload_n hx hb dX12_bylaw_236 rfl (lv_at hl 0 rfl) ?_
                    refine gM_53 hx hb htg hown hK hP dX12_bylaw_237 ?_
                    refine lv_bipush (v := 16) hx hb dX12_bylaw_240 (by decide) ?_
                    refine lv_aload_n hx hb dX12_bylaw_242 rfl (lv_at hl 0 rfl) ?_
                    refine gM_58 hx hb htg hown hK hP dX12_bylaw_243 ?_
                    refine my_ti (y := fv 58) ((fr_55 58 rfl).trans ((fr_39 58 rfl).trans ((congrFun efv_34 58).trans ((congrFun efv_32 58).trans ((congrFun efv_31 58).trans ((congrFun efv_30 58).trans ((congrFun efv_29 58).trans ((congrFun efv_28 58).trans ((congrFun efv_27 58).trans ((congrFun efv_10 58).trans ((fr_8 58 rfl).trans ((congrFun efv_1 58))))))))))))) ?_
                    refine lv_imul hx hb dX12_bylaw_246 ?_
                    refine my_ti (y := v_90) ev_90.symm ?_
                    refine lv_iload_n hx hb dX12_bylaw_247 rfl (lv_at hl 1 rfl) ?_
                    refine lv_iadd hx hb dX12_bylaw_248 ?_
                    refine my_ti (y := v_93) ev_93.symm ?_
                    refine lv_aload_n hx hb dX12_bylaw_249 rfl (lv_at hl 0 rfl) ?_
                    refine gM_53 hx hb htg hown hK hP dX12_bylaw_250 ?_
                    refine lv_sipush (v := 160) hx hb dX12_bylaw_253 (by decide) ?_
                    refine lv_iload_n hx hb dX12_bylaw_256 rfl (lv_at hl 1 rfl) ?_
                    refine lv_iadd hx hb dX12_bylaw_257 ?_
                    refine my_ti (y := v_96) ev_96.symm ?_
                    refine lM_53 hx hb hK hP (iv_in t_97.2 (by decide) (by decide)) dX12_bylaw_258 (fun v_108 ev_108 => ?_)
                    have i_109 : 0 ≤ v_108.toInt ∧ v_108.toInt ≤ 120 := ev_108 ▸ hA_ar_105 53 _
                    refine sM_53 hx hb hK hP hS hd (iv_in t_94.2 (by decide) (by decide)) dX12_bylaw_259 (fun H locs ar_110 ear_110 hP hS => ?_)
                    have hA_ar_110 : rA ar_110 := rA_put hA_ar_105 ear_110 i_109
                    have hp_111 : vM fv_54 ar_110 := vM_53 hp_106 hA_ar_105 ear_110 (by have h58 : (0 : Int) ≤ (fv_54 58).toInt ∧ (fv_54 58).toInt ≤ 10 := hF_fv_54 58; have h57 : (fv_54 58).toInt = (fv 58).toInt := congrArg Int32.toInt ((fr_55 58 rfl).trans ((fr_39 58 rfl).trans ((congrFun efv_34 58).trans ((congrFun efv_32 58).trans ((congrFun efv_31 58).trans ((congrFun efv_30 58).trans ((congrFun efv_29 58).trans ((congrFun efv_28 58).trans ((congrFun efv_27 58).trans ((congrFun efv_10 58).trans ((fr_8 58 rfl).trans ((congrFun efv_1 58))))))))))))); show _ ≤ ((v_93.toInt.toNat : Nat) : Int); omega)
                    have hp_112 : rL fv_54 ar_110 := rL_53 hp_107 ear_110 (by show ((v_93.toInt.toNat : Nat) : Int) < 160 ∨ _ ≤ ((v_93.toInt.toNat : Nat) : Int); omega)
                    have g52 : ar_110 52 = upd (ar_77 52) (16 * (fv 58).toInt.toNat + x_76.toInt.toNat) v_103 := by rw [((fA_put (fA_rf [53] _) ear_110 (by decide)) 52 rfl), ear_105]; show upd (ar_102 52) (v_93.toInt.toNat) _ = _; rw [((fA_put (fA_put (fA_rf [50, 51] _) ear_100 (by decide)) ear_102 (by decide)) 52 rfl), show v_93.toInt.toNat = 16 * (fv 58).toInt.toNat + x_76.toInt.toNat from by omega]
                    have x52 : v_103 = ar_77 52 (160 + x_76.toInt.toNat) := by rw [ev_103, ((fA_put (fA_put (fA_rf [50, 51] _) ear_100 (by decide)) ear_102 (by decide)) 52 rfl)]; congr 1; show v_96.toInt.toNat = _; omega
                    have g53 : ar_110 53 = upd (ar_77 53) (16 * (fv 58).toInt.toNat + x_76.toInt.toNat) v_108 := by rw [show ar_110 53 = ar_110 53 from rfl, ear_110]; show upd (ar_105 53) (v_93.toInt.toNat) _ = _; rw [((fA_put (fA_put (fA_put (fA_rf [50, 51, 52] _) ear_100 (by decide)) ear_102 (by decide)) ear_105 (by decide)) 53 rfl), show v_93.toInt.toNat = 16 * (fv 58).toInt.toNat + x_76.toInt.toNat from by omega]
                    have x53 : v_108 = ar_77 53 (160 + x_76.toInt.toNat) := by rw [ev_108, ((fA_put (fA_put (fA_put (fA_rf [50, 51, 52] _) ear_100 (by decide)) ear_102 (by decide)) ear_105 (by decide)) 53 rfl)]; congr 1; show v_96.toInt.toNat = _; omega
                    obtain ⟨v_113, ev_113⟩ : ∃ z : Int32, z = x_76 + 1 := ⟨_, rfl⟩
                    refine lv_iinc (v := v_113) (lv' := [(2, .int v_113), (0, .ref h)]) hx hb dX12_bylaw_260 hl (k := 1) rfl (by rw [ev_113]; rfl) (by decide) rfl (fun ls hl => ?_)
                    have t_114 : v_113.toInt = x_76.toInt + 1 ∧ 1 ≤ v_113.toInt ∧ v_113.toInt ≤ 16 := iv_addc ev_113 i_87 (by decide) (by decide) (by decide)
                    refine lv_goto (tgt := 156) hx hb dX12_bylaw_263 (by decide) ?_
                    exact ih_82 v_113 ar_110 _ _ ls (by omega) (iv_w t_114.2 (by decide) (by decide)) hA_ar_110 (fA_put (fA_put (fA_put (fA_put (fA_call (fA_rf [50, 51, 52, 53] _) fa_78 (by decide)) ear_100 (by decide)) ear_102 (by decide)) ear_105 (by decide)) ear_110 (by decide)) hp_112 hp_111 (fun j hj => ⟨cp_st (fun j hj => (q_81 j (by omega)).1) g52 x52 (by omega) j (by omega), cp_st (fun j hj => (q_81 j (by omega)).2) g53 x53 (by omega) j (by omega)⟩) hP hS (lv_sub hl [1, 0] rfl)
              · skip
                have z_164 : (0 : Int32).toInt = 0 := by decide
                exact hj_84 17 0 ar_75 _ _ ls (by first | decide | omega) (iv_w (⟨by decide, by decide⟩ : (0 : Int) ≤ (0 : Int32).toInt ∧ (0 : Int32).toInt ≤ 0) (by decide) (by decide)) hA_ar_75 (fA_rf [50, 51, 52, 53] _) (rL_fr hp_59 (fM_rf [] _) (fA_put (fA_put (fA_put (fA_rf [47, 48, 49] _) ear_71 (by decide)) ear_74 (by decide)) ear_75 (by decide)) rfl rfl rfl rfl rfl) (vM_fr hp_72 (fM_rf [] _) (fA_put (fA_put (fA_rf [48, 49] _) ear_74 (by decide)) ear_75 (by decide)) rfl rfl rfl rfl rfl) (fun j hj => absurd hj (by omega)) hP hS (lv_sub hl [1, 0] rfl)
            · skip
              have k_165 : ¬ (fv_54 40).toInt = 0 := fun q => c_67 (Int32.toInt_inj.mp q)
              refine lv_aload_n hx hb dX12_bylaw_94 rfl (lv_at hl 0 rfl) ?_
              have z_166 : 0 ≤ (fv_54 60).toInt ∧ (fv_54 60).toInt ≤ 120 := hF_fv_54 60
              have z_167 : 0 ≤ (fv_54 62).toInt ∧ (fv_54 62).toInt ≤ 50 := hF_fv_54 62
              have z_168 : 0 ≤ (fv_54 62).toInt ∧ (fv_54 62).toInt ≤ 50 := hF_fv_54 62
              have z_169 : (-100) ≤ (fv_54 63).toInt ∧ (fv_54 63).toInt ≤ 10 := hF_fv_54 63
              refine va_calli (va_runV (As := []) (rest := []) ⟨hx, hb, hml, hown, hts⟩ (m_readLine l dC dI H.size h ad cA hd fv_54 wd_58 ar_56 hF_fv_54 hA_ar_56 (by omega) (by omega) hp_59 hp_60) (cwV 0 hts (gV kw_8_79 kw_8_81 kw_p_66 kw_1_15 kw_8_82) rfl rfl rfl (by decide +kernel) ⟨Nat.le_of_ble_eq_true rfl, Nat.le_of_ble_eq_true rfl⟩) ⟨fun a U g mk q => ⟨q.1, q.2.1, q.2.2.1, va_K.moved (u := U) (U := U.calling g mk a) (Vm.Alike.refl U.vm) q.2.2.2⟩, va_recv hK hP (ci := 12) (q0 := 0) rfl rfl, fun U hU hW => ⟨rfl, by rw [hU], by rw [hU]; exact hP, va_K.moved hW.alike hK⟩⟩ rfl rfl hl.1 rfl (lv_room (Nat.le_of_ble_eq_true rfl)) dX12_bylaw_95 ⟨Nat.le_of_ble_eq_true rfl, Nat.le_of_ble_eq_true rfl⟩) hS (fun q _ h9 => aM_up hS q h9) (aM_up hS) (fun r_170 u t H1 locs ht _ hw hB _ hk1 hS => ?_)
              obtain ⟨fv_174, wd_175, ar_176⟩ := u
              obtain ⟨hF_fv_174, hA_ar_176, fr_177, fa_178, p_171, p_172, p_173, -⟩ := hw
              have hP : va_P (dC, dI) vwCl (wsM h ad cA fv_174 wd_175 ar_176) H1 := by have h9 := hB.1; rw [ht] at h9; exact h9
              have fr_177 : fM [38, 39, 40, 41, 42, 43, 44, 45, 59, 60, 61, 62, 63] fv_54 fv_174 := fr_177
              have fa_178 : fA [48, 50, 51, 52, 53, 54, 55, 56, 57] ar_56 ar_176 := fa_178
              have p_173 : vM fv_174 ar_176 := p_173
              generalize H1 = H at hP hS ⊢
              rcases p_172 with ⟨rfl, p_172⟩ | ⟨rfl, p_172⟩
              · skip
                refine lv_if_ne (tgt := 108) hx hb dX12_bylaw_98 (by decide) (fun c_179 => ?_) (fun c_179 => ?_)
                · skip
                  exact absurd c_179 (by decide)
                · skip
                  refine lv_iconst (v := (-1)) hx hb dX12_bylaw_101 (by decide) ?_
                  refine lv_aload_n hx hb dX12_bylaw_102 rfl (lv_at hl 0 rfl) ?_
                  refine gM_44 hx hb htg hown hK hP dX12_bylaw_103 ?_
                  refine lv_isub hx hb dX12_bylaw_106 ?_
                  refine lv_topi (fun v_180 ev_180 => ?_)
                  have t_181 : v_180.toInt = ((-1) : Int32).toInt - (fv_174 44).toInt ∧ (-2147483648) ≤ v_180.toInt ∧ v_180.toInt ≤ 2147483647 := iv_sub ev_180 (⟨by decide, by decide⟩ : (-1 : Int) ≤ ((-1) : Int32).toInt ∧ ((-1) : Int32).toInt ≤ -1) (iv_any (fv_174 44)) (by decide) (by decide)
                  exact W.iret (v := v_180) hx hb hr (fun t ht hW => ⟨⟨v_180, (fv_174, wd_175, ar_176), rfl, ⟨hF_fv_174, hA_ar_176, (fM_call (fM_call (fM_call (fM_put (fM_put (fM_put (fM_put (fM_put (fM_put (fM_put (fM_put (fM_call (fM_put (fM_rf [0, 2, 37, 38, 39, 40, 41, 42, 43, 44, 45, 58, 59, 60, 61, 62, 63] _) efv_1 (by decide)) fr_8 (by decide)) efv_10 (by decide)) efv_27 (by decide)) efv_28 (by decide)) efv_29 (by decide)) efv_30 (by decide)) efv_31 (by decide)) efv_32 (by decide)) efv_34 (by decide)) fr_39 (by decide)) fr_55 (by decide)) fr_177 (by decide)), (fA_call (fA_call (fA_call (fA_put (fA_call (fA_rf [47, 48, 49, 50, 51, 52, 53, 54, 55, 56, 57] _) fa_9 (by decide)) ear_33 (by decide)) fa_40 (by decide)) fa_57 (by decide)) fa_178 (by decide)), (show (fv_174 2).toInt = 0 from by rw [show fv_174 2 = (fv_5 2) from (fr_177 2 rfl).trans ((fr_55 2 rfl).trans ((fr_39 2 rfl).trans ((congrFun efv_34 2).trans ((congrFun efv_32 2).trans ((congrFun efv_31 2).trans ((congrFun efv_30 2).trans ((congrFun efv_29 2).trans ((congrFun efv_28 2).trans ((congrFun efv_27 2).trans ((congrFun efv_10 2)))))))))))]; omega), p_173, trivial⟩, ⟨by rw [ht]; exact hP, va_K.moved hW.alike hK⟩⟩, hS.F ht⟩) hS.2.2 dX12_bylaw_107
              · skip
                have hp_183 : rL fv_174 ar_176 := p_172.1
                have q_184 : (fv_174 60).toInt ≤ 2 * (fv_174 62).toInt := p_172.2.1
                have q_185 : 0 ≤ (fv_174 63).toInt + (fv_174 62).toInt := p_172.2.2.1
                have q_186 : (fv_174 59).toInt = (fv_54 59).toInt + 1 := p_172.2.2.2
                refine lv_if_ne (tgt := 108) hx hb dX12_bylaw_98 (by decide) (fun c_187 => ?_) (fun c_187 => ?_)
                · skip
                  refine lv_aload_n hx hb dX12_bylaw_108 rfl (lv_at hl 0 rfl) ?_
                  refine va_callv (va_runV (As := []) (rest := []) ⟨hx, hb, hml, hown, hts⟩ (m_go l dC dI H.size h ad cA hd fv_174 wd_175 ar_176 hF_fv_174 hA_ar_176) (cwV 0 hts (gV kw_8_60 kw_8_62 kw_p_64 kw_1_15 kw_8_63) rfl rfl rfl (by decide +kernel) ⟨Nat.le_of_ble_eq_true rfl, Nat.le_of_ble_eq_true rfl⟩) ⟨fun a U g mk q => ⟨q.1, q.2.1, q.2.2.1, va_K.moved (u := U) (U := U.calling g mk a) (Vm.Alike.refl U.vm) q.2.2.2⟩, va_recv hK hP (ci := 12) (q0 := 0) rfl rfl, fun U hU hW => ⟨rfl, by rw [hU], by rw [hU]; exact hP, va_K.moved hW.alike hK⟩⟩ rfl rfl hl.1 rfl (lv_room (Nat.le_of_ble_eq_true rfl)) dX12_bylaw_109 ⟨Nat.le_of_ble_eq_true rfl, Nat.le_of_ble_eq_true rfl⟩) hS (fun q _ h9 => aM_up hS q h9) (aM_up hS) (fun u t H1 locs ht _ hw hB _ hk1 hS => ?_)
                  obtain ⟨fv_189, wd_190, ar_191⟩ := u
                  obtain ⟨hF_fv_189, hA_ar_191, fr_192, fa_193, -⟩ := hw
                  have hP : va_P (dC, dI) vwCl (wsM h ad cA fv_189 wd_190 ar_191) H1 := by have h9 := hB.1; rw [ht] at h9; exact h9
                  have fr_192 : fM [38, 39, 40, 41, 42] fv_174 fv_189 := fr_192
                  have fa_193 : fA [] ar_176 ar_191 := fa_193
                  generalize H1 = H at hP hS ⊢
                  refine lv_goto (tgt := 87) hx hb dX12_bylaw_112 (by decide) ?_
                  have z_194 : (fv_189 59).toInt = (fv_174 59).toInt := congrArg Int32.toInt ((fr_192 59 rfl))
                  have z_195 : 0 ≤ (fv_189 59).toInt ∧ (fv_189 59).toInt ≤ 16 := hF_fv_189 59
                  have z_196 : (fv_189 60).toInt = (fv_174 60).toInt := congrArg Int32.toInt ((fr_192 60 rfl))
                  have z_197 : 0 ≤ (fv_189 60).toInt ∧ (fv_189 60).toInt ≤ 120 := hF_fv_189 60
                  have z_198 : (fv_189 62).toInt = (fv_174 62).toInt := congrArg Int32.toInt ((fr_192 62 rfl))
                  have z_199 : 0 ≤ (fv_189 62).toInt ∧ (fv_189 62).toInt ≤ 50 := hF_fv_189 62
                  have z_200 : (fv_189 63).toInt = (fv_174 63).toInt := congrArg Int32.toInt ((fr_192 63 rfl))
                  have z_201 : (-100) ≤ (fv_189 63).toInt ∧ (fv_189 63).toInt ≤ 10 := hF_fv_189 63
                  exact ih_64 fv_189 ar_191 wd_190 _ _ ls (by omega) hF_fv_189 (fM_call (fM_call (fM_call (fM_rf [38, 39, 40, 41, 42, 43, 44, 45, 59, 60, 61, 62, 63] _) fr_55 (by decide)) fr_177 (by decide)) fr_192 (by decide)) hA_ar_191 (fA_call (fA_call (fA_call (fA_rf [48, 50, 51, 52, 53, 54, 55, 56, 57] _) fa_57 (by decide)) fa_178 (by decide)) fa_193 (by decide)) (rL_fr hp_183 (fM_call (fM_rf [38, 39, 40, 41, 42] _) fr_192 (by decide)) (fA_call (fA_rf [] _) fa_193 (by decide)) rfl rfl rfl rfl rfl) (vM_fr p_173 (fM_call (fM_rf [38, 39, 40, 41, 42] _) fr_192 (by decide)) (fA_call (fA_rf [] _) fa_193 (by decide)) rfl rfl rfl rfl rfl) (by omega) (by omega) (by omega) hP hS (lv_sub hl [0, 1] rfl)
                · skip
                  exact absurd c_187 (by decide)
        · skip
          have z_202 : (fv_36 59).toInt = (0 : Int32).toInt := congrArg Int32.toInt ((fr_39 59 rfl).trans ((congrFun efv_34 59).trans ((congrFun efv_32 59).trans ((congrFun efv_31 59).trans ((congrFun efv_30 59).trans ((congrFun efv_29 59)))))))
          have z_203 : (0 : Int32).toInt = 0 := by decide
          have z_204 : 0 ≤ (fv_36 59).toInt ∧ (fv_36 59).toInt ≤ 16 := hF_fv_36 59
          have z_205 : (fv_36 60).toInt = (0 : Int32).toInt := congrArg Int32.toInt ((fr_39 60 rfl).trans ((congrFun efv_34 60).trans ((congrFun efv_32 60).trans ((congrFun efv_31 60).trans ((congrFun efv_30 60))))))
          have z_206 : (0 : Int32).toInt = 0 := by decide
          have z_207 : 0 ≤ (fv_36 60).toInt ∧ (fv_36 60).toInt ≤ 120 := hF_fv_36 60
          have z_208 : (fv_36 62).toInt = (0 : Int32).toInt := congrArg Int32.toInt ((fr_39 62 rfl).trans ((congrFun efv_34 62).trans ((congrFun efv_32 62).trans ((congrFun efv_31 62)))))
          have z_209 : (0 : Int32).toInt = 0 := by decide
          have z_210 : 0 ≤ (fv_36 62).toInt ∧ (fv_36 62).toInt ≤ 50 := hF_fv_36 62
          have z_211 : (fv_36 63).toInt = (0 : Int32).toInt := congrArg Int32.toInt ((fr_39 63 rfl).trans ((congrFun efv_34 63).trans ((congrFun efv_32 63))))
          have z_212 : (0 : Int32).toInt = 0 := by decide
          have z_213 : (-100) ≤ (fv_36 63).toInt ∧ (fv_36 63).toInt ≤ 10 := hF_fv_36 63
          exact hj_66 17 fv_36 ar_38 wd_37 _ _ ls (by omega) hF_fv_36 (fM_rf [38, 39, 40, 41, 42, 43, 44, 45, 59, 60, 61, 62, 63] _) hA_ar_38 (fA_rf [48, 50, 51, 52, 53, 54, 55, 56, 57] _) hp_53 (vM_fr hp_vM (fM_call (fM_put (fM_put (fM_put (fM_put (fM_put (fM_put (fM_put (fM_put (fM_call (fM_put (fM_rf [0, 2, 37, 38, 39, 40, 41, 42, 43, 45, 59, 60, 62, 63] _) efv_1 (by decide)) fr_8 (by decide)) efv_10 (by decide)) efv_27 (by decide)) efv_28 (by decide)) efv_29 (by decide)) efv_30 (by decide)) efv_31 (by decide)) efv_32 (by decide)) efv_34 (by decide)) fr_39 (by decide)) (fA_call (fA_put (fA_call (fA_rf [48] _) fa_9 (by decide)) ear_33 (by decide)) fa_40 (by decide)) rfl rfl rfl rfl rfl) (by omega) (by omega) (by omega) hP hS (lv_sub hl [0, 1] rfl)
      · skip
        exact absurd c_26 (by decide)
set_option maxHeartbeats 4000000 in
set_option maxRecDepth 100000 in
theorem m_seatedE (l : Launch) (dC : Nat → ClassId) (dI : Nat → Nat → Nat) (sz h : Nat) (ad : Nat → Nat) (cA : Nat → ClassId) (hd : dM h ad) (fv : Nat → Int32) (wd : Int64) (ar : Nat → Nat → Int32) (hF_fv : rF fv) (hA_ar : rA ar) (mm : Int32) : Met l yX12_seated (.code yX12_seated cX12_seated 9 (some .int) :: lw_good) ({ frames := 5, cells := 0, slots := 0, locals := 106 }) (va_Pc [.ref h, .int mm] (prM dC dI h ad cA fv wd ar sz)) (va_Qi (fun (r : Int32) (u : mS) => rF u.1 ∧ rA u.2.2 ∧ fM [0, 2, 8, 95] fv u.1 ∧ fA [4, 90, 91, 92, 93, 94] ar u.2.2 ∧ ((u.1 2).toInt = 0) ∧ True) (enM dC dI h ad cA) (aM h ad sz)) 0 0 (aM h ad sz) := by
  refine Met.ofW (cc := cX12_seated) (maxL := 9) (ret := (some .int)) (by decide) rfl ?_
  intro p e s m args below meth c s₁ B hml hv
  obtain ⟨rfl, hsz, hP, hK⟩ := hv
  have hx := B.exec
  have hb := B.bytes
  have hr := B.returns
  have hts := atoms_spec (ws := (.code yX12_seated cX12_seated 9 (some .int) :: lw_good)) B.pre
  have htg : ∀ w ∈ lw_good, w.before _ s = true := fun w hw => hts w (List.mem_cons_of_mem _ hw)
  have hown : s.vm.findClass RX12 = some m.cls := findClass_of_methodNamed B.named
  have hlocks := B.notSynchronized
  subst hsz
  have hS : va_S (aM h ad s.heap.size) s.heap s.heap [] := va_S.rf
  have hl := lv_entry ([.ref h, .int mm]) (n := 9) (Nat.le_of_ble_eq_true rfl)
  rw [lg_entry_eq]
  generalize (lg_sl ([.ref h, .int mm]) ++ List.replicate (9 - (lg_sl ([.ref h, .int mm])).length) Slot.unset).toArray = ls at hl ⊢
  have hl : lv_has ls 9 [(0, .ref h), (1, .int mm)] := hl
  refine lv_aload_n hx hb dX12_seated_0 rfl (lv_at hl 0 rfl) ?_
  refine lv_iconst (v := 0) hx hb dX12_seated_1 (by decide) ?_
  refine pM_0 hx hb htg hown hK hP hS hd dX12_seated_2 (fun H locs fv_1 efv_1 hP hS => ?_)
  have hF_fv_1 : rF fv_1 := rF_put hF_fv efv_1 (iv_any _)
  refine lv_aload_n hx hb dX12_seated_5 rfl (lv_at hl 0 rfl) ?_
  refine va_calli (va_runV (As := []) (rest := []) ⟨hx, hb, hml, hown, hts⟩ (m_takeE l dC dI H.size h ad cA hd fv_1 wd ar hF_fv_1 hA_ar) (cwV 0 hts (gV kw_8_5 kw_8_7 kw_p_60 kw_1_15 kw_8_8) rfl rfl rfl (by decide +kernel) ⟨Nat.le_of_ble_eq_true rfl, Nat.le_of_ble_eq_true rfl⟩) ⟨fun a U g mk q => ⟨q.1, q.2.1, q.2.2.1, va_K.moved (u := U) (U := U.calling g mk a) (Vm.Alike.refl U.vm) q.2.2.2⟩, va_recv hK hP (ci := 12) (q0 := 0) rfl rfl, fun U hU hW => ⟨rfl, by rw [hU], by rw [hU]; exact hP, va_K.moved hW.alike hK⟩⟩ rfl rfl hl.1 rfl (lv_room (Nat.le_of_ble_eq_true rfl)) dX12_seated_6 ⟨Nat.le_of_ble_eq_true rfl, Nat.le_of_ble_eq_true rfl⟩) hS (fun q _ h9 => aM_up hS q h9) (aM_up hS) (fun r_2 u t H1 locs ht _ hw hB _ hk1 hS => ?_)
  obtain ⟨fv_5, wd_6, ar_7⟩ := u
  obtain ⟨hF_fv_5, hA_ar_7, fr_8, fa_9, p_3, p_4, -⟩ := hw
  have hP : va_P (dC, dI) vwCl (wsM h ad cA fv_5 wd_6 ar_7) H1 := by have h9 := hB.1; rw [ht] at h9; exact h9
  have fr_8 : fM [2] fv_1 fv_5 := fr_8
  have fa_9 : fA [] ar ar_7 := fa_9
  have p_4 : (fv_5 2).toInt = 0 := p_4
  generalize H1 = H at hP hS ⊢
  refine lv_istore_n (lv' := [(2, .int r_2), (0, .ref h), (1, .int mm)]) hx hb dX12_seated_9 rfl hl (by decide) rfl (fun ls hl => ?_)
  refine lv_iload_n hx hb dX12_seated_10 rfl (lv_at hl 0 rfl) ?_
  refine lv_iconst (v := 1) hx hb dX12_seated_11 (by decide) ?_
  refine lv_iconst (v := 5) hx hb dX12_seated_12 (by decide) ?_
  refine va_calli (va_runS (As := [.int r_2, .int 1, .int 5]) (rest := []) ⟨hx, hb, hml, hown, hts⟩ (m_isIn l H.size r_2 1 5) (va_cwS 3 hts (gS kw_7_218 kw_7_219 kw_1_15 kw_7_220) rfl rfl rfl (by decide +kernel) ⟨Nat.le_of_ble_eq_true rfl, Nat.le_of_ble_eq_true rfl⟩) ⟨fun a U g mk q => ⟨q.1, q.2⟩, fun U hU hW => ⟨rfl, congrArg Array.size hU⟩⟩ rfl rfl hl.1 rfl (lv_room (Nat.le_of_ble_eq_true rfl)) dX12_seated_13 ⟨Nat.le_of_ble_eq_true rfl, Nat.le_of_ble_eq_true rfl⟩) hS (fun q _ h9 => nM_up hS q h9) (nM_up hS) (fun r_10 u t H1 locs ht _ hw hB _ hk1 hS => ?_)
  obtain ⟨p_11, p_12, -⟩ := hw
  have hP := my_keepM hP hk1
  generalize H1 = H at hP hS ⊢
  rcases p_12 with ⟨rfl, p_12⟩ | ⟨rfl, p_12⟩
  · skip
    refine lv_if_eq (tgt := 37) hx hb dX12_seated_16 (by decide) (fun c_13 => ?_) (fun c_13 => ?_)
    · skip
      refine lv_iconst (v := (-1)) hx hb dX12_seated_37 (by decide) ?_
      have z_14 : ((-1) : Int32).toInt = (-1) := by decide
      exact W.iret (v := (-1)) hx hb hr (fun t ht hW => ⟨⟨(-1), (fv_5, wd_6, ar_7), rfl, ⟨hF_fv_5, hA_ar_7, (fM_call (fM_put (fM_rf [0, 2, 8, 95] _) efv_1 (by decide)) fr_8 (by decide)), (fA_call (fA_rf [4, 90, 91, 92, 93, 94] _) fa_9 (by decide)), (show (fv_5 2).toInt = 0 from by rw [show fv_5 2 = (fv_5 2) from rfl]; omega), trivial⟩, ⟨by rw [ht]; exact hP, va_K.moved hW.alike hK⟩⟩, hS.F ht⟩) hS.2.2 dX12_seated_38
    · skip
      exact absurd c_13 (by decide)
  · skip
    have i_15 : 1 ≤ r_2.toInt ∧ r_2.toInt ≤ 340 := iv_le2 (⟨by decide, by decide⟩ : (1 : Int) ≤ (1 : Int32).toInt ∧ (1 : Int32).toInt ≤ 1) p_3 (Int32.le_iff_toInt_le.mpr p_12.1)
    have i_16 : 1 ≤ r_2.toInt ∧ r_2.toInt ≤ 5 := iv_le1 i_15 (⟨by decide, by decide⟩ : (5 : Int) ≤ (5 : Int32).toInt ∧ (5 : Int32).toInt ≤ 5) (Int32.le_iff_toInt_le.mpr p_12.2)
    refine lv_if_eq (tgt := 37) hx hb dX12_seated_16 (by decide) (fun c_17 => ?_) (fun c_17 => ?_)
    · skip
      exact absurd c_17 (by decide)
    · skip
      refine lv_iload_n hx hb dX12_seated_19 rfl (lv_at hl 2 rfl) ?_
      refine lv_iconst (v := 0) hx hb dX12_seated_20 (by decide) ?_
      refine lv_sipush (v := 200) hx hb dX12_seated_21 (by decide) ?_
      refine va_calli (va_runS (As := [.int mm, .int 0, .int 200]) (rest := []) ⟨hx, hb, hml, hown, hts⟩ (m_isIn l H.size mm 0 200) (va_cwS 3 hts (gS kw_7_218 kw_7_219 kw_1_15 kw_7_220) rfl rfl rfl (by decide +kernel) ⟨Nat.le_of_ble_eq_true rfl, Nat.le_of_ble_eq_true rfl⟩) ⟨fun a U g mk q => ⟨q.1, q.2⟩, fun U hU hW => ⟨rfl, congrArg Array.size hU⟩⟩ rfl rfl hl.1 rfl (lv_room (Nat.le_of_ble_eq_true rfl)) dX12_seated_24 ⟨Nat.le_of_ble_eq_true rfl, Nat.le_of_ble_eq_true rfl⟩) hS (fun q _ h9 => nM_up hS q h9) (nM_up hS) (fun r_18 u t H1 locs ht _ hw hB _ hk1 hS => ?_)
      obtain ⟨p_19, p_20, -⟩ := hw
      have hP := my_keepM hP hk1
      generalize H1 = H at hP hS ⊢
      rcases p_20 with ⟨rfl, p_20⟩ | ⟨rfl, p_20⟩
      · skip
        refine lv_if_eq (tgt := 37) hx hb dX12_seated_27 (by decide) (fun c_21 => ?_) (fun c_21 => ?_)
        · skip
          refine lv_iconst (v := (-1)) hx hb dX12_seated_37 (by decide) ?_
          have z_22 : ((-1) : Int32).toInt = (-1) := by decide
          exact W.iret (v := (-1)) hx hb hr (fun t ht hW => ⟨⟨(-1), (fv_5, wd_6, ar_7), rfl, ⟨hF_fv_5, hA_ar_7, (fM_call (fM_put (fM_rf [0, 2, 8, 95] _) efv_1 (by decide)) fr_8 (by decide)), (fA_call (fA_rf [4, 90, 91, 92, 93, 94] _) fa_9 (by decide)), (show (fv_5 2).toInt = 0 from by rw [show fv_5 2 = (fv_5 2) from rfl]; omega), trivial⟩, ⟨by rw [ht]; exact hP, va_K.moved hW.alike hK⟩⟩, hS.F ht⟩) hS.2.2 dX12_seated_38
        · skip
          exact absurd c_21 (by decide)
      · skip
        have i_23 : 0 ≤ mm.toInt ∧ mm.toInt ≤ 2147483647 := iv_le2 (⟨by decide, by decide⟩ : (0 : Int) ≤ (0 : Int32).toInt ∧ (0 : Int32).toInt ≤ 0) (iv_any mm) (Int32.le_iff_toInt_le.mpr p_20.1)
        have i_24 : 0 ≤ mm.toInt ∧ mm.toInt ≤ 200 := iv_le1 i_23 (⟨by decide, by decide⟩ : (200 : Int) ≤ (200 : Int32).toInt ∧ (200 : Int32).toInt ≤ 200) (Int32.le_iff_toInt_le.mpr p_20.2)
        refine lv_if_eq (tgt := 37) hx hb dX12_seated_27 (by decide) (fun c_25 => ?_) (fun c_25 => ?_)
        · skip
          exact absurd c_25 (by decide)
        · skip
          refine lv_aload_n hx hb dX12_seated_30 rfl (lv_at hl 1 rfl) ?_
          refine gM_33 hx hb htg hown hK hP dX12_seated_31 ?_
          refine my_ti (y := fv 33) ((fr_8 33 rfl).trans ((congrFun efv_1 33))) ?_
          have i_26 : 0 ≤ (fv 33).toInt ∧ (fv 33).toInt ≤ 8 := hF_fv 33
          refine lv_if_ne (tgt := 39) hx hb dX12_seated_34 (by decide) (fun c_27 => ?_) (fun c_27 => ?_)
          · skip
            have i_28 : 1 ≤ (fv 33).toInt ∧ (fv 33).toInt ≤ 8 := iv_nel i_26 (by decide) c_27
            have k_29 : ¬ (fv 33).toInt = 0 := fun q => c_27 (Int32.toInt_inj.mp q)
            refine lv_iconst (v := 0) hx hb dX12_seated_39 (by decide) ?_
            refine lv_istore_n (lv' := [(3, .int 0), (2, .int r_2), (0, .ref h), (1, .int mm)]) hx hb dX12_seated_40 rfl hl (by decide) rfl (fun ls hl => ?_)
            refine lv_iconst (v := 0) hx hb dX12_seated_41 (by decide) ?_
            refine lv_istore (lv' := [(4, .int 0), (3, .int 0), (2, .int r_2), (0, .ref h), (1, .int mm)]) hx hb dX12_seated_42 hl (by decide) rfl (fun ls hl => ?_)
            refine my_cut (P := fun R9 a9 Q9 => ∀ (n_38 : Nat) (x_30 : Int32) (x_31 : Int32) (fv_32 : Nat → Int32) (ar_34 : Nat → Nat → Int32) (wd_36 : Int64) (H : Heap) (locs : List Loc) (ls : Array Slot), 5 - x_31.toInt < (n_38 : Int) → (0 ≤ x_31.toInt ∧ x_31.toInt ≤ 5) → rF fv_32 → fM [] fv_5 fv_32 → rA ar_34 → fA [] ar_7 ar_34 → (∀ j : Nat, (j : Int) < x_31.toInt → (ar 1 j).toInt ≤ 19) → va_P (dC, dI) vwCl (wsM h ad cA fv_32 wd_36 ar_34) H → va_S (aM h ad s.heap.size) s.heap H locs → lv_has ls 9 [(0, .ref h), (1, .int mm), (2, .int r_2), (3, .int x_30), (4, .int x_31)] → W p l e R9 s m a9 below meth c H locs 0 0 Q9 (F0 m 44 ls [])) ?_ (fun hj_40 => ?_)
            · intro n_38
              induction n_38 with
              | zero => intro x_30 x_31 fv_32 ar_34 wd_36 H locs ls fu_39 i_x_31 hF_fv_32 fr_33 hA_ar_34 fa_35 q_37; exfalso; omega
              | succ n_38 ih_38 =>
                intro x_30 x_31 fv_32 ar_34 wd_36 H locs ls fu_39 i_x_31 hF_fv_32 fr_33 hA_ar_34 fa_35 q_37 hP hS hl
                refine lv_iload hx hb dX12_seated_44 (lv_at hl 4 rfl) ?_
                refine lv_iload_n hx hb dX12_seated_46 rfl (lv_at hl 2 rfl) ?_
                refine lv_icmp_ge (tgt := 99) hx hb dX12_seated_47 (by decide) (fun c_41 => ?_) (fun c_41 => ?_)
                · skip
                  have i_42 : 1 ≤ x_31.toInt ∧ x_31.toInt ≤ 5 := iv_le2 i_16 i_x_31 c_41
                  have k_43 := Int32.le_iff_toInt_le.mp c_41
                  have hT : ∀ j : Nat, (j : Int) < r_2.toInt → (ar 1 j).toInt ≤ 19 := fun j hj => q_37 j (by omega)
                  have z33 : (1 : Int) ≤ (fv 33).toInt ∧ (fv 33).toInt ≤ 8 := i_28
                  refine lv_iconst (v := 0) hx hb dX12_seated_99 (by decide) ?_
                  refine lv_istore (lv' := [(4, .int 0), (0, .ref h), (1, .int mm), (2, .int r_2), (3, .int x_30)]) hx hb dX12_seated_100 hl (by decide) rfl (fun ls hl => ?_)
                  refine my_cut (P := fun R9 a9 Q9 => ∀ (n_50 : Nat) (x_44 : Int32) (fv_45 : Nat → Int32) (ar_47 : Nat → Nat → Int32) (wd_49 : Int64) (H : Heap) (locs : List Loc) (ls : Array Slot), 40 - x_44.toInt < (n_50 : Int) → (0 ≤ x_44.toInt ∧ x_44.toInt ≤ 40) → rF fv_45 → fM [8] fv_32 fv_45 → rA ar_47 → fA [4, 90] ar_34 ar_47 → va_P (dC, dI) vwCl (wsM h ad cA fv_45 wd_49 ar_47) H → va_S (aM h ad s.heap.size) s.heap H locs → lv_has ls 9 [(0, .ref h), (1, .int mm), (2, .int r_2), (4, .int x_44)] → W p l e R9 s m a9 below meth c H locs 0 0 Q9 (F0 m 102 ls [])) ?_ (fun hj_52 => ?_)
                  · intro n_50
                    induction n_50 with
                    | zero => intro x_44 fv_45 ar_47 wd_49 H locs ls fu_51 i_x_44 hF_fv_45 fr_46 hA_ar_47 fa_48; exfalso; omega
                    | succ n_50 ih_50 =>
                      intro x_44 fv_45 ar_47 wd_49 H locs ls fu_51 i_x_44 hF_fv_45 fr_46 hA_ar_47 fa_48 hP hS hl
                      refine lv_iload hx hb dX12_seated_102 (lv_at hl 3 rfl) ?_
                      refine lv_aload_n hx hb dX12_seated_104 rfl (lv_at hl 0 rfl) ?_
                      refine gM_32 hx hb htg hown hK hP dX12_seated_105 ?_
                      refine my_ti (y := fv 32) ((fr_46 32 rfl).trans ((fr_33 32 rfl).trans ((fr_8 32 rfl).trans ((congrFun efv_1 32))))) ?_
                      have i_53 : 0 ≤ (fv 32).toInt ∧ (fv 32).toInt ≤ 40 := hF_fv 32
                      refine lv_icmp_ge (tgt := 204) hx hb dX12_seated_108 (by decide) (fun c_54 => ?_) (fun c_54 => ?_)
                      · skip
                        have k_55 := Int32.le_iff_toInt_le.mp c_54
                        refine lv_iconst (v := 0) hx hb dX12_seated_204 (by decide) ?_
                        refine lv_istore (lv' := [(4, .int 0), (0, .ref h), (1, .int mm), (2, .int r_2)]) hx hb dX12_seated_205 hl (by decide) rfl (fun ls hl => ?_)
                        refine my_cut (P := fun R9 a9 Q9 => ∀ (n_121 : Nat) (x_118 : Int32) (ar_119 : Nat → Nat → Int32) (H : Heap) (locs : List Loc) (ls : Array Slot), 256 - x_118.toInt < (n_121 : Int) → (0 ≤ x_118.toInt ∧ x_118.toInt ≤ 256) → rA ar_119 → fA [94] ar_47 ar_119 → va_P (dC, dI) vwCl (wsM h ad cA fv_45 wd_49 ar_119) H → va_S (aM h ad s.heap.size) s.heap H locs → lv_has ls 9 [(0, .ref h), (2, .int r_2), (4, .int x_118)] → W p l e R9 s m a9 below meth c H locs 0 0 Q9 (F0 m 207 ls [])) ?_ (fun hj_123 => ?_)
                        · intro n_121
                          induction n_121 with
                          | zero => intro x_118 ar_119 H locs ls fu_122 i_x_118 hA_ar_119 fa_120; exfalso; omega
                          | succ n_121 ih_121 =>
                            intro x_118 ar_119 H locs ls fu_122 i_x_118 hA_ar_119 fa_120 hP hS hl
                            refine lv_iload hx hb dX12_seated_207 (lv_at hl 2 rfl) ?_
                            refine lv_iconst (v := 1) hx hb dX12_seated_209 (by decide) ?_
                            refine lv_aload_n hx hb dX12_seated_210 rfl (lv_at hl 0 rfl) ?_
                            refine gM_33 hx hb htg hown hK hP dX12_seated_211 ?_
                            refine my_ti (y := fv 33) ((fr_46 33 rfl).trans ((fr_33 33 rfl).trans ((fr_8 33 rfl).trans ((congrFun efv_1 33))))) ?_
                            refine lv_ishl hx hb dX12_seated_214 ?_
                            refine lv_topi (fun v_124 ev_124 => ?_)
                            have i_125 : 1 ≤ v_124.toInt ∧ v_124.toInt ≤ 256 := iv_shl (k := 8) ev_124 (iv_w i_28 (by decide) (by decide)) rfl (by decide)
                            refine lv_icmp_ge (tgt := 276) hx hb dX12_seated_215 (by decide) (fun c_126 => ?_) (fun c_126 => ?_)
                            · skip
                              have i_127 : 1 ≤ x_118.toInt ∧ x_118.toInt ≤ 256 := iv_le2 i_125 i_x_118 c_126
                              have k_128 := Int32.le_iff_toInt_le.mp c_126
                              refine lv_iconst (v := 0) hx hb dX12_seated_276 (by decide) ?_
                              refine lv_istore (lv' := [(4, .int 0), (0, .ref h), (2, .int r_2)]) hx hb dX12_seated_277 hl (by decide) rfl (fun ls hl => ?_)
                              refine my_cut (P := fun R9 a9 Q9 => ∀ (n_166 : Nat) (x_163 : Int32) (ar_164 : Nat → Nat → Int32) (H : Heap) (locs : List Loc) (ls : Array Slot), 8 - x_163.toInt < (n_166 : Int) → (0 ≤ x_163.toInt ∧ x_163.toInt ≤ 8) → rA ar_164 → fA [93] ar_119 ar_164 → va_P (dC, dI) vwCl (wsM h ad cA fv_45 wd_49 ar_164) H → va_S (aM h ad s.heap.size) s.heap H locs → lv_has ls 9 [(0, .ref h), (2, .int r_2), (4, .int x_163)] → W p l e R9 s m a9 below meth c H locs 0 0 Q9 (F0 m 279 ls [])) ?_ (fun hj_168 => ?_)
                              · intro n_166
                                induction n_166 with
                                | zero => intro x_163 ar_164 H locs ls fu_167 i_x_163 hA_ar_164 fa_165; exfalso; omega
                                | succ n_166 ih_166 =>
                                  intro x_163 ar_164 H locs ls fu_167 i_x_163 hA_ar_164 fa_165 hP hS hl
                                  refine lv_iload hx hb dX12_seated_279 (lv_at hl 2 rfl) ?_
                                  refine lv_aload_n hx hb dX12_seated_281 rfl (lv_at hl 0 rfl) ?_
                                  refine gM_33 hx hb htg hown hK hP dX12_seated_282 ?_
                                  refine my_ti (y := fv 33) ((fr_46 33 rfl).trans ((fr_33 33 rfl).trans ((fr_8 33 rfl).trans ((congrFun efv_1 33))))) ?_
                                  refine lv_icmp_ge (tgt := 302) hx hb dX12_seated_285 (by decide) (fun c_169 => ?_) (fun c_169 => ?_)
                                  · skip
                                    have i_170 : 1 ≤ x_163.toInt ∧ x_163.toInt ≤ 8 := iv_le2 i_28 i_x_163 c_169
                                    have k_171 := Int32.le_iff_toInt_le.mp c_169
                                    refine lv_iconst (v := 0) hx hb dX12_seated_302 (by decide) ?_
                                    refine lv_istore (lv' := [(4, .int 0), (0, .ref h), (2, .int r_2)]) hx hb dX12_seated_303 hl (by decide) rfl (fun ls hl => ?_)
                                    refine my_cut (P := fun R9 a9 Q9 => ∀ (n_182 : Nat) (x_178 : Int32) (ar_179 : Nat → Nat → Int32) (H : Heap) (locs : List Loc) (ls : Array Slot), 5 - x_178.toInt < (n_182 : Int) → (0 ≤ x_178.toInt ∧ x_178.toInt ≤ 5) → rA ar_179 → fA [91, 93] ar_164 ar_179 → (∀ j : Nat, (j : Int) < x_178.toInt → (ar_179 91 j).toInt ≤ (fv 33).toInt - 1) → va_P (dC, dI) vwCl (wsM h ad cA fv_45 wd_49 ar_179) H → va_S (aM h ad s.heap.size) s.heap H locs → lv_has ls 9 [(0, .ref h), (2, .int r_2), (4, .int x_178)] → W p l e R9 s m a9 below meth c H locs 0 0 Q9 (F0 m 305 ls [])) ?_ (fun hj_184 => ?_)
                                    · intro n_182
                                      induction n_182 with
                                      | zero => intro x_178 ar_179 H locs ls fu_183 i_x_178 hA_ar_179 fa_180 q_181; exfalso; omega
                                      | succ n_182 ih_182 =>
                                        intro x_178 ar_179 H locs ls fu_183 i_x_178 hA_ar_179 fa_180 q_181 hP hS hl
                                        refine lv_iload hx hb dX12_seated_305 (lv_at hl 2 rfl) ?_
                                        refine lv_iload_n hx hb dX12_seated_307 rfl (lv_at hl 1 rfl) ?_
                                        refine lv_icmp_ge (tgt := 346) hx hb dX12_seated_308 (by decide) (fun c_185 => ?_) (fun c_185 => ?_)
                                        · skip
                                          have i_186 : 1 ≤ x_178.toInt ∧ x_178.toInt ≤ 5 := iv_le2 i_16 i_x_178 c_185
                                          have k_187 := Int32.le_iff_toInt_le.mp c_185
                                          refine lv_aload_n hx hb dX12_seated_346 rfl (lv_at hl 0 rfl) ?_
                                          refine gM_93 hx hb htg hown hK hP dX12_seated_347 ?_
                                          refine lv_iconst (v := 0) hx hb dX12_seated_350 (by decide) ?_
                                          refine lM_93 hx hb hK hP (iv_in (⟨by decide, by decide⟩ : (0 : Int) ≤ (0 : Int32).toInt ∧ (0 : Int32).toInt ≤ 0) (by decide) (by decide)) dX12_seated_351 (fun v_201 ev_201 => ?_)
                                          refine lv_istore (lv' := [(4, .int v_201), (0, .ref h), (2, .int r_2)]) hx hb dX12_seated_352 hl (by decide) rfl (fun ls hl => ?_)
                                          refine lv_iconst (v := (-1)) hx hb dX12_seated_354 (by decide) ?_
                                          refine lv_istore (lv' := [(5, .int (-1)), (4, .int v_201), (0, .ref h), (2, .int r_2)]) hx hb dX12_seated_355 hl (by decide) rfl (fun ls hl => ?_)
                                          refine lv_iconst (v := 1) hx hb dX12_seated_357 (by decide) ?_
                                          have v8b := V8_b (fun i => hA_ar_179 91 i)
                                          refine lv_istore (lv' := [(6, .int 1), (5, .int (-1)), (4, .int v_201), (0, .ref h), (2, .int r_2)]) hx hb dX12_seated_358 hl (by decide) rfl (fun ls hl => ?_)
                                          refine my_cut (P := fun R9 a9 Q9 => ∀ (n_211 : Nat) (x_202 : Int32) (x_203 : Int32) (fv_204 : Nat → Int32) (ar_206 : Nat → Nat → Int32) (wd_208 : Int64) (H : Heap) (locs : List Loc) (ls : Array Slot), 32767 - V8 (ar_206 91) < (n_211 : Int) → ((-1) ≤ x_202.toInt ∧ x_202.toInt ≤ 2147483647) → (1 ≤ x_203.toInt ∧ x_203.toInt ≤ 1) → rF fv_204 → fM [] fv_45 fv_204 → rA ar_206 → fA [91, 92, 93] ar_179 ar_206 → (∀ j : Nat, (j : Int) < r_2.toInt → (ar_206 91 j).toInt ≤ (fv 33).toInt - 1) → (0 ≤ V8 (ar_206 91) ∧ V8 (ar_206 91) ≤ 32767) → va_P (dC, dI) vwCl (wsM h ad cA fv_204 wd_208 ar_206) H → va_S (aM h ad s.heap.size) s.heap H locs → lv_has ls 9 [(0, .ref h), (2, .int r_2), (4, .int v_201), (5, .int x_202), (6, .int x_203)] → W p l e R9 s m a9 below meth c H locs 0 0 Q9 (F0 m 360 ls [])) ?_ (fun hj_213 => ?_)
                                          · intro n_211
                                            induction n_211 with
                                            | zero => intro x_202 x_203 fv_204 ar_206 wd_208 H locs ls fu_212 i_x_202 i_x_203 hF_fv_204 fr_205 hA_ar_206 fa_207 q_209 q_210; exfalso; omega
                                            | succ n_211 ih_211 =>
                                              intro x_202 x_203 fv_204 ar_206 wd_208 H locs ls fu_212 i_x_202 i_x_203 hF_fv_204 fr_205 hA_ar_206 fa_207 q_209 q_210 hP hS hl
                                              refine lv_iload hx hb dX12_seated_360 (lv_at hl 4 rfl) ?_
                                              refine lv_if_eq (tgt := 607) hx hb dX12_seated_362 (by decide) (fun c_214 => ?_) (fun c_214 => ?_)
                                              · skip
                                                exact absurd True.intro (by have h7 := i_x_203; have h8 := (⟨by decide, by decide⟩ : (0 : Int) ≤ (0 : Int32).toInt ∧ (0 : Int32).toInt ≤ 0); have h9 := congrArg Int32.toInt c_214; exfalso; omega)
                                              · skip
                                                have k_215 : ¬ x_203.toInt = 0 := fun q => c_214 (Int32.toInt_inj.mp q)
                                                refine lv_aload_n hx hb dX12_seated_365 rfl (lv_at hl 0 rfl) ?_
                                                refine va_calli (va_runV (As := []) (rest := []) ⟨hx, hb, hml, hown, hts⟩ (m_mostSeated l dC dI H.size h ad cA hd fv_204 wd_208 ar_206 hF_fv_204 hA_ar_206) (cwV 0 hts (gV kw_9_24 kw_9_26 kw_p_101 kw_1_15 kw_9_27) rfl rfl rfl (by decide +kernel) ⟨Nat.le_of_ble_eq_true rfl, Nat.le_of_ble_eq_true rfl⟩) ⟨fun a U g mk q => ⟨q.1, q.2.1, q.2.2.1, va_K.moved (u := U) (U := U.calling g mk a) (Vm.Alike.refl U.vm) q.2.2.2⟩, va_recv hK hP (ci := 12) (q0 := 0) rfl rfl, fun U hU hW => ⟨rfl, by rw [hU], by rw [hU]; exact hP, va_K.moved hW.alike hK⟩⟩ rfl rfl hl.1 rfl (lv_room (Nat.le_of_ble_eq_true rfl)) dX12_seated_366 ⟨Nat.le_of_ble_eq_true rfl, Nat.le_of_ble_eq_true rfl⟩) hS (fun q _ h9 => aM_up hS q h9) (aM_up hS) (fun r_216 u t H1 locs ht _ hw hB _ hk1 hS => ?_)
                                                obtain ⟨fv_217, wd_218, ar_219⟩ := u
                                                obtain ⟨hF_fv_217, hA_ar_219, fr_220, fa_221, -⟩ := hw
                                                have hP : va_P (dC, dI) vwCl (wsM h ad cA fv_217 wd_218 ar_219) H1 := by have h9 := hB.1; rw [ht] at h9; exact h9
                                                have fr_220 : fM [] fv_204 fv_217 := fr_220
                                                have fa_221 : fA [] ar_206 ar_219 := fa_221
                                                generalize H1 = H at hP hS ⊢
                                                refine lv_istore (lv' := [(7, .int r_216), (0, .ref h), (2, .int r_2), (4, .int v_201), (5, .int x_202), (6, .int x_203)]) hx hb dX12_seated_369 hl (by decide) rfl (fun ls hl => ?_)
                                                refine lv_iload hx hb dX12_seated_371 (lv_at hl 0 rfl) ?_
                                                refine lv_iload hx hb dX12_seated_373 (lv_at hl 4 rfl) ?_
                                                refine my_cut (P := fun R9 a9 Q9 => ∀ (x_245 : Int32) (ar_246 : Nat → Nat → Int32) (H : Heap) (locs : List Loc) (ls : Array Slot), ((-1) ≤ x_245.toInt ∧ x_245.toInt ≤ 2147483647) → rA ar_246 → fA [92] ar_219 ar_246 → va_P (dC, dI) vwCl (wsM h ad cA fv_217 wd_218 ar_246) H → va_S (aM h ad s.heap.size) s.heap H locs → lv_has ls 9 [(0, .ref h), (2, .int r_2), (4, .int v_201), (5, .int x_245)] → W p l e R9 s m a9 below meth c H locs 0 0 Q9 (F0 m 411 ls [])) ?_ (fun hj_248 => ?_)
                                                · intro x_245 ar_246 H locs ls i_x_245 hA_ar_246 fa_247 hP hS hl
                                                  refine lv_iload hx hb dX12_seated_411 (lv_at hl 3 rfl) ?_
                                                  refine lv_aload_n hx hb dX12_seated_413 rfl (lv_at hl 0 rfl) ?_
                                                  refine gM_94 hx hb htg hown hK hP dX12_seated_414 ?_
                                                  refine lv_iconst (v := 0) hx hb dX12_seated_417 (by decide) ?_
                                                  refine lM_94 hx hb hK hP (iv_in (⟨by decide, by decide⟩ : (0 : Int) ≤ (0 : Int32).toInt ∧ (0 : Int32).toInt ≤ 0) (by decide) (by decide)) dX12_seated_418 (fun v_249 ev_249 => ?_)
                                                  refine lv_icmp_eq (tgt := 607) hx hb dX12_seated_419 (by decide) (fun c_250 => ?_) (fun c_250 => ?_)
                                                  · skip
                                                    have i_251 : (-1) ≤ v_249.toInt ∧ v_249.toInt ≤ 2147483647 := iv_eq1 i_x_245 c_250.symm
                                                    have k_252 := congrArg Int32.toInt c_250
                                                    refine lv_aload_n hx hb dX12_seated_607 rfl (lv_at hl 0 rfl) ?_
                                                    refine lv_iload_n hx hb dX12_seated_608 rfl (lv_at hl 1 rfl) ?_
                                                    refine pM_95 hx hb htg hown hK hP hS hd dX12_seated_609 (fun H locs fv_253 efv_253 hP hS => ?_)
                                                    have hF_fv_253 : rF fv_253 := rF_put hF_fv_217 efv_253 (iv_w i_16 (by decide) (by decide))
                                                    refine lv_iload hx hb dX12_seated_612 (lv_at hl 3 rfl) ?_
                                                    exact W.iret (v := x_245) hx hb hr (fun t ht hW => ⟨⟨x_245, (fv_253, wd_218, ar_246), rfl, ⟨hF_fv_253, hA_ar_246, (fM_put (fM_call (fM_call (fM_call (fM_call (fM_call (fM_put (fM_rf [0, 2, 8, 95] _) efv_1 (by decide)) fr_8 (by decide)) fr_33 (by decide)) fr_46 (by decide)) fr_205 (by decide)) fr_220 (by decide)) efv_253 (by decide)), (fA_call (fA_call (fA_call (fA_call (fA_call (fA_call (fA_call (fA_call (fA_call (fA_rf [4, 90, 91, 92, 93, 94] _) fa_9 (by decide)) fa_35 (by decide)) fa_48 (by decide)) fa_120 (by decide)) fa_165 (by decide)) fa_180 (by decide)) fa_207 (by decide)) fa_221 (by decide)) fa_247 (by decide)), (show (fv_253 2).toInt = 0 from by rw [show fv_253 2 = (fv_5 2) from (congrFun efv_253 2).trans ((fr_220 2 rfl).trans ((fr_205 2 rfl).trans ((fr_46 2 rfl).trans ((fr_33 2 rfl)))))]; omega), trivial⟩, ⟨by rw [ht]; exact hP, va_K.moved hW.alike hK⟩⟩, hS.F ht⟩) hS.2.2 dX12_seated_614
                                                  · skip
                                                    have k_254 : ¬ x_245.toInt = v_249.toInt := fun q => c_250 (Int32.toInt_inj.mp q)
                                                    refine lv_iload hx hb dX12_seated_422 (lv_at hl 3 rfl) ?_
                                                    refine lv_iload hx hb dX12_seated_424 (lv_at hl 2 rfl) ?_
                                                    refine lv_icmp_ne (tgt := 432) hx hb dX12_seated_426 (by decide) (fun c_255 => ?_) (fun c_255 => ?_)
                                                    · skip
                                                      have k_256 : ¬ x_245.toInt = v_201.toInt := fun q => c_255 (Int32.toInt_inj.mp q)
                                                      refine lv_iload_n hx hb dX12_seated_432 rfl (lv_at hl 1 rfl) ?_
                                                      refine lv_iconst (v := 1) hx hb dX12_seated_433 (by decide) ?_
                                                      refine lv_isub hx hb dX12_seated_434 ?_
                                                      refine lv_topi (fun v_257 ev_257 => ?_)
                                                      have t_258 : v_257.toInt = r_2.toInt - 1 ∧ 0 ≤ v_257.toInt ∧ v_257.toInt ≤ 4 := iv_subc ev_257 i_16 (by decide) (by decide) (by decide)
                                                      refine lv_istore (lv' := [(8, .int v_257), (0, .ref h), (2, .int r_2), (4, .int v_201), (5, .int x_245)]) hx hb dX12_seated_435 hl (by decide) rfl (fun ls hl => ?_)
                                                      refine my_cut (P := fun R9 a9 Q9 => ∀ (n_266 : Nat) (x_260 : Int32) (ar_261 : Nat → Nat → Int32) (H : Heap) (locs : List Loc) (ls : Array Slot), x_260.toInt - (-1) < (n_266 : Int) → ((-1) ≤ x_260.toInt ∧ x_260.toInt ≤ 4) → rA ar_261 → fA [91, 93] ar_246 ar_261 → (x_260.toInt < r_2.toInt) → (V8 (ar_206 91) ≤ V8 (ar_261 91) + w8 x_260.toInt - 1) → (∀ j : Nat, (j : Int) < r_2.toInt → (ar_261 91 j).toInt ≤ (fv 33).toInt - 1) → va_P (dC, dI) vwCl (wsM h ad cA fv_217 wd_218 ar_261) H → va_S (aM h ad s.heap.size) s.heap H locs → lv_has ls 9 [(0, .ref h), (2, .int r_2), (4, .int v_201), (5, .int x_245), (8, .int x_260)] → W p l e R9 s m a9 below meth c H locs 0 0 Q9 (F0 m 437 ls [])) ?_ (fun hj_268 => ?_)
                                                      · intro n_266
                                                        induction n_266 with
                                                        | zero => intro x_260 ar_261 H locs ls fu_267 i_x_260 hA_ar_261 fa_262 q_263 q_264 q_265; exfalso; omega
                                                        | succ n_266 ih_266 =>
                                                          intro x_260 ar_261 H locs ls fu_267 i_x_260 hA_ar_261 fa_262 q_263 q_264 q_265 hP hS hl
                                                          have w_269 := w8_p (k := x_260.toInt) (by omega)
                                                          refine lv_iload hx hb dX12_seated_437 (lv_at hl 4 rfl) ?_
                                                          refine my_cut (P := fun R9 a9 Q9 => ∀  (H : Heap) (locs : List Loc) (ls : Array Slot), (x_260.toInt < 0 ∨ (ar_261 91 x_260.toInt.toNat).toInt ≤ (fv 33).toInt - 2) → va_P (dC, dI) vwCl (wsM h ad cA fv_217 wd_218 ar_261) H → va_S (aM h ad s.heap.size) s.heap H locs → lv_has ls 9 [(0, .ref h), (2, .int r_2), (4, .int v_201), (5, .int x_245), (8, .int x_260)] → W p l e R9 s m a9 below meth c H locs 0 0 Q9 (F0 m 519 ls [])) ?_ (fun hj_298 => ?_)
                                                          · intro  H locs ls q_297 hP hS hl
                                                            refine lv_iload hx hb dX12_seated_519 (lv_at hl 4 rfl) ?_
                                                            refine my_cut (P := fun R9 a9 Q9 => ∀ (x_302 : Int32) (H : Heap) (locs : List Loc) (ls : Array Slot), (0 ≤ x_302.toInt ∧ x_302.toInt ≤ 1) → (x_302.toInt = 0 ∨ 0 ≤ x_260.toInt) → va_P (dC, dI) vwCl (wsM h ad cA fv_217 wd_218 ar_261) H → va_S (aM h ad s.heap.size) s.heap H locs → lv_has ls 9 [(0, .ref h), (2, .int r_2), (4, .int v_201), (5, .int x_245), (8, .int x_260)] → W p l e R9 s m a9 below meth c H locs 0 0 Q9 (F0 m 529 ls [.int x_302])) ?_ (fun hj_304 => ?_)
                                                            · intro x_302 H locs ls i_x_302 q_303 hP hS hl
                                                              refine lv_istore (lv' := [(6, .int x_302), (0, .ref h), (2, .int r_2), (4, .int v_201), (5, .int x_245), (8, .int x_260)]) hx hb dX12_seated_529 hl (by decide) rfl (fun ls hl => ?_)
                                                              refine lv_iload hx hb dX12_seated_531 (lv_at hl 0 rfl) ?_
                                                              refine lv_if_ne (tgt := 539) hx hb dX12_seated_533 (by decide) (fun c_305 => ?_) (fun c_305 => ?_)
                                                              · skip
                                                                have i_306 : 1 ≤ x_302.toInt ∧ x_302.toInt ≤ 1 := iv_nel i_x_302 (by decide) c_305
                                                                have k_307 : ¬ x_302.toInt = 0 := fun q => c_305 (Int32.toInt_inj.mp q)
                                                                have i_308 : 0 ≤ x_260.toInt ∧ x_260.toInt ≤ 4 := (by omega)
                                                                refine lv_aload_n hx hb dX12_seated_539 rfl (lv_at hl 1 rfl) ?_
                                                                refine gM_93 hx hb htg hown hK hP dX12_seated_540 ?_
                                                                refine lv_aload_n hx hb dX12_seated_543 rfl (lv_at hl 1 rfl) ?_
                                                                refine gM_91 hx hb htg hown hK hP dX12_seated_544 ?_
                                                                refine lv_iload hx hb dX12_seated_547 (lv_at hl 5 rfl) ?_
                                                                refine lM_91 hx hb hK hP (iv_in i_308 (by decide) (by decide)) dX12_seated_549 (fun v_309 ev_309 => ?_)
                                                                have i_310 : 0 ≤ v_309.toInt ∧ v_309.toInt ≤ 7 := ev_309 ▸ hA_ar_261 91 _
                                                                have i_311 : 0 ≤ v_309.toInt ∧ v_309.toInt ≤ 6 := ⟨(i_310).1, by have h8 : (ar_261 91 x_260.toInt.toNat).toInt = v_309.toInt := congrArg Int32.toInt ev_309.symm; omega⟩
                                                                have h549 : v_309.toInt ≤ (fv 33).toInt - 2 := by have h8 : (ar_261 91 x_260.toInt.toNat).toInt = v_309.toInt := congrArg Int32.toInt ev_309.symm; omega
                                                                refine lv_dup2_11 hx hb dX12_seated_550 rfl rfl ?_
                                                                refine lM_93 hx hb hK hP (iv_in i_311 (by decide) (by decide)) dX12_seated_551 (fun v_312 ev_312 => ?_)
                                                                refine lv_aload_n hx hb dX12_seated_552 rfl (lv_at hl 1 rfl) ?_
                                                                refine gM_22 hx hb htg hown hK hP dX12_seated_553 ?_
                                                                refine lv_aload_n hx hb dX12_seated_556 rfl (lv_at hl 1 rfl) ?_
                                                                refine gM_1 hx hb htg hown hK hP dX12_seated_557 ?_
                                                                refine lv_iload hx hb dX12_seated_560 (lv_at hl 5 rfl) ?_
                                                                refine lM_1 hx hb hK hP (iv_in i_308 (by decide) (by decide)) dX12_seated_562 (fun v_313 ev_313 => ?_)
                                                                have i_314 : 0 ≤ v_313.toInt ∧ v_313.toInt ≤ 255 := ev_313 ▸ hA_ar_261 1 _
                                                                have i_315 : 0 ≤ v_313.toInt ∧ v_313.toInt ≤ 19 := ⟨(i_314).1, by rw [ev_313, ((fA_call (fA_call (fA_call (fA_call (fA_call (fA_call (fA_call (fA_call (fA_call (fA_call (fA_rf [4, 90, 91, 92, 93, 94] _) fa_9 (by decide)) fa_35 (by decide)) fa_48 (by decide)) fa_120 (by decide)) fa_165 (by decide)) fa_180 (by decide)) fa_207 (by decide)) fa_221 (by decide)) fa_247 (by decide)) fa_262 (by decide)) 1 rfl)]; exact hT _ (by show ((x_260.toInt.toNat : Nat) : Int) < _; omega)⟩
                                                                refine lM_22 hx hb hK hP (iv_in i_315 (by decide) (by decide)) dX12_seated_563 (fun v_316 ev_316 => ?_)
                                                                refine lv_isub hx hb dX12_seated_564 ?_
                                                                refine lv_topi (fun v_317 ev_317 => ?_)
                                                                refine sM_93 hx hb hK hP hS hd (iv_in i_311 (by decide) (by decide)) dX12_seated_565 (fun H locs ar_318 ear_318 hP hS => ?_)
                                                                have hA_ar_318 : rA ar_318 := rA_put hA_ar_261 ear_318 (iv_any _)
                                                                refine lv_aload_n hx hb dX12_seated_566 rfl (lv_at hl 1 rfl) ?_
                                                                refine gM_91 hx hb htg hown hK hP dX12_seated_567 ?_
                                                                refine lv_iload hx hb dX12_seated_570 (lv_at hl 5 rfl) ?_
                                                                refine lv_dup2_11 hx hb dX12_seated_572 rfl rfl ?_
                                                                refine lM_91 hx hb hK hP (iv_in i_308 (by decide) (by decide)) dX12_seated_573 (fun v_319 ev_319 => ?_)
                                                                obtain rfl : v_309 = v_319 := ev_309.trans ((congrFun ((fA_put (fA_rf [93] _) ear_318 (by decide)) 91 rfl) _).symm.trans ev_319.symm)
                                                                refine lv_iconst (v := 1) hx hb dX12_seated_574 (by decide) ?_
                                                                refine lv_iadd hx hb dX12_seated_575 ?_
                                                                refine lv_topi (fun v_320 ev_320 => ?_)
                                                                have t_321 : v_320.toInt = v_309.toInt + 1 ∧ 1 ≤ v_320.toInt ∧ v_320.toInt ≤ 7 := iv_addc ev_320 i_311 (by decide) (by decide) (by decide)
                                                                refine sM_91 hx hb hK hP hS hd (iv_in i_308 (by decide) (by decide)) dX12_seated_576 (fun H locs ar_323 ear_323 hP hS => ?_)
                                                                have hA_ar_323 : rA ar_323 := rA_put hA_ar_318 ear_323 (iv_w t_321.2 (by decide) (by decide))
                                                                refine lv_aload_n hx hb dX12_seated_577 rfl (lv_at hl 1 rfl) ?_
                                                                refine gM_93 hx hb htg hown hK hP dX12_seated_578 ?_
                                                                refine lv_aload_n hx hb dX12_seated_581 rfl (lv_at hl 1 rfl) ?_
                                                                refine gM_91 hx hb htg hown hK hP dX12_seated_582 ?_
                                                                refine lv_iload hx hb dX12_seated_585 (lv_at hl 5 rfl) ?_
                                                                refine lM_91 hx hb hK hP (iv_in i_308 (by decide) (by decide)) dX12_seated_587 (fun v_324 ev_324 => ?_)
                                                                have i_325 : 0 ≤ v_324.toInt ∧ v_324.toInt ≤ 7 := ev_324 ▸ hA_ar_323 91 _
                                                                refine lv_dup2_11 hx hb dX12_seated_588 rfl rfl ?_
                                                                refine lM_93 hx hb hK hP (iv_in i_325 (by decide) (by decide)) dX12_seated_589 (fun v_326 ev_326 => ?_)
                                                                refine lv_aload_n hx hb dX12_seated_590 rfl (lv_at hl 1 rfl) ?_
                                                                refine gM_22 hx hb htg hown hK hP dX12_seated_591 ?_
                                                                refine lv_aload_n hx hb dX12_seated_594 rfl (lv_at hl 1 rfl) ?_
                                                                refine gM_1 hx hb htg hown hK hP dX12_seated_595 ?_
                                                                refine lv_iload hx hb dX12_seated_598 (lv_at hl 5 rfl) ?_
                                                                refine lM_1 hx hb hK hP (iv_in i_308 (by decide) (by decide)) dX12_seated_600 (fun v_327 ev_327 => ?_)
                                                                obtain rfl : v_313 = v_327 := ev_313.trans ((congrFun ((fA_put (fA_put (fA_rf [91, 93] _) ear_318 (by decide)) ear_323 (by decide)) 1 rfl) _).symm.trans ev_327.symm)
                                                                refine lM_22 hx hb hK hP (iv_in i_315 (by decide) (by decide)) dX12_seated_601 (fun v_328 ev_328 => ?_)
                                                                obtain rfl : v_316 = v_328 := ev_316.trans ((congrFun ((fA_put (fA_put (fA_rf [91, 93] _) ear_318 (by decide)) ear_323 (by decide)) 22 rfl) _).symm.trans ev_328.symm)
                                                                refine lv_iadd hx hb dX12_seated_602 ?_
                                                                refine lv_topi (fun v_329 ev_329 => ?_)
                                                                refine sM_93 hx hb hK hP hS hd (iv_in i_325 (by decide) (by decide)) dX12_seated_603 (fun H locs ar_330 ear_330 hP hS => ?_)
                                                                have hA_ar_330 : rA ar_330 := rA_put hA_ar_323 ear_330 (iv_any _)
                                                                have g91 : ar_330 91 = upd (ar_261 91) (x_260.toInt.toNat) v_320 := by rw [((fA_put (fA_rf [93] _) ear_330 (by decide)) 91 rfl), ear_323]; show upd (ar_318 91) (x_260.toInt.toNat) _ = _; rw [((fA_put (fA_rf [93] _) ear_318 (by decide)) 91 rfl)]
                                                                have y9 := V8_i (k := x_260.toInt) (x := v_320) (by omega) g91 (by show _ = (ar_261 91 (Int32.toNatClampNeg x_260)).toInt + 1; rw [← ev_309]; omega)
                                                                have pz9 := pS_up (x := v_320) q_265 g91 (by omega)
                                                                refine lv_goto (tgt := 360) hx hb dX12_seated_604 (by decide) ?_
                                                                exact ih_211 x_245 x_302 fv_217 ar_330 wd_218 _ _ ls (by omega) i_x_245 i_306 hF_fv_217 (fM_call (fM_call (fM_rf [] _) fr_205 (by decide)) fr_220 (by decide)) hA_ar_330 (fA_put (fA_put (fA_put (fA_call (fA_call (fA_call (fA_call (fA_rf [91, 92, 93] _) fa_207 (by decide)) fa_221 (by decide)) fa_247 (by decide)) fa_262 (by decide)) ear_318 (by decide)) ear_323 (by decide)) ear_330 (by decide)) pz9 (V8_b (fun i => hA_ar_330 91 i)) hP hS (lv_sub hl [1, 2, 3, 4, 0] rfl)
                                                              · skip
                                                                have i_331 : 0 ≤ x_302.toInt ∧ x_302.toInt ≤ 0 := iv_eq1 (⟨by decide, by decide⟩ : (0 : Int) ≤ (0 : Int32).toInt ∧ (0 : Int32).toInt ≤ 0) c_305
                                                                refine lv_goto (tgt := 360) hx hb dX12_seated_536 (by decide) ?_
                                                                refine lv_iload hx hb dX12_seated_360 (lv_at hl 0 rfl) ?_
                                                                refine lv_if_eq (tgt := 607) hx hb dX12_seated_362 (by decide) (fun c_333 => ?_) (fun c_333 => ?_)
                                                                · skip
                                                                  refine lv_aload_n hx hb dX12_seated_607 rfl (lv_at hl 1 rfl) ?_
                                                                  refine lv_iload_n hx hb dX12_seated_608 rfl (lv_at hl 2 rfl) ?_
                                                                  refine pM_95 hx hb htg hown hK hP hS hd dX12_seated_609 (fun H locs fv_335 efv_335 hP hS => ?_)
                                                                  have hF_fv_335 : rF fv_335 := rF_put hF_fv_217 efv_335 (iv_w i_16 (by decide) (by decide))
                                                                  refine lv_iload hx hb dX12_seated_612 (lv_at hl 4 rfl) ?_
                                                                  exact W.iret (v := x_245) hx hb hr (fun t ht hW => ⟨⟨x_245, (fv_335, wd_218, ar_261), rfl, ⟨hF_fv_335, hA_ar_261, (fM_put (fM_call (fM_call (fM_call (fM_call (fM_call (fM_put (fM_rf [0, 2, 8, 95] _) efv_1 (by decide)) fr_8 (by decide)) fr_33 (by decide)) fr_46 (by decide)) fr_205 (by decide)) fr_220 (by decide)) efv_335 (by decide)), (fA_call (fA_call (fA_call (fA_call (fA_call (fA_call (fA_call (fA_call (fA_call (fA_call (fA_rf [4, 90, 91, 92, 93, 94] _) fa_9 (by decide)) fa_35 (by decide)) fa_48 (by decide)) fa_120 (by decide)) fa_165 (by decide)) fa_180 (by decide)) fa_207 (by decide)) fa_221 (by decide)) fa_247 (by decide)) fa_262 (by decide)), (show (fv_335 2).toInt = 0 from by rw [show fv_335 2 = (fv_5 2) from (congrFun efv_335 2).trans ((fr_220 2 rfl).trans ((fr_205 2 rfl).trans ((fr_46 2 rfl).trans ((fr_33 2 rfl)))))]; omega), trivial⟩, ⟨by rw [ht]; exact hP, va_K.moved hW.alike hK⟩⟩, hS.F ht⟩) hS.2.2 dX12_seated_614
                                                                · skip
                                                                  exact absurd True.intro (by have h7 := i_331; have h8 := (⟨by decide, by decide⟩ : (0 : Int) ≤ (0 : Int32).toInt ∧ (0 : Int32).toInt ≤ 0); have h9 : ¬ _ := fun q => c_333 (Int32.toInt_inj.mp q); exfalso; omega)
                                                            · skip
                                                              refine lv_if_lt (tgt := 528) hx hb dX12_seated_521 (by decide) (fun c_299 => ?_) (fun c_299 => ?_)
                                                              · skip
                                                                have i_300 : (-1) ≤ x_260.toInt ∧ x_260.toInt ≤ (-1) := iv_lt1 i_x_260 (⟨by decide, by decide⟩ : (0 : Int) ≤ (0 : Int32).toInt ∧ (0 : Int32).toInt ≤ 0) c_299
                                                                refine lv_iconst (v := 0) hx hb dX12_seated_528 (by decide) ?_
                                                                have z_336 : (0 : Int32).toInt = 0 := by decide
                                                                exact hj_304 0 _ _ ls (iv_w (⟨by decide, by decide⟩ : (0 : Int) ≤ (0 : Int32).toInt ∧ (0 : Int32).toInt ≤ 0) (by decide) (by decide)) (by omega) hP hS (lv_sub hl [0, 1, 2, 3, 4] rfl)
                                                              · skip
                                                                have i_301 : 0 ≤ x_260.toInt ∧ x_260.toInt ≤ 4 := iv_le2 (⟨by decide, by decide⟩ : (0 : Int) ≤ (0 : Int32).toInt ∧ (0 : Int32).toInt ≤ 0) i_x_260 (Int32.not_lt.mp c_299)
                                                                refine lv_iconst (v := 1) hx hb dX12_seated_524 (by decide) ?_
                                                                refine lv_goto (tgt := 529) hx hb dX12_seated_525 (by decide) ?_
                                                                have z_337 : (1 : Int32).toInt = 1 := by decide
                                                                exact hj_304 1 _ _ ls (iv_w (⟨by decide, by decide⟩ : (1 : Int) ≤ (1 : Int32).toInt ∧ (1 : Int32).toInt ≤ 1) (by decide) (by decide)) (by omega) hP hS (lv_sub hl [0, 1, 2, 3, 4] rfl)
                                                          · skip
                                                            refine lv_if_lt (tgt := 519) hx hb dX12_seated_439 (by decide) (fun c_270 => ?_) (fun c_270 => ?_)
                                                            · skip
                                                              have i_271 : (-1) ≤ x_260.toInt ∧ x_260.toInt ≤ (-1) := iv_lt1 i_x_260 (⟨by decide, by decide⟩ : (0 : Int) ≤ (0 : Int32).toInt ∧ (0 : Int32).toInt ≤ 0) c_270
                                                              exact hj_298  _ _ ls (by omega) hP hS (lv_sub hl [0, 1, 2, 3, 4] rfl)
                                                            · skip
                                                              have i_272 : 0 ≤ x_260.toInt ∧ x_260.toInt ≤ 4 := iv_le2 (⟨by decide, by decide⟩ : (0 : Int) ≤ (0 : Int32).toInt ∧ (0 : Int32).toInt ≤ 0) i_x_260 (Int32.not_lt.mp c_270)
                                                              refine lv_aload_n hx hb dX12_seated_442 rfl (lv_at hl 0 rfl) ?_
                                                              refine gM_91 hx hb htg hown hK hP dX12_seated_443 ?_
                                                              refine lv_iload hx hb dX12_seated_446 (lv_at hl 4 rfl) ?_
                                                              refine lM_91 hx hb hK hP (iv_in i_272 (by decide) (by decide)) dX12_seated_448 (fun v_273 ev_273 => ?_)
                                                              have i_274 : 0 ≤ v_273.toInt ∧ v_273.toInt ≤ 7 := ev_273 ▸ hA_ar_261 91 _
                                                              refine lv_aload_n hx hb dX12_seated_449 rfl (lv_at hl 0 rfl) ?_
                                                              refine gM_33 hx hb htg hown hK hP dX12_seated_450 ?_
                                                              refine my_ti (y := fv 33) ((fr_220 33 rfl).trans ((fr_205 33 rfl).trans ((fr_46 33 rfl).trans ((fr_33 33 rfl).trans ((fr_8 33 rfl).trans ((congrFun efv_1 33))))))) ?_
                                                              refine lv_iconst (v := 1) hx hb dX12_seated_453 (by decide) ?_
                                                              refine lv_isub hx hb dX12_seated_454 ?_
                                                              refine lv_topi (fun v_275 ev_275 => ?_)
                                                              have t_276 : v_275.toInt = (fv 33).toInt - 1 ∧ 0 ≤ v_275.toInt ∧ v_275.toInt ≤ 7 := iv_subc ev_275 i_28 (by decide) (by decide) (by decide)
                                                              refine lv_icmp_ne (tgt := 519) hx hb dX12_seated_455 (by decide) (fun c_278 => ?_) (fun c_278 => ?_)
                                                              · skip
                                                                have k_279 : ¬ v_273.toInt = v_275.toInt := fun q => c_278 (Int32.toInt_inj.mp q)
                                                                exact hj_298  _ _ ls (Or.inr (by show (ar_261 91 (Int32.toNatClampNeg x_260)).toInt ≤ _; rw [← ev_273]; have h9 := q_265 (x_260.toInt.toNat) (by omega); have h8 : (ar_261 91 x_260.toInt.toNat).toInt = v_273.toInt := congrArg Int32.toInt ev_273.symm; omega)) hP hS (lv_sub hl [0, 1, 2, 3, 4] rfl)
                                                              · skip
                                                                have k_280 := congrArg Int32.toInt c_278
                                                                refine lv_aload_n hx hb dX12_seated_458 rfl (lv_at hl 0 rfl) ?_
                                                                refine gM_93 hx hb htg hown hK hP dX12_seated_459 ?_
                                                                refine lv_aload_n hx hb dX12_seated_462 rfl (lv_at hl 0 rfl) ?_
                                                                refine gM_33 hx hb htg hown hK hP dX12_seated_463 ?_
                                                                refine my_ti (y := fv 33) ((fr_220 33 rfl).trans ((fr_205 33 rfl).trans ((fr_46 33 rfl).trans ((fr_33 33 rfl).trans ((fr_8 33 rfl).trans ((congrFun efv_1 33))))))) ?_
                                                                refine lv_iconst (v := 1) hx hb dX12_seated_466 (by decide) ?_
                                                                refine lv_isub hx hb dX12_seated_467 ?_
                                                                refine my_ti (y := v_275) ev_275.symm ?_
                                                                refine lv_dup2_11 hx hb dX12_seated_468 rfl rfl ?_
                                                                refine lM_93 hx hb hK hP (iv_in t_276.2 (by decide) (by decide)) dX12_seated_469 (fun v_281 ev_281 => ?_)
                                                                refine lv_aload_n hx hb dX12_seated_470 rfl (lv_at hl 0 rfl) ?_
                                                                refine gM_22 hx hb htg hown hK hP dX12_seated_471 ?_
                                                                refine lv_aload_n hx hb dX12_seated_474 rfl (lv_at hl 0 rfl) ?_
                                                                refine gM_1 hx hb htg hown hK hP dX12_seated_475 ?_
                                                                refine lv_iload hx hb dX12_seated_478 (lv_at hl 4 rfl) ?_
                                                                refine lM_1 hx hb hK hP (iv_in i_272 (by decide) (by decide)) dX12_seated_480 (fun v_282 ev_282 => ?_)
                                                                have i_283 : 0 ≤ v_282.toInt ∧ v_282.toInt ≤ 255 := ev_282 ▸ hA_ar_261 1 _
                                                                have i_284 : 0 ≤ v_282.toInt ∧ v_282.toInt ≤ 19 := ⟨(i_283).1, by rw [ev_282, ((fA_call (fA_call (fA_call (fA_call (fA_call (fA_call (fA_call (fA_call (fA_call (fA_call (fA_rf [4, 90, 91, 92, 93, 94] _) fa_9 (by decide)) fa_35 (by decide)) fa_48 (by decide)) fa_120 (by decide)) fa_165 (by decide)) fa_180 (by decide)) fa_207 (by decide)) fa_221 (by decide)) fa_247 (by decide)) fa_262 (by decide)) 1 rfl)]; exact hT _ (by show ((x_260.toInt.toNat : Nat) : Int) < _; omega)⟩
                                                                refine lM_22 hx hb hK hP (iv_in i_284 (by decide) (by decide)) dX12_seated_481 (fun v_285 ev_285 => ?_)
                                                                refine lv_isub hx hb dX12_seated_482 ?_
                                                                refine lv_topi (fun v_286 ev_286 => ?_)
                                                                refine sM_93 hx hb hK hP hS hd (iv_in t_276.2 (by decide) (by decide)) dX12_seated_483 (fun H locs ar_287 ear_287 hP hS => ?_)
                                                                have hA_ar_287 : rA ar_287 := rA_put hA_ar_261 ear_287 (iv_any _)
                                                                refine lv_aload_n hx hb dX12_seated_484 rfl (lv_at hl 0 rfl) ?_
                                                                refine gM_91 hx hb htg hown hK hP dX12_seated_485 ?_
                                                                refine lv_iload hx hb dX12_seated_488 (lv_at hl 4 rfl) ?_
                                                                refine lv_iconst (v := 0) hx hb dX12_seated_490 (by decide) ?_
                                                                refine sM_91 hx hb hK hP hS hd (iv_in i_272 (by decide) (by decide)) dX12_seated_491 (fun H locs ar_288 ear_288 hP hS => ?_)
                                                                have hA_ar_288 : rA ar_288 := rA_put hA_ar_287 ear_288 (iv_w (⟨by decide, by decide⟩ : (0 : Int) ≤ (0 : Int32).toInt ∧ (0 : Int32).toInt ≤ 0) (by decide) (by decide))
                                                                refine lv_aload_n hx hb dX12_seated_492 rfl (lv_at hl 0 rfl) ?_
                                                                refine gM_93 hx hb htg hown hK hP dX12_seated_493 ?_
                                                                refine lv_iconst (v := 0) hx hb dX12_seated_496 (by decide) ?_
                                                                refine lv_dup2_11 hx hb dX12_seated_497 rfl rfl ?_
                                                                refine lM_93 hx hb hK hP (iv_in (⟨by decide, by decide⟩ : (0 : Int) ≤ (0 : Int32).toInt ∧ (0 : Int32).toInt ≤ 0) (by decide) (by decide)) dX12_seated_498 (fun v_289 ev_289 => ?_)
                                                                refine lv_aload_n hx hb dX12_seated_499 rfl (lv_at hl 0 rfl) ?_
                                                                refine gM_22 hx hb htg hown hK hP dX12_seated_500 ?_
                                                                refine lv_aload_n hx hb dX12_seated_503 rfl (lv_at hl 0 rfl) ?_
                                                                refine gM_1 hx hb htg hown hK hP dX12_seated_504 ?_
                                                                refine lv_iload hx hb dX12_seated_507 (lv_at hl 4 rfl) ?_
                                                                refine lM_1 hx hb hK hP (iv_in i_272 (by decide) (by decide)) dX12_seated_509 (fun v_290 ev_290 => ?_)
                                                                obtain rfl : v_282 = v_290 := ev_282.trans ((congrFun ((fA_put (fA_put (fA_rf [91, 93] _) ear_287 (by decide)) ear_288 (by decide)) 1 rfl) _).symm.trans ev_290.symm)
                                                                refine lM_22 hx hb hK hP (iv_in i_284 (by decide) (by decide)) dX12_seated_510 (fun v_291 ev_291 => ?_)
                                                                obtain rfl : v_285 = v_291 := ev_285.trans ((congrFun ((fA_put (fA_put (fA_rf [91, 93] _) ear_287 (by decide)) ear_288 (by decide)) 22 rfl) _).symm.trans ev_291.symm)
                                                                refine lv_iadd hx hb dX12_seated_511 ?_
                                                                refine lv_topi (fun v_292 ev_292 => ?_)
                                                                refine sM_93 hx hb hK hP hS hd (iv_in (⟨by decide, by decide⟩ : (0 : Int) ≤ (0 : Int32).toInt ∧ (0 : Int32).toInt ≤ 0) (by decide) (by decide)) dX12_seated_512 (fun H locs ar_293 ear_293 hP hS => ?_)
                                                                have hA_ar_293 : rA ar_293 := rA_put hA_ar_288 ear_293 (iv_any _)
                                                                have g91 : ar_293 91 = upd (ar_261 91) (x_260.toInt.toNat) (0 : Int32) := by rw [((fA_put (fA_rf [93] _) ear_293 (by decide)) 91 rfl), ear_288]; show upd (ar_287 91) (x_260.toInt.toNat) _ = _; rw [((fA_put (fA_rf [93] _) ear_287 (by decide)) 91 rfl)]
                                                                have y9 := V8_z (k := x_260.toInt) (x := (0 : Int32)) (fun i => hA_ar_261 91 i) (by omega) g91 (by decide)
                                                                have y8 := w8_s (k := x_260.toInt) (by omega)
                                                                have pz8 := pS_up (x := (0 : Int32)) q_265 g91 (by show (0 : Int) ≤ _; omega)
                                                                obtain ⟨v_294, ev_294⟩ : ∃ z : Int32, z = x_260 + (-1) := ⟨_, rfl⟩
                                                                refine lv_iinc (v := v_294) (lv' := [(8, .int v_294), (0, .ref h), (2, .int r_2), (4, .int v_201), (5, .int x_245)]) hx hb dX12_seated_513 hl (k := 4) rfl (by rw [ev_294]; rfl) (by decide) rfl (fun ls hl => ?_)
                                                                have t_295 : v_294.toInt = x_260.toInt + (-1) ∧ (-1) ≤ v_294.toInt ∧ v_294.toInt ≤ 3 := iv_addc ev_294 i_272 (by decide) (by decide) (by decide)
                                                                have y7 : w8 v_294.toInt = w8 (x_260.toInt - 1) := by congr 1; omega
                                                                refine lv_goto (tgt := 437) hx hb dX12_seated_516 (by decide) ?_
                                                                exact ih_266 v_294 ar_293 _ _ ls (by omega) (iv_w t_295.2 (by decide) (by decide)) hA_ar_293 (fA_put (fA_put (fA_put (fA_call (fA_rf [91, 93] _) fa_262 (by decide)) ear_287 (by decide)) ear_288 (by decide)) ear_293 (by decide)) (by omega) (by omega) pz8 hP hS (lv_sub hl [1, 2, 3, 4, 0] rfl)
                                                      · skip
                                                        exact hj_268 6 v_257 ar_246 _ _ ls (by omega) (iv_w t_258.2 (by decide) (by decide)) hA_ar_246 (fA_rf [91, 93] _) (by omega) (by have h9 := w8_p (k := v_257.toInt) (by omega); rw [((fA_call (fA_call (fA_rf [92] _) fa_221 (by decide)) fa_247 (by decide)) 91 rfl)]; omega) (fun j hj => by rw [((fA_call (fA_call (fA_rf [92] _) fa_221 (by decide)) fa_247 (by decide)) 91 rfl)]; exact q_209 j hj) hP hS (lv_sub hl [1, 2, 3, 4, 0] rfl)
                                                    · skip
                                                      have i_338 : (-1) ≤ v_201.toInt ∧ v_201.toInt ≤ 2147483647 := iv_eq1 i_x_245 c_255.symm
                                                      have k_339 := congrArg Int32.toInt c_255
                                                      refine lv_goto (tgt := 607) hx hb dX12_seated_429 (by decide) ?_
                                                      refine lv_aload_n hx hb dX12_seated_607 rfl (lv_at hl 0 rfl) ?_
                                                      refine lv_iload_n hx hb dX12_seated_608 rfl (lv_at hl 1 rfl) ?_
                                                      refine pM_95 hx hb htg hown hK hP hS hd dX12_seated_609 (fun H locs fv_340 efv_340 hP hS => ?_)
                                                      have hF_fv_340 : rF fv_340 := rF_put hF_fv_217 efv_340 (iv_w i_16 (by decide) (by decide))
                                                      refine lv_iload hx hb dX12_seated_612 (lv_at hl 3 rfl) ?_
                                                      exact W.iret (v := x_245) hx hb hr (fun t ht hW => ⟨⟨x_245, (fv_340, wd_218, ar_246), rfl, ⟨hF_fv_340, hA_ar_246, (fM_put (fM_call (fM_call (fM_call (fM_call (fM_call (fM_put (fM_rf [0, 2, 8, 95] _) efv_1 (by decide)) fr_8 (by decide)) fr_33 (by decide)) fr_46 (by decide)) fr_205 (by decide)) fr_220 (by decide)) efv_340 (by decide)), (fA_call (fA_call (fA_call (fA_call (fA_call (fA_call (fA_call (fA_call (fA_call (fA_rf [4, 90, 91, 92, 93, 94] _) fa_9 (by decide)) fa_35 (by decide)) fa_48 (by decide)) fa_120 (by decide)) fa_165 (by decide)) fa_180 (by decide)) fa_207 (by decide)) fa_221 (by decide)) fa_247 (by decide)), (show (fv_340 2).toInt = 0 from by rw [show fv_340 2 = (fv_5 2) from (congrFun efv_340 2).trans ((fr_220 2 rfl).trans ((fr_205 2 rfl).trans ((fr_46 2 rfl).trans ((fr_33 2 rfl)))))]; omega), trivial⟩, ⟨by rw [ht]; exact hP, va_K.moved hW.alike hK⟩⟩, hS.F ht⟩) hS.2.2 dX12_seated_614
                                                · skip
                                                  refine lv_icmp_le (tgt := 411) hx hb dX12_seated_375 (by decide) (fun c_222 => ?_) (fun c_222 => ?_)
                                                  · skip
                                                    have k_223 := Int32.le_iff_toInt_le.mp c_222
                                                    exact hj_248 x_202 ar_219 _ _ ls i_x_202 hA_ar_219 (fA_rf [92] _) hP hS (lv_sub hl [1, 2, 3, 4] rfl)
                                                  · skip
                                                    have i_224 : (-1) ≤ x_202.toInt ∧ x_202.toInt ≤ 2147483646 := iv_lt1 i_x_202 (iv_any r_216) (Int32.not_le.mp c_222)
                                                    have i_225 : 0 ≤ r_216.toInt ∧ r_216.toInt ≤ 2147483647 := iv_lt2 i_x_202 (iv_any r_216) (Int32.not_le.mp c_222)
                                                    have k_226 := Int32.lt_iff_toInt_lt.mp (Int32.not_le.mp c_222)
                                                    refine lv_iload hx hb dX12_seated_378 (lv_at hl 0 rfl) ?_
                                                    refine lv_istore (lv' := [(5, .int r_216), (7, .int r_216), (0, .ref h), (2, .int r_2), (4, .int v_201), (6, .int x_203)]) hx hb dX12_seated_380 hl (by decide) rfl (fun ls hl => ?_)
                                                    refine lv_iconst (v := 0) hx hb dX12_seated_382 (by decide) ?_
                                                    refine lv_istore (lv' := [(8, .int 0), (5, .int r_216), (7, .int r_216), (0, .ref h), (2, .int r_2), (4, .int v_201), (6, .int x_203)]) hx hb dX12_seated_383 hl (by decide) rfl (fun ls hl => ?_)
                                                    refine my_cut (P := fun R9 a9 Q9 => ∀ (n_230 : Nat) (x_227 : Int32) (ar_228 : Nat → Nat → Int32) (H : Heap) (locs : List Loc) (ls : Array Slot), 5 - x_227.toInt < (n_230 : Int) → (0 ≤ x_227.toInt ∧ x_227.toInt ≤ 5) → rA ar_228 → fA [92] ar_219 ar_228 → va_P (dC, dI) vwCl (wsM h ad cA fv_217 wd_218 ar_228) H → va_S (aM h ad s.heap.size) s.heap H locs → lv_has ls 9 [(0, .ref h), (2, .int r_2), (4, .int v_201), (5, .int r_216), (8, .int x_227)] → W p l e R9 s m a9 below meth c H locs 0 0 Q9 (F0 m 385 ls [])) ?_ (fun hj_232 => ?_)
                                                    · intro n_230
                                                      induction n_230 with
                                                      | zero => intro x_227 ar_228 H locs ls fu_231 i_x_227 hA_ar_228 fa_229; exfalso; omega
                                                      | succ n_230 ih_230 =>
                                                        intro x_227 ar_228 H locs ls fu_231 i_x_227 hA_ar_228 fa_229 hP hS hl
                                                        refine lv_iload hx hb dX12_seated_385 (lv_at hl 4 rfl) ?_
                                                        refine lv_iload_n hx hb dX12_seated_387 rfl (lv_at hl 1 rfl) ?_
                                                        refine lv_icmp_ge (tgt := 411) hx hb dX12_seated_388 (by decide) (fun c_233 => ?_) (fun c_233 => ?_)
                                                        · skip
                                                          have i_234 : 1 ≤ x_227.toInt ∧ x_227.toInt ≤ 5 := iv_le2 i_16 i_x_227 c_233
                                                          have k_235 := Int32.le_iff_toInt_le.mp c_233
                                                          exact hj_248 r_216 ar_228 _ _ ls (iv_w i_225 (by decide) (by decide)) hA_ar_228 (fA_call (fA_rf [92] _) fa_229 (by decide)) hP hS (lv_sub hl [0, 1, 2, 3] rfl)
                                                        · skip
                                                          have i_236 : 0 ≤ x_227.toInt ∧ x_227.toInt ≤ 4 := iv_lt1 i_x_227 i_16 (Int32.not_le.mp c_233)
                                                          have k_237 := Int32.lt_iff_toInt_lt.mp (Int32.not_le.mp c_233)
                                                          refine lv_aload_n hx hb dX12_seated_391 rfl (lv_at hl 0 rfl) ?_
                                                          refine gM_92 hx hb htg hown hK hP dX12_seated_392 ?_
                                                          refine lv_iload hx hb dX12_seated_395 (lv_at hl 4 rfl) ?_
                                                          refine lv_aload_n hx hb dX12_seated_397 rfl (lv_at hl 0 rfl) ?_
                                                          refine gM_91 hx hb htg hown hK hP dX12_seated_398 ?_
                                                          refine lv_iload hx hb dX12_seated_401 (lv_at hl 4 rfl) ?_
                                                          refine lM_91 hx hb hK hP (iv_in i_236 (by decide) (by decide)) dX12_seated_403 (fun v_238 ev_238 => ?_)
                                                          have i_239 : 0 ≤ v_238.toInt ∧ v_238.toInt ≤ 7 := ev_238 ▸ hA_ar_228 91 _
                                                          refine sM_92 hx hb hK hP hS hd (iv_in i_236 (by decide) (by decide)) dX12_seated_404 (fun H locs ar_240 ear_240 hP hS => ?_)
                                                          have hA_ar_240 : rA ar_240 := rA_put hA_ar_228 ear_240 (iv_any _)
                                                          obtain ⟨v_241, ev_241⟩ : ∃ z : Int32, z = x_227 + 1 := ⟨_, rfl⟩
                                                          refine lv_iinc (v := v_241) (lv' := [(8, .int v_241), (0, .ref h), (2, .int r_2), (4, .int v_201), (5, .int r_216)]) hx hb dX12_seated_405 hl (k := 4) rfl (by rw [ev_241]; rfl) (by decide) rfl (fun ls hl => ?_)
                                                          have t_242 : v_241.toInt = x_227.toInt + 1 ∧ 1 ≤ v_241.toInt ∧ v_241.toInt ≤ 5 := iv_addc ev_241 i_236 (by decide) (by decide) (by decide)
                                                          refine lv_goto (tgt := 385) hx hb dX12_seated_408 (by decide) ?_
                                                          exact ih_230 v_241 ar_240 _ _ ls (by omega) (iv_w t_242.2 (by decide) (by decide)) hA_ar_240 (fA_put (fA_call (fA_rf [92] _) fa_229 (by decide)) ear_240 (by decide)) hP hS (lv_sub hl [1, 2, 3, 4, 0] rfl)
                                                    · skip
                                                      have z_244 : (0 : Int32).toInt = 0 := by decide
                                                      exact hj_232 6 0 ar_219 _ _ ls (by first | decide | omega) (iv_w (⟨by decide, by decide⟩ : (0 : Int) ≤ (0 : Int32).toInt ∧ (0 : Int32).toInt ≤ 0) (by decide) (by decide)) hA_ar_219 (fA_rf [92] _) hP hS (lv_sub hl [3, 4, 5, 1, 0] rfl)
                                          · skip
                                            have z_341 : ((-1) : Int32).toInt = (-1) := by decide
                                            have z_342 : (1 : Int32).toInt = 1 := by decide
                                            exact hj_213 32768 (-1) 1 fv_45 ar_179 wd_49 _ _ ls (by first | decide | omega) (iv_w (⟨by decide, by decide⟩ : (-1 : Int) ≤ ((-1) : Int32).toInt ∧ ((-1) : Int32).toInt ≤ -1) (by decide) (by decide)) (⟨by decide, by decide⟩ : (1 : Int) ≤ (1 : Int32).toInt ∧ (1 : Int32).toInt ≤ 1) hF_fv_45 (fM_rf [] _) hA_ar_179 (fA_rf [91, 92, 93] _) (fun j hj => by exact q_181 j (by omega)) (V8_b (fun i => hA_ar_179 91 i)) hP hS (lv_sub hl [3, 4, 2, 1, 0] rfl)
                                        · skip
                                          have i_188 : 0 ≤ x_178.toInt ∧ x_178.toInt ≤ 4 := iv_lt1 i_x_178 i_16 (Int32.not_le.mp c_185)
                                          have k_189 := Int32.lt_iff_toInt_lt.mp (Int32.not_le.mp c_185)
                                          refine lv_aload_n hx hb dX12_seated_311 rfl (lv_at hl 0 rfl) ?_
                                          refine gM_91 hx hb htg hown hK hP dX12_seated_312 ?_
                                          refine lv_iload hx hb dX12_seated_315 (lv_at hl 2 rfl) ?_
                                          refine lv_iconst (v := 0) hx hb dX12_seated_317 (by decide) ?_
                                          refine sM_91 hx hb hK hP hS hd (iv_in i_188 (by decide) (by decide)) dX12_seated_318 (fun H locs ar_190 ear_190 hP hS => ?_)
                                          have hA_ar_190 : rA ar_190 := rA_put hA_ar_179 ear_190 (iv_w (⟨by decide, by decide⟩ : (0 : Int) ≤ (0 : Int32).toInt ∧ (0 : Int32).toInt ≤ 0) (by decide) (by decide))
                                          refine lv_aload_n hx hb dX12_seated_319 rfl (lv_at hl 0 rfl) ?_
                                          refine gM_93 hx hb htg hown hK hP dX12_seated_320 ?_
                                          refine lv_iconst (v := 0) hx hb dX12_seated_323 (by decide) ?_
                                          refine lv_dup2_11 hx hb dX12_seated_324 rfl rfl ?_
                                          refine lM_93 hx hb hK hP (iv_in (⟨by decide, by decide⟩ : (0 : Int) ≤ (0 : Int32).toInt ∧ (0 : Int32).toInt ≤ 0) (by decide) (by decide)) dX12_seated_325 (fun v_191 ev_191 => ?_)
                                          refine lv_aload_n hx hb dX12_seated_326 rfl (lv_at hl 0 rfl) ?_
                                          refine gM_22 hx hb htg hown hK hP dX12_seated_327 ?_
                                          refine lv_aload_n hx hb dX12_seated_330 rfl (lv_at hl 0 rfl) ?_
                                          refine gM_1 hx hb htg hown hK hP dX12_seated_331 ?_
                                          refine lv_iload hx hb dX12_seated_334 (lv_at hl 2 rfl) ?_
                                          refine lM_1 hx hb hK hP (iv_in i_188 (by decide) (by decide)) dX12_seated_336 (fun v_192 ev_192 => ?_)
                                          have i_193 : 0 ≤ v_192.toInt ∧ v_192.toInt ≤ 255 := ev_192 ▸ hA_ar_190 1 _
                                          have i_194 : 0 ≤ v_192.toInt ∧ v_192.toInt ≤ 19 := ⟨(i_193).1, by rw [ev_192, ((fA_put (fA_call (fA_call (fA_call (fA_call (fA_call (fA_call (fA_rf [4, 90, 91, 93, 94] _) fa_9 (by decide)) fa_35 (by decide)) fa_48 (by decide)) fa_120 (by decide)) fa_165 (by decide)) fa_180 (by decide)) ear_190 (by decide)) 1 rfl)]; exact hT _ (by show ((x_178.toInt.toNat : Nat) : Int) < _; omega)⟩
                                          refine lM_22 hx hb hK hP (iv_in i_194 (by decide) (by decide)) dX12_seated_337 (fun v_195 ev_195 => ?_)
                                          refine lv_iadd hx hb dX12_seated_338 ?_
                                          refine lv_topi (fun v_196 ev_196 => ?_)
                                          refine sM_93 hx hb hK hP hS hd (iv_in (⟨by decide, by decide⟩ : (0 : Int) ≤ (0 : Int32).toInt ∧ (0 : Int32).toInt ≤ 0) (by decide) (by decide)) dX12_seated_339 (fun H locs ar_197 ear_197 hP hS => ?_)
                                          have hA_ar_197 : rA ar_197 := rA_put hA_ar_190 ear_197 (iv_any _)
                                          obtain ⟨v_198, ev_198⟩ : ∃ z : Int32, z = x_178 + 1 := ⟨_, rfl⟩
                                          refine lv_iinc (v := v_198) (lv' := [(4, .int v_198), (0, .ref h), (2, .int r_2)]) hx hb dX12_seated_340 hl (k := 2) rfl (by rw [ev_198]; rfl) (by decide) rfl (fun ls hl => ?_)
                                          have t_199 : v_198.toInt = x_178.toInt + 1 ∧ 1 ≤ v_198.toInt ∧ v_198.toInt ≤ 5 := iv_addc ev_198 i_188 (by decide) (by decide) (by decide)
                                          refine lv_goto (tgt := 305) hx hb dX12_seated_343 (by decide) ?_
                                          exact ih_182 v_198 ar_197 _ _ ls (by omega) (iv_w t_199.2 (by decide) (by decide)) hA_ar_197 (fA_put (fA_put (fA_call (fA_rf [91, 93] _) fa_180 (by decide)) ear_190 (by decide)) ear_197 (by decide)) (pS_ad (x := (0 : Int32)) (i := x_178.toInt.toNat) q_181 (show ar_197 91 = upd (ar_179 91) (x_178.toInt.toNat) (0 : Int32) from by rw [((fA_put (fA_rf [93] _) ear_197 (by decide)) 91 rfl), ear_190]; rfl) (by omega) (by omega) (by show (0 : Int) ≤ _; omega)) hP hS (lv_sub hl [1, 2, 0] rfl)
                                    · skip
                                      have z_343 : (0 : Int32).toInt = 0 := by decide
                                      exact hj_184 6 0 ar_164 _ _ ls (by first | decide | omega) (iv_w (⟨by decide, by decide⟩ : (0 : Int) ≤ (0 : Int32).toInt ∧ (0 : Int32).toInt ≤ 0) (by decide) (by decide)) hA_ar_164 (fA_rf [91, 93] _) (fun j hj => absurd hj (by omega)) hP hS (lv_sub hl [1, 2, 0] rfl)
                                  · skip
                                    have i_172 : 0 ≤ x_163.toInt ∧ x_163.toInt ≤ 7 := iv_lt1 i_x_163 i_28 (Int32.not_le.mp c_169)
                                    have k_173 := Int32.lt_iff_toInt_lt.mp (Int32.not_le.mp c_169)
                                    refine lv_aload_n hx hb dX12_seated_288 rfl (lv_at hl 0 rfl) ?_
                                    refine gM_93 hx hb htg hown hK hP dX12_seated_289 ?_
                                    refine lv_iload hx hb dX12_seated_292 (lv_at hl 2 rfl) ?_
                                    refine lv_iconst (v := 0) hx hb dX12_seated_294 (by decide) ?_
                                    refine sM_93 hx hb hK hP hS hd (iv_in i_172 (by decide) (by decide)) dX12_seated_295 (fun H locs ar_174 ear_174 hP hS => ?_)
                                    have hA_ar_174 : rA ar_174 := rA_put hA_ar_164 ear_174 (iv_any _)
                                    obtain ⟨v_175, ev_175⟩ : ∃ z : Int32, z = x_163 + 1 := ⟨_, rfl⟩
                                    refine lv_iinc (v := v_175) (lv' := [(4, .int v_175), (0, .ref h), (2, .int r_2)]) hx hb dX12_seated_296 hl (k := 2) rfl (by rw [ev_175]; rfl) (by decide) rfl (fun ls hl => ?_)
                                    have t_176 : v_175.toInt = x_163.toInt + 1 ∧ 1 ≤ v_175.toInt ∧ v_175.toInt ≤ 8 := iv_addc ev_175 i_172 (by decide) (by decide) (by decide)
                                    refine lv_goto (tgt := 279) hx hb dX12_seated_299 (by decide) ?_
                                    exact ih_166 v_175 ar_174 _ _ ls (by omega) (iv_w t_176.2 (by decide) (by decide)) hA_ar_174 (fA_put (fA_call (fA_rf [93] _) fa_165 (by decide)) ear_174 (by decide)) hP hS (lv_sub hl [1, 2, 0] rfl)
                              · skip
                                have z_344 : (0 : Int32).toInt = 0 := by decide
                                exact hj_168 9 0 ar_119 _ _ ls (by first | decide | omega) (iv_w (⟨by decide, by decide⟩ : (0 : Int) ≤ (0 : Int32).toInt ∧ (0 : Int32).toInt ≤ 0) (by decide) (by decide)) hA_ar_119 (fA_rf [93] _) hP hS (lv_sub hl [1, 2, 0] rfl)
                            · skip
                              have i_129 : 0 ≤ x_118.toInt ∧ x_118.toInt ≤ 255 := iv_lt1 i_x_118 i_125 (Int32.not_le.mp c_126)
                              have k_130 := Int32.lt_iff_toInt_lt.mp (Int32.not_le.mp c_126)
                              refine lv_aload_n hx hb dX12_seated_218 rfl (lv_at hl 0 rfl) ?_
                              refine gM_94 hx hb htg hown hK hP dX12_seated_219 ?_
                              refine lv_iload hx hb dX12_seated_222 (lv_at hl 2 rfl) ?_
                              refine lv_iconst (v := 0) hx hb dX12_seated_224 (by decide) ?_
                              refine sM_94 hx hb hK hP hS hd (iv_in i_129 (by decide) (by decide)) dX12_seated_225 (fun H locs ar_131 ear_131 hP hS => ?_)
                              have hA_ar_131 : rA ar_131 := rA_put hA_ar_119 ear_131 (iv_any _)
                              refine lv_iconst (v := 0) hx hb dX12_seated_226 (by decide) ?_
                              refine lv_istore (lv' := [(5, .int 0), (0, .ref h), (2, .int r_2), (4, .int x_118)]) hx hb dX12_seated_227 hl (by decide) rfl (fun ls hl => ?_)
                              refine my_cut (P := fun R9 a9 Q9 => ∀ (n_135 : Nat) (x_132 : Int32) (ar_133 : Nat → Nat → Int32) (H : Heap) (locs : List Loc) (ls : Array Slot), 40 - x_132.toInt < (n_135 : Int) → (0 ≤ x_132.toInt ∧ x_132.toInt ≤ 40) → rA ar_133 → fA [94] ar_131 ar_133 → va_P (dC, dI) vwCl (wsM h ad cA fv_45 wd_49 ar_133) H → va_S (aM h ad s.heap.size) s.heap H locs → lv_has ls 9 [(0, .ref h), (2, .int r_2), (4, .int x_118), (5, .int x_132)] → W p l e R9 s m a9 below meth c H locs 0 0 Q9 (F0 m 229 ls [])) ?_ (fun hj_137 => ?_)
                              · intro n_135
                                induction n_135 with
                                | zero => intro x_132 ar_133 H locs ls fu_136 i_x_132 hA_ar_133 fa_134; exfalso; omega
                                | succ n_135 ih_135 =>
                                  intro x_132 ar_133 H locs ls fu_136 i_x_132 hA_ar_133 fa_134 hP hS hl
                                  refine lv_iload hx hb dX12_seated_229 (lv_at hl 3 rfl) ?_
                                  refine lv_aload_n hx hb dX12_seated_231 rfl (lv_at hl 0 rfl) ?_
                                  refine gM_32 hx hb htg hown hK hP dX12_seated_232 ?_
                                  refine my_ti (y := fv 32) ((fr_46 32 rfl).trans ((fr_33 32 rfl).trans ((fr_8 32 rfl).trans ((congrFun efv_1 32))))) ?_
                                  refine lv_icmp_ge (tgt := 270) hx hb dX12_seated_235 (by decide) (fun c_138 => ?_) (fun c_138 => ?_)
                                  · skip
                                    have k_139 := Int32.le_iff_toInt_le.mp c_138
                                    obtain ⟨v_159, ev_159⟩ : ∃ z : Int32, z = x_118 + 1 := ⟨_, rfl⟩
                                    refine lv_iinc (v := v_159) (lv' := [(4, .int v_159), (0, .ref h), (2, .int r_2), (5, .int x_132)]) hx hb dX12_seated_270 hl (k := 2) rfl (by rw [ev_159]; rfl) (by decide) rfl (fun ls hl => ?_)
                                    have t_160 : v_159.toInt = x_118.toInt + 1 ∧ 1 ≤ v_159.toInt ∧ v_159.toInt ≤ 256 := iv_addc ev_159 i_129 (by decide) (by decide) (by decide)
                                    refine lv_goto (tgt := 207) hx hb dX12_seated_273 (by decide) ?_
                                    exact ih_121 v_159 ar_133 _ _ ls (by omega) (iv_w t_160.2 (by decide) (by decide)) hA_ar_133 (fA_call (fA_put (fA_call (fA_rf [94] _) fa_120 (by decide)) ear_131 (by decide)) fa_134 (by decide)) hP hS (lv_sub hl [1, 2, 0] rfl)
                                  · skip
                                    have i_140 : 0 ≤ x_132.toInt ∧ x_132.toInt ≤ 39 := iv_lt1 i_x_132 i_53 (Int32.not_le.mp c_138)
                                    have i_141 : 1 ≤ (fv 32).toInt ∧ (fv 32).toInt ≤ 40 := iv_lt2 i_x_132 i_53 (Int32.not_le.mp c_138)
                                    have k_142 := Int32.lt_iff_toInt_lt.mp (Int32.not_le.mp c_138)
                                    refine lv_aload_n hx hb dX12_seated_238 rfl (lv_at hl 0 rfl) ?_
                                    refine gM_90 hx hb htg hown hK hP dX12_seated_239 ?_
                                    refine lv_iload hx hb dX12_seated_242 (lv_at hl 3 rfl) ?_
                                    refine lM_90 hx hb hK hP (iv_in i_140 (by decide) (by decide)) dX12_seated_244 (fun v_143 ev_143 => ?_)
                                    refine lv_iload hx hb dX12_seated_245 (lv_at hl 2 rfl) ?_
                                    refine lv_iconst (v := (-1)) hx hb dX12_seated_247 (by decide) ?_
                                    refine lv_ixor hx hb dX12_seated_248 ?_
                                    refine lv_topi (fun v_144 ev_144 => ?_)
                                    refine lv_iand hx hb dX12_seated_249 ?_
                                    refine lv_topi (fun v_145 ev_145 => ?_)
                                    refine my_cut (P := fun R9 a9 Q9 => ∀ (ar_153 : Nat → Nat → Int32) (H : Heap) (locs : List Loc) (ls : Array Slot), rA ar_153 → fA [94] ar_133 ar_153 → va_P (dC, dI) vwCl (wsM h ad cA fv_45 wd_49 ar_153) H → va_S (aM h ad s.heap.size) s.heap H locs → lv_has ls 9 [(0, .ref h), (2, .int r_2), (4, .int x_118), (5, .int x_132)] → W p l e R9 s m a9 below meth c H locs 0 0 Q9 (F0 m 264 ls [])) ?_ (fun hj_155 => ?_)
                                    · intro ar_153 H locs ls hA_ar_153 fa_154 hP hS hl
                                      obtain ⟨v_156, ev_156⟩ : ∃ z : Int32, z = x_132 + 1 := ⟨_, rfl⟩
                                      refine lv_iinc (v := v_156) (lv' := [(5, .int v_156), (0, .ref h), (2, .int r_2), (4, .int x_118)]) hx hb dX12_seated_264 hl (k := 3) rfl (by rw [ev_156]; rfl) (by decide) rfl (fun ls hl => ?_)
                                      have t_157 : v_156.toInt = x_132.toInt + 1 ∧ 1 ≤ v_156.toInt ∧ v_156.toInt ≤ 40 := iv_addc ev_156 i_140 (by decide) (by decide) (by decide)
                                      refine lv_goto (tgt := 229) hx hb dX12_seated_267 (by decide) ?_
                                      exact ih_135 v_156 ar_153 _ _ ls (by omega) (iv_w t_157.2 (by decide) (by decide)) hA_ar_153 (fA_call (fA_call (fA_rf [94] _) fa_134 (by decide)) fa_154 (by decide)) hP hS (lv_sub hl [1, 2, 3, 0] rfl)
                                    · skip
                                      refine lv_if_eq (tgt := 264) hx hb dX12_seated_250 (by decide) (fun c_146 => ?_) (fun c_146 => ?_)
                                      · skip
                                        have i_147 : 0 ≤ v_145.toInt ∧ v_145.toInt ≤ 0 := iv_eq1 (⟨by decide, by decide⟩ : (0 : Int) ≤ (0 : Int32).toInt ∧ (0 : Int32).toInt ≤ 0) c_146
                                        exact hj_155 ar_133 _ _ ls hA_ar_133 (fA_rf [94] _) hP hS (lv_sub hl [0, 1, 2, 3] rfl)
                                      · skip
                                        have k_149 : ¬ v_145.toInt = 0 := fun q => c_146 (Int32.toInt_inj.mp q)
                                        refine lv_aload_n hx hb dX12_seated_253 rfl (lv_at hl 0 rfl) ?_
                                        refine gM_94 hx hb htg hown hK hP dX12_seated_254 ?_
                                        refine lv_iload hx hb dX12_seated_257 (lv_at hl 2 rfl) ?_
                                        refine lv_dup2_11 hx hb dX12_seated_259 rfl rfl ?_
                                        refine lM_94 hx hb hK hP (iv_in i_129 (by decide) (by decide)) dX12_seated_260 (fun v_150 ev_150 => ?_)
                                        refine lv_iconst (v := 1) hx hb dX12_seated_261 (by decide) ?_
                                        refine lv_iadd hx hb dX12_seated_262 ?_
                                        refine lv_topi (fun v_151 ev_151 => ?_)
                                        refine sM_94 hx hb hK hP hS hd (iv_in i_129 (by decide) (by decide)) dX12_seated_263 (fun H locs ar_152 ear_152 hP hS => ?_)
                                        have hA_ar_152 : rA ar_152 := rA_put hA_ar_133 ear_152 (iv_any _)
                                        exact hj_155 ar_152 _ _ ls hA_ar_152 (fA_put (fA_rf [94] _) ear_152 (by decide)) hP hS (lv_sub hl [0, 1, 2, 3] rfl)
                              · skip
                                have z_162 : (0 : Int32).toInt = 0 := by decide
                                exact hj_137 41 0 ar_131 _ _ ls (by first | decide | omega) (iv_w (⟨by decide, by decide⟩ : (0 : Int) ≤ (0 : Int32).toInt ∧ (0 : Int32).toInt ≤ 0) (by decide) (by decide)) hA_ar_131 (fA_rf [94] _) hP hS (lv_sub hl [1, 2, 3, 0] rfl)
                        · skip
                          have z_345 : (0 : Int32).toInt = 0 := by decide
                          exact hj_123 257 0 ar_47 _ _ ls (by first | decide | omega) (iv_w (⟨by decide, by decide⟩ : (0 : Int) ≤ (0 : Int32).toInt ∧ (0 : Int32).toInt ≤ 0) (by decide) (by decide)) hA_ar_47 (fA_rf [94] _) hP hS (lv_sub hl [1, 3, 0] rfl)
                      · skip
                        have i_56 : 0 ≤ x_44.toInt ∧ x_44.toInt ≤ 39 := iv_lt1 i_x_44 i_53 (Int32.not_le.mp c_54)
                        have i_57 : 1 ≤ (fv 32).toInt ∧ (fv 32).toInt ≤ 40 := iv_lt2 i_x_44 i_53 (Int32.not_le.mp c_54)
                        have k_58 := Int32.lt_iff_toInt_lt.mp (Int32.not_le.mp c_54)
                        refine lv_aload_n hx hb dX12_seated_111 rfl (lv_at hl 0 rfl) ?_
                        refine gM_90 hx hb htg hown hK hP dX12_seated_112 ?_
                        refine lv_iload hx hb dX12_seated_115 (lv_at hl 3 rfl) ?_
                        refine lv_iconst (v := 0) hx hb dX12_seated_117 (by decide) ?_
                        refine sM_90 hx hb hK hP hS hd (iv_in i_56 (by decide) (by decide)) dX12_seated_118 (fun H locs ar_59 ear_59 hP hS => ?_)
                        have hA_ar_59 : rA ar_59 := rA_put hA_ar_47 ear_59 (iv_any _)
                        refine lv_iconst (v := 0) hx hb dX12_seated_119 (by decide) ?_
                        refine lv_istore (lv' := [(5, .int 0), (0, .ref h), (1, .int mm), (2, .int r_2), (4, .int x_44)]) hx hb dX12_seated_120 hl (by decide) rfl (fun ls hl => ?_)
                        refine my_cut (P := fun R9 a9 Q9 => ∀ (n_66 : Nat) (x_60 : Int32) (fv_61 : Nat → Int32) (ar_63 : Nat → Nat → Int32) (wd_65 : Int64) (H : Heap) (locs : List Loc) (ls : Array Slot), 8 - x_60.toInt < (n_66 : Int) → (0 ≤ x_60.toInt ∧ x_60.toInt ≤ 8) → rF fv_61 → fM [8] fv_45 fv_61 → rA ar_63 → fA [4, 90] ar_59 ar_63 → va_P (dC, dI) vwCl (wsM h ad cA fv_61 wd_65 ar_63) H → va_S (aM h ad s.heap.size) s.heap H locs → lv_has ls 9 [(0, .ref h), (1, .int mm), (2, .int r_2), (4, .int x_44), (5, .int x_60)] → W p l e R9 s m a9 below meth c H locs 0 0 Q9 (F0 m 122 ls [])) ?_ (fun hj_68 => ?_)
                        · intro n_66
                          induction n_66 with
                          | zero => intro x_60 fv_61 ar_63 wd_65 H locs ls fu_67 i_x_60 hF_fv_61 fr_62 hA_ar_63 fa_64; exfalso; omega
                          | succ n_66 ih_66 =>
                            intro x_60 fv_61 ar_63 wd_65 H locs ls fu_67 i_x_60 hF_fv_61 fr_62 hA_ar_63 fa_64 hP hS hl
                            refine lv_iload hx hb dX12_seated_122 (lv_at hl 4 rfl) ?_
                            refine lv_aload_n hx hb dX12_seated_124 rfl (lv_at hl 0 rfl) ?_
                            refine gM_33 hx hb htg hown hK hP dX12_seated_125 ?_
                            refine my_ti (y := fv 33) ((fr_62 33 rfl).trans ((fr_46 33 rfl).trans ((fr_33 33 rfl).trans ((fr_8 33 rfl).trans ((congrFun efv_1 33)))))) ?_
                            refine lv_icmp_ge (tgt := 198) hx hb dX12_seated_128 (by decide) (fun c_69 => ?_) (fun c_69 => ?_)
                            · skip
                              have i_70 : 1 ≤ x_60.toInt ∧ x_60.toInt ≤ 8 := iv_le2 i_28 i_x_60 c_69
                              have k_71 := Int32.le_iff_toInt_le.mp c_69
                              obtain ⟨v_114, ev_114⟩ : ∃ z : Int32, z = x_44 + 1 := ⟨_, rfl⟩
                              refine lv_iinc (v := v_114) (lv' := [(4, .int v_114), (0, .ref h), (1, .int mm), (2, .int r_2), (5, .int x_60)]) hx hb dX12_seated_198 hl (k := 3) rfl (by rw [ev_114]; rfl) (by decide) rfl (fun ls hl => ?_)
                              have t_115 : v_114.toInt = x_44.toInt + 1 ∧ 1 ≤ v_114.toInt ∧ v_114.toInt ≤ 40 := iv_addc ev_114 i_56 (by decide) (by decide) (by decide)
                              refine lv_goto (tgt := 102) hx hb dX12_seated_201 (by decide) ?_
                              exact ih_50 v_114 fv_61 ar_63 wd_65 _ _ ls (by omega) (iv_w t_115.2 (by decide) (by decide)) hF_fv_61 (fM_call (fM_call (fM_rf [8] _) fr_46 (by decide)) fr_62 (by decide)) hA_ar_63 (fA_call (fA_put (fA_call (fA_rf [4, 90] _) fa_48 (by decide)) ear_59 (by decide)) fa_64 (by decide)) hP hS (lv_sub hl [1, 2, 3, 0] rfl)
                            · skip
                              have i_72 : 0 ≤ x_60.toInt ∧ x_60.toInt ≤ 7 := iv_lt1 i_x_60 i_28 (Int32.not_le.mp c_69)
                              have k_73 := Int32.lt_iff_toInt_lt.mp (Int32.not_le.mp c_69)
                              refine lv_aload_n hx hb dX12_seated_131 rfl (lv_at hl 0 rfl) ?_
                              refine lv_aload_n hx hb dX12_seated_132 rfl (lv_at hl 0 rfl) ?_
                              refine gM_9 hx hb htg hown hK hP dX12_seated_133 ?_
                              refine lv_iload hx hb dX12_seated_136 (lv_at hl 3 rfl) ?_
                              refine lM_9 hx hb hK hP (iv_in i_56 (by decide) (by decide)) dX12_seated_138 (fun v_74 ev_74 => ?_)
                              have i_75 : 0 ≤ v_74.toInt ∧ v_74.toInt ≤ 11 := ev_74 ▸ hA_ar_63 9 _
                              refine lv_aload_n hx hb dX12_seated_139 rfl (lv_at hl 0 rfl) ?_
                              refine gM_19 hx hb htg hown hK hP dX12_seated_140 ?_
                              refine lv_iload hx hb dX12_seated_143 (lv_at hl 4 rfl) ?_
                              refine lM_19 hx hb hK hP (iv_in i_72 (by decide) (by decide)) dX12_seated_145 (fun v_76 ev_76 => ?_)
                              have i_77 : 0 ≤ v_76.toInt ∧ v_76.toInt ≤ 11 := ev_76 ▸ hA_ar_63 19 _
                              refine va_calli (va_runV (As := [.int v_74, .int v_76]) (rest := []) ⟨hx, hb, hml, hown, hts⟩ (m_farOf l dC dI H.size h ad cA hd fv_61 wd_65 ar_63 hF_fv_61 hA_ar_63 v_74 v_76 i_75 i_77) (cwV 2 hts (gV kw_7_237 kw_7_239 kw_p_59 kw_1_15 kw_8_0) rfl rfl rfl (by decide +kernel) ⟨Nat.le_of_ble_eq_true rfl, Nat.le_of_ble_eq_true rfl⟩) ⟨fun a U g mk q => ⟨q.1, q.2.1, q.2.2.1, va_K.moved (u := U) (U := U.calling g mk a) (Vm.Alike.refl U.vm) q.2.2.2⟩, va_recv hK hP (ci := 12) (q0 := 0) rfl rfl, fun U hU hW => ⟨rfl, by rw [hU], by rw [hU]; exact hP, va_K.moved hW.alike hK⟩⟩ rfl rfl hl.1 rfl (lv_room (Nat.le_of_ble_eq_true rfl)) dX12_seated_146 ⟨Nat.le_of_ble_eq_true rfl, Nat.le_of_ble_eq_true rfl⟩) hS (fun q _ h9 => aM_up hS q h9) (aM_up hS) (fun r_78 u t H1 locs ht _ hw hB _ hk1 hS => ?_)
                              obtain ⟨fv_79, wd_80, ar_81⟩ := u
                              obtain ⟨hF_fv_79, hA_ar_81, fr_82, fa_83, -⟩ := hw
                              have hP : va_P (dC, dI) vwCl (wsM h ad cA fv_79 wd_80 ar_81) H1 := by have h9 := hB.1; rw [ht] at h9; exact h9
                              have fr_82 : fM [8] fv_61 fv_79 := fr_82
                              have fa_83 : fA [4] ar_63 ar_81 := fa_83
                              generalize H1 = H at hP hS ⊢
                              refine lv_ldc hx hb hown (htg (.constant RX12 225 100000) kw_7_232) dX12_seated_149 ?_
                              refine my_cut (P := fun R9 a9 Q9 => ∀ (fv_105 : Nat → Int32) (ar_107 : Nat → Nat → Int32) (wd_109 : Int64) (H : Heap) (locs : List Loc) (ls : Array Slot), rF fv_105 → fM [8] fv_79 fv_105 → rA ar_107 → fA [4, 90] ar_81 ar_107 → va_P (dC, dI) vwCl (wsM h ad cA fv_105 wd_109 ar_107) H → va_S (aM h ad s.heap.size) s.heap H locs → lv_has ls 9 [(0, .ref h), (1, .int mm), (2, .int r_2), (4, .int x_44), (5, .int x_60)] → W p l e R9 s m a9 below meth c H locs 0 0 Q9 (F0 m 192 ls [])) ?_ (fun hj_110 => ?_)
                              · intro fv_105 ar_107 wd_109 H locs ls hF_fv_105 fr_106 hA_ar_107 fa_108 hP hS hl
                                obtain ⟨v_111, ev_111⟩ : ∃ z : Int32, z = x_60 + 1 := ⟨_, rfl⟩
                                refine lv_iinc (v := v_111) (lv' := [(5, .int v_111), (0, .ref h), (1, .int mm), (2, .int r_2), (4, .int x_44)]) hx hb dX12_seated_192 hl (k := 4) rfl (by rw [ev_111]; rfl) (by decide) rfl (fun ls hl => ?_)
                                have t_112 : v_111.toInt = x_60.toInt + 1 ∧ 1 ≤ v_111.toInt ∧ v_111.toInt ≤ 8 := iv_addc ev_111 i_72 (by decide) (by decide) (by decide)
                                refine lv_goto (tgt := 122) hx hb dX12_seated_195 (by decide) ?_
                                exact ih_66 v_111 fv_105 ar_107 wd_109 _ _ ls (by omega) (iv_w t_112.2 (by decide) (by decide)) hF_fv_105 (fM_call (fM_call (fM_call (fM_rf [8] _) fr_62 (by decide)) fr_82 (by decide)) fr_106 (by decide)) hA_ar_107 (fA_call (fA_call (fA_call (fA_rf [4, 90] _) fa_64 (by decide)) fa_83 (by decide)) fa_108 (by decide)) hP hS (lv_sub hl [1, 2, 3, 4, 0] rfl)
                              · skip
                                refine lv_icmp_ge (tgt := 192) hx hb dX12_seated_151 (by decide) (fun c_84 => ?_) (fun c_84 => ?_)
                                · skip
                                  have i_85 : 100000 ≤ r_78.toInt ∧ r_78.toInt ≤ 2147483647 := iv_le2 (⟨by decide, by decide⟩ : (100000 : Int) ≤ (100000 : Int32).toInt ∧ (100000 : Int32).toInt ≤ 100000) (iv_any r_78) c_84
                                  exact hj_110 fv_79 ar_81 wd_80 _ _ ls hF_fv_79 (fM_rf [8] _) hA_ar_81 (fA_rf [4, 90] _) hP hS (lv_sub hl [0, 1, 2, 3, 4] rfl)
                                · skip
                                  have i_86 : (-2147483648) ≤ r_78.toInt ∧ r_78.toInt ≤ 99999 := iv_lt1 (iv_any r_78) (⟨by decide, by decide⟩ : (100000 : Int) ≤ (100000 : Int32).toInt ∧ (100000 : Int32).toInt ≤ 100000) (Int32.not_le.mp c_84)
                                  refine lv_aload_n hx hb dX12_seated_154 rfl (lv_at hl 0 rfl) ?_
                                  refine lv_iload hx hb dX12_seated_155 (lv_at hl 3 rfl) ?_
                                  refine lv_aload_n hx hb dX12_seated_157 rfl (lv_at hl 0 rfl) ?_
                                  refine gM_9 hx hb htg hown hK hP dX12_seated_158 ?_
                                  refine lv_iload hx hb dX12_seated_161 (lv_at hl 3 rfl) ?_
                                  refine lM_9 hx hb hK hP (iv_in i_56 (by decide) (by decide)) dX12_seated_163 (fun v_87 ev_87 => ?_)
                                  obtain rfl : v_74 = v_87 := ev_74.trans ((congrFun ((fA_call (fA_rf [4] _) fa_83 (by decide)) 9 rfl) _).symm.trans ev_87.symm)
                                  refine lv_aload_n hx hb dX12_seated_164 rfl (lv_at hl 0 rfl) ?_
                                  refine gM_19 hx hb htg hown hK hP dX12_seated_165 ?_
                                  refine lv_iload hx hb dX12_seated_168 (lv_at hl 4 rfl) ?_
                                  refine lM_19 hx hb hK hP (iv_in i_72 (by decide) (by decide)) dX12_seated_170 (fun v_88 ev_88 => ?_)
                                  obtain rfl : v_76 = v_88 := ev_76.trans ((congrFun ((fA_call (fA_rf [4] _) fa_83 (by decide)) 19 rfl) _).symm.trans ev_88.symm)
                                  refine va_calli (va_runV (As := [.int x_44, .int v_74, .int v_76]) (rest := []) ⟨hx, hb, hml, hown, hts⟩ (m_walk l dC dI H.size h ad cA hd fv_79 wd_80 ar_81 hF_fv_79 hA_ar_81 x_44 v_74 v_76 i_56 i_75 i_77) (cwV 3 hts (gV kw_8_208 kw_8_210 kw_p_92 kw_1_15 kw_8_211) rfl rfl rfl (by decide +kernel) ⟨Nat.le_of_ble_eq_true rfl, Nat.le_of_ble_eq_true rfl⟩) ⟨fun a U g mk q => ⟨q.1, q.2.1, q.2.2.1, va_K.moved (u := U) (U := U.calling g mk a) (Vm.Alike.refl U.vm) q.2.2.2⟩, va_recv hK hP (ci := 12) (q0 := 0) rfl rfl, fun U hU hW => ⟨rfl, by rw [hU], by rw [hU]; exact hP, va_K.moved hW.alike hK⟩⟩ rfl rfl hl.1 rfl (lv_room (Nat.le_of_ble_eq_true rfl)) dX12_seated_171 ⟨Nat.le_of_ble_eq_true rfl, Nat.le_of_ble_eq_true rfl⟩) hS (fun q _ h9 => aM_up hS q h9) (aM_up hS) (fun r_89 u t H1 locs ht _ hw hB _ hk1 hS => ?_)
                                  obtain ⟨fv_90, wd_91, ar_92⟩ := u
                                  obtain ⟨hF_fv_90, hA_ar_92, fr_93, fa_94, -⟩ := hw
                                  have hP : va_P (dC, dI) vwCl (wsM h ad cA fv_90 wd_91 ar_92) H1 := by have h9 := hB.1; rw [ht] at h9; exact h9
                                  have fr_93 : fM [8] fv_79 fv_90 := fr_93
                                  have fa_94 : fA [4] ar_81 ar_92 := fa_94
                                  generalize H1 = H at hP hS ⊢
                                  refine lv_iload_n hx hb dX12_seated_174 rfl (lv_at hl 1 rfl) ?_
                                  refine lv_icmp_gt (tgt := 192) hx hb dX12_seated_175 (by decide) (fun c_95 => ?_) (fun c_95 => ?_)
                                  · skip
                                    have i_96 : 1 ≤ r_89.toInt ∧ r_89.toInt ≤ 2147483647 := iv_lt2 i_24 (iv_any r_89) c_95
                                    have k_97 := Int32.lt_iff_toInt_lt.mp c_95
                                    exact hj_110 fv_90 ar_92 wd_91 _ _ ls hF_fv_90 (fM_call (fM_rf [8] _) fr_93 (by decide)) hA_ar_92 (fA_call (fA_rf [4, 90] _) fa_94 (by decide)) hP hS (lv_sub hl [0, 1, 2, 3, 4] rfl)
                                  · skip
                                    have i_98 : (-2147483648) ≤ r_89.toInt ∧ r_89.toInt ≤ 200 := iv_le1 (iv_any r_89) i_24 (Int32.not_lt.mp c_95)
                                    have k_99 := Int32.le_iff_toInt_le.mp (Int32.not_lt.mp c_95)
                                    refine lv_aload_n hx hb dX12_seated_178 rfl (lv_at hl 0 rfl) ?_
                                    refine gM_90 hx hb htg hown hK hP dX12_seated_179 ?_
                                    refine lv_iload hx hb dX12_seated_182 (lv_at hl 3 rfl) ?_
                                    refine lv_dup2_11 hx hb dX12_seated_184 rfl rfl ?_
                                    refine lM_90 hx hb hK hP (iv_in i_56 (by decide) (by decide)) dX12_seated_185 (fun v_100 ev_100 => ?_)
                                    refine lv_iconst (v := 1) hx hb dX12_seated_186 (by decide) ?_
                                    refine lv_iload hx hb dX12_seated_187 (lv_at hl 4 rfl) ?_
                                    refine lv_ishl hx hb dX12_seated_189 ?_
                                    refine lv_topi (fun v_101 ev_101 => ?_)
                                    have i_102 : 1 ≤ v_101.toInt ∧ v_101.toInt ≤ 128 := iv_shl (k := 7) ev_101 (iv_w i_72 (by decide) (by decide)) rfl (by decide)
                                    refine lv_ior hx hb dX12_seated_190 ?_
                                    refine lv_topi (fun v_103 ev_103 => ?_)
                                    refine sM_90 hx hb hK hP hS hd (iv_in i_56 (by decide) (by decide)) dX12_seated_191 (fun H locs ar_104 ear_104 hP hS => ?_)
                                    have hA_ar_104 : rA ar_104 := rA_put hA_ar_92 ear_104 (iv_any _)
                                    exact hj_110 fv_90 ar_104 wd_91 _ _ ls hF_fv_90 (fM_call (fM_rf [8] _) fr_93 (by decide)) hA_ar_104 (fA_put (fA_call (fA_rf [4, 90] _) fa_94 (by decide)) ear_104 (by decide)) hP hS (lv_sub hl [0, 1, 2, 3, 4] rfl)
                        · skip
                          have z_117 : (0 : Int32).toInt = 0 := by decide
                          exact hj_68 9 0 fv_45 ar_59 wd_49 _ _ ls (by first | decide | omega) (iv_w (⟨by decide, by decide⟩ : (0 : Int) ≤ (0 : Int32).toInt ∧ (0 : Int32).toInt ≤ 0) (by decide) (by decide)) hF_fv_45 (fM_rf [8] _) hA_ar_59 (fA_rf [4, 90] _) hP hS (lv_sub hl [1, 2, 3, 4, 0] rfl)
                  · skip
                    have z_346 : (0 : Int32).toInt = 0 := by decide
                    exact hj_52 41 0 fv_32 ar_34 wd_36 _ _ ls (by first | decide | omega) (iv_w (⟨by decide, by decide⟩ : (0 : Int) ≤ (0 : Int32).toInt ∧ (0 : Int32).toInt ≤ 0) (by decide) (by decide)) hF_fv_32 (fM_rf [8] _) hA_ar_34 (fA_rf [4, 90] _) hP hS (lv_sub hl [1, 2, 3, 0] rfl)
                · skip
                  have i_347 : 0 ≤ x_31.toInt ∧ x_31.toInt ≤ 4 := iv_lt1 i_x_31 i_16 (Int32.not_le.mp c_41)
                  have k_348 := Int32.lt_iff_toInt_lt.mp (Int32.not_le.mp c_41)
                  refine lv_aload_n hx hb dX12_seated_50 rfl (lv_at hl 0 rfl) ?_
                  refine lv_aload_n hx hb dX12_seated_51 rfl (lv_at hl 0 rfl) ?_
                  refine gM_1 hx hb htg hown hK hP dX12_seated_52 ?_
                  refine lv_iload hx hb dX12_seated_55 (lv_at hl 4 rfl) ?_
                  refine lM_1 hx hb hK hP (iv_in i_347 (by decide) (by decide)) dX12_seated_57 (fun v_349 ev_349 => ?_)
                  have i_350 : 0 ≤ v_349.toInt ∧ v_349.toInt ≤ 255 := ev_349 ▸ hA_ar_34 1 _
                  refine va_calli (va_runV (As := [.int v_349]) (rest := []) ⟨hx, hb, hml, hown, hts⟩ (m_isWheelE l dC dI H.size h ad cA hd fv_32 wd_36 ar_34 hF_fv_32 hA_ar_34 v_349) (cwV 1 hts (gV kw_8_40 kw_8_42 kw_p_63 kw_1_15 kw_8_43) rfl rfl rfl (by decide +kernel) ⟨Nat.le_of_ble_eq_true rfl, Nat.le_of_ble_eq_true rfl⟩) ⟨fun a U g mk q => ⟨q.1, q.2.1, q.2.2.1, va_K.moved (u := U) (U := U.calling g mk a) (Vm.Alike.refl U.vm) q.2.2.2⟩, va_recv hK hP (ci := 12) (q0 := 0) rfl rfl, fun U hU hW => ⟨rfl, by rw [hU], by rw [hU]; exact hP, va_K.moved hW.alike hK⟩⟩ rfl rfl hl.1 rfl (lv_room (Nat.le_of_ble_eq_true rfl)) dX12_seated_58 ⟨Nat.le_of_ble_eq_true rfl, Nat.le_of_ble_eq_true rfl⟩) hS (fun q _ h9 => aM_up hS q h9) (aM_up hS) (fun r_351 u t H1 locs ht _ hw hB _ hk1 hS => ?_)
                  obtain ⟨fv_354, wd_355, ar_356⟩ := u
                  obtain ⟨hF_fv_354, hA_ar_356, fr_357, fa_358, p_352, p_353, -⟩ := hw
                  have hP : va_P (dC, dI) vwCl (wsM h ad cA fv_354 wd_355 ar_356) H1 := by have h9 := hB.1; rw [ht] at h9; exact h9
                  have fr_357 : fM [] fv_32 fv_354 := fr_357
                  have fa_358 : fA [] ar_34 ar_356 := fa_358
                  generalize H1 = H at hP hS ⊢
                  rcases p_353 with ⟨rfl, p_353⟩ | ⟨rfl, p_353⟩
                  · skip
                    have q_359 : v_349.toInt < 0 ∨ (fv_32 34).toInt ≤ v_349.toInt := p_353
                    refine lv_if_eq (tgt := 79) hx hb dX12_seated_61 (by decide) (fun c_360 => ?_) (fun c_360 => ?_)
                    · skip
                      refine lv_iconst (v := (-1)) hx hb dX12_seated_79 (by decide) ?_
                      have z_361 : ((-1) : Int32).toInt = (-1) := by decide
                      exact W.iret (v := (-1)) hx hb hr (fun t ht hW => ⟨⟨(-1), (fv_354, wd_355, ar_356), rfl, ⟨hF_fv_354, hA_ar_356, (fM_call (fM_call (fM_call (fM_put (fM_rf [0, 2, 8, 95] _) efv_1 (by decide)) fr_8 (by decide)) fr_33 (by decide)) fr_357 (by decide)), (fA_call (fA_call (fA_call (fA_rf [4, 90, 91, 92, 93, 94] _) fa_9 (by decide)) fa_35 (by decide)) fa_358 (by decide)), (show (fv_354 2).toInt = 0 from by rw [show fv_354 2 = (fv_5 2) from (fr_357 2 rfl).trans ((fr_33 2 rfl))]; omega), trivial⟩, ⟨by rw [ht]; exact hP, va_K.moved hW.alike hK⟩⟩, hS.F ht⟩) hS.2.2 dX12_seated_80
                    · skip
                      exact absurd c_360 (by decide)
                  · skip
                    have i_362 : 0 ≤ v_349.toInt ∧ v_349.toInt ≤ 19 := ⟨i_350.1, p_353.2.1⟩
                    have q_363 : v_349.toInt < (fv_32 34).toInt := p_353.2.2
                    refine lv_if_eq (tgt := 79) hx hb dX12_seated_61 (by decide) (fun c_364 => ?_) (fun c_364 => ?_)
                    · skip
                      exact absurd c_364 (by decide)
                    · skip
                      refine lv_iload_n hx hb dX12_seated_64 rfl (lv_at hl 3 rfl) ?_
                      refine lv_aload_n hx hb dX12_seated_65 rfl (lv_at hl 0 rfl) ?_
                      refine gM_1 hx hb htg hown hK hP dX12_seated_66 ?_
                      refine lv_iload hx hb dX12_seated_69 (lv_at hl 4 rfl) ?_
                      refine lM_1 hx hb hK hP (iv_in i_347 (by decide) (by decide)) dX12_seated_71 (fun v_365 ev_365 => ?_)
                      obtain rfl : v_349 = v_365 := ev_349.trans ((congrFun ((fA_call (fA_rf [] _) fa_358 (by decide)) 1 rfl) _).symm.trans ev_365.symm)
                      refine lv_ishr hx hb dX12_seated_72 ?_
                      refine lv_topi (fun v_366 ev_366 => ?_)
                      refine lv_iconst (v := 1) hx hb dX12_seated_73 (by decide) ?_
                      refine lv_iand hx hb dX12_seated_74 ?_
                      refine lv_topi (fun v_367 ev_367 => ?_)
                      have i_368 : 0 ≤ v_367.toInt ∧ v_367.toInt ≤ 1 := iv_1 ev_367
                      refine lv_iconst (v := 1) hx hb dX12_seated_75 (by decide) ?_
                      refine lv_icmp_ne (tgt := 81) hx hb dX12_seated_76 (by decide) (fun c_369 => ?_) (fun c_369 => ?_)
                      · skip
                        have i_370 : 0 ≤ v_367.toInt ∧ v_367.toInt ≤ 0 := iv_neh i_368 (by decide) c_369
                        have k_371 : ¬ v_367.toInt = 1 := fun q => c_369 (Int32.toInt_inj.mp q)
                        refine lv_iload_n hx hb dX12_seated_81 rfl (lv_at hl 3 rfl) ?_
                        refine lv_iconst (v := 1) hx hb dX12_seated_82 (by decide) ?_
                        refine lv_aload_n hx hb dX12_seated_83 rfl (lv_at hl 0 rfl) ?_
                        refine gM_1 hx hb htg hown hK hP dX12_seated_84 ?_
                        refine lv_iload hx hb dX12_seated_87 (lv_at hl 4 rfl) ?_
                        refine lM_1 hx hb hK hP (iv_in i_347 (by decide) (by decide)) dX12_seated_89 (fun v_372 ev_372 => ?_)
                        obtain rfl : v_349 = v_372 := ev_349.trans ((congrFun ((fA_call (fA_rf [] _) fa_358 (by decide)) 1 rfl) _).symm.trans ev_372.symm)
                        refine lv_ishl hx hb dX12_seated_90 ?_
                        refine lv_topi (fun v_373 ev_373 => ?_)
                        have i_374 : 1 ≤ v_373.toInt ∧ v_373.toInt ≤ 524288 := iv_shl (k := 19) ev_373 (iv_w i_362 (by decide) (by decide)) rfl (by decide)
                        refine lv_ior hx hb dX12_seated_91 ?_
                        refine lv_topi (fun v_375 ev_375 => ?_)
                        refine lv_istore_n (lv' := [(3, .int v_375), (0, .ref h), (1, .int mm), (2, .int r_2), (4, .int x_31)]) hx hb dX12_seated_92 rfl hl (by decide) rfl (fun ls hl => ?_)
                        obtain ⟨v_376, ev_376⟩ : ∃ z : Int32, z = x_31 + 1 := ⟨_, rfl⟩
                        refine lv_iinc (v := v_376) (lv' := [(4, .int v_376), (3, .int v_375), (0, .ref h), (1, .int mm), (2, .int r_2)]) hx hb dX12_seated_93 hl (k := 4) rfl (by rw [ev_376]; rfl) (by decide) rfl (fun ls hl => ?_)
                        have t_377 : v_376.toInt = x_31.toInt + 1 ∧ 1 ≤ v_376.toInt ∧ v_376.toInt ≤ 5 := iv_addc ev_376 i_347 (by decide) (by decide) (by decide)
                        refine lv_goto (tgt := 44) hx hb dX12_seated_96 (by decide) ?_
                        exact ih_38 v_375 v_376 fv_354 ar_356 wd_355 _ _ ls (by omega) (iv_w t_377.2 (by decide) (by decide)) hF_fv_354 (fM_call (fM_call (fM_rf [] _) fr_33 (by decide)) fr_357 (by decide)) hA_ar_356 (fA_call (fA_call (fA_rf [] _) fa_35 (by decide)) fa_358 (by decide)) (fun j hj => by rcases Int.lt_or_le (j : Int) x_31.toInt with c9 | c9; exact q_37 j c9; rw [show j = x_31.toInt.toNat from by omega]; show (ar 1 (Int32.toNatClampNeg x_31)).toInt ≤ 19; rw [← ((fA_call (fA_call (fA_rf [] _) fa_9 (by decide)) fa_35 (by decide)) 1 rfl), ← ev_349]; exact (i_362).2) hP hS (lv_sub hl [2, 3, 4, 1, 0] rfl)
                      · skip
                        have i_379 : 1 ≤ v_367.toInt ∧ v_367.toInt ≤ 1 := iv_eq1 (⟨by decide, by decide⟩ : (1 : Int) ≤ (1 : Int32).toInt ∧ (1 : Int32).toInt ≤ 1) c_369
                        refine lv_iconst (v := (-1)) hx hb dX12_seated_79 (by decide) ?_
                        have z_381 : ((-1) : Int32).toInt = (-1) := by decide
                        exact W.iret (v := (-1)) hx hb hr (fun t ht hW => ⟨⟨(-1), (fv_354, wd_355, ar_356), rfl, ⟨hF_fv_354, hA_ar_356, (fM_call (fM_call (fM_call (fM_put (fM_rf [0, 2, 8, 95] _) efv_1 (by decide)) fr_8 (by decide)) fr_33 (by decide)) fr_357 (by decide)), (fA_call (fA_call (fA_call (fA_rf [4, 90, 91, 92, 93, 94] _) fa_9 (by decide)) fa_35 (by decide)) fa_358 (by decide)), (show (fv_354 2).toInt = 0 from by rw [show fv_354 2 = (fv_5 2) from (fr_357 2 rfl).trans ((fr_33 2 rfl))]; omega), trivial⟩, ⟨by rw [ht]; exact hP, va_K.moved hW.alike hK⟩⟩, hS.F ht⟩) hS.2.2 dX12_seated_80
            · skip
              have z_382 : (0 : Int32).toInt = 0 := by decide
              exact hj_40 6 0 0 fv_5 ar_7 wd_6 _ _ ls (by first | decide | omega) (iv_w (⟨by decide, by decide⟩ : (0 : Int) ≤ (0 : Int32).toInt ∧ (0 : Int32).toInt ≤ 0) (by decide) (by decide)) hF_fv_5 (fM_rf [] _) hA_ar_7 (fA_rf [] _) (fun j hj => absurd hj (by omega)) hP hS (lv_sub hl [3, 4, 2, 1, 0] rfl)
          · skip
            have i_383 : 0 ≤ (fv 33).toInt ∧ (fv 33).toInt ≤ 0 := iv_eq1 (⟨by decide, by decide⟩ : (0 : Int) ≤ (0 : Int32).toInt ∧ (0 : Int32).toInt ≤ 0) c_27
            refine lv_iconst (v := (-1)) hx hb dX12_seated_37 (by decide) ?_
            have z_385 : ((-1) : Int32).toInt = (-1) := by decide
            exact W.iret (v := (-1)) hx hb hr (fun t ht hW => ⟨⟨(-1), (fv_5, wd_6, ar_7), rfl, ⟨hF_fv_5, hA_ar_7, (fM_call (fM_put (fM_rf [0, 2, 8, 95] _) efv_1 (by decide)) fr_8 (by decide)), (fA_call (fA_rf [4, 90, 91, 92, 93, 94] _) fa_9 (by decide)), (show (fv_5 2).toInt = 0 from by rw [show fv_5 2 = (fv_5 2) from rfl]; omega), trivial⟩, ⟨by rw [ht]; exact hP, va_K.moved hW.alike hK⟩⟩, hS.F ht⟩) hS.2.2 dX12_seated_38

set_option maxHeartbeats 4000000 in
set_option maxRecDepth 100000 in
theorem m_isWheelE (l : Launch) (dC : Nat → ClassId) (dI : Nat → Nat → Nat) (sz h : Nat) (ad : Nat → Nat) (cA : Nat → ClassId) (hd : dM h ad) (fv : Nat → Int32) (wd : Int64) (ar : Nat → Nat → Int32) (hF_fv : rF fv) (hA_ar : rA ar) (v : Int32) : Met l yX12_isWheel (.code yX12_isWheel cX12_isWheel 2 (some .boolean) :: lw_good) ({ frames := 2, cells := 0, slots := 0, locals := 40 }) (va_Pc [.ref h, .int v] (prM dC dI h ad cA fv wd ar sz)) (va_Qi (fun (r : Int32) (u : mS) => rF u.1 ∧ rA u.2.2 ∧ fM [] fv u.1 ∧ fA [] ar u.2.2 ∧ (0 ≤ r.toInt ∧ r.toInt ≤ 1) ∧ ((r = 0 ∧ (v.toInt < 0 ∨ (fv 34).toInt ≤ v.toInt)) ∨ (r = 1 ∧ (0 ≤ v.toInt) ∧ (v.toInt ≤ 19) ∧ (v.toInt < (fv 34).toInt))) ∧ True) (enM dC dI h ad cA) (aM h ad sz)) 0 0 (aM h ad sz) := by
  refine Met.ofW (cc := cX12_isWheel) (maxL := 2) (ret := (some .boolean)) (by decide) rfl ?_
  intro p e s m args below meth c s₁ B hml hv
  obtain ⟨rfl, hsz, hP, hK⟩ := hv
  have hx := B.exec
  have hb := B.bytes
  have hr := B.returns
  have hts := atoms_spec (ws := (.code yX12_isWheel cX12_isWheel 2 (some .boolean) :: lw_good)) B.pre
  have htg : ∀ w ∈ lw_good, w.before _ s = true := fun w hw => hts w (List.mem_cons_of_mem _ hw)
  have hown : s.vm.findClass RX12 = some m.cls := findClass_of_methodNamed B.named
  have hlocks := B.notSynchronized
  subst hsz
  have hS : va_S (aM h ad s.heap.size) s.heap s.heap [] := va_S.rf
  have hl := lv_entry ([.ref h, .int v]) (n := 2) (Nat.le_of_ble_eq_true rfl)
  rw [lg_entry_eq]
  generalize (lg_sl ([.ref h, .int v]) ++ List.replicate (2 - (lg_sl ([.ref h, .int v])).length) Slot.unset).toArray = ls at hl ⊢
  have hl : lv_has ls 2 [(0, .ref h), (1, .int v)] := hl
  have zc0 : (0 : Int32).toInt = 0 := by decide
  have zc1 : (1 : Int32).toInt = 1 := by decide
  have zc2 : (2 : Int32).toInt = 2 := by decide
  have zc9 : (9 : Int32).toInt = 9 := by decide
  have zc11 : (11 : Int32).toInt = 11 := by decide
  have zc12 : (12 : Int32).toInt = 12 := by decide
  have zc19 : (19 : Int32).toInt = 19 := by decide
  have zc99 : (99 : Int32).toInt = 99 := by decide
  have zc199 : (199 : Int32).toInt = 199 := by decide
  have zc719 : (719 : Int32).toInt = 719 := by decide
  have zc20 : (20 : Int32).toInt = 20 := by decide
  have zc340 : (340 : Int32).toInt = 340 := by decide
  have zcm1 : ((-1) : Int32).toInt = (-1) := by decide
  refine lv_iload_n hx hb dX12_isWheel_0 rfl (lv_at hl 1 rfl) ?_
  refine lv_if_lt (tgt := 16) hx hb dX12_isWheel_1 (by decide) (fun c_1 => ?_) (fun c_1 => ?_)
  · skip
    have i_2 : (-2147483648) ≤ v.toInt ∧ v.toInt ≤ (-1) := iv_lt1 (iv_any v) (⟨by decide, by decide⟩ : (0 : Int) ≤ (0 : Int32).toInt ∧ (0 : Int32).toInt ≤ 0) c_1
    refine lv_iconst (v := 0) hx hb dX12_isWheel_16 (by decide) ?_
    exact W.zret (v := 0) hx hb hr (by decide) (fun t ht hW => ⟨⟨0, (fv, wd, ar), rfl, ⟨hF_fv, hA_ar, (fM_rf [] _), (fA_rf [] _), (iv_w (⟨by decide, by decide⟩ : (0 : Int) ≤ (0 : Int32).toInt ∧ (0 : Int32).toInt ≤ 0) (by decide) (by decide)), (Or.inl ⟨rfl, by omega⟩), trivial⟩, ⟨by rw [ht]; exact hP, va_K.moved hW.alike hK⟩⟩, hS.F ht⟩) hS.2.2 dX12_isWheel_17
  · skip
    have i_3 : 0 ≤ v.toInt ∧ v.toInt ≤ 2147483647 := iv_le2 (⟨by decide, by decide⟩ : (0 : Int) ≤ (0 : Int32).toInt ∧ (0 : Int32).toInt ≤ 0) (iv_any v) (Int32.not_lt.mp c_1)
    refine lv_iload_n hx hb dX12_isWheel_4 rfl (lv_at hl 1 rfl) ?_
    refine lv_aload_n hx hb dX12_isWheel_5 rfl (lv_at hl 0 rfl) ?_
    refine gM_34 hx hb htg hown hK hP dX12_isWheel_6 ?_
    have i_4 : 0 ≤ (fv 34).toInt ∧ (fv 34).toInt ≤ 20 := hF_fv 34
    refine lv_icmp_ge (tgt := 16) hx hb dX12_isWheel_9 (by decide) (fun c_5 => ?_) (fun c_5 => ?_)
    · skip
      have k_6 := Int32.le_iff_toInt_le.mp c_5
      refine lv_iconst (v := 0) hx hb dX12_isWheel_16 (by decide) ?_
      exact W.zret (v := 0) hx hb hr (by decide) (fun t ht hW => ⟨⟨0, (fv, wd, ar), rfl, ⟨hF_fv, hA_ar, (fM_rf [] _), (fA_rf [] _), (iv_w (⟨by decide, by decide⟩ : (0 : Int) ≤ (0 : Int32).toInt ∧ (0 : Int32).toInt ≤ 0) (by decide) (by decide)), (Or.inl ⟨rfl, by omega⟩), trivial⟩, ⟨by rw [ht]; exact hP, va_K.moved hW.alike hK⟩⟩, hS.F ht⟩) hS.2.2 dX12_isWheel_17
    · skip
      have i_7 : 0 ≤ v.toInt ∧ v.toInt ≤ 19 := iv_lt1 i_3 i_4 (Int32.not_le.mp c_5)
      have i_8 : 1 ≤ (fv 34).toInt ∧ (fv 34).toInt ≤ 20 := iv_lt2 i_3 i_4 (Int32.not_le.mp c_5)
      have k_9 := Int32.lt_iff_toInt_lt.mp (Int32.not_le.mp c_5)
      refine lv_iconst (v := 1) hx hb dX12_isWheel_12 (by decide) ?_
      refine lv_goto (tgt := 17) hx hb dX12_isWheel_13 (by decide) ?_
      exact W.zret (v := 1) hx hb hr (by decide) (fun t ht hW => ⟨⟨1, (fv, wd, ar), rfl, ⟨hF_fv, hA_ar, (fM_rf [] _), (fA_rf [] _), (iv_w (⟨by decide, by decide⟩ : (1 : Int) ≤ (1 : Int32).toInt ∧ (1 : Int32).toInt ≤ 1) (by decide) (by decide)), (Or.inr (⟨rfl, by omega⟩)), trivial⟩, ⟨by rw [ht]; exact hP, va_K.moved hW.alike hK⟩⟩, hS.F ht⟩) hS.2.2 dX12_isWheel_17
set_option maxHeartbeats 4000000 in
set_option maxRecDepth 100000 in
theorem m_streetE (l : Launch) (dC : Nat → ClassId) (dI : Nat → Nat → Nat) (sz h : Nat) (ad : Nat → Nat) (cA : Nat → ClassId) (hd : dM h ad) (fv : Nat → Int32) (wd : Int64) (ar : Nat → Nat → Int32) (hF_fv : rF fv) (hA_ar : rA ar) (a : Int32) (b : Int32) (v : Int32) : Met l yX12_street (.code yX12_street cX12_street 9 (some .boolean) :: lw_good) ({ frames := 3, cells := 0, slots := 0, locals := 62 }) (va_Pc [.ref h, .int a, .int b, .int v] (prM dC dI h ad cA fv wd ar sz)) (va_Qi (fun (r : Int32) (u : mS) => rF u.1 ∧ rA u.2.2 ∧ fM [0, 6, 8] fv u.1 ∧ fA [4] ar u.2.2 ∧ (0 ≤ r.toInt ∧ r.toInt ≤ 1) ∧ (ps_street r (u.1 6) (fv 6) a b v) ∧ True) (enM dC dI h ad cA) (aM h ad sz)) 0 0 (aM h ad sz) := by
  refine Met.ofW (cc := cX12_street) (maxL := 9) (ret := (some .boolean)) (by decide) rfl ?_
  intro p e s m args below meth c s₁ B hml hv
  obtain ⟨rfl, hsz, hP, hK⟩ := hv
  have hx := B.exec
  have hb := B.bytes
  have hr := B.returns
  have hts := atoms_spec (ws := (.code yX12_street cX12_street 9 (some .boolean) :: lw_good)) B.pre
  have htg : ∀ w ∈ lw_good, w.before _ s = true := fun w hw => hts w (List.mem_cons_of_mem _ hw)
  have hown : s.vm.findClass RX12 = some m.cls := findClass_of_methodNamed B.named
  have hlocks := B.notSynchronized
  subst hsz
  have hS : va_S (aM h ad s.heap.size) s.heap s.heap [] := va_S.rf
  have hl := lv_entry ([.ref h, .int a, .int b, .int v]) (n := 9) (Nat.le_of_ble_eq_true rfl)
  rw [lg_entry_eq]
  generalize (lg_sl ([.ref h, .int a, .int b, .int v]) ++ List.replicate (9 - (lg_sl ([.ref h, .int a, .int b, .int v])).length) Slot.unset).toArray = ls at hl ⊢
  have hl : lv_has ls 9 [(0, .ref h), (1, .int a), (2, .int b), (3, .int v)] := hl
  have zc0 : (0 : Int32).toInt = 0 := by decide
  have zc1 : (1 : Int32).toInt = 1 := by decide
  have zc2 : (2 : Int32).toInt = 2 := by decide
  have zc9 : (9 : Int32).toInt = 9 := by decide
  have zc11 : (11 : Int32).toInt = 11 := by decide
  have zc12 : (12 : Int32).toInt = 12 := by decide
  have zc19 : (19 : Int32).toInt = 19 := by decide
  have zc99 : (99 : Int32).toInt = 99 := by decide
  have zc199 : (199 : Int32).toInt = 199 := by decide
  have zc719 : (719 : Int32).toInt = 719 := by decide
  have zc20 : (20 : Int32).toInt = 20 := by decide
  have zc340 : (340 : Int32).toInt = 340 := by decide
  have zcm1 : ((-1) : Int32).toInt = (-1) := by decide
  refine lv_aload_n hx hb dX12_street_0 rfl (lv_at hl 0 rfl) ?_
  refine lv_iconst (v := 0) hx hb dX12_street_1 (by decide) ?_
  refine pM_0 hx hb htg hown hK hP hS hd dX12_street_2 (fun H locs fv_1 efv_1 hP hS => ?_)
  have hF_fv_1 : rF fv_1 := rF_put hF_fv efv_1 (iv_any _)
  refine lv_aload_n hx hb dX12_street_5 rfl (lv_at hl 0 rfl) ?_
  refine gM_6 hx hb htg hown hK hP dX12_street_6 ?_
  refine my_ti (y := fv 6) ((congrFun efv_1 6)) ?_
  have i_2 : 0 ≤ (fv 6).toInt ∧ (fv 6).toInt ≤ 30 := hF_fv 6
  refine lv_bipush (v := 30) hx hb dX12_street_9 (by decide) ?_
  refine lv_icmp_eq (tgt := 43) hx hb dX12_street_11 (by decide) (fun c_3 => ?_) (fun c_3 => ?_)
  · skip
    have i_4 : 30 ≤ (fv 6).toInt ∧ (fv 6).toInt ≤ 30 := iv_eq1 (⟨by decide, by decide⟩ : (30 : Int) ≤ (30 : Int32).toInt ∧ (30 : Int32).toInt ≤ 30) c_3
    refine lv_iconst (v := 0) hx hb dX12_street_43 (by decide) ?_
    have z_6 : (0 : Int32).toInt = 0 := by decide
    exact W.zret (v := 0) hx hb hr (by decide) (fun t ht hW => ⟨⟨0, (fv_1, wd, ar), rfl, ⟨hF_fv_1, hA_ar, (fM_put (fM_rf [0, 6, 8] _) efv_1 (by decide)), (fA_rf [4] _), (iv_w (⟨by decide, by decide⟩ : (0 : Int) ≤ (0 : Int32).toInt ∧ (0 : Int32).toInt ≤ 0) (by decide) (by decide)), (show ps_street (0 : Int32) (fv_1 6) (fv 6) a b v from by have q_fv_1_33 : (fv_1 33).toInt = (fv 33).toInt := congrArg Int32.toInt ((fM_put (fM_rf [0] _) efv_1 (by decide)) 33 rfl); have q_fv_1_3 : (fv_1 3).toInt = (fv 3).toInt := congrArg Int32.toInt ((fM_put (fM_rf [0] _) efv_1 (by decide)) 3 rfl); have q_fv_1_6 : (fv_1 6).toInt = (fv 6).toInt := congrArg Int32.toInt ((fM_put (fM_rf [0] _) efv_1 (by decide)) 6 rfl); have q_fv_1_34 : (fv_1 34).toInt = (fv 34).toInt := congrArg Int32.toInt ((fM_put (fM_rf [0] _) efv_1 (by decide)) 34 rfl); have q_fv_1_35 : (fv_1 35).toInt = (fv 35).toInt := congrArg Int32.toInt ((fM_put (fM_rf [0] _) efv_1 (by decide)) 35 rfl); have q_fv_1_2 : (fv_1 2).toInt = (fv 2).toInt := congrArg Int32.toInt ((fM_put (fM_rf [0] _) efv_1 (by decide)) 2 rfl); exact Or.inl ⟨rfl, (congrFun efv_1 6), by omega⟩), trivial⟩, ⟨by rw [ht]; exact hP, va_K.moved hW.alike hK⟩⟩, hS.F ht⟩) hS.2.2 dX12_street_44
  · skip
    have i_7 : 0 ≤ (fv 6).toInt ∧ (fv 6).toInt ≤ 29 := iv_neh i_2 (by decide) c_3
    have k_8 : ¬ (fv 6).toInt = 30 := fun q => c_3 (Int32.toInt_inj.mp q)
    refine lv_iload_n hx hb dX12_street_14 rfl (lv_at hl 1 rfl) ?_
    refine va_calli (va_runS (As := [.int a]) (rest := []) ⟨hx, hb, hml, hown, hts⟩ (m_isCorner l H.size a) (va_cwS 1 hts (gS kw_7_225 kw_7_226 kw_1_15 kw_7_227) rfl rfl rfl (by decide +kernel) ⟨Nat.le_of_ble_eq_true rfl, Nat.le_of_ble_eq_true rfl⟩) ⟨fun a U g mk q => ⟨q.1, q.2⟩, fun U hU hW => ⟨rfl, congrArg Array.size hU⟩⟩ rfl rfl hl.1 rfl (lv_room (Nat.le_of_ble_eq_true rfl)) dX12_street_15 ⟨Nat.le_of_ble_eq_true rfl, Nat.le_of_ble_eq_true rfl⟩) hS (fun q _ h9 => nM_up hS q h9) (nM_up hS) (fun r_9 u t H1 locs ht _ hw hB _ hk1 hS => ?_)
    obtain ⟨p_10, p_11, -⟩ := hw
    have hP := my_keepM hP hk1
    generalize H1 = H at hP hS ⊢
    rcases p_11 with ⟨rfl, p_11⟩ | ⟨rfl, p_11⟩
    · skip
      refine lv_if_eq (tgt := 43) hx hb dX12_street_18 (by decide) (fun c_12 => ?_) (fun c_12 => ?_)
      · skip
        refine lv_iconst (v := 0) hx hb dX12_street_43 (by decide) ?_
        have z_13 : (0 : Int32).toInt = 0 := by decide
        exact W.zret (v := 0) hx hb hr (by decide) (fun t ht hW => ⟨⟨0, (fv_1, wd, ar), rfl, ⟨hF_fv_1, hA_ar, (fM_put (fM_rf [0, 6, 8] _) efv_1 (by decide)), (fA_rf [4] _), (iv_w (⟨by decide, by decide⟩ : (0 : Int) ≤ (0 : Int32).toInt ∧ (0 : Int32).toInt ≤ 0) (by decide) (by decide)), (show ps_street (0 : Int32) (fv_1 6) (fv 6) a b v from by have q_fv_1_33 : (fv_1 33).toInt = (fv 33).toInt := congrArg Int32.toInt ((fM_put (fM_rf [0] _) efv_1 (by decide)) 33 rfl); have q_fv_1_3 : (fv_1 3).toInt = (fv 3).toInt := congrArg Int32.toInt ((fM_put (fM_rf [0] _) efv_1 (by decide)) 3 rfl); have q_fv_1_6 : (fv_1 6).toInt = (fv 6).toInt := congrArg Int32.toInt ((fM_put (fM_rf [0] _) efv_1 (by decide)) 6 rfl); have q_fv_1_34 : (fv_1 34).toInt = (fv 34).toInt := congrArg Int32.toInt ((fM_put (fM_rf [0] _) efv_1 (by decide)) 34 rfl); have q_fv_1_35 : (fv_1 35).toInt = (fv 35).toInt := congrArg Int32.toInt ((fM_put (fM_rf [0] _) efv_1 (by decide)) 35 rfl); have q_fv_1_2 : (fv_1 2).toInt = (fv 2).toInt := congrArg Int32.toInt ((fM_put (fM_rf [0] _) efv_1 (by decide)) 2 rfl); exact Or.inl ⟨rfl, (congrFun efv_1 6), by omega⟩), trivial⟩, ⟨by rw [ht]; exact hP, va_K.moved hW.alike hK⟩⟩, hS.F ht⟩) hS.2.2 dX12_street_44
      · skip
        exact absurd c_12 (by decide)
    · skip
      have i_14 : 0 ≤ a.toInt ∧ a.toInt ≤ 2147483647 := ⟨p_11.1, (iv_any a).2⟩
      have i_15 : 0 ≤ a.toInt ∧ a.toInt ≤ 11 := ⟨i_14.1, p_11.2⟩
      refine lv_if_eq (tgt := 43) hx hb dX12_street_18 (by decide) (fun c_16 => ?_) (fun c_16 => ?_)
      · skip
        exact absurd c_16 (by decide)
      · skip
        refine lv_iload_n hx hb dX12_street_21 rfl (lv_at hl 2 rfl) ?_
        refine va_calli (va_runS (As := [.int b]) (rest := []) ⟨hx, hb, hml, hown, hts⟩ (m_isCorner l H.size b) (va_cwS 1 hts (gS kw_7_225 kw_7_226 kw_1_15 kw_7_227) rfl rfl rfl (by decide +kernel) ⟨Nat.le_of_ble_eq_true rfl, Nat.le_of_ble_eq_true rfl⟩) ⟨fun a U g mk q => ⟨q.1, q.2⟩, fun U hU hW => ⟨rfl, congrArg Array.size hU⟩⟩ rfl rfl hl.1 rfl (lv_room (Nat.le_of_ble_eq_true rfl)) dX12_street_22 ⟨Nat.le_of_ble_eq_true rfl, Nat.le_of_ble_eq_true rfl⟩) hS (fun q _ h9 => nM_up hS q h9) (nM_up hS) (fun r_17 u t H1 locs ht _ hw hB _ hk1 hS => ?_)
        obtain ⟨p_18, p_19, -⟩ := hw
        have hP := my_keepM hP hk1
        generalize H1 = H at hP hS ⊢
        rcases p_19 with ⟨rfl, p_19⟩ | ⟨rfl, p_19⟩
        · skip
          refine lv_if_eq (tgt := 43) hx hb dX12_street_25 (by decide) (fun c_20 => ?_) (fun c_20 => ?_)
          · skip
            refine lv_iconst (v := 0) hx hb dX12_street_43 (by decide) ?_
            have z_21 : (0 : Int32).toInt = 0 := by decide
            exact W.zret (v := 0) hx hb hr (by decide) (fun t ht hW => ⟨⟨0, (fv_1, wd, ar), rfl, ⟨hF_fv_1, hA_ar, (fM_put (fM_rf [0, 6, 8] _) efv_1 (by decide)), (fA_rf [4] _), (iv_w (⟨by decide, by decide⟩ : (0 : Int) ≤ (0 : Int32).toInt ∧ (0 : Int32).toInt ≤ 0) (by decide) (by decide)), (show ps_street (0 : Int32) (fv_1 6) (fv 6) a b v from by have q_fv_1_33 : (fv_1 33).toInt = (fv 33).toInt := congrArg Int32.toInt ((fM_put (fM_rf [0] _) efv_1 (by decide)) 33 rfl); have q_fv_1_3 : (fv_1 3).toInt = (fv 3).toInt := congrArg Int32.toInt ((fM_put (fM_rf [0] _) efv_1 (by decide)) 3 rfl); have q_fv_1_6 : (fv_1 6).toInt = (fv 6).toInt := congrArg Int32.toInt ((fM_put (fM_rf [0] _) efv_1 (by decide)) 6 rfl); have q_fv_1_34 : (fv_1 34).toInt = (fv 34).toInt := congrArg Int32.toInt ((fM_put (fM_rf [0] _) efv_1 (by decide)) 34 rfl); have q_fv_1_35 : (fv_1 35).toInt = (fv 35).toInt := congrArg Int32.toInt ((fM_put (fM_rf [0] _) efv_1 (by decide)) 35 rfl); have q_fv_1_2 : (fv_1 2).toInt = (fv 2).toInt := congrArg Int32.toInt ((fM_put (fM_rf [0] _) efv_1 (by decide)) 2 rfl); exact Or.inl ⟨rfl, (congrFun efv_1 6), by omega⟩), trivial⟩, ⟨by rw [ht]; exact hP, va_K.moved hW.alike hK⟩⟩, hS.F ht⟩) hS.2.2 dX12_street_44
          · skip
            exact absurd c_20 (by decide)
        · skip
          have i_22 : 0 ≤ b.toInt ∧ b.toInt ≤ 2147483647 := ⟨p_19.1, (iv_any b).2⟩
          have i_23 : 0 ≤ b.toInt ∧ b.toInt ≤ 11 := ⟨i_22.1, p_19.2⟩
          refine lv_if_eq (tgt := 43) hx hb dX12_street_25 (by decide) (fun c_24 => ?_) (fun c_24 => ?_)
          · skip
            exact absurd c_24 (by decide)
          · skip
            refine lv_iload_n hx hb dX12_street_28 rfl (lv_at hl 1 rfl) ?_
            refine lv_iload_n hx hb dX12_street_29 rfl (lv_at hl 2 rfl) ?_
            refine lv_icmp_eq (tgt := 43) hx hb dX12_street_30 (by decide) (fun c_25 => ?_) (fun c_25 => ?_)
            · skip
              have k_26 := congrArg Int32.toInt c_25
              refine lv_iconst (v := 0) hx hb dX12_street_43 (by decide) ?_
              have z_27 : (0 : Int32).toInt = 0 := by decide
              exact W.zret (v := 0) hx hb hr (by decide) (fun t ht hW => ⟨⟨0, (fv_1, wd, ar), rfl, ⟨hF_fv_1, hA_ar, (fM_put (fM_rf [0, 6, 8] _) efv_1 (by decide)), (fA_rf [4] _), (iv_w (⟨by decide, by decide⟩ : (0 : Int) ≤ (0 : Int32).toInt ∧ (0 : Int32).toInt ≤ 0) (by decide) (by decide)), (show ps_street (0 : Int32) (fv_1 6) (fv 6) a b v from by have q_fv_1_33 : (fv_1 33).toInt = (fv 33).toInt := congrArg Int32.toInt ((fM_put (fM_rf [0] _) efv_1 (by decide)) 33 rfl); have q_fv_1_3 : (fv_1 3).toInt = (fv 3).toInt := congrArg Int32.toInt ((fM_put (fM_rf [0] _) efv_1 (by decide)) 3 rfl); have q_fv_1_6 : (fv_1 6).toInt = (fv 6).toInt := congrArg Int32.toInt ((fM_put (fM_rf [0] _) efv_1 (by decide)) 6 rfl); have q_fv_1_34 : (fv_1 34).toInt = (fv 34).toInt := congrArg Int32.toInt ((fM_put (fM_rf [0] _) efv_1 (by decide)) 34 rfl); have q_fv_1_35 : (fv_1 35).toInt = (fv 35).toInt := congrArg Int32.toInt ((fM_put (fM_rf [0] _) efv_1 (by decide)) 35 rfl); have q_fv_1_2 : (fv_1 2).toInt = (fv 2).toInt := congrArg Int32.toInt ((fM_put (fM_rf [0] _) efv_1 (by decide)) 2 rfl); exact Or.inl ⟨rfl, (congrFun efv_1 6), by omega⟩), trivial⟩, ⟨by rw [ht]; exact hP, va_K.moved hW.alike hK⟩⟩, hS.F ht⟩) hS.2.2 dX12_street_44
            · skip
              have k_28 : ¬ a.toInt = b.toInt := fun q => c_25 (Int32.toInt_inj.mp q)
              refine lv_iload_n hx hb dX12_street_33 rfl (lv_at hl 3 rfl) ?_
              refine lv_iconst (v := 1) hx hb dX12_street_34 (by decide) ?_
              refine lv_bipush (v := 99) hx hb dX12_street_35 (by decide) ?_
              refine va_calli (va_runS (As := [.int v, .int 1, .int 99]) (rest := []) ⟨hx, hb, hml, hown, hts⟩ (m_isIn l H.size v 1 99) (va_cwS 3 hts (gS kw_7_218 kw_7_219 kw_1_15 kw_7_220) rfl rfl rfl (by decide +kernel) ⟨Nat.le_of_ble_eq_true rfl, Nat.le_of_ble_eq_true rfl⟩) ⟨fun a U g mk q => ⟨q.1, q.2⟩, fun U hU hW => ⟨rfl, congrArg Array.size hU⟩⟩ rfl rfl hl.1 rfl (lv_room (Nat.le_of_ble_eq_true rfl)) dX12_street_37 ⟨Nat.le_of_ble_eq_true rfl, Nat.le_of_ble_eq_true rfl⟩) hS (fun q _ h9 => nM_up hS q h9) (nM_up hS) (fun r_29 u t H1 locs ht _ hw hB _ hk1 hS => ?_)
              obtain ⟨p_30, p_31, -⟩ := hw
              have hP := my_keepM hP hk1
              generalize H1 = H at hP hS ⊢
              rcases p_31 with ⟨rfl, p_31⟩ | ⟨rfl, p_31⟩
              · skip
                refine lv_if_ne (tgt := 45) hx hb dX12_street_40 (by decide) (fun c_32 => ?_) (fun c_32 => ?_)
                · skip
                  exact absurd c_32 (by decide)
                · skip
                  refine lv_iconst (v := 0) hx hb dX12_street_43 (by decide) ?_
                  have z_33 : (0 : Int32).toInt = 0 := by decide
                  exact W.zret (v := 0) hx hb hr (by decide) (fun t ht hW => ⟨⟨0, (fv_1, wd, ar), rfl, ⟨hF_fv_1, hA_ar, (fM_put (fM_rf [0, 6, 8] _) efv_1 (by decide)), (fA_rf [4] _), (iv_w (⟨by decide, by decide⟩ : (0 : Int) ≤ (0 : Int32).toInt ∧ (0 : Int32).toInt ≤ 0) (by decide) (by decide)), (show ps_street (0 : Int32) (fv_1 6) (fv 6) a b v from by have q_fv_1_33 : (fv_1 33).toInt = (fv 33).toInt := congrArg Int32.toInt ((fM_put (fM_rf [0] _) efv_1 (by decide)) 33 rfl); have q_fv_1_3 : (fv_1 3).toInt = (fv 3).toInt := congrArg Int32.toInt ((fM_put (fM_rf [0] _) efv_1 (by decide)) 3 rfl); have q_fv_1_6 : (fv_1 6).toInt = (fv 6).toInt := congrArg Int32.toInt ((fM_put (fM_rf [0] _) efv_1 (by decide)) 6 rfl); have q_fv_1_34 : (fv_1 34).toInt = (fv 34).toInt := congrArg Int32.toInt ((fM_put (fM_rf [0] _) efv_1 (by decide)) 34 rfl); have q_fv_1_35 : (fv_1 35).toInt = (fv 35).toInt := congrArg Int32.toInt ((fM_put (fM_rf [0] _) efv_1 (by decide)) 35 rfl); have q_fv_1_2 : (fv_1 2).toInt = (fv 2).toInt := congrArg Int32.toInt ((fM_put (fM_rf [0] _) efv_1 (by decide)) 2 rfl); exact Or.inl ⟨rfl, (congrFun efv_1 6), by omega⟩), trivial⟩, ⟨by rw [ht]; exact hP, va_K.moved hW.alike hK⟩⟩, hS.F ht⟩) hS.2.2 dX12_street_44
              · skip
                have i_34 : 1 ≤ v.toInt ∧ v.toInt ≤ 2147483647 := iv_le2 (⟨by decide, by decide⟩ : (1 : Int) ≤ (1 : Int32).toInt ∧ (1 : Int32).toInt ≤ 1) (iv_any v) (Int32.le_iff_toInt_le.mpr p_31.1)
                have i_35 : 1 ≤ v.toInt ∧ v.toInt ≤ 99 := iv_le1 i_34 (⟨by decide, by decide⟩ : (99 : Int) ≤ (99 : Int32).toInt ∧ (99 : Int32).toInt ≤ 99) (Int32.le_iff_toInt_le.mpr p_31.2)
                refine lv_if_ne (tgt := 45) hx hb dX12_street_40 (by decide) (fun c_36 => ?_) (fun c_36 => ?_)
                · skip
                  refine lv_aload_n hx hb dX12_street_45 rfl (lv_at hl 0 rfl) ?_
                  refine va_callv (va_runV (As := []) (rest := []) ⟨hx, hb, hml, hown, hts⟩ (m_begin l dC dI H.size h ad cA hd fv_1 wd ar hF_fv_1 hA_ar) (cwV 0 hts (gV kw_7_228 kw_7_230 kw_p_58 kw_1_15 kw_7_231) rfl rfl rfl (by decide +kernel) ⟨Nat.le_of_ble_eq_true rfl, Nat.le_of_ble_eq_true rfl⟩) ⟨fun a U g mk q => ⟨q.1, q.2.1, q.2.2.1, va_K.moved (u := U) (U := U.calling g mk a) (Vm.Alike.refl U.vm) q.2.2.2⟩, va_recv hK hP (ci := 12) (q0 := 0) rfl rfl, fun U hU hW => ⟨rfl, by rw [hU], by rw [hU]; exact hP, va_K.moved hW.alike hK⟩⟩ rfl rfl hl.1 rfl (lv_room (Nat.le_of_ble_eq_true rfl)) dX12_street_46 ⟨Nat.le_of_ble_eq_true rfl, Nat.le_of_ble_eq_true rfl⟩) hS (fun q _ h9 => aM_up hS q h9) (aM_up hS) (fun u t H1 locs ht _ hw hB _ hk1 hS => ?_)
                  obtain ⟨fv_38, wd_39, ar_40⟩ := u
                  obtain ⟨hF_fv_38, hA_ar_40, fr_41, fa_42, -⟩ := hw
                  have hP : va_P (dC, dI) vwCl (wsM h ad cA fv_38 wd_39 ar_40) H1 := by have h9 := hB.1; rw [ht] at h9; exact h9
                  have fr_41 : fM [8] fv_1 fv_38 := fr_41
                  have fa_42 : fA [4] ar ar_40 := fa_42
                  generalize H1 = H at hP hS ⊢
                  refine lv_aload_n hx hb dX12_street_49 rfl (lv_at hl 0 rfl) ?_
                  refine lv_dup hx hb dX12_street_50 rfl ?_
                  refine gM_6 hx hb htg hown hK hP dX12_street_51 ?_
                  refine my_ti (y := fv 6) ((fr_41 6 rfl).trans ((congrFun efv_1 6))) ?_
                  refine lv_iconst (v := 1) hx hb dX12_street_54 (by decide) ?_
                  refine lv_iadd hx hb dX12_street_55 ?_
                  refine lv_topi (fun v_43 ev_43 => ?_)
                  have t_44 : v_43.toInt = (fv 6).toInt + 1 ∧ 1 ≤ v_43.toInt ∧ v_43.toInt ≤ 30 := iv_addc ev_43 i_7 (by decide) (by decide) (by decide)
                  refine pM_6 hx hb htg hown hK hP hS hd dX12_street_56 (fun H locs fv_46 efv_46 hP hS => ?_)
                  have hF_fv_46 : rF fv_46 := rF_put hF_fv_38 efv_46 (iv_w t_44.2 (by decide) (by decide))
                  refine lv_iconst (v := 0) hx hb dX12_street_59 (by decide) ?_
                  refine lv_istore (lv' := [(4, .int 0), (0, .ref h), (1, .int a), (2, .int b), (3, .int v)]) hx hb dX12_street_60 hl (by decide) rfl (fun ls hl => ?_)
                  refine my_cut (P := fun R9 a9 Q9 => ∀ (n_50 : Nat) (x_47 : Int32) (ar_48 : Nat → Nat → Int32) (H : Heap) (locs : List Loc) (ls : Array Slot), 12 - x_47.toInt < (n_50 : Int) → (0 ≤ x_47.toInt ∧ x_47.toInt ≤ 12) → rA ar_48 → fA [4] ar_40 ar_48 → va_P (dC, dI) vwCl (wsM h ad cA fv_46 wd_39 ar_48) H → va_S (aM h ad s.heap.size) s.heap H locs → lv_has ls 9 [(0, .ref h), (1, .int a), (2, .int b), (3, .int v), (4, .int x_47)] → W p l e R9 s m a9 below meth c H locs 0 0 Q9 (F0 m 62 ls [])) ?_ (fun hj_52 => ?_)
                  · intro n_50
                    induction n_50 with
                    | zero => intro x_47 ar_48 H locs ls fu_51 i_x_47 hA_ar_48 fa_49; exfalso; omega
                    | succ n_50 ih_50 =>
                      intro x_47 ar_48 H locs ls fu_51 i_x_47 hA_ar_48 fa_49 hP hS hl
                      refine lv_iload hx hb dX12_street_62 (lv_at hl 4 rfl) ?_
                      refine lv_bipush (v := 12) hx hb dX12_street_64 (by decide) ?_
                      refine lv_icmp_ge (tgt := 198) hx hb dX12_street_66 (by decide) (fun c_53 => ?_) (fun c_53 => ?_)
                      · skip
                        have i_54 : 12 ≤ x_47.toInt ∧ x_47.toInt ≤ 12 := iv_le2 (⟨by decide, by decide⟩ : (12 : Int) ≤ (12 : Int32).toInt ∧ (12 : Int32).toInt ≤ 12) i_x_47 c_53
                        refine lv_iconst (v := 1) hx hb dX12_street_198 (by decide) ?_
                        have z_55 : (1 : Int32).toInt = 1 := by decide
                        exact W.zret (v := 1) hx hb hr (by decide) (fun t ht hW => ⟨⟨1, (fv_46, wd_39, ar_48), rfl, ⟨hF_fv_46, hA_ar_48, (fM_put (fM_call (fM_put (fM_rf [0, 6, 8] _) efv_1 (by decide)) fr_41 (by decide)) efv_46 (by decide)), (fA_call (fA_call (fA_rf [4] _) fa_42 (by decide)) fa_49 (by decide)), (iv_w (⟨by decide, by decide⟩ : (1 : Int) ≤ (1 : Int32).toInt ∧ (1 : Int32).toInt ≤ 1) (by decide) (by decide)), (show ps_street (1 : Int32) (fv_46 6) (fv 6) a b v from by have q_fv_1_33 : (fv_1 33).toInt = (fv 33).toInt := congrArg Int32.toInt ((fM_put (fM_rf [0] _) efv_1 (by decide)) 33 rfl); have q_fv_1_3 : (fv_1 3).toInt = (fv 3).toInt := congrArg Int32.toInt ((fM_put (fM_rf [0] _) efv_1 (by decide)) 3 rfl); have q_fv_1_6 : (fv_1 6).toInt = (fv 6).toInt := congrArg Int32.toInt ((fM_put (fM_rf [0] _) efv_1 (by decide)) 6 rfl); have q_fv_1_34 : (fv_1 34).toInt = (fv 34).toInt := congrArg Int32.toInt ((fM_put (fM_rf [0] _) efv_1 (by decide)) 34 rfl); have q_fv_1_35 : (fv_1 35).toInt = (fv 35).toInt := congrArg Int32.toInt ((fM_put (fM_rf [0] _) efv_1 (by decide)) 35 rfl); have q_fv_1_2 : (fv_1 2).toInt = (fv 2).toInt := congrArg Int32.toInt ((fM_put (fM_rf [0] _) efv_1 (by decide)) 2 rfl); have q_fv_38_33 : (fv_38 33).toInt = (fv 33).toInt := congrArg Int32.toInt ((fM_call (fM_put (fM_rf [0, 8] _) efv_1 (by decide)) fr_41 (by decide)) 33 rfl); have q_fv_38_3 : (fv_38 3).toInt = (fv 3).toInt := congrArg Int32.toInt ((fM_call (fM_put (fM_rf [0, 8] _) efv_1 (by decide)) fr_41 (by decide)) 3 rfl); have q_fv_38_6 : (fv_38 6).toInt = (fv 6).toInt := congrArg Int32.toInt ((fM_call (fM_put (fM_rf [0, 8] _) efv_1 (by decide)) fr_41 (by decide)) 6 rfl); have q_fv_38_34 : (fv_38 34).toInt = (fv 34).toInt := congrArg Int32.toInt ((fM_call (fM_put (fM_rf [0, 8] _) efv_1 (by decide)) fr_41 (by decide)) 34 rfl); have q_fv_38_35 : (fv_38 35).toInt = (fv 35).toInt := congrArg Int32.toInt ((fM_call (fM_put (fM_rf [0, 8] _) efv_1 (by decide)) fr_41 (by decide)) 35 rfl); have q_fv_38_2 : (fv_38 2).toInt = (fv 2).toInt := congrArg Int32.toInt ((fM_call (fM_put (fM_rf [0, 8] _) efv_1 (by decide)) fr_41 (by decide)) 2 rfl); have q_fv_46_33 : (fv_46 33).toInt = (fv 33).toInt := congrArg Int32.toInt ((fM_put (fM_call (fM_put (fM_rf [0, 6, 8] _) efv_1 (by decide)) fr_41 (by decide)) efv_46 (by decide)) 33 rfl); have q_fv_46_3 : (fv_46 3).toInt = (fv 3).toInt := congrArg Int32.toInt ((fM_put (fM_call (fM_put (fM_rf [0, 6, 8] _) efv_1 (by decide)) fr_41 (by decide)) efv_46 (by decide)) 3 rfl); have q_fv_46_34 : (fv_46 34).toInt = (fv 34).toInt := congrArg Int32.toInt ((fM_put (fM_call (fM_put (fM_rf [0, 6, 8] _) efv_1 (by decide)) fr_41 (by decide)) efv_46 (by decide)) 34 rfl); have q_fv_46_35 : (fv_46 35).toInt = (fv 35).toInt := congrArg Int32.toInt ((fM_put (fM_call (fM_put (fM_rf [0, 6, 8] _) efv_1 (by decide)) fr_41 (by decide)) efv_46 (by decide)) 35 rfl); have q_fv_46_2 : (fv_46 2).toInt = (fv 2).toInt := congrArg Int32.toInt ((fM_put (fM_call (fM_put (fM_rf [0, 6, 8] _) efv_1 (by decide)) fr_41 (by decide)) efv_46 (by decide)) 2 rfl); exact Or.inr ⟨rfl, by rw [show fv_46 6 = v_43 from (congrFun efv_46 6)]; omega, by omega⟩), trivial⟩, ⟨by rw [ht]; exact hP, va_K.moved hW.alike hK⟩⟩, hS.F ht⟩) hS.2.2 dX12_street_199
                      · skip
                        have i_56 : 0 ≤ x_47.toInt ∧ x_47.toInt ≤ 11 := iv_lt1 i_x_47 (⟨by decide, by decide⟩ : (12 : Int) ≤ (12 : Int32).toInt ∧ (12 : Int32).toInt ≤ 12) (Int32.not_le.mp c_53)
                        refine lv_iconst (v := 0) hx hb dX12_street_69 (by decide) ?_
                        refine lv_istore (lv' := [(5, .int 0), (0, .ref h), (1, .int a), (2, .int b), (3, .int v), (4, .int x_47)]) hx hb dX12_street_70 hl (by decide) rfl (fun ls hl => ?_)
                        refine my_cut (P := fun R9 a9 Q9 => ∀ (n_60 : Nat) (x_57 : Int32) (ar_58 : Nat → Nat → Int32) (H : Heap) (locs : List Loc) (ls : Array Slot), 12 - x_57.toInt < (n_60 : Int) → (0 ≤ x_57.toInt ∧ x_57.toInt ≤ 12) → rA ar_58 → fA [4] ar_48 ar_58 → va_P (dC, dI) vwCl (wsM h ad cA fv_46 wd_39 ar_58) H → va_S (aM h ad s.heap.size) s.heap H locs → lv_has ls 9 [(0, .ref h), (1, .int a), (2, .int b), (3, .int v), (4, .int x_47), (5, .int x_57)] → W p l e R9 s m a9 below meth c H locs 0 0 Q9 (F0 m 72 ls [])) ?_ (fun hj_62 => ?_)
                        · intro n_60
                          induction n_60 with
                          | zero => intro x_57 ar_58 H locs ls fu_61 i_x_57 hA_ar_58 fa_59; exfalso; omega
                          | succ n_60 ih_60 =>
                            intro x_57 ar_58 H locs ls fu_61 i_x_57 hA_ar_58 fa_59 hP hS hl
                            refine lv_iload hx hb dX12_street_72 (lv_at hl 5 rfl) ?_
                            refine lv_bipush (v := 12) hx hb dX12_street_74 (by decide) ?_
                            refine lv_icmp_ge (tgt := 192) hx hb dX12_street_76 (by decide) (fun c_63 => ?_) (fun c_63 => ?_)
                            · skip
                              have i_64 : 12 ≤ x_57.toInt ∧ x_57.toInt ≤ 12 := iv_le2 (⟨by decide, by decide⟩ : (12 : Int) ≤ (12 : Int32).toInt ∧ (12 : Int32).toInt ≤ 12) i_x_57 c_63
                              obtain ⟨v_118, ev_118⟩ : ∃ z : Int32, z = x_47 + 1 := ⟨_, rfl⟩
                              refine lv_iinc (v := v_118) (lv' := [(4, .int v_118), (0, .ref h), (1, .int a), (2, .int b), (3, .int v), (5, .int x_57)]) hx hb dX12_street_192 hl (k := 4) rfl (by rw [ev_118]; rfl) (by decide) rfl (fun ls hl => ?_)
                              have t_119 : v_118.toInt = x_47.toInt + 1 ∧ 1 ≤ v_118.toInt ∧ v_118.toInt ≤ 12 := iv_addc ev_118 i_56 (by decide) (by decide) (by decide)
                              refine lv_goto (tgt := 62) hx hb dX12_street_195 (by decide) ?_
                              exact ih_50 v_118 ar_58 _ _ ls (by omega) (iv_w t_119.2 (by decide) (by decide)) hA_ar_58 (fA_call (fA_call (fA_rf [4] _) fa_49 (by decide)) fa_59 (by decide)) hP hS (lv_sub hl [1, 2, 3, 4, 0] rfl)
                            · skip
                              have i_65 : 0 ≤ x_57.toInt ∧ x_57.toInt ≤ 11 := iv_lt1 i_x_57 (⟨by decide, by decide⟩ : (12 : Int) ≤ (12 : Int32).toInt ∧ (12 : Int32).toInt ≤ 12) (Int32.not_le.mp c_63)
                              refine lv_aload_n hx hb dX12_street_79 rfl (lv_at hl 0 rfl) ?_
                              refine gM_4 hx hb htg hown hK hP dX12_street_80 ?_
                              refine lv_bipush (v := 12) hx hb dX12_street_83 (by decide) ?_
                              refine lv_iload hx hb dX12_street_85 (lv_at hl 4 rfl) ?_
                              refine lv_imul hx hb dX12_street_87 ?_
                              refine lv_topi (fun v_66 ev_66 => ?_)
                              have t_67 : v_66.toInt = 12 * x_47.toInt ∧ 0 ≤ v_66.toInt ∧ v_66.toInt ≤ 132 := iv_mulc ev_66 i_56 (by decide) (by decide) (by decide) (by decide)
                              refine lv_iload_n hx hb dX12_street_88 rfl (lv_at hl 1 rfl) ?_
                              refine lv_iadd hx hb dX12_street_89 ?_
                              refine lv_topi (fun v_69 ev_69 => ?_)
                              have t_70 : v_69.toInt = v_66.toInt + a.toInt ∧ 0 ≤ v_69.toInt ∧ v_69.toInt ≤ 143 := iv_add ev_69 t_67.2 i_15 (by decide) (by decide)
                              refine lM_4 hx hb hK hP (iv_in t_70.2 (by decide) (by decide)) dX12_street_90 (fun v_72 ev_72 => ?_)
                              refine lv_iload_n hx hb dX12_street_91 rfl (lv_at hl 3 rfl) ?_
                              refine lv_iadd hx hb dX12_street_92 ?_
                              refine lv_topi (fun v_73 ev_73 => ?_)
                              refine lv_aload_n hx hb dX12_street_93 rfl (lv_at hl 0 rfl) ?_
                              refine gM_4 hx hb htg hown hK hP dX12_street_94 ?_
                              refine lv_bipush (v := 12) hx hb dX12_street_97 (by decide) ?_
                              refine lv_iload_n hx hb dX12_street_99 rfl (lv_at hl 2 rfl) ?_
                              refine lv_imul hx hb dX12_street_100 ?_
                              refine lv_topi (fun v_74 ev_74 => ?_)
                              have t_75 : v_74.toInt = 12 * b.toInt ∧ 0 ≤ v_74.toInt ∧ v_74.toInt ≤ 132 := iv_mulc ev_74 i_23 (by decide) (by decide) (by decide) (by decide)
                              refine lv_iload hx hb dX12_street_101 (lv_at hl 5 rfl) ?_
                              refine lv_iadd hx hb dX12_street_103 ?_
                              refine lv_topi (fun v_77 ev_77 => ?_)
                              have t_78 : v_77.toInt = v_74.toInt + x_57.toInt ∧ 0 ≤ v_77.toInt ∧ v_77.toInt ≤ 143 := iv_add ev_77 t_75.2 i_65 (by decide) (by decide)
                              refine lM_4 hx hb hK hP (iv_in t_78.2 (by decide) (by decide)) dX12_street_104 (fun v_80 ev_80 => ?_)
                              refine lv_iadd hx hb dX12_street_105 ?_
                              refine lv_topi (fun v_81 ev_81 => ?_)
                              refine lv_istore (lv' := [(6, .int v_81), (0, .ref h), (1, .int a), (2, .int b), (3, .int v), (4, .int x_47), (5, .int x_57)]) hx hb dX12_street_106 hl (by decide) rfl (fun ls hl => ?_)
                              refine lv_aload_n hx hb dX12_street_108 rfl (lv_at hl 1 rfl) ?_
                              refine gM_4 hx hb htg hown hK hP dX12_street_109 ?_
                              refine lv_bipush (v := 12) hx hb dX12_street_112 (by decide) ?_
                              refine lv_iload hx hb dX12_street_114 (lv_at hl 5 rfl) ?_
                              refine lv_imul hx hb dX12_street_116 ?_
                              refine my_ti (y := v_66) ev_66.symm ?_
                              refine lv_iload_n hx hb dX12_street_117 rfl (lv_at hl 3 rfl) ?_
                              refine lv_iadd hx hb dX12_street_118 ?_
                              refine lv_topi (fun v_82 ev_82 => ?_)
                              have t_83 : v_82.toInt = v_66.toInt + b.toInt ∧ 0 ≤ v_82.toInt ∧ v_82.toInt ≤ 143 := iv_add ev_82 t_67.2 i_23 (by decide) (by decide)
                              refine lM_4 hx hb hK hP (iv_in t_83.2 (by decide) (by decide)) dX12_street_119 (fun v_85 ev_85 => ?_)
                              refine lv_iload_n hx hb dX12_street_120 rfl (lv_at hl 4 rfl) ?_
                              refine lv_iadd hx hb dX12_street_121 ?_
                              refine lv_topi (fun v_86 ev_86 => ?_)
                              refine lv_aload_n hx hb dX12_street_122 rfl (lv_at hl 1 rfl) ?_
                              refine gM_4 hx hb htg hown hK hP dX12_street_123 ?_
                              refine lv_bipush (v := 12) hx hb dX12_street_126 (by decide) ?_
                              refine lv_iload_n hx hb dX12_street_128 rfl (lv_at hl 2 rfl) ?_
                              refine lv_imul hx hb dX12_street_129 ?_
                              refine lv_topi (fun v_87 ev_87 => ?_)
                              have t_88 : v_87.toInt = 12 * a.toInt ∧ 0 ≤ v_87.toInt ∧ v_87.toInt ≤ 132 := iv_mulc ev_87 i_15 (by decide) (by decide) (by decide) (by decide)
                              refine lv_iload hx hb dX12_street_130 (lv_at hl 6 rfl) ?_
                              refine lv_iadd hx hb dX12_street_132 ?_
                              refine lv_topi (fun v_90 ev_90 => ?_)
                              have t_91 : v_90.toInt = v_87.toInt + x_57.toInt ∧ 0 ≤ v_90.toInt ∧ v_90.toInt ≤ 143 := iv_add ev_90 t_88.2 i_65 (by decide) (by decide)
                              refine lM_4 hx hb hK hP (iv_in t_91.2 (by decide) (by decide)) dX12_street_133 (fun v_93 ev_93 => ?_)
                              refine lv_iadd hx hb dX12_street_134 ?_
                              refine lv_topi (fun v_94 ev_94 => ?_)
                              refine lv_istore (lv' := [(7, .int v_94), (6, .int v_81), (0, .ref h), (1, .int a), (2, .int b), (3, .int v), (4, .int x_47), (5, .int x_57)]) hx hb dX12_street_135 hl (by decide) rfl (fun ls hl => ?_)
                              refine lv_iload hx hb dX12_street_137 (lv_at hl 1 rfl) ?_
                              refine lv_iload hx hb dX12_street_139 (lv_at hl 0 rfl) ?_
                              refine my_cut (P := fun R9 a9 Q9 => ∀ (x_100 : Int32) (H : Heap) (locs : List Loc) (ls : Array Slot), va_P (dC, dI) vwCl (wsM h ad cA fv_46 wd_39 ar_58) H → va_S (aM h ad s.heap.size) s.heap H locs → lv_has ls 9 [(0, .ref h), (1, .int a), (2, .int b), (3, .int v), (4, .int x_47), (5, .int x_57)] → W p l e R9 s m a9 below meth c H locs 0 0 Q9 (F0 m 151 ls [.int x_100])) ?_ (fun hj_101 => ?_)
                              · intro x_100 H locs ls  hP hS hl
                                refine lv_istore (lv' := [(8, .int x_100), (0, .ref h), (1, .int a), (2, .int b), (3, .int v), (4, .int x_47), (5, .int x_57)]) hx hb dX12_street_151 hl (by decide) rfl (fun ls hl => ?_)
                                refine lv_iload hx hb dX12_street_153 (lv_at hl 0 rfl) ?_
                                refine lv_aload_n hx hb dX12_street_155 rfl (lv_at hl 1 rfl) ?_
                                refine gM_4 hx hb htg hown hK hP dX12_street_156 ?_
                                refine lv_bipush (v := 12) hx hb dX12_street_159 (by decide) ?_
                                refine lv_iload hx hb dX12_street_161 (lv_at hl 5 rfl) ?_
                                refine lv_imul hx hb dX12_street_163 ?_
                                refine my_ti (y := v_66) ev_66.symm ?_
                                refine lv_iload hx hb dX12_street_164 (lv_at hl 6 rfl) ?_
                                refine lv_iadd hx hb dX12_street_166 ?_
                                refine lv_topi (fun v_102 ev_102 => ?_)
                                have t_103 : v_102.toInt = v_66.toInt + x_57.toInt ∧ 0 ≤ v_102.toInt ∧ v_102.toInt ≤ 143 := iv_add ev_102 t_67.2 i_65 (by decide) (by decide)
                                refine lM_4 hx hb hK hP (iv_in t_103.2 (by decide) (by decide)) dX12_street_167 (fun v_105 ev_105 => ?_)
                                refine my_cut (P := fun R9 a9 Q9 => ∀ (ar_112 : Nat → Nat → Int32) (H : Heap) (locs : List Loc) (ls : Array Slot), rA ar_112 → fA [4] ar_58 ar_112 → va_P (dC, dI) vwCl (wsM h ad cA fv_46 wd_39 ar_112) H → va_S (aM h ad s.heap.size) s.heap H locs → lv_has ls 9 [(0, .ref h), (1, .int a), (2, .int b), (3, .int v), (4, .int x_47), (5, .int x_57)] → W p l e R9 s m a9 below meth c H locs 0 0 Q9 (F0 m 186 ls [])) ?_ (fun hj_114 => ?_)
                                · intro ar_112 H locs ls hA_ar_112 fa_113 hP hS hl
                                  obtain ⟨v_115, ev_115⟩ : ∃ z : Int32, z = x_57 + 1 := ⟨_, rfl⟩
                                  refine lv_iinc (v := v_115) (lv' := [(5, .int v_115), (0, .ref h), (1, .int a), (2, .int b), (3, .int v), (4, .int x_47)]) hx hb dX12_street_186 hl (k := 5) rfl (by rw [ev_115]; rfl) (by decide) rfl (fun ls hl => ?_)
                                  have t_116 : v_115.toInt = x_57.toInt + 1 ∧ 1 ≤ v_115.toInt ∧ v_115.toInt ≤ 12 := iv_addc ev_115 i_65 (by decide) (by decide) (by decide)
                                  refine lv_goto (tgt := 72) hx hb dX12_street_189 (by decide) ?_
                                  exact ih_60 v_115 ar_112 _ _ ls (by omega) (iv_w t_116.2 (by decide) (by decide)) hA_ar_112 (fA_call (fA_call (fA_rf [4] _) fa_59 (by decide)) fa_113 (by decide)) hP hS (lv_sub hl [1, 2, 3, 4, 5, 0] rfl)
                                · skip
                                  refine lv_icmp_ge (tgt := 186) hx hb dX12_street_168 (by decide) (fun c_106 => ?_) (fun c_106 => ?_)
                                  · skip
                                    have k_107 := Int32.le_iff_toInt_le.mp c_106
                                    exact hj_114 ar_58 _ _ ls hA_ar_58 (fA_rf [4] _) hP hS (lv_sub hl [1, 2, 3, 4, 5, 6] rfl)
                                  · skip
                                    have i_108 : (-2147483648) ≤ x_100.toInt ∧ x_100.toInt ≤ 2147483646 := iv_lt1 (iv_any x_100) (iv_any v_105) (Int32.not_le.mp c_106)
                                    have i_109 : (-2147483647) ≤ v_105.toInt ∧ v_105.toInt ≤ 2147483647 := iv_lt2 (iv_any x_100) (iv_any v_105) (Int32.not_le.mp c_106)
                                    have k_110 := Int32.lt_iff_toInt_lt.mp (Int32.not_le.mp c_106)
                                    refine lv_aload_n hx hb dX12_street_171 rfl (lv_at hl 1 rfl) ?_
                                    refine gM_4 hx hb htg hown hK hP dX12_street_172 ?_
                                    refine lv_bipush (v := 12) hx hb dX12_street_175 (by decide) ?_
                                    refine lv_iload hx hb dX12_street_177 (lv_at hl 5 rfl) ?_
                                    refine lv_imul hx hb dX12_street_179 ?_
                                    refine my_ti (y := v_66) ev_66.symm ?_
                                    refine lv_iload hx hb dX12_street_180 (lv_at hl 6 rfl) ?_
                                    refine lv_iadd hx hb dX12_street_182 ?_
                                    refine my_ti (y := v_102) ev_102.symm ?_
                                    refine lv_iload hx hb dX12_street_183 (lv_at hl 0 rfl) ?_
                                    refine sM_4 hx hb hK hP hS hd (iv_in t_103.2 (by decide) (by decide)) dX12_street_185 (fun H locs ar_111 ear_111 hP hS => ?_)
                                    have hA_ar_111 : rA ar_111 := rA_put hA_ar_58 ear_111 (iv_any _)
                                    exact hj_114 ar_111 _ _ ls hA_ar_111 (fA_put (fA_rf [4] _) ear_111 (by decide)) hP hS (lv_sub hl [1, 2, 3, 4, 5, 6] rfl)
                              · skip
                                refine lv_icmp_ge (tgt := 149) hx hb dX12_street_141 (by decide) (fun c_95 => ?_) (fun c_95 => ?_)
                                · skip
                                  have k_96 := Int32.le_iff_toInt_le.mp c_95
                                  refine lv_iload hx hb dX12_street_149 (lv_at hl 0 rfl) ?_
                                  exact hj_101 v_94 _ _ ls  hP hS (lv_sub hl [2, 3, 4, 5, 6, 7] rfl)
                                · skip
                                  have i_97 : (-2147483648) ≤ v_81.toInt ∧ v_81.toInt ≤ 2147483646 := iv_lt1 (iv_any v_81) (iv_any v_94) (Int32.not_le.mp c_95)
                                  have i_98 : (-2147483647) ≤ v_94.toInt ∧ v_94.toInt ≤ 2147483647 := iv_lt2 (iv_any v_81) (iv_any v_94) (Int32.not_le.mp c_95)
                                  have k_99 := Int32.lt_iff_toInt_lt.mp (Int32.not_le.mp c_95)
                                  refine lv_iload hx hb dX12_street_144 (lv_at hl 1 rfl) ?_
                                  refine lv_goto (tgt := 151) hx hb dX12_street_146 (by decide) ?_
                                  exact hj_101 v_81 _ _ ls  hP hS (lv_sub hl [2, 3, 4, 5, 6, 7] rfl)
                        · skip
                          have z_121 : (0 : Int32).toInt = 0 := by decide
                          exact hj_62 13 0 ar_48 _ _ ls (by first | decide | omega) (iv_w (⟨by decide, by decide⟩ : (0 : Int) ≤ (0 : Int32).toInt ∧ (0 : Int32).toInt ≤ 0) (by decide) (by decide)) hA_ar_48 (fA_rf [4] _) hP hS (lv_sub hl [1, 2, 3, 4, 5, 0] rfl)
                  · skip
                    have z_122 : (0 : Int32).toInt = 0 := by decide
                    exact hj_52 13 0 ar_40 _ _ ls (by first | decide | omega) (iv_w (⟨by decide, by decide⟩ : (0 : Int) ≤ (0 : Int32).toInt ∧ (0 : Int32).toInt ≤ 0) (by decide) (by decide)) hA_ar_40 (fA_rf [4] _) hP hS (lv_sub hl [1, 2, 3, 4, 0] rfl)
                · skip
                  exact absurd c_36 (by decide)
set_option maxHeartbeats 4000000 in
set_option maxRecDepth 100000 in
theorem m_endE (l : Launch) (dC : Nat → ClassId) (dI : Nat → Nat → Nat) (sz h : Nat) (ad : Nat → Nat) (cA : Nat → ClassId) (hd : dM h ad) (fv : Nat → Int32) (wd : Int64) (ar : Nat → Nat → Int32) (hF_fv : rF fv) (hA_ar : rA ar) (n : Int32) : Met l yX12_end (.code yX12_end cX12_end 2 (some .boolean) :: lw_good) ({ frames := 2, cells := 0, slots := 0, locals := 40 }) (va_Pc [.ref h, .int n] (prM dC dI h ad cA fv wd ar sz)) (va_Qi (fun (r : Int32) (u : mS) => rF u.1 ∧ rA u.2.2 ∧ fM [0, 2] fv u.1 ∧ fA [] ar u.2.2 ∧ (0 ≤ r.toInt ∧ r.toInt ≤ 1) ∧ (ps_end r (u.1 2) (fv 2) n) ∧ True) (enM dC dI h ad cA) (aM h ad sz)) 0 0 (aM h ad sz) := by
  refine Met.ofW (cc := cX12_end) (maxL := 2) (ret := (some .boolean)) (by decide) rfl ?_
  intro p e s m args below meth c s₁ B hml hv
  obtain ⟨rfl, hsz, hP, hK⟩ := hv
  have hx := B.exec
  have hb := B.bytes
  have hr := B.returns
  have hts := atoms_spec (ws := (.code yX12_end cX12_end 2 (some .boolean) :: lw_good)) B.pre
  have htg : ∀ w ∈ lw_good, w.before _ s = true := fun w hw => hts w (List.mem_cons_of_mem _ hw)
  have hown : s.vm.findClass RX12 = some m.cls := findClass_of_methodNamed B.named
  have hlocks := B.notSynchronized
  subst hsz
  have hS : va_S (aM h ad s.heap.size) s.heap s.heap [] := va_S.rf
  have hl := lv_entry ([.ref h, .int n]) (n := 2) (Nat.le_of_ble_eq_true rfl)
  rw [lg_entry_eq]
  generalize (lg_sl ([.ref h, .int n]) ++ List.replicate (2 - (lg_sl ([.ref h, .int n])).length) Slot.unset).toArray = ls at hl ⊢
  have hl : lv_has ls 2 [(0, .ref h), (1, .int n)] := hl
  have zc0 : (0 : Int32).toInt = 0 := by decide
  have zc1 : (1 : Int32).toInt = 1 := by decide
  have zc2 : (2 : Int32).toInt = 2 := by decide
  have zc9 : (9 : Int32).toInt = 9 := by decide
  have zc11 : (11 : Int32).toInt = 11 := by decide
  have zc12 : (12 : Int32).toInt = 12 := by decide
  have zc19 : (19 : Int32).toInt = 19 := by decide
  have zc99 : (99 : Int32).toInt = 99 := by decide
  have zc199 : (199 : Int32).toInt = 199 := by decide
  have zc719 : (719 : Int32).toInt = 719 := by decide
  have zc20 : (20 : Int32).toInt = 20 := by decide
  have zc340 : (340 : Int32).toInt = 340 := by decide
  have zcm1 : ((-1) : Int32).toInt = (-1) := by decide
  refine lv_aload_n hx hb dX12_end_0 rfl (lv_at hl 0 rfl) ?_
  refine lv_iconst (v := 0) hx hb dX12_end_1 (by decide) ?_
  refine pM_0 hx hb htg hown hK hP hS hd dX12_end_2 (fun H locs fv_1 efv_1 hP hS => ?_)
  have hF_fv_1 : rF fv_1 := rF_put hF_fv efv_1 (iv_any _)
  refine lv_iload_n hx hb dX12_end_5 rfl (lv_at hl 1 rfl) ?_
  refine lv_if_lt (tgt := 17) hx hb dX12_end_6 (by decide) (fun c_2 => ?_) (fun c_2 => ?_)
  · skip
    have i_3 : (-2147483648) ≤ n.toInt ∧ n.toInt ≤ (-1) := iv_lt1 (iv_any n) (⟨by decide, by decide⟩ : (0 : Int) ≤ (0 : Int32).toInt ∧ (0 : Int32).toInt ≤ 0) c_2
    refine lv_iconst (v := 0) hx hb dX12_end_17 (by decide) ?_
    have z_4 : (0 : Int32).toInt = 0 := by decide
    exact W.zret (v := 0) hx hb hr (by decide) (fun t ht hW => ⟨⟨0, (fv_1, wd, ar), rfl, ⟨hF_fv_1, hA_ar, (fM_put (fM_rf [0, 2] _) efv_1 (by decide)), (fA_rf [] _), (iv_w (⟨by decide, by decide⟩ : (0 : Int) ≤ (0 : Int32).toInt ∧ (0 : Int32).toInt ≤ 0) (by decide) (by decide)), (show ps_end (0 : Int32) (fv_1 2) (fv 2) n from by have q_fv_1_33 : (fv_1 33).toInt = (fv 33).toInt := congrArg Int32.toInt ((fM_put (fM_rf [0] _) efv_1 (by decide)) 33 rfl); have q_fv_1_3 : (fv_1 3).toInt = (fv 3).toInt := congrArg Int32.toInt ((fM_put (fM_rf [0] _) efv_1 (by decide)) 3 rfl); have q_fv_1_6 : (fv_1 6).toInt = (fv 6).toInt := congrArg Int32.toInt ((fM_put (fM_rf [0] _) efv_1 (by decide)) 6 rfl); have q_fv_1_34 : (fv_1 34).toInt = (fv 34).toInt := congrArg Int32.toInt ((fM_put (fM_rf [0] _) efv_1 (by decide)) 34 rfl); have q_fv_1_35 : (fv_1 35).toInt = (fv 35).toInt := congrArg Int32.toInt ((fM_put (fM_rf [0] _) efv_1 (by decide)) 35 rfl); have q_fv_1_2 : (fv_1 2).toInt = (fv 2).toInt := congrArg Int32.toInt ((fM_put (fM_rf [0] _) efv_1 (by decide)) 2 rfl); exact Or.inl ⟨rfl, (congrFun efv_1 2), by omega⟩), trivial⟩, ⟨by rw [ht]; exact hP, va_K.moved hW.alike hK⟩⟩, hS.F ht⟩) hS.2.2 dX12_end_18
  · skip
    have i_5 : 0 ≤ n.toInt ∧ n.toInt ≤ 2147483647 := iv_le2 (⟨by decide, by decide⟩ : (0 : Int) ≤ (0 : Int32).toInt ∧ (0 : Int32).toInt ≤ 0) (iv_any n) (Int32.not_lt.mp c_2)
    refine lv_iload_n hx hb dX12_end_9 rfl (lv_at hl 1 rfl) ?_
    refine lv_aload_n hx hb dX12_end_10 rfl (lv_at hl 0 rfl) ?_
    refine gM_2 hx hb htg hown hK hP dX12_end_11 ?_
    refine my_ti (y := fv 2) ((congrFun efv_1 2)) ?_
    have i_6 : 0 ≤ (fv 2).toInt ∧ (fv 2).toInt ≤ 340 := hF_fv 2
    refine lv_icmp_le (tgt := 19) hx hb dX12_end_14 (by decide) (fun c_7 => ?_) (fun c_7 => ?_)
    · skip
      have i_8 : 0 ≤ n.toInt ∧ n.toInt ≤ 340 := iv_le1 i_5 i_6 c_7
      have k_9 := Int32.le_iff_toInt_le.mp c_7
      refine lv_aload_n hx hb dX12_end_19 rfl (lv_at hl 0 rfl) ?_
      refine lv_iload_n hx hb dX12_end_20 rfl (lv_at hl 1 rfl) ?_
      refine pM_2 hx hb htg hown hK hP hS hd dX12_end_21 (fun H locs fv_10 efv_10 hP hS => ?_)
      have hF_fv_10 : rF fv_10 := rF_put hF_fv_1 efv_10 i_8
      refine lv_iconst (v := 1) hx hb dX12_end_24 (by decide) ?_
      have z_11 : (1 : Int32).toInt = 1 := by decide
      exact W.zret (v := 1) hx hb hr (by decide) (fun t ht hW => ⟨⟨1, (fv_10, wd, ar), rfl, ⟨hF_fv_10, hA_ar, (fM_put (fM_put (fM_rf [0, 2] _) efv_1 (by decide)) efv_10 (by decide)), (fA_rf [] _), (iv_w (⟨by decide, by decide⟩ : (1 : Int) ≤ (1 : Int32).toInt ∧ (1 : Int32).toInt ≤ 1) (by decide) (by decide)), (show ps_end (1 : Int32) (fv_10 2) (fv 2) n from by have q_fv_1_33 : (fv_1 33).toInt = (fv 33).toInt := congrArg Int32.toInt ((fM_put (fM_rf [0] _) efv_1 (by decide)) 33 rfl); have q_fv_1_3 : (fv_1 3).toInt = (fv 3).toInt := congrArg Int32.toInt ((fM_put (fM_rf [0] _) efv_1 (by decide)) 3 rfl); have q_fv_1_6 : (fv_1 6).toInt = (fv 6).toInt := congrArg Int32.toInt ((fM_put (fM_rf [0] _) efv_1 (by decide)) 6 rfl); have q_fv_1_34 : (fv_1 34).toInt = (fv 34).toInt := congrArg Int32.toInt ((fM_put (fM_rf [0] _) efv_1 (by decide)) 34 rfl); have q_fv_1_35 : (fv_1 35).toInt = (fv 35).toInt := congrArg Int32.toInt ((fM_put (fM_rf [0] _) efv_1 (by decide)) 35 rfl); have q_fv_1_2 : (fv_1 2).toInt = (fv 2).toInt := congrArg Int32.toInt ((fM_put (fM_rf [0] _) efv_1 (by decide)) 2 rfl); have q_fv_10_33 : (fv_10 33).toInt = (fv 33).toInt := congrArg Int32.toInt ((fM_put (fM_put (fM_rf [0, 2] _) efv_1 (by decide)) efv_10 (by decide)) 33 rfl); have q_fv_10_3 : (fv_10 3).toInt = (fv 3).toInt := congrArg Int32.toInt ((fM_put (fM_put (fM_rf [0, 2] _) efv_1 (by decide)) efv_10 (by decide)) 3 rfl); have q_fv_10_6 : (fv_10 6).toInt = (fv 6).toInt := congrArg Int32.toInt ((fM_put (fM_put (fM_rf [0, 2] _) efv_1 (by decide)) efv_10 (by decide)) 6 rfl); have q_fv_10_34 : (fv_10 34).toInt = (fv 34).toInt := congrArg Int32.toInt ((fM_put (fM_put (fM_rf [0, 2] _) efv_1 (by decide)) efv_10 (by decide)) 34 rfl); have q_fv_10_35 : (fv_10 35).toInt = (fv 35).toInt := congrArg Int32.toInt ((fM_put (fM_put (fM_rf [0, 2] _) efv_1 (by decide)) efv_10 (by decide)) 35 rfl); exact Or.inr ⟨rfl, (congrFun efv_10 2), by omega⟩), trivial⟩, ⟨by rw [ht]; exact hP, va_K.moved hW.alike hK⟩⟩, hS.F ht⟩) hS.2.2 dX12_end_25
    · skip
      have i_12 : 1 ≤ n.toInt ∧ n.toInt ≤ 2147483647 := iv_lt2 i_6 i_5 (Int32.not_le.mp c_7)
      have k_13 := Int32.lt_iff_toInt_lt.mp (Int32.not_le.mp c_7)
      refine lv_iconst (v := 0) hx hb dX12_end_17 (by decide) ?_
      have z_14 : (0 : Int32).toInt = 0 := by decide
      exact W.zret (v := 0) hx hb hr (by decide) (fun t ht hW => ⟨⟨0, (fv_1, wd, ar), rfl, ⟨hF_fv_1, hA_ar, (fM_put (fM_rf [0, 2] _) efv_1 (by decide)), (fA_rf [] _), (iv_w (⟨by decide, by decide⟩ : (0 : Int) ≤ (0 : Int32).toInt ∧ (0 : Int32).toInt ≤ 0) (by decide) (by decide)), (show ps_end (0 : Int32) (fv_1 2) (fv 2) n from by have q_fv_1_33 : (fv_1 33).toInt = (fv 33).toInt := congrArg Int32.toInt ((fM_put (fM_rf [0] _) efv_1 (by decide)) 33 rfl); have q_fv_1_3 : (fv_1 3).toInt = (fv 3).toInt := congrArg Int32.toInt ((fM_put (fM_rf [0] _) efv_1 (by decide)) 3 rfl); have q_fv_1_6 : (fv_1 6).toInt = (fv 6).toInt := congrArg Int32.toInt ((fM_put (fM_rf [0] _) efv_1 (by decide)) 6 rfl); have q_fv_1_34 : (fv_1 34).toInt = (fv 34).toInt := congrArg Int32.toInt ((fM_put (fM_rf [0] _) efv_1 (by decide)) 34 rfl); have q_fv_1_35 : (fv_1 35).toInt = (fv 35).toInt := congrArg Int32.toInt ((fM_put (fM_rf [0] _) efv_1 (by decide)) 35 rfl); have q_fv_1_2 : (fv_1 2).toInt = (fv 2).toInt := congrArg Int32.toInt ((fM_put (fM_rf [0] _) efv_1 (by decide)) 2 rfl); exact Or.inl ⟨rfl, (congrFun efv_1 2), by omega⟩), trivial⟩, ⟨by rw [ht]; exact hP, va_K.moved hW.alike hK⟩⟩, hS.F ht⟩) hS.2.2 dX12_end_18
set_option maxHeartbeats 4000000 in
set_option maxRecDepth 100000 in
theorem m_takeE (l : Launch) (dC : Nat → ClassId) (dI : Nat → Nat → Nat) (sz h : Nat) (ad : Nat → Nat) (cA : Nat → ClassId) (hd : dM h ad) (fv : Nat → Int32) (wd : Int64) (ar : Nat → Nat → Int32) (hF_fv : rF fv) (hA_ar : rA ar) : Met l yX12_take (.code yX12_take cX12_take 2 (some .int) :: lw_good) ({ frames := 2, cells := 0, slots := 0, locals := 40 }) (va_Pc [.ref h] (prM dC dI h ad cA fv wd ar sz)) (va_Qi (fun (r : Int32) (u : mS) => rF u.1 ∧ rA u.2.2 ∧ fM [2] fv u.1 ∧ fA [] ar u.2.2 ∧ (0 ≤ r.toInt ∧ r.toInt ≤ 340) ∧ ((u.1 2).toInt = 0) ∧ True) (enM dC dI h ad cA) (aM h ad sz)) 0 0 (aM h ad sz) := by
  refine Met.ofW (cc := cX12_take) (maxL := 2) (ret := (some .int)) (by decide) rfl ?_
  intro p e s m args below meth c s₁ B hml hv
  obtain ⟨rfl, hsz, hP, hK⟩ := hv
  have hx := B.exec
  have hb := B.bytes
  have hr := B.returns
  have hts := atoms_spec (ws := (.code yX12_take cX12_take 2 (some .int) :: lw_good)) B.pre
  have htg : ∀ w ∈ lw_good, w.before _ s = true := fun w hw => hts w (List.mem_cons_of_mem _ hw)
  have hown : s.vm.findClass RX12 = some m.cls := findClass_of_methodNamed B.named
  have hlocks := B.notSynchronized
  subst hsz
  have hS : va_S (aM h ad s.heap.size) s.heap s.heap [] := va_S.rf
  have hl := lv_entry ([.ref h]) (n := 2) (Nat.le_of_ble_eq_true rfl)
  rw [lg_entry_eq]
  generalize (lg_sl ([.ref h]) ++ List.replicate (2 - (lg_sl ([.ref h])).length) Slot.unset).toArray = ls at hl ⊢
  have hl : lv_has ls 2 [(0, .ref h)] := hl
  refine lv_aload_n hx hb dX12_take_0 rfl (lv_at hl 0 rfl) ?_
  refine gM_2 hx hb htg hown hK hP dX12_take_1 ?_
  have i_1 : 0 ≤ (fv 2).toInt ∧ (fv 2).toInt ≤ 340 := hF_fv 2
  refine lv_istore_n (lv' := [(1, .int (fv 2)), (0, .ref h)]) hx hb dX12_take_4 rfl hl (by decide) rfl (fun ls hl => ?_)
  refine lv_aload_n hx hb dX12_take_5 rfl (lv_at hl 1 rfl) ?_
  refine lv_iconst (v := 0) hx hb dX12_take_6 (by decide) ?_
  refine pM_2 hx hb htg hown hK hP hS hd dX12_take_7 (fun H locs fv_2 efv_2 hP hS => ?_)
  have hF_fv_2 : rF fv_2 := rF_put hF_fv efv_2 (iv_w (⟨by decide, by decide⟩ : (0 : Int) ≤ (0 : Int32).toInt ∧ (0 : Int32).toInt ≤ 0) (by decide) (by decide))
  refine lv_iload_n hx hb dX12_take_10 rfl (lv_at hl 0 rfl) ?_
  exact W.iret (v := fv 2) hx hb hr (fun t ht hW => ⟨⟨fv 2, (fv_2, wd, ar), rfl, ⟨hF_fv_2, hA_ar, (fM_put (fM_rf [2] _) efv_2 (by decide)), (fA_rf [] _), i_1, (show (fv_2 2).toInt = 0 from by rw [show fv_2 2 = (0 : Int32) from (congrFun efv_2 2)]; decide), trivial⟩, ⟨by rw [ht]; exact hP, va_K.moved hW.alike hK⟩⟩, hS.F ht⟩) hS.2.2 dX12_take_11
set_option maxHeartbeats 4000000 in
set_option maxRecDepth 100000 in
theorem m_seatedE (l : Launch) (dC : Nat → ClassId) (dI : Nat → Nat → Nat) (sz h : Nat) (ad : Nat → Nat) (cA : Nat → ClassId) (hd : dM h ad) (fv : Nat → Int32) (wd : Int64) (ar : Nat → Nat → Int32) (hF_fv : rF fv) (hA_ar : rA ar) (mm : Int32) : Met l yX12_seated (.code yX12_seated cX12_seated 9 (some .int) :: lw_good) ({ frames := 5, cells := 0, slots := 0, locals := 106 }) (va_Pc [.ref h, .int mm] (prM dC dI h ad cA fv wd ar sz)) (va_Qi (fun (r : Int32) (u : mS) => rF u.1 ∧ rA u.2.2 ∧ fM [0, 2, 8, 95] fv u.1 ∧ fA [4, 90, 91, 92, 93, 94] ar u.2.2 ∧ ((u.1 2).toInt = 0) ∧ True) (enM dC dI h ad cA) (aM h ad sz)) 0 0 (aM h ad sz) := by
  refine Met.ofW (cc := cX12_seated) (maxL := 9) (ret := (some .int)) (by decide) rfl ?_
  intro p e s m args below meth c s₁ B hml hv
  obtain ⟨rfl, hsz, hP, hK⟩ := hv
  have hx := B.exec
  have hb := B.bytes
  have hr := B.returns
  have hts := atoms_spec (ws := (.code yX12_seated cX12_seated 9 (some .int) :: lw_good)) B.pre
  have htg : ∀ w ∈ lw_good, w.before _ s = true := fun w hw => hts w (List.mem_cons_of_mem _ hw)
  have hown : s.vm.findClass RX12 = some m.cls := findClass_of_methodNamed B.named
  have hlocks := B.notSynchronized
  subst hsz
  have hS : va_S (aM h ad s.heap.size) s.heap s.heap [] := va_S.rf
  have hl := lv_entry ([.ref h, .int mm]) (n := 9) (Nat.le_of_ble_eq_true rfl)
  rw [lg_entry_eq]
  generalize (lg_sl ([.ref h, .int mm]) ++ List.replicate (9 - (lg_sl ([.ref h, .int mm])).length) Slot.unset).toArray = ls at hl ⊢
  have hl : lv_has ls 9 [(0, .ref h), (1, .int mm)] := hl
  refine lv_aload_n hx hb dX12_seated_0 rfl (lv_at hl 0 rfl) ?_
  refine lv_iconst (v := 0) hx hb dX12_seated_1 (by decide) ?_
  refine pM_0 hx hb htg hown hK hP hS hd dX12_seated_2 (fun H locs fv_1 efv_1 hP hS => ?_)
  have hF_fv_1 : rF fv_1 := rF_put hF_fv efv_1 (iv_any _)
  refine lv_aload_n hx hb dX12_seated_5 rfl (lv_at hl 0 rfl) ?_
  refine va_calli (va_runV (As := []) (rest := []) ⟨hx, hb, hml, hown, hts⟩ (m_takeE l dC dI H.size h ad cA hd fv_1 wd ar hF_fv_1 hA_ar) (cwV 0 hts (gV kw_8_5 kw_8_7 kw_p_60 kw_1_15 kw_8_8) rfl rfl rfl (by decide +kernel) ⟨Nat.le_of_ble_eq_true rfl, Nat.le_of_ble_eq_true rfl⟩) ⟨fun a U g mk q => ⟨q.1, q.2.1, q.2.2.1, va_K.moved (u := U) (U := U.calling g mk a) (Vm.Alike.refl U.vm) q.2.2.2⟩, va_recv hK hP (ci := 12) (q0 := 0) rfl rfl, fun U hU hW => ⟨rfl, by rw [hU], by rw [hU]; exact hP, va_K.moved hW.alike hK⟩⟩ rfl rfl hl.1 rfl (lv_room (Nat.le_of_ble_eq_true rfl)) dX12_seated_6 ⟨Nat.le_of_ble_eq_true rfl, Nat.le_of_ble_eq_true rfl⟩) hS (fun q _ h9 => aM_up hS q h9) (aM_up hS) (fun r_2 u t H1 locs ht _ hw hB _ hk1 hS => ?_)
  obtain ⟨fv_5, wd_6, ar_7⟩ := u
  obtain ⟨hF_fv_5, hA_ar_7, fr_8, fa_9, p_3, p_4, -⟩ := hw
  have hP : va_P (dC, dI) vwCl (wsM h ad cA fv_5 wd_6 ar_7) H1 := by have h9 := hB.1; rw [ht] at h9; exact h9
  have fr_8 : fM [2] fv_1 fv_5 := fr_8
  have fa_9 : fA [] ar ar_7 := fa_9
  have p_4 : (fv_5 2).toInt = 0 := p_4
  generalize H1 = H at hP hS ⊢
  refine lv_istore_n (lv' := [(2, .int r_2), (0, .ref h), (1, .int mm)]) hx hb dX12_seated_9 rfl hl (by decide) rfl (fun ls hl => ?_)
  refine lv_iload_n hx hb dX12_seated_10 rfl (lv_at hl 0 rfl) ?_
  refine lv_iconst (v := 1) hx hb dX12_seated_11 (by decide) ?_
  refine lv_iconst (v := 5) hx hb dX12_seated_12 (by decide) ?_
  refine va_calli (va_runS (As := [.int r_2, .int 1, .int 5]) (rest := []) ⟨hx, hb, hml, hown, hts⟩ (m_isIn l H.size r_2 1 5) (va_cwS 3 hts (gS kw_7_218 kw_7_219 kw_1_15 kw_7_220) rfl rfl rfl (by decide +kernel) ⟨Nat.le_of_ble_eq_true rfl, Nat.le_of_ble_eq_true rfl⟩) ⟨fun a U g mk q => ⟨q.1, q.2⟩, fun U hU hW => ⟨rfl, congrArg Array.size hU⟩⟩ rfl rfl hl.1 rfl (lv_room (Nat.le_of_ble_eq_true rfl)) dX12_seated_13 ⟨Nat.le_of_ble_eq_true rfl, Nat.le_of_ble_eq_true rfl⟩) hS (fun q _ h9 => nM_up hS q h9) (nM_up hS) (fun r_10 u t H1 locs ht _ hw hB _ hk1 hS => ?_)
  obtain ⟨p_11, p_12, -⟩ := hw
  have hP := my_keepM hP hk1
  generalize H1 = H at hP hS ⊢
  rcases p_12 with ⟨rfl, p_12⟩ | ⟨rfl, p_12⟩
  · skip
    refine lv_if_eq (tgt := 37) hx hb dX12_seated_16 (by decide) (fun c_13 => ?_) (fun c_13 => ?_)
    · skip
      refine lv_iconst (v := (-1)) hx hb dX12_seated_37 (by decide) ?_
      have z_14 : ((-1) : Int32).toInt = (-1) := by decide
      exact W.iret (v := (-1)) hx hb hr (fun t ht hW => ⟨⟨(-1), (fv_5, wd_6, ar_7), rfl, ⟨hF_fv_5, hA_ar_7, (fM_call (fM_put (fM_rf [0, 2, 8, 95] _) efv_1 (by decide)) fr_8 (by decide)), (fA_call (fA_rf [4, 90, 91, 92, 93, 94] _) fa_9 (by decide)), (show (fv_5 2).toInt = 0 from by rw [show fv_5 2 = (fv_5 2) from rfl]; omega), trivial⟩, ⟨by rw [ht]; exact hP, va_K.moved hW.alike hK⟩⟩, hS.F ht⟩) hS.2.2 dX12_seated_38
    · skip
      exact absurd c_13 (by decide)
  · skip
    have i_15 : 1 ≤ r_2.toInt ∧ r_2.toInt ≤ 340 := iv_le2 (⟨by decide, by decide⟩ : (1 : Int) ≤ (1 : Int32).toInt ∧ (1 : Int32).toInt ≤ 1) p_3 (Int32.le_iff_toInt_le.mpr p_12.1)
    have i_16 : 1 ≤ r_2.toInt ∧ r_2.toInt ≤ 5 := iv_le1 i_15 (⟨by decide, by decide⟩ : (5 : Int) ≤ (5 : Int32).toInt ∧ (5 : Int32).toInt ≤ 5) (Int32.le_iff_toInt_le.mpr p_12.2)
    refine lv_if_eq (tgt := 37) hx hb dX12_seated_16 (by decide) (fun c_17 => ?_) (fun c_17 => ?_)
    · skip
      exact absurd c_17 (by decide)
    · skip
      refine lv_iload_n hx hb dX12_seated_19 rfl (lv_at hl 2 rfl) ?_
      refine lv_iconst (v := 0) hx hb dX12_seated_20 (by decide) ?_
      refine lv_sipush (v := 200) hx hb dX12_seated_21 (by decide) ?_
      refine va_calli (va_runS (As := [.int mm, .int 0, .int 200]) (rest := []) ⟨hx, hb, hml, hown, hts⟩ (m_isIn l H.size mm 0 200) (va_cwS 3 hts (gS kw_7_218 kw_7_219 kw_1_15 kw_7_220) rfl rfl rfl (by decide +kernel) ⟨Nat.le_of_ble_eq_true rfl, Nat.le_of_ble_eq_true rfl⟩) ⟨fun a U g mk q => ⟨q.1, q.2⟩, fun U hU hW => ⟨rfl, congrArg Array.size hU⟩⟩ rfl rfl hl.1 rfl (lv_room (Nat.le_of_ble_eq_true rfl)) dX12_seated_24 ⟨Nat.le_of_ble_eq_true rfl, Nat.le_of_ble_eq_true rfl⟩) hS (fun q _ h9 => nM_up hS q h9) (nM_up hS) (fun r_18 u t H1 locs ht _ hw hB _ hk1 hS => ?_)
      obtain ⟨p_19, p_20, -⟩ := hw
      have hP := my_keepM hP hk1
      generalize H1 = H at hP hS ⊢
      rcases p_20 with ⟨rfl, p_20⟩ | ⟨rfl, p_20⟩
      · skip
        refine lv_if_eq (tgt := 37) hx hb dX12_seated_27 (by decide) (fun c_21 => ?_) (fun c_21 => ?_)
        · skip
          refine lv_iconst (v := (-1)) hx hb dX12_seated_37 (by decide) ?_
          have z_22 : ((-1) : Int32).toInt = (-1) := by decide
          exact W.iret (v := (-1)) hx hb hr (fun t ht hW => ⟨⟨(-1), (fv_5, wd_6, ar_7), rfl, ⟨hF_fv_5, hA_ar_7, (fM_call (fM_put (fM_rf [0, 2, 8, 95] _) efv_1 (by decide)) fr_8 (by decide)), (fA_call (fA_rf [4, 90, 91, 92, 93, 94] _) fa_9 (by decide)), (show (fv_5 2).toInt = 0 from by rw [show fv_5 2 = (fv_5 2) from rfl]; omega), trivial⟩, ⟨by rw [ht]; exact hP, va_K.moved hW.alike hK⟩⟩, hS.F ht⟩) hS.2.2 dX12_seated_38
        · skip
          exact absurd c_21 (by decide)
      · skip
        have i_23 : 0 ≤ mm.toInt ∧ mm.toInt ≤ 2147483647 := iv_le2 (⟨by decide, by decide⟩ : (0 : Int) ≤ (0 : Int32).toInt ∧ (0 : Int32).toInt ≤ 0) (iv_any mm) (Int32.le_iff_toInt_le.mpr p_20.1)
        have i_24 : 0 ≤ mm.toInt ∧ mm.toInt ≤ 200 := iv_le1 i_23 (⟨by decide, by decide⟩ : (200 : Int) ≤ (200 : Int32).toInt ∧ (200 : Int32).toInt ≤ 200) (Int32.le_iff_toInt_le.mpr p_20.2)
        refine lv_if_eq (tgt := 37) hx hb dX12_seated_27 (by decide) (fun c_25 => ?_) (fun c_25 => ?_)
        · skip
          exact absurd c_25 (by decide)
        · skip
          refine lv_aload_n hx hb dX12_seated_30 rfl (lv_at hl 1 rfl) ?_
          refine gM_33 hx hb htg hown hK hP dX12_seated_31 ?_
          refine my_ti (y := fv 33) ((fr_8 33 rfl).trans ((congrFun efv_1 33))) ?_
          have i_26 : 0 ≤ (fv 33).toInt ∧ (fv 33).toInt ≤ 8 := hF_fv 33
          refine lv_if_ne (tgt := 39) hx hb dX12_seated_34 (by decide) (fun c_27 => ?_) (fun c_27 => ?_)
          · skip
            have i_28 : 1 ≤ (fv 33).toInt ∧ (fv 33).toInt ≤ 8 := iv_nel i_26 (by decide) c_27
            have k_29 : ¬ (fv 33).toInt = 0 := fun q => c_27 (Int32.toInt_inj.mp q)
            refine lv_iconst (v := 0) hx hb dX12_seated_39 (by decide) ?_
            refine lv_istore_n (lv' := [(3, .int 0), (2, .int r_2), (0, .ref h), (1, .int mm)]) hx hb dX12_seated_40 rfl hl (by decide) rfl (fun ls hl => ?_)
            refine lv_iconst (v := 0) hx hb dX12_seated_41 (by decide) ?_
            refine lv_istore (lv' := [(4, .int 0), (3, .int 0), (2, .int r_2), (0, .ref h), (1, .int mm)]) hx hb dX12_seated_42 hl (by decide) rfl (fun ls hl => ?_)
            refine my_cut (P := fun R9 a9 Q9 => ∀ (n_38 : Nat) (x_30 : Int32) (x_31 : Int32) (fv_32 : Nat → Int32) (ar_34 : Nat → Nat → Int32) (wd_36 : Int64) (H : Heap) (locs : List Loc) (ls : Array Slot), 5 - x_31.toInt < (n_38 : Int) → (0 ≤ x_31.toInt ∧ x_31.toInt ≤ 5) → rF fv_32 → fM [] fv_5 fv_32 → rA ar_34 → fA [] ar_7 ar_34 → (∀ j : Nat, (j : Int) < x_31.toInt → (ar 1 j).toInt ≤ 19) → va_P (dC, dI) vwCl (wsM h ad cA fv_32 wd_36 ar_34) H → va_S (aM h ad s.heap.size) s.heap H locs → lv_has ls 9 [(0, .ref h), (1, .int mm), (2, .int r_2), (3, .int x_30), (4, .int x_31)] → W p l e R9 s m a9 below meth c H locs 0 0 Q9 (F0 m 44 ls [])) ?_ (fun hj_40 => ?_)
            · intro n_38
              induction n_38 with
              | zero => intro x_30 x_31 fv_32 ar_34 wd_36 H locs ls fu_39 i_x_31 hF_fv_32 fr_33 hA_ar_34 fa_35 q_37; exfalso; omega
              | succ n_38 ih_38 =>
                intro x_30 x_31 fv_32 ar_34 wd_36 H locs ls fu_39 i_x_31 hF_fv_32 fr_33 hA_ar_34 fa_35 q_37 hP hS hl
                refine lv_iload hx hb dX12_seated_44 (lv_at hl 4 rfl) ?_
                refine lv_iload_n hx hb dX12_seated_46 rfl (lv_at hl 2 rfl) ?_
                refine lv_icmp_ge (tgt := 99) hx hb dX12_seated_47 (by decide) (fun c_41 => ?_) (fun c_41 => ?_)
                · skip
                  have i_42 : 1 ≤ x_31.toInt ∧ x_31.toInt ≤ 5 := iv_le2 i_16 i_x_31 c_41
                  have k_43 := Int32.le_iff_toInt_le.mp c_41
                  have hT : ∀ j : Nat, (j : Int) < r_2.toInt → (ar 1 j).toInt ≤ 19 := fun j hj => q_37 j (by omega)
                  have z33 : (1 : Int) ≤ (fv 33).toInt ∧ (fv 33).toInt ≤ 8 := i_28
                  refine lv_iconst (v := 0) hx hb dX12_seated_99 (by decide) ?_
                  refine lv_istore (lv' := [(4, .int 0), (0, .ref h), (1, .int mm), (2, .int r_2), (3, .int x_30)]) hx hb dX12_seated_100 hl (by decide) rfl (fun ls hl => ?_)
                  refine my_cut (P := fun R9 a9 Q9 => ∀ (n_50 : Nat) (x_44 : Int32) (fv_45 : Nat → Int32) (ar_47 : Nat → Nat → Int32) (wd_49 : Int64) (H : Heap) (locs : List Loc) (ls : Array Slot), 40 - x_44.toInt < (n_50 : Int) → (0 ≤ x_44.toInt ∧ x_44.toInt ≤ 40) → rF fv_45 → fM [8] fv_32 fv_45 → rA ar_47 → fA [4, 90] ar_34 ar_47 → va_P (dC, dI) vwCl (wsM h ad cA fv_45 wd_49 ar_47) H → va_S (aM h ad s.heap.size) s.heap H locs → lv_has ls 9 [(0, .ref h), (1, .int mm), (2, .int r_2), (4, .int x_44)] → W p l e R9 s m a9 below meth c H locs 0 0 Q9 (F0 m 102 ls [])) ?_ (fun hj_52 => ?_)
                  · intro n_50
                    induction n_50 with
                    | zero => intro x_44 fv_45 ar_47 wd_49 H locs ls fu_51 i_x_44 hF_fv_45 fr_46 hA_ar_47 fa_48; exfalso; omega
                    | succ n_50 ih_50 =>
                      intro x_44 fv_45 ar_47 wd_49 H locs ls fu_51 i_x_44 hF_fv_45 fr_46 hA_ar_47 fa_48 hP hS hl
                      refine lv_iload hx hb dX12_seated_102 (lv_at hl 3 rfl) ?_
                      refine lv_aload_n hx hb dX12_seated_104 rfl (lv_at hl 0 rfl) ?_
                      refine gM_32 hx hb htg hown hK hP dX12_seated_105 ?_
                      refine my_ti (y := fv 32) ((fr_46 32 rfl).trans ((fr_33 32 rfl).trans ((fr_8 32 rfl).trans ((congrFun efv_1 32))))) ?_
                      have i_53 : 0 ≤ (fv 32).toInt ∧ (fv 32).toInt ≤ 40 := hF_fv 32
                      refine lv_icmp_ge (tgt := 204) hx hb dX12_seated_108 (by decide) (fun c_54 => ?_) (fun c_54 => ?_)
                      · skip
                        have k_55 := Int32.le_iff_toInt_le.mp c_54
                        refine lv_iconst (v := 0) hx hb dX12_seated_204 (by decide) ?_
                        refine lv_istore (lv' := [(4, .int 0), (0, .ref h), (1, .int mm), (2, .int r_2)]) hx hb dX12_seated_205 hl (by decide) rfl (fun ls hl => ?_)
                        refine my_cut (P := fun R9 a9 Q9 => ∀ (n_121 : Nat) (x_118 : Int32) (ar_119 : Nat → Nat → Int32) (H : Heap) (locs : List Loc) (ls : Array Slot), 256 - x_118.toInt < (n_121 : Int) → (0 ≤ x_118.toInt ∧ x_118.toInt ≤ 256) → rA ar_119 → fA [94] ar_47 ar_119 → va_P (dC, dI) vwCl (wsM h ad cA fv_45 wd_49 ar_119) H → va_S (aM h ad s.heap.size) s.heap H locs → lv_has ls 9 [(0, .ref h), (2, .int r_2), (4, .int x_118)] → W p l e R9 s m a9 below meth c H locs 0 0 Q9 (F0 m 207 ls [])) ?_ (fun hj_123 => ?_)
                        · intro n_121
                          induction n_121 with
                          | zero => intro x_118 ar_119 H locs ls fu_122 i_x_118 hA_ar_119 fa_120; exfalso; omega
                          | succ n_121 ih_121 =>
                            intro x_118 ar_119 H locs ls fu_122 i_x_118 hA_ar_119 fa_120 hP hS hl
                            refine lv_iload hx hb dX12_seated_207 (lv_at hl 2 rfl) ?_
                            refine lv_iconst (v := 1) hx hb dX12_seated_209 (by decide) ?_
                            refine lv_aload_n hx hb dX12_seated_210 rfl (lv_at hl 0 rfl) ?_
                            refine gM_33 hx hb htg hown hK hP dX12_seated_211 ?_
                            refine my_ti (y := fv 33) ((fr_46 33 rfl).trans ((fr_33 33 rfl).trans ((fr_8 33 rfl).trans ((congrFun efv_1 33))))) ?_
                            refine lv_ishl hx hb dX12_seated_214 ?_
                            refine lv_topi (fun v_124 ev_124 => ?_)
                            have i_125 : 1 ≤ v_124.toInt ∧ v_124.toInt ≤ 256 := iv_shl (k := 8) ev_124 (iv_w i_28 (by decide) (by decide)) rfl (by decide)
                            refine lv_icmp_ge (tgt := 276) hx hb dX12_seated_215 (by decide) (fun c_126 => ?_) (fun c_126 => ?_)
                            · skip
                              have i_127 : 1 ≤ x_118.toInt ∧ x_118.toInt ≤ 256 := iv_le2 i_125 i_x_118 c_126
                              have k_128 := Int32.le_iff_toInt_le.mp c_126
                              refine lv_iconst (v := 0) hx hb dX12_seated_276 (by decide) ?_
                              refine lv_istore (lv' := [(4, .int 0), (0, .ref h), (2, .int r_2)]) hx hb dX12_seated_277 hl (by decide) rfl (fun ls hl => ?_)
                              refine my_cut (P := fun R9 a9 Q9 => ∀ (n_166 : Nat) (x_163 : Int32) (ar_164 : Nat → Nat → Int32) (H : Heap) (locs : List Loc) (ls : Array Slot), 8 - x_163.toInt < (n_166 : Int) → (0 ≤ x_163.toInt ∧ x_163.toInt ≤ 8) → rA ar_164 → fA [93] ar_119 ar_164 → va_P (dC, dI) vwCl (wsM h ad cA fv_45 wd_49 ar_164) H → va_S (aM h ad s.heap.size) s.heap H locs → lv_has ls 9 [(0, .ref h), (2, .int r_2), (4, .int x_163)] → W p l e R9 s m a9 below meth c H locs 0 0 Q9 (F0 m 279 ls [])) ?_ (fun hj_168 => ?_)
                              · intro n_166
                                induction n_166 with
                                | zero => intro x_163 ar_164 H locs ls fu_167 i_x_163 hA_ar_164 fa_165; exfalso; omega
                                | succ n_166 ih_166 =>
                                  intro x_163 ar_164 H locs ls fu_167 i_x_163 hA_ar_164 fa_165 hP hS hl
                                  refine lv_iload hx hb dX12_seated_279 (lv_at hl 2 rfl) ?_
                                  refine lv_aload_n hx hb dX12_seated_281 rfl (lv_at hl 0 rfl) ?_
                                  refine gM_33 hx hb htg hown hK hP dX12_seated_282 ?_
                                  refine my_ti (y := fv 33) ((fr_46 33 rfl).trans ((fr_33 33 rfl).trans ((fr_8 33 rfl).trans ((congrFun efv_1 33))))) ?_
                                  refine lv_icmp_ge (tgt := 302) hx hb dX12_seated_285 (by decide) (fun c_169 => ?_) (fun c_169 => ?_)
                                  · skip
                                    have i_170 : 1 ≤ x_163.toInt ∧ x_163.toInt ≤ 8 := iv_le2 i_28 i_x_163 c_169
                                    have k_171 := Int32.le_iff_toInt_le.mp c_169
                                    refine lv_iconst (v := 0) hx hb dX12_seated_302 (by decide) ?_
                                    refine lv_istore (lv' := [(4, .int 0), (0, .ref h), (2, .int r_2)]) hx hb dX12_seated_303 hl (by decide) rfl (fun ls hl => ?_)
                                    refine my_cut (P := fun R9 a9 Q9 => ∀ (n_182 : Nat) (x_178 : Int32) (ar_179 : Nat → Nat → Int32) (H : Heap) (locs : List Loc) (ls : Array Slot), 5 - x_178.toInt < (n_182 : Int) → (0 ≤ x_178.toInt ∧ x_178.toInt ≤ 5) → rA ar_179 → fA [91, 93] ar_164 ar_179 → (∀ j : Nat, (j : Int) < x_178.toInt → (ar_179 91 j).toInt ≤ (fv 33).toInt - 1) → va_P (dC, dI) vwCl (wsM h ad cA fv_45 wd_49 ar_179) H → va_S (aM h ad s.heap.size) s.heap H locs → lv_has ls 9 [(0, .ref h), (2, .int r_2), (4, .int x_178)] → W p l e R9 s m a9 below meth c H locs 0 0 Q9 (F0 m 305 ls [])) ?_ (fun hj_184 => ?_)
                                    · intro n_182
                                      induction n_182 with
                                      | zero => intro x_178 ar_179 H locs ls fu_183 i_x_178 hA_ar_179 fa_180 q_181; exfalso; omega
                                      | succ n_182 ih_182 =>
                                        intro x_178 ar_179 H locs ls fu_183 i_x_178 hA_ar_179 fa_180 q_181 hP hS hl
                                        refine lv_iload hx hb dX12_seated_305 (lv_at hl 2 rfl) ?_
                                        refine lv_iload_n hx hb dX12_seated_307 rfl (lv_at hl 1 rfl) ?_
                                        refine lv_icmp_ge (tgt := 346) hx hb dX12_seated_308 (by decide) (fun c_185 => ?_) (fun c_185 => ?_)
                                        · skip
                                          have i_186 : 1 ≤ x_178.toInt ∧ x_178.toInt ≤ 5 := iv_le2 i_16 i_x_178 c_185
                                          have k_187 := Int32.le_iff_toInt_le.mp c_185
                                          refine lv_aload_n hx hb dX12_seated_346 rfl (lv_at hl 0 rfl) ?_
                                          refine gM_93 hx hb htg hown hK hP dX12_seated_347 ?_
                                          refine lv_iconst (v := 0) hx hb dX12_seated_350 (by decide) ?_
                                          refine lM_93 hx hb hK hP (iv_in (⟨by decide, by decide⟩ : (0 : Int) ≤ (0 : Int32).toInt ∧ (0 : Int32).toInt ≤ 0) (by decide) (by decide)) dX12_seated_351 (fun v_201 ev_201 => ?_)
                                          refine lv_istore (lv' := [(4, .int v_201), (0, .ref h), (2, .int r_2)]) hx hb dX12_seated_352 hl (by decide) rfl (fun ls hl => ?_)
                                          refine lv_iconst (v := (-1)) hx hb dX12_seated_354 (by decide) ?_
                                          refine lv_istore (lv' := [(5, .int (-1)), (4, .int v_201), (0, .ref h), (2, .int r_2)]) hx hb dX12_seated_355 hl (by decide) rfl (fun ls hl => ?_)
                                          refine lv_iconst (v := 1) hx hb dX12_seated_357 (by decide) ?_
                                          have v8b := V8_b (fun i => hA_ar_179 91 i)
                                          refine lv_istore (lv' := [(6, .int 1), (5, .int (-1)), (4, .int v_201), (0, .ref h), (2, .int r_2)]) hx hb dX12_seated_358 hl (by decide) rfl (fun ls hl => ?_)
                                          refine my_cut (P := fun R9 a9 Q9 => ∀ (n_211 : Nat) (x_202 : Int32) (x_203 : Int32) (fv_204 : Nat → Int32) (ar_206 : Nat → Nat → Int32) (wd_208 : Int64) (H : Heap) (locs : List Loc) (ls : Array Slot), 32767 - V8 (ar_206 91) < (n_211 : Int) → ((-1) ≤ x_202.toInt ∧ x_202.toInt ≤ 2147483647) → (1 ≤ x_203.toInt ∧ x_203.toInt ≤ 1) → rF fv_204 → fM [] fv_45 fv_204 → rA ar_206 → fA [91, 92, 93] ar_179 ar_206 → (∀ j : Nat, (j : Int) < r_2.toInt → (ar_206 91 j).toInt ≤ (fv 33).toInt - 1) → (0 ≤ V8 (ar_206 91) ∧ V8 (ar_206 91) ≤ 32767) → va_P (dC, dI) vwCl (wsM h ad cA fv_204 wd_208 ar_206) H → va_S (aM h ad s.heap.size) s.heap H locs → lv_has ls 9 [(0, .ref h), (2, .int r_2), (4, .int v_201), (5, .int x_202), (6, .int x_203)] → W p l e R9 s m a9 below meth c H locs 0 0 Q9 (F0 m 360 ls [])) ?_ (fun hj_213 => ?_)
                                          · intro n_211
                                            induction n_211 with
                                            | zero => intro x_202 x_203 fv_204 ar_206 wd_208 H locs ls fu_212 i_x_202 i_x_203 hF_fv_204 fr_205 hA_ar_206 fa_207 q_209 q_210; exfalso; omega
                                            | succ n_211 ih_211 =>
                                              intro x_202 x_203 fv_204 ar_206 wd_208 H locs ls fu_212 i_x_202 i_x_203 hF_fv_204 fr_205 hA_ar_206 fa_207 q_209 q_210 hP hS hl
                                              refine lv_iload hx hb dX12_seated_360 (lv_at hl 4 rfl) ?_
                                              refine lv_if_eq (tgt := 607) hx hb dX12_seated_362 (by decide) (fun c_214 => ?_) (fun c_214 => ?_)
                                              · skip
                                                exact absurd True.intro (by have h7 := i_x_203; have h8 := (⟨by decide, by decide⟩ : (0 : Int) ≤ (0 : Int32).toInt ∧ (0 : Int32).toInt ≤ 0); have h9 := congrArg Int32.toInt c_214; exfalso; omega)
                                              · skip
                                                have k_215 : ¬ x_203.toInt = 0 := fun q => c_214 (Int32.toInt_inj.mp q)
                                                refine lv_aload_n hx hb dX12_seated_365 rfl (lv_at hl 0 rfl) ?_
                                                refine va_calli (va_runV (As := []) (rest := []) ⟨hx, hb, hml, hown, hts⟩ (m_mostSeated l dC dI H.size h ad cA hd fv_204 wd_208 ar_206 hF_fv_204 hA_ar_206) (cwV 0 hts (gV kw_9_24 kw_9_26 kw_p_101 kw_1_15 kw_9_27) rfl rfl rfl (by decide +kernel) ⟨Nat.le_of_ble_eq_true rfl, Nat.le_of_ble_eq_true rfl⟩) ⟨fun a U g mk q => ⟨q.1, q.2.1, q.2.2.1, va_K.moved (u := U) (U := U.calling g mk a) (Vm.Alike.refl U.vm) q.2.2.2⟩, va_recv hK hP (ci := 12) (q0 := 0) rfl rfl, fun U hU hW => ⟨rfl, by rw [hU], by rw [hU]; exact hP, va_K.moved hW.alike hK⟩⟩ rfl rfl hl.1 rfl (lv_room (Nat.le_of_ble_eq_true rfl)) dX12_seated_366 ⟨Nat.le_of_ble_eq_true rfl, Nat.le_of_ble_eq_true rfl⟩) hS (fun q _ h9 => aM_up hS q h9) (aM_up hS) (fun r_216 u t H1 locs ht _ hw hB _ hk1 hS => ?_)
                                                obtain ⟨fv_217, wd_218, ar_219⟩ := u
                                                obtain ⟨hF_fv_217, hA_ar_219, fr_220, fa_221, -⟩ := hw
                                                have hP : va_P (dC, dI) vwCl (wsM h ad cA fv_217 wd_218 ar_219) H1 := by have h9 := hB.1; rw [ht] at h9; exact h9
                                                have fr_220 : fM [] fv_204 fv_217 := fr_220
                                                have fa_221 : fA [] ar_206 ar_219 := fa_221
                                                generalize H1 = H at hP hS ⊢
                                                refine lv_istore (lv' := [(7, .int r_216), (0, .ref h), (2, .int r_2), (4, .int v_201), (5, .int x_202), (6, .int x_203)]) hx hb dX12_seated_369 hl (by decide) rfl (fun ls hl => ?_)
                                                refine lv_iload hx hb dX12_seated_371 (lv_at hl 0 rfl) ?_
                                                refine lv_iload hx hb dX12_seated_373 (lv_at hl 4 rfl) ?_
                                                refine my_cut (P := fun R9 a9 Q9 => ∀ (x_245 : Int32) (ar_246 : Nat → Nat → Int32) (H : Heap) (locs : List Loc) (ls : Array Slot), ((-1) ≤ x_245.toInt ∧ x_245.toInt ≤ 2147483647) → rA ar_246 → fA [92] ar_219 ar_246 → va_P (dC, dI) vwCl (wsM h ad cA fv_217 wd_218 ar_246) H → va_S (aM h ad s.heap.size) s.heap H locs → lv_has ls 9 [(0, .ref h), (2, .int r_2), (4, .int v_201), (5, .int x_245)] → W p l e R9 s m a9 below meth c H locs 0 0 Q9 (F0 m 411 ls [])) ?_ (fun hj_248 => ?_)
                                                · intro x_245 ar_246 H locs ls i_x_245 hA_ar_246 fa_247 hP hS hl
                                                  refine lv_iload hx hb dX12_seated_411 (lv_at hl 3 rfl) ?_
                                                  refine lv_aload_n hx hb dX12_seated_413 rfl (lv_at hl 0 rfl) ?_
                                                  refine gM_94 hx hb htg hown hK hP dX12_seated_414 ?_
                                                  refine lv_iconst (v := 0) hx hb dX12_seated_417 (by decide) ?_
                                                  refine lM_94 hx hb hK hP (iv_in (⟨by decide, by decide⟩ : (0 : Int) ≤ (0 : Int32).toInt ∧ (0 : Int32).toInt ≤ 0) (by decide) (by decide)) dX12_seated_418 (fun v_249 ev_249 => ?_)
                                                  refine lv_icmp_eq (tgt := 607) hx hb dX12_seated_419 (by decide) (fun c_250 => ?_) (fun c_250 => ?_)
                                                  · skip
                                                    have i_251 : (-1) ≤ v_249.toInt ∧ v_249.toInt ≤ 2147483647 := iv_eq1 i_x_245 c_250.symm
                                                    have k_252 := congrArg Int32.toInt c_250
                                                    refine lv_aload_n hx hb dX12_seated_607 rfl (lv_at hl 0 rfl) ?_
                                                    refine lv_iload_n hx hb dX12_seated_608 rfl (lv_at hl 1 rfl) ?_
                                                    refine pM_95 hx hb htg hown hK hP hS hd dX12_seated_609 (fun H locs fv_253 efv_253 hP hS => ?_)
                                                    have hF_fv_253 : rF fv_253 := rF_put hF_fv_217 efv_253 (iv_w i_16 (by decide) (by decide))
                                                    refine lv_iload hx hb dX12_seated_612 (lv_at hl 3 rfl) ?_
                                                    exact W.iret (v := x_245) hx hb hr (fun t ht hW => ⟨⟨x_245, (fv_253, wd_218, ar_246), rfl, ⟨hF_fv_253, hA_ar_246, (fM_put (fM_call (fM_call (fM_call (fM_call (fM_call (fM_put (fM_rf [0, 2, 8, 95] _) efv_1 (by decide)) fr_8 (by decide)) fr_33 (by decide)) fr_46 (by decide)) fr_205 (by decide)) fr_220 (by decide)) efv_253 (by decide)), (fA_call (fA_call (fA_call (fA_call (fA_call (fA_call (fA_call (fA_call (fA_call (fA_rf [4, 90, 91, 92, 93, 94] _) fa_9 (by decide)) fa_35 (by decide)) fa_48 (by decide)) fa_120 (by decide)) fa_165 (by decide)) fa_180 (by decide)) fa_207 (by decide)) fa_221 (by decide)) fa_247 (by decide)), (show (fv_253 2).toInt = 0 from by rw [show fv_253 2 = (fv_5 2) from (congrFun efv_253 2).trans ((fr_220 2 rfl).trans ((fr_205 2 rfl).trans ((fr_46 2 rfl).trans ((fr_33 2 rfl)))))]; omega), trivial⟩, ⟨by rw [ht]; exact hP, va_K.moved hW.alike hK⟩⟩, hS.F ht⟩) hS.2.2 dX12_seated_614
                                                  · skip
                                                    have k_254 : ¬ x_245.toInt = v_249.toInt := fun q => c_250 (Int32.toInt_inj.mp q)
                                                    refine lv_iload hx hb dX12_seated_422 (lv_at hl 3 rfl) ?_
                                                    refine lv_iload hx hb dX12_seated_424 (lv_at hl 2 rfl) ?_
                                                    refine lv_icmp_ne (tgt := 432) hx hb dX12_seated_426 (by decide) (fun c_255 => ?_) (fun c_255 => ?_)
                                                    · skip
                                                      have k_256 : ¬ x_245.toInt = v_201.toInt := fun q => c_255 (Int32.toInt_inj.mp q)
                                                      refine lv_iload_n hx hb dX12_seated_432 rfl (lv_at hl 1 rfl) ?_
                                                      refine lv_iconst (v := 1) hx hb dX12_seated_433 (by decide) ?_
                                                      refine lv_isub hx hb dX12_seated_434 ?_
                                                      refine lv_topi (fun v_257 ev_257 => ?_)
                                                      have t_258 : v_257.toInt = r_2.toInt - 1 ∧ 0 ≤ v_257.toInt ∧ v_257.toInt ≤ 4 := iv_subc ev_257 i_16 (by decide) (by decide) (by decide)
                                                      refine lv_istore (lv' := [(8, .int v_257), (0, .ref h), (2, .int r_2), (4, .int v_201), (5, .int x_245)]) hx hb dX12_seated_435 hl (by decide) rfl (fun ls hl => ?_)
                                                      refine my_cut (P := fun R9 a9 Q9 => ∀ (n_266 : Nat) (x_260 : Int32) (ar_261 : Nat → Nat → Int32) (H : Heap) (locs : List Loc) (ls : Array Slot), x_260.toInt - (-1) < (n_266 : Int) → ((-1) ≤ x_260.toInt ∧ x_260.toInt ≤ 4) → rA ar_261 → fA [91, 93] ar_246 ar_261 → (x_260.toInt < r_2.toInt) → (V8 (ar_206 91) ≤ V8 (ar_261 91) + w8 x_260.toInt - 1) → (∀ j : Nat, (j : Int) < r_2.toInt → (ar_261 91 j).toInt ≤ (fv 33).toInt - 1) → va_P (dC, dI) vwCl (wsM h ad cA fv_217 wd_218 ar_261) H → va_S (aM h ad s.heap.size) s.heap H locs → lv_has ls 9 [(0, .ref h), (2, .int r_2), (4, .int v_201), (5, .int x_245), (8, .int x_260)] → W p l e R9 s m a9 below meth c H locs 0 0 Q9 (F0 m 437 ls [])) ?_ (fun hj_268 => ?_)
                                                      · intro n_266
                                                        induction n_266 with
                                                        | zero => intro x_260 ar_261 H locs ls fu_267 i_x_260 hA_ar_261 fa_262 q_263 q_264 q_265; exfalso; omega
                                                        | succ n_266 ih_266 =>
                                                          intro x_260 ar_261 H locs ls fu_267 i_x_260 hA_ar_261 fa_262 q_263 q_264 q_265 hP hS hl
                                                          have w_269 := w8_p (k := x_260.toInt) (by omega)
                                                          refine lv_iload hx hb dX12_seated_437 (lv_at hl 4 rfl) ?_
                                                          refine my_cut (P := fun R9 a9 Q9 => ∀  (H : Heap) (locs : List Loc) (ls : Array Slot), (x_260.toInt < 0 ∨ (ar_261 91 x_260.toInt.toNat).toInt ≤ (fv 33).toInt - 2) → va_P (dC, dI) vwCl (wsM h ad cA fv_217 wd_218 ar_261) H → va_S (aM h ad s.heap.size) s.heap H locs → lv_has ls 9 [(0, .ref h), (2, .int r_2), (4, .int v_201), (5, .int x_245), (8, .int x_260)] → W p l e R9 s m a9 below meth c H locs 0 0 Q9 (F0 m 519 ls [])) ?_ (fun hj_298 => ?_)
                                                          · intro  H locs ls q_297 hP hS hl
                                                            refine lv_iload hx hb dX12_seated_519 (lv_at hl 4 rfl) ?_
                                                            refine my_cut (P := fun R9 a9 Q9 => ∀ (x_302 : Int32) (H : Heap) (locs : List Loc) (ls : Array Slot), (0 ≤ x_302.toInt ∧ x_302.toInt ≤ 1) → (x_302.toInt = 0 ∨ 0 ≤ x_260.toInt) → va_P (dC, dI) vwCl (wsM h ad cA fv_217 wd_218 ar_261) H → va_S (aM h ad s.heap.size) s.heap H locs → lv_has ls 9 [(0, .ref h), (2, .int r_2), (4, .int v_201), (5, .int x_245), (8, .int x_260)] → W p l e R9 s m a9 below meth c H locs 0 0 Q9 (F0 m 529 ls [.int x_302])) ?_ (fun hj_304 => ?_)
                                                            · intro x_302 H locs ls i_x_302 q_303 hP hS hl
                                                              refine lv_istore (lv' := [(6, .int x_302), (0, .ref h), (2, .int r_2), (4, .int v_201), (5, .int x_245), (8, .int x_260)]) hx hb dX12_seated_529 hl (by decide) rfl (fun ls hl => ?_)
                                                              refine lv_iload hx hb dX12_seated_531 (lv_at hl 0 rfl) ?_
                                                              refine lv_if_ne (tgt := 539) hx hb dX12_seated_533 (by decide) (fun c_305 => ?_) (fun c_305 => ?_)
                                                              · skip
                                                                have i_306 : 1 ≤ x_302.toInt ∧ x_302.toInt ≤ 1 := iv_nel i_x_302 (by decide) c_305
                                                                have k_307 : ¬ x_302.toInt = 0 := fun q => c_305 (Int32.toInt_inj.mp q)
                                                                have i_308 : 0 ≤ x_260.toInt ∧ x_260.toInt ≤ 4 := (by omega)
                                                                refine lv_aload_n hx hb dX12_seated_539 rfl (lv_at hl 1 rfl) ?_
                                                                refine gM_93 hx hb htg hown hK hP dX12_seated_540 ?_
                                                                refine lv_aload_n hx hb dX12_seated_543 rfl (lv_at hl 1 rfl) ?_
                                                                refine gM_91 hx hb htg hown hK hP dX12_seated_544 ?_
                                                                refine lv_iload hx hb dX12_seated_547 (lv_at hl 5 rfl) ?_
                                                                refine lM_91 hx hb hK hP (iv_in i_308 (by decide) (by decide)) dX12_seated_549 (fun v_309 ev_309 => ?_)
                                                                have i_310 : 0 ≤ v_309.toInt ∧ v_309.toInt ≤ 7 := ev_309 ▸ hA_ar_261 91 _
                                                                have i_311 : 0 ≤ v_309.toInt ∧ v_309.toInt ≤ 6 := ⟨(i_310).1, by have h8 : (ar_261 91 x_260.toInt.toNat).toInt = v_309.toInt := congrArg Int32.toInt ev_309.symm; omega⟩
                                                                have h549 : v_309.toInt ≤ (fv 33).toInt - 2 := by have h8 : (ar_261 91 x_260.toInt.toNat).toInt = v_309.toInt := congrArg Int32.toInt ev_309.symm; omega
                                                                refine lv_dup2_11 hx hb dX12_seated_550 rfl rfl ?_
                                                                refine lM_93 hx hb hK hP (iv_in i_311 (by decide) (by decide)) dX12_seated_551 (fun v_312 ev_312 => ?_)
                                                                refine lv_aload_n hx hb dX12_seated_552 rfl (lv_at hl 1 rfl) ?_
                                                                refine gM_22 hx hb htg hown hK hP dX12_seated_553 ?_
                                                                refine lv_aload_n hx hb dX12_seated_556 rfl (lv_at hl 1 rfl) ?_
                                                                refine gM_1 hx hb htg hown hK hP dX12_seated_557 ?_
                                                                refine lv_iload hx hb dX12_seated_560 (lv_at hl 5 rfl) ?_
                                                                refine lM_1 hx hb hK hP (iv_in i_308 (by decide) (by decide)) dX12_seated_562 (fun v_313 ev_313 => ?_)
                                                                have i_314 : 0 ≤ v_313.toInt ∧ v_313.toInt ≤ 255 := ev_313 ▸ hA_ar_261 1 _
                                                                have i_315 : 0 ≤ v_313.toInt ∧ v_313.toInt ≤ 19 := ⟨(i_314).1, by rw [ev_313, ((fA_call (fA_call (fA_call (fA_call (fA_call (fA_call (fA_call (fA_call (fA_call (fA_call (fA_rf [4, 90, 91, 92, 93, 94] _) fa_9 (by decide)) fa_35 (by decide)) fa_48 (by decide)) fa_120 (by decide)) fa_165 (by decide)) fa_180 (by decide)) fa_207 (by decide)) fa_221 (by decide)) fa_247 (by decide)) fa_262 (by decide)) 1 rfl)]; exact hT _ (by show ((x_260.toInt.toNat : Nat) : Int) < _; omega)⟩
                                                                refine lM_22 hx hb hK hP (iv_in i_315 (by decide) (by decide)) dX12_seated_563 (fun v_316 ev_316 => ?_)
                                                                refine lv_isub hx hb dX12_seated_564 ?_
                                                                refine lv_topi (fun v_317 ev_317 => ?_)
                                                                refine sM_93 hx hb hK hP hS hd (iv_in i_311 (by decide) (by decide)) dX12_seated_565 (fun H locs ar_318 ear_318 hP hS => ?_)
                                                                have hA_ar_318 : rA ar_318 := rA_put hA_ar_261 ear_318 (iv_any _)
                                                                refine lv_aload_n hx hb dX12_seated_566 rfl (lv_at hl 1 rfl) ?_
                                                                refine gM_91 hx hb htg hown hK hP dX12_seated_567 ?_
                                                                refine lv_iload hx hb dX12_seated_570 (lv_at hl 5 rfl) ?_
                                                                refine lv_dup2_11 hx hb dX12_seated_572 rfl rfl ?_
                                                                refine lM_91 hx hb hK hP (iv_in i_308 (by decide) (by decide)) dX12_seated_573 (fun v_319 ev_319 => ?_)
                                                                obtain rfl : v_309 = v_319 := ev_309.trans ((congrFun ((fA_put (fA_rf [93] _) ear_318 (by decide)) 91 rfl) _).symm.trans ev_319.symm)
                                                                refine lv_iconst (v := 1) hx hb dX12_seated_574 (by decide) ?_
                                                                refine lv_iadd hx hb dX12_seated_575 ?_
                                                                refine lv_topi (fun v_320 ev_320 => ?_)
                                                                have t_321 : v_320.toInt = v_309.toInt + 1 ∧ 1 ≤ v_320.toInt ∧ v_320.toInt ≤ 7 := iv_addc ev_320 i_311 (by decide) (by decide) (by decide)
                                                                refine sM_91 hx hb hK hP hS hd (iv_in i_308 (by decide) (by decide)) dX12_seated_576 (fun H locs ar_323 ear_323 hP hS => ?_)
                                                                have hA_ar_323 : rA ar_323 := rA_put hA_ar_318 ear_323 (iv_w t_321.2 (by decide) (by decide))
                                                                refine lv_aload_n hx hb dX12_seated_577 rfl (lv_at hl 1 rfl) ?_
                                                                refine gM_93 hx hb htg hown hK hP dX12_seated_578 ?_
                                                                refine lv_aload_n hx hb dX12_seated_581 rfl (lv_at hl 1 rfl) ?_
                                                                refine gM_91 hx hb htg hown hK hP dX12_seated_582 ?_
                                                                refine lv_iload hx hb dX12_seated_585 (lv_at hl 5 rfl) ?_
                                                                refine lM_91 hx hb hK hP (iv_in i_308 (by decide) (by decide)) dX12_seated_587 (fun v_324 ev_324 => ?_)
                                                                have i_325 : 0 ≤ v_324.toInt ∧ v_324.toInt ≤ 7 := ev_324 ▸ hA_ar_323 91 _
                                                                refine lv_dup2_11 hx hb dX12_seated_588 rfl rfl ?_
                                                                refine lM_93 hx hb hK hP (iv_in i_325 (by decide) (by decide)) dX12_seated_589 (fun v_326 ev_326 => ?_)
                                                                refine lv_aload_n hx hb dX12_seated_590 rfl (lv_at hl 1 rfl) ?_
                                                                refine gM_22 hx hb htg hown hK hP dX12_seated_591 ?_
                                                                refine lv_aload_n hx hb dX12_seated_594 rfl (lv_at hl 1 rfl) ?_
                                                                refine gM_1 hx hb htg hown hK hP dX12_seated_595 ?_
                                                                refine lv_iload hx hb dX12_seated_598 (lv_at hl 5 rfl) ?_
                                                                refine lM_1 hx hb hK hP (iv_in i_308 (by decide) (by decide)) dX12_seated_600 (fun v_327 ev_327 => ?_)
                                                                obtain rfl : v_313 = v_327 := ev_313.trans ((congrFun ((fA_put (fA_put (fA_rf [91, 93] _) ear_318 (by decide)) ear_323 (by decide)) 1 rfl) _).symm.trans ev_327.symm)
                                                                refine lM_22 hx hb hK hP (iv_in i_315 (by decide) (by decide)) dX12_seated_601 (fun v_328 ev_328 => ?_)
                                                                obtain rfl : v_316 = v_328 := ev_316.trans ((congrFun ((fA_put (fA_put (fA_rf [91, 93] _) ear_318 (by decide)) ear_323 (by decide)) 22 rfl) _).symm.trans ev_328.symm)
                                                                refine lv_iadd hx hb dX12_seated_602 ?_
                                                                refine lv_topi (fun v_329 ev_329 => ?_)
                                                                refine sM_93 hx hb hK hP hS hd (iv_in i_325 (by decide) (by decide)) dX12_seated_603 (fun H locs ar_330 ear_330 hP hS => ?_)
                                                                have hA_ar_330 : rA ar_330 := rA_put hA_ar_323 ear_330 (iv_any _)
                                                                have g91 : ar_330 91 = upd (ar_261 91) (x_260.toInt.toNat) v_320 := by rw [((fA_put (fA_rf [93] _) ear_330 (by decide)) 91 rfl), ear_323]; show upd (ar_318 91) (x_260.toInt.toNat) _ = _; rw [((fA_put (fA_rf [93] _) ear_318 (by decide)) 91 rfl)]
                                                                have y9 := V8_i (k := x_260.toInt) (x := v_320) (by omega) g91 (by show _ = (ar_261 91 (Int32.toNatClampNeg x_260)).toInt + 1; rw [← ev_309]; omega)
                                                                have pz9 := pS_up (x := v_320) q_265 g91 (by omega)
                                                                refine lv_goto (tgt := 360) hx hb dX12_seated_604 (by decide) ?_
                                                                exact ih_211 x_245 x_302 fv_217 ar_330 wd_218 _ _ ls (by omega) i_x_245 i_306 hF_fv_217 (fM_call (fM_call (fM_rf [] _) fr_205 (by decide)) fr_220 (by decide)) hA_ar_330 (fA_put (fA_put (fA_put (fA_call (fA_call (fA_call (fA_call (fA_rf [91, 92, 93] _) fa_207 (by decide)) fa_221 (by decide)) fa_247 (by decide)) fa_262 (by decide)) ear_318 (by decide)) ear_323 (by decide)) ear_330 (by decide)) pz9 (V8_b (fun i => hA_ar_330 91 i)) hP hS (lv_sub hl [1, 2, 3, 4, 0] rfl)
                                                              · skip
                                                                have i_331 : 0 ≤ x_302.toInt ∧ x_302.toInt ≤ 0 := iv_eq1 (⟨by decide, by decide⟩ : (0 : Int) ≤ (0 : Int32).toInt ∧ (0 : Int32).toInt ≤ 0) c_305
                                                                refine lv_goto (tgt := 360) hx hb dX12_seated_536 (by decide) ?_
                                                                refine lv_iload hx hb dX12_seated_360 (lv_at hl 0 rfl) ?_
                                                                refine lv_if_eq (tgt := 607) hx hb dX12_seated_362 (by decide) (fun c_333 => ?_) (fun c_333 => ?_)
                                                                · skip
                                                                  refine lv_aload_n hx hb dX12_seated_607 rfl (lv_at hl 1 rfl) ?_
                                                                  refine lv_iload_n hx hb dX12_seated_608 rfl (lv_at hl 2 rfl) ?_
                                                                  refine pM_95 hx hb htg hown hK hP hS hd dX12_seated_609 (fun H locs fv_335 efv_335 hP hS => ?_)
                                                                  have hF_fv_335 : rF fv_335 := rF_put hF_fv_217 efv_335 (iv_w i_16 (by decide) (by decide))
                                                                  refine lv_iload hx hb dX12_seated_612 (lv_at hl 4 rfl) ?_
                                                                  exact W.iret (v := x_245) hx hb hr (fun t ht hW => ⟨⟨x_245, (fv_335, wd_218, ar_261), rfl, ⟨hF_fv_335, hA_ar_261, (fM_put (fM_call (fM_call (fM_call (fM_call (fM_call (fM_put (fM_rf [0, 2, 8, 95] _) efv_1 (by decide)) fr_8 (by decide)) fr_33 (by decide)) fr_46 (by decide)) fr_205 (by decide)) fr_220 (by decide)) efv_335 (by decide)), (fA_call (fA_call (fA_call (fA_call (fA_call (fA_call (fA_call (fA_call (fA_call (fA_call (fA_rf [4, 90, 91, 92, 93, 94] _) fa_9 (by decide)) fa_35 (by decide)) fa_48 (by decide)) fa_120 (by decide)) fa_165 (by decide)) fa_180 (by decide)) fa_207 (by decide)) fa_221 (by decide)) fa_247 (by decide)) fa_262 (by decide)), (show (fv_335 2).toInt = 0 from by rw [show fv_335 2 = (fv_5 2) from (congrFun efv_335 2).trans ((fr_220 2 rfl).trans ((fr_205 2 rfl).trans ((fr_46 2 rfl).trans ((fr_33 2 rfl)))))]; omega), trivial⟩, ⟨by rw [ht]; exact hP, va_K.moved hW.alike hK⟩⟩, hS.F ht⟩) hS.2.2 dX12_seated_614
                                                                · skip
                                                                  exact absurd True.intro (by have h7 := i_331; have h8 := (⟨by decide, by decide⟩ : (0 : Int) ≤ (0 : Int32).toInt ∧ (0 : Int32).toInt ≤ 0); have h9 : ¬ _ := fun q => c_333 (Int32.toInt_inj.mp q); exfalso; omega)
                                                            · skip
                                                              refine lv_if_lt (tgt := 528) hx hb dX12_seated_521 (by decide) (fun c_299 => ?_) (fun c_299 => ?_)
                                                              · skip
                                                                have i_300 : (-1) ≤ x_260.toInt ∧ x_260.toInt ≤ (-1) := iv_lt1 i_x_260 (⟨by decide, by decide⟩ : (0 : Int) ≤ (0 : Int32).toInt ∧ (0 : Int32).toInt ≤ 0) c_299
                                                                refine lv_iconst (v := 0) hx hb dX12_seated_528 (by decide) ?_
                                                                have z_336 : (0 : Int32).toInt = 0 := by decide
                                                                exact hj_304 0 _ _ ls (iv_w (⟨by decide, by decide⟩ : (0 : Int) ≤ (0 : Int32).toInt ∧ (0 : Int32).toInt ≤ 0) (by decide) (by decide)) (by omega) hP hS (lv_sub hl [0, 1, 2, 3, 4] rfl)
                                                              · skip
                                                                have i_301 : 0 ≤ x_260.toInt ∧ x_260.toInt ≤ 4 := iv_le2 (⟨by decide, by decide⟩ : (0 : Int) ≤ (0 : Int32).toInt ∧ (0 : Int32).toInt ≤ 0) i_x_260 (Int32.not_lt.mp c_299)
                                                                refine lv_iconst (v := 1) hx hb dX12_seated_524 (by decide) ?_
                                                                refine lv_goto (tgt := 529) hx hb dX12_seated_525 (by decide) ?_
                                                                have z_337 : (1 : Int32).toInt = 1 := by decide
                                                                exact hj_304 1 _ _ ls (iv_w (⟨by decide, by decide⟩ : (1 : Int) ≤ (1 : Int32).toInt ∧ (1 : Int32).toInt ≤ 1) (by decide) (by decide)) (by omega) hP hS (lv_sub hl [0, 1, 2, 3, 4] rfl)
                                                          · skip
                                                            refine lv_if_lt (tgt := 519) hx hb dX12_seated_439 (by decide) (fun c_270 => ?_) (fun c_270 => ?_)
                                                            · skip
                                                              have i_271 : (-1) ≤ x_260.toInt ∧ x_260.toInt ≤ (-1) := iv_lt1 i_x_260 (⟨by decide, by decide⟩ : (0 : Int) ≤ (0 : Int32).toInt ∧ (0 : Int32).toInt ≤ 0) c_270
                                                              exact hj_298  _ _ ls (by omega) hP hS (lv_sub hl [0, 1, 2, 3, 4] rfl)
                                                            · skip
                                                              have i_272 : 0 ≤ x_260.toInt ∧ x_260.toInt ≤ 4 := iv_le2 (⟨by decide, by decide⟩ : (0 : Int) ≤ (0 : Int32).toInt ∧ (0 : Int32).toInt ≤ 0) i_x_260 (Int32.not_lt.mp c_270)
                                                              refine lv_aload_n hx hb dX12_seated_442 rfl (lv_at hl 0 rfl) ?_
                                                              refine gM_91 hx hb htg hown hK hP dX12_seated_443 ?_
                                                              refine lv_iload hx hb dX12_seated_446 (lv_at hl 4 rfl) ?_
                                                              refine lM_91 hx hb hK hP (iv_in i_272 (by decide) (by decide)) dX12_seated_448 (fun v_273 ev_273 => ?_)
                                                              have i_274 : 0 ≤ v_273.toInt ∧ v_273.toInt ≤ 7 := ev_273 ▸ hA_ar_261 91 _
                                                              refine lv_aload_n hx hb dX12_seated_449 rfl (lv_at hl 0 rfl) ?_
                                                              refine gM_33 hx hb htg hown hK hP dX12_seated_450 ?_
                                                              refine my_ti (y := fv 33) ((fr_220 33 rfl).trans ((fr_205 33 rfl).trans ((fr_46 33 rfl).trans ((fr_33 33 rfl).trans ((fr_8 33 rfl).trans ((congrFun efv_1 33))))))) ?_
                                                              refine lv_iconst (v := 1) hx hb dX12_seated_453 (by decide) ?_
                                                              refine lv_isub hx hb dX12_seated_454 ?_
                                                              refine lv_topi (fun v_275 ev_275 => ?_)
                                                              have t_276 : v_275.toInt = (fv 33).toInt - 1 ∧ 0 ≤ v_275.toInt ∧ v_275.toInt ≤ 7 := iv_subc ev_275 i_28 (by decide) (by decide) (by decide)
                                                              refine lv_icmp_ne (tgt := 519) hx hb dX12_seated_455 (by decide) (fun c_278 => ?_) (fun c_278 => ?_)
                                                              · skip
                                                                have k_279 : ¬ v_273.toInt = v_275.toInt := fun q => c_278 (Int32.toInt_inj.mp q)
                                                                exact hj_298  _ _ ls (Or.inr (by show (ar_261 91 (Int32.toNatClampNeg x_260)).toInt ≤ _; rw [← ev_273]; have h9 := q_265 (x_260.toInt.toNat) (by omega); have h8 : (ar_261 91 x_260.toInt.toNat).toInt = v_273.toInt := congrArg Int32.toInt ev_273.symm; omega)) hP hS (lv_sub hl [0, 1, 2, 3, 4] rfl)
                                                              · skip
                                                                have k_280 := congrArg Int32.toInt c_278
                                                                refine lv_aload_n hx hb dX12_seated_458 rfl (lv_at hl 0 rfl) ?_
                                                                refine gM_93 hx hb htg hown hK hP dX12_seated_459 ?_
                                                                refine lv_aload_n hx hb dX12_seated_462 rfl (lv_at hl 0 rfl) ?_
                                                                refine gM_33 hx hb htg hown hK hP dX12_seated_463 ?_
                                                                refine my_ti (y := fv 33) ((fr_220 33 rfl).trans ((fr_205 33 rfl).trans ((fr_46 33 rfl).trans ((fr_33 33 rfl).trans ((fr_8 33 rfl).trans ((congrFun efv_1 33))))))) ?_
                                                                refine lv_iconst (v := 1) hx hb dX12_seated_466 (by decide) ?_
                                                                refine lv_isub hx hb dX12_seated_467 ?_
                                                                refine my_ti (y := v_275) ev_275.symm ?_
                                                                refine lv_dup2_11 hx hb dX12_seated_468 rfl rfl ?_
                                                                refine lM_93 hx hb hK hP (iv_in t_276.2 (by decide) (by decide)) dX12_seated_469 (fun v_281 ev_281 => ?_)
                                                                refine lv_aload_n hx hb dX12_seated_470 rfl (lv_at hl 0 rfl) ?_
                                                                refine gM_22 hx hb htg hown hK hP dX12_seated_471 ?_
                                                                refine lv_aload_n hx hb dX12_seated_474 rfl (lv_at hl 0 rfl) ?_
                                                                refine gM_1 hx hb htg hown hK hP dX12_seated_475 ?_
                                                                refine lv_iload hx hb dX12_seated_478 (lv_at hl 4 rfl) ?_
                                                                refine lM_1 hx hb hK hP (iv_in i_272 (by decide) (by decide)) dX12_seated_480 (fun v_282 ev_282 => ?_)
                                                                have i_283 : 0 ≤ v_282.toInt ∧ v_282.toInt ≤ 255 := ev_282 ▸ hA_ar_261 1 _
                                                                have i_284 : 0 ≤ v_282.toInt ∧ v_282.toInt ≤ 19 := ⟨(i_283).1, by rw [ev_282, ((fA_call (fA_call (fA_call (fA_call (fA_call (fA_call (fA_call (fA_call (fA_call (fA_call (fA_rf [4, 90, 91, 92, 93, 94] _) fa_9 (by decide)) fa_35 (by decide)) fa_48 (by decide)) fa_120 (by decide)) fa_165 (by decide)) fa_180 (by decide)) fa_207 (by decide)) fa_221 (by decide)) fa_247 (by decide)) fa_262 (by decide)) 1 rfl)]; exact hT _ (by show ((x_260.toInt.toNat : Nat) : Int) < _; omega)⟩
                                                                refine lM_22 hx hb hK hP (iv_in i_284 (by decide) (by decide)) dX12_seated_481 (fun v_285 ev_285 => ?_)
                                                                refine lv_isub hx hb dX12_seated_482 ?_
                                                                refine lv_topi (fun v_286 ev_286 => ?_)
                                                                refine sM_93 hx hb hK hP hS hd (iv_in t_276.2 (by decide) (by decide)) dX12_seated_483 (fun H locs ar_287 ear_287 hP hS => ?_)
                                                                have hA_ar_287 : rA ar_287 := rA_put hA_ar_261 ear_287 (iv_any _)
                                                                refine lv_aload_n hx hb dX12_seated_484 rfl (lv_at hl 0 rfl) ?_
                                                                refine gM_91 hx hb htg hown hK hP dX12_seated_485 ?_
                                                                refine lv_iload hx hb dX12_seated_488 (lv_at hl 4 rfl) ?_
                                                                refine lv_iconst (v := 0) hx hb dX12_seated_490 (by decide) ?_
                                                                refine sM_91 hx hb hK hP hS hd (iv_in i_272 (by decide) (by decide)) dX12_seated_491 (fun H locs ar_288 ear_288 hP hS => ?_)
                                                                have hA_ar_288 : rA ar_288 := rA_put hA_ar_287 ear_288 (iv_w (⟨by decide, by decide⟩ : (0 : Int) ≤ (0 : Int32).toInt ∧ (0 : Int32).toInt ≤ 0) (by decide) (by decide))
                                                                refine lv_aload_n hx hb dX12_seated_492 rfl (lv_at hl 0 rfl) ?_
                                                                refine gM_93 hx hb htg hown hK hP dX12_seated_493 ?_
                                                                refine lv_iconst (v := 0) hx hb dX12_seated_496 (by decide) ?_
                                                                refine lv_dup2_11 hx hb dX12_seated_497 rfl rfl ?_
                                                                refine lM_93 hx hb hK hP (iv_in (⟨by decide, by decide⟩ : (0 : Int) ≤ (0 : Int32).toInt ∧ (0 : Int32).toInt ≤ 0) (by decide) (by decide)) dX12_seated_498 (fun v_289 ev_289 => ?_)
                                                                refine lv_aload_n hx hb dX12_seated_499 rfl (lv_at hl 0 rfl) ?_
                                                                refine gM_22 hx hb htg hown hK hP dX12_seated_500 ?_
                                                                refine lv_aload_n hx hb dX12_seated_503 rfl (lv_at hl 0 rfl) ?_
                                                                refine gM_1 hx hb htg hown hK hP dX12_seated_504 ?_
                                                                refine lv_iload hx hb dX12_seated_507 (lv_at hl 4 rfl) ?_
                                                                refine lM_1 hx hb hK hP (iv_in i_272 (by decide) (by decide)) dX12_seated_509 (fun v_290 ev_290 => ?_)
                                                                obtain rfl : v_282 = v_290 := ev_282.trans ((congrFun ((fA_put (fA_put (fA_rf [91, 93] _) ear_287 (by decide)) ear_288 (by decide)) 1 rfl) _).symm.trans ev_290.symm)
                                                                refine lM_22 hx hb hK hP (iv_in i_284 (by decide) (by decide)) dX12_seated_510 (fun v_291 ev_291 => ?_)
                                                                obtain rfl : v_285 = v_291 := ev_285.trans ((congrFun ((fA_put (fA_put (fA_rf [91, 93] _) ear_287 (by decide)) ear_288 (by decide)) 22 rfl) _).symm.trans ev_291.symm)
                                                                refine lv_iadd hx hb dX12_seated_511 ?_
                                                                refine lv_topi (fun v_292 ev_292 => ?_)
                                                                refine sM_93 hx hb hK hP hS hd (iv_in (⟨by decide, by decide⟩ : (0 : Int) ≤ (0 : Int32).toInt ∧ (0 : Int32).toInt ≤ 0) (by decide) (by decide)) dX12_seated_512 (fun H locs ar_293 ear_293 hP hS => ?_)
                                                                have hA_ar_293 : rA ar_293 := rA_put hA_ar_288 ear_293 (iv_any _)
                                                                have g91 : ar_293 91 = upd (ar_261 91) (x_260.toInt.toNat) (0 : Int32) := by rw [((fA_put (fA_rf [93] _) ear_293 (by decide)) 91 rfl), ear_288]; show upd (ar_287 91) (x_260.toInt.toNat) _ = _; rw [((fA_put (fA_rf [93] _) ear_287 (by decide)) 91 rfl)]
                                                                have y9 := V8_z (k := x_260.toInt) (x := (0 : Int32)) (fun i => hA_ar_261 91 i) (by omega) g91 (by decide)
                                                                have y8 := w8_s (k := x_260.toInt) (by omega)
                                                                have pz8 := pS_up (x := (0 : Int32)) q_265 g91 (by show (0 : Int) ≤ _; omega)
                                                                obtain ⟨v_294, ev_294⟩ : ∃ z : Int32, z = x_260 + (-1) := ⟨_, rfl⟩
                                                                refine lv_iinc (v := v_294) (lv' := [(8, .int v_294), (0, .ref h), (2, .int r_2), (4, .int v_201), (5, .int x_245)]) hx hb dX12_seated_513 hl (k := 4) rfl (by rw [ev_294]; rfl) (by decide) rfl (fun ls hl => ?_)
                                                                have t_295 : v_294.toInt = x_260.toInt + (-1) ∧ (-1) ≤ v_294.toInt ∧ v_294.toInt ≤ 3 := iv_addc ev_294 i_272 (by decide) (by decide) (by decide)
                                                                have y7 : w8 v_294.toInt = w8 (x_260.toInt - 1) := by congr 1; omega
                                                                refine lv_goto (tgt := 437) hx hb dX12_seated_516 (by decide) ?_
                                                                exact ih_266 v_294 ar_293 _ _ ls (by omega) (iv_w t_295.2 (by decide) (by decide)) hA_ar_293 (fA_put (fA_put (fA_put (fA_call (fA_rf [91, 93] _) fa_262 (by decide)) ear_287 (by decide)) ear_288 (by decide)) ear_293 (by decide)) (by omega) (by omega) pz8 hP hS (lv_sub hl [1, 2, 3, 4, 0] rfl)
                                                      · skip
                                                        exact hj_268 6 v_257 ar_246 _ _ ls (by omega) (iv_w t_258.2 (by decide) (by decide)) hA_ar_246 (fA_rf [91, 93] _) (by omega) (by have h9 := w8_p (k := v_257.toInt) (by omega); rw [((fA_call (fA_call (fA_rf [92] _) fa_221 (by decide)) fa_247 (by decide)) 91 rfl)]; omega) (fun j hj => by rw [((fA_call (fA_call (fA_rf [92] _) fa_221 (by decide)) fa_247 (by decide)) 91 rfl)]; exact q_209 j hj) hP hS (lv_sub hl [1, 2, 3, 4, 0] rfl)
                                                    · skip
                                                      have i_338 : (-1) ≤ v_201.toInt ∧ v_201.toInt ≤ 2147483647 := iv_eq1 i_x_245 c_255.symm
                                                      have k_339 := congrArg Int32.toInt c_255
                                                      refine lv_goto (tgt := 607) hx hb dX12_seated_429 (by decide) ?_
                                                      refine lv_aload_n hx hb dX12_seated_607 rfl (lv_at hl 0 rfl) ?_
                                                      refine lv_iload_n hx hb dX12_seated_608 rfl (lv_at hl 1 rfl) ?_
                                                      refine pM_95 hx hb htg hown hK hP hS hd dX12_seated_609 (fun H locs fv_340 efv_340 hP hS => ?_)
                                                      have hF_fv_340 : rF fv_340 := rF_put hF_fv_217 efv_340 (iv_w i_16 (by decide) (by decide))
                                                      refine lv_iload hx hb dX12_seated_612 (lv_at hl 3 rfl) ?_
                                                      exact W.iret (v := x_245) hx hb hr (fun t ht hW => ⟨⟨x_245, (fv_340, wd_218, ar_246), rfl, ⟨hF_fv_340, hA_ar_246, (fM_put (fM_call (fM_call (fM_call (fM_call (fM_call (fM_put (fM_rf [0, 2, 8, 95] _) efv_1 (by decide)) fr_8 (by decide)) fr_33 (by decide)) fr_46 (by decide)) fr_205 (by decide)) fr_220 (by decide)) efv_340 (by decide)), (fA_call (fA_call (fA_call (fA_call (fA_call (fA_call (fA_call (fA_call (fA_call (fA_rf [4, 90, 91, 92, 93, 94] _) fa_9 (by decide)) fa_35 (by decide)) fa_48 (by decide)) fa_120 (by decide)) fa_165 (by decide)) fa_180 (by decide)) fa_207 (by decide)) fa_221 (by decide)) fa_247 (by decide)), (show (fv_340 2).toInt = 0 from by rw [show fv_340 2 = (fv_5 2) from (congrFun efv_340 2).trans ((fr_220 2 rfl).trans ((fr_205 2 rfl).trans ((fr_46 2 rfl).trans ((fr_33 2 rfl)))))]; omega), trivial⟩, ⟨by rw [ht]; exact hP, va_K.moved hW.alike hK⟩⟩, hS.F ht⟩) hS.2.2 dX12_seated_614
                                                · skip
                                                  refine lv_icmp_le (tgt := 411) hx hb dX12_seated_375 (by decide) (fun c_222 => ?_) (fun c_222 => ?_)
                                                  · skip
                                                    have k_223 := Int32.le_iff_toInt_le.mp c_222
                                                    exact hj_248 x_202 ar_219 _ _ ls i_x_202 hA_ar_219 (fA_rf [92] _) hP hS (lv_sub hl [1, 2, 3, 4] rfl)
                                                  · skip
                                                    have i_224 : (-1) ≤ x_202.toInt ∧ x_202.toInt ≤ 2147483646 := iv_lt1 i_x_202 (iv_any r_216) (Int32.not_le.mp c_222)
                                                    have i_225 : 0 ≤ r_216.toInt ∧ r_216.toInt ≤ 2147483647 := iv_lt2 i_x_202 (iv_any r_216) (Int32.not_le.mp c_222)
                                                    have k_226 := Int32.lt_iff_toInt_lt.mp (Int32.not_le.mp c_222)
                                                    refine lv_iload hx hb dX12_seated_378 (lv_at hl 0 rfl) ?_
                                                    refine lv_istore (lv' := [(5, .int r_216), (7, .int r_216), (0, .ref h), (2, .int r_2), (4, .int v_201), (6, .int x_203)]) hx hb dX12_seated_380 hl (by decide) rfl (fun ls hl => ?_)
                                                    refine lv_iconst (v := 0) hx hb dX12_seated_382 (by decide) ?_
                                                    refine lv_istore (lv' := [(8, .int 0), (5, .int r_216), (7, .int r_216), (0, .ref h), (2, .int r_2), (4, .int v_201), (6, .int x_203)]) hx hb dX12_seated_383 hl (by decide) rfl (fun ls hl => ?_)
                                                    refine my_cut (P := fun R9 a9 Q9 => ∀ (n_230 : Nat) (x_227 : Int32) (ar_228 : Nat → Nat → Int32) (H : Heap) (locs : List Loc) (ls : Array Slot), 5 - x_227.toInt < (n_230 : Int) → (0 ≤ x_227.toInt ∧ x_227.toInt ≤ 5) → rA ar_228 → fA [92] ar_219 ar_228 → va_P (dC, dI) vwCl (wsM h ad cA fv_217 wd_218 ar_228) H → va_S (aM h ad s.heap.size) s.heap H locs → lv_has ls 9 [(0, .ref h), (2, .int r_2), (4, .int v_201), (5, .int r_216), (8, .int x_227)] → W p l e R9 s m a9 below meth c H locs 0 0 Q9 (F0 m 385 ls [])) ?_ (fun hj_232 => ?_)
                                                    · intro n_230
                                                      induction n_230 with
                                                      | zero => intro x_227 ar_228 H locs ls fu_231 i_x_227 hA_ar_228 fa_229; exfalso; omega
                                                      | succ n_230 ih_230 =>
                                                        intro x_227 ar_228 H locs ls fu_231 i_x_227 hA_ar_228 fa_229 hP hS hl
                                                        refine lv_iload hx hb dX12_seated_385 (lv_at hl 4 rfl) ?_
                                                        refine lv_iload_n hx hb dX12_seated_387 rfl (lv_at hl 1 rfl) ?_
                                                        refine lv_icmp_ge (tgt := 411) hx hb dX12_seated_388 (by decide) (fun c_233 => ?_) (fun c_233 => ?_)
                                                        · skip
                                                          have i_234 : 1 ≤ x_227.toInt ∧ x_227.toInt ≤ 5 := iv_le2 i_16 i_x_227 c_233
                                                          have k_235 := Int32.le_iff_toInt_le.mp c_233
                                                          exact hj_248 r_216 ar_228 _ _ ls (iv_w i_225 (by decide) (by decide)) hA_ar_228 (fA_call (fA_rf [92] _) fa_229 (by decide)) hP hS (lv_sub hl [0, 1, 2, 3] rfl)
                                                        · skip
                                                          have i_236 : 0 ≤ x_227.toInt ∧ x_227.toInt ≤ 4 := iv_lt1 i_x_227 i_16 (Int32.not_le.mp c_233)
                                                          have k_237 := Int32.lt_iff_toInt_lt.mp (Int32.not_le.mp c_233)
                                                          refine lv_aload_n hx hb dX12_seated_391 rfl (lv_at hl 0 rfl) ?_
                                                          refine gM_92 hx hb htg hown hK hP dX12_seated_392 ?_
                                                          refine lv_iload hx hb dX12_seated_395 (lv_at hl 4 rfl) ?_
                                                          refine lv_aload_n hx hb dX12_seated_397 rfl (lv_at hl 0 rfl) ?_
                                                          refine gM_91 hx hb htg hown hK hP dX12_seated_398 ?_
                                                          refine lv_iload hx hb dX12_seated_401 (lv_at hl 4 rfl) ?_
                                                          refine lM_91 hx hb hK hP (iv_in i_236 (by decide) (by decide)) dX12_seated_403 (fun v_238 ev_238 => ?_)
                                                          have i_239 : 0 ≤ v_238.toInt ∧ v_238.toInt ≤ 7 := ev_238 ▸ hA_ar_228 91 _
                                                          refine sM_92 hx hb hK hP hS hd (iv_in i_236 (by decide) (by decide)) dX12_seated_404 (fun H locs ar_240 ear_240 hP hS => ?_)
                                                          have hA_ar_240 : rA ar_240 := rA_put hA_ar_228 ear_240 (iv_any _)
                                                          obtain ⟨v_241, ev_241⟩ : ∃ z : Int32, z = x_227 + 1 := ⟨_, rfl⟩
                                                          refine lv_iinc (v := v_241) (lv' := [(8, .int v_241), (0, .ref h), (2, .int r_2), (4, .int v_201), (5, .int r_216)]) hx hb dX12_seated_405 hl (k := 4) rfl (by rw [ev_241]; rfl) (by decide) rfl (fun ls hl => ?_)
                                                          have t_242 : v_241.toInt = x_227.toInt + 1 ∧ 1 ≤ v_241.toInt ∧ v_241.toInt ≤ 5 := iv_addc ev_241 i_236 (by decide) (by decide) (by decide)
                                                          refine lv_goto (tgt := 385) hx hb dX12_seated_408 (by decide) ?_
                                                          exact ih_230 v_241 ar_240 _ _ ls (by omega) (iv_w t_242.2 (by decide) (by decide)) hA_ar_240 (fA_put (fA_call (fA_rf [92] _) fa_229 (by decide)) ear_240 (by decide)) hP hS (lv_sub hl [1, 2, 3, 4, 0] rfl)
                                                    · skip
                                                      have z_244 : (0 : Int32).toInt = 0 := by decide
                                                      exact hj_232 6 0 ar_219 _ _ ls (by first | decide | omega) (iv_w (⟨by decide, by decide⟩ : (0 : Int) ≤ (0 : Int32).toInt ∧ (0 : Int32).toInt ≤ 0) (by decide) (by decide)) hA_ar_219 (fA_rf [92] _) hP hS (lv_sub hl [3, 4, 5, 1, 0] rfl)
                                          · skip
                                            have z_341 : ((-1) : Int32).toInt = (-1) := by decide
                                            have z_342 : (1 : Int32).toInt = 1 := by decide
                                            exact hj_213 32768 (-1) 1 fv_45 ar_179 wd_49 _ _ ls (by first | decide | omega) (iv_w (⟨by decide, by decide⟩ : (-1 : Int) ≤ ((-1) : Int32).toInt ∧ ((-1) : Int32).toInt ≤ -1) (by decide) (by decide)) (⟨by decide, by decide⟩ : (1 : Int) ≤ (1 : Int32).toInt ∧ (1 : Int32).toInt ≤ 1) hF_fv_45 (fM_rf [] _) hA_ar_179 (fA_rf [91, 92, 93] _) (fun j hj => by exact q_181 j (by omega)) (V8_b (fun i => hA_ar_179 91 i)) hP hS (lv_sub hl [3, 4, 2, 1, 0] rfl)
                                        · skip
                                          have i_188 : 0 ≤ x_178.toInt ∧ x_178.toInt ≤ 4 := iv_lt1 i_x_178 i_16 (Int32.not_le.mp c_185)
                                          have k_189 := Int32.lt_iff_toInt_lt.mp (Int32.not_le.mp c_185)
                                          refine lv_aload_n hx hb dX12_seated_311 rfl (lv_at hl 0 rfl) ?_
                                          refine gM_91 hx hb htg hown hK hP dX12_seated_312 ?_
                                          refine lv_iload hx hb dX12_seated_315 (lv_at hl 2 rfl) ?_
                                          refine lv_iconst (v := 0) hx hb dX12_seated_317 (by decide) ?_
                                          refine sM_91 hx hb hK hP hS hd (iv_in i_188 (by decide) (by decide)) dX12_seated_318 (fun H locs ar_190 ear_190 hP hS => ?_)
                                          have hA_ar_190 : rA ar_190 := rA_put hA_ar_179 ear_190 (iv_w (⟨by decide, by decide⟩ : (0 : Int) ≤ (0 : Int32).toInt ∧ (0 : Int32).toInt ≤ 0) (by decide) (by decide))
                                          refine lv_aload_n hx hb dX12_seated_319 rfl (lv_at hl 0 rfl) ?_
                                          refine gM_93 hx hb htg hown hK hP dX12_seated_320 ?_
                                          refine lv_iconst (v := 0) hx hb dX12_seated_323 (by decide) ?_
                                          refine lv_dup2_11 hx hb dX12_seated_324 rfl rfl ?_
                                          refine lM_93 hx hb hK hP (iv_in (⟨by decide, by decide⟩ : (0 : Int) ≤ (0 : Int32).toInt ∧ (0 : Int32).toInt ≤ 0) (by decide) (by decide)) dX12_seated_325 (fun v_191 ev_191 => ?_)
                                          refine lv_aload_n hx hb dX12_seated_326 rfl (lv_at hl 0 rfl) ?_
                                          refine gM_22 hx hb htg hown hK hP dX12_seated_327 ?_
                                          refine lv_aload_n hx hb dX12_seated_330 rfl (lv_at hl 0 rfl) ?_
                                          refine gM_1 hx hb htg hown hK hP dX12_seated_331 ?_
                                          refine lv_iload hx hb dX12_seated_334 (lv_at hl 2 rfl) ?_
                                          refine lM_1 hx hb hK hP (iv_in i_188 (by decide) (by decide)) dX12_seated_336 (fun v_192 ev_192 => ?_)
                                          have i_193 : 0 ≤ v_192.toInt ∧ v_192.toInt ≤ 255 := ev_192 ▸ hA_ar_190 1 _
                                          have i_194 : 0 ≤ v_192.toInt ∧ v_192.toInt ≤ 19 := ⟨(i_193).1, by rw [ev_192, ((fA_put (fA_call (fA_call (fA_call (fA_call (fA_call (fA_call (fA_rf [4, 90, 91, 93, 94] _) fa_9 (by decide)) fa_35 (by decide)) fa_48 (by decide)) fa_120 (by decide)) fa_165 (by decide)) fa_180 (by decide)) ear_190 (by decide)) 1 rfl)]; exact hT _ (by show ((x_178.toInt.toNat : Nat) : Int) < _; omega)⟩
                                          refine lM_22 hx hb hK hP (iv_in i_194 (by decide) (by decide)) dX12_seated_337 (fun v_195 ev_195 => ?_)
                                          refine lv_iadd hx hb dX12_seated_338 ?_
                                          refine lv_topi (fun v_196 ev_196 => ?_)
                                          refine sM_93 hx hb hK hP hS hd (iv_in (⟨by decide, by decide⟩ : (0 : Int) ≤ (0 : Int32).toInt ∧ (0 : Int32).toInt ≤ 0) (by decide) (by decide)) dX12_seated_339 (fun H locs ar_197 ear_197 hP hS => ?_)
                                          have hA_ar_197 : rA ar_197 := rA_put hA_ar_190 ear_197 (iv_any _)
                                          obtain ⟨v_198, ev_198⟩ : ∃ z : Int32, z = x_178 + 1 := ⟨_, rfl⟩
                                          refine lv_iinc (v := v_198) (lv' := [(4, .int v_198), (0, .ref h), (2, .int r_2)]) hx hb dX12_seated_340 hl (k := 2) rfl (by rw [ev_198]; rfl) (by decide) rfl (fun ls hl => ?_)
                                          have t_199 : v_198.toInt = x_178.toInt + 1 ∧ 1 ≤ v_198.toInt ∧ v_198.toInt ≤ 5 := iv_addc ev_198 i_188 (by decide) (by decide) (by decide)
                                          refine lv_goto (tgt := 305) hx hb dX12_seated_343 (by decide) ?_
                                          exact ih_182 v_198 ar_197 _ _ ls (by omega) (iv_w t_199.2 (by decide) (by decide)) hA_ar_197 (fA_put (fA_put (fA_call (fA_rf [91, 93] _) fa_180 (by decide)) ear_190 (by decide)) ear_197 (by decide)) (pS_ad (x := (0 : Int32)) (i := x_178.toInt.toNat) q_181 (show ar_197 91 = upd (ar_179 91) (x_178.toInt.toNat) (0 : Int32) from by rw [((fA_put (fA_rf [93] _) ear_197 (by decide)) 91 rfl), ear_190]; rfl) (by omega) (by omega) (by show (0 : Int) ≤ _; omega)) hP hS (lv_sub hl [1, 2, 0] rfl)
                                    · skip
                                      have z_343 : (0 : Int32).toInt = 0 := by decide
                                      exact hj_184 6 0 ar_164 _ _ ls (by first | decide | omega) (iv_w (⟨by decide, by decide⟩ : (0 : Int) ≤ (0 : Int32).toInt ∧ (0 : Int32).toInt ≤ 0) (by decide) (by decide)) hA_ar_164 (fA_rf [91, 93] _) (fun j hj => absurd hj (by omega)) hP hS (lv_sub hl [1, 2, 0] rfl)
                                  · skip
                                    have i_172 : 0 ≤ x_163.toInt ∧ x_163.toInt ≤ 7 := iv_lt1 i_x_163 i_28 (Int32.not_le.mp c_169)
                                    have k_173 := Int32.lt_iff_toInt_lt.mp (Int32.not_le.mp c_169)
                                    refine lv_aload_n hx hb dX12_seated_288 rfl (lv_at hl 0 rfl) ?_
                                    refine gM_93 hx hb htg hown hK hP dX12_seated_289 ?_
                                    refine lv_iload hx hb dX12_seated_292 (lv_at hl 2 rfl) ?_
                                    refine lv_iconst (v := 0) hx hb dX12_seated_294 (by decide) ?_
                                    refine sM_93 hx hb hK hP hS hd (iv_in i_172 (by decide) (by decide)) dX12_seated_295 (fun H locs ar_174 ear_174 hP hS => ?_)
                                    have hA_ar_174 : rA ar_174 := rA_put hA_ar_164 ear_174 (iv_any _)
                                    obtain ⟨v_175, ev_175⟩ : ∃ z : Int32, z = x_163 + 1 := ⟨_, rfl⟩
                                    refine lv_iinc (v := v_175) (lv' := [(4, .int v_175), (0, .ref h), (2, .int r_2)]) hx hb dX12_seated_296 hl (k := 2) rfl (by rw [ev_175]; rfl) (by decide) rfl (fun ls hl => ?_)
                                    have t_176 : v_175.toInt = x_163.toInt + 1 ∧ 1 ≤ v_175.toInt ∧ v_175.toInt ≤ 8 := iv_addc ev_175 i_172 (by decide) (by decide) (by decide)
                                    refine lv_goto (tgt := 279) hx hb dX12_seated_299 (by decide) ?_
                                    exact ih_166 v_175 ar_174 _ _ ls (by omega) (iv_w t_176.2 (by decide) (by decide)) hA_ar_174 (fA_put (fA_call (fA_rf [93] _) fa_165 (by decide)) ear_174 (by decide)) hP hS (lv_sub hl [1, 2, 0] rfl)
                              · skip
                                have z_344 : (0 : Int32).toInt = 0 := by decide
                                exact hj_168 9 0 ar_119 _ _ ls (by first | decide | omega) (iv_w (⟨by decide, by decide⟩ : (0 : Int) ≤ (0 : Int32).toInt ∧ (0 : Int32).toInt ≤ 0) (by decide) (by decide)) hA_ar_119 (fA_rf [93] _) hP hS (lv_sub hl [1, 2, 0] rfl)
                            · skip
                              have i_129 : 0 ≤ x_118.toInt ∧ x_118.toInt ≤ 255 := iv_lt1 i_x_118 i_125 (Int32.not_le.mp c_126)
                              have k_130 := Int32.lt_iff_toInt_lt.mp (Int32.not_le.mp c_126)
                              refine lv_aload_n hx hb dX12_seated_218 rfl (lv_at hl 0 rfl) ?_
                              refine gM_94 hx hb htg hown hK hP dX12_seated_219 ?_
                              refine lv_iload hx hb dX12_seated_222 (lv_at hl 2 rfl) ?_
                              refine lv_iconst (v := 0) hx hb dX12_seated_224 (by decide) ?_
                              refine sM_94 hx hb hK hP hS hd (iv_in i_129 (by decide) (by decide)) dX12_seated_225 (fun H locs ar_131 ear_131 hP hS => ?_)
                              have hA_ar_131 : rA ar_131 := rA_put hA_ar_119 ear_131 (iv_any _)
                              refine lv_iconst (v := 0) hx hb dX12_seated_226 (by decide) ?_
                              refine lv_istore (lv' := [(5, .int 0), (0, .ref h), (2, .int r_2), (4, .int x_118)]) hx hb dX12_seated_227 hl (by decide) rfl (fun ls hl => ?_)
                              refine my_cut (P := fun R9 a9 Q9 => ∀ (n_135 : Nat) (x_132 : Int32) (ar_133 : Nat → Nat → Int32) (H : Heap) (locs : List Loc) (ls : Array Slot), 40 - x_132.toInt < (n_135 : Int) → (0 ≤ x_132.toInt ∧ x_132.toInt ≤ 40) → rA ar_133 → fA [94] ar_131 ar_133 → va_P (dC, dI) vwCl (wsM h ad cA fv_45 wd_49 ar_133) H → va_S (aM h ad s.heap.size) s.heap H locs → lv_has ls 9 [(0, .ref h), (2, .int r_2), (4, .int x_118), (5, .int x_132)] → W p l e R9 s m a9 below meth c H locs 0 0 Q9 (F0 m 229 ls [])) ?_ (fun hj_137 => ?_)
                              · intro n_135
                                induction n_135 with
                                | zero => intro x_132 ar_133 H locs ls fu_136 i_x_132 hA_ar_133 fa_134; exfalso; omega
                                | succ n_135 ih_135 =>
                                  intro x_132 ar_133 H locs ls fu_136 i_x_132 hA_ar_133 fa_134 hP hS hl
                                  refine lv_iload hx hb dX12_seated_229 (lv_at hl 3 rfl) ?_
                                  refine lv_aload_n hx hb dX12_seated_231 rfl (lv_at hl 0 rfl) ?_
                                  refine gM_32 hx hb htg hown hK hP dX12_seated_232 ?_
                                  refine my_ti (y := fv 32) ((fr_46 32 rfl).trans ((fr_33 32 rfl).trans ((fr_8 32 rfl).trans ((congrFun efv_1 32))))) ?_
                                  refine lv_icmp_ge (tgt := 270) hx hb dX12_seated_235 (by decide) (fun c_138 => ?_) (fun c_138 => ?_)
                                  · skip
                                    have k_139 := Int32.le_iff_toInt_le.mp c_138
                                    obtain ⟨v_159, ev_159⟩ : ∃ z : Int32, z = x_118 + 1 := ⟨_, rfl⟩
                                    refine lv_iinc (v := v_159) (lv' := [(4, .int v_159), (0, .ref h), (2, .int r_2), (5, .int x_132)]) hx hb dX12_seated_270 hl (k := 2) rfl (by rw [ev_159]; rfl) (by decide) rfl (fun ls hl => ?_)
                                    have t_160 : v_159.toInt = x_118.toInt + 1 ∧ 1 ≤ v_159.toInt ∧ v_159.toInt ≤ 256 := iv_addc ev_159 i_129 (by decide) (by decide) (by decide)
                                    refine lv_goto (tgt := 207) hx hb dX12_seated_273 (by decide) ?_
                                    exact ih_121 v_159 ar_133 _ _ ls (by omega) (iv_w t_160.2 (by decide) (by decide)) hA_ar_133 (fA_call (fA_put (fA_call (fA_rf [94] _) fa_120 (by decide)) ear_131 (by decide)) fa_134 (by decide)) hP hS (lv_sub hl [1, 2, 0] rfl)
                                  · skip
                                    have i_140 : 0 ≤ x_132.toInt ∧ x_132.toInt ≤ 39 := iv_lt1 i_x_132 i_53 (Int32.not_le.mp c_138)
                                    have i_141 : 1 ≤ (fv 32).toInt ∧ (fv 32).toInt ≤ 40 := iv_lt2 i_x_132 i_53 (Int32.not_le.mp c_138)
                                    have k_142 := Int32.lt_iff_toInt_lt.mp (Int32.not_le.mp c_138)
                                    refine lv_aload_n hx hb dX12_seated_238 rfl (lv_at hl 0 rfl) ?_
                                    refine gM_90 hx hb htg hown hK hP dX12_seated_239 ?_
                                    refine lv_iload hx hb dX12_seated_242 (lv_at hl 3 rfl) ?_
                                    refine lM_90 hx hb hK hP (iv_in i_140 (by decide) (by decide)) dX12_seated_244 (fun v_143 ev_143 => ?_)
                                    refine lv_iload hx hb dX12_seated_245 (lv_at hl 2 rfl) ?_
                                    refine lv_iconst (v := (-1)) hx hb dX12_seated_247 (by decide) ?_
                                    refine lv_ixor hx hb dX12_seated_248 ?_
                                    refine lv_topi (fun v_144 ev_144 => ?_)
                                    refine lv_iand hx hb dX12_seated_249 ?_
                                    refine lv_topi (fun v_145 ev_145 => ?_)
                                    refine my_cut (P := fun R9 a9 Q9 => ∀ (ar_153 : Nat → Nat → Int32) (H : Heap) (locs : List Loc) (ls : Array Slot), rA ar_153 → fA [94] ar_133 ar_153 → va_P (dC, dI) vwCl (wsM h ad cA fv_45 wd_49 ar_153) H → va_S (aM h ad s.heap.size) s.heap H locs → lv_has ls 9 [(0, .ref h), (2, .int r_2), (4, .int x_118), (5, .int x_132)] → W p l e R9 s m a9 below meth c H locs 0 0 Q9 (F0 m 264 ls [])) ?_ (fun hj_155 => ?_)
                                    · intro ar_153 H locs ls hA_ar_153 fa_154 hP hS hl
                                      obtain ⟨v_156, ev_156⟩ : ∃ z : Int32, z = x_132 + 1 := ⟨_, rfl⟩
                                      refine lv_iinc (v := v_156) (lv' := [(5, .int v_156), (0, .ref h), (2, .int r_2), (4, .int x_118)]) hx hb dX12_seated_264 hl (k := 3) rfl (by rw [ev_156]; rfl) (by decide) rfl (fun ls hl => ?_)
                                      have t_157 : v_156.toInt = x_132.toInt + 1 ∧ 1 ≤ v_156.toInt ∧ v_156.toInt ≤ 40 := iv_addc ev_156 i_140 (by decide) (by decide) (by decide)
                                      refine lv_goto (tgt := 229) hx hb dX12_seated_267 (by decide) ?_
                                      exact ih_135 v_156 ar_153 _ _ ls (by omega) (iv_w t_157.2 (by decide) (by decide)) hA_ar_153 (fA_call (fA_call (fA_rf [94] _) fa_134 (by decide)) fa_154 (by decide)) hP hS (lv_sub hl [1, 2, 3, 0] rfl)
                                    · skip
                                      refine lv_if_eq (tgt := 264) hx hb dX12_seated_250 (by decide) (fun c_146 => ?_) (fun c_146 => ?_)
                                      · skip
                                        have i_147 : 0 ≤ v_145.toInt ∧ v_145.toInt ≤ 0 := iv_eq1 (⟨by decide, by decide⟩ : (0 : Int) ≤ (0 : Int32).toInt ∧ (0 : Int32).toInt ≤ 0) c_146
                                        exact hj_155 ar_133 _ _ ls hA_ar_133 (fA_rf [94] _) hP hS (lv_sub hl [0, 1, 2, 3] rfl)
                                      · skip
                                        have k_149 : ¬ v_145.toInt = 0 := fun q => c_146 (Int32.toInt_inj.mp q)
                                        refine lv_aload_n hx hb dX12_seated_253 rfl (lv_at hl 0 rfl) ?_
                                        refine gM_94 hx hb htg hown hK hP dX12_seated_254 ?_
                                        refine lv_iload hx hb dX12_seated_257 (lv_at hl 2 rfl) ?_
                                        refine lv_dup2_11 hx hb dX12_seated_259 rfl rfl ?_
                                        refine lM_94 hx hb hK hP (iv_in i_129 (by decide) (by decide)) dX12_seated_260 (fun v_150 ev_150 => ?_)
                                        refine lv_iconst (v := 1) hx hb dX12_seated_261 (by decide) ?_
                                        refine lv_iadd hx hb dX12_seated_262 ?_
                                        refine lv_topi (fun v_151 ev_151 => ?_)
                                        refine sM_94 hx hb hK hP hS hd (iv_in i_129 (by decide) (by decide)) dX12_seated_263 (fun H locs ar_152 ear_152 hP hS => ?_)
                                        have hA_ar_152 : rA ar_152 := rA_put hA_ar_133 ear_152 (iv_any _)
                                        exact hj_155 ar_152 _ _ ls hA_ar_152 (fA_put (fA_rf [94] _) ear_152 (by decide)) hP hS (lv_sub hl [0, 1, 2, 3] rfl)
                              · skip
                                have z_162 : (0 : Int32).toInt = 0 := by decide
                                exact hj_137 41 0 ar_131 _ _ ls (by first | decide | omega) (iv_w (⟨by decide, by decide⟩ : (0 : Int) ≤ (0 : Int32).toInt ∧ (0 : Int32).toInt ≤ 0) (by decide) (by decide)) hA_ar_131 (fA_rf [94] _) hP hS (lv_sub hl [1, 2, 3, 0] rfl)
                        · skip
                          have z_345 : (0 : Int32).toInt = 0 := by decide
                          exact hj_123 257 0 ar_47 _ _ ls (by first | decide | omega) (iv_w (⟨by decide, by decide⟩ : (0 : Int) ≤ (0 : Int32).toInt ∧ (0 : Int32).toInt ≤ 0) (by decide) (by decide)) hA_ar_47 (fA_rf [94] _) hP hS (lv_sub hl [1, 3, 0] rfl)
                      · skip
                        have i_56 : 0 ≤ x_44.toInt ∧ x_44.toInt ≤ 39 := iv_lt1 i_x_44 i_53 (Int32.not_le.mp c_54)
                        have i_57 : 1 ≤ (fv 32).toInt ∧ (fv 32).toInt ≤ 40 := iv_lt2 i_x_44 i_53 (Int32.not_le.mp c_54)
                        have k_58 := Int32.lt_iff_toInt_lt.mp (Int32.not_le.mp c_54)
                        refine lv_aload_n hx hb dX12_seated_111 rfl (lv_at hl 0 rfl) ?_
                        refine gM_90 hx hb htg hown hK hP dX12_seated_112 ?_
                        refine lv_iload hx hb dX12_seated_115 (lv_at hl 3 rfl) ?_
                        refine lv_iconst (v := 0) hx hb dX12_seated_117 (by decide) ?_
                        refine sM_90 hx hb hK hP hS hd (iv_in i_56 (by decide) (by decide)) dX12_seated_118 (fun H locs ar_59 ear_59 hP hS => ?_)
                        have hA_ar_59 : rA ar_59 := rA_put hA_ar_47 ear_59 (iv_any _)
                        refine lv_iconst (v := 0) hx hb dX12_seated_119 (by decide) ?_
                        refine lv_istore (lv' := [(5, .int 0), (0, .ref h), (1, .int mm), (2, .int r_2), (4, .int x_44)]) hx hb dX12_seated_120 hl (by decide) rfl (fun ls hl => ?_)
                        refine my_cut (P := fun R9 a9 Q9 => ∀ (n_66 : Nat) (x_60 : Int32) (fv_61 : Nat → Int32) (ar_63 : Nat → Nat → Int32) (wd_65 : Int64) (H : Heap) (locs : List Loc) (ls : Array Slot), 8 - x_60.toInt < (n_66 : Int) → (0 ≤ x_60.toInt ∧ x_60.toInt ≤ 8) → rF fv_61 → fM [8] fv_45 fv_61 → rA ar_63 → fA [4, 90] ar_59 ar_63 → va_P (dC, dI) vwCl (wsM h ad cA fv_61 wd_65 ar_63) H → va_S (aM h ad s.heap.size) s.heap H locs → lv_has ls 9 [(0, .ref h), (1, .int mm), (2, .int r_2), (4, .int x_44), (5, .int x_60)] → W p l e R9 s m a9 below meth c H locs 0 0 Q9 (F0 m 122 ls [])) ?_ (fun hj_68 => ?_)
                        · intro n_66
                          induction n_66 with
                          | zero => intro x_60 fv_61 ar_63 wd_65 H locs ls fu_67 i_x_60 hF_fv_61 fr_62 hA_ar_63 fa_64; exfalso; omega
                          | succ n_66 ih_66 =>
                            intro x_60 fv_61 ar_63 wd_65 H locs ls fu_67 i_x_60 hF_fv_61 fr_62 hA_ar_63 fa_64 hP hS hl
                            refine lv_iload hx hb dX12_seated_122 (lv_at hl 4 rfl) ?_
                            refine lv_aload_n hx hb dX12_seated_124 rfl (lv_at hl 0 rfl) ?_
                            refine gM_33 hx hb htg hown hK hP dX12_seated_125 ?_
                            refine my_ti (y := fv 33) ((fr_62 33 rfl).trans ((fr_46 33 rfl).trans ((fr_33 33 rfl).trans ((fr_8 33 rfl).trans ((congrFun efv_1 33)))))) ?_
                            refine lv_icmp_ge (tgt := 198) hx hb dX12_seated_128 (by decide) (fun c_69 => ?_) (fun c_69 => ?_)
                            · skip
                              have i_70 : 1 ≤ x_60.toInt ∧ x_60.toInt ≤ 8 := iv_le2 i_28 i_x_60 c_69
                              have k_71 := Int32.le_iff_toInt_le.mp c_69
                              obtain ⟨v_114, ev_114⟩ : ∃ z : Int32, z = x_44 + 1 := ⟨_, rfl⟩
                              refine lv_iinc (v := v_114) (lv' := [(4, .int v_114), (0, .ref h), (1, .int mm), (2, .int r_2), (5, .int x_60)]) hx hb dX12_seated_198 hl (k := 3) rfl (by rw [ev_114]; rfl) (by decide) rfl (fun ls hl => ?_)
                              have t_115 : v_114.toInt = x_44.toInt + 1 ∧ 1 ≤ v_114.toInt ∧ v_114.toInt ≤ 40 := iv_addc ev_114 i_56 (by decide) (by decide) (by decide)
                              refine lv_goto (tgt := 102) hx hb dX12_seated_201 (by decide) ?_
                              exact ih_50 v_114 fv_61 ar_63 wd_65 _ _ ls (by omega) (iv_w t_115.2 (by decide) (by decide)) hF_fv_61 (fM_call (fM_call (fM_rf [8] _) fr_46 (by decide)) fr_62 (by decide)) hA_ar_63 (fA_call (fA_put (fA_call (fA_rf [4, 90] _) fa_48 (by decide)) ear_59 (by decide)) fa_64 (by decide)) hP hS (lv_sub hl [1, 2, 3, 0] rfl)
                            · skip
                              have i_72 : 0 ≤ x_60.toInt ∧ x_60.toInt ≤ 7 := iv_lt1 i_x_60 i_28 (Int32.not_le.mp c_69)
                              have k_73 := Int32.lt_iff_toInt_lt.mp (Int32.not_le.mp c_69)
                              refine lv_aload_n hx hb dX12_seated_131 rfl (lv_at hl 0 rfl) ?_
                              refine lv_aload_n hx hb dX12_seated_132 rfl (lv_at hl 0 rfl) ?_
                              refine gM_9 hx hb htg hown hK hP dX12_seated_133 ?_
                              refine lv_iload hx hb dX12_seated_136 (lv_at hl 3 rfl) ?_
                              refine lM_9 hx hb hK hP (iv_in i_56 (by decide) (by decide)) dX12_seated_138 (fun v_74 ev_74 => ?_)
                              have i_75 : 0 ≤ v_74.toInt ∧ v_74.toInt ≤ 11 := ev_74 ▸ hA_ar_63 9 _
                              refine lv_aload_n hx hb dX12_seated_139 rfl (lv_at hl 0 rfl) ?_
                              refine gM_19 hx hb htg hown hK hP dX12_seated_140 ?_
                              refine lv_iload hx hb dX12_seated_143 (lv_at hl 4 rfl) ?_
                              refine lM_19 hx hb hK hP (iv_in i_72 (by decide) (by decide)) dX12_seated_145 (fun v_76 ev_76 => ?_)
                              have i_77 : 0 ≤ v_76.toInt ∧ v_76.toInt ≤ 11 := ev_76 ▸ hA_ar_63 19 _
                              refine va_calli (va_runV (As := [.int v_74, .int v_76]) (rest := []) ⟨hx, hb, hml, hown, hts⟩ (m_farOf l dC dI H.size h ad cA hd fv_61 wd_65 ar_63 hF_fv_61 hA_ar_63 v_74 v_76 i_75 i_77) (cwV 2 hts (gV kw_7_237 kw_7_239 kw_p_59 kw_1_15 kw_8_0) rfl rfl rfl (by decide +kernel) ⟨Nat.le_of_ble_eq_true rfl, Nat.le_of_ble_eq_true rfl⟩) ⟨fun a U g mk q => ⟨q.1, q.2.1, q.2.2.1, va_K.moved (u := U) (U := U.calling g mk a) (Vm.Alike.refl U.vm) q.2.2.2⟩, va_recv hK hP (ci := 12) (q0 := 0) rfl rfl, fun U hU hW => ⟨rfl, by rw [hU], by rw [hU]; exact hP, va_K.moved hW.alike hK⟩⟩ rfl rfl hl.1 rfl (lv_room (Nat.le_of_ble_eq_true rfl)) dX12_seated_146 ⟨Nat.le_of_ble_eq_true rfl, Nat.le_of_ble_eq_true rfl⟩) hS (fun q _ h9 => aM_up hS q h9) (aM_up hS) (fun r_78 u t H1 locs ht _ hw hB _ hk1 hS => ?_)
                              obtain ⟨fv_79, wd_80, ar_81⟩ := u
                              obtain ⟨hF_fv_79, hA_ar_81, fr_82, fa_83, -⟩ := hw
                              have hP : va_P (dC, dI) vwCl (wsM h ad cA fv_79 wd_80 ar_81) H1 := by have h9 := hB.1; rw [ht] at h9; exact h9
                              have fr_82 : fM [8] fv_61 fv_79 := fr_82
                              have fa_83 : fA [4] ar_63 ar_81 := fa_83
                              generalize H1 = H at hP hS ⊢
                              refine lv_ldc hx hb hown (htg (.constant RX12 225 100000) kw_7_232) dX12_seated_149 ?_
                              refine my_cut (P := fun R9 a9 Q9 => ∀ (fv_105 : Nat → Int32) (ar_107 : Nat → Nat → Int32) (wd_109 : Int64) (H : Heap) (locs : List Loc) (ls : Array Slot), rF fv_105 → fM [8] fv_79 fv_105 → rA ar_107 → fA [4, 90] ar_81 ar_107 → va_P (dC, dI) vwCl (wsM h ad cA fv_105 wd_109 ar_107) H → va_S (aM h ad s.heap.size) s.heap H locs → lv_has ls 9 [(0, .ref h), (1, .int mm), (2, .int r_2), (4, .int x_44), (5, .int x_60)] → W p l e R9 s m a9 below meth c H locs 0 0 Q9 (F0 m 192 ls [])) ?_ (fun hj_110 => ?_)
                              · intro fv_105 ar_107 wd_109 H locs ls hF_fv_105 fr_106 hA_ar_107 fa_108 hP hS hl
                                obtain ⟨v_111, ev_111⟩ : ∃ z : Int32, z = x_60 + 1 := ⟨_, rfl⟩
                                refine lv_iinc (v := v_111) (lv' := [(5, .int v_111), (0, .ref h), (1, .int mm), (2, .int r_2), (4, .int x_44)]) hx hb dX12_seated_192 hl (k := 4) rfl (by rw [ev_111]; rfl) (by decide) rfl (fun ls hl => ?_)
                                have t_112 : v_111.toInt = x_60.toInt + 1 ∧ 1 ≤ v_111.toInt ∧ v_111.toInt ≤ 8 := iv_addc ev_111 i_72 (by decide) (by decide) (by decide)
                                refine lv_goto (tgt := 122) hx hb dX12_seated_195 (by decide) ?_
                                exact ih_66 v_111 fv_105 ar_107 wd_109 _ _ ls (by omega) (iv_w t_112.2 (by decide) (by decide)) hF_fv_105 (fM_call (fM_call (fM_call (fM_rf [8] _) fr_62 (by decide)) fr_82 (by decide)) fr_106 (by decide)) hA_ar_107 (fA_call (fA_call (fA_call (fA_rf [4, 90] _) fa_64 (by decide)) fa_83 (by decide)) fa_108 (by decide)) hP hS (lv_sub hl [1, 2, 3, 4, 0] rfl)
                              · skip
                                refine lv_icmp_ge (tgt := 192) hx hb dX12_seated_151 (by decide) (fun c_84 => ?_) (fun c_84 => ?_)
                                · skip
                                  have i_85 : 100000 ≤ r_78.toInt ∧ r_78.toInt ≤ 2147483647 := iv_le2 (⟨by decide, by decide⟩ : (100000 : Int) ≤ (100000 : Int32).toInt ∧ (100000 : Int32).toInt ≤ 100000) (iv_any r_78) c_84
                                  exact hj_110 fv_79 ar_81 wd_80 _ _ ls hF_fv_79 (fM_rf [8] _) hA_ar_81 (fA_rf [4, 90] _) hP hS (lv_sub hl [0, 1, 2, 3, 4] rfl)
                                · skip
                                  have i_86 : (-2147483648) ≤ r_78.toInt ∧ r_78.toInt ≤ 99999 := iv_lt1 (iv_any r_78) (⟨by decide, by decide⟩ : (100000 : Int) ≤ (100000 : Int32).toInt ∧ (100000 : Int32).toInt ≤ 100000) (Int32.not_le.mp c_84)
                                  refine lv_aload_n hx hb dX12_seated_154 rfl (lv_at hl 0 rfl) ?_
                                  refine lv_iload hx hb dX12_seated_155 (lv_at hl 3 rfl) ?_
                                  refine lv_aload_n hx hb dX12_seated_157 rfl (lv_at hl 0 rfl) ?_
                                  refine gM_9 hx hb htg hown hK hP dX12_seated_158 ?_
                                  refine lv_iload hx hb dX12_seated_161 (lv_at hl 3 rfl) ?_
                                  refine lM_9 hx hb hK hP (iv_in i_56 (by decide) (by decide)) dX12_seated_163 (fun v_87 ev_87 => ?_)
                                  obtain rfl : v_74 = v_87 := ev_74.trans ((congrFun ((fA_call (fA_rf [4] _) fa_83 (by decide)) 9 rfl) _).symm.trans ev_87.symm)
                                  refine lv_aload_n hx hb dX12_seated_164 rfl (lv_at hl 0 rfl) ?_
                                  refine gM_19 hx hb htg hown hK hP dX12_seated_165 ?_
                                  refine lv_iload hx hb dX12_seated_168 (lv_at hl 4 rfl) ?_
                                  refine lM_19 hx hb hK hP (iv_in i_72 (by decide) (by decide)) dX12_seated_170 (fun v_88 ev_88 => ?_)
                                  obtain rfl : v_76 = v_88 := ev_76.trans ((congrFun ((fA_call (fA_rf [4] _) fa_83 (by decide)) 19 rfl) _).symm.trans ev_88.symm)
                                  refine va_calli (va_runV (As := [.int x_44, .int v_74, .int v_76]) (rest := []) ⟨hx, hb, hml, hown, hts⟩ (m_walk l dC dI H.size h ad cA hd fv_79 wd_80 ar_81 hF_fv_79 hA_ar_81 x_44 v_74 v_76 i_56 i_75 i_77) (cwV 3 hts (gV kw_8_208 kw_8_210 kw_p_92 kw_1_15 kw_8_211) rfl rfl rfl (by decide +kernel) ⟨Nat.le_of_ble_eq_true rfl, Nat.le_of_ble_eq_true rfl⟩) ⟨fun a U g mk q => ⟨q.1, q.2.1, q.2.2.1, va_K.moved (u := U) (U := U.calling g mk a) (Vm.Alike.refl U.vm) q.2.2.2⟩, va_recv hK hP (ci := 12) (q0 := 0) rfl rfl, fun U hU hW => ⟨rfl, by rw [hU], by rw [hU]; exact hP, va_K.moved hW.alike hK⟩⟩ rfl rfl hl.1 rfl (lv_room (Nat.le_of_ble_eq_true rfl)) dX12_seated_171 ⟨Nat.le_of_ble_eq_true rfl, Nat.le_of_ble_eq_true rfl⟩) hS (fun q _ h9 => aM_up hS q h9) (aM_up hS) (fun r_89 u t H1 locs ht _ hw hB _ hk1 hS => ?_)
                                  obtain ⟨fv_90, wd_91, ar_92⟩ := u
                                  obtain ⟨hF_fv_90, hA_ar_92, fr_93, fa_94, -⟩ := hw
                                  have hP : va_P (dC, dI) vwCl (wsM h ad cA fv_90 wd_91 ar_92) H1 := by have h9 := hB.1; rw [ht] at h9; exact h9
                                  have fr_93 : fM [8] fv_79 fv_90 := fr_93
                                  have fa_94 : fA [4] ar_81 ar_92 := fa_94
                                  generalize H1 = H at hP hS ⊢
                                  refine lv_iload_n hx hb dX12_seated_174 rfl (lv_at hl 1 rfl) ?_
                                  refine lv_icmp_gt (tgt := 192) hx hb dX12_seated_175 (by decide) (fun c_95 => ?_) (fun c_95 => ?_)
                                  · skip
                                    have i_96 : 1 ≤ r_89.toInt ∧ r_89.toInt ≤ 2147483647 := iv_lt2 i_24 (iv_any r_89) c_95
                                    have k_97 := Int32.lt_iff_toInt_lt.mp c_95
                                    exact hj_110 fv_90 ar_92 wd_91 _ _ ls hF_fv_90 (fM_call (fM_rf [8] _) fr_93 (by decide)) hA_ar_92 (fA_call (fA_rf [4, 90] _) fa_94 (by decide)) hP hS (lv_sub hl [0, 1, 2, 3, 4] rfl)
                                  · skip
                                    have i_98 : (-2147483648) ≤ r_89.toInt ∧ r_89.toInt ≤ 200 := iv_le1 (iv_any r_89) i_24 (Int32.not_lt.mp c_95)
                                    have k_99 := Int32.le_iff_toInt_le.mp (Int32.not_lt.mp c_95)
                                    refine lv_aload_n hx hb dX12_seated_178 rfl (lv_at hl 0 rfl) ?_
                                    refine gM_90 hx hb htg hown hK hP dX12_seated_179 ?_
                                    refine lv_iload hx hb dX12_seated_182 (lv_at hl 3 rfl) ?_
                                    refine lv_dup2_11 hx hb dX12_seated_184 rfl rfl ?_
                                    refine lM_90 hx hb hK hP (iv_in i_56 (by decide) (by decide)) dX12_seated_185 (fun v_100 ev_100 => ?_)
                                    refine lv_iconst (v := 1) hx hb dX12_seated_186 (by decide) ?_
                                    refine lv_iload hx hb dX12_seated_187 (lv_at hl 4 rfl) ?_
                                    refine lv_ishl hx hb dX12_seated_189 ?_
                                    refine lv_topi (fun v_101 ev_101 => ?_)
                                    have i_102 : 1 ≤ v_101.toInt ∧ v_101.toInt ≤ 128 := iv_shl (k := 7) ev_101 (iv_w i_72 (by decide) (by decide)) rfl (by decide)
                                    refine lv_ior hx hb dX12_seated_190 ?_
                                    refine lv_topi (fun v_103 ev_103 => ?_)
                                    refine sM_90 hx hb hK hP hS hd (iv_in i_56 (by decide) (by decide)) dX12_seated_191 (fun H locs ar_104 ear_104 hP hS => ?_)
                                    have hA_ar_104 : rA ar_104 := rA_put hA_ar_92 ear_104 (iv_any _)
                                    exact hj_110 fv_90 ar_104 wd_91 _ _ ls hF_fv_90 (fM_call (fM_rf [8] _) fr_93 (by decide)) hA_ar_104 (fA_put (fA_call (fA_rf [4, 90] _) fa_94 (by decide)) ear_104 (by decide)) hP hS (lv_sub hl [0, 1, 2, 3, 4] rfl)
                        · skip
                          have z_117 : (0 : Int32).toInt = 0 := by decide
                          exact hj_68 9 0 fv_45 ar_59 wd_49 _ _ ls (by first | decide | omega) (iv_w (⟨by decide, by decide⟩ : (0 : Int) ≤ (0 : Int32).toInt ∧ (0 : Int32).toInt ≤ 0) (by decide) (by decide)) hF_fv_45 (fM_rf [8] _) hA_ar_59 (fA_rf [4, 90] _) hP hS (lv_sub hl [1, 2, 3, 4, 0] rfl)
                  · skip
                    have z_346 : (0 : Int32).toInt = 0 := by decide
                    exact hj_52 41 0 fv_32 ar_34 wd_36 _ _ ls (by first | decide | omega) (iv_w (⟨by decide, by decide⟩ : (0 : Int) ≤ (0 : Int32).toInt ∧ (0 : Int32).toInt ≤ 0) (by decide) (by decide)) hF_fv_32 (fM_rf [8] _) hA_ar_34 (fA_rf [4, 90] _) hP hS (lv_sub hl [1, 2, 3, 0] rfl)
                · skip
                  have i_347 : 0 ≤ x_31.toInt ∧ x_31.toInt ≤ 4 := iv_lt1 i_x_31 i_16 (Int32.not_le.mp c_41)
                  have k_348 := Int32.lt_iff_toInt_lt.mp (Int32.not_le.mp c_41)
                  refine lv_aload_n hx hb dX12_seated_50 rfl (lv_at hl 0 rfl) ?_
                  refine lv_aload_n hx hb dX12_seated_51 rfl (lv_at hl 0 rfl) ?_
                  refine gM_1 hx hb htg hown hK hP dX12_seated_52 ?_
                  refine lv_iload hx hb dX12_seated_55 (lv_at hl 4 rfl) ?_
                  refine lM_1 hx hb hK hP (iv_in i_347 (by decide) (by decide)) dX12_seated_57 (fun v_349 ev_349 => ?_)
                  have i_350 : 0 ≤ v_349.toInt ∧ v_349.toInt ≤ 255 := ev_349 ▸ hA_ar_34 1 _
                  refine va_calli (va_runV (As := [.int v_349]) (rest := []) ⟨hx, hb, hml, hown, hts⟩ (m_isWheelE l dC dI H.size h ad cA hd fv_32 wd_36 ar_34 hF_fv_32 hA_ar_34 v_349) (cwV 1 hts (gV kw_8_40 kw_8_42 kw_p_63 kw_1_15 kw_8_43) rfl rfl rfl (by decide +kernel) ⟨Nat.le_of_ble_eq_true rfl, Nat.le_of_ble_eq_true rfl⟩) ⟨fun a U g mk q => ⟨q.1, q.2.1, q.2.2.1, va_K.moved (u := U) (U := U.calling g mk a) (Vm.Alike.refl U.vm) q.2.2.2⟩, va_recv hK hP (ci := 12) (q0 := 0) rfl rfl, fun U hU hW => ⟨rfl, by rw [hU], by rw [hU]; exact hP, va_K.moved hW.alike hK⟩⟩ rfl rfl hl.1 rfl (lv_room (Nat.le_of_ble_eq_true rfl)) dX12_seated_58 ⟨Nat.le_of_ble_eq_true rfl, Nat.le_of_ble_eq_true rfl⟩) hS (fun q _ h9 => aM_up hS q h9) (aM_up hS) (fun r_351 u t H1 locs ht _ hw hB _ hk1 hS => ?_)
                  obtain ⟨fv_354, wd_355, ar_356⟩ := u
                  obtain ⟨hF_fv_354, hA_ar_356, fr_357, fa_358, p_352, p_353, -⟩ := hw
                  have hP : va_P (dC, dI) vwCl (wsM h ad cA fv_354 wd_355 ar_356) H1 := by have h9 := hB.1; rw [ht] at h9; exact h9
                  have fr_357 : fM [] fv_32 fv_354 := fr_357
                  have fa_358 : fA [] ar_34 ar_356 := fa_358
                  generalize H1 = H at hP hS ⊢
                  rcases p_353 with ⟨rfl, p_353⟩ | ⟨rfl, p_353⟩
                  · skip
                    have q_359 : v_349.toInt < 0 ∨ (fv_32 34).toInt ≤ v_349.toInt := p_353
                    refine lv_if_eq (tgt := 79) hx hb dX12_seated_61 (by decide) (fun c_360 => ?_) (fun c_360 => ?_)
                    · skip
                      refine lv_iconst (v := (-1)) hx hb dX12_seated_79 (by decide) ?_
                      have z_361 : ((-1) : Int32).toInt = (-1) := by decide
                      exact W.iret (v := (-1)) hx hb hr (fun t ht hW => ⟨⟨(-1), (fv_354, wd_355, ar_356), rfl, ⟨hF_fv_354, hA_ar_356, (fM_call (fM_call (fM_call (fM_put (fM_rf [0, 2, 8, 95] _) efv_1 (by decide)) fr_8 (by decide)) fr_33 (by decide)) fr_357 (by decide)), (fA_call (fA_call (fA_call (fA_rf [4, 90, 91, 92, 93, 94] _) fa_9 (by decide)) fa_35 (by decide)) fa_358 (by decide)), (show (fv_354 2).toInt = 0 from by rw [show fv_354 2 = (fv_5 2) from (fr_357 2 rfl).trans ((fr_33 2 rfl))]; omega), trivial⟩, ⟨by rw [ht]; exact hP, va_K.moved hW.alike hK⟩⟩, hS.F ht⟩) hS.2.2 dX12_seated_80
                    · skip
                      exact absurd c_360 (by decide)
                  · skip
                    have i_362 : 0 ≤ v_349.toInt ∧ v_349.toInt ≤ 19 := ⟨i_350.1, p_353.2.1⟩
                    have q_363 : v_349.toInt < (fv_32 34).toInt := p_353.2.2
                    refine lv_if_eq (tgt := 79) hx hb dX12_seated_61 (by decide) (fun c_364 => ?_) (fun c_364 => ?_)
                    · skip
                      exact absurd c_364 (by decide)
                    · skip
                      refine lv_iload_n hx hb dX12_seated_64 rfl (lv_at hl 3 rfl) ?_
                      refine lv_aload_n hx hb dX12_seated_65 rfl (lv_at hl 0 rfl) ?_
                      refine gM_1 hx hb htg hown hK hP dX12_seated_66 ?_
                      refine lv_iload hx hb dX12_seated_69 (lv_at hl 4 rfl) ?_
                      refine lM_1 hx hb hK hP (iv_in i_347 (by decide) (by decide)) dX12_seated_71 (fun v_365 ev_365 => ?_)
                      obtain rfl : v_349 = v_365 := ev_349.trans ((congrFun ((fA_call (fA_rf [] _) fa_358 (by decide)) 1 rfl) _).symm.trans ev_365.symm)
                      refine lv_ishr hx hb dX12_seated_72 ?_
                      refine lv_topi (fun v_366 ev_366 => ?_)
                      refine lv_iconst (v := 1) hx hb dX12_seated_73 (by decide) ?_
                      refine lv_iand hx hb dX12_seated_74 ?_
                      refine lv_topi (fun v_367 ev_367 => ?_)
                      have i_368 : 0 ≤ v_367.toInt ∧ v_367.toInt ≤ 1 := iv_1 ev_367
                      refine lv_iconst (v := 1) hx hb dX12_seated_75 (by decide) ?_
                      refine lv_icmp_ne (tgt := 81) hx hb dX12_seated_76 (by decide) (fun c_369 => ?_) (fun c_369 => ?_)
                      · skip
                        have i_370 : 0 ≤ v_367.toInt ∧ v_367.toInt ≤ 0 := iv_neh i_368 (by decide) c_369
                        have k_371 : ¬ v_367.toInt = 1 := fun q => c_369 (Int32.toInt_inj.mp q)
                        refine lv_iload_n hx hb dX12_seated_81 rfl (lv_at hl 3 rfl) ?_
                        refine lv_iconst (v := 1) hx hb dX12_seated_82 (by decide) ?_
                        refine lv_aload_n hx hb dX12_seated_83 rfl (lv_at hl 0 rfl) ?_
                        refine gM_1 hx hb htg hown hK hP dX12_seated_84 ?_
                        refine lv_iload hx hb dX12_seated_87 (lv_at hl 4 rfl) ?_
                        refine lM_1 hx hb hK hP (iv_in i_347 (by decide) (by decide)) dX12_seated_89 (fun v_372 ev_372 => ?_)
                        obtain rfl : v_349 = v_372 := ev_349.trans ((congrFun ((fA_call (fA_rf [] _) fa_358 (by decide)) 1 rfl) _).symm.trans ev_372.symm)
                        refine lv_ishl hx hb dX12_seated_90 ?_
                        refine lv_topi (fun v_373 ev_373 => ?_)
                        have i_374 : 1 ≤ v_373.toInt ∧ v_373.toInt ≤ 524288 := iv_shl (k := 19) ev_373 (iv_w i_362 (by decide) (by decide)) rfl (by decide)
                        refine lv_ior hx hb dX12_seated_91 ?_
                        refine lv_topi (fun v_375 ev_375 => ?_)
                        refine lv_istore_n (lv' := [(3, .int v_375), (0, .ref h), (1, .int mm), (2, .int r_2), (4, .int x_31)]) hx hb dX12_seated_92 rfl hl (by decide) rfl (fun ls hl => ?_)
                        obtain ⟨v_376, ev_376⟩ : ∃ z : Int32, z = x_31 + 1 := ⟨_, rfl⟩
                        refine lv_iinc (v := v_376) (lv' := [(4, .int v_376), (3, .int v_375), (0, .ref h), (1, .int mm), (2, .int r_2)]) hx hb dX12_seated_93 hl (k := 4) rfl (by rw [ev_376]; rfl) (by decide) rfl (fun ls hl => ?_)
                        have t_377 : v_376.toInt = x_31.toInt + 1 ∧ 1 ≤ v_376.toInt ∧ v_376.toInt ≤ 5 := iv_addc ev_376 i_347 (by decide) (by decide) (by decide)
                        refine lv_goto (tgt := 44) hx hb dX12_seated_96 (by decide) ?_
                        exact ih_38 v_375 v_376 fv_354 ar_356 wd_355 _ _ ls (by omega) (iv_w t_377.2 (by decide) (by decide)) hF_fv_354 (fM_call (fM_call (fM_rf [] _) fr_33 (by decide)) fr_357 (by decide)) hA_ar_356 (fA_call (fA_call (fA_rf [] _) fa_35 (by decide)) fa_358 (by decide)) (fun j hj => by rcases Int.lt_or_le (j : Int) x_31.toInt with c9 | c9; exact q_37 j c9; rw [show j = x_31.toInt.toNat from by omega]; show (ar 1 (Int32.toNatClampNeg x_31)).toInt ≤ 19; rw [← ((fA_call (fA_call (fA_rf [] _) fa_9 (by decide)) fa_35 (by decide)) 1 rfl), ← ev_349]; exact (i_362).2) hP hS (lv_sub hl [2, 3, 4, 1, 0] rfl)
                      · skip
                        have i_379 : 1 ≤ v_367.toInt ∧ v_367.toInt ≤ 1 := iv_eq1 (⟨by decide, by decide⟩ : (1 : Int) ≤ (1 : Int32).toInt ∧ (1 : Int32).toInt ≤ 1) c_369
                        refine lv_iconst (v := (-1)) hx hb dX12_seated_79 (by decide) ?_
                        have z_381 : ((-1) : Int32).toInt = (-1) := by decide
                        exact W.iret (v := (-1)) hx hb hr (fun t ht hW => ⟨⟨(-1), (fv_354, wd_355, ar_356), rfl, ⟨hF_fv_354, hA_ar_356, (fM_call (fM_call (fM_call (fM_put (fM_rf [0, 2, 8, 95] _) efv_1 (by decide)) fr_8 (by decide)) fr_33 (by decide)) fr_357 (by decide)), (fA_call (fA_call (fA_call (fA_rf [4, 90, 91, 92, 93, 94] _) fa_9 (by decide)) fa_35 (by decide)) fa_358 (by decide)), (show (fv_354 2).toInt = 0 from by rw [show fv_354 2 = (fv_5 2) from (fr_357 2 rfl).trans ((fr_33 2 rfl))]; omega), trivial⟩, ⟨by rw [ht]; exact hP, va_K.moved hW.alike hK⟩⟩, hS.F ht⟩) hS.2.2 dX12_seated_80
            · skip
              have z_382 : (0 : Int32).toInt = 0 := by decide
              exact hj_40 6 0 0 fv_5 ar_7 wd_6 _ _ ls (by first | decide | omega) (iv_w (⟨by decide, by decide⟩ : (0 : Int) ≤ (0 : Int32).toInt ∧ (0 : Int32).toInt ≤ 0) (by decide) (by decide)) hF_fv_5 (fM_rf [] _) hA_ar_7 (fA_rf [] _) (fun j hj => absurd hj (by omega)) hP hS (lv_sub hl [3, 4, 2, 1, 0] rfl)
          · skip
            have i_383 : 0 ≤ (fv 33).toInt ∧ (fv 33).toInt ≤ 0 := iv_eq1 (⟨by decide, by decide⟩ : (0 : Int) ≤ (0 : Int32).toInt ∧ (0 : Int32).toInt ≤ 0) c_27
            refine lv_iconst (v := (-1)) hx hb dX12_seated_37 (by decide) ?_
            have z_385 : ((-1) : Int32).toInt = (-1) := by decide
            exact W.iret (v := (-1)) hx hb hr (fun t ht hW => ⟨⟨(-1), (fv_5, wd_6, ar_7), rfl, ⟨hF_fv_5, hA_ar_7, (fM_call (fM_put (fM_rf [0, 2, 8, 95] _) efv_1 (by decide)) fr_8 (by decide)), (fA_call (fA_rf [4, 90, 91, 92, 93, 94] _) fa_9 (by decide)), (show (fv_5 2).toInt = 0 from by rw [show fv_5 2 = (fv_5 2) from rfl]; omega), trivial⟩, ⟨by rw [ht]; exact hP, va_K.moved hW.alike hK⟩⟩, hS.F ht⟩) hS.2.2 dX12_seated_38

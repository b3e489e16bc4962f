set_option maxHeartbeats 4000000 in
set_option maxRecDepth 100000 in
theorem m_isWheelE (l : Launch) (dC : Nat → ClassId) (dI : Nat → Nat → Nat) (sz h : Nat) (ad : Nat → Nat) (cA : Nat → ClassId) (hd : dM h ad) (fv : Nat → Int32) (wd : Int64) (ar : Nat → Nat → Int32) (hF_fv : rF fv) (hA_ar : rA ar) (v : Int32) : Met l yX12_isWheel (.code yX12_isWheel cX12_isWheel 2 (some .boolean) :: lw_good) ({ frames := 2, cells := 0, slots := 0, locals := 40 }) (va_Pc [.ref h, .int v] (prM dC dI h ad cA fv wd ar sz)) (va_Qi (fun (r : Int32) (u : mS) => rF u.1 ∧ rA u.2.2 ∧ fM [] fv u.1 ∧ fA [] ar u.2.2 ∧ (0 ≤ r.toInt ∧ r.toInt ≤ 1) ∧ ((r = 0 ∧ (v.toInt < 0 ∨ (fv 34).toInt ≤ v.toInt)) ∨ (r = 1 ∧ (0 ≤ v.toInt) ∧ (v.toInt ≤ 19) ∧ (v.toInt < (fv 34).toInt))) ∧ True) (enM dC dI h ad cA) (aM h ad sz)) 0 0 (aM h ad sz) := by
  refine Met.ofW (cc := cX12_isWheel) (maxL := 2) (ret := (some .boolean)) (by decide) rfl ?_
  intro p e s m args below meth c s₁ B hml hv
  obtain ⟨rfl, hsz, hP, hK⟩ := hv
  have hx := B.exec
  have hb := B.bytes
  have hr := B.returns
  have hts := atoms_spec (ws := (.code yX12_isWheel cX12_isWheel 2 (some .boolean) :: lw_good)) B.pre
  have htg : ∀ w ∈ lw_good, w.before _ s = true := fun w hw => hts w (List.mem_cons_of_mem _ hw)
  have hown : s.vm.findClass RX12 = some m.cls := findClass_of_methodNamed B.named
  have hlocks := B.notSynchronized
  subst hsz
  have hS : va_S (aM h ad s.heap.size) s.heap s.heap [] := va_S.rf
  have hl := lv_entry ([.ref h, .int v]) (n := 2) (Nat.le_of_ble_eq_true rfl)
  rw [lg_entry_eq]
  generalize (lg_sl ([.ref h, .int v]) ++ List.replicate (2 - (lg_sl ([.ref h, .int v])).length) Slot.unset).toArray = ls at hl ⊢
  have hl : lv_has ls 2 [(0, .ref h), (1, .int v)] := hl
  have zc0 : (0 : Int32).toInt = 0 := by decide
  have zc1 : (1 : Int32).toInt = 1 := by decide
  have zc2 : (2 : Int32).toInt = 2 := by decide
  have zc9 : (9 : Int32).toInt = 9 := by decide
  have zc11 : (11 : Int32).toInt = 11 := by decide
  have zc12 : (12 : Int32).toInt = 12 := by decide
  have zc19 : (19 : Int32).toInt = 19 := by decide
  have zc99 : (99 : Int32).toInt = 99 := by decide
  have zc199 : (199 : Int32).toInt = 199 := by decide
  have zc719 : (719 : Int32).toInt = 719 := by decide
  have zc20 : (20 : Int32).toInt = 20 := by decide
  have zc340 : (340 : Int32).toInt = 340 := by decide
  have zcm1 : ((-1) : Int32).toInt = (-1) := by decide
  refine lv_iload_n hx hb dX12_isWheel_0 rfl (lv_at hl 1 rfl) ?_
  refine lv_if_lt (tgt := 16) hx hb dX12_isWheel_1 (by decide) (fun c_1 => ?_) (fun c_1 => ?_)
  · skip
    have i_2 : (-2147483648) ≤ v.toInt ∧ v.toInt ≤ (-1) := iv_lt1 (iv_any v) (⟨by decide, by decide⟩ : (0 : Int) ≤ (0 : Int32).toInt ∧ (0 : Int32).toInt ≤ 0) c_1
    refine lv_iconst (v := 0) hx hb dX12_isWheel_16 (by decide) ?_
    exact W.zret (v := 0) hx hb hr (by decide) (fun t ht hW => ⟨⟨0, (fv, wd, ar), rfl, ⟨hF_fv, hA_ar, (fM_rf [] _), (fA_rf [] _), (iv_w (⟨by decide, by decide⟩ : (0 : Int) ≤ (0 : Int32).toInt ∧ (0 : Int32).toInt ≤ 0) (by decide) (by decide)), (Or.inl ⟨rfl, by omega⟩), trivial⟩, ⟨by rw [ht]; exact hP, va_K.moved hW.alike hK⟩⟩, hS.F ht⟩) hS.2.2 dX12_isWheel_17
  · skip
    have i_3 : 0 ≤ v.toInt ∧ v.toInt ≤ 2147483647 := iv_le2 (⟨by decide, by decide⟩ : (0 : Int) ≤ (0 : Int32).toInt ∧ (0 : Int32).toInt ≤ 0) (iv_any v) (Int32.not_lt.mp c_1)
    refine lv_iload_n hx hb dX12_isWheel_4 rfl (lv_at hl 1 rfl) ?_
    refine lv_aload_n hx hb dX12_isWheel_5 rfl (lv_at hl 0 rfl) ?_
    refine gM_34 hx hb htg hown hK hP dX12_isWheel_6 ?_
    have i_4 : 0 ≤ (fv 34).toInt ∧ (fv 34).toInt ≤ 20 := hF_fv 34
    refine lv_icmp_ge (tgt := 16) hx hb dX12_isWheel_9 (by decide) (fun c_5 => ?_) (fun c_5 => ?_)
    · skip
      have k_6 := Int32.le_iff_toInt_le.mp c_5
      refine lv_iconst (v := 0) hx hb dX12_isWheel_16 (by decide) ?_
      exact W.zret (v := 0) hx hb hr (by decide) (fun t ht hW => ⟨⟨0, (fv, wd, ar), rfl, ⟨hF_fv, hA_ar, (fM_rf [] _), (fA_rf [] _), (iv_w (⟨by decide, by decide⟩ : (0 : Int) ≤ (0 : Int32).toInt ∧ (0 : Int32).toInt ≤ 0) (by decide) (by decide)), (Or.inl ⟨rfl, by omega⟩), trivial⟩, ⟨by rw [ht]; exact hP, va_K.moved hW.alike hK⟩⟩, hS.F ht⟩) hS.2.2 dX12_isWheel_17
    · skip
      have i_7 : 0 ≤ v.toInt ∧ v.toInt ≤ 19 := iv_lt1 i_3 i_4 (Int32.not_le.mp c_5)
      have i_8 : 1 ≤ (fv 34).toInt ∧ (fv 34).toInt ≤ 20 := iv_lt2 i_3 i_4 (Int32.not_le.mp c_5)
      have k_9 := Int32.lt_iff_toInt_lt.mp (Int32.not_le.mp c_5)
      refine lv_iconst (v := 1) hx hb dX12_isWheel_12 (by decide) ?_
      refine lv_goto (tgt := 17) hx hb dX12_isWheel_13 (by decide) ?_
      exact W.zret (v := 1) hx hb hr (by decide) (fun t ht hW => ⟨⟨1, (fv, wd, ar), rfl, ⟨hF_fv, hA_ar, (fM_rf [] _), (fA_rf [] _), (iv_w (⟨by decide, by decide⟩ : (1 : Int) ≤ (1 : Int32).toInt ∧ (1 : Int32).toInt ≤ 1) (by decide) (by decide)), (Or.inr (⟨rfl, by omega⟩)), trivial⟩, ⟨by rw [ht]; exact hP, va_K.moved hW.alike hK⟩⟩, hS.F ht⟩) hS.2.2 dX12_isWheel_17
set_option maxHeartbeats 4000000 in
set_option maxRecDepth 100000 in
theorem m_endE (l : Launch) (dC : Nat → ClassId) (dI : Nat → Nat → Nat) (sz h : Nat) (ad : Nat → Nat) (cA : Nat → ClassId) (hd : dM h ad) (fv : Nat → Int32) (wd : Int64) (ar : Nat → Nat → Int32) (hF_fv : rF fv) (hA_ar : rA ar) (n : Int32) : Met l yX12_end (.code yX12_end cX12_end 2 (some .boolean) :: lw_good) ({ frames := 2, cells := 0, slots := 0, locals := 40 }) (va_Pc [.ref h, .int n] (prM dC dI h ad cA fv wd ar sz)) (va_Qi (fun (r : Int32) (u : mS) => rF u.1 ∧ rA u.2.2 ∧ fM [0, 2] fv u.1 ∧ fA [] ar u.2.2 ∧ (0 ≤ r.toInt ∧ r.toInt ≤ 1) ∧ (ps_end r (u.1 2) (fv 2) n) ∧ True) (enM dC dI h ad cA) (aM h ad sz)) 0 0 (aM h ad sz) := by
  refine Met.ofW (cc := cX12_end) (maxL := 2) (ret := (some .boolean)) (by decide) rfl ?_
  intro p e s m args below meth c s₁ B hml hv
  obtain ⟨rfl, hsz, hP, hK⟩ := hv
  have hx := B.exec
  have hb := B.bytes
  have hr := B.returns
  have hts := atoms_spec (ws := (.code yX12_end cX12_end 2 (some .boolean) :: lw_good)) B.pre
  have htg : ∀ w ∈ lw_good, w.before _ s = true := fun w hw => hts w (List.mem_cons_of_mem _ hw)
  have hown : s.vm.findClass RX12 = some m.cls := findClass_of_methodNamed B.named
  have hlocks := B.notSynchronized
  subst hsz
  have hS : va_S (aM h ad s.heap.size) s.heap s.heap [] := va_S.rf
  have hl := lv_entry ([.ref h, .int n]) (n := 2) (Nat.le_of_ble_eq_true rfl)
  rw [lg_entry_eq]
  generalize (lg_sl ([.ref h, .int n]) ++ List.replicate (2 - (lg_sl ([.ref h, .int n])).length) Slot.unset).toArray = ls at hl ⊢
  have hl : lv_has ls 2 [(0, .ref h), (1, .int n)] := hl
  have zc0 : (0 : Int32).toInt = 0 := by decide
  have zc1 : (1 : Int32).toInt = 1 := by decide
  have zc2 : (2 : Int32).toInt = 2 := by decide
  have zc9 : (9 : Int32).toInt = 9 := by decide
  have zc11 : (11 : Int32).toInt = 11 := by decide
  have zc12 : (12 : Int32).toInt = 12 := by decide
  have zc19 : (19 : Int32).toInt = 19 := by decide
  have zc99 : (99 : Int32).toInt = 99 := by decide
  have zc199 : (199 : Int32).toInt = 199 := by decide
  have zc719 : (719 : Int32).toInt = 719 := by decide
  have zc20 : (20 : Int32).toInt = 20 := by decide
  have zc340 : (340 : Int32).toInt = 340 := by decide
  have zcm1 : ((-1) : Int32).toInt = (-1) := by decide
  refine lv_aload_n hx hb dX12_end_0 rfl (lv_at hl 0 rfl) ?_
  refine lv_iconst (v := 0) hx hb dX12_end_1 (by decide) ?_
  refine pM_0 hx hb htg hown hK hP hS hd dX12_end_2 (fun H locs fv_1 efv_1 hP hS => ?_)
  have hF_fv_1 : rF fv_1 := rF_put hF_fv efv_1 (iv_any _)
  refine lv_iload_n hx hb dX12_end_5 rfl (lv_at hl 1 rfl) ?_
  refine lv_if_lt (tgt := 17) hx hb dX12_end_6 (by decide) (fun c_2 => ?_) (fun c_2 => ?_)
  · skip
    have i_3 : (-2147483648) ≤ n.toInt ∧ n.toInt ≤ (-1) := iv_lt1 (iv_any n) (⟨by decide, by decide⟩ : (0 : Int) ≤ (0 : Int32).toInt ∧ (0 : Int32).toInt ≤ 0) c_2
    refine lv_iconst (v := 0) hx hb dX12_end_17 (by decide) ?_
    have z_4 : (0 : Int32).toInt = 0 := by decide
    exact W.zret (v := 0) hx hb hr (by decide) (fun t ht hW => ⟨⟨0, (fv_1, wd, ar), rfl, ⟨hF_fv_1, hA_ar, (fM_put (fM_rf [0, 2] _) efv_1 (by decide)), (fA_rf [] _), (iv_w (⟨by decide, by decide⟩ : (0 : Int) ≤ (0 : Int32).toInt ∧ (0 : Int32).toInt ≤ 0) (by decide) (by decide)), (show ps_end (0 : Int32) (fv_1 2) (fv 2) n from by have q_fv_1_33 : (fv_1 33).toInt = (fv 33).toInt := congrArg Int32.toInt ((fM_put (fM_rf [0] _) efv_1 (by decide)) 33 rfl); have q_fv_1_3 : (fv_1 3).toInt = (fv 3).toInt := congrArg Int32.toInt ((fM_put (fM_rf [0] _) efv_1 (by decide)) 3 rfl); have q_fv_1_6 : (fv_1 6).toInt = (fv 6).toInt := congrArg Int32.toInt ((fM_put (fM_rf [0] _) efv_1 (by decide)) 6 rfl); have q_fv_1_34 : (fv_1 34).toInt = (fv 34).toInt := congrArg Int32.toInt ((fM_put (fM_rf [0] _) efv_1 (by decide)) 34 rfl); have q_fv_1_35 : (fv_1 35).toInt = (fv 35).toInt := congrArg Int32.toInt ((fM_put (fM_rf [0] _) efv_1 (by decide)) 35 rfl); have q_fv_1_2 : (fv_1 2).toInt = (fv 2).toInt := congrArg Int32.toInt ((fM_put (fM_rf [0] _) efv_1 (by decide)) 2 rfl); exact Or.inl ⟨rfl, (congrFun efv_1 2), by omega⟩), trivial⟩, ⟨by rw [ht]; exact hP, va_K.moved hW.alike hK⟩⟩, hS.F ht⟩) hS.2.2 dX12_end_18
  · skip
    have i_5 : 0 ≤ n.toInt ∧ n.toInt ≤ 2147483647 := iv_le2 (⟨by decide, by decide⟩ : (0 : Int) ≤ (0 : Int32).toInt ∧ (0 : Int32).toInt ≤ 0) (iv_any n) (Int32.not_lt.mp c_2)
    refine lv_iload_n hx hb dX12_end_9 rfl (lv_at hl 1 rfl) ?_
    refine lv_aload_n hx hb dX12_end_10 rfl (lv_at hl 0 rfl) ?_
    refine gM_2 hx hb htg hown hK hP dX12_end_11 ?_
    refine my_ti (y := fv 2) ((congrFun efv_1 2)) ?_
    have i_6 : 0 ≤ (fv 2).toInt ∧ (fv 2).toInt ≤ 340 := hF_fv 2
    refine lv_icmp_le (tgt := 19) hx hb dX12_end_14 (by decide) (fun c_7 => ?_) (fun c_7 => ?_)
    · skip
      have i_8 : 0 ≤ n.toInt ∧ n.toInt ≤ 340 := iv_le1 i_5 i_6 c_7
      have k_9 := Int32.le_iff_toInt_le.mp c_7
      refine lv_aload_n hx hb dX12_end_19 rfl (lv_at hl 0 rfl) ?_
      refine lv_iload_n hx hb dX12_end_20 rfl (lv_at hl 1 rfl) ?_
      refine pM_2 hx hb htg hown hK hP hS hd dX12_end_21 (fun H locs fv_10 efv_10 hP hS => ?_)
      have hF_fv_10 : rF fv_10 := rF_put hF_fv_1 efv_10 i_8
      refine lv_iconst (v := 1) hx hb dX12_end_24 (by decide) ?_
      have z_11 : (1 : Int32).toInt = 1 := by decide
      exact W.zret (v := 1) hx hb hr (by decide) (fun t ht hW => ⟨⟨1, (fv_10, wd, ar), rfl, ⟨hF_fv_10, hA_ar, (fM_put (fM_put (fM_rf [0, 2] _) efv_1 (by decide)) efv_10 (by decide)), (fA_rf [] _), (iv_w (⟨by decide, by decide⟩ : (1 : Int) ≤ (1 : Int32).toInt ∧ (1 : Int32).toInt ≤ 1) (by decide) (by decide)), (show ps_end (1 : Int32) (fv_10 2) (fv 2) n from by have q_fv_1_33 : (fv_1 33).toInt = (fv 33).toInt := congrArg Int32.toInt ((fM_put (fM_rf [0] _) efv_1 (by decide)) 33 rfl); have q_fv_1_3 : (fv_1 3).toInt = (fv 3).toInt := congrArg Int32.toInt ((fM_put (fM_rf [0] _) efv_1 (by decide)) 3 rfl); have q_fv_1_6 : (fv_1 6).toInt = (fv 6).toInt := congrArg Int32.toInt ((fM_put (fM_rf [0] _) efv_1 (by decide)) 6 rfl); have q_fv_1_34 : (fv_1 34).toInt = (fv 34).toInt := congrArg Int32.toInt ((fM_put (fM_rf [0] _) efv_1 (by decide)) 34 rfl); have q_fv_1_35 : (fv_1 35).toInt = (fv 35).toInt := congrArg Int32.toInt ((fM_put (fM_rf [0] _) efv_1 (by decide)) 35 rfl); have q_fv_1_2 : (fv_1 2).toInt = (fv 2).toInt := congrArg Int32.toInt ((fM_put (fM_rf [0] _) efv_1 (by decide)) 2 rfl); have q_fv_10_33 : (fv_10 33).toInt = (fv 33).toInt := congrArg Int32.toInt ((fM_put (fM_put (fM_rf [0, 2] _) efv_1 (by decide)) efv_10 (by decide)) 33 rfl); have q_fv_10_3 : (fv_10 3).toInt = (fv 3).toInt := congrArg Int32.toInt ((fM_put (fM_put (fM_rf [0, 2] _) efv_1 (by decide)) efv_10 (by decide)) 3 rfl); have q_fv_10_6 : (fv_10 6).toInt = (fv 6).toInt := congrArg Int32.toInt ((fM_put (fM_put (fM_rf [0, 2] _) efv_1 (by decide)) efv_10 (by decide)) 6 rfl); have q_fv_10_34 : (fv_10 34).toInt = (fv 34).toInt := congrArg Int32.toInt ((fM_put (fM_put (fM_rf [0, 2] _) efv_1 (by decide)) efv_10 (by decide)) 34 rfl); have q_fv_10_35 : (fv_10 35).toInt = (fv 35).toInt := congrArg Int32.toInt ((fM_put (fM_put (fM_rf [0, 2] _) efv_1 (by decide)) efv_10 (by decide)) 35 rfl); exact Or.inr ⟨rfl, (congrFun efv_10 2), by omega⟩), trivial⟩, ⟨by rw [ht]; exact hP, va_K.moved hW.alike hK⟩⟩, hS.F ht⟩) hS.2.2 dX12_end_25
    · skip
      have i_12 : 1 ≤ n.toInt ∧ n.toInt ≤ 2147483647 := iv_lt2 i_6 i_5 (Int32.not_le.mp c_7)
      have k_13 := Int32.lt_iff_toInt_lt.mp (Int32.not_le.mp c_7)
      refine lv_iconst (v := 0) hx hb dX12_end_17 (by decide) ?_
      have z_14 : (0 : Int32).toInt = 0 := by decide
      exact W.zret (v := 0) hx hb hr (by decide) (fun t ht hW => ⟨⟨0, (fv_1, wd, ar), rfl, ⟨hF_fv_1, hA_ar, (fM_put (fM_rf [0, 2] _) efv_1 (by decide)), (fA_rf [] _), (iv_w (⟨by decide, by decide⟩ : (0 : Int) ≤ (0 : Int32).toInt ∧ (0 : Int32).toInt ≤ 0) (by decide) (by decide)), (show ps_end (0 : Int32) (fv_1 2) (fv 2) n from by have q_fv_1_33 : (fv_1 33).toInt = (fv 33).toInt := congrArg Int32.toInt ((fM_put (fM_rf [0] _) efv_1 (by decide)) 33 rfl); have q_fv_1_3 : (fv_1 3).toInt = (fv 3).toInt := congrArg Int32.toInt ((fM_put (fM_rf [0] _) efv_1 (by decide)) 3 rfl); have q_fv_1_6 : (fv_1 6).toInt = (fv 6).toInt := congrArg Int32.toInt ((fM_put (fM_rf [0] _) efv_1 (by decide)) 6 rfl); have q_fv_1_34 : (fv_1 34).toInt = (fv 34).toInt := congrArg Int32.toInt ((fM_put (fM_rf [0] _) efv_1 (by decide)) 34 rfl); have q_fv_1_35 : (fv_1 35).toInt = (fv 35).toInt := congrArg Int32.toInt ((fM_put (fM_rf [0] _) efv_1 (by decide)) 35 rfl); have q_fv_1_2 : (fv_1 2).toInt = (fv 2).toInt := congrArg Int32.toInt ((fM_put (fM_rf [0] _) efv_1 (by decide)) 2 rfl); exact Or.inl ⟨rfl, (congrFun efv_1 2), by omega⟩), trivial⟩, ⟨by rw [ht]; exact hP, va_K.moved hW.alike hK⟩⟩, hS.F ht⟩) hS.2.2 dX12_end_18
set_option maxHeartbeats 4000000 in
set_option maxRecDepth 100000 in
theorem m_takeE (l : Launch) (dC : Nat → ClassId) (dI : Nat → Nat → Nat) (sz h : Nat) (ad : Nat → Nat) (cA : Nat → ClassId) (hd : dM h ad) (fv : Nat → Int32) (wd : Int64) (ar : Nat → Nat → Int32) (hF_fv : rF fv) (hA_ar : rA ar) : Met l yX12_take (.code yX12_take cX12_take 2 (some .int) :: lw_good) ({ frames := 2, cells := 0, slots := 0, locals := 40 }) (va_Pc [.ref h] (prM dC dI h ad cA fv wd ar sz)) (va_Qi (fun (r : Int32) (u : mS) => rF u.1 ∧ rA u.2.2 ∧ fM [2] fv u.1 ∧ fA [] ar u.2.2 ∧ (0 ≤ r.toInt ∧ r.toInt ≤ 340) ∧ ((u.1 2).toInt = 0) ∧ True) (enM dC dI h ad cA) (aM h ad sz)) 0 0 (aM h ad sz) := by
  refine Met.ofW (cc := cX12_take) (maxL := 2) (ret := (some .int)) (by decide) rfl ?_
  intro p e s m args below meth c s₁ B hml hv
  obtain ⟨rfl, hsz, hP, hK⟩ := hv
  have hx := B.exec
  have hb := B.bytes
  have hr := B.returns
  have hts := atoms_spec (ws := (.code yX12_take cX12_take 2 (some .int) :: lw_good)) B.pre
  have htg : ∀ w ∈ lw_good, w.before _ s = true := fun w hw => hts w (List.mem_cons_of_mem _ hw)
  have hown : s.vm.findClass RX12 = some m.cls := findClass_of_methodNamed B.named
  have hlocks := B.notSynchronized
  subst hsz
  have hS : va_S (aM h ad s.heap.size) s.heap s.heap [] := va_S.rf
  have hl := lv_entry ([.ref h]) (n := 2) (Nat.le_of_ble_eq_true rfl)
  rw [lg_entry_eq]
  generalize (lg_sl ([.ref h]) ++ List.replicate (2 - (lg_sl ([.ref h])).length) Slot.unset).toArray = ls at hl ⊢
  have hl : lv_has ls 2 [(0, .ref h)] := hl
  refine lv_aload_n hx hb dX12_take_0 rfl (lv_at hl 0 rfl) ?_
  refine gM_2 hx hb htg hown hK hP dX12_take_1 ?_
  have i_1 : 0 ≤ (fv 2).toInt ∧ (fv 2).toInt ≤ 340 := hF_fv 2
  refine lv_istore_n (lv' := [(1, .int (fv 2)), (0, .ref h)]) hx hb dX12_take_4 rfl hl (by decide) rfl (fun ls hl => ?_)
  refine lv_aload_n hx hb dX12_take_5 rfl (lv_at hl 1 rfl) ?_
  refine lv_iconst (v := 0) hx hb dX12_take_6 (by decide) ?_
  refine pM_2 hx hb htg hown hK hP hS hd dX12_take_7 (fun H locs fv_2 efv_2 hP hS => ?_)
  have hF_fv_2 : rF fv_2 := rF_put hF_fv efv_2 (iv_w (⟨by decide, by decide⟩ : (0 : Int) ≤ (0 : Int32).toInt ∧ (0 : Int32).toInt ≤ 0) (by decide) (by decide))
  refine lv_iload_n hx hb dX12_take_10 rfl (lv_at hl 0 rfl) ?_
  exact W.iret (v := fv 2) hx hb hr (fun t ht hW => ⟨⟨fv 2, (fv_2, wd, ar), rfl, ⟨hF_fv_2, hA_ar, (fM_put (fM_rf [2] _) efv_2 (by decide)), (fA_rf [] _), i_1, (show (fv_2 2).toInt = 0 from by rw [show fv_2 2 = (0 : Int32) from (congrFun efv_2 2)]; decide), trivial⟩, ⟨by rw [ht]; exact hP, va_K.moved hW.alike hK⟩⟩, hS.F ht⟩) hS.2.2 dX12_take_11
set_option maxHeartbeats 4000000 in
set_option maxRecDepth 100000 in
theorem m_seatedE (l : Launch) (dC : Nat → ClassId) (dI : Nat → Nat → Nat) (sz h : Nat) (ad : Nat → Nat) (cA : Nat → ClassId) (hd : dM h ad) (fv : Nat → Int32) (wd : Int64) (ar : Nat → Nat → Int32) (hF_fv : rF fv) (hA_ar : rA ar) (G9 : Nat → Int) (mm : Int32) (hp_mF : wt_fm G9 (fv 8) (ar 4)) : Met l yX12_seated (.code yX12_seated cX12_seated 9 (some .int) :: lw_good) ({ frames := 5, cells := 0, slots := 0, locals := 106 }) (va_Pc [.ref h, .int mm] (prM dC dI h ad cA fv wd ar sz)) (va_Qi (fun (r : Int32) (u : mS) => rF u.1 ∧ rA u.2.2 ∧ fM [0, 2, 8, 95] fv u.1 ∧ fA [4, 90, 91, 92, 93, 94] ar u.2.2 ∧ ((u.1 2).toInt = 0) ∧ (wt_fm G9 (u.1 8) (u.2.2 4)) ∧ True) (enM dC dI h ad cA) (aM h ad sz)) 0 0 (aM h ad sz) := by
  refine Met.ofW (cc := cX12_seated) (maxL := 9) (ret := (some .int)) (by decide) rfl ?_
  intro p e s m args below meth c s₁ B hml hv
  obtain ⟨rfl, hsz, hP, hK⟩ := hv
  have hx := B.exec
  have hb := B.bytes
  have hr := B.returns
  have hts := atoms_spec (ws := (.code yX12_seated cX12_seated 9 (some .int) :: lw_good)) B.pre
  have htg : ∀ w ∈ lw_good, w.before _ s = true := fun w hw => hts w (List.mem_cons_of_mem _ hw)
  have hown : s.vm.findClass RX12 = some m.cls := findClass_of_methodNamed B.named
  have hlocks := B.notSynchronized
  subst hsz
  have hS : va_S (aM h ad s.heap.size) s.heap s.heap [] := va_S.rf
  have hl := lv_entry ([.ref h, .int mm]) (n := 9) (Nat.le_of_ble_eq_true rfl)
  rw [lg_entry_eq]
  generalize (lg_sl ([.ref h, .int mm]) ++ List.replicate (9 - (lg_sl ([.ref h, .int mm])).length) Slot.unset).toArray = ls at hl ⊢
  have hl : lv_has ls 9 [(0, .ref h), (1, .int mm)] := hl
  refine lv_aload_n hx hb dX12_seated_0 rfl (lv_at hl 0 rfl) ?_
  refine lv_iconst (v := 0) hx hb dX12_seated_1 (by decide) ?_
  refine pM_0 hx hb htg hown hK hP hS hd dX12_seated_2 (fun H locs fv_1 efv_1 hP hS => ?_)
  have hF_fv_1 : rF fv_1 := rF_put hF_fv efv_1 (iv_any _)
  refine lv_aload_n hx hb dX12_seated_5 rfl (lv_at hl 0 rfl) ?_
  refine va_calli (va_runV (As := []) (rest := []) ⟨hx, hb, hml, hown, hts⟩ (m_takeE l dC dI H.size h ad cA hd fv_1 wd ar hF_fv_1 hA_ar) (cwV 0 hts (gV kw_8_5 kw_8_7 kw_p_60 kw_1_15 kw_8_8) rfl rfl rfl (by decide +kernel) ⟨Nat.le_of_ble_eq_true rfl, Nat.le_of_ble_eq_true rfl⟩) ⟨fun a U g mk q => ⟨q.1, q.2.1, q.2.2.1, va_K.moved (u := U) (U := U.calling g mk a) (Vm.Alike.refl U.vm) q.2.2.2⟩, va_recv hK hP (ci := 12) (q0 := 0) rfl rfl, fun U hU hW => ⟨rfl, by rw [hU], by rw [hU]; exact hP, va_K.moved hW.alike hK⟩⟩ rfl rfl hl.1 rfl (lv_room (Nat.le_of_ble_eq_true rfl)) dX12_seated_6 ⟨Nat.le_of_ble_eq_true rfl, Nat.le_of_ble_eq_true rfl⟩) hS (fun q _ h9 => aM_up hS q h9) (aM_up hS) (fun r_2 u t H1 locs ht _ hw hB _ hk1 hS => ?_)
  obtain ⟨fv_5, wd_6, ar_7⟩ := u
  obtain ⟨hF_fv_5, hA_ar_7, fr_8, fa_9, p_3, p_4, -⟩ := hw
  have hP : va_P (dC, dI) vwCl (wsM h ad cA fv_5 wd_6 ar_7) H1 := by have h9 := hB.1; rw [ht] at h9; exact h9
  have fr_8 : fM [2] fv_1 fv_5 := fr_8
  have fa_9 : fA [] ar ar_7 := fa_9
  have p_4 : (fv_5 2).toInt = 0 := p_4
  generalize H1 = H at hP hS ⊢
  refine lv_istore_n (lv' := [(2, .int r_2), (0, .ref h), (1, .int mm)]) hx hb dX12_seated_9 rfl hl (by decide) rfl (fun ls hl => ?_)
  refine lv_iload_n hx hb dX12_seated_10 rfl (lv_at hl 0 rfl) ?_
  refine lv_iconst (v := 1) hx hb dX12_seated_11 (by decide) ?_
  refine lv_iconst (v := 5) hx hb dX12_seated_12 (by decide) ?_
  refine va_calli (va_runS (As := [.int r_2, .int 1, .int 5]) (rest := []) ⟨hx, hb, hml, hown, hts⟩ (m_isIn l H.size r_2 1 5) (va_cwS 3 hts (gS kw_7_218 kw_7_219 kw_1_15 kw_7_220) rfl rfl rfl (by decide +kernel) ⟨Nat.le_of_ble_eq_true rfl, Nat.le_of_ble_eq_true rfl⟩) ⟨fun a U g mk q => ⟨q.1, q.2⟩, fun U hU hW => ⟨rfl, congrArg Array.size hU⟩⟩ rfl rfl hl.1 rfl (lv_room (Nat.le_of_ble_eq_true rfl)) dX12_seated_13 ⟨Nat.le_of_ble_eq_true rfl, Nat.le_of_ble_eq_true rfl⟩) hS (fun q _ h9 => nM_up hS q h9) (nM_up hS) (fun r_10 u t H1 locs ht _ hw hB _ hk1 hS => ?_)
  obtain ⟨p_11, p_12, -⟩ := hw
  have hP := my_keepM hP hk1
  generalize H1 = H at hP hS ⊢
  rcases p_12 with ⟨rfl, p_12⟩ | ⟨rfl, p_12⟩
  · skip
    refine lv_if_eq (tgt := 37) hx hb dX12_seated_16 (by decide) (fun c_13 => ?_) (fun c_13 => ?_)
    · skip
      refine lv_iconst (v := (-1)) hx hb dX12_seated_37 (by decide) ?_
      have z_14 : ((-1) : Int32).toInt = (-1) := by decide
      exact W.iret (v := (-1)) hx hb hr (fun t ht hW => ⟨⟨(-1), (fv_5, wd_6, ar_7), rfl, ⟨hF_fv_5, hA_ar_7, (fM_call (fM_put (fM_rf [0, 2, 8, 95] _) efv_1 (by decide)) fr_8 (by decide)), (fA_call (fA_rf [4, 90, 91, 92, 93, 94] _) fa_9 (by decide)), (show (fv_5 2).toInt = 0 from by rw [show fv_5 2 = (fv_5 2) from rfl]; omega), (mF_fr hp_mF (fM_call (fM_put (fM_rf [0, 2] _) efv_1 (by decide)) fr_8 (by decide)) (fA_call (fA_rf [] _) fa_9 (by decide)) rfl rfl), trivial⟩, ⟨by rw [ht]; exact hP, va_K.moved hW.alike hK⟩⟩, hS.F ht⟩) hS.2.2 dX12_seated_38
    · skip
      exact absurd c_13 (by decide)
  · skip
    have i_15 : 1 ≤ r_2.toInt ∧ r_2.toInt ≤ 340 := iv_le2 (⟨by decide, by decide⟩ : (1 : Int) ≤ (1 : Int32).toInt ∧ (1 : Int32).toInt ≤ 1) p_3 (Int32.le_iff_toInt_le.mpr p_12.1)
    have i_16 : 1 ≤ r_2.toInt ∧ r_2.toInt ≤ 5 := iv_le1 i_15 (⟨by decide, by decide⟩ : (5 : Int) ≤ (5 : Int32).toInt ∧ (5 : Int32).toInt ≤ 5) (Int32.le_iff_toInt_le.mpr p_12.2)
    refine lv_if_eq (tgt := 37) hx hb dX12_seated_16 (by decide) (fun c_17 => ?_) (fun c_17 => ?_)
    · skip
      exact absurd c_17 (by decide)
    · skip
      refine lv_iload_n hx hb dX12_seated_19 rfl (lv_at hl 2 rfl) ?_
      refine lv_iconst (v := 0) hx hb dX12_seated_20 (by decide) ?_
      refine lv_sipush (v := 200) hx hb dX12_seated_21 (by decide) ?_
      refine va_calli (va_runS (As := [.int mm, .int 0, .int 200]) (rest := []) ⟨hx, hb, hml, hown, hts⟩ (m_isIn l H.size mm 0 200) (va_cwS 3 hts (gS kw_7_218 kw_7_219 kw_1_15 kw_7_220) rfl rfl rfl (by decide +kernel) ⟨Nat.le_of_ble_eq_true rfl, Nat.le_of_ble_eq_true rfl⟩) ⟨fun a U g mk q => ⟨q.1, q.2⟩, fun U hU hW => ⟨rfl, congrArg Array.size hU⟩⟩ rfl rfl hl.1 rfl (lv_room (Nat.le_of_ble_eq_true rfl)) dX12_seated_24 ⟨Nat.le_of_ble_eq_true rfl, Nat.le_of_ble_eq_true rfl⟩) hS (fun q _ h9 => nM_up hS q h9) (nM_up hS) (fun r_18 u t H1 locs ht _ hw hB _ hk1 hS => ?_)
      obtain ⟨p_19, p_20, -⟩ := hw
      have hP := my_keepM hP hk1
      generalize H1 = H at hP hS ⊢
      rcases p_20 with ⟨rfl, p_20⟩ | ⟨rfl, p_20⟩
      · skip
        refine lv_if_eq (tgt := 37) hx hb dX12_seated_27 (by decide) (fun c_21 => ?_) (fun c_21 => ?_)
        · skip
          refine lv_iconst (v := (-1)) hx hb dX12_seated_37 (by decide) ?_
          have z_22 : ((-1) : Int32).toInt = (-1) := by decide
          exact W.iret (v := (-1)) hx hb hr (fun t ht hW => ⟨⟨(-1), (fv_5, wd_6, ar_7), rfl, ⟨hF_fv_5, hA_ar_7, (fM_call (fM_put (fM_rf [0, 2, 8, 95] _) efv_1 (by decide)) fr_8 (by decide)), (fA_call (fA_rf [4, 90, 91, 92, 93, 94] _) fa_9 (by decide)), (show (fv_5 2).toInt = 0 from by rw [show fv_5 2 = (fv_5 2) from rfl]; omega), (mF_fr hp_mF (fM_call (fM_put (fM_rf [0, 2] _) efv_1 (by decide)) fr_8 (by decide)) (fA_call (fA_rf [] _) fa_9 (by decide)) rfl rfl), trivial⟩, ⟨by rw [ht]; exact hP, va_K.moved hW.alike hK⟩⟩, hS.F ht⟩) hS.2.2 dX12_seated_38
        · skip
          exact absurd c_21 (by decide)
      · skip
        have i_23 : 0 ≤ mm.toInt ∧ mm.toInt ≤ 2147483647 := iv_le2 (⟨by decide, by decide⟩ : (0 : Int) ≤ (0 : Int32).toInt ∧ (0 : Int32).toInt ≤ 0) (iv_any mm) (Int32.le_iff_toInt_le.mpr p_20.1)
        have i_24 : 0 ≤ mm.toInt ∧ mm.toInt ≤ 200 := iv_le1 i_23 (⟨by decide, by decide⟩ : (200 : Int) ≤ (200 : Int32).toInt ∧ (200 : Int32).toInt ≤ 200) (Int32.le_iff_toInt_le.mpr p_20.2)
        refine lv_if_eq (tgt := 37) hx hb dX12_seated_27 (by decide) (fun c_25 => ?_) (fun c_25 => ?_)
        · skip
          exact absurd c_25 (by decide)
        · skip
          refine lv_aload_n hx hb dX12_seated_30 rfl (lv_at hl 1 rfl) ?_
          refine gM_33 hx hb htg hown hK hP dX12_seated_31 ?_
          refine my_ti (y := fv 33) ((fr_8 33 rfl).trans ((congrFun efv_1 33))) ?_
          have i_26 : 0 ≤ (fv 33).toInt ∧ (fv 33).toInt ≤ 8 := hF_fv 33
          refine lv_if_ne (tgt := 39) hx hb dX12_seated_34 (by decide) (fun c_27 => ?_) (fun c_27 => ?_)
          · skip
            have i_28 : 1 ≤ (fv 33).toInt ∧ (fv 33).toInt ≤ 8 := iv_nel i_26 (by decide) c_27
            have k_29 : ¬ (fv 33).toInt = 0 := fun q => c_27 (Int32.toInt_inj.mp q)
            refine lv_iconst (v := 0) hx hb dX12_seated_39 (by decide) ?_
            refine lv_istore_n (lv' := [(3, .int 0), (2, .int r_2), (0, .ref h), (1, .int mm)]) hx hb dX12_seated_40 rfl hl (by decide) rfl (fun ls hl => ?_)
            refine lv_iconst (v := 0) hx hb dX12_seated_41 (by decide) ?_
            refine lv_istore (lv' := [(4, .int 0), (3, .int 0), (2, .int r_2), (0, .ref h), (1, .int mm)]) hx hb dX12_seated_42 hl (by decide) rfl (fun ls hl => ?_)
            refine my_cut (P := fun R9 a9 Q9 => ∀ (n_39 : Nat) (x_30 : Int32) (x_31 : Int32) (fv_32 : Nat → Int32) (ar_34 : Nat → Nat → Int32) (wd_36 : Int64) (H : Heap) (locs : List Loc) (ls : Array Slot), 5 - x_31.toInt < (n_39 : Int) → (0 ≤ x_31.toInt ∧ x_31.toInt ≤ 5) → rF fv_32 → fM [] fv_5 fv_32 → rA ar_34 → fA [] ar_7 ar_34 → wt_fm G9 (fv_32 8) (ar_34 4) → (∀ j : Nat, (j : Int) < x_31.toInt → (ar 1 j).toInt ≤ 19) → va_P (dC, dI) vwCl (wsM h ad cA fv_32 wd_36 ar_34) H → va_S (aM h ad s.heap.size) s.heap H locs → lv_has ls 9 [(0, .ref h), (1, .int mm), (2, .int r_2), (3, .int x_30), (4, .int x_31)] → W p l e R9 s m a9 below meth c H locs 0 0 Q9 (F0 m 44 ls [])) ?_ (fun hj_41 => ?_)
            · intro n_39
              induction n_39 with
              | zero => intro x_30 x_31 fv_32 ar_34 wd_36 H locs ls fu_40 i_x_31 hF_fv_32 fr_33 hA_ar_34 fa_35 hp_37 q_38; exfalso; omega
              | succ n_39 ih_39 =>
                intro x_30 x_31 fv_32 ar_34 wd_36 H locs ls fu_40 i_x_31 hF_fv_32 fr_33 hA_ar_34 fa_35 hp_37 q_38 hP hS hl
                refine lv_iload hx hb dX12_seated_44 (lv_at hl 4 rfl) ?_
                refine lv_iload_n hx hb dX12_seated_46 rfl (lv_at hl 2 rfl) ?_
                refine lv_icmp_ge (tgt := 99) hx hb dX12_seated_47 (by decide) (fun c_42 => ?_) (fun c_42 => ?_)
                · skip
                  have i_43 : 1 ≤ x_31.toInt ∧ x_31.toInt ≤ 5 := iv_le2 i_16 i_x_31 c_42
                  have k_44 := Int32.le_iff_toInt_le.mp c_42
                  have hT : ∀ j : Nat, (j : Int) < r_2.toInt → (ar 1 j).toInt ≤ 19 := fun j hj => q_38 j (by omega)
                  have z33 : (1 : Int) ≤ (fv 33).toInt ∧ (fv 33).toInt ≤ 8 := i_28
                  refine lv_iconst (v := 0) hx hb dX12_seated_99 (by decide) ?_
                  refine lv_istore (lv' := [(4, .int 0), (0, .ref h), (1, .int mm), (2, .int r_2), (3, .int x_30)]) hx hb dX12_seated_100 hl (by decide) rfl (fun ls hl => ?_)
                  refine my_cut (P := fun R9 a9 Q9 => ∀ (n_52 : Nat) (x_45 : Int32) (fv_46 : Nat → Int32) (ar_48 : Nat → Nat → Int32) (wd_50 : Int64) (H : Heap) (locs : List Loc) (ls : Array Slot), 40 - x_45.toInt < (n_52 : Int) → (0 ≤ x_45.toInt ∧ x_45.toInt ≤ 40) → rF fv_46 → fM [8] fv_32 fv_46 → rA ar_48 → fA [4, 90] ar_34 ar_48 → wt_fm G9 (fv_46 8) (ar_48 4) → va_P (dC, dI) vwCl (wsM h ad cA fv_46 wd_50 ar_48) H → va_S (aM h ad s.heap.size) s.heap H locs → lv_has ls 9 [(0, .ref h), (1, .int mm), (2, .int r_2), (4, .int x_45)] → W p l e R9 s m a9 below meth c H locs 0 0 Q9 (F0 m 102 ls [])) ?_ (fun hj_54 => ?_)
                  · intro n_52
                    induction n_52 with
                    | zero => intro x_45 fv_46 ar_48 wd_50 H locs ls fu_53 i_x_45 hF_fv_46 fr_47 hA_ar_48 fa_49 hp_51; exfalso; omega
                    | succ n_52 ih_52 =>
                      intro x_45 fv_46 ar_48 wd_50 H locs ls fu_53 i_x_45 hF_fv_46 fr_47 hA_ar_48 fa_49 hp_51 hP hS hl
                      refine lv_iload hx hb dX12_seated_102 (lv_at hl 3 rfl) ?_
                      refine lv_aload_n hx hb dX12_seated_104 rfl (lv_at hl 0 rfl) ?_
                      refine gM_32 hx hb htg hown hK hP dX12_seated_105 ?_
                      refine my_ti (y := fv 32) ((fr_47 32 rfl).trans ((fr_33 32 rfl).trans ((fr_8 32 rfl).trans ((congrFun efv_1 32))))) ?_
                      have i_55 : 0 ≤ (fv 32).toInt ∧ (fv 32).toInt ≤ 40 := hF_fv 32
                      refine lv_icmp_ge (tgt := 204) hx hb dX12_seated_108 (by decide) (fun c_56 => ?_) (fun c_56 => ?_)
                      · skip
                        have k_57 := Int32.le_iff_toInt_le.mp c_56
                        refine lv_iconst (v := 0) hx hb dX12_seated_204 (by decide) ?_
                        refine lv_istore (lv' := [(4, .int 0), (0, .ref h), (1, .int mm), (2, .int r_2)]) hx hb dX12_seated_205 hl (by decide) rfl (fun ls hl => ?_)
                        refine my_cut (P := fun R9 a9 Q9 => ∀ (n_130 : Nat) (x_126 : Int32) (ar_127 : Nat → Nat → Int32) (H : Heap) (locs : List Loc) (ls : Array Slot), 256 - x_126.toInt < (n_130 : Int) → (0 ≤ x_126.toInt ∧ x_126.toInt ≤ 256) → rA ar_127 → fA [94] ar_48 ar_127 → wt_fm G9 (fv_46 8) (ar_127 4) → va_P (dC, dI) vwCl (wsM h ad cA fv_46 wd_50 ar_127) H → va_S (aM h ad s.heap.size) s.heap H locs → lv_has ls 9 [(0, .ref h), (2, .int r_2), (4, .int x_126)] → W p l e R9 s m a9 below meth c H locs 0 0 Q9 (F0 m 207 ls [])) ?_ (fun hj_132 => ?_)
                        · intro n_130
                          induction n_130 with
                          | zero => intro x_126 ar_127 H locs ls fu_131 i_x_126 hA_ar_127 fa_128 hp_129; exfalso; omega
                          | succ n_130 ih_130 =>
                            intro x_126 ar_127 H locs ls fu_131 i_x_126 hA_ar_127 fa_128 hp_129 hP hS hl
                            refine lv_iload hx hb dX12_seated_207 (lv_at hl 2 rfl) ?_
                            refine lv_iconst (v := 1) hx hb dX12_seated_209 (by decide) ?_
                            refine lv_aload_n hx hb dX12_seated_210 rfl (lv_at hl 0 rfl) ?_
                            refine gM_33 hx hb htg hown hK hP dX12_seated_211 ?_
                            refine my_ti (y := fv 33) ((fr_47 33 rfl).trans ((fr_33 33 rfl).trans ((fr_8 33 rfl).trans ((congrFun efv_1 33))))) ?_
                            refine lv_ishl hx hb dX12_seated_214 ?_
                            refine lv_topi (fun v_133 ev_133 => ?_)
                            have i_134 : 1 ≤ v_133.toInt ∧ v_133.toInt ≤ 256 := iv_shl (k := 8) ev_133 (iv_w i_28 (by decide) (by decide)) rfl (by decide)
                            refine lv_icmp_ge (tgt := 276) hx hb dX12_seated_215 (by decide) (fun c_135 => ?_) (fun c_135 => ?_)
                            · skip
                              have i_136 : 1 ≤ x_126.toInt ∧ x_126.toInt ≤ 256 := iv_le2 i_134 i_x_126 c_135
                              have k_137 := Int32.le_iff_toInt_le.mp c_135
                              refine lv_iconst (v := 0) hx hb dX12_seated_276 (by decide) ?_
                              refine lv_istore (lv' := [(4, .int 0), (0, .ref h), (2, .int r_2)]) hx hb dX12_seated_277 hl (by decide) rfl (fun ls hl => ?_)
                              refine my_cut (P := fun R9 a9 Q9 => ∀ (n_178 : Nat) (x_174 : Int32) (ar_175 : Nat → Nat → Int32) (H : Heap) (locs : List Loc) (ls : Array Slot), 8 - x_174.toInt < (n_178 : Int) → (0 ≤ x_174.toInt ∧ x_174.toInt ≤ 8) → rA ar_175 → fA [93] ar_127 ar_175 → wt_fm G9 (fv_46 8) (ar_175 4) → va_P (dC, dI) vwCl (wsM h ad cA fv_46 wd_50 ar_175) H → va_S (aM h ad s.heap.size) s.heap H locs → lv_has ls 9 [(0, .ref h), (2, .int r_2), (4, .int x_174)] → W p l e R9 s m a9 below meth c H locs 0 0 Q9 (F0 m 279 ls [])) ?_ (fun hj_180 => ?_)
                              · intro n_178
                                induction n_178 with
                                | zero => intro x_174 ar_175 H locs ls fu_179 i_x_174 hA_ar_175 fa_176 hp_177; exfalso; omega
                                | succ n_178 ih_178 =>
                                  intro x_174 ar_175 H locs ls fu_179 i_x_174 hA_ar_175 fa_176 hp_177 hP hS hl
                                  refine lv_iload hx hb dX12_seated_279 (lv_at hl 2 rfl) ?_
                                  refine lv_aload_n hx hb dX12_seated_281 rfl (lv_at hl 0 rfl) ?_
                                  refine gM_33 hx hb htg hown hK hP dX12_seated_282 ?_
                                  refine my_ti (y := fv 33) ((fr_47 33 rfl).trans ((fr_33 33 rfl).trans ((fr_8 33 rfl).trans ((congrFun efv_1 33))))) ?_
                                  refine lv_icmp_ge (tgt := 302) hx hb dX12_seated_285 (by decide) (fun c_181 => ?_) (fun c_181 => ?_)
                                  · skip
                                    have i_182 : 1 ≤ x_174.toInt ∧ x_174.toInt ≤ 8 := iv_le2 i_28 i_x_174 c_181
                                    have k_183 := Int32.le_iff_toInt_le.mp c_181
                                    refine lv_iconst (v := 0) hx hb dX12_seated_302 (by decide) ?_
                                    refine lv_istore (lv' := [(4, .int 0), (0, .ref h), (2, .int r_2)]) hx hb dX12_seated_303 hl (by decide) rfl (fun ls hl => ?_)
                                    refine my_cut (P := fun R9 a9 Q9 => ∀ (n_195 : Nat) (x_190 : Int32) (ar_191 : Nat → Nat → Int32) (H : Heap) (locs : List Loc) (ls : Array Slot), 5 - x_190.toInt < (n_195 : Int) → (0 ≤ x_190.toInt ∧ x_190.toInt ≤ 5) → rA ar_191 → fA [91, 93] ar_175 ar_191 → wt_fm G9 (fv_46 8) (ar_191 4) → (∀ j : Nat, (j : Int) < x_190.toInt → (ar_191 91 j).toInt ≤ (fv 33).toInt - 1) → va_P (dC, dI) vwCl (wsM h ad cA fv_46 wd_50 ar_191) H → va_S (aM h ad s.heap.size) s.heap H locs → lv_has ls 9 [(0, .ref h), (2, .int r_2), (4, .int x_190)] → W p l e R9 s m a9 below meth c H locs 0 0 Q9 (F0 m 305 ls [])) ?_ (fun hj_197 => ?_)
                                    · intro n_195
                                      induction n_195 with
                                      | zero => intro x_190 ar_191 H locs ls fu_196 i_x_190 hA_ar_191 fa_192 hp_193 q_194; exfalso; omega
                                      | succ n_195 ih_195 =>
                                        intro x_190 ar_191 H locs ls fu_196 i_x_190 hA_ar_191 fa_192 hp_193 q_194 hP hS hl
                                        refine lv_iload hx hb dX12_seated_305 (lv_at hl 2 rfl) ?_
                                        refine lv_iload_n hx hb dX12_seated_307 rfl (lv_at hl 1 rfl) ?_
                                        refine lv_icmp_ge (tgt := 346) hx hb dX12_seated_308 (by decide) (fun c_198 => ?_) (fun c_198 => ?_)
                                        · skip
                                          have i_199 : 1 ≤ x_190.toInt ∧ x_190.toInt ≤ 5 := iv_le2 i_16 i_x_190 c_198
                                          have k_200 := Int32.le_iff_toInt_le.mp c_198
                                          refine lv_aload_n hx hb dX12_seated_346 rfl (lv_at hl 0 rfl) ?_
                                          refine gM_93 hx hb htg hown hK hP dX12_seated_347 ?_
                                          refine lv_iconst (v := 0) hx hb dX12_seated_350 (by decide) ?_
                                          refine lM_93 hx hb hK hP (iv_in (⟨by decide, by decide⟩ : (0 : Int) ≤ (0 : Int32).toInt ∧ (0 : Int32).toInt ≤ 0) (by decide) (by decide)) dX12_seated_351 (fun v_214 ev_214 => ?_)
                                          refine lv_istore (lv' := [(4, .int v_214), (0, .ref h), (2, .int r_2)]) hx hb dX12_seated_352 hl (by decide) rfl (fun ls hl => ?_)
                                          refine lv_iconst (v := (-1)) hx hb dX12_seated_354 (by decide) ?_
                                          refine lv_istore (lv' := [(5, .int (-1)), (4, .int v_214), (0, .ref h), (2, .int r_2)]) hx hb dX12_seated_355 hl (by decide) rfl (fun ls hl => ?_)
                                          refine lv_iconst (v := 1) hx hb dX12_seated_357 (by decide) ?_
                                          have v8b := V8_b (fun i => hA_ar_191 91 i)
                                          refine lv_istore (lv' := [(6, .int 1), (5, .int (-1)), (4, .int v_214), (0, .ref h), (2, .int r_2)]) hx hb dX12_seated_358 hl (by decide) rfl (fun ls hl => ?_)
                                          refine my_cut (P := fun R9 a9 Q9 => ∀ (n_225 : Nat) (x_215 : Int32) (x_216 : Int32) (fv_217 : Nat → Int32) (ar_219 : Nat → Nat → Int32) (wd_221 : Int64) (H : Heap) (locs : List Loc) (ls : Array Slot), 32767 - V8 (ar_219 91) < (n_225 : Int) → ((-1) ≤ x_215.toInt ∧ x_215.toInt ≤ 2147483647) → (1 ≤ x_216.toInt ∧ x_216.toInt ≤ 1) → rF fv_217 → fM [] fv_46 fv_217 → rA ar_219 → fA [91, 92, 93] ar_191 ar_219 → wt_fm G9 (fv_217 8) (ar_219 4) → (∀ j : Nat, (j : Int) < r_2.toInt → (ar_219 91 j).toInt ≤ (fv 33).toInt - 1) → (0 ≤ V8 (ar_219 91) ∧ V8 (ar_219 91) ≤ 32767) → va_P (dC, dI) vwCl (wsM h ad cA fv_217 wd_221 ar_219) H → va_S (aM h ad s.heap.size) s.heap H locs → lv_has ls 9 [(0, .ref h), (2, .int r_2), (4, .int v_214), (5, .int x_215), (6, .int x_216)] → W p l e R9 s m a9 below meth c H locs 0 0 Q9 (F0 m 360 ls [])) ?_ (fun hj_227 => ?_)
                                          · intro n_225
                                            induction n_225 with
                                            | zero => intro x_215 x_216 fv_217 ar_219 wd_221 H locs ls fu_226 i_x_215 i_x_216 hF_fv_217 fr_218 hA_ar_219 fa_220 hp_222 q_223 q_224; exfalso; omega
                                            | succ n_225 ih_225 =>
                                              intro x_215 x_216 fv_217 ar_219 wd_221 H locs ls fu_226 i_x_215 i_x_216 hF_fv_217 fr_218 hA_ar_219 fa_220 hp_222 q_223 q_224 hP hS hl
                                              refine lv_iload hx hb dX12_seated_360 (lv_at hl 4 rfl) ?_
                                              refine lv_if_eq (tgt := 607) hx hb dX12_seated_362 (by decide) (fun c_228 => ?_) (fun c_228 => ?_)
                                              · skip
                                                exact absurd True.intro (by have h7 := i_x_216; have h8 := (⟨by decide, by decide⟩ : (0 : Int) ≤ (0 : Int32).toInt ∧ (0 : Int32).toInt ≤ 0); have h9 := congrArg Int32.toInt c_228; exfalso; omega)
                                              · skip
                                                have k_229 : ¬ x_216.toInt = 0 := fun q => c_228 (Int32.toInt_inj.mp q)
                                                refine lv_aload_n hx hb dX12_seated_365 rfl (lv_at hl 0 rfl) ?_
                                                refine va_calli (va_runV (As := []) (rest := []) ⟨hx, hb, hml, hown, hts⟩ (m_mostSeated l dC dI H.size h ad cA hd fv_217 wd_221 ar_219 hF_fv_217 hA_ar_219) (cwV 0 hts (gV kw_9_24 kw_9_26 kw_p_101 kw_1_15 kw_9_27) rfl rfl rfl (by decide +kernel) ⟨Nat.le_of_ble_eq_true rfl, Nat.le_of_ble_eq_true rfl⟩) ⟨fun a U g mk q => ⟨q.1, q.2.1, q.2.2.1, va_K.moved (u := U) (U := U.calling g mk a) (Vm.Alike.refl U.vm) q.2.2.2⟩, va_recv hK hP (ci := 12) (q0 := 0) rfl rfl, fun U hU hW => ⟨rfl, by rw [hU], by rw [hU]; exact hP, va_K.moved hW.alike hK⟩⟩ rfl rfl hl.1 rfl (lv_room (Nat.le_of_ble_eq_true rfl)) dX12_seated_366 ⟨Nat.le_of_ble_eq_true rfl, Nat.le_of_ble_eq_true rfl⟩) hS (fun q _ h9 => aM_up hS q h9) (aM_up hS) (fun r_230 u t H1 locs ht _ hw hB _ hk1 hS => ?_)
                                                obtain ⟨fv_231, wd_232, ar_233⟩ := u
                                                obtain ⟨hF_fv_231, hA_ar_233, fr_234, fa_235, -⟩ := hw
                                                have hP : va_P (dC, dI) vwCl (wsM h ad cA fv_231 wd_232 ar_233) H1 := by have h9 := hB.1; rw [ht] at h9; exact h9
                                                have fr_234 : fM [] fv_217 fv_231 := fr_234
                                                have fa_235 : fA [] ar_219 ar_233 := fa_235
                                                generalize H1 = H at hP hS ⊢
                                                refine lv_istore (lv' := [(7, .int r_230), (0, .ref h), (2, .int r_2), (4, .int v_214), (5, .int x_215), (6, .int x_216)]) hx hb dX12_seated_369 hl (by decide) rfl (fun ls hl => ?_)
                                                refine lv_iload hx hb dX12_seated_371 (lv_at hl 0 rfl) ?_
                                                refine lv_iload hx hb dX12_seated_373 (lv_at hl 4 rfl) ?_
                                                refine my_cut (P := fun R9 a9 Q9 => ∀ (x_260 : Int32) (ar_261 : Nat → Nat → Int32) (H : Heap) (locs : List Loc) (ls : Array Slot), ((-1) ≤ x_260.toInt ∧ x_260.toInt ≤ 2147483647) → rA ar_261 → fA [92] ar_233 ar_261 → wt_fm G9 (fv_231 8) (ar_261 4) → va_P (dC, dI) vwCl (wsM h ad cA fv_231 wd_232 ar_261) H → va_S (aM h ad s.heap.size) s.heap H locs → lv_has ls 9 [(0, .ref h), (2, .int r_2), (4, .int v_214), (5, .int x_260)] → W p l e R9 s m a9 below meth c H locs 0 0 Q9 (F0 m 411 ls [])) ?_ (fun hj_264 => ?_)
                                                · intro x_260 ar_261 H locs ls i_x_260 hA_ar_261 fa_262 hp_263 hP hS hl
                                                  refine lv_iload hx hb dX12_seated_411 (lv_at hl 3 rfl) ?_
                                                  refine lv_aload_n hx hb dX12_seated_413 rfl (lv_at hl 0 rfl) ?_
                                                  refine gM_94 hx hb htg hown hK hP dX12_seated_414 ?_
                                                  refine lv_iconst (v := 0) hx hb dX12_seated_417 (by decide) ?_
                                                  refine lM_94 hx hb hK hP (iv_in (⟨by decide, by decide⟩ : (0 : Int) ≤ (0 : Int32).toInt ∧ (0 : Int32).toInt ≤ 0) (by decide) (by decide)) dX12_seated_418 (fun v_265 ev_265 => ?_)
                                                  refine lv_icmp_eq (tgt := 607) hx hb dX12_seated_419 (by decide) (fun c_266 => ?_) (fun c_266 => ?_)
                                                  · skip
                                                    have i_267 : (-1) ≤ v_265.toInt ∧ v_265.toInt ≤ 2147483647 := iv_eq1 i_x_260 c_266.symm
                                                    have k_268 := congrArg Int32.toInt c_266
                                                    refine lv_aload_n hx hb dX12_seated_607 rfl (lv_at hl 0 rfl) ?_
                                                    refine lv_iload_n hx hb dX12_seated_608 rfl (lv_at hl 1 rfl) ?_
                                                    refine pM_95 hx hb htg hown hK hP hS hd dX12_seated_609 (fun H locs fv_269 efv_269 hP hS => ?_)
                                                    have hF_fv_269 : rF fv_269 := rF_put hF_fv_231 efv_269 (iv_w i_16 (by decide) (by decide))
                                                    refine lv_iload hx hb dX12_seated_612 (lv_at hl 3 rfl) ?_
                                                    exact W.iret (v := x_260) hx hb hr (fun t ht hW => ⟨⟨x_260, (fv_269, wd_232, ar_261), rfl, ⟨hF_fv_269, hA_ar_261, (fM_put (fM_call (fM_call (fM_call (fM_call (fM_call (fM_put (fM_rf [0, 2, 8, 95] _) efv_1 (by decide)) fr_8 (by decide)) fr_33 (by decide)) fr_47 (by decide)) fr_218 (by decide)) fr_234 (by decide)) efv_269 (by decide)), (fA_call (fA_call (fA_call (fA_call (fA_call (fA_call (fA_call (fA_call (fA_call (fA_rf [4, 90, 91, 92, 93, 94] _) fa_9 (by decide)) fa_35 (by decide)) fa_49 (by decide)) fa_128 (by decide)) fa_176 (by decide)) fa_192 (by decide)) fa_220 (by decide)) fa_235 (by decide)) fa_262 (by decide)), (show (fv_269 2).toInt = 0 from by rw [show fv_269 2 = (fv_5 2) from (congrFun efv_269 2).trans ((fr_234 2 rfl).trans ((fr_218 2 rfl).trans ((fr_47 2 rfl).trans ((fr_33 2 rfl)))))]; omega), (mF_fr hp_263 (fM_put (fM_rf [95] _) efv_269 (by decide)) (fA_rf [] _) rfl rfl), trivial⟩, ⟨by rw [ht]; exact hP, va_K.moved hW.alike hK⟩⟩, hS.F ht⟩) hS.2.2 dX12_seated_614
                                                  · skip
                                                    have k_270 : ¬ x_260.toInt = v_265.toInt := fun q => c_266 (Int32.toInt_inj.mp q)
                                                    refine lv_iload hx hb dX12_seated_422 (lv_at hl 3 rfl) ?_
                                                    refine lv_iload hx hb dX12_seated_424 (lv_at hl 2 rfl) ?_
                                                    refine lv_icmp_ne (tgt := 432) hx hb dX12_seated_426 (by decide) (fun c_271 => ?_) (fun c_271 => ?_)
                                                    · skip
                                                      have k_272 : ¬ x_260.toInt = v_214.toInt := fun q => c_271 (Int32.toInt_inj.mp q)
                                                      refine lv_iload_n hx hb dX12_seated_432 rfl (lv_at hl 1 rfl) ?_
                                                      refine lv_iconst (v := 1) hx hb dX12_seated_433 (by decide) ?_
                                                      refine lv_isub hx hb dX12_seated_434 ?_
                                                      refine lv_topi (fun v_273 ev_273 => ?_)
                                                      have t_274 : v_273.toInt = r_2.toInt - 1 ∧ 0 ≤ v_273.toInt ∧ v_273.toInt ≤ 4 := iv_subc ev_273 i_16 (by decide) (by decide) (by decide)
                                                      refine lv_istore (lv' := [(8, .int v_273), (0, .ref h), (2, .int r_2), (4, .int v_214), (5, .int x_260)]) hx hb dX12_seated_435 hl (by decide) rfl (fun ls hl => ?_)
                                                      refine my_cut (P := fun R9 a9 Q9 => ∀ (n_283 : Nat) (x_276 : Int32) (ar_277 : Nat → Nat → Int32) (H : Heap) (locs : List Loc) (ls : Array Slot), x_276.toInt - (-1) < (n_283 : Int) → ((-1) ≤ x_276.toInt ∧ x_276.toInt ≤ 4) → rA ar_277 → fA [91, 93] ar_261 ar_277 → wt_fm G9 (fv_231 8) (ar_277 4) → (x_276.toInt < r_2.toInt) → (V8 (ar_219 91) ≤ V8 (ar_277 91) + w8 x_276.toInt - 1) → (∀ j : Nat, (j : Int) < r_2.toInt → (ar_277 91 j).toInt ≤ (fv 33).toInt - 1) → va_P (dC, dI) vwCl (wsM h ad cA fv_231 wd_232 ar_277) H → va_S (aM h ad s.heap.size) s.heap H locs → lv_has ls 9 [(0, .ref h), (2, .int r_2), (4, .int v_214), (5, .int x_260), (8, .int x_276)] → W p l e R9 s m a9 below meth c H locs 0 0 Q9 (F0 m 437 ls [])) ?_ (fun hj_285 => ?_)
                                                      · intro n_283
                                                        induction n_283 with
                                                        | zero => intro x_276 ar_277 H locs ls fu_284 i_x_276 hA_ar_277 fa_278 hp_279 q_280 q_281 q_282; exfalso; omega
                                                        | succ n_283 ih_283 =>
                                                          intro x_276 ar_277 H locs ls fu_284 i_x_276 hA_ar_277 fa_278 hp_279 q_280 q_281 q_282 hP hS hl
                                                          have w_286 := w8_p (k := x_276.toInt) (by omega)
                                                          refine lv_iload hx hb dX12_seated_437 (lv_at hl 4 rfl) ?_
                                                          refine my_cut (P := fun R9 a9 Q9 => ∀  (H : Heap) (locs : List Loc) (ls : Array Slot), (x_276.toInt < 0 ∨ (ar_277 91 x_276.toInt.toNat).toInt ≤ (fv 33).toInt - 2) → va_P (dC, dI) vwCl (wsM h ad cA fv_231 wd_232 ar_277) H → va_S (aM h ad s.heap.size) s.heap H locs → lv_has ls 9 [(0, .ref h), (2, .int r_2), (4, .int v_214), (5, .int x_260), (8, .int x_276)] → W p l e R9 s m a9 below meth c H locs 0 0 Q9 (F0 m 519 ls [])) ?_ (fun hj_315 => ?_)
                                                          · intro  H locs ls q_314 hP hS hl
                                                            refine lv_iload hx hb dX12_seated_519 (lv_at hl 4 rfl) ?_
                                                            refine my_cut (P := fun R9 a9 Q9 => ∀ (x_319 : Int32) (H : Heap) (locs : List Loc) (ls : Array Slot), (0 ≤ x_319.toInt ∧ x_319.toInt ≤ 1) → (x_319.toInt = 0 ∨ 0 ≤ x_276.toInt) → va_P (dC, dI) vwCl (wsM h ad cA fv_231 wd_232 ar_277) H → va_S (aM h ad s.heap.size) s.heap H locs → lv_has ls 9 [(0, .ref h), (2, .int r_2), (4, .int v_214), (5, .int x_260), (8, .int x_276)] → W p l e R9 s m a9 below meth c H locs 0 0 Q9 (F0 m 529 ls [.int x_319])) ?_ (fun hj_321 => ?_)
                                                            · intro x_319 H locs ls i_x_319 q_320 hP hS hl
                                                              refine lv_istore (lv' := [(6, .int x_319), (0, .ref h), (2, .int r_2), (4, .int v_214), (5, .int x_260), (8, .int x_276)]) hx hb dX12_seated_529 hl (by decide) rfl (fun ls hl => ?_)
                                                              refine lv_iload hx hb dX12_seated_531 (lv_at hl 0 rfl) ?_
                                                              refine lv_if_ne (tgt := 539) hx hb dX12_seated_533 (by decide) (fun c_322 => ?_) (fun c_322 => ?_)
                                                              · skip
                                                                have i_323 : 1 ≤ x_319.toInt ∧ x_319.toInt ≤ 1 := iv_nel i_x_319 (by decide) c_322
                                                                have k_324 : ¬ x_319.toInt = 0 := fun q => c_322 (Int32.toInt_inj.mp q)
                                                                have i_325 : 0 ≤ x_276.toInt ∧ x_276.toInt ≤ 4 := (by omega)
                                                                refine lv_aload_n hx hb dX12_seated_539 rfl (lv_at hl 1 rfl) ?_
                                                                refine gM_93 hx hb htg hown hK hP dX12_seated_540 ?_
                                                                refine lv_aload_n hx hb dX12_seated_543 rfl (lv_at hl 1 rfl) ?_
                                                                refine gM_91 hx hb htg hown hK hP dX12_seated_544 ?_
                                                                refine lv_iload hx hb dX12_seated_547 (lv_at hl 5 rfl) ?_
                                                                refine lM_91 hx hb hK hP (iv_in i_325 (by decide) (by decide)) dX12_seated_549 (fun v_326 ev_326 => ?_)
                                                                have i_327 : 0 ≤ v_326.toInt ∧ v_326.toInt ≤ 7 := ev_326 ▸ hA_ar_277 91 _
                                                                have i_328 : 0 ≤ v_326.toInt ∧ v_326.toInt ≤ 6 := ⟨(i_327).1, by have h8 : (ar_277 91 x_276.toInt.toNat).toInt = v_326.toInt := congrArg Int32.toInt ev_326.symm; omega⟩
                                                                have h549 : v_326.toInt ≤ (fv 33).toInt - 2 := by have h8 : (ar_277 91 x_276.toInt.toNat).toInt = v_326.toInt := congrArg Int32.toInt ev_326.symm; omega
                                                                refine lv_dup2_11 hx hb dX12_seated_550 rfl rfl ?_
                                                                refine lM_93 hx hb hK hP (iv_in i_328 (by decide) (by decide)) dX12_seated_551 (fun v_329 ev_329 => ?_)
                                                                refine lv_aload_n hx hb dX12_seated_552 rfl (lv_at hl 1 rfl) ?_
                                                                refine gM_22 hx hb htg hown hK hP dX12_seated_553 ?_
                                                                refine lv_aload_n hx hb dX12_seated_556 rfl (lv_at hl 1 rfl) ?_
                                                                refine gM_1 hx hb htg hown hK hP dX12_seated_557 ?_
                                                                refine lv_iload hx hb dX12_seated_560 (lv_at hl 5 rfl) ?_
                                                                refine lM_1 hx hb hK hP (iv_in i_325 (by decide) (by decide)) dX12_seated_562 (fun v_330 ev_330 => ?_)
                                                                have i_331 : 0 ≤ v_330.toInt ∧ v_330.toInt ≤ 255 := ev_330 ▸ hA_ar_277 1 _
                                                                have i_332 : 0 ≤ v_330.toInt ∧ v_330.toInt ≤ 19 := ⟨(i_331).1, by rw [ev_330, ((fA_call (fA_call (fA_call (fA_call (fA_call (fA_call (fA_call (fA_call (fA_call (fA_call (fA_rf [4, 90, 91, 92, 93, 94] _) fa_9 (by decide)) fa_35 (by decide)) fa_49 (by decide)) fa_128 (by decide)) fa_176 (by decide)) fa_192 (by decide)) fa_220 (by decide)) fa_235 (by decide)) fa_262 (by decide)) fa_278 (by decide)) 1 rfl)]; exact hT _ (by show ((x_276.toInt.toNat : Nat) : Int) < _; omega)⟩
                                                                refine lM_22 hx hb hK hP (iv_in i_332 (by decide) (by decide)) dX12_seated_563 (fun v_333 ev_333 => ?_)
                                                                refine lv_isub hx hb dX12_seated_564 ?_
                                                                refine lv_topi (fun v_334 ev_334 => ?_)
                                                                refine sM_93 hx hb hK hP hS hd (iv_in i_328 (by decide) (by decide)) dX12_seated_565 (fun H locs ar_335 ear_335 hP hS => ?_)
                                                                have hA_ar_335 : rA ar_335 := rA_put hA_ar_277 ear_335 (iv_any _)
                                                                refine lv_aload_n hx hb dX12_seated_566 rfl (lv_at hl 1 rfl) ?_
                                                                refine gM_91 hx hb htg hown hK hP dX12_seated_567 ?_
                                                                refine lv_iload hx hb dX12_seated_570 (lv_at hl 5 rfl) ?_
                                                                refine lv_dup2_11 hx hb dX12_seated_572 rfl rfl ?_
                                                                refine lM_91 hx hb hK hP (iv_in i_325 (by decide) (by decide)) dX12_seated_573 (fun v_336 ev_336 => ?_)
                                                                obtain rfl : v_326 = v_336 := ev_326.trans ((congrFun ((fA_put (fA_rf [93] _) ear_335 (by decide)) 91 rfl) _).symm.trans ev_336.symm)
                                                                refine lv_iconst (v := 1) hx hb dX12_seated_574 (by decide) ?_
                                                                refine lv_iadd hx hb dX12_seated_575 ?_
                                                                refine lv_topi (fun v_337 ev_337 => ?_)
                                                                have t_338 : v_337.toInt = v_326.toInt + 1 ∧ 1 ≤ v_337.toInt ∧ v_337.toInt ≤ 7 := iv_addc ev_337 i_328 (by decide) (by decide) (by decide)
                                                                refine sM_91 hx hb hK hP hS hd (iv_in i_325 (by decide) (by decide)) dX12_seated_576 (fun H locs ar_340 ear_340 hP hS => ?_)
                                                                have hA_ar_340 : rA ar_340 := rA_put hA_ar_335 ear_340 (iv_w t_338.2 (by decide) (by decide))
                                                                refine lv_aload_n hx hb dX12_seated_577 rfl (lv_at hl 1 rfl) ?_
                                                                refine gM_93 hx hb htg hown hK hP dX12_seated_578 ?_
                                                                refine lv_aload_n hx hb dX12_seated_581 rfl (lv_at hl 1 rfl) ?_
                                                                refine gM_91 hx hb htg hown hK hP dX12_seated_582 ?_
                                                                refine lv_iload hx hb dX12_seated_585 (lv_at hl 5 rfl) ?_
                                                                refine lM_91 hx hb hK hP (iv_in i_325 (by decide) (by decide)) dX12_seated_587 (fun v_341 ev_341 => ?_)
                                                                have i_342 : 0 ≤ v_341.toInt ∧ v_341.toInt ≤ 7 := ev_341 ▸ hA_ar_340 91 _
                                                                refine lv_dup2_11 hx hb dX12_seated_588 rfl rfl ?_
                                                                refine lM_93 hx hb hK hP (iv_in i_342 (by decide) (by decide)) dX12_seated_589 (fun v_343 ev_343 => ?_)
                                                                refine lv_aload_n hx hb dX12_seated_590 rfl (lv_at hl 1 rfl) ?_
                                                                refine gM_22 hx hb htg hown hK hP dX12_seated_591 ?_
                                                                refine lv_aload_n hx hb dX12_seated_594 rfl (lv_at hl 1 rfl) ?_
                                                                refine gM_1 hx hb htg hown hK hP dX12_seated_595 ?_
                                                                refine lv_iload hx hb dX12_seated_598 (lv_at hl 5 rfl) ?_
                                                                refine lM_1 hx hb hK hP (iv_in i_325 (by decide) (by decide)) dX12_seated_600 (fun v_344 ev_344 => ?_)
                                                                obtain rfl : v_330 = v_344 := ev_330.trans ((congrFun ((fA_put (fA_put (fA_rf [91, 93] _) ear_335 (by decide)) ear_340 (by decide)) 1 rfl) _).symm.trans ev_344.symm)
                                                                refine lM_22 hx hb hK hP (iv_in i_332 (by decide) (by decide)) dX12_seated_601 (fun v_345 ev_345 => ?_)
                                                                obtain rfl : v_333 = v_345 := ev_333.trans ((congrFun ((fA_put (fA_put (fA_rf [91, 93] _) ear_335 (by decide)) ear_340 (by decide)) 22 rfl) _).symm.trans ev_345.symm)
                                                                refine lv_iadd hx hb dX12_seated_602 ?_
                                                                refine lv_topi (fun v_346 ev_346 => ?_)
                                                                refine sM_93 hx hb hK hP hS hd (iv_in i_342 (by decide) (by decide)) dX12_seated_603 (fun H locs ar_347 ear_347 hP hS => ?_)
                                                                have hA_ar_347 : rA ar_347 := rA_put hA_ar_340 ear_347 (iv_any _)
                                                                have g91 : ar_347 91 = upd (ar_277 91) (x_276.toInt.toNat) v_337 := by rw [((fA_put (fA_rf [93] _) ear_347 (by decide)) 91 rfl), ear_340]; show upd (ar_335 91) (x_276.toInt.toNat) _ = _; rw [((fA_put (fA_rf [93] _) ear_335 (by decide)) 91 rfl)]
                                                                have y9 := V8_i (k := x_276.toInt) (x := v_337) (by omega) g91 (by show _ = (ar_277 91 (Int32.toNatClampNeg x_276)).toInt + 1; rw [← ev_326]; omega)
                                                                have pz9 := pS_up (x := v_337) q_282 g91 (by omega)
                                                                refine lv_goto (tgt := 360) hx hb dX12_seated_604 (by decide) ?_
                                                                exact ih_225 x_260 x_319 fv_231 ar_347 wd_232 _ _ ls (by omega) i_x_260 i_323 hF_fv_231 (fM_call (fM_call (fM_rf [] _) fr_218 (by decide)) fr_234 (by decide)) hA_ar_347 (fA_put (fA_put (fA_put (fA_call (fA_call (fA_call (fA_call (fA_rf [91, 92, 93] _) fa_220 (by decide)) fa_235 (by decide)) fa_262 (by decide)) fa_278 (by decide)) ear_335 (by decide)) ear_340 (by decide)) ear_347 (by decide)) (mF_fr hp_279 (fM_rf [] _) (fA_put (fA_put (fA_put (fA_rf [91, 93] _) ear_335 (by decide)) ear_340 (by decide)) ear_347 (by decide)) rfl rfl) pz9 (V8_b (fun i => hA_ar_347 91 i)) hP hS (lv_sub hl [1, 2, 3, 4, 0] rfl)
                                                              · skip
                                                                have i_348 : 0 ≤ x_319.toInt ∧ x_319.toInt ≤ 0 := iv_eq1 (⟨by decide, by decide⟩ : (0 : Int) ≤ (0 : Int32).toInt ∧ (0 : Int32).toInt ≤ 0) c_322
                                                                refine lv_goto (tgt := 360) hx hb dX12_seated_536 (by decide) ?_
                                                                refine lv_iload hx hb dX12_seated_360 (lv_at hl 0 rfl) ?_
                                                                refine lv_if_eq (tgt := 607) hx hb dX12_seated_362 (by decide) (fun c_350 => ?_) (fun c_350 => ?_)
                                                                · skip
                                                                  refine lv_aload_n hx hb dX12_seated_607 rfl (lv_at hl 1 rfl) ?_
                                                                  refine lv_iload_n hx hb dX12_seated_608 rfl (lv_at hl 2 rfl) ?_
                                                                  refine pM_95 hx hb htg hown hK hP hS hd dX12_seated_609 (fun H locs fv_352 efv_352 hP hS => ?_)
                                                                  have hF_fv_352 : rF fv_352 := rF_put hF_fv_231 efv_352 (iv_w i_16 (by decide) (by decide))
                                                                  refine lv_iload hx hb dX12_seated_612 (lv_at hl 4 rfl) ?_
                                                                  exact W.iret (v := x_260) hx hb hr (fun t ht hW => ⟨⟨x_260, (fv_352, wd_232, ar_277), rfl, ⟨hF_fv_352, hA_ar_277, (fM_put (fM_call (fM_call (fM_call (fM_call (fM_call (fM_put (fM_rf [0, 2, 8, 95] _) efv_1 (by decide)) fr_8 (by decide)) fr_33 (by decide)) fr_47 (by decide)) fr_218 (by decide)) fr_234 (by decide)) efv_352 (by decide)), (fA_call (fA_call (fA_call (fA_call (fA_call (fA_call (fA_call (fA_call (fA_call (fA_call (fA_rf [4, 90, 91, 92, 93, 94] _) fa_9 (by decide)) fa_35 (by decide)) fa_49 (by decide)) fa_128 (by decide)) fa_176 (by decide)) fa_192 (by decide)) fa_220 (by decide)) fa_235 (by decide)) fa_262 (by decide)) fa_278 (by decide)), (show (fv_352 2).toInt = 0 from by rw [show fv_352 2 = (fv_5 2) from (congrFun efv_352 2).trans ((fr_234 2 rfl).trans ((fr_218 2 rfl).trans ((fr_47 2 rfl).trans ((fr_33 2 rfl)))))]; omega), (mF_fr hp_279 (fM_put (fM_rf [95] _) efv_352 (by decide)) (fA_rf [] _) rfl rfl), trivial⟩, ⟨by rw [ht]; exact hP, va_K.moved hW.alike hK⟩⟩, hS.F ht⟩) hS.2.2 dX12_seated_614
                                                                · skip
                                                                  exact absurd True.intro (by have h7 := i_348; have h8 := (⟨by decide, by decide⟩ : (0 : Int) ≤ (0 : Int32).toInt ∧ (0 : Int32).toInt ≤ 0); have h9 : ¬ _ := fun q => c_350 (Int32.toInt_inj.mp q); exfalso; omega)
                                                            · skip
                                                              refine lv_if_lt (tgt := 528) hx hb dX12_seated_521 (by decide) (fun c_316 => ?_) (fun c_316 => ?_)
                                                              · skip
                                                                have i_317 : (-1) ≤ x_276.toInt ∧ x_276.toInt ≤ (-1) := iv_lt1 i_x_276 (⟨by decide, by decide⟩ : (0 : Int) ≤ (0 : Int32).toInt ∧ (0 : Int32).toInt ≤ 0) c_316
                                                                refine lv_iconst (v := 0) hx hb dX12_seated_528 (by decide) ?_
                                                                have z_353 : (0 : Int32).toInt = 0 := by decide
                                                                exact hj_321 0 _ _ ls (iv_w (⟨by decide, by decide⟩ : (0 : Int) ≤ (0 : Int32).toInt ∧ (0 : Int32).toInt ≤ 0) (by decide) (by decide)) (by omega) hP hS (lv_sub hl [0, 1, 2, 3, 4] rfl)
                                                              · skip
                                                                have i_318 : 0 ≤ x_276.toInt ∧ x_276.toInt ≤ 4 := iv_le2 (⟨by decide, by decide⟩ : (0 : Int) ≤ (0 : Int32).toInt ∧ (0 : Int32).toInt ≤ 0) i_x_276 (Int32.not_lt.mp c_316)
                                                                refine lv_iconst (v := 1) hx hb dX12_seated_524 (by decide) ?_
                                                                refine lv_goto (tgt := 529) hx hb dX12_seated_525 (by decide) ?_
                                                                have z_354 : (1 : Int32).toInt = 1 := by decide
                                                                exact hj_321 1 _ _ ls (iv_w (⟨by decide, by decide⟩ : (1 : Int) ≤ (1 : Int32).toInt ∧ (1 : Int32).toInt ≤ 1) (by decide) (by decide)) (by omega) hP hS (lv_sub hl [0, 1, 2, 3, 4] rfl)
                                                          · skip
                                                            refine lv_if_lt (tgt := 519) hx hb dX12_seated_439 (by decide) (fun c_287 => ?_) (fun c_287 => ?_)
                                                            · skip
                                                              have i_288 : (-1) ≤ x_276.toInt ∧ x_276.toInt ≤ (-1) := iv_lt1 i_x_276 (⟨by decide, by decide⟩ : (0 : Int) ≤ (0 : Int32).toInt ∧ (0 : Int32).toInt ≤ 0) c_287
                                                              exact hj_315  _ _ ls (by omega) hP hS (lv_sub hl [0, 1, 2, 3, 4] rfl)
                                                            · skip
                                                              have i_289 : 0 ≤ x_276.toInt ∧ x_276.toInt ≤ 4 := iv_le2 (⟨by decide, by decide⟩ : (0 : Int) ≤ (0 : Int32).toInt ∧ (0 : Int32).toInt ≤ 0) i_x_276 (Int32.not_lt.mp c_287)
                                                              refine lv_aload_n hx hb dX12_seated_442 rfl (lv_at hl 0 rfl) ?_
                                                              refine gM_91 hx hb htg hown hK hP dX12_seated_443 ?_
                                                              refine lv_iload hx hb dX12_seated_446 (lv_at hl 4 rfl) ?_
                                                              refine lM_91 hx hb hK hP (iv_in i_289 (by decide) (by decide)) dX12_seated_448 (fun v_290 ev_290 => ?_)
                                                              have i_291 : 0 ≤ v_290.toInt ∧ v_290.toInt ≤ 7 := ev_290 ▸ hA_ar_277 91 _
                                                              refine lv_aload_n hx hb dX12_seated_449 rfl (lv_at hl 0 rfl) ?_
                                                              refine gM_33 hx hb htg hown hK hP dX12_seated_450 ?_
                                                              refine my_ti (y := fv 33) ((fr_234 33 rfl).trans ((fr_218 33 rfl).trans ((fr_47 33 rfl).trans ((fr_33 33 rfl).trans ((fr_8 33 rfl).trans ((congrFun efv_1 33))))))) ?_
                                                              refine lv_iconst (v := 1) hx hb dX12_seated_453 (by decide) ?_
                                                              refine lv_isub hx hb dX12_seated_454 ?_
                                                              refine lv_topi (fun v_292 ev_292 => ?_)
                                                              have t_293 : v_292.toInt = (fv 33).toInt - 1 ∧ 0 ≤ v_292.toInt ∧ v_292.toInt ≤ 7 := iv_subc ev_292 i_28 (by decide) (by decide) (by decide)
                                                              refine lv_icmp_ne (tgt := 519) hx hb dX12_seated_455 (by decide) (fun c_295 => ?_) (fun c_295 => ?_)
                                                              · skip
                                                                have k_296 : ¬ v_290.toInt = v_292.toInt := fun q => c_295 (Int32.toInt_inj.mp q)
                                                                exact hj_315  _ _ ls (Or.inr (by show (ar_277 91 (Int32.toNatClampNeg x_276)).toInt ≤ _; rw [← ev_290]; have h9 := q_282 (x_276.toInt.toNat) (by omega); have h8 : (ar_277 91 x_276.toInt.toNat).toInt = v_290.toInt := congrArg Int32.toInt ev_290.symm; omega)) hP hS (lv_sub hl [0, 1, 2, 3, 4] rfl)
                                                              · skip
                                                                have k_297 := congrArg Int32.toInt c_295
                                                                refine lv_aload_n hx hb dX12_seated_458 rfl (lv_at hl 0 rfl) ?_
                                                                refine gM_93 hx hb htg hown hK hP dX12_seated_459 ?_
                                                                refine lv_aload_n hx hb dX12_seated_462 rfl (lv_at hl 0 rfl) ?_
                                                                refine gM_33 hx hb htg hown hK hP dX12_seated_463 ?_
                                                                refine my_ti (y := fv 33) ((fr_234 33 rfl).trans ((fr_218 33 rfl).trans ((fr_47 33 rfl).trans ((fr_33 33 rfl).trans ((fr_8 33 rfl).trans ((congrFun efv_1 33))))))) ?_
                                                                refine lv_iconst (v := 1) hx hb dX12_seated_466 (by decide) ?_
                                                                refine lv_isub hx hb dX12_seated_467 ?_
                                                                refine my_ti (y := v_292) ev_292.symm ?_
                                                                refine lv_dup2_11 hx hb dX12_seated_468 rfl rfl ?_
                                                                refine lM_93 hx hb hK hP (iv_in t_293.2 (by decide) (by decide)) dX12_seated_469 (fun v_298 ev_298 => ?_)
                                                                refine lv_aload_n hx hb dX12_seated_470 rfl (lv_at hl 0 rfl) ?_
                                                                refine gM_22 hx hb htg hown hK hP dX12_seated_471 ?_
                                                                refine lv_aload_n hx hb dX12_seated_474 rfl (lv_at hl 0 rfl) ?_
                                                                refine gM_1 hx hb htg hown hK hP dX12_seated_475 ?_
                                                                refine lv_iload hx hb dX12_seated_478 (lv_at hl 4 rfl) ?_
                                                                refine lM_1 hx hb hK hP (iv_in i_289 (by decide) (by decide)) dX12_seated_480 (fun v_299 ev_299 => ?_)
                                                                have i_300 : 0 ≤ v_299.toInt ∧ v_299.toInt ≤ 255 := ev_299 ▸ hA_ar_277 1 _
                                                                have i_301 : 0 ≤ v_299.toInt ∧ v_299.toInt ≤ 19 := ⟨(i_300).1, by rw [ev_299, ((fA_call (fA_call (fA_call (fA_call (fA_call (fA_call (fA_call (fA_call (fA_call (fA_call (fA_rf [4, 90, 91, 92, 93, 94] _) fa_9 (by decide)) fa_35 (by decide)) fa_49 (by decide)) fa_128 (by decide)) fa_176 (by decide)) fa_192 (by decide)) fa_220 (by decide)) fa_235 (by decide)) fa_262 (by decide)) fa_278 (by decide)) 1 rfl)]; exact hT _ (by show ((x_276.toInt.toNat : Nat) : Int) < _; omega)⟩
                                                                refine lM_22 hx hb hK hP (iv_in i_301 (by decide) (by decide)) dX12_seated_481 (fun v_302 ev_302 => ?_)
                                                                refine lv_isub hx hb dX12_seated_482 ?_
                                                                refine lv_topi (fun v_303 ev_303 => ?_)
                                                                refine sM_93 hx hb hK hP hS hd (iv_in t_293.2 (by decide) (by decide)) dX12_seated_483 (fun H locs ar_304 ear_304 hP hS => ?_)
                                                                have hA_ar_304 : rA ar_304 := rA_put hA_ar_277 ear_304 (iv_any _)
                                                                refine lv_aload_n hx hb dX12_seated_484 rfl (lv_at hl 0 rfl) ?_
                                                                refine gM_91 hx hb htg hown hK hP dX12_seated_485 ?_
                                                                refine lv_iload hx hb dX12_seated_488 (lv_at hl 4 rfl) ?_
                                                                refine lv_iconst (v := 0) hx hb dX12_seated_490 (by decide) ?_
                                                                refine sM_91 hx hb hK hP hS hd (iv_in i_289 (by decide) (by decide)) dX12_seated_491 (fun H locs ar_305 ear_305 hP hS => ?_)
                                                                have hA_ar_305 : rA ar_305 := rA_put hA_ar_304 ear_305 (iv_w (⟨by decide, by decide⟩ : (0 : Int) ≤ (0 : Int32).toInt ∧ (0 : Int32).toInt ≤ 0) (by decide) (by decide))
                                                                refine lv_aload_n hx hb dX12_seated_492 rfl (lv_at hl 0 rfl) ?_
                                                                refine gM_93 hx hb htg hown hK hP dX12_seated_493 ?_
                                                                refine lv_iconst (v := 0) hx hb dX12_seated_496 (by decide) ?_
                                                                refine lv_dup2_11 hx hb dX12_seated_497 rfl rfl ?_
                                                                refine lM_93 hx hb hK hP (iv_in (⟨by decide, by decide⟩ : (0 : Int) ≤ (0 : Int32).toInt ∧ (0 : Int32).toInt ≤ 0) (by decide) (by decide)) dX12_seated_498 (fun v_306 ev_306 => ?_)
                                                                refine lv_aload_n hx hb dX12_seated_499 rfl (lv_at hl 0 rfl) ?_
                                                                refine gM_22 hx hb htg hown hK hP dX12_seated_500 ?_
                                                                refine lv_aload_n hx hb dX12_seated_503 rfl (lv_at hl 0 rfl) ?_
                                                                refine gM_1 hx hb htg hown hK hP dX12_seated_504 ?_
                                                                refine lv_iload hx hb dX12_seated_507 (lv_at hl 4 rfl) ?_
                                                                refine lM_1 hx hb hK hP (iv_in i_289 (by decide) (by decide)) dX12_seated_509 (fun v_307 ev_307 => ?_)
                                                                obtain rfl : v_299 = v_307 := ev_299.trans ((congrFun ((fA_put (fA_put (fA_rf [91, 93] _) ear_304 (by decide)) ear_305 (by decide)) 1 rfl) _).symm.trans ev_307.symm)
                                                                refine lM_22 hx hb hK hP (iv_in i_301 (by decide) (by decide)) dX12_seated_510 (fun v_308 ev_308 => ?_)
                                                                obtain rfl : v_302 = v_308 := ev_302.trans ((congrFun ((fA_put (fA_put (fA_rf [91, 93] _) ear_304 (by decide)) ear_305 (by decide)) 22 rfl) _).symm.trans ev_308.symm)
                                                                refine lv_iadd hx hb dX12_seated_511 ?_
                                                                refine lv_topi (fun v_309 ev_309 => ?_)
                                                                refine sM_93 hx hb hK hP hS hd (iv_in (⟨by decide, by decide⟩ : (0 : Int) ≤ (0 : Int32).toInt ∧ (0 : Int32).toInt ≤ 0) (by decide) (by decide)) dX12_seated_512 (fun H locs ar_310 ear_310 hP hS => ?_)
                                                                have hA_ar_310 : rA ar_310 := rA_put hA_ar_305 ear_310 (iv_any _)
                                                                have g91 : ar_310 91 = upd (ar_277 91) (x_276.toInt.toNat) (0 : Int32) := by rw [((fA_put (fA_rf [93] _) ear_310 (by decide)) 91 rfl), ear_305]; show upd (ar_304 91) (x_276.toInt.toNat) _ = _; rw [((fA_put (fA_rf [93] _) ear_304 (by decide)) 91 rfl)]
                                                                have y9 := V8_z (k := x_276.toInt) (x := (0 : Int32)) (fun i => hA_ar_277 91 i) (by omega) g91 (by decide)
                                                                have y8 := w8_s (k := x_276.toInt) (by omega)
                                                                have pz8 := pS_up (x := (0 : Int32)) q_282 g91 (by show (0 : Int) ≤ _; omega)
                                                                obtain ⟨v_311, ev_311⟩ : ∃ z : Int32, z = x_276 + (-1) := ⟨_, rfl⟩
                                                                refine lv_iinc (v := v_311) (lv' := [(8, .int v_311), (0, .ref h), (2, .int r_2), (4, .int v_214), (5, .int x_260)]) hx hb dX12_seated_513 hl (k := 4) rfl (by rw [ev_311]; rfl) (by decide) rfl (fun ls hl => ?_)
                                                                have t_312 : v_311.toInt = x_276.toInt + (-1) ∧ (-1) ≤ v_311.toInt ∧ v_311.toInt ≤ 3 := iv_addc ev_311 i_289 (by decide) (by decide) (by decide)
                                                                have y7 : w8 v_311.toInt = w8 (x_276.toInt - 1) := by congr 1; omega
                                                                refine lv_goto (tgt := 437) hx hb dX12_seated_516 (by decide) ?_
                                                                exact ih_283 v_311 ar_310 _ _ ls (by omega) (iv_w t_312.2 (by decide) (by decide)) hA_ar_310 (fA_put (fA_put (fA_put (fA_call (fA_rf [91, 93] _) fa_278 (by decide)) ear_304 (by decide)) ear_305 (by decide)) ear_310 (by decide)) (mF_fr hp_279 (fM_rf [] _) (fA_put (fA_put (fA_put (fA_rf [91, 93] _) ear_304 (by decide)) ear_305 (by decide)) ear_310 (by decide)) rfl rfl) (by omega) (by omega) pz8 hP hS (lv_sub hl [1, 2, 3, 4, 0] rfl)
                                                      · skip
                                                        exact hj_285 6 v_273 ar_261 _ _ ls (by omega) (iv_w t_274.2 (by decide) (by decide)) hA_ar_261 (fA_rf [91, 93] _) hp_263 (by omega) (by have h9 := w8_p (k := v_273.toInt) (by omega); rw [((fA_call (fA_call (fA_rf [92] _) fa_235 (by decide)) fa_262 (by decide)) 91 rfl)]; omega) (fun j hj => by rw [((fA_call (fA_call (fA_rf [92] _) fa_235 (by decide)) fa_262 (by decide)) 91 rfl)]; exact q_223 j hj) hP hS (lv_sub hl [1, 2, 3, 4, 0] rfl)
                                                    · skip
                                                      have i_355 : (-1) ≤ v_214.toInt ∧ v_214.toInt ≤ 2147483647 := iv_eq1 i_x_260 c_271.symm
                                                      have k_356 := congrArg Int32.toInt c_271
                                                      refine lv_goto (tgt := 607) hx hb dX12_seated_429 (by decide) ?_
                                                      refine lv_aload_n hx hb dX12_seated_607 rfl (lv_at hl 0 rfl) ?_
                                                      refine lv_iload_n hx hb dX12_seated_608 rfl (lv_at hl 1 rfl) ?_
                                                      refine pM_95 hx hb htg hown hK hP hS hd dX12_seated_609 (fun H locs fv_357 efv_357 hP hS => ?_)
                                                      have hF_fv_357 : rF fv_357 := rF_put hF_fv_231 efv_357 (iv_w i_16 (by decide) (by decide))
                                                      refine lv_iload hx hb dX12_seated_612 (lv_at hl 3 rfl) ?_
                                                      exact W.iret (v := x_260) hx hb hr (fun t ht hW => ⟨⟨x_260, (fv_357, wd_232, ar_261), rfl, ⟨hF_fv_357, hA_ar_261, (fM_put (fM_call (fM_call (fM_call (fM_call (fM_call (fM_put (fM_rf [0, 2, 8, 95] _) efv_1 (by decide)) fr_8 (by decide)) fr_33 (by decide)) fr_47 (by decide)) fr_218 (by decide)) fr_234 (by decide)) efv_357 (by decide)), (fA_call (fA_call (fA_call (fA_call (fA_call (fA_call (fA_call (fA_call (fA_call (fA_rf [4, 90, 91, 92, 93, 94] _) fa_9 (by decide)) fa_35 (by decide)) fa_49 (by decide)) fa_128 (by decide)) fa_176 (by decide)) fa_192 (by decide)) fa_220 (by decide)) fa_235 (by decide)) fa_262 (by decide)), (show (fv_357 2).toInt = 0 from by rw [show fv_357 2 = (fv_5 2) from (congrFun efv_357 2).trans ((fr_234 2 rfl).trans ((fr_218 2 rfl).trans ((fr_47 2 rfl).trans ((fr_33 2 rfl)))))]; omega), (mF_fr hp_263 (fM_put (fM_rf [95] _) efv_357 (by decide)) (fA_rf [] _) rfl rfl), trivial⟩, ⟨by rw [ht]; exact hP, va_K.moved hW.alike hK⟩⟩, hS.F ht⟩) hS.2.2 dX12_seated_614
                                                · skip
                                                  refine lv_icmp_le (tgt := 411) hx hb dX12_seated_375 (by decide) (fun c_236 => ?_) (fun c_236 => ?_)
                                                  · skip
                                                    have k_237 := Int32.le_iff_toInt_le.mp c_236
                                                    exact hj_264 x_215 ar_233 _ _ ls i_x_215 hA_ar_233 (fA_rf [92] _) (mF_fr hp_222 (fM_call (fM_rf [] _) fr_234 (by decide)) (fA_call (fA_rf [] _) fa_235 (by decide)) rfl rfl) hP hS (lv_sub hl [1, 2, 3, 4] rfl)
                                                  · skip
                                                    have i_238 : (-1) ≤ x_215.toInt ∧ x_215.toInt ≤ 2147483646 := iv_lt1 i_x_215 (iv_any r_230) (Int32.not_le.mp c_236)
                                                    have i_239 : 0 ≤ r_230.toInt ∧ r_230.toInt ≤ 2147483647 := iv_lt2 i_x_215 (iv_any r_230) (Int32.not_le.mp c_236)
                                                    have k_240 := Int32.lt_iff_toInt_lt.mp (Int32.not_le.mp c_236)
                                                    refine lv_iload hx hb dX12_seated_378 (lv_at hl 0 rfl) ?_
                                                    refine lv_istore (lv' := [(5, .int r_230), (7, .int r_230), (0, .ref h), (2, .int r_2), (4, .int v_214), (6, .int x_216)]) hx hb dX12_seated_380 hl (by decide) rfl (fun ls hl => ?_)
                                                    refine lv_iconst (v := 0) hx hb dX12_seated_382 (by decide) ?_
                                                    refine lv_istore (lv' := [(8, .int 0), (5, .int r_230), (7, .int r_230), (0, .ref h), (2, .int r_2), (4, .int v_214), (6, .int x_216)]) hx hb dX12_seated_383 hl (by decide) rfl (fun ls hl => ?_)
                                                    refine my_cut (P := fun R9 a9 Q9 => ∀ (n_245 : Nat) (x_241 : Int32) (ar_242 : Nat → Nat → Int32) (H : Heap) (locs : List Loc) (ls : Array Slot), 5 - x_241.toInt < (n_245 : Int) → (0 ≤ x_241.toInt ∧ x_241.toInt ≤ 5) → rA ar_242 → fA [92] ar_233 ar_242 → wt_fm G9 (fv_231 8) (ar_242 4) → va_P (dC, dI) vwCl (wsM h ad cA fv_231 wd_232 ar_242) H → va_S (aM h ad s.heap.size) s.heap H locs → lv_has ls 9 [(0, .ref h), (2, .int r_2), (4, .int v_214), (5, .int r_230), (8, .int x_241)] → W p l e R9 s m a9 below meth c H locs 0 0 Q9 (F0 m 385 ls [])) ?_ (fun hj_247 => ?_)
                                                    · intro n_245
                                                      induction n_245 with
                                                      | zero => intro x_241 ar_242 H locs ls fu_246 i_x_241 hA_ar_242 fa_243 hp_244; exfalso; omega
                                                      | succ n_245 ih_245 =>
                                                        intro x_241 ar_242 H locs ls fu_246 i_x_241 hA_ar_242 fa_243 hp_244 hP hS hl
                                                        refine lv_iload hx hb dX12_seated_385 (lv_at hl 4 rfl) ?_
                                                        refine lv_iload_n hx hb dX12_seated_387 rfl (lv_at hl 1 rfl) ?_
                                                        refine lv_icmp_ge (tgt := 411) hx hb dX12_seated_388 (by decide) (fun c_248 => ?_) (fun c_248 => ?_)
                                                        · skip
                                                          have i_249 : 1 ≤ x_241.toInt ∧ x_241.toInt ≤ 5 := iv_le2 i_16 i_x_241 c_248
                                                          have k_250 := Int32.le_iff_toInt_le.mp c_248
                                                          exact hj_264 r_230 ar_242 _ _ ls (iv_w i_239 (by decide) (by decide)) hA_ar_242 (fA_call (fA_rf [92] _) fa_243 (by decide)) hp_244 hP hS (lv_sub hl [0, 1, 2, 3] rfl)
                                                        · skip
                                                          have i_251 : 0 ≤ x_241.toInt ∧ x_241.toInt ≤ 4 := iv_lt1 i_x_241 i_16 (Int32.not_le.mp c_248)
                                                          have k_252 := Int32.lt_iff_toInt_lt.mp (Int32.not_le.mp c_248)
                                                          refine lv_aload_n hx hb dX12_seated_391 rfl (lv_at hl 0 rfl) ?_
                                                          refine gM_92 hx hb htg hown hK hP dX12_seated_392 ?_
                                                          refine lv_iload hx hb dX12_seated_395 (lv_at hl 4 rfl) ?_
                                                          refine lv_aload_n hx hb dX12_seated_397 rfl (lv_at hl 0 rfl) ?_
                                                          refine gM_91 hx hb htg hown hK hP dX12_seated_398 ?_
                                                          refine lv_iload hx hb dX12_seated_401 (lv_at hl 4 rfl) ?_
                                                          refine lM_91 hx hb hK hP (iv_in i_251 (by decide) (by decide)) dX12_seated_403 (fun v_253 ev_253 => ?_)
                                                          have i_254 : 0 ≤ v_253.toInt ∧ v_253.toInt ≤ 7 := ev_253 ▸ hA_ar_242 91 _
                                                          refine sM_92 hx hb hK hP hS hd (iv_in i_251 (by decide) (by decide)) dX12_seated_404 (fun H locs ar_255 ear_255 hP hS => ?_)
                                                          have hA_ar_255 : rA ar_255 := rA_put hA_ar_242 ear_255 (iv_any _)
                                                          obtain ⟨v_256, ev_256⟩ : ∃ z : Int32, z = x_241 + 1 := ⟨_, rfl⟩
                                                          refine lv_iinc (v := v_256) (lv' := [(8, .int v_256), (0, .ref h), (2, .int r_2), (4, .int v_214), (5, .int r_230)]) hx hb dX12_seated_405 hl (k := 4) rfl (by rw [ev_256]; rfl) (by decide) rfl (fun ls hl => ?_)
                                                          have t_257 : v_256.toInt = x_241.toInt + 1 ∧ 1 ≤ v_256.toInt ∧ v_256.toInt ≤ 5 := iv_addc ev_256 i_251 (by decide) (by decide) (by decide)
                                                          refine lv_goto (tgt := 385) hx hb dX12_seated_408 (by decide) ?_
                                                          exact ih_245 v_256 ar_255 _ _ ls (by omega) (iv_w t_257.2 (by decide) (by decide)) hA_ar_255 (fA_put (fA_call (fA_rf [92] _) fa_243 (by decide)) ear_255 (by decide)) (mF_fr hp_244 (fM_rf [] _) (fA_put (fA_rf [92] _) ear_255 (by decide)) rfl rfl) hP hS (lv_sub hl [1, 2, 3, 4, 0] rfl)
                                                    · skip
                                                      have z_259 : (0 : Int32).toInt = 0 := by decide
                                                      exact hj_247 6 0 ar_233 _ _ ls (by first | decide | omega) (iv_w (⟨by decide, by decide⟩ : (0 : Int) ≤ (0 : Int32).toInt ∧ (0 : Int32).toInt ≤ 0) (by decide) (by decide)) hA_ar_233 (fA_rf [92] _) (mF_fr hp_222 (fM_call (fM_rf [] _) fr_234 (by decide)) (fA_call (fA_rf [] _) fa_235 (by decide)) rfl rfl) hP hS (lv_sub hl [3, 4, 5, 1, 0] rfl)
                                          · skip
                                            have z_358 : ((-1) : Int32).toInt = (-1) := by decide
                                            have z_359 : (1 : Int32).toInt = 1 := by decide
                                            exact hj_227 32768 (-1) 1 fv_46 ar_191 wd_50 _ _ ls (by first | decide | omega) (iv_w (⟨by decide, by decide⟩ : (-1 : Int) ≤ ((-1) : Int32).toInt ∧ ((-1) : Int32).toInt ≤ -1) (by decide) (by decide)) (⟨by decide, by decide⟩ : (1 : Int) ≤ (1 : Int32).toInt ∧ (1 : Int32).toInt ≤ 1) hF_fv_46 (fM_rf [] _) hA_ar_191 (fA_rf [91, 92, 93] _) hp_193 (fun j hj => by exact q_194 j (by omega)) (V8_b (fun i => hA_ar_191 91 i)) hP hS (lv_sub hl [3, 4, 2, 1, 0] rfl)
                                        · skip
                                          have i_201 : 0 ≤ x_190.toInt ∧ x_190.toInt ≤ 4 := iv_lt1 i_x_190 i_16 (Int32.not_le.mp c_198)
                                          have k_202 := Int32.lt_iff_toInt_lt.mp (Int32.not_le.mp c_198)
                                          refine lv_aload_n hx hb dX12_seated_311 rfl (lv_at hl 0 rfl) ?_
                                          refine gM_91 hx hb htg hown hK hP dX12_seated_312 ?_
                                          refine lv_iload hx hb dX12_seated_315 (lv_at hl 2 rfl) ?_
                                          refine lv_iconst (v := 0) hx hb dX12_seated_317 (by decide) ?_
                                          refine sM_91 hx hb hK hP hS hd (iv_in i_201 (by decide) (by decide)) dX12_seated_318 (fun H locs ar_203 ear_203 hP hS => ?_)
                                          have hA_ar_203 : rA ar_203 := rA_put hA_ar_191 ear_203 (iv_w (⟨by decide, by decide⟩ : (0 : Int) ≤ (0 : Int32).toInt ∧ (0 : Int32).toInt ≤ 0) (by decide) (by decide))
                                          refine lv_aload_n hx hb dX12_seated_319 rfl (lv_at hl 0 rfl) ?_
                                          refine gM_93 hx hb htg hown hK hP dX12_seated_320 ?_
                                          refine lv_iconst (v := 0) hx hb dX12_seated_323 (by decide) ?_
                                          refine lv_dup2_11 hx hb dX12_seated_324 rfl rfl ?_
                                          refine lM_93 hx hb hK hP (iv_in (⟨by decide, by decide⟩ : (0 : Int) ≤ (0 : Int32).toInt ∧ (0 : Int32).toInt ≤ 0) (by decide) (by decide)) dX12_seated_325 (fun v_204 ev_204 => ?_)
                                          refine lv_aload_n hx hb dX12_seated_326 rfl (lv_at hl 0 rfl) ?_
                                          refine gM_22 hx hb htg hown hK hP dX12_seated_327 ?_
                                          refine lv_aload_n hx hb dX12_seated_330 rfl (lv_at hl 0 rfl) ?_
                                          refine gM_1 hx hb htg hown hK hP dX12_seated_331 ?_
                                          refine lv_iload hx hb dX12_seated_334 (lv_at hl 2 rfl) ?_
                                          refine lM_1 hx hb hK hP (iv_in i_201 (by decide) (by decide)) dX12_seated_336 (fun v_205 ev_205 => ?_)
                                          have i_206 : 0 ≤ v_205.toInt ∧ v_205.toInt ≤ 255 := ev_205 ▸ hA_ar_203 1 _
                                          have i_207 : 0 ≤ v_205.toInt ∧ v_205.toInt ≤ 19 := ⟨(i_206).1, by rw [ev_205, ((fA_put (fA_call (fA_call (fA_call (fA_call (fA_call (fA_call (fA_rf [4, 90, 91, 93, 94] _) fa_9 (by decide)) fa_35 (by decide)) fa_49 (by decide)) fa_128 (by decide)) fa_176 (by decide)) fa_192 (by decide)) ear_203 (by decide)) 1 rfl)]; exact hT _ (by show ((x_190.toInt.toNat : Nat) : Int) < _; omega)⟩
                                          refine lM_22 hx hb hK hP (iv_in i_207 (by decide) (by decide)) dX12_seated_337 (fun v_208 ev_208 => ?_)
                                          refine lv_iadd hx hb dX12_seated_338 ?_
                                          refine lv_topi (fun v_209 ev_209 => ?_)
                                          refine sM_93 hx hb hK hP hS hd (iv_in (⟨by decide, by decide⟩ : (0 : Int) ≤ (0 : Int32).toInt ∧ (0 : Int32).toInt ≤ 0) (by decide) (by decide)) dX12_seated_339 (fun H locs ar_210 ear_210 hP hS => ?_)
                                          have hA_ar_210 : rA ar_210 := rA_put hA_ar_203 ear_210 (iv_any _)
                                          obtain ⟨v_211, ev_211⟩ : ∃ z : Int32, z = x_190 + 1 := ⟨_, rfl⟩
                                          refine lv_iinc (v := v_211) (lv' := [(4, .int v_211), (0, .ref h), (2, .int r_2)]) hx hb dX12_seated_340 hl (k := 2) rfl (by rw [ev_211]; rfl) (by decide) rfl (fun ls hl => ?_)
                                          have t_212 : v_211.toInt = x_190.toInt + 1 ∧ 1 ≤ v_211.toInt ∧ v_211.toInt ≤ 5 := iv_addc ev_211 i_201 (by decide) (by decide) (by decide)
                                          refine lv_goto (tgt := 305) hx hb dX12_seated_343 (by decide) ?_
                                          exact ih_195 v_211 ar_210 _ _ ls (by omega) (iv_w t_212.2 (by decide) (by decide)) hA_ar_210 (fA_put (fA_put (fA_call (fA_rf [91, 93] _) fa_192 (by decide)) ear_203 (by decide)) ear_210 (by decide)) (mF_fr hp_193 (fM_rf [] _) (fA_put (fA_put (fA_rf [91, 93] _) ear_203 (by decide)) ear_210 (by decide)) rfl rfl) (pS_ad (x := (0 : Int32)) (i := x_190.toInt.toNat) q_194 (show ar_210 91 = upd (ar_191 91) (x_190.toInt.toNat) (0 : Int32) from by rw [((fA_put (fA_rf [93] _) ear_210 (by decide)) 91 rfl), ear_203]; rfl) (by omega) (by omega) (by show (0 : Int) ≤ _; omega)) hP hS (lv_sub hl [1, 2, 0] rfl)
                                    · skip
                                      have z_360 : (0 : Int32).toInt = 0 := by decide
                                      exact hj_197 6 0 ar_175 _ _ ls (by first | decide | omega) (iv_w (⟨by decide, by decide⟩ : (0 : Int) ≤ (0 : Int32).toInt ∧ (0 : Int32).toInt ≤ 0) (by decide) (by decide)) hA_ar_175 (fA_rf [91, 93] _) hp_177 (fun j hj => absurd hj (by omega)) hP hS (lv_sub hl [1, 2, 0] rfl)
                                  · skip
                                    have i_184 : 0 ≤ x_174.toInt ∧ x_174.toInt ≤ 7 := iv_lt1 i_x_174 i_28 (Int32.not_le.mp c_181)
                                    have k_185 := Int32.lt_iff_toInt_lt.mp (Int32.not_le.mp c_181)
                                    refine lv_aload_n hx hb dX12_seated_288 rfl (lv_at hl 0 rfl) ?_
                                    refine gM_93 hx hb htg hown hK hP dX12_seated_289 ?_
                                    refine lv_iload hx hb dX12_seated_292 (lv_at hl 2 rfl) ?_
                                    refine lv_iconst (v := 0) hx hb dX12_seated_294 (by decide) ?_
                                    refine sM_93 hx hb hK hP hS hd (iv_in i_184 (by decide) (by decide)) dX12_seated_295 (fun H locs ar_186 ear_186 hP hS => ?_)
                                    have hA_ar_186 : rA ar_186 := rA_put hA_ar_175 ear_186 (iv_any _)
                                    obtain ⟨v_187, ev_187⟩ : ∃ z : Int32, z = x_174 + 1 := ⟨_, rfl⟩
                                    refine lv_iinc (v := v_187) (lv' := [(4, .int v_187), (0, .ref h), (2, .int r_2)]) hx hb dX12_seated_296 hl (k := 2) rfl (by rw [ev_187]; rfl) (by decide) rfl (fun ls hl => ?_)
                                    have t_188 : v_187.toInt = x_174.toInt + 1 ∧ 1 ≤ v_187.toInt ∧ v_187.toInt ≤ 8 := iv_addc ev_187 i_184 (by decide) (by decide) (by decide)
                                    refine lv_goto (tgt := 279) hx hb dX12_seated_299 (by decide) ?_
                                    exact ih_178 v_187 ar_186 _ _ ls (by omega) (iv_w t_188.2 (by decide) (by decide)) hA_ar_186 (fA_put (fA_call (fA_rf [93] _) fa_176 (by decide)) ear_186 (by decide)) (mF_fr hp_177 (fM_rf [] _) (fA_put (fA_rf [93] _) ear_186 (by decide)) rfl rfl) hP hS (lv_sub hl [1, 2, 0] rfl)
                              · skip
                                have z_361 : (0 : Int32).toInt = 0 := by decide
                                exact hj_180 9 0 ar_127 _ _ ls (by first | decide | omega) (iv_w (⟨by decide, by decide⟩ : (0 : Int) ≤ (0 : Int32).toInt ∧ (0 : Int32).toInt ≤ 0) (by decide) (by decide)) hA_ar_127 (fA_rf [93] _) hp_129 hP hS (lv_sub hl [1, 2, 0] rfl)
                            · skip
                              have i_138 : 0 ≤ x_126.toInt ∧ x_126.toInt ≤ 255 := iv_lt1 i_x_126 i_134 (Int32.not_le.mp c_135)
                              have k_139 := Int32.lt_iff_toInt_lt.mp (Int32.not_le.mp c_135)
                              refine lv_aload_n hx hb dX12_seated_218 rfl (lv_at hl 0 rfl) ?_
                              refine gM_94 hx hb htg hown hK hP dX12_seated_219 ?_
                              refine lv_iload hx hb dX12_seated_222 (lv_at hl 2 rfl) ?_
                              refine lv_iconst (v := 0) hx hb dX12_seated_224 (by decide) ?_
                              refine sM_94 hx hb hK hP hS hd (iv_in i_138 (by decide) (by decide)) dX12_seated_225 (fun H locs ar_140 ear_140 hP hS => ?_)
                              have hA_ar_140 : rA ar_140 := rA_put hA_ar_127 ear_140 (iv_any _)
                              refine lv_iconst (v := 0) hx hb dX12_seated_226 (by decide) ?_
                              refine lv_istore (lv' := [(5, .int 0), (0, .ref h), (2, .int r_2), (4, .int x_126)]) hx hb dX12_seated_227 hl (by decide) rfl (fun ls hl => ?_)
                              refine my_cut (P := fun R9 a9 Q9 => ∀ (n_145 : Nat) (x_141 : Int32) (ar_142 : Nat → Nat → Int32) (H : Heap) (locs : List Loc) (ls : Array Slot), 40 - x_141.toInt < (n_145 : Int) → (0 ≤ x_141.toInt ∧ x_141.toInt ≤ 40) → rA ar_142 → fA [94] ar_140 ar_142 → wt_fm G9 (fv_46 8) (ar_142 4) → va_P (dC, dI) vwCl (wsM h ad cA fv_46 wd_50 ar_142) H → va_S (aM h ad s.heap.size) s.heap H locs → lv_has ls 9 [(0, .ref h), (2, .int r_2), (4, .int x_126), (5, .int x_141)] → W p l e R9 s m a9 below meth c H locs 0 0 Q9 (F0 m 229 ls [])) ?_ (fun hj_147 => ?_)
                              · intro n_145
                                induction n_145 with
                                | zero => intro x_141 ar_142 H locs ls fu_146 i_x_141 hA_ar_142 fa_143 hp_144; exfalso; omega
                                | succ n_145 ih_145 =>
                                  intro x_141 ar_142 H locs ls fu_146 i_x_141 hA_ar_142 fa_143 hp_144 hP hS hl
                                  refine lv_iload hx hb dX12_seated_229 (lv_at hl 3 rfl) ?_
                                  refine lv_aload_n hx hb dX12_seated_231 rfl (lv_at hl 0 rfl) ?_
                                  refine gM_32 hx hb htg hown hK hP dX12_seated_232 ?_
                                  refine my_ti (y := fv 32) ((fr_47 32 rfl).trans ((fr_33 32 rfl).trans ((fr_8 32 rfl).trans ((congrFun efv_1 32))))) ?_
                                  refine lv_icmp_ge (tgt := 270) hx hb dX12_seated_235 (by decide) (fun c_148 => ?_) (fun c_148 => ?_)
                                  · skip
                                    have k_149 := Int32.le_iff_toInt_le.mp c_148
                                    obtain ⟨v_170, ev_170⟩ : ∃ z : Int32, z = x_126 + 1 := ⟨_, rfl⟩
                                    refine lv_iinc (v := v_170) (lv' := [(4, .int v_170), (0, .ref h), (2, .int r_2), (5, .int x_141)]) hx hb dX12_seated_270 hl (k := 2) rfl (by rw [ev_170]; rfl) (by decide) rfl (fun ls hl => ?_)
                                    have t_171 : v_170.toInt = x_126.toInt + 1 ∧ 1 ≤ v_170.toInt ∧ v_170.toInt ≤ 256 := iv_addc ev_170 i_138 (by decide) (by decide) (by decide)
                                    refine lv_goto (tgt := 207) hx hb dX12_seated_273 (by decide) ?_
                                    exact ih_130 v_170 ar_142 _ _ ls (by omega) (iv_w t_171.2 (by decide) (by decide)) hA_ar_142 (fA_call (fA_put (fA_call (fA_rf [94] _) fa_128 (by decide)) ear_140 (by decide)) fa_143 (by decide)) hp_144 hP hS (lv_sub hl [1, 2, 0] rfl)
                                  · skip
                                    have i_150 : 0 ≤ x_141.toInt ∧ x_141.toInt ≤ 39 := iv_lt1 i_x_141 i_55 (Int32.not_le.mp c_148)
                                    have i_151 : 1 ≤ (fv 32).toInt ∧ (fv 32).toInt ≤ 40 := iv_lt2 i_x_141 i_55 (Int32.not_le.mp c_148)
                                    have k_152 := Int32.lt_iff_toInt_lt.mp (Int32.not_le.mp c_148)
                                    refine lv_aload_n hx hb dX12_seated_238 rfl (lv_at hl 0 rfl) ?_
                                    refine gM_90 hx hb htg hown hK hP dX12_seated_239 ?_
                                    refine lv_iload hx hb dX12_seated_242 (lv_at hl 3 rfl) ?_
                                    refine lM_90 hx hb hK hP (iv_in i_150 (by decide) (by decide)) dX12_seated_244 (fun v_153 ev_153 => ?_)
                                    refine lv_iload hx hb dX12_seated_245 (lv_at hl 2 rfl) ?_
                                    refine lv_iconst (v := (-1)) hx hb dX12_seated_247 (by decide) ?_
                                    refine lv_ixor hx hb dX12_seated_248 ?_
                                    refine lv_topi (fun v_154 ev_154 => ?_)
                                    refine lv_iand hx hb dX12_seated_249 ?_
                                    refine lv_topi (fun v_155 ev_155 => ?_)
                                    refine my_cut (P := fun R9 a9 Q9 => ∀ (ar_163 : Nat → Nat → Int32) (H : Heap) (locs : List Loc) (ls : Array Slot), rA ar_163 → fA [94] ar_142 ar_163 → wt_fm G9 (fv_46 8) (ar_163 4) → va_P (dC, dI) vwCl (wsM h ad cA fv_46 wd_50 ar_163) H → va_S (aM h ad s.heap.size) s.heap H locs → lv_has ls 9 [(0, .ref h), (2, .int r_2), (4, .int x_126), (5, .int x_141)] → W p l e R9 s m a9 below meth c H locs 0 0 Q9 (F0 m 264 ls [])) ?_ (fun hj_166 => ?_)
                                    · intro ar_163 H locs ls hA_ar_163 fa_164 hp_165 hP hS hl
                                      obtain ⟨v_167, ev_167⟩ : ∃ z : Int32, z = x_141 + 1 := ⟨_, rfl⟩
                                      refine lv_iinc (v := v_167) (lv' := [(5, .int v_167), (0, .ref h), (2, .int r_2), (4, .int x_126)]) hx hb dX12_seated_264 hl (k := 3) rfl (by rw [ev_167]; rfl) (by decide) rfl (fun ls hl => ?_)
                                      have t_168 : v_167.toInt = x_141.toInt + 1 ∧ 1 ≤ v_167.toInt ∧ v_167.toInt ≤ 40 := iv_addc ev_167 i_150 (by decide) (by decide) (by decide)
                                      refine lv_goto (tgt := 229) hx hb dX12_seated_267 (by decide) ?_
                                      exact ih_145 v_167 ar_163 _ _ ls (by omega) (iv_w t_168.2 (by decide) (by decide)) hA_ar_163 (fA_call (fA_call (fA_rf [94] _) fa_143 (by decide)) fa_164 (by decide)) hp_165 hP hS (lv_sub hl [1, 2, 3, 0] rfl)
                                    · skip
                                      refine lv_if_eq (tgt := 264) hx hb dX12_seated_250 (by decide) (fun c_156 => ?_) (fun c_156 => ?_)
                                      · skip
                                        have i_157 : 0 ≤ v_155.toInt ∧ v_155.toInt ≤ 0 := iv_eq1 (⟨by decide, by decide⟩ : (0 : Int) ≤ (0 : Int32).toInt ∧ (0 : Int32).toInt ≤ 0) c_156
                                        exact hj_166 ar_142 _ _ ls hA_ar_142 (fA_rf [94] _) hp_144 hP hS (lv_sub hl [0, 1, 2, 3] rfl)
                                      · skip
                                        have k_159 : ¬ v_155.toInt = 0 := fun q => c_156 (Int32.toInt_inj.mp q)
                                        refine lv_aload_n hx hb dX12_seated_253 rfl (lv_at hl 0 rfl) ?_
                                        refine gM_94 hx hb htg hown hK hP dX12_seated_254 ?_
                                        refine lv_iload hx hb dX12_seated_257 (lv_at hl 2 rfl) ?_
                                        refine lv_dup2_11 hx hb dX12_seated_259 rfl rfl ?_
                                        refine lM_94 hx hb hK hP (iv_in i_138 (by decide) (by decide)) dX12_seated_260 (fun v_160 ev_160 => ?_)
                                        refine lv_iconst (v := 1) hx hb dX12_seated_261 (by decide) ?_
                                        refine lv_iadd hx hb dX12_seated_262 ?_
                                        refine lv_topi (fun v_161 ev_161 => ?_)
                                        refine sM_94 hx hb hK hP hS hd (iv_in i_138 (by decide) (by decide)) dX12_seated_263 (fun H locs ar_162 ear_162 hP hS => ?_)
                                        have hA_ar_162 : rA ar_162 := rA_put hA_ar_142 ear_162 (iv_any _)
                                        exact hj_166 ar_162 _ _ ls hA_ar_162 (fA_put (fA_rf [94] _) ear_162 (by decide)) (mF_fr hp_144 (fM_rf [] _) (fA_put (fA_rf [94] _) ear_162 (by decide)) rfl rfl) hP hS (lv_sub hl [0, 1, 2, 3] rfl)
                              · skip
                                have z_173 : (0 : Int32).toInt = 0 := by decide
                                exact hj_147 41 0 ar_140 _ _ ls (by first | decide | omega) (iv_w (⟨by decide, by decide⟩ : (0 : Int) ≤ (0 : Int32).toInt ∧ (0 : Int32).toInt ≤ 0) (by decide) (by decide)) hA_ar_140 (fA_rf [94] _) (mF_fr hp_129 (fM_rf [] _) (fA_put (fA_rf [94] _) ear_140 (by decide)) rfl rfl) hP hS (lv_sub hl [1, 2, 3, 0] rfl)
                        · skip
                          have z_362 : (0 : Int32).toInt = 0 := by decide
                          exact hj_132 257 0 ar_48 _ _ ls (by first | decide | omega) (iv_w (⟨by decide, by decide⟩ : (0 : Int) ≤ (0 : Int32).toInt ∧ (0 : Int32).toInt ≤ 0) (by decide) (by decide)) hA_ar_48 (fA_rf [94] _) hp_51 hP hS (lv_sub hl [1, 3, 0] rfl)
                      · skip
                        have i_58 : 0 ≤ x_45.toInt ∧ x_45.toInt ≤ 39 := iv_lt1 i_x_45 i_55 (Int32.not_le.mp c_56)
                        have i_59 : 1 ≤ (fv 32).toInt ∧ (fv 32).toInt ≤ 40 := iv_lt2 i_x_45 i_55 (Int32.not_le.mp c_56)
                        have k_60 := Int32.lt_iff_toInt_lt.mp (Int32.not_le.mp c_56)
                        refine lv_aload_n hx hb dX12_seated_111 rfl (lv_at hl 0 rfl) ?_
                        refine gM_90 hx hb htg hown hK hP dX12_seated_112 ?_
                        refine lv_iload hx hb dX12_seated_115 (lv_at hl 3 rfl) ?_
                        refine lv_iconst (v := 0) hx hb dX12_seated_117 (by decide) ?_
                        refine sM_90 hx hb hK hP hS hd (iv_in i_58 (by decide) (by decide)) dX12_seated_118 (fun H locs ar_61 ear_61 hP hS => ?_)
                        have hA_ar_61 : rA ar_61 := rA_put hA_ar_48 ear_61 (iv_any _)
                        refine lv_iconst (v := 0) hx hb dX12_seated_119 (by decide) ?_
                        refine lv_istore (lv' := [(5, .int 0), (0, .ref h), (1, .int mm), (2, .int r_2), (4, .int x_45)]) hx hb dX12_seated_120 hl (by decide) rfl (fun ls hl => ?_)
                        refine my_cut (P := fun R9 a9 Q9 => ∀ (n_69 : Nat) (x_62 : Int32) (fv_63 : Nat → Int32) (ar_65 : Nat → Nat → Int32) (wd_67 : Int64) (H : Heap) (locs : List Loc) (ls : Array Slot), 8 - x_62.toInt < (n_69 : Int) → (0 ≤ x_62.toInt ∧ x_62.toInt ≤ 8) → rF fv_63 → fM [8] fv_46 fv_63 → rA ar_65 → fA [4, 90] ar_61 ar_65 → wt_fm G9 (fv_63 8) (ar_65 4) → va_P (dC, dI) vwCl (wsM h ad cA fv_63 wd_67 ar_65) H → va_S (aM h ad s.heap.size) s.heap H locs → lv_has ls 9 [(0, .ref h), (1, .int mm), (2, .int r_2), (4, .int x_45), (5, .int x_62)] → W p l e R9 s m a9 below meth c H locs 0 0 Q9 (F0 m 122 ls [])) ?_ (fun hj_71 => ?_)
                        · intro n_69
                          induction n_69 with
                          | zero => intro x_62 fv_63 ar_65 wd_67 H locs ls fu_70 i_x_62 hF_fv_63 fr_64 hA_ar_65 fa_66 hp_68; exfalso; omega
                          | succ n_69 ih_69 =>
                            intro x_62 fv_63 ar_65 wd_67 H locs ls fu_70 i_x_62 hF_fv_63 fr_64 hA_ar_65 fa_66 hp_68 hP hS hl
                            refine lv_iload hx hb dX12_seated_122 (lv_at hl 4 rfl) ?_
                            refine lv_aload_n hx hb dX12_seated_124 rfl (lv_at hl 0 rfl) ?_
                            refine gM_33 hx hb htg hown hK hP dX12_seated_125 ?_
                            refine my_ti (y := fv 33) ((fr_64 33 rfl).trans ((fr_47 33 rfl).trans ((fr_33 33 rfl).trans ((fr_8 33 rfl).trans ((congrFun efv_1 33)))))) ?_
                            refine lv_icmp_ge (tgt := 198) hx hb dX12_seated_128 (by decide) (fun c_72 => ?_) (fun c_72 => ?_)
                            · skip
                              have i_73 : 1 ≤ x_62.toInt ∧ x_62.toInt ≤ 8 := iv_le2 i_28 i_x_62 c_72
                              have k_74 := Int32.le_iff_toInt_le.mp c_72
                              obtain ⟨v_122, ev_122⟩ : ∃ z : Int32, z = x_45 + 1 := ⟨_, rfl⟩
                              refine lv_iinc (v := v_122) (lv' := [(4, .int v_122), (0, .ref h), (1, .int mm), (2, .int r_2), (5, .int x_62)]) hx hb dX12_seated_198 hl (k := 3) rfl (by rw [ev_122]; rfl) (by decide) rfl (fun ls hl => ?_)
                              have t_123 : v_122.toInt = x_45.toInt + 1 ∧ 1 ≤ v_122.toInt ∧ v_122.toInt ≤ 40 := iv_addc ev_122 i_58 (by decide) (by decide) (by decide)
                              refine lv_goto (tgt := 102) hx hb dX12_seated_201 (by decide) ?_
                              exact ih_52 v_122 fv_63 ar_65 wd_67 _ _ ls (by omega) (iv_w t_123.2 (by decide) (by decide)) hF_fv_63 (fM_call (fM_call (fM_rf [8] _) fr_47 (by decide)) fr_64 (by decide)) hA_ar_65 (fA_call (fA_put (fA_call (fA_rf [4, 90] _) fa_49 (by decide)) ear_61 (by decide)) fa_66 (by decide)) hp_68 hP hS (lv_sub hl [1, 2, 3, 0] rfl)
                            · skip
                              have i_75 : 0 ≤ x_62.toInt ∧ x_62.toInt ≤ 7 := iv_lt1 i_x_62 i_28 (Int32.not_le.mp c_72)
                              have k_76 := Int32.lt_iff_toInt_lt.mp (Int32.not_le.mp c_72)
                              refine lv_aload_n hx hb dX12_seated_131 rfl (lv_at hl 0 rfl) ?_
                              refine lv_aload_n hx hb dX12_seated_132 rfl (lv_at hl 0 rfl) ?_
                              refine gM_9 hx hb htg hown hK hP dX12_seated_133 ?_
                              refine lv_iload hx hb dX12_seated_136 (lv_at hl 3 rfl) ?_
                              refine lM_9 hx hb hK hP (iv_in i_58 (by decide) (by decide)) dX12_seated_138 (fun v_77 ev_77 => ?_)
                              have i_78 : 0 ≤ v_77.toInt ∧ v_77.toInt ≤ 11 := ev_77 ▸ hA_ar_65 9 _
                              refine lv_aload_n hx hb dX12_seated_139 rfl (lv_at hl 0 rfl) ?_
                              refine gM_19 hx hb htg hown hK hP dX12_seated_140 ?_
                              refine lv_iload hx hb dX12_seated_143 (lv_at hl 4 rfl) ?_
                              refine lM_19 hx hb hK hP (iv_in i_75 (by decide) (by decide)) dX12_seated_145 (fun v_79 ev_79 => ?_)
                              have i_80 : 0 ≤ v_79.toInt ∧ v_79.toInt ≤ 11 := ev_79 ▸ hA_ar_65 19 _
                              refine va_calli (va_runV (As := [.int v_77, .int v_79]) (rest := []) ⟨hx, hb, hml, hown, hts⟩ (m_farOf l dC dI H.size h ad cA hd fv_63 wd_67 ar_65 hF_fv_63 hA_ar_65 G9 v_77 v_79 i_78 i_80 hp_68) (cwV 2 hts (gV kw_7_237 kw_7_239 kw_p_59 kw_1_15 kw_8_0) rfl rfl rfl (by decide +kernel) ⟨Nat.le_of_ble_eq_true rfl, Nat.le_of_ble_eq_true rfl⟩) ⟨fun a U g mk q => ⟨q.1, q.2.1, q.2.2.1, va_K.moved (u := U) (U := U.calling g mk a) (Vm.Alike.refl U.vm) q.2.2.2⟩, va_recv hK hP (ci := 12) (q0 := 0) rfl rfl, fun U hU hW => ⟨rfl, by rw [hU], by rw [hU]; exact hP, va_K.moved hW.alike hK⟩⟩ rfl rfl hl.1 rfl (lv_room (Nat.le_of_ble_eq_true rfl)) dX12_seated_146 ⟨Nat.le_of_ble_eq_true rfl, Nat.le_of_ble_eq_true rfl⟩) hS (fun q _ h9 => aM_up hS q h9) (aM_up hS) (fun r_81 u t H1 locs ht _ hw hB _ hk1 hS => ?_)
                              obtain ⟨fv_85, wd_86, ar_87⟩ := u
                              obtain ⟨hF_fv_85, hA_ar_87, fr_88, fa_89, p_82, p_83, p_84, -⟩ := hw
                              have hP : va_P (dC, dI) vwCl (wsM h ad cA fv_85 wd_86 ar_87) H1 := by have h9 := hB.1; rw [ht] at h9; exact h9
                              have fr_88 : fM [8] fv_63 fv_85 := fr_88
                              have fa_89 : fA [4] ar_65 ar_87 := fa_89
                              have p_84 : wt_fm G9 (fv_85 8) (ar_87 4) := p_84
                              have p_83 : wt_rl (G9 (12 * v_77.toInt.toNat + v_79.toInt.toNat)) r_81.toInt := p_83
                              generalize H1 = H at hP hS ⊢
                              refine lv_ldc hx hb hown (htg (.constant RX12 225 100000) kw_7_232) dX12_seated_149 ?_
                              refine my_cut (P := fun R9 a9 Q9 => ∀ (fv_112 : Nat → Int32) (ar_114 : Nat → Nat → Int32) (wd_116 : Int64) (H : Heap) (locs : List Loc) (ls : Array Slot), rF fv_112 → fM [8] fv_85 fv_112 → rA ar_114 → fA [4, 90] ar_87 ar_114 → wt_fm G9 (fv_112 8) (ar_114 4) → va_P (dC, dI) vwCl (wsM h ad cA fv_112 wd_116 ar_114) H → va_S (aM h ad s.heap.size) s.heap H locs → lv_has ls 9 [(0, .ref h), (1, .int mm), (2, .int r_2), (4, .int x_45), (5, .int x_62)] → W p l e R9 s m a9 below meth c H locs 0 0 Q9 (F0 m 192 ls [])) ?_ (fun hj_118 => ?_)
                              · intro fv_112 ar_114 wd_116 H locs ls hF_fv_112 fr_113 hA_ar_114 fa_115 hp_117 hP hS hl
                                obtain ⟨v_119, ev_119⟩ : ∃ z : Int32, z = x_62 + 1 := ⟨_, rfl⟩
                                refine lv_iinc (v := v_119) (lv' := [(5, .int v_119), (0, .ref h), (1, .int mm), (2, .int r_2), (4, .int x_45)]) hx hb dX12_seated_192 hl (k := 4) rfl (by rw [ev_119]; rfl) (by decide) rfl (fun ls hl => ?_)
                                have t_120 : v_119.toInt = x_62.toInt + 1 ∧ 1 ≤ v_119.toInt ∧ v_119.toInt ≤ 8 := iv_addc ev_119 i_75 (by decide) (by decide) (by decide)
                                refine lv_goto (tgt := 122) hx hb dX12_seated_195 (by decide) ?_
                                exact ih_69 v_119 fv_112 ar_114 wd_116 _ _ ls (by omega) (iv_w t_120.2 (by decide) (by decide)) hF_fv_112 (fM_call (fM_call (fM_call (fM_rf [8] _) fr_64 (by decide)) fr_88 (by decide)) fr_113 (by decide)) hA_ar_114 (fA_call (fA_call (fA_call (fA_rf [4, 90] _) fa_66 (by decide)) fa_89 (by decide)) fa_115 (by decide)) hp_117 hP hS (lv_sub hl [1, 2, 3, 4, 0] rfl)
                              · skip
                                refine lv_icmp_ge (tgt := 192) hx hb dX12_seated_151 (by decide) (fun c_90 => ?_) (fun c_90 => ?_)
                                · skip
                                  have i_91 : 100000 ≤ r_81.toInt ∧ r_81.toInt ≤ 100000 := iv_le2 (⟨by decide, by decide⟩ : (100000 : Int) ≤ (100000 : Int32).toInt ∧ (100000 : Int32).toInt ≤ 100000) p_82 c_90
                                  exact hj_118 fv_85 ar_87 wd_86 _ _ ls hF_fv_85 (fM_rf [8] _) hA_ar_87 (fA_rf [4, 90] _) p_84 hP hS (lv_sub hl [0, 1, 2, 3, 4] rfl)
                                · skip
                                  have i_92 : 0 ≤ r_81.toInt ∧ r_81.toInt ≤ 99999 := iv_lt1 p_82 (⟨by decide, by decide⟩ : (100000 : Int) ≤ (100000 : Int32).toInt ∧ (100000 : Int32).toInt ≤ 100000) (Int32.not_le.mp c_90)
                                  refine lv_aload_n hx hb dX12_seated_154 rfl (lv_at hl 0 rfl) ?_
                                  refine lv_iload hx hb dX12_seated_155 (lv_at hl 3 rfl) ?_
                                  refine lv_aload_n hx hb dX12_seated_157 rfl (lv_at hl 0 rfl) ?_
                                  refine gM_9 hx hb htg hown hK hP dX12_seated_158 ?_
                                  refine lv_iload hx hb dX12_seated_161 (lv_at hl 3 rfl) ?_
                                  refine lM_9 hx hb hK hP (iv_in i_58 (by decide) (by decide)) dX12_seated_163 (fun v_93 ev_93 => ?_)
                                  obtain rfl : v_77 = v_93 := ev_77.trans ((congrFun ((fA_call (fA_rf [4] _) fa_89 (by decide)) 9 rfl) _).symm.trans ev_93.symm)
                                  refine lv_aload_n hx hb dX12_seated_164 rfl (lv_at hl 0 rfl) ?_
                                  refine gM_19 hx hb htg hown hK hP dX12_seated_165 ?_
                                  refine lv_iload hx hb dX12_seated_168 (lv_at hl 4 rfl) ?_
                                  refine lM_19 hx hb hK hP (iv_in i_75 (by decide) (by decide)) dX12_seated_170 (fun v_94 ev_94 => ?_)
                                  obtain rfl : v_79 = v_94 := ev_79.trans ((congrFun ((fA_call (fA_rf [4] _) fa_89 (by decide)) 19 rfl) _).symm.trans ev_94.symm)
                                  refine va_calli (va_runV (As := [.int x_45, .int v_77, .int v_79]) (rest := []) ⟨hx, hb, hml, hown, hts⟩ (m_walk l dC dI H.size h ad cA hd fv_85 wd_86 ar_87 hF_fv_85 hA_ar_87 G9 x_45 v_77 v_79 i_58 i_78 i_80 p_84) (cwV 3 hts (gV kw_8_208 kw_8_210 kw_p_92 kw_1_15 kw_8_211) rfl rfl rfl (by decide +kernel) ⟨Nat.le_of_ble_eq_true rfl, Nat.le_of_ble_eq_true rfl⟩) ⟨fun a U g mk q => ⟨q.1, q.2.1, q.2.2.1, va_K.moved (u := U) (U := U.calling g mk a) (Vm.Alike.refl U.vm) q.2.2.2⟩, va_recv hK hP (ci := 12) (q0 := 0) rfl rfl, fun U hU hW => ⟨rfl, by rw [hU], by rw [hU]; exact hP, va_K.moved hW.alike hK⟩⟩ rfl rfl hl.1 rfl (lv_room (Nat.le_of_ble_eq_true rfl)) dX12_seated_171 ⟨Nat.le_of_ble_eq_true rfl, Nat.le_of_ble_eq_true rfl⟩) hS (fun q _ h9 => aM_up hS q h9) (aM_up hS) (fun r_95 u t H1 locs ht _ hw hB _ hk1 hS => ?_)
                                  obtain ⟨fv_97, wd_98, ar_99⟩ := u
                                  obtain ⟨hF_fv_97, hA_ar_99, fr_100, fa_101, p_96, -⟩ := hw
                                  have hP : va_P (dC, dI) vwCl (wsM h ad cA fv_97 wd_98 ar_99) H1 := by have h9 := hB.1; rw [ht] at h9; exact h9
                                  have fr_100 : fM [8] fv_85 fv_97 := fr_100
                                  have fa_101 : fA [4] ar_87 ar_99 := fa_101
                                  have p_96 : wt_fm G9 (fv_97 8) (ar_99 4) := p_96
                                  generalize H1 = H at hP hS ⊢
                                  refine lv_iload_n hx hb dX12_seated_174 rfl (lv_at hl 1 rfl) ?_
                                  refine lv_icmp_gt (tgt := 192) hx hb dX12_seated_175 (by decide) (fun c_102 => ?_) (fun c_102 => ?_)
                                  · skip
                                    have i_103 : 1 ≤ r_95.toInt ∧ r_95.toInt ≤ 2147483647 := iv_lt2 i_24 (iv_any r_95) c_102
                                    have k_104 := Int32.lt_iff_toInt_lt.mp c_102
                                    exact hj_118 fv_97 ar_99 wd_98 _ _ ls hF_fv_97 (fM_call (fM_rf [8] _) fr_100 (by decide)) hA_ar_99 (fA_call (fA_rf [4, 90] _) fa_101 (by decide)) p_96 hP hS (lv_sub hl [0, 1, 2, 3, 4] rfl)
                                  · skip
                                    have i_105 : (-2147483648) ≤ r_95.toInt ∧ r_95.toInt ≤ 200 := iv_le1 (iv_any r_95) i_24 (Int32.not_lt.mp c_102)
                                    have k_106 := Int32.le_iff_toInt_le.mp (Int32.not_lt.mp c_102)
                                    refine lv_aload_n hx hb dX12_seated_178 rfl (lv_at hl 0 rfl) ?_
                                    refine gM_90 hx hb htg hown hK hP dX12_seated_179 ?_
                                    refine lv_iload hx hb dX12_seated_182 (lv_at hl 3 rfl) ?_
                                    refine lv_dup2_11 hx hb dX12_seated_184 rfl rfl ?_
                                    refine lM_90 hx hb hK hP (iv_in i_58 (by decide) (by decide)) dX12_seated_185 (fun v_107 ev_107 => ?_)
                                    refine lv_iconst (v := 1) hx hb dX12_seated_186 (by decide) ?_
                                    refine lv_iload hx hb dX12_seated_187 (lv_at hl 4 rfl) ?_
                                    refine lv_ishl hx hb dX12_seated_189 ?_
                                    refine lv_topi (fun v_108 ev_108 => ?_)
                                    have i_109 : 1 ≤ v_108.toInt ∧ v_108.toInt ≤ 128 := iv_shl (k := 7) ev_108 (iv_w i_75 (by decide) (by decide)) rfl (by decide)
                                    refine lv_ior hx hb dX12_seated_190 ?_
                                    refine lv_topi (fun v_110 ev_110 => ?_)
                                    refine sM_90 hx hb hK hP hS hd (iv_in i_58 (by decide) (by decide)) dX12_seated_191 (fun H locs ar_111 ear_111 hP hS => ?_)
                                    have hA_ar_111 : rA ar_111 := rA_put hA_ar_99 ear_111 (iv_any _)
                                    exact hj_118 fv_97 ar_111 wd_98 _ _ ls hF_fv_97 (fM_call (fM_rf [8] _) fr_100 (by decide)) hA_ar_111 (fA_put (fA_call (fA_rf [4, 90] _) fa_101 (by decide)) ear_111 (by decide)) (mF_fr p_96 (fM_rf [] _) (fA_put (fA_rf [90] _) ear_111 (by decide)) rfl rfl) hP hS (lv_sub hl [0, 1, 2, 3, 4] rfl)
                        · skip
                          have z_125 : (0 : Int32).toInt = 0 := by decide
                          exact hj_71 9 0 fv_46 ar_61 wd_50 _ _ ls (by first | decide | omega) (iv_w (⟨by decide, by decide⟩ : (0 : Int) ≤ (0 : Int32).toInt ∧ (0 : Int32).toInt ≤ 0) (by decide) (by decide)) hF_fv_46 (fM_rf [8] _) hA_ar_61 (fA_rf [4, 90] _) (mF_fr hp_51 (fM_rf [] _) (fA_put (fA_rf [90] _) ear_61 (by decide)) rfl rfl) hP hS (lv_sub hl [1, 2, 3, 4, 0] rfl)
                  · skip
                    have z_363 : (0 : Int32).toInt = 0 := by decide
                    exact hj_54 41 0 fv_32 ar_34 wd_36 _ _ ls (by first | decide | omega) (iv_w (⟨by decide, by decide⟩ : (0 : Int) ≤ (0 : Int32).toInt ∧ (0 : Int32).toInt ≤ 0) (by decide) (by decide)) hF_fv_32 (fM_rf [8] _) hA_ar_34 (fA_rf [4, 90] _) hp_37 hP hS (lv_sub hl [1, 2, 3, 0] rfl)
                · skip
                  have i_364 : 0 ≤ x_31.toInt ∧ x_31.toInt ≤ 4 := iv_lt1 i_x_31 i_16 (Int32.not_le.mp c_42)
                  have k_365 := Int32.lt_iff_toInt_lt.mp (Int32.not_le.mp c_42)
                  refine lv_aload_n hx hb dX12_seated_50 rfl (lv_at hl 0 rfl) ?_
                  refine lv_aload_n hx hb dX12_seated_51 rfl (lv_at hl 0 rfl) ?_
                  refine gM_1 hx hb htg hown hK hP dX12_seated_52 ?_
                  refine lv_iload hx hb dX12_seated_55 (lv_at hl 4 rfl) ?_
                  refine lM_1 hx hb hK hP (iv_in i_364 (by decide) (by decide)) dX12_seated_57 (fun v_366 ev_366 => ?_)
                  have i_367 : 0 ≤ v_366.toInt ∧ v_366.toInt ≤ 255 := ev_366 ▸ hA_ar_34 1 _
                  refine va_calli (va_runV (As := [.int v_366]) (rest := []) ⟨hx, hb, hml, hown, hts⟩ (m_isWheelE l dC dI H.size h ad cA hd fv_32 wd_36 ar_34 hF_fv_32 hA_ar_34 v_366) (cwV 1 hts (gV kw_8_40 kw_8_42 kw_p_63 kw_1_15 kw_8_43) rfl rfl rfl (by decide +kernel) ⟨Nat.le_of_ble_eq_true rfl, Nat.le_of_ble_eq_true rfl⟩) ⟨fun a U g mk q => ⟨q.1, q.2.1, q.2.2.1, va_K.moved (u := U) (U := U.calling g mk a) (Vm.Alike.refl U.vm) q.2.2.2⟩, va_recv hK hP (ci := 12) (q0 := 0) rfl rfl, fun U hU hW => ⟨rfl, by rw [hU], by rw [hU]; exact hP, va_K.moved hW.alike hK⟩⟩ rfl rfl hl.1 rfl (lv_room (Nat.le_of_ble_eq_true rfl)) dX12_seated_58 ⟨Nat.le_of_ble_eq_true rfl, Nat.le_of_ble_eq_true rfl⟩) hS (fun q _ h9 => aM_up hS q h9) (aM_up hS) (fun r_368 u t H1 locs ht _ hw hB _ hk1 hS => ?_)
                  obtain ⟨fv_371, wd_372, ar_373⟩ := u
                  obtain ⟨hF_fv_371, hA_ar_373, fr_374, fa_375, p_369, p_370, -⟩ := hw
                  have hP : va_P (dC, dI) vwCl (wsM h ad cA fv_371 wd_372 ar_373) H1 := by have h9 := hB.1; rw [ht] at h9; exact h9
                  have fr_374 : fM [] fv_32 fv_371 := fr_374
                  have fa_375 : fA [] ar_34 ar_373 := fa_375
                  generalize H1 = H at hP hS ⊢
                  rcases p_370 with ⟨rfl, p_370⟩ | ⟨rfl, p_370⟩
                  · skip
                    have q_376 : v_366.toInt < 0 ∨ (fv_32 34).toInt ≤ v_366.toInt := p_370
                    refine lv_if_eq (tgt := 79) hx hb dX12_seated_61 (by decide) (fun c_377 => ?_) (fun c_377 => ?_)
                    · skip
                      refine lv_iconst (v := (-1)) hx hb dX12_seated_79 (by decide) ?_
                      have z_378 : ((-1) : Int32).toInt = (-1) := by decide
                      exact W.iret (v := (-1)) hx hb hr (fun t ht hW => ⟨⟨(-1), (fv_371, wd_372, ar_373), rfl, ⟨hF_fv_371, hA_ar_373, (fM_call (fM_call (fM_call (fM_put (fM_rf [0, 2, 8, 95] _) efv_1 (by decide)) fr_8 (by decide)) fr_33 (by decide)) fr_374 (by decide)), (fA_call (fA_call (fA_call (fA_rf [4, 90, 91, 92, 93, 94] _) fa_9 (by decide)) fa_35 (by decide)) fa_375 (by decide)), (show (fv_371 2).toInt = 0 from by rw [show fv_371 2 = (fv_5 2) from (fr_374 2 rfl).trans ((fr_33 2 rfl))]; omega), (mF_fr hp_37 (fM_call (fM_rf [] _) fr_374 (by decide)) (fA_call (fA_rf [] _) fa_375 (by decide)) rfl rfl), trivial⟩, ⟨by rw [ht]; exact hP, va_K.moved hW.alike hK⟩⟩, hS.F ht⟩) hS.2.2 dX12_seated_80
                    · skip
                      exact absurd c_377 (by decide)
                  · skip
                    have i_379 : 0 ≤ v_366.toInt ∧ v_366.toInt ≤ 19 := ⟨i_367.1, p_370.2.1⟩
                    have q_380 : v_366.toInt < (fv_32 34).toInt := p_370.2.2
                    refine lv_if_eq (tgt := 79) hx hb dX12_seated_61 (by decide) (fun c_381 => ?_) (fun c_381 => ?_)
                    · skip
                      exact absurd c_381 (by decide)
                    · skip
                      refine lv_iload_n hx hb dX12_seated_64 rfl (lv_at hl 3 rfl) ?_
                      refine lv_aload_n hx hb dX12_seated_65 rfl (lv_at hl 0 rfl) ?_
                      refine gM_1 hx hb htg hown hK hP dX12_seated_66 ?_
                      refine lv_iload hx hb dX12_seated_69 (lv_at hl 4 rfl) ?_
                      refine lM_1 hx hb hK hP (iv_in i_364 (by decide) (by decide)) dX12_seated_71 (fun v_382 ev_382 => ?_)
                      obtain rfl : v_366 = v_382 := ev_366.trans ((congrFun ((fA_call (fA_rf [] _) fa_375 (by decide)) 1 rfl) _).symm.trans ev_382.symm)
                      refine lv_ishr hx hb dX12_seated_72 ?_
                      refine lv_topi (fun v_383 ev_383 => ?_)
                      refine lv_iconst (v := 1) hx hb dX12_seated_73 (by decide) ?_
                      refine lv_iand hx hb dX12_seated_74 ?_
                      refine lv_topi (fun v_384 ev_384 => ?_)
                      have i_385 : 0 ≤ v_384.toInt ∧ v_384.toInt ≤ 1 := iv_1 ev_384
                      refine lv_iconst (v := 1) hx hb dX12_seated_75 (by decide) ?_
                      refine lv_icmp_ne (tgt := 81) hx hb dX12_seated_76 (by decide) (fun c_386 => ?_) (fun c_386 => ?_)
                      · skip
                        have i_387 : 0 ≤ v_384.toInt ∧ v_384.toInt ≤ 0 := iv_neh i_385 (by decide) c_386
                        have k_388 : ¬ v_384.toInt = 1 := fun q => c_386 (Int32.toInt_inj.mp q)
                        refine lv_iload_n hx hb dX12_seated_81 rfl (lv_at hl 3 rfl) ?_
                        refine lv_iconst (v := 1) hx hb dX12_seated_82 (by decide) ?_
                        refine lv_aload_n hx hb dX12_seated_83 rfl (lv_at hl 0 rfl) ?_
                        refine gM_1 hx hb htg hown hK hP dX12_seated_84 ?_
                        refine lv_iload hx hb dX12_seated_87 (lv_at hl 4 rfl) ?_
                        refine lM_1 hx hb hK hP (iv_in i_364 (by decide) (by decide)) dX12_seated_89 (fun v_389 ev_389 => ?_)
                        obtain rfl : v_366 = v_389 := ev_366.trans ((congrFun ((fA_call (fA_rf [] _) fa_375 (by decide)) 1 rfl) _).symm.trans ev_389.symm)
                        refine lv_ishl hx hb dX12_seated_90 ?_
                        refine lv_topi (fun v_390 ev_390 => ?_)
                        have i_391 : 1 ≤ v_390.toInt ∧ v_390.toInt ≤ 524288 := iv_shl (k := 19) ev_390 (iv_w i_379 (by decide) (by decide)) rfl (by decide)
                        refine lv_ior hx hb dX12_seated_91 ?_
                        refine lv_topi (fun v_392 ev_392 => ?_)
                        refine lv_istore_n (lv' := [(3, .int v_392), (0, .ref h), (1, .int mm), (2, .int r_2), (4, .int x_31)]) hx hb dX12_seated_92 rfl hl (by decide) rfl (fun ls hl => ?_)
                        obtain ⟨v_393, ev_393⟩ : ∃ z : Int32, z = x_31 + 1 := ⟨_, rfl⟩
                        refine lv_iinc (v := v_393) (lv' := [(4, .int v_393), (3, .int v_392), (0, .ref h), (1, .int mm), (2, .int r_2)]) hx hb dX12_seated_93 hl (k := 4) rfl (by rw [ev_393]; rfl) (by decide) rfl (fun ls hl => ?_)
                        have t_394 : v_393.toInt = x_31.toInt + 1 ∧ 1 ≤ v_393.toInt ∧ v_393.toInt ≤ 5 := iv_addc ev_393 i_364 (by decide) (by decide) (by decide)
                        refine lv_goto (tgt := 44) hx hb dX12_seated_96 (by decide) ?_
                        exact ih_39 v_392 v_393 fv_371 ar_373 wd_372 _ _ ls (by omega) (iv_w t_394.2 (by decide) (by decide)) hF_fv_371 (fM_call (fM_call (fM_rf [] _) fr_33 (by decide)) fr_374 (by decide)) hA_ar_373 (fA_call (fA_call (fA_rf [] _) fa_35 (by decide)) fa_375 (by decide)) (mF_fr hp_37 (fM_call (fM_rf [] _) fr_374 (by decide)) (fA_call (fA_rf [] _) fa_375 (by decide)) rfl rfl) (fun j hj => by rcases Int.lt_or_le (j : Int) x_31.toInt with c9 | c9; exact q_38 j c9; rw [show j = x_31.toInt.toNat from by omega]; show (ar 1 (Int32.toNatClampNeg x_31)).toInt ≤ 19; rw [← ((fA_call (fA_call (fA_rf [] _) fa_9 (by decide)) fa_35 (by decide)) 1 rfl), ← ev_366]; exact (i_379).2) hP hS (lv_sub hl [2, 3, 4, 1, 0] rfl)
                      · skip
                        have i_396 : 1 ≤ v_384.toInt ∧ v_384.toInt ≤ 1 := iv_eq1 (⟨by decide, by decide⟩ : (1 : Int) ≤ (1 : Int32).toInt ∧ (1 : Int32).toInt ≤ 1) c_386
                        refine lv_iconst (v := (-1)) hx hb dX12_seated_79 (by decide) ?_
                        have z_398 : ((-1) : Int32).toInt = (-1) := by decide
                        exact W.iret (v := (-1)) hx hb hr (fun t ht hW => ⟨⟨(-1), (fv_371, wd_372, ar_373), rfl, ⟨hF_fv_371, hA_ar_373, (fM_call (fM_call (fM_call (fM_put (fM_rf [0, 2, 8, 95] _) efv_1 (by decide)) fr_8 (by decide)) fr_33 (by decide)) fr_374 (by decide)), (fA_call (fA_call (fA_call (fA_rf [4, 90, 91, 92, 93, 94] _) fa_9 (by decide)) fa_35 (by decide)) fa_375 (by decide)), (show (fv_371 2).toInt = 0 from by rw [show fv_371 2 = (fv_5 2) from (fr_374 2 rfl).trans ((fr_33 2 rfl))]; omega), (mF_fr hp_37 (fM_call (fM_rf [] _) fr_374 (by decide)) (fA_call (fA_rf [] _) fa_375 (by decide)) rfl rfl), trivial⟩, ⟨by rw [ht]; exact hP, va_K.moved hW.alike hK⟩⟩, hS.F ht⟩) hS.2.2 dX12_seated_80
            · skip
              have z_399 : (0 : Int32).toInt = 0 := by decide
              exact hj_41 6 0 0 fv_5 ar_7 wd_6 _ _ ls (by first | decide | omega) (iv_w (⟨by decide, by decide⟩ : (0 : Int) ≤ (0 : Int32).toInt ∧ (0 : Int32).toInt ≤ 0) (by decide) (by decide)) hF_fv_5 (fM_rf [] _) hA_ar_7 (fA_rf [] _) (mF_fr hp_mF (fM_call (fM_put (fM_rf [0, 2] _) efv_1 (by decide)) fr_8 (by decide)) (fA_call (fA_rf [] _) fa_9 (by decide)) rfl rfl) (fun j hj => absurd hj (by omega)) hP hS (lv_sub hl [3, 4, 2, 1, 0] rfl)
          · skip
            have i_400 : 0 ≤ (fv 33).toInt ∧ (fv 33).toInt ≤ 0 := iv_eq1 (⟨by decide, by decide⟩ : (0 : Int) ≤ (0 : Int32).toInt ∧ (0 : Int32).toInt ≤ 0) c_27
            refine lv_iconst (v := (-1)) hx hb dX12_seated_37 (by decide) ?_
            have z_402 : ((-1) : Int32).toInt = (-1) := by decide
            exact W.iret (v := (-1)) hx hb hr (fun t ht hW => ⟨⟨(-1), (fv_5, wd_6, ar_7), rfl, ⟨hF_fv_5, hA_ar_7, (fM_call (fM_put (fM_rf [0, 2, 8, 95] _) efv_1 (by decide)) fr_8 (by decide)), (fA_call (fA_rf [4, 90, 91, 92, 93, 94] _) fa_9 (by decide)), (show (fv_5 2).toInt = 0 from by rw [show fv_5 2 = (fv_5 2) from rfl]; omega), (mF_fr hp_mF (fM_call (fM_put (fM_rf [0, 2] _) efv_1 (by decide)) fr_8 (by decide)) (fA_call (fA_rf [] _) fa_9 (by decide)) rfl rfl), trivial⟩, ⟨by rw [ht]; exact hP, va_K.moved hW.alike hK⟩⟩, hS.F ht⟩) hS.2.2 dX12_seated_38

theorem rd_dk {t0 t1 : Int} {a : Nat} (h : t1 = 1 ↔ (t0 = 1 ∨ a = 6)) : (decide (t0 = 1) || decide (a = 6)) = decide (t1 = 1) := by
  by_cases h1 : t1 = 1
  · rcases h.mp h1 with w | w
    · exact (congrArg (fun z => z || decide (a = 6)) (decide_eq_true w)).trans ((Bool.true_or _).trans (decide_eq_true h1).symm)
    · exact (congrArg (fun z => decide (t0 = 1) || z) (decide_eq_true w)).trans ((Bool.or_true _).trans (decide_eq_true h1).symm)
  · have e0 : decide (t0 = 1) = false := decide_eq_false (fun w => h1 (h.mpr (Or.inl w)))
    have e6 : decide (a = 6) = false := decide_eq_false (fun w => h1 (h.mpr (Or.inr w)))
    rw [e0, e6, decide_eq_false h1]; rfl
set_option maxHeartbeats 4000000 in
set_option maxRecDepth 100000 in
theorem m_takeD (l : Launch) (dC : Nat → ClassId) (dI : Nat → Nat → Nat) (sz h : Nat) (ad : Nat → Nat) (cA : Nat → ClassId) (hd : dM h ad) (fv : Nat → Int32) (wd : Int64) (ar : Nat → Nat → Int32) (hF_fv : rF fv) (hA_ar : rA ar) : Met l yX12_take (.code yX12_take cX12_take 2 (some .int) :: lw_good) ({ frames := 2, cells := 0, slots := 0, locals := 40 }) (va_Pc [.ref h] (prM dC dI h ad cA fv wd ar sz)) (va_Qi (fun (r : Int32) (u : mS) => rF u.1 ∧ rA u.2.2 ∧ fM [2] fv u.1 ∧ fA [] ar u.2.2 ∧ (0 ≤ r.toInt ∧ r.toInt ≤ 340) ∧ (r = fv 2) ∧ ((u.1 2).toInt = 0) ∧ True) (enM dC dI h ad cA) (aM h ad sz)) 0 0 (aM h ad sz) := by
  refine Met.ofW (cc := cX12_take) (maxL := 2) (ret := (some .int)) (by decide) rfl ?_
  intro p e s m args below meth c s₁ B hml hv
  obtain ⟨rfl, hsz, hP, hK⟩ := hv
  have hx := B.exec
  have hb := B.bytes
  have hr := B.returns
  have hts := atoms_spec (ws := (.code yX12_take cX12_take 2 (some .int) :: lw_good)) B.pre
  have htg : ∀ w ∈ lw_good, w.before _ s = true := fun w hw => hts w (List.mem_cons_of_mem _ hw)
  have hown : s.vm.findClass RX12 = some m.cls := findClass_of_methodNamed B.named
  have hlocks := B.notSynchronized
  subst hsz
  have hS : va_S (aM h ad s.heap.size) s.heap s.heap [] := va_S.rf
  have hl := lv_entry ([.ref h]) (n := 2) (Nat.le_of_ble_eq_true rfl)
  rw [lg_entry_eq]
  generalize (lg_sl ([.ref h]) ++ List.replicate (2 - (lg_sl ([.ref h])).length) Slot.unset).toArray = ls at hl ⊢
  have hl : lv_has ls 2 [(0, .ref h)] := hl
  refine lv_aload_n hx hb dX12_take_0 rfl (lv_at hl 0 rfl) ?_
  refine gM_2 hx hb htg hown hK hP dX12_take_1 ?_
  have i_1 : 0 ≤ (fv 2).toInt ∧ (fv 2).toInt ≤ 340 := hF_fv 2
  refine lv_istore_n (lv' := [(1, .int (fv 2)), (0, .ref h)]) hx hb dX12_take_4 rfl hl (by decide) rfl (fun ls hl => ?_)
  refine lv_aload_n hx hb dX12_take_5 rfl (lv_at hl 1 rfl) ?_
  refine lv_iconst (v := 0) hx hb dX12_take_6 (by decide) ?_
  refine pM_2 hx hb htg hown hK hP hS hd dX12_take_7 (fun H locs fv_2 efv_2 hP hS => ?_)
  have hF_fv_2 : rF fv_2 := rF_put hF_fv efv_2 (iv_w (⟨by decide, by decide⟩ : (0 : Int) ≤ (0 : Int32).toInt ∧ (0 : Int32).toInt ≤ 0) (by decide) (by decide))
  refine lv_iload_n hx hb dX12_take_10 rfl (lv_at hl 0 rfl) ?_
  exact W.iret (v := fv 2) hx hb hr (fun t ht hW => ⟨⟨fv 2, (fv_2, wd, ar), rfl, ⟨hF_fv_2, hA_ar, (fM_put (fM_rf [2] _) efv_2 (by decide)), (fA_rf [] _), i_1, (show (fv 2) = fv 2 from rfl), (show (fv_2 2).toInt = 0 from by rw [show fv_2 2 = (0 : Int32) from (congrFun efv_2 2)]; decide), trivial⟩, ⟨by rw [ht]; exact hP, va_K.moved hW.alike hK⟩⟩, hS.F ht⟩) hS.2.2 dX12_take_11
set_option maxHeartbeats 4000000 in
set_option maxRecDepth 100000 in
theorem m_bylawC (l : Launch) (dC : Nat → ClassId) (dI : Nat → Nat → Nat) (sz h : Nat) (ad : Nat → Nat) (cA : Nat → ClassId) (hd : dM h ad) (fv : Nat → Int32) (wd : Int64) (ar : Nat → Nat → Int32) (hF_fv : rF fv) (hA_ar : rA ar) (dd : Int32) (hp_vM : vM fv ar) : Met l yX12_bylaw (.code yX12_bylaw cX12_bylaw 3 (some .int) :: lw_good) ({ frames := 7, cells := 0, slots := 0, locals := 151 }) (va_Pc [.ref h, .int dd] (prM dC dI h ad cA fv wd ar sz)) (va_Qi (fun (r : Int32) (u : mS) => rF u.1 ∧ rA u.2.2 ∧ fM [0, 2, 37, 38, 39, 40, 41, 42, 43, 44, 45, 58, 59, 60, 61, 62, 63] fv u.1 ∧ fA [47, 48, 49, 50, 51, 52, 53, 54, 55, 56, 57] ar u.2.2 ∧ ((u.1 2).toInt = 0) ∧ (rd_by (rd_T (rd_b (ar 1)) (fv 2).toInt.toNat) (rd_S (rd_b (ar 1)) (fv 2).toInt.toNat) (rd_N (rd_b (ar 1)) (fv 2).toInt.toNat) r (u.1 43) (fv 43) (u.1 58) (fv 58) (fv 3) dd) ∧ (vM u.1 u.2.2) ∧ True) (enM dC dI h ad cA) (aM h ad sz)) 0 0 (aM h ad sz) := by
  refine Met.ofW (cc := cX12_bylaw) (maxL := 3) (ret := (some .int)) (by decide) rfl ?_
  intro p e s m args below meth c s₁ B hml hv
  obtain ⟨rfl, hsz, hP, hK⟩ := hv
  have hx := B.exec
  have hb := B.bytes
  have hr := B.returns
  have hts := atoms_spec (ws := (.code yX12_bylaw cX12_bylaw 3 (some .int) :: lw_good)) B.pre
  have htg : ∀ w ∈ lw_good, w.before _ s = true := fun w hw => hts w (List.mem_cons_of_mem _ hw)
  have hown : s.vm.findClass RX12 = some m.cls := findClass_of_methodNamed B.named
  have hlocks := B.notSynchronized
  subst hsz
  have hS : va_S (aM h ad s.heap.size) s.heap s.heap [] := va_S.rf
  have hl := lv_entry ([.ref h, .int dd]) (n := 3) (Nat.le_of_ble_eq_true rfl)
  rw [lg_entry_eq]
  generalize (lg_sl ([.ref h, .int dd]) ++ List.replicate (3 - (lg_sl ([.ref h, .int dd])).length) Slot.unset).toArray = ls at hl ⊢
  have hl : lv_has ls 3 [(0, .ref h), (1, .int dd)] := hl
  obtain ⟨b9, hb9⟩ : ∃ z : Nat → Int, z = rd_b (ar 1) := ⟨_, rfl⟩
  obtain ⟨n9, hn9⟩ : ∃ z : Nat, z = (fv 2).toInt.toNat := ⟨_, rfl⟩
  have zc199 : (199 : Int32).toInt = 199 := by decide
  have zc10 : (10 : Int32).toInt = 10 := by decide
  have zcm1 : ((-1) : Int32).toInt = (-1) := by decide
  have z_1 : 0 ≤ (fv 58).toInt ∧ (fv 58).toInt ≤ 10 := hF_fv 58
  have z_2 : 0 ≤ (fv 3).toInt ∧ (fv 3).toInt ≤ 199 := hF_fv 3
  have z_3 : 0 ≤ (fv 2).toInt ∧ (fv 2).toInt ≤ 340 := hF_fv 2
  refine lv_aload_n hx hb dX12_bylaw_0 rfl (lv_at hl 0 rfl) ?_
  refine lv_iconst (v := 0) hx hb dX12_bylaw_1 (by decide) ?_
  refine pM_0 hx hb htg hown hK hP hS hd dX12_bylaw_2 (fun H locs fv_4 efv_4 hP hS => ?_)
  have hF_fv_4 : rF fv_4 := rF_put hF_fv efv_4 (iv_any _)
  refine lv_aload_n hx hb dX12_bylaw_5 rfl (lv_at hl 0 rfl) ?_
  refine lv_aload_n hx hb dX12_bylaw_6 rfl (lv_at hl 0 rfl) ?_
  refine va_calli (va_runV (As := []) (rest := [.ref h]) ⟨hx, hb, hml, hown, hts⟩ (m_takeD l dC dI H.size h ad cA hd fv_4 wd ar hF_fv_4 hA_ar) (cwV 0 hts (gV kw_8_5 kw_8_7 kw_p_60 kw_1_15 kw_8_8) rfl rfl rfl (by decide +kernel) ⟨Nat.le_of_ble_eq_true rfl, Nat.le_of_ble_eq_true rfl⟩) ⟨fun a U g mk q => ⟨q.1, q.2.1, q.2.2.1, va_K.moved (u := U) (U := U.calling g mk a) (Vm.Alike.refl U.vm) q.2.2.2⟩, va_recv hK hP (ci := 12) (q0 := 0) rfl rfl, fun U hU hW => ⟨rfl, by rw [hU], by rw [hU]; exact hP, va_K.moved hW.alike hK⟩⟩ rfl rfl hl.1 rfl (lv_room (Nat.le_of_ble_eq_true rfl)) dX12_bylaw_7 ⟨Nat.le_of_ble_eq_true rfl, Nat.le_of_ble_eq_true rfl⟩) hS (fun q _ h9 => aM_up hS q h9) (aM_up hS) (fun r_5 u t H1 locs ht _ hw hB _ hk1 hS => ?_)
  obtain ⟨fv_9, wd_10, ar_11⟩ := u
  obtain ⟨hF_fv_9, hA_ar_11, fr_12, fa_13, p_6, p_7, p_8, -⟩ := hw
  have hP : va_P (dC, dI) vwCl (wsM h ad cA fv_9 wd_10 ar_11) H1 := by have h9 := hB.1; rw [ht] at h9; exact h9
  have fr_12 : fM [2] fv_4 fv_9 := fr_12
  have fa_13 : fA [] ar ar_11 := fa_13
  have p_7 : r_5 = fv_4 2 := p_7
  have p_8 : (fv_9 2).toInt = 0 := p_8
  generalize H1 = H at hP hS ⊢
  have k_14 : r_5 = fv 2 := (p_7).trans (((fM_put (fM_rf [0] _) efv_4 (by decide)) 2 rfl))
  refine pM_37 hx hb htg hown hK hP hS hd dX12_bylaw_10 (fun H locs fv_15 efv_15 hP hS => ?_)
  have hF_fv_15 : rF fv_15 := rF_put hF_fv_9 efv_15 p_6
  refine lv_aload_n hx hb dX12_bylaw_13 rfl (lv_at hl 0 rfl) ?_
  refine gM_58 hx hb htg hown hK hP dX12_bylaw_14 ?_
  refine my_ti (y := fv 58) ((congrFun efv_15 58).trans ((fr_12 58 rfl).trans ((congrFun efv_4 58)))) ?_
  have i_16 : 0 ≤ (fv 58).toInt ∧ (fv 58).toInt ≤ 10 := hF_fv 58
  refine lv_bipush (v := 10) hx hb dX12_bylaw_17 (by decide) ?_
  refine lv_icmp_eq (tgt := 36) hx hb dX12_bylaw_19 (by decide) (fun c_17 => ?_) (fun c_17 => ?_)
  · skip
    have i_18 : 10 ≤ (fv 58).toInt ∧ (fv 58).toInt ≤ 10 := iv_eq1 (⟨by decide, by decide⟩ : (10 : Int) ≤ (10 : Int32).toInt ∧ (10 : Int32).toInt ≤ 10) c_17
    refine lv_sipush (v := (-1000)) hx hb dX12_bylaw_36 (by decide) ?_
    have z_20 : ((-1000) : Int32).toInt = (-1000) := by decide
    exact W.iret (v := (-1000)) hx hb hr (fun t ht hW => ⟨⟨(-1000), (fv_15, wd_10, ar_11), rfl, ⟨hF_fv_15, hA_ar_11, (fM_put (fM_call (fM_put (fM_rf [0, 2, 37, 38, 39, 40, 41, 42, 43, 44, 45, 58, 59, 60, 61, 62, 63] _) efv_4 (by decide)) fr_12 (by decide)) efv_15 (by decide)), (fA_call (fA_rf [47, 48, 49, 50, 51, 52, 53, 54, 55, 56, 57] _) fa_13 (by decide)), (show (fv_15 2).toInt = 0 from by rw [show fv_15 2 = (fv_9 2) from (congrFun efv_15 2)]; omega), (show rd_by (rd_T (rd_b (ar 1)) (fv 2).toInt.toNat) (rd_S (rd_b (ar 1)) (fv 2).toInt.toNat) (rd_N (rd_b (ar 1)) (fv 2).toInt.toNat) ((-1000) : Int32) (fv_15 43) (fv 43) (fv_15 58) (fv 58) (fv 3) dd from by have : (fv_4 58).toInt = (fv 58).toInt := congrArg Int32.toInt ((fM_put (fM_rf [0] _) efv_4 (by decide)) 58 rfl); have : (fv_4 3).toInt = (fv 3).toInt := congrArg Int32.toInt ((fM_put (fM_rf [0] _) efv_4 (by decide)) 3 rfl); have : (fv_9 58).toInt = (fv_4 58).toInt := congrArg Int32.toInt ((fM_call (fM_rf [2] _) fr_12 (by decide)) 58 rfl); have : (fv_9 3).toInt = (fv_4 3).toInt := congrArg Int32.toInt ((fM_call (fM_rf [2] _) fr_12 (by decide)) 3 rfl); have : (fv_15 58).toInt = (fv_9 58).toInt := congrArg Int32.toInt ((fM_put (fM_rf [37] _) efv_15 (by decide)) 58 rfl); have : (fv_15 3).toInt = (fv_9 3).toInt := congrArg Int32.toInt ((fM_put (fM_rf [37] _) efv_15 (by decide)) 3 rfl); exact Or.inl ⟨by omega, rfl, ((fM_put (fM_call (fM_put (fM_rf [0, 2, 37] _) efv_4 (by decide)) fr_12 (by decide)) efv_15 (by decide)) 43 rfl), ((fM_put (fM_call (fM_put (fM_rf [0, 2, 37] _) efv_4 (by decide)) fr_12 (by decide)) efv_15 (by decide)) 58 rfl)⟩), (vM_fr hp_vM (fM_put (fM_call (fM_put (fM_rf [0, 2, 37] _) efv_4 (by decide)) fr_12 (by decide)) efv_15 (by decide)) (fA_call (fA_rf [] _) fa_13 (by decide)) rfl rfl rfl rfl rfl), trivial⟩, ⟨by rw [ht]; exact hP, va_K.moved hW.alike hK⟩⟩, hS.F ht⟩) hS.2.2 dX12_bylaw_39
  · skip
    have i_21 : 0 ≤ (fv 58).toInt ∧ (fv 58).toInt ≤ 9 := iv_neh i_16 (by decide) c_17
    have k_22 : ¬ (fv 58).toInt = 10 := fun q => c_17 (Int32.toInt_inj.mp q)
    refine lv_iload_n hx hb dX12_bylaw_22 rfl (lv_at hl 1 rfl) ?_
    refine lv_aload_n hx hb dX12_bylaw_23 rfl (lv_at hl 0 rfl) ?_
    refine gM_3 hx hb htg hown hK hP dX12_bylaw_24 ?_
    refine my_ti (y := fv 3) ((congrFun efv_15 3).trans ((fr_12 3 rfl).trans ((congrFun efv_4 3)))) ?_
    have i_23 : 0 ≤ (fv 3).toInt ∧ (fv 3).toInt ≤ 199 := hF_fv 3
    refine lv_sipush (v := 199) hx hb dX12_bylaw_27 (by decide) ?_
    refine va_calli (va_runS (As := [.int dd, .int (fv 3), .int 199]) (rest := []) ⟨hx, hb, hml, hown, hts⟩ (m_isIn l H.size dd (fv 3) 199) (va_cwS 3 hts (gS kw_7_218 kw_7_219 kw_1_15 kw_7_220) rfl rfl rfl (by decide +kernel) ⟨Nat.le_of_ble_eq_true rfl, Nat.le_of_ble_eq_true rfl⟩) ⟨fun a U g mk q => ⟨q.1, q.2⟩, fun U hU hW => ⟨rfl, congrArg Array.size hU⟩⟩ rfl rfl hl.1 rfl (lv_room (Nat.le_of_ble_eq_true rfl)) dX12_bylaw_30 ⟨Nat.le_of_ble_eq_true rfl, Nat.le_of_ble_eq_true rfl⟩) hS (fun q _ h9 => nM_up hS q h9) (nM_up hS) (fun r_24 u t H1 locs ht _ hw hB _ hk1 hS => ?_)
    obtain ⟨p_25, p_26, -⟩ := hw
    have hP := my_keepM hP hk1
    generalize H1 = H at hP hS ⊢
    rcases p_26 with ⟨rfl, p_26⟩ | ⟨rfl, p_26⟩
    · skip
      refine lv_if_ne (tgt := 40) hx hb dX12_bylaw_33 (by decide) (fun c_27 => ?_) (fun c_27 => ?_)
      · skip
        exact absurd c_27 (by decide)
      · skip
        refine lv_sipush (v := (-1000)) hx hb dX12_bylaw_36 (by decide) ?_
        have z_28 : ((-1000) : Int32).toInt = (-1000) := by decide
        exact W.iret (v := (-1000)) hx hb hr (fun t ht hW => ⟨⟨(-1000), (fv_15, wd_10, ar_11), rfl, ⟨hF_fv_15, hA_ar_11, (fM_put (fM_call (fM_put (fM_rf [0, 2, 37, 38, 39, 40, 41, 42, 43, 44, 45, 58, 59, 60, 61, 62, 63] _) efv_4 (by decide)) fr_12 (by decide)) efv_15 (by decide)), (fA_call (fA_rf [47, 48, 49, 50, 51, 52, 53, 54, 55, 56, 57] _) fa_13 (by decide)), (show (fv_15 2).toInt = 0 from by rw [show fv_15 2 = (fv_9 2) from (congrFun efv_15 2)]; omega), (show rd_by (rd_T (rd_b (ar 1)) (fv 2).toInt.toNat) (rd_S (rd_b (ar 1)) (fv 2).toInt.toNat) (rd_N (rd_b (ar 1)) (fv 2).toInt.toNat) ((-1000) : Int32) (fv_15 43) (fv 43) (fv_15 58) (fv 58) (fv 3) dd from by have : (fv_4 58).toInt = (fv 58).toInt := congrArg Int32.toInt ((fM_put (fM_rf [0] _) efv_4 (by decide)) 58 rfl); have : (fv_4 3).toInt = (fv 3).toInt := congrArg Int32.toInt ((fM_put (fM_rf [0] _) efv_4 (by decide)) 3 rfl); have : (fv_9 58).toInt = (fv_4 58).toInt := congrArg Int32.toInt ((fM_call (fM_rf [2] _) fr_12 (by decide)) 58 rfl); have : (fv_9 3).toInt = (fv_4 3).toInt := congrArg Int32.toInt ((fM_call (fM_rf [2] _) fr_12 (by decide)) 3 rfl); have : (fv_15 58).toInt = (fv_9 58).toInt := congrArg Int32.toInt ((fM_put (fM_rf [37] _) efv_15 (by decide)) 58 rfl); have : (fv_15 3).toInt = (fv_9 3).toInt := congrArg Int32.toInt ((fM_put (fM_rf [37] _) efv_15 (by decide)) 3 rfl); exact Or.inl ⟨by omega, rfl, ((fM_put (fM_call (fM_put (fM_rf [0, 2, 37] _) efv_4 (by decide)) fr_12 (by decide)) efv_15 (by decide)) 43 rfl), ((fM_put (fM_call (fM_put (fM_rf [0, 2, 37] _) efv_4 (by decide)) fr_12 (by decide)) efv_15 (by decide)) 58 rfl)⟩), (vM_fr hp_vM (fM_put (fM_call (fM_put (fM_rf [0, 2, 37] _) efv_4 (by decide)) fr_12 (by decide)) efv_15 (by decide)) (fA_call (fA_rf [] _) fa_13 (by decide)) rfl rfl rfl rfl rfl), trivial⟩, ⟨by rw [ht]; exact hP, va_K.moved hW.alike hK⟩⟩, hS.F ht⟩) hS.2.2 dX12_bylaw_39
    · skip
      have i_29 : 0 ≤ dd.toInt ∧ dd.toInt ≤ 2147483647 := iv_le2 i_23 (iv_any dd) (Int32.le_iff_toInt_le.mpr p_26.1)
      have i_30 : 0 ≤ dd.toInt ∧ dd.toInt ≤ 199 := iv_le1 i_29 (⟨by decide, by decide⟩ : (199 : Int) ≤ (199 : Int32).toInt ∧ (199 : Int32).toInt ≤ 199) (Int32.le_iff_toInt_le.mpr p_26.2)
      refine lv_if_ne (tgt := 40) hx hb dX12_bylaw_33 (by decide) (fun c_31 => ?_) (fun c_31 => ?_)
      · skip
        refine lv_aload_n hx hb dX12_bylaw_40 rfl (lv_at hl 0 rfl) ?_
        refine lv_iconst (v := 0) hx hb dX12_bylaw_41 (by decide) ?_
        refine pM_43 hx hb htg hown hK hP hS hd dX12_bylaw_42 (fun H locs fv_32 efv_32 hP hS => ?_)
        have hF_fv_32 : rF fv_32 := rF_put hF_fv_15 efv_32 (iv_any _)
        refine lv_aload_n hx hb dX12_bylaw_45 rfl (lv_at hl 0 rfl) ?_
        refine lv_iconst (v := 0) hx hb dX12_bylaw_46 (by decide) ?_
        refine pM_45 hx hb htg hown hK hP hS hd dX12_bylaw_47 (fun H locs fv_33 efv_33 hP hS => ?_)
        have hF_fv_33 : rF fv_33 := rF_put hF_fv_32 efv_33 (iv_any _)
        refine lv_aload_n hx hb dX12_bylaw_50 rfl (lv_at hl 0 rfl) ?_
        refine lv_iconst (v := 0) hx hb dX12_bylaw_51 (by decide) ?_
        refine pM_59 hx hb htg hown hK hP hS hd dX12_bylaw_52 (fun H locs fv_34 efv_34 hP hS => ?_)
        have hF_fv_34 : rF fv_34 := rF_put hF_fv_33 efv_34 (iv_w (⟨by decide, by decide⟩ : (0 : Int) ≤ (0 : Int32).toInt ∧ (0 : Int32).toInt ≤ 0) (by decide) (by decide))
        refine lv_aload_n hx hb dX12_bylaw_55 rfl (lv_at hl 0 rfl) ?_
        refine lv_iconst (v := 0) hx hb dX12_bylaw_56 (by decide) ?_
        refine pM_60 hx hb htg hown hK hP hS hd dX12_bylaw_57 (fun H locs fv_35 efv_35 hP hS => ?_)
        have hF_fv_35 : rF fv_35 := rF_put hF_fv_34 efv_35 (iv_w (⟨by decide, by decide⟩ : (0 : Int) ≤ (0 : Int32).toInt ∧ (0 : Int32).toInt ≤ 0) (by decide) (by decide))
        refine lv_aload_n hx hb dX12_bylaw_60 rfl (lv_at hl 0 rfl) ?_
        refine lv_iconst (v := 0) hx hb dX12_bylaw_61 (by decide) ?_
        refine pM_62 hx hb htg hown hK hP hS hd dX12_bylaw_62 (fun H locs fv_36 efv_36 hP hS => ?_)
        have hF_fv_36 : rF fv_36 := rF_put hF_fv_35 efv_36 (iv_w (⟨by decide, by decide⟩ : (0 : Int) ≤ (0 : Int32).toInt ∧ (0 : Int32).toInt ≤ 0) (by decide) (by decide))
        refine lv_aload_n hx hb dX12_bylaw_65 rfl (lv_at hl 0 rfl) ?_
        refine lv_iconst (v := 0) hx hb dX12_bylaw_66 (by decide) ?_
        refine pM_63 hx hb htg hown hK hP hS hd dX12_bylaw_67 (fun H locs fv_37 efv_37 hP hS => ?_)
        have hF_fv_37 : rF fv_37 := rF_put hF_fv_36 efv_37 (iv_w (⟨by decide, by decide⟩ : (0 : Int) ≤ (0 : Int32).toInt ∧ (0 : Int32).toInt ≤ 0) (by decide) (by decide))
        refine lv_aload_n hx hb dX12_bylaw_70 rfl (lv_at hl 0 rfl) ?_
        refine gM_48 hx hb htg hown hK hP dX12_bylaw_71 ?_
        refine lv_bipush (v := 10) hx hb dX12_bylaw_74 (by decide) ?_
        refine lv_iconst (v := 0) hx hb dX12_bylaw_76 (by decide) ?_
        refine sM_48 hx hb hK hP hS hd (iv_in (⟨by decide, by decide⟩ : (10 : Int) ≤ (10 : Int32).toInt ∧ (10 : Int32).toInt ≤ 10) (by decide) (by decide)) dX12_bylaw_77 (fun H locs ar_38 ear_38 hP hS => ?_)
        have hA_ar_38 : rA ar_38 := rA_put hA_ar_11 ear_38 (iv_any _)
        refine lv_aload_n hx hb dX12_bylaw_78 rfl (lv_at hl 0 rfl) ?_
        refine lv_iconst (v := 0) hx hb dX12_bylaw_79 (by decide) ?_
        refine pM_38 hx hb htg hown hK hP hS hd dX12_bylaw_80 (fun H locs fv_39 efv_39 hP hS => ?_)
        have hF_fv_39 : rF fv_39 := rF_put hF_fv_37 efv_39 (iv_w (⟨by decide, by decide⟩ : (0 : Int) ≤ (0 : Int32).toInt ∧ (0 : Int32).toInt ≤ 0) (by decide) (by decide))
        refine lv_aload_n hx hb dX12_bylaw_83 rfl (lv_at hl 0 rfl) ?_
        have hsz9 : (fv_39 37).toInt = (n9 : Nat) := by rw [show fv_39 37 = fv 2 from ((congrFun efv_39 37).trans ((congrFun efv_37 37).trans ((congrFun efv_36 37).trans ((congrFun efv_35 37).trans ((congrFun efv_34 37).trans ((congrFun efv_33 37).trans ((congrFun efv_32 37).trans ((congrFun efv_15 37))))))))).trans k_14, hn9]; omega
        have hto9 : (fv_39 38).toInt = 0 := by rw [show fv_39 38 = (0 : Int32) from (congrFun efv_39 38)]; decide
        have z_40 : (fv_39 37).toInt = r_5.toInt := congrArg Int32.toInt ((congrFun efv_39 37).trans ((congrFun efv_37 37).trans ((congrFun efv_36 37).trans ((congrFun efv_35 37).trans ((congrFun efv_34 37).trans ((congrFun efv_33 37).trans ((congrFun efv_32 37).trans ((congrFun efv_15 37)))))))))
        have z_41 : 0 ≤ (fv_39 37).toInt ∧ (fv_39 37).toInt ≤ 340 := hF_fv_39 37
        have z_42 : (fv_39 38).toInt = (0 : Int32).toInt := congrArg Int32.toInt ((congrFun efv_39 38))
        have z_43 : (0 : Int32).toInt = 0 := by decide
        have z_44 : 0 ≤ (fv_39 38).toInt ∧ (fv_39 38).toInt ≤ 340 := hF_fv_39 38
        have z_45 : (fv_39 37).toInt = r_5.toInt := congrArg Int32.toInt ((congrFun efv_39 37).trans ((congrFun efv_37 37).trans ((congrFun efv_36 37).trans ((congrFun efv_35 37).trans ((congrFun efv_34 37).trans ((congrFun efv_33 37).trans ((congrFun efv_32 37).trans ((congrFun efv_15 37)))))))))
        have z_46 : 0 ≤ (fv_39 37).toInt ∧ (fv_39 37).toInt ≤ 340 := hF_fv_39 37
        have z_47 : (fv_39 38).toInt = (0 : Int32).toInt := congrArg Int32.toInt ((congrFun efv_39 38))
        have z_48 : (0 : Int32).toInt = 0 := by decide
        have z_49 : 0 ≤ (fv_39 38).toInt ∧ (fv_39 38).toInt ≤ 340 := hF_fv_39 38
        have z_50 : (fv_39 37).toInt = r_5.toInt := congrArg Int32.toInt ((congrFun efv_39 37).trans ((congrFun efv_37 37).trans ((congrFun efv_36 37).trans ((congrFun efv_35 37).trans ((congrFun efv_34 37).trans ((congrFun efv_33 37).trans ((congrFun efv_32 37).trans ((congrFun efv_15 37)))))))))
        have z_51 : 0 ≤ (fv_39 37).toInt ∧ (fv_39 37).toInt ≤ 340 := hF_fv_39 37
        refine va_callv (va_runV (As := []) (rest := []) ⟨hx, hb, hml, hown, hts⟩ (m_goC l dC dI H.size h ad cA hd fv_39 wd_10 ar_38 hF_fv_39 hA_ar_38 0 (hto9.trans rfl) (by omega)) (cwV 0 hts (gV kw_8_60 kw_8_62 kw_p_64 kw_1_15 kw_8_63) rfl rfl rfl (by decide +kernel) ⟨Nat.le_of_ble_eq_true rfl, Nat.le_of_ble_eq_true rfl⟩) ⟨fun a U g mk q => ⟨q.1, q.2.1, q.2.2.1, va_K.moved (u := U) (U := U.calling g mk a) (Vm.Alike.refl U.vm) q.2.2.2⟩, va_recv hK hP (ci := 12) (q0 := 0) rfl rfl, fun U hU hW => ⟨rfl, by rw [hU], by rw [hU]; exact hP, va_K.moved hW.alike hK⟩⟩ rfl rfl hl.1 rfl (lv_room (Nat.le_of_ble_eq_true rfl)) dX12_bylaw_84 ⟨Nat.le_of_ble_eq_true rfl, Nat.le_of_ble_eq_true rfl⟩) hS (fun q _ h9 => aM_up hS q h9) (aM_up hS) (fun u t H1 locs ht _ hw hB _ hk1 hS => ?_)
        obtain ⟨fv_56, wd_57, ar_58⟩ := u
        obtain ⟨hF_fv_56, hA_ar_58, fr_59, fa_60, p_53, p_54, p_55, -⟩ := hw
        have hP : va_P (dC, dI) vwCl (wsM h ad cA fv_56 wd_57 ar_58) H1 := by have h9 := hB.1; rw [ht] at h9; exact h9
        have fr_59 : fM [38, 39, 40, 41, 42] fv_39 fv_56 := fr_59
        have fa_60 : fA [] ar_38 ar_58 := fa_60
        have p_53 : (fv_56 39).toInt = (rd_S (rd_b (ar_38 1)) (fv_39 37).toInt.toNat 0 : Nat) := p_53
        have p_54 : rd_st (rd_b (ar_38 1)) (fv_39 37).toInt.toNat 0 < rd_lim ((fv_39 37).toInt.toNat) → (fv_56 38).toInt = (rd_en (rd_b (ar_38 1)) (fv_39 37).toInt.toNat (0 + 1) : Nat) := p_54
        have p_55 : rd_rel (rd_T (rd_b (ar_38 1)) (fv_39 37).toInt.toNat 0) (rd_N (rd_b (ar_38 1)) (fv_39 37).toInt.toNat 0) (fv_56 40) (fv_56 42) (fv_56 41) wd_57 := p_55
        generalize H1 = H at hP hS ⊢
        have m_61 : rd_mt b9 n9 0 (fv_56 37) (fv_56 38) (fv_56 39) (fv_56 40) (fv_56 42) (fv_56 41) wd_57 := rd_mt_0 (by omega) (by rw [show fv_56 37 = fv_39 37 from fr_59 37 rfl]; exact hsz9) (by have h9 := p_53; rw [← (hb9.trans (congrArg rd_b (show ar_38 1 = ar 1 from ((fA_put (fA_call (fA_rf [48] _) fa_13 (by decide)) ear_38 (by decide)) 1 rfl)).symm)), show (fv_39 37).toInt.toNat = n9 from (by omega)] at h9; exact h9) (by have h9 := p_54; rw [← (hb9.trans (congrArg rd_b (show ar_38 1 = ar 1 from ((fA_put (fA_call (fA_rf [48] _) fa_13 (by decide)) ear_38 (by decide)) 1 rfl)).symm)), show (fv_39 37).toInt.toNat = n9 from (by omega)] at h9; exact h9) (by have h9 := p_55; rw [← (hb9.trans (congrArg rd_b (show ar_38 1 = ar 1 from ((fA_put (fA_call (fA_rf [48] _) fa_13 (by decide)) ear_38 (by decide)) 1 rfl)).symm)), show (fv_39 37).toInt.toNat = n9 from (by omega)] at h9; exact h9)
        have z_62 : (fv_56 59).toInt = (0 : Int32).toInt := congrArg Int32.toInt ((fr_59 59 rfl).trans ((congrFun efv_39 59).trans ((congrFun efv_37 59).trans ((congrFun efv_36 59).trans ((congrFun efv_35 59).trans ((congrFun efv_34 59)))))))
        have z_63 : (0 : Int32).toInt = 0 := by decide
        have z_64 : 0 ≤ (fv_56 59).toInt ∧ (fv_56 59).toInt ≤ 16 := hF_fv_56 59
        have z_65 : (fv_56 60).toInt = (0 : Int32).toInt := congrArg Int32.toInt ((fr_59 60 rfl).trans ((congrFun efv_39 60).trans ((congrFun efv_37 60).trans ((congrFun efv_36 60).trans ((congrFun efv_35 60))))))
        have z_66 : (0 : Int32).toInt = 0 := by decide
        have z_67 : 0 ≤ (fv_56 60).toInt ∧ (fv_56 60).toInt ≤ 120 := hF_fv_56 60
        have z_68 : (fv_56 62).toInt = (0 : Int32).toInt := congrArg Int32.toInt ((fr_59 62 rfl).trans ((congrFun efv_39 62).trans ((congrFun efv_37 62).trans ((congrFun efv_36 62)))))
        have z_69 : (0 : Int32).toInt = 0 := by decide
        have z_70 : 0 ≤ (fv_56 62).toInt ∧ (fv_56 62).toInt ≤ 50 := hF_fv_56 62
        have z_71 : (fv_56 63).toInt = (0 : Int32).toInt := congrArg Int32.toInt ((fr_59 63 rfl).trans ((congrFun efv_39 63).trans ((congrFun efv_37 63))))
        have z_72 : (0 : Int32).toInt = 0 := by decide
        have z_73 : (-100) ≤ (fv_56 63).toInt ∧ (fv_56 63).toInt ≤ 10 := hF_fv_56 63
        have hp_74 : rL fv_56 ar_58 := (fun k hk => absurd hk (by omega))
        refine my_cut (P := fun R9 a9 Q9 => ∀ (n_86 : Nat) (fv_75 : Nat → Int32) (ar_77 : Nat → Nat → Int32) (wd_79 : Int64) (H : Heap) (locs : List Loc) (ls : Array Slot), 16 - (fv_75 59).toInt < (n_86 : Int) → rF fv_75 → fM [38, 39, 40, 41, 42, 43, 44, 45, 59, 60, 61, 62, 63] fv_56 fv_75 → rA ar_77 → fA [48, 50, 51, 52, 53, 54, 55, 56, 57] ar_58 ar_77 → rL fv_75 ar_77 → vM fv_75 ar_77 → ((fv_75 60).toInt ≤ 2 * (fv_75 62).toInt) → (0 ≤ (fv_75 63).toInt + (fv_75 62).toInt) → (0 ≤ (fv_75 59).toInt ∧ (fv_75 59).toInt ≤ 16) → (∃ kk : Nat, rd_mt b9 n9 kk (fv_75 37) (fv_75 38) (fv_75 39) (fv_75 40) (fv_75 42) (fv_75 41) wd_79 ∧ rd_txt (rd_T b9 n9) (rd_N b9 n9) = rd_tt (rd_T b9 n9) (rd_N b9 n9) (400 - (fv_75 59).toInt.toNat) kk ((fv_75 62).toInt.toNat) ((fv_75 59).toInt.toNat) (decide ((fv_75 45).toInt = 1)) ∧ (fv_75 63).toInt = 0 ∧ ((fv_75 45).toInt = 0 ∨ (fv_75 45).toInt = 1) ∧ (fv_75 43).toInt = 0) → va_P (dC, dI) vwCl (wsM h ad cA fv_75 wd_79 ar_77) H → va_S (aM h ad s.heap.size) s.heap H locs → lv_has ls 3 [(0, .ref h), (1, .int dd)] → W p l e R9 s m a9 below meth c H locs 0 0 Q9 (F0 m 87 ls [])) ?_ (fun hj_88 => ?_)
        · intro n_86
          induction n_86 with
          | zero => intro fv_75 ar_77 wd_79 H locs ls fu_87 hF_fv_75 fr_76 hA_ar_77 fa_78 hp_80 hp_81 q_82 q_83 q_84 q_85; exfalso; omega
          | succ n_86 ih_86 =>
            intro fv_75 ar_77 wd_79 H locs ls fu_87 hF_fv_75 fr_76 hA_ar_77 fa_78 hp_80 hp_81 q_82 q_83 q_84 q_85 hP hS hl
            obtain ⟨kk, hmt0, htx0, hwn0, htd0, hfa0⟩ := q_85
            have hk40 := rd_mt_k hmt0
            have hkd0 := hmt0.2.2.1.1
            have z_89 : 0 ≤ (fv_75 59).toInt ∧ (fv_75 59).toInt ≤ 16 := hF_fv_75 59
            refine lv_aload_n hx hb dX12_bylaw_87 rfl (lv_at hl 0 rfl) ?_
            refine gM_40 hx hb htg hown hK hP dX12_bylaw_88 ?_
            refine lv_if_eq (tgt := 115) hx hb dX12_bylaw_91 (by decide) (fun c_90 => ?_) (fun c_90 => ?_)
            · skip
              have i_91 : 0 ≤ (fv_75 40).toInt ∧ (fv_75 40).toInt ≤ 0 := iv_eq1 (⟨by decide, by decide⟩ : (0 : Int) ≤ (0 : Int32).toInt ∧ (0 : Int32).toInt ≤ 0) c_90
              refine lv_aload_n hx hb dX12_bylaw_115 rfl (lv_at hl 0 rfl) ?_
              refine gM_47 hx hb htg hown hK hP dX12_bylaw_116 ?_
              refine lv_aload_n hx hb dX12_bylaw_119 rfl (lv_at hl 0 rfl) ?_
              refine gM_58 hx hb htg hown hK hP dX12_bylaw_120 ?_
              refine my_ti (y := fv 58) ((fr_76 58 rfl).trans ((fr_59 58 rfl).trans ((congrFun efv_39 58).trans ((congrFun efv_37 58).trans ((congrFun efv_36 58).trans ((congrFun efv_35 58).trans ((congrFun efv_34 58).trans ((congrFun efv_33 58).trans ((congrFun efv_32 58).trans ((congrFun efv_15 58).trans ((fr_12 58 rfl).trans ((congrFun efv_4 58))))))))))))) ?_
              refine lv_aload_n hx hb dX12_bylaw_123 rfl (lv_at hl 0 rfl) ?_
              refine gM_59 hx hb htg hown hK hP dX12_bylaw_124 ?_
              have i_93 : 0 ≤ (fv_75 59).toInt ∧ (fv_75 59).toInt ≤ 16 := hF_fv_75 59
              refine sM_47 hx hb hK hP hS hd (iv_in i_21 (by decide) (by decide)) dX12_bylaw_127 (fun H locs ar_94 ear_94 hP hS => ?_)
              have hA_ar_94 : rA ar_94 := rA_put hA_ar_77 ear_94 i_93
              have hp_95 : vM fv_75 ar_94 := vM_47 hp_81 hA_ar_77 ear_94 (by have h58 : (0 : Int) ≤ (fv_75 58).toInt ∧ (fv_75 58).toInt ≤ 10 := hF_fv_75 58; have h57 : (fv_75 58).toInt = (fv 58).toInt := congrArg Int32.toInt ((fr_76 58 rfl).trans ((fr_59 58 rfl).trans ((congrFun efv_39 58).trans ((congrFun efv_37 58).trans ((congrFun efv_36 58).trans ((congrFun efv_35 58).trans ((congrFun efv_34 58).trans ((congrFun efv_33 58).trans ((congrFun efv_32 58).trans ((congrFun efv_15 58).trans ((fr_12 58 rfl).trans ((congrFun efv_4 58))))))))))))); show _ ≤ (((fv 58).toInt.toNat : Nat) : Int); omega)
              refine lv_aload_n hx hb dX12_bylaw_128 rfl (lv_at hl 0 rfl) ?_
              refine gM_48 hx hb htg hown hK hP dX12_bylaw_129 ?_
              refine lv_aload_n hx hb dX12_bylaw_132 rfl (lv_at hl 0 rfl) ?_
              refine gM_58 hx hb htg hown hK hP dX12_bylaw_133 ?_
              refine my_ti (y := fv 58) ((fr_76 58 rfl).trans ((fr_59 58 rfl).trans ((congrFun efv_39 58).trans ((congrFun efv_37 58).trans ((congrFun efv_36 58).trans ((congrFun efv_35 58).trans ((congrFun efv_34 58).trans ((congrFun efv_33 58).trans ((congrFun efv_32 58).trans ((congrFun efv_15 58).trans ((fr_12 58 rfl).trans ((congrFun efv_4 58))))))))))))) ?_
              refine lv_aload_n hx hb dX12_bylaw_136 rfl (lv_at hl 0 rfl) ?_
              refine gM_48 hx hb htg hown hK hP dX12_bylaw_137 ?_
              refine lv_bipush (v := 10) hx hb dX12_bylaw_140 (by decide) ?_
              refine lM_48 hx hb hK hP (iv_in (⟨by decide, by decide⟩ : (10 : Int) ≤ (10 : Int32).toInt ∧ (10 : Int32).toInt ≤ 10) (by decide) (by decide)) dX12_bylaw_142 (fun v_96 ev_96 => ?_)
              refine sM_48 hx hb hK hP hS hd (iv_in i_21 (by decide) (by decide)) dX12_bylaw_143 (fun H locs ar_97 ear_97 hP hS => ?_)
              have hA_ar_97 : rA ar_97 := rA_put hA_ar_94 ear_97 (iv_any _)
              refine lv_aload_n hx hb dX12_bylaw_144 rfl (lv_at hl 0 rfl) ?_
              refine gM_49 hx hb htg hown hK hP dX12_bylaw_145 ?_
              refine lv_aload_n hx hb dX12_bylaw_148 rfl (lv_at hl 0 rfl) ?_
              refine gM_58 hx hb htg hown hK hP dX12_bylaw_149 ?_
              refine my_ti (y := fv 58) ((fr_76 58 rfl).trans ((fr_59 58 rfl).trans ((congrFun efv_39 58).trans ((congrFun efv_37 58).trans ((congrFun efv_36 58).trans ((congrFun efv_35 58).trans ((congrFun efv_34 58).trans ((congrFun efv_33 58).trans ((congrFun efv_32 58).trans ((congrFun efv_15 58).trans ((fr_12 58 rfl).trans ((congrFun efv_4 58))))))))))))) ?_
              refine lv_iload_n hx hb dX12_bylaw_152 rfl (lv_at hl 1 rfl) ?_
              refine sM_49 hx hb hK hP hS hd (iv_in i_21 (by decide) (by decide)) dX12_bylaw_153 (fun H locs ar_98 ear_98 hP hS => ?_)
              have hA_ar_98 : rA ar_98 := rA_put hA_ar_97 ear_98 (iv_any _)
              refine lv_iconst (v := 0) hx hb dX12_bylaw_154 (by decide) ?_
              refine lv_istore_n (lv' := [(2, .int 0), (0, .ref h), (1, .int dd)]) hx hb dX12_bylaw_155 rfl hl (by decide) rfl (fun ls hl => ?_)
              refine my_cut (P := fun R9 a9 Q9 => ∀ (n_105 : Nat) (x_99 : Int32) (ar_100 : Nat → Nat → Int32) (H : Heap) (locs : List Loc) (ls : Array Slot), 16 - x_99.toInt < (n_105 : Int) → (0 ≤ x_99.toInt ∧ x_99.toInt ≤ 16) → rA ar_100 → fA [50, 51, 52, 53] ar_98 ar_100 → rL fv_75 ar_100 → vM fv_75 ar_100 → (∀ j : Nat, (j : Int) < x_99.toInt → ar_100 52 (16 * (fv 58).toInt.toNat + j) = ar_100 52 (160 + j) ∧ ar_100 53 (16 * (fv 58).toInt.toNat + j) = ar_100 53 (160 + j)) → va_P (dC, dI) vwCl (wsM h ad cA fv_75 wd_79 ar_100) H → va_S (aM h ad s.heap.size) s.heap H locs → lv_has ls 3 [(0, .ref h), (2, .int x_99)] → W p l e R9 s m a9 below meth c H locs 0 0 Q9 (F0 m 156 ls [])) ?_ (fun hj_107 => ?_)
              · intro n_105
                induction n_105 with
                | zero => intro x_99 ar_100 H locs ls fu_106 i_x_99 hA_ar_100 fa_101 hp_102 hp_103 q_104; exfalso; omega
                | succ n_105 ih_105 =>
                  intro x_99 ar_100 H locs ls fu_106 i_x_99 hA_ar_100 fa_101 hp_102 hp_103 q_104 hP hS hl
                  refine lv_iload_n hx hb dX12_bylaw_156 rfl (lv_at hl 1 rfl) ?_
                  refine lv_aload_n hx hb dX12_bylaw_157 rfl (lv_at hl 0 rfl) ?_
                  refine gM_59 hx hb htg hown hK hP dX12_bylaw_158 ?_
                  refine lv_icmp_ge (tgt := 266) hx hb dX12_bylaw_161 (by decide) (fun c_108 => ?_) (fun c_108 => ?_)
                  · skip
                    have k_109 := Int32.le_iff_toInt_le.mp c_108
                    refine lv_iconst (v := 0) hx hb dX12_bylaw_266 (by decide) ?_
                    refine lv_istore_n (lv' := [(2, .int 0), (0, .ref h)]) hx hb dX12_bylaw_267 rfl hl (by decide) rfl (fun ls hl => ?_)
                    refine my_cut (P := fun R9 a9 Q9 => ∀ (n_145 : Nat) (x_139 : Int32) (ar_140 : Nat → Nat → Int32) (H : Heap) (locs : List Loc) (ls : Array Slot), 120 - x_139.toInt < (n_145 : Int) → (0 ≤ x_139.toInt ∧ x_139.toInt ≤ 120) → rA ar_140 → fA [54, 55, 56] ar_100 ar_140 → rL fv_75 ar_140 → vM fv_75 ar_140 → (∀ j : Nat, (j : Int) < x_139.toInt → ar_140 54 (120 * (fv 58).toInt.toNat + j) = ar_140 54 (1200 + j)) → va_P (dC, dI) vwCl (wsM h ad cA fv_75 wd_79 ar_140) H → va_S (aM h ad s.heap.size) s.heap H locs → lv_has ls 3 [(0, .ref h), (2, .int x_139)] → W p l e R9 s m a9 below meth c H locs 0 0 Q9 (F0 m 268 ls [])) ?_ (fun hj_147 => ?_)
                    · intro n_145
                      induction n_145 with
                      | zero => intro x_139 ar_140 H locs ls fu_146 i_x_139 hA_ar_140 fa_141 hp_142 hp_143 q_144; exfalso; omega
                      | succ n_145 ih_145 =>
                        intro x_139 ar_140 H locs ls fu_146 i_x_139 hA_ar_140 fa_141 hp_142 hp_143 q_144 hP hS hl
                        refine lv_iload_n hx hb dX12_bylaw_268 rfl (lv_at hl 1 rfl) ?_
                        refine lv_aload_n hx hb dX12_bylaw_269 rfl (lv_at hl 0 rfl) ?_
                        refine gM_60 hx hb htg hown hK hP dX12_bylaw_270 ?_
                        have i_148 : 0 ≤ (fv_75 60).toInt ∧ (fv_75 60).toInt ≤ 120 := hF_fv_75 60
                        refine lv_icmp_ge (tgt := 354) hx hb dX12_bylaw_273 (by decide) (fun c_149 => ?_) (fun c_149 => ?_)
                        · skip
                          have k_150 := Int32.le_iff_toInt_le.mp c_149
                          refine lv_aload_n hx hb dX12_bylaw_354 rfl (lv_at hl 0 rfl) ?_
                          refine lv_dup hx hb dX12_bylaw_355 rfl ?_
                          refine gM_58 hx hb htg hown hK hP dX12_bylaw_356 ?_
                          refine my_ti (y := fv 58) ((fr_76 58 rfl).trans ((fr_59 58 rfl).trans ((congrFun efv_39 58).trans ((congrFun efv_37 58).trans ((congrFun efv_36 58).trans ((congrFun efv_35 58).trans ((congrFun efv_34 58).trans ((congrFun efv_33 58).trans ((congrFun efv_32 58).trans ((congrFun efv_15 58).trans ((fr_12 58 rfl).trans ((congrFun efv_4 58))))))))))))) ?_
                          refine lv_iconst (v := 1) hx hb dX12_bylaw_359 (by decide) ?_
                          refine lv_iadd hx hb dX12_bylaw_360 ?_
                          refine lv_topi (fun v_175 ev_175 => ?_)
                          have t_176 : v_175.toInt = (fv 58).toInt + 1 ∧ 1 ≤ v_175.toInt ∧ v_175.toInt ≤ 10 := iv_addc ev_175 i_21 (by decide) (by decide) (by decide)
                          have z_178 : (fv_75 58).toInt = (fv 58).toInt := congrArg Int32.toInt ((fr_76 58 rfl).trans ((fr_59 58 rfl).trans ((congrFun efv_39 58).trans ((congrFun efv_37 58).trans ((congrFun efv_36 58).trans ((congrFun efv_35 58).trans ((congrFun efv_34 58).trans ((congrFun efv_33 58).trans ((congrFun efv_32 58).trans ((congrFun efv_15 58).trans ((fr_12 58 rfl).trans ((congrFun efv_4 58)))))))))))))
                          have z_179 : 0 ≤ (fv_75 58).toInt ∧ (fv_75 58).toInt ≤ 10 := hF_fv_75 58
                          have z_180 : 0 ≤ (fv_75 59).toInt ∧ (fv_75 59).toInt ≤ 16 := hF_fv_75 59
                          have z_181 : 0 ≤ (fv_75 60).toInt ∧ (fv_75 60).toInt ≤ 120 := hF_fv_75 60
                          refine pM_58 hx hb htg hown hK hP hS hd dX12_bylaw_361 (fun H locs fv_182 efv_182 hP hS => ?_)
                          have hF_fv_182 : rF fv_182 := rF_put hF_fv_75 efv_182 (iv_w t_176.2 (by decide) (by decide))
                          have z_183 : (fv_182 58).toInt = v_175.toInt := congrArg Int32.toInt ((congrFun efv_182 58))
                          have z_184 : 0 ≤ (fv_182 58).toInt ∧ (fv_182 58).toInt ≤ 10 := hF_fv_182 58
                          have b58 : (fv_75 58).toInt.toNat = (fv 58).toInt.toNat := by omega
                          have n47 : (ar_140 47 (fv_75 58).toInt.toNat).toInt = (fv_75 59).toInt := by rw [((fA_call (fA_call (fA_put (fA_put (fA_rf [48, 49, 50, 51, 52, 53, 54, 55, 56] _) ear_97 (by decide)) ear_98 (by decide)) fa_101 (by decide)) fa_141 (by decide)) 47 rfl), ear_94]; show (upd _ ((fv 58).toInt.toNat) _ _).toInt = _; rw [b58, up_eq] <;> omega
                          have hp_185 : vM fv_182 ar_140 := vM_add hp_143 hp_142 hA_ar_140 (by omega) (by omega) n47 (fun j hj => by rw [b58, ((fA_call (fA_rf [54, 55, 56] _) fa_141 (by decide)) 52 rfl), ((fA_call (fA_rf [54, 55, 56] _) fa_141 (by decide)) 53 rfl)]; exact q_104 j (by omega)) (fun j hj => by rw [b58]; exact q_144 j (by omega))
                          refine lv_aload_n hx hb dX12_bylaw_364 rfl (lv_at hl 0 rfl) ?_
                          refine gM_59 hx hb htg hown hK hP dX12_bylaw_365 ?_
                          refine my_ti (y := fv_75 59) ((congrFun efv_182 59)) ?_
                          exact W.iret (v := fv_75 59) hx hb hr (fun t ht hW => ⟨⟨fv_75 59, (fv_182, wd_79, ar_140), rfl, ⟨hF_fv_182, hA_ar_140, (fM_put (fM_call (fM_call (fM_put (fM_put (fM_put (fM_put (fM_put (fM_put (fM_put (fM_put (fM_call (fM_put (fM_rf [0, 2, 37, 38, 39, 40, 41, 42, 43, 44, 45, 58, 59, 60, 61, 62, 63] _) efv_4 (by decide)) fr_12 (by decide)) efv_15 (by decide)) efv_32 (by decide)) efv_33 (by decide)) efv_34 (by decide)) efv_35 (by decide)) efv_36 (by decide)) efv_37 (by decide)) efv_39 (by decide)) fr_59 (by decide)) fr_76 (by decide)) efv_182 (by decide)), (fA_call (fA_call (fA_put (fA_put (fA_put (fA_call (fA_call (fA_put (fA_call (fA_rf [47, 48, 49, 50, 51, 52, 53, 54, 55, 56, 57] _) fa_13 (by decide)) ear_38 (by decide)) fa_60 (by decide)) fa_78 (by decide)) ear_94 (by decide)) ear_97 (by decide)) ear_98 (by decide)) fa_101 (by decide)) fa_141 (by decide)), (show (fv_182 2).toInt = 0 from by rw [show fv_182 2 = (fv_9 2) from (congrFun efv_182 2).trans ((fr_76 2 rfl).trans ((fr_59 2 rfl).trans ((congrFun efv_39 2).trans ((congrFun efv_37 2).trans ((congrFun efv_36 2).trans ((congrFun efv_35 2).trans ((congrFun efv_34 2).trans ((congrFun efv_33 2).trans ((congrFun efv_32 2).trans ((congrFun efv_15 2)))))))))))]; omega), (show rd_by (rd_T (rd_b (ar 1)) (fv 2).toInt.toNat) (rd_S (rd_b (ar 1)) (fv 2).toInt.toNat) (rd_N (rd_b (ar 1)) (fv 2).toInt.toNat) (fv_75 59) (fv_182 43) (fv 43) (fv_182 58) (fv 58) (fv 3) dd from by have : (fv_4 59).toInt = (fv 59).toInt := congrArg Int32.toInt ((fM_put (fM_rf [0] _) efv_4 (by decide)) 59 rfl); have : (fv_4 62).toInt = (fv 62).toInt := congrArg Int32.toInt ((fM_put (fM_rf [0] _) efv_4 (by decide)) 62 rfl); have : (fv_4 63).toInt = (fv 63).toInt := congrArg Int32.toInt ((fM_put (fM_rf [0] _) efv_4 (by decide)) 63 rfl); have : (fv_4 45).toInt = (fv 45).toInt := congrArg Int32.toInt ((fM_put (fM_rf [0] _) efv_4 (by decide)) 45 rfl); have : (fv_4 43).toInt = (fv 43).toInt := congrArg Int32.toInt ((fM_put (fM_rf [0] _) efv_4 (by decide)) 43 rfl); have : (fv_4 44).toInt = (fv 44).toInt := congrArg Int32.toInt ((fM_put (fM_rf [0] _) efv_4 (by decide)) 44 rfl); have : (fv_4 58).toInt = (fv 58).toInt := congrArg Int32.toInt ((fM_put (fM_rf [0] _) efv_4 (by decide)) 58 rfl); have : (fv_4 3).toInt = (fv 3).toInt := congrArg Int32.toInt ((fM_put (fM_rf [0] _) efv_4 (by decide)) 3 rfl); have : (fv_9 59).toInt = (fv_4 59).toInt := congrArg Int32.toInt ((fM_call (fM_rf [2] _) fr_12 (by decide)) 59 rfl); have : (fv_9 62).toInt = (fv_4 62).toInt := congrArg Int32.toInt ((fM_call (fM_rf [2] _) fr_12 (by decide)) 62 rfl); have : (fv_9 63).toInt = (fv_4 63).toInt := congrArg Int32.toInt ((fM_call (fM_rf [2] _) fr_12 (by decide)) 63 rfl); have : (fv_9 45).toInt = (fv_4 45).toInt := congrArg Int32.toInt ((fM_call (fM_rf [2] _) fr_12 (by decide)) 45 rfl); have : (fv_9 43).toInt = (fv_4 43).toInt := congrArg Int32.toInt ((fM_call (fM_rf [2] _) fr_12 (by decide)) 43 rfl); have : (fv_9 44).toInt = (fv_4 44).toInt := congrArg Int32.toInt ((fM_call (fM_rf [2] _) fr_12 (by decide)) 44 rfl); have : (fv_9 58).toInt = (fv_4 58).toInt := congrArg Int32.toInt ((fM_call (fM_rf [2] _) fr_12 (by decide)) 58 rfl); have : (fv_9 3).toInt = (fv_4 3).toInt := congrArg Int32.toInt ((fM_call (fM_rf [2] _) fr_12 (by decide)) 3 rfl); have : (fv_15 59).toInt = (fv_9 59).toInt := congrArg Int32.toInt ((fM_put (fM_rf [37] _) efv_15 (by decide)) 59 rfl); have : (fv_15 62).toInt = (fv_9 62).toInt := congrArg Int32.toInt ((fM_put (fM_rf [37] _) efv_15 (by decide)) 62 rfl); have : (fv_15 63).toInt = (fv_9 63).toInt := congrArg Int32.toInt ((fM_put (fM_rf [37] _) efv_15 (by decide)) 63 rfl); have : (fv_15 45).toInt = (fv_9 45).toInt := congrArg Int32.toInt ((fM_put (fM_rf [37] _) efv_15 (by decide)) 45 rfl); have : (fv_15 43).toInt = (fv_9 43).toInt := congrArg Int32.toInt ((fM_put (fM_rf [37] _) efv_15 (by decide)) 43 rfl); have : (fv_15 44).toInt = (fv_9 44).toInt := congrArg Int32.toInt ((fM_put (fM_rf [37] _) efv_15 (by decide)) 44 rfl); have : (fv_15 58).toInt = (fv_9 58).toInt := congrArg Int32.toInt ((fM_put (fM_rf [37] _) efv_15 (by decide)) 58 rfl); have : (fv_15 3).toInt = (fv_9 3).toInt := congrArg Int32.toInt ((fM_put (fM_rf [37] _) efv_15 (by decide)) 3 rfl); have : (fv_32 59).toInt = (fv_15 59).toInt := congrArg Int32.toInt ((fM_put (fM_rf [43] _) efv_32 (by decide)) 59 rfl); have : (fv_32 62).toInt = (fv_15 62).toInt := congrArg Int32.toInt ((fM_put (fM_rf [43] _) efv_32 (by decide)) 62 rfl); have : (fv_32 63).toInt = (fv_15 63).toInt := congrArg Int32.toInt ((fM_put (fM_rf [43] _) efv_32 (by decide)) 63 rfl); have : (fv_32 45).toInt = (fv_15 45).toInt := congrArg Int32.toInt ((fM_put (fM_rf [43] _) efv_32 (by decide)) 45 rfl); have : (fv_32 44).toInt = (fv_15 44).toInt := congrArg Int32.toInt ((fM_put (fM_rf [43] _) efv_32 (by decide)) 44 rfl); have : (fv_32 58).toInt = (fv_15 58).toInt := congrArg Int32.toInt ((fM_put (fM_rf [43] _) efv_32 (by decide)) 58 rfl); have : (fv_32 3).toInt = (fv_15 3).toInt := congrArg Int32.toInt ((fM_put (fM_rf [43] _) efv_32 (by decide)) 3 rfl); have : (fv_33 59).toInt = (fv_32 59).toInt := congrArg Int32.toInt ((fM_put (fM_rf [45] _) efv_33 (by decide)) 59 rfl); have : (fv_33 62).toInt = (fv_32 62).toInt := congrArg Int32.toInt ((fM_put (fM_rf [45] _) efv_33 (by decide)) 62 rfl); have : (fv_33 63).toInt = (fv_32 63).toInt := congrArg Int32.toInt ((fM_put (fM_rf [45] _) efv_33 (by decide)) 63 rfl); have : (fv_33 43).toInt = (fv_32 43).toInt := congrArg Int32.toInt ((fM_put (fM_rf [45] _) efv_33 (by decide)) 43 rfl); have : (fv_33 44).toInt = (fv_32 44).toInt := congrArg Int32.toInt ((fM_put (fM_rf [45] _) efv_33 (by decide)) 44 rfl); have : (fv_33 58).toInt = (fv_32 58).toInt := congrArg Int32.toInt ((fM_put (fM_rf [45] _) efv_33 (by decide)) 58 rfl); have : (fv_33 3).toInt = (fv_32 3).toInt := congrArg Int32.toInt ((fM_put (fM_rf [45] _) efv_33 (by decide)) 3 rfl); have : (fv_34 62).toInt = (fv_33 62).toInt := congrArg Int32.toInt ((fM_put (fM_rf [59] _) efv_34 (by decide)) 62 rfl); have : (fv_34 63).toInt = (fv_33 63).toInt := congrArg Int32.toInt ((fM_put (fM_rf [59] _) efv_34 (by decide)) 63 rfl); have : (fv_34 45).toInt = (fv_33 45).toInt := congrArg Int32.toInt ((fM_put (fM_rf [59] _) efv_34 (by decide)) 45 rfl); have : (fv_34 43).toInt = (fv_33 43).toInt := congrArg Int32.toInt ((fM_put (fM_rf [59] _) efv_34 (by decide)) 43 rfl); have : (fv_34 44).toInt = (fv_33 44).toInt := congrArg Int32.toInt ((fM_put (fM_rf [59] _) efv_34 (by decide)) 44 rfl); have : (fv_34 58).toInt = (fv_33 58).toInt := congrArg Int32.toInt ((fM_put (fM_rf [59] _) efv_34 (by decide)) 58 rfl); have : (fv_34 3).toInt = (fv_33 3).toInt := congrArg Int32.toInt ((fM_put (fM_rf [59] _) efv_34 (by decide)) 3 rfl); have : (fv_35 59).toInt = (fv_34 59).toInt := congrArg Int32.toInt ((fM_put (fM_rf [60] _) efv_35 (by decide)) 59 rfl); have : (fv_35 62).toInt = (fv_34 62).toInt := congrArg Int32.toInt ((fM_put (fM_rf [60] _) efv_35 (by decide)) 62 rfl); have : (fv_35 63).toInt = (fv_34 63).toInt := congrArg Int32.toInt ((fM_put (fM_rf [60] _) efv_35 (by decide)) 63 rfl); have : (fv_35 45).toInt = (fv_34 45).toInt := congrArg Int32.toInt ((fM_put (fM_rf [60] _) efv_35 (by decide)) 45 rfl); have : (fv_35 43).toInt = (fv_34 43).toInt := congrArg Int32.toInt ((fM_put (fM_rf [60] _) efv_35 (by decide)) 43 rfl); have : (fv_35 44).toInt = (fv_34 44).toInt := congrArg Int32.toInt ((fM_put (fM_rf [60] _) efv_35 (by decide)) 44 rfl); have : (fv_35 58).toInt = (fv_34 58).toInt := congrArg Int32.toInt ((fM_put (fM_rf [60] _) efv_35 (by decide)) 58 rfl); have : (fv_35 3).toInt = (fv_34 3).toInt := congrArg Int32.toInt ((fM_put (fM_rf [60] _) efv_35 (by decide)) 3 rfl); have : (fv_36 59).toInt = (fv_35 59).toInt := congrArg Int32.toInt ((fM_put (fM_rf [62] _) efv_36 (by decide)) 59 rfl); have : (fv_36 63).toInt = (fv_35 63).toInt := congrArg Int32.toInt ((fM_put (fM_rf [62] _) efv_36 (by decide)) 63 rfl); have : (fv_36 45).toInt = (fv_35 45).toInt := congrArg Int32.toInt ((fM_put (fM_rf [62] _) efv_36 (by decide)) 45 rfl); have : (fv_36 43).toInt = (fv_35 43).toInt := congrArg Int32.toInt ((fM_put (fM_rf [62] _) efv_36 (by decide)) 43 rfl); have : (fv_36 44).toInt = (fv_35 44).toInt := congrArg Int32.toInt ((fM_put (fM_rf [62] _) efv_36 (by decide)) 44 rfl); have : (fv_36 58).toInt = (fv_35 58).toInt := congrArg Int32.toInt ((fM_put (fM_rf [62] _) efv_36 (by decide)) 58 rfl); have : (fv_36 3).toInt = (fv_35 3).toInt := congrArg Int32.toInt ((fM_put (fM_rf [62] _) efv_36 (by decide)) 3 rfl); have : (fv_37 59).toInt = (fv_36 59).toInt := congrArg Int32.toInt ((fM_put (fM_rf [63] _) efv_37 (by decide)) 59 rfl); have : (fv_37 62).toInt = (fv_36 62).toInt := congrArg Int32.toInt ((fM_put (fM_rf [63] _) efv_37 (by decide)) 62 rfl); have : (fv_37 45).toInt = (fv_36 45).toInt := congrArg Int32.toInt ((fM_put (fM_rf [63] _) efv_37 (by decide)) 45 rfl); have : (fv_37 43).toInt = (fv_36 43).toInt := congrArg Int32.toInt ((fM_put (fM_rf [63] _) efv_37 (by decide)) 43 rfl); have : (fv_37 44).toInt = (fv_36 44).toInt := congrArg Int32.toInt ((fM_put (fM_rf [63] _) efv_37 (by decide)) 44 rfl); have : (fv_37 58).toInt = (fv_36 58).toInt := congrArg Int32.toInt ((fM_put (fM_rf [63] _) efv_37 (by decide)) 58 rfl); have : (fv_37 3).toInt = (fv_36 3).toInt := congrArg Int32.toInt ((fM_put (fM_rf [63] _) efv_37 (by decide)) 3 rfl); have : (fv_39 59).toInt = (fv_37 59).toInt := congrArg Int32.toInt ((fM_put (fM_rf [38] _) efv_39 (by decide)) 59 rfl); have : (fv_39 62).toInt = (fv_37 62).toInt := congrArg Int32.toInt ((fM_put (fM_rf [38] _) efv_39 (by decide)) 62 rfl); have : (fv_39 63).toInt = (fv_37 63).toInt := congrArg Int32.toInt ((fM_put (fM_rf [38] _) efv_39 (by decide)) 63 rfl); have : (fv_39 45).toInt = (fv_37 45).toInt := congrArg Int32.toInt ((fM_put (fM_rf [38] _) efv_39 (by decide)) 45 rfl); have : (fv_39 43).toInt = (fv_37 43).toInt := congrArg Int32.toInt ((fM_put (fM_rf [38] _) efv_39 (by decide)) 43 rfl); have : (fv_39 44).toInt = (fv_37 44).toInt := congrArg Int32.toInt ((fM_put (fM_rf [38] _) efv_39 (by decide)) 44 rfl); have : (fv_39 58).toInt = (fv_37 58).toInt := congrArg Int32.toInt ((fM_put (fM_rf [38] _) efv_39 (by decide)) 58 rfl); have : (fv_39 3).toInt = (fv_37 3).toInt := congrArg Int32.toInt ((fM_put (fM_rf [38] _) efv_39 (by decide)) 3 rfl); have : (fv_56 59).toInt = (fv_39 59).toInt := congrArg Int32.toInt ((fM_call (fM_rf [38, 39, 40, 41, 42] _) fr_59 (by decide)) 59 rfl); have : (fv_56 62).toInt = (fv_39 62).toInt := congrArg Int32.toInt ((fM_call (fM_rf [38, 39, 40, 41, 42] _) fr_59 (by decide)) 62 rfl); have : (fv_56 63).toInt = (fv_39 63).toInt := congrArg Int32.toInt ((fM_call (fM_rf [38, 39, 40, 41, 42] _) fr_59 (by decide)) 63 rfl); have : (fv_56 45).toInt = (fv_39 45).toInt := congrArg Int32.toInt ((fM_call (fM_rf [38, 39, 40, 41, 42] _) fr_59 (by decide)) 45 rfl); have : (fv_56 43).toInt = (fv_39 43).toInt := congrArg Int32.toInt ((fM_call (fM_rf [38, 39, 40, 41, 42] _) fr_59 (by decide)) 43 rfl); have : (fv_56 44).toInt = (fv_39 44).toInt := congrArg Int32.toInt ((fM_call (fM_rf [38, 39, 40, 41, 42] _) fr_59 (by decide)) 44 rfl); have : (fv_56 58).toInt = (fv_39 58).toInt := congrArg Int32.toInt ((fM_call (fM_rf [38, 39, 40, 41, 42] _) fr_59 (by decide)) 58 rfl); have : (fv_56 3).toInt = (fv_39 3).toInt := congrArg Int32.toInt ((fM_call (fM_rf [38, 39, 40, 41, 42] _) fr_59 (by decide)) 3 rfl); have : (fv_75 58).toInt = (fv_56 58).toInt := congrArg Int32.toInt ((fM_call (fM_rf [38, 39, 40, 41, 42, 43, 44, 45, 59, 60, 61, 62, 63] _) fr_76 (by decide)) 58 rfl); have : (fv_75 3).toInt = (fv_56 3).toInt := congrArg Int32.toInt ((fM_call (fM_rf [38, 39, 40, 41, 42, 43, 44, 45, 59, 60, 61, 62, 63] _) fr_76 (by decide)) 3 rfl); have : (fv_182 59).toInt = (fv_75 59).toInt := congrArg Int32.toInt ((fM_put (fM_rf [58] _) efv_182 (by decide)) 59 rfl); have : (fv_182 62).toInt = (fv_75 62).toInt := congrArg Int32.toInt ((fM_put (fM_rf [58] _) efv_182 (by decide)) 62 rfl); have : (fv_182 63).toInt = (fv_75 63).toInt := congrArg Int32.toInt ((fM_put (fM_rf [58] _) efv_182 (by decide)) 63 rfl); have : (fv_182 45).toInt = (fv_75 45).toInt := congrArg Int32.toInt ((fM_put (fM_rf [58] _) efv_182 (by decide)) 45 rfl); have : (fv_182 43).toInt = (fv_75 43).toInt := congrArg Int32.toInt ((fM_put (fM_rf [58] _) efv_182 (by decide)) 43 rfl); have : (fv_182 44).toInt = (fv_75 44).toInt := congrArg Int32.toInt ((fM_put (fM_rf [58] _) efv_182 (by decide)) 44 rfl); have : (fv_182 3).toInt = (fv_75 3).toInt := congrArg Int32.toInt ((fM_put (fM_rf [58] _) efv_182 (by decide)) 3 rfl); have : (fv_182 58).toInt = v_175.toInt := (by rw [show fv_182 58 = v_175 from (congrFun efv_182 58)]); rw [← hb9, ← hn9]; have hE9 : rd_txt (rd_T b9 n9) (rd_N b9 n9) = (0, kk, (fv_75 59).toInt.toNat) := htx0.trans (by rw [show 400 - (fv_75 59).toInt.toNat = (399 - (fv_75 59).toInt.toNat) + 1 from (by omega)]; exact rd_tt_end (by omega)); exact Or.inr ⟨(fun w => by omega), Or.inl ⟨by rw [hE9], by rw [hE9]; show _ = (((fv_75 59).toInt.toNat : Nat) : Int); omega, by omega, by omega⟩⟩), hp_185, trivial⟩, ⟨by rw [ht]; exact hP, va_K.moved hW.alike hK⟩⟩, hS.F ht⟩) hS.2.2 dX12_bylaw_368
                        · skip
                          have i_151 : 0 ≤ x_139.toInt ∧ x_139.toInt ≤ 119 := iv_lt1 i_x_139 i_148 (Int32.not_le.mp c_149)
                          have i_152 : 1 ≤ (fv_75 60).toInt ∧ (fv_75 60).toInt ≤ 120 := iv_lt2 i_x_139 i_148 (Int32.not_le.mp c_149)
                          have k_153 := Int32.lt_iff_toInt_lt.mp (Int32.not_le.mp c_149)
                          refine lv_aload_n hx hb dX12_bylaw_276 rfl (lv_at hl 0 rfl) ?_
                          refine gM_54 hx hb htg hown hK hP dX12_bylaw_277 ?_
                          refine lv_bipush (v := 120) hx hb dX12_bylaw_280 (by decide) ?_
                          refine lv_aload_n hx hb dX12_bylaw_282 rfl (lv_at hl 0 rfl) ?_
                          refine gM_58 hx hb htg hown hK hP dX12_bylaw_283 ?_
                          refine my_ti (y := fv 58) ((fr_76 58 rfl).trans ((fr_59 58 rfl).trans ((congrFun efv_39 58).trans ((congrFun efv_37 58).trans ((congrFun efv_36 58).trans ((congrFun efv_35 58).trans ((congrFun efv_34 58).trans ((congrFun efv_33 58).trans ((congrFun efv_32 58).trans ((congrFun efv_15 58).trans ((fr_12 58 rfl).trans ((congrFun efv_4 58))))))))))))) ?_
                          refine lv_imul hx hb dX12_bylaw_286 ?_
                          refine lv_topi (fun v_154 ev_154 => ?_)
                          have t_155 : v_154.toInt = 120 * (fv 58).toInt ∧ 0 ≤ v_154.toInt ∧ v_154.toInt ≤ 1080 := iv_mulc ev_154 i_21 (by decide) (by decide) (by decide) (by decide)
                          refine lv_iload_n hx hb dX12_bylaw_287 rfl (lv_at hl 1 rfl) ?_
                          refine lv_iadd hx hb dX12_bylaw_288 ?_
                          refine lv_topi (fun v_157 ev_157 => ?_)
                          have t_158 : v_157.toInt = v_154.toInt + x_139.toInt ∧ 0 ≤ v_157.toInt ∧ v_157.toInt ≤ 1199 := iv_add ev_157 t_155.2 i_151 (by decide) (by decide)
                          refine lv_aload_n hx hb dX12_bylaw_289 rfl (lv_at hl 0 rfl) ?_
                          refine gM_54 hx hb htg hown hK hP dX12_bylaw_290 ?_
                          refine lv_sipush (v := 1200) hx hb dX12_bylaw_293 (by decide) ?_
                          refine lv_iload_n hx hb dX12_bylaw_296 rfl (lv_at hl 1 rfl) ?_
                          refine lv_iadd hx hb dX12_bylaw_297 ?_
                          refine lv_topi (fun v_160 ev_160 => ?_)
                          have t_161 : v_160.toInt = x_139.toInt + 1200 ∧ 1200 ≤ v_160.toInt ∧ v_160.toInt ≤ 1319 := iv_addc (by rw [ev_160, Int32.add_comm]) i_151 (by decide) (by decide) (by decide)
                          refine lM_54 hx hb hK hP (iv_in t_161.2 (by decide) (by decide)) dX12_bylaw_298 (fun v_163 ev_163 => ?_)
                          have i_164 : 0 ≤ v_163.toInt ∧ v_163.toInt ≤ 15 := ev_163 ▸ hA_ar_140 54 _
                          refine sM_54 hx hb hK hP hS hd (iv_in t_158.2 (by decide) (by decide)) dX12_bylaw_299 (fun H locs ar_165 ear_165 hP hS => ?_)
                          have hA_ar_165 : rA ar_165 := rA_put hA_ar_140 ear_165 i_164
                          have hp_166 : vM fv_75 ar_165 := vM_54 hp_143 hA_ar_140 ear_165 (by have h58 : (0 : Int) ≤ (fv_75 58).toInt ∧ (fv_75 58).toInt ≤ 10 := hF_fv_75 58; have h57 : (fv_75 58).toInt = (fv 58).toInt := congrArg Int32.toInt ((fr_76 58 rfl).trans ((fr_59 58 rfl).trans ((congrFun efv_39 58).trans ((congrFun efv_37 58).trans ((congrFun efv_36 58).trans ((congrFun efv_35 58).trans ((congrFun efv_34 58).trans ((congrFun efv_33 58).trans ((congrFun efv_32 58).trans ((congrFun efv_15 58).trans ((fr_12 58 rfl).trans ((congrFun efv_4 58))))))))))))); show _ ≤ ((v_157.toInt.toNat : Nat) : Int); omega)
                          have hp_167 : rL fv_75 ar_165 := rL_54 hp_142 ear_165 (by show ((v_157.toInt.toNat : Nat) : Int) < 1200; omega)
                          refine lv_aload_n hx hb dX12_bylaw_300 rfl (lv_at hl 0 rfl) ?_
                          refine gM_55 hx hb htg hown hK hP dX12_bylaw_301 ?_
                          refine lv_bipush (v := 120) hx hb dX12_bylaw_304 (by decide) ?_
                          refine lv_aload_n hx hb dX12_bylaw_306 rfl (lv_at hl 0 rfl) ?_
                          refine gM_58 hx hb htg hown hK hP dX12_bylaw_307 ?_
                          refine my_ti (y := fv 58) ((fr_76 58 rfl).trans ((fr_59 58 rfl).trans ((congrFun efv_39 58).trans ((congrFun efv_37 58).trans ((congrFun efv_36 58).trans ((congrFun efv_35 58).trans ((congrFun efv_34 58).trans ((congrFun efv_33 58).trans ((congrFun efv_32 58).trans ((congrFun efv_15 58).trans ((fr_12 58 rfl).trans ((congrFun efv_4 58))))))))))))) ?_
                          refine lv_imul hx hb dX12_bylaw_310 ?_
                          refine my_ti (y := v_154) ev_154.symm ?_
                          refine lv_iload_n hx hb dX12_bylaw_311 rfl (lv_at hl 1 rfl) ?_
                          refine lv_iadd hx hb dX12_bylaw_312 ?_
                          refine my_ti (y := v_157) ev_157.symm ?_
                          refine lv_aload_n hx hb dX12_bylaw_313 rfl (lv_at hl 0 rfl) ?_
                          refine gM_55 hx hb htg hown hK hP dX12_bylaw_314 ?_
                          refine lv_sipush (v := 1200) hx hb dX12_bylaw_317 (by decide) ?_
                          refine lv_iload_n hx hb dX12_bylaw_320 rfl (lv_at hl 1 rfl) ?_
                          refine lv_iadd hx hb dX12_bylaw_321 ?_
                          refine my_ti (y := v_160) ev_160.symm ?_
                          refine lM_55 hx hb hK hP (iv_in t_161.2 (by decide) (by decide)) dX12_bylaw_322 (fun v_168 ev_168 => ?_)
                          refine sM_55 hx hb hK hP hS hd (iv_in t_158.2 (by decide) (by decide)) dX12_bylaw_323 (fun H locs ar_169 ear_169 hP hS => ?_)
                          have hA_ar_169 : rA ar_169 := rA_put hA_ar_165 ear_169 (iv_any _)
                          refine lv_aload_n hx hb dX12_bylaw_324 rfl (lv_at hl 0 rfl) ?_
                          refine gM_56 hx hb htg hown hK hP dX12_bylaw_325 ?_
                          refine lv_bipush (v := 120) hx hb dX12_bylaw_328 (by decide) ?_
                          refine lv_aload_n hx hb dX12_bylaw_330 rfl (lv_at hl 0 rfl) ?_
                          refine gM_58 hx hb htg hown hK hP dX12_bylaw_331 ?_
                          refine my_ti (y := fv 58) ((fr_76 58 rfl).trans ((fr_59 58 rfl).trans ((congrFun efv_39 58).trans ((congrFun efv_37 58).trans ((congrFun efv_36 58).trans ((congrFun efv_35 58).trans ((congrFun efv_34 58).trans ((congrFun efv_33 58).trans ((congrFun efv_32 58).trans ((congrFun efv_15 58).trans ((fr_12 58 rfl).trans ((congrFun efv_4 58))))))))))))) ?_
                          refine lv_imul hx hb dX12_bylaw_334 ?_
                          refine my_ti (y := v_154) ev_154.symm ?_
                          refine lv_iload_n hx hb dX12_bylaw_335 rfl (lv_at hl 1 rfl) ?_
                          refine lv_iadd hx hb dX12_bylaw_336 ?_
                          refine my_ti (y := v_157) ev_157.symm ?_
                          refine lv_aload_n hx hb dX12_bylaw_337 rfl (lv_at hl 0 rfl) ?_
                          refine gM_56 hx hb htg hown hK hP dX12_bylaw_338 ?_
                          refine lv_sipush (v := 1200) hx hb dX12_bylaw_341 (by decide) ?_
                          refine lv_iload_n hx hb dX12_bylaw_344 rfl (lv_at hl 1 rfl) ?_
                          refine lv_iadd hx hb dX12_bylaw_345 ?_
                          refine my_ti (y := v_160) ev_160.symm ?_
                          refine lM_56 hx hb hK hP (iv_in t_161.2 (by decide) (by decide)) dX12_bylaw_346 (fun v_170 ev_170 => ?_)
                          refine sM_56 hx hb hK hP hS hd (iv_in t_158.2 (by decide) (by decide)) dX12_bylaw_347 (fun H locs ar_171 ear_171 hP hS => ?_)
                          have hA_ar_171 : rA ar_171 := rA_put hA_ar_169 ear_171 (iv_any _)
                          have g54 : ar_171 54 = upd (ar_140 54) (120 * (fv 58).toInt.toNat + x_139.toInt.toNat) v_163 := by rw [((fA_put (fA_put (fA_rf [55, 56] _) ear_169 (by decide)) ear_171 (by decide)) 54 rfl), ear_165]; show upd (ar_140 54) (v_157.toInt.toNat) _ = _; rw [show v_157.toInt.toNat = 120 * (fv 58).toInt.toNat + x_139.toInt.toNat from by omega]
                          have x54 : v_163 = ar_140 54 (1200 + x_139.toInt.toNat) := by rw [ev_163]; congr 1; show v_160.toInt.toNat = _; omega
                          obtain ⟨v_172, ev_172⟩ : ∃ z : Int32, z = x_139 + 1 := ⟨_, rfl⟩
                          refine lv_iinc (v := v_172) (lv' := [(2, .int v_172), (0, .ref h)]) hx hb dX12_bylaw_348 hl (k := 1) rfl (by rw [ev_172]; rfl) (by decide) rfl (fun ls hl => ?_)
                          have t_173 : v_172.toInt = x_139.toInt + 1 ∧ 1 ≤ v_172.toInt ∧ v_172.toInt ≤ 120 := iv_addc ev_172 i_151 (by decide) (by decide) (by decide)
                          refine lv_goto (tgt := 268) hx hb dX12_bylaw_351 (by decide) ?_
                          exact ih_145 v_172 ar_171 _ _ ls (by omega) (iv_w t_173.2 (by decide) (by decide)) hA_ar_171 (fA_put (fA_put (fA_put (fA_call (fA_rf [54, 55, 56] _) fa_141 (by decide)) ear_165 (by decide)) ear_169 (by decide)) ear_171 (by decide)) (rL_fr hp_167 (fM_rf [] _) (fA_put (fA_put (fA_rf [55, 56] _) ear_169 (by decide)) ear_171 (by decide)) rfl rfl rfl rfl rfl) (vM_fr hp_166 (fM_rf [] _) (fA_put (fA_put (fA_rf [55, 56] _) ear_169 (by decide)) ear_171 (by decide)) rfl rfl rfl rfl rfl) (fun j hj => cp_st (fun j hj => q_144 j (by omega)) g54 x54 (by omega) j (by omega)) hP hS (lv_sub hl [1, 0] rfl)
                    · skip
                      have z_186 : (0 : Int32).toInt = 0 := by decide
                      exact hj_147 121 0 ar_100 _ _ ls (by first | decide | omega) (iv_w (⟨by decide, by decide⟩ : (0 : Int) ≤ (0 : Int32).toInt ∧ (0 : Int32).toInt ≤ 0) (by decide) (by decide)) hA_ar_100 (fA_rf [54, 55, 56] _) hp_102 hp_103 (fun j hj => absurd hj (by omega)) hP hS (lv_sub hl [1, 0] rfl)
                  · skip
                    have i_110 : 0 ≤ x_99.toInt ∧ x_99.toInt ≤ 15 := iv_lt1 i_x_99 i_93 (Int32.not_le.mp c_108)
                    have i_111 : 1 ≤ (fv_75 59).toInt ∧ (fv_75 59).toInt ≤ 16 := iv_lt2 i_x_99 i_93 (Int32.not_le.mp c_108)
                    have k_112 := Int32.lt_iff_toInt_lt.mp (Int32.not_le.mp c_108)
                    refine lv_aload_n hx hb dX12_bylaw_164 rfl (lv_at hl 0 rfl) ?_
                    refine gM_50 hx hb htg hown hK hP dX12_bylaw_165 ?_
                    refine lv_bipush (v := 16) hx hb dX12_bylaw_168 (by decide) ?_
                    refine lv_aload_n hx hb dX12_bylaw_170 rfl (lv_at hl 0 rfl) ?_
                    refine gM_58 hx hb htg hown hK hP dX12_bylaw_171 ?_
                    refine my_ti (y := fv 58) ((fr_76 58 rfl).trans ((fr_59 58 rfl).trans ((congrFun efv_39 58).trans ((congrFun efv_37 58).trans ((congrFun efv_36 58).trans ((congrFun efv_35 58).trans ((congrFun efv_34 58).trans ((congrFun efv_33 58).trans ((congrFun efv_32 58).trans ((congrFun efv_15 58).trans ((fr_12 58 rfl).trans ((congrFun efv_4 58))))))))))))) ?_
                    refine lv_imul hx hb dX12_bylaw_174 ?_
                    refine lv_topi (fun v_113 ev_113 => ?_)
                    have t_114 : v_113.toInt = 16 * (fv 58).toInt ∧ 0 ≤ v_113.toInt ∧ v_113.toInt ≤ 144 := iv_mulc ev_113 i_21 (by decide) (by decide) (by decide) (by decide)
                    refine lv_iload_n hx hb dX12_bylaw_175 rfl (lv_at hl 1 rfl) ?_
                    refine lv_iadd hx hb dX12_bylaw_176 ?_
                    refine lv_topi (fun v_116 ev_116 => ?_)
                    have t_117 : v_116.toInt = v_113.toInt + x_99.toInt ∧ 0 ≤ v_116.toInt ∧ v_116.toInt ≤ 159 := iv_add ev_116 t_114.2 i_110 (by decide) (by decide)
                    refine lv_aload_n hx hb dX12_bylaw_177 rfl (lv_at hl 0 rfl) ?_
                    refine gM_50 hx hb htg hown hK hP dX12_bylaw_178 ?_
                    refine lv_sipush (v := 160) hx hb dX12_bylaw_181 (by decide) ?_
                    refine lv_iload_n hx hb dX12_bylaw_184 rfl (lv_at hl 1 rfl) ?_
                    refine lv_iadd hx hb dX12_bylaw_185 ?_
                    refine lv_topi (fun v_119 ev_119 => ?_)
                    have t_120 : v_119.toInt = x_99.toInt + 160 ∧ 160 ≤ v_119.toInt ∧ v_119.toInt ≤ 175 := iv_addc (by rw [ev_119, Int32.add_comm]) i_110 (by decide) (by decide) (by decide)
                    refine lM_50 hx hb hK hP (iv_in t_120.2 (by decide) (by decide)) dX12_bylaw_186 (fun v_122 ev_122 => ?_)
                    refine sM_50 hx hb hK hP hS hd (iv_in t_117.2 (by decide) (by decide)) dX12_bylaw_187 (fun H locs ar_123 ear_123 hP hS => ?_)
                    have hA_ar_123 : rA ar_123 := rA_put hA_ar_100 ear_123 (iv_any _)
                    refine lv_aload_n hx hb dX12_bylaw_188 rfl (lv_at hl 0 rfl) ?_
                    refine gM_51 hx hb htg hown hK hP dX12_bylaw_189 ?_
                    refine lv_bipush (v := 16) hx hb dX12_bylaw_192 (by decide) ?_
                    refine lv_aload_n hx hb dX12_bylaw_194 rfl (lv_at hl 0 rfl) ?_
                    refine gM_58 hx hb htg hown hK hP dX12_bylaw_195 ?_
                    refine my_ti (y := fv 58) ((fr_76 58 rfl).trans ((fr_59 58 rfl).trans ((congrFun efv_39 58).trans ((congrFun efv_37 58).trans ((congrFun efv_36 58).trans ((congrFun efv_35 58).trans ((congrFun efv_34 58).trans ((congrFun efv_33 58).trans ((congrFun efv_32 58).trans ((congrFun efv_15 58).trans ((fr_12 58 rfl).trans ((congrFun efv_4 58))))))))))))) ?_
                    refine lv_imul hx hb dX12_bylaw_198 ?_
                    refine my_ti (y := v_113) ev_113.symm ?_
                    refine lv_iload_n hx hb dX12_bylaw_199 rfl (lv_at hl 1 rfl) ?_
                    refine lv_iadd hx hb dX12_bylaw_200 ?_
                    refine my_ti (y := v_116) ev_116.symm ?_
                    refine lv_aload_n hx hb dX12_bylaw_201 rfl (lv_at hl 0 rfl) ?_
                    refine gM_51 hx hb htg hown hK hP dX12_bylaw_202 ?_
                    refine lv_sipush (v := 160) hx hb dX12_bylaw_205 (by decide) ?_
                    refine lv_iload_n hx hb dX12_bylaw_208 rfl (lv_at hl 1 rfl) ?_
                    refine lv_iadd hx hb dX12_bylaw_209 ?_
                    refine my_ti (y := v_119) ev_119.symm ?_
                    refine lM_51 hx hb hK hP (iv_in t_120.2 (by decide) (by decide)) dX12_bylaw_210 (fun v_124 ev_124 => ?_)
                    refine sM_51 hx hb hK hP hS hd (iv_in t_117.2 (by decide) (by decide)) dX12_bylaw_211 (fun H locs ar_125 ear_125 hP hS => ?_)
                    have hA_ar_125 : rA ar_125 := rA_put hA_ar_123 ear_125 (iv_any _)
                    refine lv_aload_n hx hb dX12_bylaw_212 rfl (lv_at hl 0 rfl) ?_
                    refine gM_52 hx hb htg hown hK hP dX12_bylaw_213 ?_
                    refine lv_bipush (v := 16) hx hb dX12_bylaw_216 (by decide) ?_
                    refine lv_aload_n hx hb dX12_bylaw_218 rfl (lv_at hl 0 rfl) ?_
                    refine gM_58 hx hb htg hown hK hP dX12_bylaw_219 ?_
                    refine my_ti (y := fv 58) ((fr_76 58 rfl).trans ((fr_59 58 rfl).trans ((congrFun efv_39 58).trans ((congrFun efv_37 58).trans ((congrFun efv_36 58).trans ((congrFun efv_35 58).trans ((congrFun efv_34 58).trans ((congrFun efv_33 58).trans ((congrFun efv_32 58).trans ((congrFun efv_15 58).trans ((fr_12 58 rfl).trans ((congrFun efv_4 58))))))))))))) ?_
                    refine lv_imul hx hb dX12_bylaw_222 ?_
                    refine my_ti (y := v_113) ev_113.symm ?_
                    refine lv_iload_n hx hb dX12_bylaw_223 rfl (lv_at hl 1 rfl) ?_
                    refine lv_iadd hx hb dX12_bylaw_224 ?_
                    refine my_ti (y := v_116) ev_116.symm ?_
                    refine lv_aload_n hx hb dX12_bylaw_225 rfl (lv_at hl 0 rfl) ?_
                    refine gM_52 hx hb htg hown hK hP dX12_bylaw_226 ?_
                    refine lv_sipush (v := 160) hx hb dX12_bylaw_229 (by decide) ?_
                    refine lv_iload_n hx hb dX12_bylaw_232 rfl (lv_at hl 1 rfl) ?_
                    refine lv_iadd hx hb dX12_bylaw_233 ?_
                    refine my_ti (y := v_119) ev_119.symm ?_
                    refine lM_52 hx hb hK hP (iv_in t_120.2 (by decide) (by decide)) dX12_bylaw_234 (fun v_126 ev_126 => ?_)
                    have i_127 : 0 ≤ v_126.toInt ∧ v_126.toInt ≤ 120 := ev_126 ▸ hA_ar_125 52 _
                    refine sM_52 hx hb hK hP hS hd (iv_in t_117.2 (by decide) (by decide)) dX12_bylaw_235 (fun H locs ar_128 ear_128 hP hS => ?_)
                    have hA_ar_128 : rA ar_128 := rA_put hA_ar_125 ear_128 i_127
                    have hp_129 : vM fv_75 ar_128 := vM_52 (vM_fr hp_103 (fM_rf [] _) (fA_put (fA_put (fA_rf [50, 51] _) ear_123 (by decide)) ear_125 (by decide)) rfl rfl rfl rfl rfl) hA_ar_125 ear_128 (by have h58 : (0 : Int) ≤ (fv_75 58).toInt ∧ (fv_75 58).toInt ≤ 10 := hF_fv_75 58; have h57 : (fv_75 58).toInt = (fv 58).toInt := congrArg Int32.toInt ((fr_76 58 rfl).trans ((fr_59 58 rfl).trans ((congrFun efv_39 58).trans ((congrFun efv_37 58).trans ((congrFun efv_36 58).trans ((congrFun efv_35 58).trans ((congrFun efv_34 58).trans ((congrFun efv_33 58).trans ((congrFun efv_32 58).trans ((congrFun efv_15 58).trans ((fr_12 58 rfl).trans ((congrFun efv_4 58))))))))))))); show _ ≤ ((v_116.toInt.toNat : Nat) : Int); omega)
                    have hp_130 : rL fv_75 ar_128 := rL_52 (rL_fr hp_102 (fM_rf [] _) (fA_put (fA_put (fA_rf [50, 51] _) ear_123 (by decide)) ear_125 (by decide)) rfl rfl rfl rfl rfl) ear_128 (by show ((v_116.toInt.toNat : Nat) : Int) < 160 ∨ _ ≤ ((v_116.toInt.toNat : Nat) : Int); omega)
                    refine lv_aload_n hx hb dX12_bylaw_236 rfl (lv_at hl 0 rfl) ?_
                    refine gM_53 hx hb htg hown hK hP dX12_bylaw_237 ?_
                    refine lv_bipush (v := 16) hx hb dX12_bylaw_240 (by decide) ?_
                    refine lv_aload_n hx hb dX12_bylaw_242 rfl (lv_at hl 0 rfl) ?_
                    refine gM_58 hx hb htg hown hK hP dX12_bylaw_243 ?_
                    refine my_ti (y := fv 58) ((fr_76 58 rfl).trans ((fr_59 58 rfl).trans ((congrFun efv_39 58).trans ((congrFun efv_37 58).trans ((congrFun efv_36 58).trans ((congrFun efv_35 58).trans ((congrFun efv_34 58).trans ((congrFun efv_33 58).trans ((congrFun efv_32 58).trans ((congrFun efv_15 58).trans ((fr_12 58 rfl).trans ((congrFun efv_4 58))))))))))))) ?_
                    refine lv_imul hx hb dX12_bylaw_246 ?_
                    refine my_ti (y := v_113) ev_113.symm ?_
                    refine lv_iload_n hx hb dX12_bylaw_247 rfl (lv_at hl 1 rfl) ?_
                    refine lv_iadd hx hb dX12_bylaw_248 ?_
                    refine my_ti (y := v_116) ev_116.symm ?_
                    refine lv_aload_n hx hb dX12_bylaw_249 rfl (lv_at hl 0 rfl) ?_
                    refine gM_53 hx hb htg hown hK hP dX12_bylaw_250 ?_
                    refine lv_sipush (v := 160) hx hb dX12_bylaw_253 (by decide) ?_
                    refine lv_iload_n hx hb dX12_bylaw_256 rfl (lv_at hl 1 rfl) ?_
                    refine lv_iadd hx hb dX12_bylaw_257 ?_
                    refine my_ti (y := v_119) ev_119.symm ?_
                    refine lM_53 hx hb hK hP (iv_in t_120.2 (by decide) (by decide)) dX12_bylaw_258 (fun v_131 ev_131 => ?_)
                    have i_132 : 0 ≤ v_131.toInt ∧ v_131.toInt ≤ 120 := ev_131 ▸ hA_ar_128 53 _
                    refine sM_53 hx hb hK hP hS hd (iv_in t_117.2 (by decide) (by decide)) dX12_bylaw_259 (fun H locs ar_133 ear_133 hP hS => ?_)
                    have hA_ar_133 : rA ar_133 := rA_put hA_ar_128 ear_133 i_132
                    have hp_134 : vM fv_75 ar_133 := vM_53 hp_129 hA_ar_128 ear_133 (by have h58 : (0 : Int) ≤ (fv_75 58).toInt ∧ (fv_75 58).toInt ≤ 10 := hF_fv_75 58; have h57 : (fv_75 58).toInt = (fv 58).toInt := congrArg Int32.toInt ((fr_76 58 rfl).trans ((fr_59 58 rfl).trans ((congrFun efv_39 58).trans ((congrFun efv_37 58).trans ((congrFun efv_36 58).trans ((congrFun efv_35 58).trans ((congrFun efv_34 58).trans ((congrFun efv_33 58).trans ((congrFun efv_32 58).trans ((congrFun efv_15 58).trans ((fr_12 58 rfl).trans ((congrFun efv_4 58))))))))))))); show _ ≤ ((v_116.toInt.toNat : Nat) : Int); omega)
                    have hp_135 : rL fv_75 ar_133 := rL_53 hp_130 ear_133 (by show ((v_116.toInt.toNat : Nat) : Int) < 160 ∨ _ ≤ ((v_116.toInt.toNat : Nat) : Int); omega)
                    have g52 : ar_133 52 = upd (ar_100 52) (16 * (fv 58).toInt.toNat + x_99.toInt.toNat) v_126 := by rw [((fA_put (fA_rf [53] _) ear_133 (by decide)) 52 rfl), ear_128]; show upd (ar_125 52) (v_116.toInt.toNat) _ = _; rw [((fA_put (fA_put (fA_rf [50, 51] _) ear_123 (by decide)) ear_125 (by decide)) 52 rfl), show v_116.toInt.toNat = 16 * (fv 58).toInt.toNat + x_99.toInt.toNat from by omega]
                    have x52 : v_126 = ar_100 52 (160 + x_99.toInt.toNat) := by rw [ev_126, ((fA_put (fA_put (fA_rf [50, 51] _) ear_123 (by decide)) ear_125 (by decide)) 52 rfl)]; congr 1; show v_119.toInt.toNat = _; omega
                    have g53 : ar_133 53 = upd (ar_100 53) (16 * (fv 58).toInt.toNat + x_99.toInt.toNat) v_131 := by rw [show ar_133 53 = ar_133 53 from rfl, ear_133]; show upd (ar_128 53) (v_116.toInt.toNat) _ = _; rw [((fA_put (fA_put (fA_put (fA_rf [50, 51, 52] _) ear_123 (by decide)) ear_125 (by decide)) ear_128 (by decide)) 53 rfl), show v_116.toInt.toNat = 16 * (fv 58).toInt.toNat + x_99.toInt.toNat from by omega]
                    have x53 : v_131 = ar_100 53 (160 + x_99.toInt.toNat) := by rw [ev_131, ((fA_put (fA_put (fA_put (fA_rf [50, 51, 52] _) ear_123 (by decide)) ear_125 (by decide)) ear_128 (by decide)) 53 rfl)]; congr 1; show v_119.toInt.toNat = _; omega
                    obtain ⟨v_136, ev_136⟩ : ∃ z : Int32, z = x_99 + 1 := ⟨_, rfl⟩
                    refine lv_iinc (v := v_136) (lv' := [(2, .int v_136), (0, .ref h)]) hx hb dX12_bylaw_260 hl (k := 1) rfl (by rw [ev_136]; rfl) (by decide) rfl (fun ls hl => ?_)
                    have t_137 : v_136.toInt = x_99.toInt + 1 ∧ 1 ≤ v_136.toInt ∧ v_136.toInt ≤ 16 := iv_addc ev_136 i_110 (by decide) (by decide) (by decide)
                    refine lv_goto (tgt := 156) hx hb dX12_bylaw_263 (by decide) ?_
                    exact ih_105 v_136 ar_133 _ _ ls (by omega) (iv_w t_137.2 (by decide) (by decide)) hA_ar_133 (fA_put (fA_put (fA_put (fA_put (fA_call (fA_rf [50, 51, 52, 53] _) fa_101 (by decide)) ear_123 (by decide)) ear_125 (by decide)) ear_128 (by decide)) ear_133 (by decide)) hp_135 hp_134 (fun j hj => ⟨cp_st (fun j hj => (q_104 j (by omega)).1) g52 x52 (by omega) j (by omega), cp_st (fun j hj => (q_104 j (by omega)).2) g53 x53 (by omega) j (by omega)⟩) hP hS (lv_sub hl [1, 0] rfl)
              · skip
                have z_187 : (0 : Int32).toInt = 0 := by decide
                exact hj_107 17 0 ar_98 _ _ ls (by first | decide | omega) (iv_w (⟨by decide, by decide⟩ : (0 : Int) ≤ (0 : Int32).toInt ∧ (0 : Int32).toInt ≤ 0) (by decide) (by decide)) hA_ar_98 (fA_rf [50, 51, 52, 53] _) (rL_fr hp_80 (fM_rf [] _) (fA_put (fA_put (fA_put (fA_rf [47, 48, 49] _) ear_94 (by decide)) ear_97 (by decide)) ear_98 (by decide)) rfl rfl rfl rfl rfl) (vM_fr hp_95 (fM_rf [] _) (fA_put (fA_put (fA_rf [48, 49] _) ear_97 (by decide)) ear_98 (by decide)) rfl rfl rfl rfl rfl) (fun j hj => absurd hj (by omega)) hP hS (lv_sub hl [1, 0] rfl)
            · skip
              have k_188 : ¬ (fv_75 40).toInt = 0 := fun q => c_90 (Int32.toInt_inj.mp q)
              refine lv_aload_n hx hb dX12_bylaw_94 rfl (lv_at hl 0 rfl) ?_
              have z_189 : 0 ≤ (fv_75 60).toInt ∧ (fv_75 60).toInt ≤ 120 := hF_fv_75 60
              have z_190 : 0 ≤ (fv_75 62).toInt ∧ (fv_75 62).toInt ≤ 50 := hF_fv_75 62
              have z_191 : 0 ≤ (fv_75 62).toInt ∧ (fv_75 62).toInt ≤ 50 := hF_fv_75 62
              have z_192 : (-100) ≤ (fv_75 63).toInt ∧ (fv_75 63).toInt ≤ 10 := hF_fv_75 63
              have z_193 : (fv_75 37).toInt = r_5.toInt := congrArg Int32.toInt ((fr_76 37 rfl).trans ((fr_59 37 rfl).trans ((congrFun efv_39 37).trans ((congrFun efv_37 37).trans ((congrFun efv_36 37).trans ((congrFun efv_35 37).trans ((congrFun efv_34 37).trans ((congrFun efv_33 37).trans ((congrFun efv_32 37).trans ((congrFun efv_15 37)))))))))))
              have z_194 : 0 ≤ (fv_75 37).toInt ∧ (fv_75 37).toInt ≤ 340 := hF_fv_75 37
              have z_195 : 0 ≤ (fv_75 38).toInt ∧ (fv_75 38).toInt ≤ 340 := hF_fv_75 38
              have z_196 : 0 ≤ (fv_75 39).toInt ∧ (fv_75 39).toInt ≤ 340 := hF_fv_75 39
              have z_197 : (-100) ≤ (fv_75 63).toInt ∧ (fv_75 63).toInt ≤ 10 := hF_fv_75 63
              refine va_calli (va_runV (As := []) (rest := []) ⟨hx, hb, hml, hown, hts⟩ (m_readLineC l dC dI H.size h ad cA hd fv_75 wd_79 ar_77 hF_fv_75 hA_ar_77 b9 n9 kk (by omega) (by omega) (hb9.trans (congrArg rd_b (show ar_77 1 = ar 1 from ((fA_call (fA_call (fA_put (fA_call (fA_rf [48, 50, 51, 52, 53, 54, 55, 56, 57] _) fa_13 (by decide)) ear_38 (by decide)) fa_60 (by decide)) fa_78 (by decide)) 1 rfl)).symm)) hmt0 (by omega) (by omega) hp_80 hp_81) (cwV 0 hts (gV kw_8_79 kw_8_81 kw_p_66 kw_1_15 kw_8_82) rfl rfl rfl (by decide +kernel) ⟨Nat.le_of_ble_eq_true rfl, Nat.le_of_ble_eq_true rfl⟩) ⟨fun a U g mk q => ⟨q.1, q.2.1, q.2.2.1, va_K.moved (u := U) (U := U.calling g mk a) (Vm.Alike.refl U.vm) q.2.2.2⟩, va_recv hK hP (ci := 12) (q0 := 0) rfl rfl, fun U hU hW => ⟨rfl, by rw [hU], by rw [hU]; exact hP, va_K.moved hW.alike hK⟩⟩ rfl rfl hl.1 rfl (lv_room (Nat.le_of_ble_eq_true rfl)) dX12_bylaw_95 ⟨Nat.le_of_ble_eq_true rfl, Nat.le_of_ble_eq_true rfl⟩) hS (fun q _ h9 => aM_up hS q h9) (aM_up hS) (fun r_198 u t H1 locs ht _ hw hB _ hk1 hS => ?_)
              obtain ⟨fv_202, wd_203, ar_204⟩ := u
              obtain ⟨hF_fv_202, hA_ar_204, fr_205, fa_206, p_199, p_200, p_201, -⟩ := hw
              have hP : va_P (dC, dI) vwCl (wsM h ad cA fv_202 wd_203 ar_204) H1 := by have h9 := hB.1; rw [ht] at h9; exact h9
              have fr_205 : fM [38, 39, 40, 41, 42, 43, 44, 45, 59, 60, 61, 62, 63] fv_75 fv_202 := fr_205
              have fa_206 : fA [48, 50, 51, 52, 53, 54, 55, 56, 57] ar_77 ar_204 := fa_206
              have p_201 : vM fv_202 ar_204 := p_201
              generalize H1 = H at hP hS ⊢
              rcases p_200 with ⟨rfl, p_200⟩ | ⟨rfl, p_200⟩
              · skip
                have q_207 : 0 < (fv_202 43).toInt ∧ (rd_ln (rd_T b9 n9) (rd_N b9 n9) kk ((fv_75 62).toInt.toNat) ((fv_75 59).toInt.toNat) (decide ((fv_75 45).toInt = 1))).1 = (fv_202 43).toInt.toNat ∧ (fv_202 44).toInt = (rd_S b9 n9 (rd_ln (rd_T b9 n9) (rd_N b9 n9) kk ((fv_75 62).toInt.toNat) ((fv_75 59).toInt.toNat) (decide ((fv_75 45).toInt = 1))).2.1 : Nat) := p_200
                refine lv_if_ne (tgt := 108) hx hb dX12_bylaw_98 (by decide) (fun c_208 => ?_) (fun c_208 => ?_)
                · skip
                  exact absurd c_208 (by decide)
                · skip
                  refine lv_iconst (v := (-1)) hx hb dX12_bylaw_101 (by decide) ?_
                  refine lv_aload_n hx hb dX12_bylaw_102 rfl (lv_at hl 0 rfl) ?_
                  refine gM_44 hx hb htg hown hK hP dX12_bylaw_103 ?_
                  refine lv_isub hx hb dX12_bylaw_106 ?_
                  refine lv_topi (fun v_209 ev_209 => ?_)
                  have t_210 : v_209.toInt = ((-1) : Int32).toInt - (fv_202 44).toInt ∧ (-2147483648) ≤ v_209.toInt ∧ v_209.toInt ≤ 2147483647 := iv_sub ev_209 (⟨by decide, by decide⟩ : (-1 : Int) ≤ ((-1) : Int32).toInt ∧ ((-1) : Int32).toInt ≤ -1) (iv_any (fv_202 44)) (by decide) (by decide)
                  exact W.iret (v := v_209) hx hb hr (fun t ht hW => ⟨⟨v_209, (fv_202, wd_203, ar_204), rfl, ⟨hF_fv_202, hA_ar_204, (fM_call (fM_call (fM_call (fM_put (fM_put (fM_put (fM_put (fM_put (fM_put (fM_put (fM_put (fM_call (fM_put (fM_rf [0, 2, 37, 38, 39, 40, 41, 42, 43, 44, 45, 58, 59, 60, 61, 62, 63] _) efv_4 (by decide)) fr_12 (by decide)) efv_15 (by decide)) efv_32 (by decide)) efv_33 (by decide)) efv_34 (by decide)) efv_35 (by decide)) efv_36 (by decide)) efv_37 (by decide)) efv_39 (by decide)) fr_59 (by decide)) fr_76 (by decide)) fr_205 (by decide)), (fA_call (fA_call (fA_call (fA_put (fA_call (fA_rf [47, 48, 49, 50, 51, 52, 53, 54, 55, 56, 57] _) fa_13 (by decide)) ear_38 (by decide)) fa_60 (by decide)) fa_78 (by decide)) fa_206 (by decide)), (show (fv_202 2).toInt = 0 from by rw [show fv_202 2 = (fv_9 2) from (fr_205 2 rfl).trans ((fr_76 2 rfl).trans ((fr_59 2 rfl).trans ((congrFun efv_39 2).trans ((congrFun efv_37 2).trans ((congrFun efv_36 2).trans ((congrFun efv_35 2).trans ((congrFun efv_34 2).trans ((congrFun efv_33 2).trans ((congrFun efv_32 2).trans ((congrFun efv_15 2)))))))))))]; omega), (show rd_by (rd_T (rd_b (ar 1)) (fv 2).toInt.toNat) (rd_S (rd_b (ar 1)) (fv 2).toInt.toNat) (rd_N (rd_b (ar 1)) (fv 2).toInt.toNat) v_209 (fv_202 43) (fv 43) (fv_202 58) (fv 58) (fv 3) dd from by have : (fv_4 59).toInt = (fv 59).toInt := congrArg Int32.toInt ((fM_put (fM_rf [0] _) efv_4 (by decide)) 59 rfl); have : (fv_4 62).toInt = (fv 62).toInt := congrArg Int32.toInt ((fM_put (fM_rf [0] _) efv_4 (by decide)) 62 rfl); have : (fv_4 63).toInt = (fv 63).toInt := congrArg Int32.toInt ((fM_put (fM_rf [0] _) efv_4 (by decide)) 63 rfl); have : (fv_4 45).toInt = (fv 45).toInt := congrArg Int32.toInt ((fM_put (fM_rf [0] _) efv_4 (by decide)) 45 rfl); have : (fv_4 43).toInt = (fv 43).toInt := congrArg Int32.toInt ((fM_put (fM_rf [0] _) efv_4 (by decide)) 43 rfl); have : (fv_4 44).toInt = (fv 44).toInt := congrArg Int32.toInt ((fM_put (fM_rf [0] _) efv_4 (by decide)) 44 rfl); have : (fv_4 58).toInt = (fv 58).toInt := congrArg Int32.toInt ((fM_put (fM_rf [0] _) efv_4 (by decide)) 58 rfl); have : (fv_4 3).toInt = (fv 3).toInt := congrArg Int32.toInt ((fM_put (fM_rf [0] _) efv_4 (by decide)) 3 rfl); have : (fv_9 59).toInt = (fv_4 59).toInt := congrArg Int32.toInt ((fM_call (fM_rf [2] _) fr_12 (by decide)) 59 rfl); have : (fv_9 62).toInt = (fv_4 62).toInt := congrArg Int32.toInt ((fM_call (fM_rf [2] _) fr_12 (by decide)) 62 rfl); have : (fv_9 63).toInt = (fv_4 63).toInt := congrArg Int32.toInt ((fM_call (fM_rf [2] _) fr_12 (by decide)) 63 rfl); have : (fv_9 45).toInt = (fv_4 45).toInt := congrArg Int32.toInt ((fM_call (fM_rf [2] _) fr_12 (by decide)) 45 rfl); have : (fv_9 43).toInt = (fv_4 43).toInt := congrArg Int32.toInt ((fM_call (fM_rf [2] _) fr_12 (by decide)) 43 rfl); have : (fv_9 44).toInt = (fv_4 44).toInt := congrArg Int32.toInt ((fM_call (fM_rf [2] _) fr_12 (by decide)) 44 rfl); have : (fv_9 58).toInt = (fv_4 58).toInt := congrArg Int32.toInt ((fM_call (fM_rf [2] _) fr_12 (by decide)) 58 rfl); have : (fv_9 3).toInt = (fv_4 3).toInt := congrArg Int32.toInt ((fM_call (fM_rf [2] _) fr_12 (by decide)) 3 rfl); have : (fv_15 59).toInt = (fv_9 59).toInt := congrArg Int32.toInt ((fM_put (fM_rf [37] _) efv_15 (by decide)) 59 rfl); have : (fv_15 62).toInt = (fv_9 62).toInt := congrArg Int32.toInt ((fM_put (fM_rf [37] _) efv_15 (by decide)) 62 rfl); have : (fv_15 63).toInt = (fv_9 63).toInt := congrArg Int32.toInt ((fM_put (fM_rf [37] _) efv_15 (by decide)) 63 rfl); have : (fv_15 45).toInt = (fv_9 45).toInt := congrArg Int32.toInt ((fM_put (fM_rf [37] _) efv_15 (by decide)) 45 rfl); have : (fv_15 43).toInt = (fv_9 43).toInt := congrArg Int32.toInt ((fM_put (fM_rf [37] _) efv_15 (by decide)) 43 rfl); have : (fv_15 44).toInt = (fv_9 44).toInt := congrArg Int32.toInt ((fM_put (fM_rf [37] _) efv_15 (by decide)) 44 rfl); have : (fv_15 58).toInt = (fv_9 58).toInt := congrArg Int32.toInt ((fM_put (fM_rf [37] _) efv_15 (by decide)) 58 rfl); have : (fv_15 3).toInt = (fv_9 3).toInt := congrArg Int32.toInt ((fM_put (fM_rf [37] _) efv_15 (by decide)) 3 rfl); have : (fv_32 59).toInt = (fv_15 59).toInt := congrArg Int32.toInt ((fM_put (fM_rf [43] _) efv_32 (by decide)) 59 rfl); have : (fv_32 62).toInt = (fv_15 62).toInt := congrArg Int32.toInt ((fM_put (fM_rf [43] _) efv_32 (by decide)) 62 rfl); have : (fv_32 63).toInt = (fv_15 63).toInt := congrArg Int32.toInt ((fM_put (fM_rf [43] _) efv_32 (by decide)) 63 rfl); have : (fv_32 45).toInt = (fv_15 45).toInt := congrArg Int32.toInt ((fM_put (fM_rf [43] _) efv_32 (by decide)) 45 rfl); have : (fv_32 44).toInt = (fv_15 44).toInt := congrArg Int32.toInt ((fM_put (fM_rf [43] _) efv_32 (by decide)) 44 rfl); have : (fv_32 58).toInt = (fv_15 58).toInt := congrArg Int32.toInt ((fM_put (fM_rf [43] _) efv_32 (by decide)) 58 rfl); have : (fv_32 3).toInt = (fv_15 3).toInt := congrArg Int32.toInt ((fM_put (fM_rf [43] _) efv_32 (by decide)) 3 rfl); have : (fv_33 59).toInt = (fv_32 59).toInt := congrArg Int32.toInt ((fM_put (fM_rf [45] _) efv_33 (by decide)) 59 rfl); have : (fv_33 62).toInt = (fv_32 62).toInt := congrArg Int32.toInt ((fM_put (fM_rf [45] _) efv_33 (by decide)) 62 rfl); have : (fv_33 63).toInt = (fv_32 63).toInt := congrArg Int32.toInt ((fM_put (fM_rf [45] _) efv_33 (by decide)) 63 rfl); have : (fv_33 43).toInt = (fv_32 43).toInt := congrArg Int32.toInt ((fM_put (fM_rf [45] _) efv_33 (by decide)) 43 rfl); have : (fv_33 44).toInt = (fv_32 44).toInt := congrArg Int32.toInt ((fM_put (fM_rf [45] _) efv_33 (by decide)) 44 rfl); have : (fv_33 58).toInt = (fv_32 58).toInt := congrArg Int32.toInt ((fM_put (fM_rf [45] _) efv_33 (by decide)) 58 rfl); have : (fv_33 3).toInt = (fv_32 3).toInt := congrArg Int32.toInt ((fM_put (fM_rf [45] _) efv_33 (by decide)) 3 rfl); have : (fv_34 62).toInt = (fv_33 62).toInt := congrArg Int32.toInt ((fM_put (fM_rf [59] _) efv_34 (by decide)) 62 rfl); have : (fv_34 63).toInt = (fv_33 63).toInt := congrArg Int32.toInt ((fM_put (fM_rf [59] _) efv_34 (by decide)) 63 rfl); have : (fv_34 45).toInt = (fv_33 45).toInt := congrArg Int32.toInt ((fM_put (fM_rf [59] _) efv_34 (by decide)) 45 rfl); have : (fv_34 43).toInt = (fv_33 43).toInt := congrArg Int32.toInt ((fM_put (fM_rf [59] _) efv_34 (by decide)) 43 rfl); have : (fv_34 44).toInt = (fv_33 44).toInt := congrArg Int32.toInt ((fM_put (fM_rf [59] _) efv_34 (by decide)) 44 rfl); have : (fv_34 58).toInt = (fv_33 58).toInt := congrArg Int32.toInt ((fM_put (fM_rf [59] _) efv_34 (by decide)) 58 rfl); have : (fv_34 3).toInt = (fv_33 3).toInt := congrArg Int32.toInt ((fM_put (fM_rf [59] _) efv_34 (by decide)) 3 rfl); have : (fv_35 59).toInt = (fv_34 59).toInt := congrArg Int32.toInt ((fM_put (fM_rf [60] _) efv_35 (by decide)) 59 rfl); have : (fv_35 62).toInt = (fv_34 62).toInt := congrArg Int32.toInt ((fM_put (fM_rf [60] _) efv_35 (by decide)) 62 rfl); have : (fv_35 63).toInt = (fv_34 63).toInt := congrArg Int32.toInt ((fM_put (fM_rf [60] _) efv_35 (by decide)) 63 rfl); have : (fv_35 45).toInt = (fv_34 45).toInt := congrArg Int32.toInt ((fM_put (fM_rf [60] _) efv_35 (by decide)) 45 rfl); have : (fv_35 43).toInt = (fv_34 43).toInt := congrArg Int32.toInt ((fM_put (fM_rf [60] _) efv_35 (by decide)) 43 rfl); have : (fv_35 44).toInt = (fv_34 44).toInt := congrArg Int32.toInt ((fM_put (fM_rf [60] _) efv_35 (by decide)) 44 rfl); have : (fv_35 58).toInt = (fv_34 58).toInt := congrArg Int32.toInt ((fM_put (fM_rf [60] _) efv_35 (by decide)) 58 rfl); have : (fv_35 3).toInt = (fv_34 3).toInt := congrArg Int32.toInt ((fM_put (fM_rf [60] _) efv_35 (by decide)) 3 rfl); have : (fv_36 59).toInt = (fv_35 59).toInt := congrArg Int32.toInt ((fM_put (fM_rf [62] _) efv_36 (by decide)) 59 rfl); have : (fv_36 63).toInt = (fv_35 63).toInt := congrArg Int32.toInt ((fM_put (fM_rf [62] _) efv_36 (by decide)) 63 rfl); have : (fv_36 45).toInt = (fv_35 45).toInt := congrArg Int32.toInt ((fM_put (fM_rf [62] _) efv_36 (by decide)) 45 rfl); have : (fv_36 43).toInt = (fv_35 43).toInt := congrArg Int32.toInt ((fM_put (fM_rf [62] _) efv_36 (by decide)) 43 rfl); have : (fv_36 44).toInt = (fv_35 44).toInt := congrArg Int32.toInt ((fM_put (fM_rf [62] _) efv_36 (by decide)) 44 rfl); have : (fv_36 58).toInt = (fv_35 58).toInt := congrArg Int32.toInt ((fM_put (fM_rf [62] _) efv_36 (by decide)) 58 rfl); have : (fv_36 3).toInt = (fv_35 3).toInt := congrArg Int32.toInt ((fM_put (fM_rf [62] _) efv_36 (by decide)) 3 rfl); have : (fv_37 59).toInt = (fv_36 59).toInt := congrArg Int32.toInt ((fM_put (fM_rf [63] _) efv_37 (by decide)) 59 rfl); have : (fv_37 62).toInt = (fv_36 62).toInt := congrArg Int32.toInt ((fM_put (fM_rf [63] _) efv_37 (by decide)) 62 rfl); have : (fv_37 45).toInt = (fv_36 45).toInt := congrArg Int32.toInt ((fM_put (fM_rf [63] _) efv_37 (by decide)) 45 rfl); have : (fv_37 43).toInt = (fv_36 43).toInt := congrArg Int32.toInt ((fM_put (fM_rf [63] _) efv_37 (by decide)) 43 rfl); have : (fv_37 44).toInt = (fv_36 44).toInt := congrArg Int32.toInt ((fM_put (fM_rf [63] _) efv_37 (by decide)) 44 rfl); have : (fv_37 58).toInt = (fv_36 58).toInt := congrArg Int32.toInt ((fM_put (fM_rf [63] _) efv_37 (by decide)) 58 rfl); have : (fv_37 3).toInt = (fv_36 3).toInt := congrArg Int32.toInt ((fM_put (fM_rf [63] _) efv_37 (by decide)) 3 rfl); have : (fv_39 59).toInt = (fv_37 59).toInt := congrArg Int32.toInt ((fM_put (fM_rf [38] _) efv_39 (by decide)) 59 rfl); have : (fv_39 62).toInt = (fv_37 62).toInt := congrArg Int32.toInt ((fM_put (fM_rf [38] _) efv_39 (by decide)) 62 rfl); have : (fv_39 63).toInt = (fv_37 63).toInt := congrArg Int32.toInt ((fM_put (fM_rf [38] _) efv_39 (by decide)) 63 rfl); have : (fv_39 45).toInt = (fv_37 45).toInt := congrArg Int32.toInt ((fM_put (fM_rf [38] _) efv_39 (by decide)) 45 rfl); have : (fv_39 43).toInt = (fv_37 43).toInt := congrArg Int32.toInt ((fM_put (fM_rf [38] _) efv_39 (by decide)) 43 rfl); have : (fv_39 44).toInt = (fv_37 44).toInt := congrArg Int32.toInt ((fM_put (fM_rf [38] _) efv_39 (by decide)) 44 rfl); have : (fv_39 58).toInt = (fv_37 58).toInt := congrArg Int32.toInt ((fM_put (fM_rf [38] _) efv_39 (by decide)) 58 rfl); have : (fv_39 3).toInt = (fv_37 3).toInt := congrArg Int32.toInt ((fM_put (fM_rf [38] _) efv_39 (by decide)) 3 rfl); have : (fv_56 59).toInt = (fv_39 59).toInt := congrArg Int32.toInt ((fM_call (fM_rf [38, 39, 40, 41, 42] _) fr_59 (by decide)) 59 rfl); have : (fv_56 62).toInt = (fv_39 62).toInt := congrArg Int32.toInt ((fM_call (fM_rf [38, 39, 40, 41, 42] _) fr_59 (by decide)) 62 rfl); have : (fv_56 63).toInt = (fv_39 63).toInt := congrArg Int32.toInt ((fM_call (fM_rf [38, 39, 40, 41, 42] _) fr_59 (by decide)) 63 rfl); have : (fv_56 45).toInt = (fv_39 45).toInt := congrArg Int32.toInt ((fM_call (fM_rf [38, 39, 40, 41, 42] _) fr_59 (by decide)) 45 rfl); have : (fv_56 43).toInt = (fv_39 43).toInt := congrArg Int32.toInt ((fM_call (fM_rf [38, 39, 40, 41, 42] _) fr_59 (by decide)) 43 rfl); have : (fv_56 44).toInt = (fv_39 44).toInt := congrArg Int32.toInt ((fM_call (fM_rf [38, 39, 40, 41, 42] _) fr_59 (by decide)) 44 rfl); have : (fv_56 58).toInt = (fv_39 58).toInt := congrArg Int32.toInt ((fM_call (fM_rf [38, 39, 40, 41, 42] _) fr_59 (by decide)) 58 rfl); have : (fv_56 3).toInt = (fv_39 3).toInt := congrArg Int32.toInt ((fM_call (fM_rf [38, 39, 40, 41, 42] _) fr_59 (by decide)) 3 rfl); have : (fv_75 58).toInt = (fv_56 58).toInt := congrArg Int32.toInt ((fM_call (fM_rf [38, 39, 40, 41, 42, 43, 44, 45, 59, 60, 61, 62, 63] _) fr_76 (by decide)) 58 rfl); have : (fv_75 3).toInt = (fv_56 3).toInt := congrArg Int32.toInt ((fM_call (fM_rf [38, 39, 40, 41, 42, 43, 44, 45, 59, 60, 61, 62, 63] _) fr_76 (by decide)) 3 rfl); have : (fv_202 58).toInt = (fv_75 58).toInt := congrArg Int32.toInt ((fM_call (fM_rf [38, 39, 40, 41, 42, 43, 44, 45, 59, 60, 61, 62, 63] _) fr_205 (by decide)) 58 rfl); have : (fv_202 3).toInt = (fv_75 3).toInt := congrArg Int32.toInt ((fM_call (fM_rf [38, 39, 40, 41, 42, 43, 44, 45, 59, 60, 61, 62, 63] _) fr_205 (by decide)) 3 rfl); rw [← hb9, ← hn9]; obtain ⟨g8, h8, c8⟩ := q_207; have hE9 : rd_txt (rd_T b9 n9) (rd_N b9 n9) = ((rd_ln (rd_T b9 n9) (rd_N b9 n9) kk ((fv_75 62).toInt.toNat) ((fv_75 59).toInt.toNat) (decide ((fv_75 45).toInt = 1))).1, (rd_ln (rd_T b9 n9) (rd_N b9 n9) kk ((fv_75 62).toInt.toNat) ((fv_75 59).toInt.toNat) (decide ((fv_75 45).toInt = 1))).2.1, (fv_75 59).toInt.toNat) := htx0.trans (by rw [show 400 - (fv_75 59).toInt.toNat = (399 - (fv_75 59).toInt.toNat) + 1 from (by omega)]; exact rd_tt_bad (fun w => by omega) (by omega)); exact Or.inr ⟨(fun w => by omega), Or.inr ⟨by rw [hE9]; show 0 < (rd_ln (rd_T b9 n9) (rd_N b9 n9) kk ((fv_75 62).toInt.toNat) ((fv_75 59).toInt.toNat) (decide ((fv_75 45).toInt = 1))).1; omega, by rw [hE9]; show _ = -1 - ((rd_S b9 n9 (rd_ln (rd_T b9 n9) (rd_N b9 n9) kk ((fv_75 62).toInt.toNat) ((fv_75 59).toInt.toNat) (decide ((fv_75 45).toInt = 1))).2.1 : Nat) : Int); omega, by rw [hE9]; show _ = (((rd_ln (rd_T b9 n9) (rd_N b9 n9) kk ((fv_75 62).toInt.toNat) ((fv_75 59).toInt.toNat) (decide ((fv_75 45).toInt = 1))).1 : Nat) : Int); omega, ((fM_call (fM_call (fM_call (fM_put (fM_put (fM_put (fM_put (fM_put (fM_put (fM_put (fM_put (fM_call (fM_put (fM_rf [0, 2, 37, 38, 39, 40, 41, 42, 43, 44, 45, 59, 60, 61, 62, 63] _) efv_4 (by decide)) fr_12 (by decide)) efv_15 (by decide)) efv_32 (by decide)) efv_33 (by decide)) efv_34 (by decide)) efv_35 (by decide)) efv_36 (by decide)) efv_37 (by decide)) efv_39 (by decide)) fr_59 (by decide)) fr_76 (by decide)) fr_205 (by decide)) 58 rfl)⟩⟩), p_201, trivial⟩, ⟨by rw [ht]; exact hP, va_K.moved hW.alike hK⟩⟩, hS.F ht⟩) hS.2.2 dX12_bylaw_107
              · skip
                have hp_212 : rL fv_202 ar_204 := p_200.1
                have q_213 : (fv_202 60).toInt ≤ 2 * (fv_202 62).toInt := p_200.2.1
                have q_214 : 0 ≤ (fv_202 63).toInt + (fv_202 62).toInt := p_200.2.2.1
                have q_215 : (fv_202 59).toInt = (fv_75 59).toInt + 1 := p_200.2.2.2.1
                have q_216 : ∃ k1 : Nat, rd_mt b9 n9 k1 (fv_202 37) (fv_202 38) (fv_202 39) (fv_202 40) (fv_202 42) (fv_202 41) wd_203 ∧ rd_T b9 n9 k1 = 26 ∧ rd_ln (rd_T b9 n9) (rd_N b9 n9) kk ((fv_75 62).toInt.toNat) ((fv_75 59).toInt.toNat) (decide ((fv_75 45).toInt = 1)) = (0, k1 + 1, (fv_202 62).toInt.toNat) ∧ (fv_202 63).toInt = 0 ∧ ((fv_202 45).toInt = 1 ↔ ((fv_75 45).toInt = 1 ∨ rd_T b9 n9 kk = 6)) ∧ ((fv_202 45).toInt = 0 ∨ (fv_202 45).toInt = 1) ∧ fv_202 43 = fv_75 43 := p_200.2.2.2.2
                refine lv_if_ne (tgt := 108) hx hb dX12_bylaw_98 (by decide) (fun c_217 => ?_) (fun c_217 => ?_)
                · skip
                  obtain ⟨k1, m19, t26, e9, w9, d9, q9, f9⟩ := q_216
                  have hk41 := rd_mt_k m19
                  refine lv_aload_n hx hb dX12_bylaw_108 rfl (lv_at hl 0 rfl) ?_
                  have z_218 : (fv_202 37).toInt = r_5.toInt := congrArg Int32.toInt ((fr_205 37 rfl).trans ((fr_76 37 rfl).trans ((fr_59 37 rfl).trans ((congrFun efv_39 37).trans ((congrFun efv_37 37).trans ((congrFun efv_36 37).trans ((congrFun efv_35 37).trans ((congrFun efv_34 37).trans ((congrFun efv_33 37).trans ((congrFun efv_32 37).trans ((congrFun efv_15 37))))))))))))
                  have z_219 : 0 ≤ (fv_202 37).toInt ∧ (fv_202 37).toInt ≤ 340 := hF_fv_202 37
                  have z_220 : 0 ≤ (fv_202 38).toInt ∧ (fv_202 38).toInt ≤ 340 := hF_fv_202 38
                  have z_221 : (fv_202 37).toInt = r_5.toInt := congrArg Int32.toInt ((fr_205 37 rfl).trans ((fr_76 37 rfl).trans ((fr_59 37 rfl).trans ((congrFun efv_39 37).trans ((congrFun efv_37 37).trans ((congrFun efv_36 37).trans ((congrFun efv_35 37).trans ((congrFun efv_34 37).trans ((congrFun efv_33 37).trans ((congrFun efv_32 37).trans ((congrFun efv_15 37))))))))))))
                  have z_222 : 0 ≤ (fv_202 37).toInt ∧ (fv_202 37).toInt ≤ 340 := hF_fv_202 37
                  have z_223 : 0 ≤ (fv_202 38).toInt ∧ (fv_202 38).toInt ≤ 340 := hF_fv_202 38
                  have z_224 : (fv_202 37).toInt = r_5.toInt := congrArg Int32.toInt ((fr_205 37 rfl).trans ((fr_76 37 rfl).trans ((fr_59 37 rfl).trans ((congrFun efv_39 37).trans ((congrFun efv_37 37).trans ((congrFun efv_36 37).trans ((congrFun efv_35 37).trans ((congrFun efv_34 37).trans ((congrFun efv_33 37).trans ((congrFun efv_32 37).trans ((congrFun efv_15 37))))))))))))
                  have z_225 : 0 ≤ (fv_202 37).toInt ∧ (fv_202 37).toInt ≤ 340 := hF_fv_202 37
                  refine va_callv (va_runV (As := []) (rest := []) ⟨hx, hb, hml, hown, hts⟩ (m_goC l dC dI H.size h ad cA hd fv_202 wd_203 ar_204 hF_fv_202 hA_ar_204 (k1 + 1) (rd_hto m19 (by omega) (hb9.trans (congrArg rd_b (show ar_204 1 = ar 1 from ((fA_call (fA_call (fA_call (fA_put (fA_call (fA_rf [48, 50, 51, 52, 53, 54, 55, 56, 57] _) fa_13 (by decide)) ear_38 (by decide)) fa_60 (by decide)) fa_78 (by decide)) fa_206 (by decide)) 1 rfl)).symm))) (rd_mt_to m19 (by omega)).2) (cwV 0 hts (gV kw_8_60 kw_8_62 kw_p_64 kw_1_15 kw_8_63) rfl rfl rfl (by decide +kernel) ⟨Nat.le_of_ble_eq_true rfl, Nat.le_of_ble_eq_true rfl⟩) ⟨fun a U g mk q => ⟨q.1, q.2.1, q.2.2.1, va_K.moved (u := U) (U := U.calling g mk a) (Vm.Alike.refl U.vm) q.2.2.2⟩, va_recv hK hP (ci := 12) (q0 := 0) rfl rfl, fun U hU hW => ⟨rfl, by rw [hU], by rw [hU]; exact hP, va_K.moved hW.alike hK⟩⟩ rfl rfl hl.1 rfl (lv_room (Nat.le_of_ble_eq_true rfl)) dX12_bylaw_109 ⟨Nat.le_of_ble_eq_true rfl, Nat.le_of_ble_eq_true rfl⟩) hS (fun q _ h9 => aM_up hS q h9) (aM_up hS) (fun u t H1 locs ht _ hw hB _ hk1 hS => ?_)
                  obtain ⟨fv_230, wd_231, ar_232⟩ := u
                  obtain ⟨hF_fv_230, hA_ar_232, fr_233, fa_234, p_227, p_228, p_229, -⟩ := hw
                  have hP : va_P (dC, dI) vwCl (wsM h ad cA fv_230 wd_231 ar_232) H1 := by have h9 := hB.1; rw [ht] at h9; exact h9
                  have fr_233 : fM [38, 39, 40, 41, 42] fv_202 fv_230 := fr_233
                  have fa_234 : fA [] ar_204 ar_232 := fa_234
                  have p_227 : (fv_230 39).toInt = (rd_S (rd_b (ar_204 1)) (fv_202 37).toInt.toNat (k1 + 1) : Nat) := p_227
                  have p_228 : rd_st (rd_b (ar_204 1)) (fv_202 37).toInt.toNat (k1 + 1) < rd_lim ((fv_202 37).toInt.toNat) → (fv_230 38).toInt = (rd_en (rd_b (ar_204 1)) (fv_202 37).toInt.toNat ((k1 + 1) + 1) : Nat) := p_228
                  have p_229 : rd_rel (rd_T (rd_b (ar_204 1)) (fv_202 37).toInt.toNat (k1 + 1)) (rd_N (rd_b (ar_204 1)) (fv_202 37).toInt.toNat (k1 + 1)) (fv_230 40) (fv_230 42) (fv_230 41) wd_231 := p_229
                  generalize H1 = H at hP hS ⊢
                  have m_235 : rd_mt b9 n9 (k1 + 1) (fv_230 37) (fv_230 38) (fv_230 39) (fv_230 40) (fv_230 42) (fv_230 41) wd_231 := rd_mt_go (k := k1) m19 (by omega) (fr_233 37 rfl) (by have h9 := p_227; rw [← (hb9.trans (congrArg rd_b (show ar_204 1 = ar 1 from ((fA_call (fA_call (fA_call (fA_put (fA_call (fA_rf [48, 50, 51, 52, 53, 54, 55, 56, 57] _) fa_13 (by decide)) ear_38 (by decide)) fa_60 (by decide)) fa_78 (by decide)) fa_206 (by decide)) 1 rfl)).symm)), show (fv_202 37).toInt.toNat = n9 from (by have h8 := m19.1; omega)] at h9; exact h9) (by have h9 := p_228; rw [← (hb9.trans (congrArg rd_b (show ar_204 1 = ar 1 from ((fA_call (fA_call (fA_call (fA_put (fA_call (fA_rf [48, 50, 51, 52, 53, 54, 55, 56, 57] _) fa_13 (by decide)) ear_38 (by decide)) fa_60 (by decide)) fa_78 (by decide)) fa_206 (by decide)) 1 rfl)).symm)), show (fv_202 37).toInt.toNat = n9 from (by have h8 := m19.1; omega)] at h9; exact h9) (by have h9 := p_229; rw [← (hb9.trans (congrArg rd_b (show ar_204 1 = ar 1 from ((fA_call (fA_call (fA_call (fA_put (fA_call (fA_rf [48, 50, 51, 52, 53, 54, 55, 56, 57] _) fa_13 (by decide)) ear_38 (by decide)) fa_60 (by decide)) fa_78 (by decide)) fa_206 (by decide)) 1 rfl)).symm)), show (fv_202 37).toInt.toNat = n9 from (by have h8 := m19.1; omega)] at h9; exact h9)
                  have k_236 := rd_mt_k m_235
                  refine lv_goto (tgt := 87) hx hb dX12_bylaw_112 (by decide) ?_
                  have z_237 : (fv_230 59).toInt = (fv_202 59).toInt := congrArg Int32.toInt ((fr_233 59 rfl))
                  have z_238 : 0 ≤ (fv_230 59).toInt ∧ (fv_230 59).toInt ≤ 16 := hF_fv_230 59
                  have z_239 : (fv_230 60).toInt = (fv_202 60).toInt := congrArg Int32.toInt ((fr_233 60 rfl))
                  have z_240 : 0 ≤ (fv_230 60).toInt ∧ (fv_230 60).toInt ≤ 120 := hF_fv_230 60
                  have z_241 : (fv_230 62).toInt = (fv_202 62).toInt := congrArg Int32.toInt ((fr_233 62 rfl))
                  have z_242 : 0 ≤ (fv_230 62).toInt ∧ (fv_230 62).toInt ≤ 50 := hF_fv_230 62
                  have z_243 : (fv_230 63).toInt = (fv_202 63).toInt := congrArg Int32.toInt ((fr_233 63 rfl))
                  have z_244 : (-100) ≤ (fv_230 63).toInt ∧ (fv_230 63).toInt ≤ 10 := hF_fv_230 63
                  exact ih_86 fv_230 ar_232 wd_231 _ _ ls (by omega) hF_fv_230 (fM_call (fM_call (fM_call (fM_rf [38, 39, 40, 41, 42, 43, 44, 45, 59, 60, 61, 62, 63] _) fr_76 (by decide)) fr_205 (by decide)) fr_233 (by decide)) hA_ar_232 (fA_call (fA_call (fA_call (fA_rf [48, 50, 51, 52, 53, 54, 55, 56, 57] _) fa_78 (by decide)) fa_206 (by decide)) fa_234 (by decide)) (rL_fr hp_212 (fM_call (fM_rf [38, 39, 40, 41, 42] _) fr_233 (by decide)) (fA_call (fA_rf [] _) fa_234 (by decide)) rfl rfl rfl rfl rfl) (vM_fr p_201 (fM_call (fM_rf [38, 39, 40, 41, 42] _) fr_233 (by decide)) (fA_call (fA_rf [] _) fa_234 (by decide)) rfl rfl rfl rfl rfl) (by omega) (by omega) (by omega) (by have : (fv_4 59).toInt = (fv 59).toInt := congrArg Int32.toInt ((fM_put (fM_rf [0] _) efv_4 (by decide)) 59 rfl); have : (fv_4 62).toInt = (fv 62).toInt := congrArg Int32.toInt ((fM_put (fM_rf [0] _) efv_4 (by decide)) 62 rfl); have : (fv_4 63).toInt = (fv 63).toInt := congrArg Int32.toInt ((fM_put (fM_rf [0] _) efv_4 (by decide)) 63 rfl); have : (fv_4 45).toInt = (fv 45).toInt := congrArg Int32.toInt ((fM_put (fM_rf [0] _) efv_4 (by decide)) 45 rfl); have : (fv_4 43).toInt = (fv 43).toInt := congrArg Int32.toInt ((fM_put (fM_rf [0] _) efv_4 (by decide)) 43 rfl); have : (fv_4 44).toInt = (fv 44).toInt := congrArg Int32.toInt ((fM_put (fM_rf [0] _) efv_4 (by decide)) 44 rfl); have : (fv_4 58).toInt = (fv 58).toInt := congrArg Int32.toInt ((fM_put (fM_rf [0] _) efv_4 (by decide)) 58 rfl); have : (fv_4 3).toInt = (fv 3).toInt := congrArg Int32.toInt ((fM_put (fM_rf [0] _) efv_4 (by decide)) 3 rfl); have : (fv_9 59).toInt = (fv_4 59).toInt := congrArg Int32.toInt ((fM_call (fM_rf [2] _) fr_12 (by decide)) 59 rfl); have : (fv_9 62).toInt = (fv_4 62).toInt := congrArg Int32.toInt ((fM_call (fM_rf [2] _) fr_12 (by decide)) 62 rfl); have : (fv_9 63).toInt = (fv_4 63).toInt := congrArg Int32.toInt ((fM_call (fM_rf [2] _) fr_12 (by decide)) 63 rfl); have : (fv_9 45).toInt = (fv_4 45).toInt := congrArg Int32.toInt ((fM_call (fM_rf [2] _) fr_12 (by decide)) 45 rfl); have : (fv_9 43).toInt = (fv_4 43).toInt := congrArg Int32.toInt ((fM_call (fM_rf [2] _) fr_12 (by decide)) 43 rfl); have : (fv_9 44).toInt = (fv_4 44).toInt := congrArg Int32.toInt ((fM_call (fM_rf [2] _) fr_12 (by decide)) 44 rfl); have : (fv_9 58).toInt = (fv_4 58).toInt := congrArg Int32.toInt ((fM_call (fM_rf [2] _) fr_12 (by decide)) 58 rfl); have : (fv_9 3).toInt = (fv_4 3).toInt := congrArg Int32.toInt ((fM_call (fM_rf [2] _) fr_12 (by decide)) 3 rfl); have : (fv_15 59).toInt = (fv_9 59).toInt := congrArg Int32.toInt ((fM_put (fM_rf [37] _) efv_15 (by decide)) 59 rfl); have : (fv_15 62).toInt = (fv_9 62).toInt := congrArg Int32.toInt ((fM_put (fM_rf [37] _) efv_15 (by decide)) 62 rfl); have : (fv_15 63).toInt = (fv_9 63).toInt := congrArg Int32.toInt ((fM_put (fM_rf [37] _) efv_15 (by decide)) 63 rfl); have : (fv_15 45).toInt = (fv_9 45).toInt := congrArg Int32.toInt ((fM_put (fM_rf [37] _) efv_15 (by decide)) 45 rfl); have : (fv_15 43).toInt = (fv_9 43).toInt := congrArg Int32.toInt ((fM_put (fM_rf [37] _) efv_15 (by decide)) 43 rfl); have : (fv_15 44).toInt = (fv_9 44).toInt := congrArg Int32.toInt ((fM_put (fM_rf [37] _) efv_15 (by decide)) 44 rfl); have : (fv_15 58).toInt = (fv_9 58).toInt := congrArg Int32.toInt ((fM_put (fM_rf [37] _) efv_15 (by decide)) 58 rfl); have : (fv_15 3).toInt = (fv_9 3).toInt := congrArg Int32.toInt ((fM_put (fM_rf [37] _) efv_15 (by decide)) 3 rfl); have : (fv_32 59).toInt = (fv_15 59).toInt := congrArg Int32.toInt ((fM_put (fM_rf [43] _) efv_32 (by decide)) 59 rfl); have : (fv_32 62).toInt = (fv_15 62).toInt := congrArg Int32.toInt ((fM_put (fM_rf [43] _) efv_32 (by decide)) 62 rfl); have : (fv_32 63).toInt = (fv_15 63).toInt := congrArg Int32.toInt ((fM_put (fM_rf [43] _) efv_32 (by decide)) 63 rfl); have : (fv_32 45).toInt = (fv_15 45).toInt := congrArg Int32.toInt ((fM_put (fM_rf [43] _) efv_32 (by decide)) 45 rfl); have : (fv_32 44).toInt = (fv_15 44).toInt := congrArg Int32.toInt ((fM_put (fM_rf [43] _) efv_32 (by decide)) 44 rfl); have : (fv_32 58).toInt = (fv_15 58).toInt := congrArg Int32.toInt ((fM_put (fM_rf [43] _) efv_32 (by decide)) 58 rfl); have : (fv_32 3).toInt = (fv_15 3).toInt := congrArg Int32.toInt ((fM_put (fM_rf [43] _) efv_32 (by decide)) 3 rfl); have : (fv_33 59).toInt = (fv_32 59).toInt := congrArg Int32.toInt ((fM_put (fM_rf [45] _) efv_33 (by decide)) 59 rfl); have : (fv_33 62).toInt = (fv_32 62).toInt := congrArg Int32.toInt ((fM_put (fM_rf [45] _) efv_33 (by decide)) 62 rfl); have : (fv_33 63).toInt = (fv_32 63).toInt := congrArg Int32.toInt ((fM_put (fM_rf [45] _) efv_33 (by decide)) 63 rfl); have : (fv_33 43).toInt = (fv_32 43).toInt := congrArg Int32.toInt ((fM_put (fM_rf [45] _) efv_33 (by decide)) 43 rfl); have : (fv_33 44).toInt = (fv_32 44).toInt := congrArg Int32.toInt ((fM_put (fM_rf [45] _) efv_33 (by decide)) 44 rfl); have : (fv_33 58).toInt = (fv_32 58).toInt := congrArg Int32.toInt ((fM_put (fM_rf [45] _) efv_33 (by decide)) 58 rfl); have : (fv_33 3).toInt = (fv_32 3).toInt := congrArg Int32.toInt ((fM_put (fM_rf [45] _) efv_33 (by decide)) 3 rfl); have : (fv_34 62).toInt = (fv_33 62).toInt := congrArg Int32.toInt ((fM_put (fM_rf [59] _) efv_34 (by decide)) 62 rfl); have : (fv_34 63).toInt = (fv_33 63).toInt := congrArg Int32.toInt ((fM_put (fM_rf [59] _) efv_34 (by decide)) 63 rfl); have : (fv_34 45).toInt = (fv_33 45).toInt := congrArg Int32.toInt ((fM_put (fM_rf [59] _) efv_34 (by decide)) 45 rfl); have : (fv_34 43).toInt = (fv_33 43).toInt := congrArg Int32.toInt ((fM_put (fM_rf [59] _) efv_34 (by decide)) 43 rfl); have : (fv_34 44).toInt = (fv_33 44).toInt := congrArg Int32.toInt ((fM_put (fM_rf [59] _) efv_34 (by decide)) 44 rfl); have : (fv_34 58).toInt = (fv_33 58).toInt := congrArg Int32.toInt ((fM_put (fM_rf [59] _) efv_34 (by decide)) 58 rfl); have : (fv_34 3).toInt = (fv_33 3).toInt := congrArg Int32.toInt ((fM_put (fM_rf [59] _) efv_34 (by decide)) 3 rfl); have : (fv_35 59).toInt = (fv_34 59).toInt := congrArg Int32.toInt ((fM_put (fM_rf [60] _) efv_35 (by decide)) 59 rfl); have : (fv_35 62).toInt = (fv_34 62).toInt := congrArg Int32.toInt ((fM_put (fM_rf [60] _) efv_35 (by decide)) 62 rfl); have : (fv_35 63).toInt = (fv_34 63).toInt := congrArg Int32.toInt ((fM_put (fM_rf [60] _) efv_35 (by decide)) 63 rfl); have : (fv_35 45).toInt = (fv_34 45).toInt := congrArg Int32.toInt ((fM_put (fM_rf [60] _) efv_35 (by decide)) 45 rfl); have : (fv_35 43).toInt = (fv_34 43).toInt := congrArg Int32.toInt ((fM_put (fM_rf [60] _) efv_35 (by decide)) 43 rfl); have : (fv_35 44).toInt = (fv_34 44).toInt := congrArg Int32.toInt ((fM_put (fM_rf [60] _) efv_35 (by decide)) 44 rfl); have : (fv_35 58).toInt = (fv_34 58).toInt := congrArg Int32.toInt ((fM_put (fM_rf [60] _) efv_35 (by decide)) 58 rfl); have : (fv_35 3).toInt = (fv_34 3).toInt := congrArg Int32.toInt ((fM_put (fM_rf [60] _) efv_35 (by decide)) 3 rfl); have : (fv_36 59).toInt = (fv_35 59).toInt := congrArg Int32.toInt ((fM_put (fM_rf [62] _) efv_36 (by decide)) 59 rfl); have : (fv_36 63).toInt = (fv_35 63).toInt := congrArg Int32.toInt ((fM_put (fM_rf [62] _) efv_36 (by decide)) 63 rfl); have : (fv_36 45).toInt = (fv_35 45).toInt := congrArg Int32.toInt ((fM_put (fM_rf [62] _) efv_36 (by decide)) 45 rfl); have : (fv_36 43).toInt = (fv_35 43).toInt := congrArg Int32.toInt ((fM_put (fM_rf [62] _) efv_36 (by decide)) 43 rfl); have : (fv_36 44).toInt = (fv_35 44).toInt := congrArg Int32.toInt ((fM_put (fM_rf [62] _) efv_36 (by decide)) 44 rfl); have : (fv_36 58).toInt = (fv_35 58).toInt := congrArg Int32.toInt ((fM_put (fM_rf [62] _) efv_36 (by decide)) 58 rfl); have : (fv_36 3).toInt = (fv_35 3).toInt := congrArg Int32.toInt ((fM_put (fM_rf [62] _) efv_36 (by decide)) 3 rfl); have : (fv_37 59).toInt = (fv_36 59).toInt := congrArg Int32.toInt ((fM_put (fM_rf [63] _) efv_37 (by decide)) 59 rfl); have : (fv_37 62).toInt = (fv_36 62).toInt := congrArg Int32.toInt ((fM_put (fM_rf [63] _) efv_37 (by decide)) 62 rfl); have : (fv_37 45).toInt = (fv_36 45).toInt := congrArg Int32.toInt ((fM_put (fM_rf [63] _) efv_37 (by decide)) 45 rfl); have : (fv_37 43).toInt = (fv_36 43).toInt := congrArg Int32.toInt ((fM_put (fM_rf [63] _) efv_37 (by decide)) 43 rfl); have : (fv_37 44).toInt = (fv_36 44).toInt := congrArg Int32.toInt ((fM_put (fM_rf [63] _) efv_37 (by decide)) 44 rfl); have : (fv_37 58).toInt = (fv_36 58).toInt := congrArg Int32.toInt ((fM_put (fM_rf [63] _) efv_37 (by decide)) 58 rfl); have : (fv_37 3).toInt = (fv_36 3).toInt := congrArg Int32.toInt ((fM_put (fM_rf [63] _) efv_37 (by decide)) 3 rfl); have : (fv_39 59).toInt = (fv_37 59).toInt := congrArg Int32.toInt ((fM_put (fM_rf [38] _) efv_39 (by decide)) 59 rfl); have : (fv_39 62).toInt = (fv_37 62).toInt := congrArg Int32.toInt ((fM_put (fM_rf [38] _) efv_39 (by decide)) 62 rfl); have : (fv_39 63).toInt = (fv_37 63).toInt := congrArg Int32.toInt ((fM_put (fM_rf [38] _) efv_39 (by decide)) 63 rfl); have : (fv_39 45).toInt = (fv_37 45).toInt := congrArg Int32.toInt ((fM_put (fM_rf [38] _) efv_39 (by decide)) 45 rfl); have : (fv_39 43).toInt = (fv_37 43).toInt := congrArg Int32.toInt ((fM_put (fM_rf [38] _) efv_39 (by decide)) 43 rfl); have : (fv_39 44).toInt = (fv_37 44).toInt := congrArg Int32.toInt ((fM_put (fM_rf [38] _) efv_39 (by decide)) 44 rfl); have : (fv_39 58).toInt = (fv_37 58).toInt := congrArg Int32.toInt ((fM_put (fM_rf [38] _) efv_39 (by decide)) 58 rfl); have : (fv_39 3).toInt = (fv_37 3).toInt := congrArg Int32.toInt ((fM_put (fM_rf [38] _) efv_39 (by decide)) 3 rfl); have : (fv_56 59).toInt = (fv_39 59).toInt := congrArg Int32.toInt ((fM_call (fM_rf [38, 39, 40, 41, 42] _) fr_59 (by decide)) 59 rfl); have : (fv_56 62).toInt = (fv_39 62).toInt := congrArg Int32.toInt ((fM_call (fM_rf [38, 39, 40, 41, 42] _) fr_59 (by decide)) 62 rfl); have : (fv_56 63).toInt = (fv_39 63).toInt := congrArg Int32.toInt ((fM_call (fM_rf [38, 39, 40, 41, 42] _) fr_59 (by decide)) 63 rfl); have : (fv_56 45).toInt = (fv_39 45).toInt := congrArg Int32.toInt ((fM_call (fM_rf [38, 39, 40, 41, 42] _) fr_59 (by decide)) 45 rfl); have : (fv_56 43).toInt = (fv_39 43).toInt := congrArg Int32.toInt ((fM_call (fM_rf [38, 39, 40, 41, 42] _) fr_59 (by decide)) 43 rfl); have : (fv_56 44).toInt = (fv_39 44).toInt := congrArg Int32.toInt ((fM_call (fM_rf [38, 39, 40, 41, 42] _) fr_59 (by decide)) 44 rfl); have : (fv_56 58).toInt = (fv_39 58).toInt := congrArg Int32.toInt ((fM_call (fM_rf [38, 39, 40, 41, 42] _) fr_59 (by decide)) 58 rfl); have : (fv_56 3).toInt = (fv_39 3).toInt := congrArg Int32.toInt ((fM_call (fM_rf [38, 39, 40, 41, 42] _) fr_59 (by decide)) 3 rfl); have : (fv_75 58).toInt = (fv_56 58).toInt := congrArg Int32.toInt ((fM_call (fM_rf [38, 39, 40, 41, 42, 43, 44, 45, 59, 60, 61, 62, 63] _) fr_76 (by decide)) 58 rfl); have : (fv_75 3).toInt = (fv_56 3).toInt := congrArg Int32.toInt ((fM_call (fM_rf [38, 39, 40, 41, 42, 43, 44, 45, 59, 60, 61, 62, 63] _) fr_76 (by decide)) 3 rfl); have : (fv_202 58).toInt = (fv_75 58).toInt := congrArg Int32.toInt ((fM_call (fM_rf [38, 39, 40, 41, 42, 43, 44, 45, 59, 60, 61, 62, 63] _) fr_205 (by decide)) 58 rfl); have : (fv_202 3).toInt = (fv_75 3).toInt := congrArg Int32.toInt ((fM_call (fM_rf [38, 39, 40, 41, 42, 43, 44, 45, 59, 60, 61, 62, 63] _) fr_205 (by decide)) 3 rfl); have : (fv_230 59).toInt = (fv_202 59).toInt := congrArg Int32.toInt ((fM_call (fM_rf [38, 39, 40, 41, 42] _) fr_233 (by decide)) 59 rfl); have : (fv_230 62).toInt = (fv_202 62).toInt := congrArg Int32.toInt ((fM_call (fM_rf [38, 39, 40, 41, 42] _) fr_233 (by decide)) 62 rfl); have : (fv_230 63).toInt = (fv_202 63).toInt := congrArg Int32.toInt ((fM_call (fM_rf [38, 39, 40, 41, 42] _) fr_233 (by decide)) 63 rfl); have : (fv_230 45).toInt = (fv_202 45).toInt := congrArg Int32.toInt ((fM_call (fM_rf [38, 39, 40, 41, 42] _) fr_233 (by decide)) 45 rfl); have : (fv_230 43).toInt = (fv_202 43).toInt := congrArg Int32.toInt ((fM_call (fM_rf [38, 39, 40, 41, 42] _) fr_233 (by decide)) 43 rfl); have : (fv_230 44).toInt = (fv_202 44).toInt := congrArg Int32.toInt ((fM_call (fM_rf [38, 39, 40, 41, 42] _) fr_233 (by decide)) 44 rfl); have : (fv_230 58).toInt = (fv_202 58).toInt := congrArg Int32.toInt ((fM_call (fM_rf [38, 39, 40, 41, 42] _) fr_233 (by decide)) 58 rfl); have : (fv_230 3).toInt = (fv_202 3).toInt := congrArg Int32.toInt ((fM_call (fM_rf [38, 39, 40, 41, 42] _) fr_233 (by decide)) 3 rfl); exact ⟨(k1 + 1), m_235, htx0.trans (by rw [show 400 - (fv_75 59).toInt.toNat = (399 - (fv_75 59).toInt.toNat) + 1 from (by omega), rd_tt_go (fun w => by omega) e9, rd_dk d9, show 399 - (fv_75 59).toInt.toNat = 400 - (fv_230 59).toInt.toNat from (by omega), show (fv_75 59).toInt.toNat + 1 = (fv_230 59).toInt.toNat from (by omega), show (fv_202 62).toInt.toNat = (fv_230 62).toInt.toNat from (by omega), show (fv_202 45).toInt = (fv_230 45).toInt from (by omega)]), by omega, by omega, by have h8 := congrArg Int32.toInt f9; omega⟩) hP hS (lv_sub hl [0, 1] rfl)
                · skip
                  exact absurd c_217 (by decide)
        · skip
          have z_245 : (fv_56 59).toInt = (0 : Int32).toInt := congrArg Int32.toInt ((fr_59 59 rfl).trans ((congrFun efv_39 59).trans ((congrFun efv_37 59).trans ((congrFun efv_36 59).trans ((congrFun efv_35 59).trans ((congrFun efv_34 59)))))))
          have z_246 : (0 : Int32).toInt = 0 := by decide
          have z_247 : 0 ≤ (fv_56 59).toInt ∧ (fv_56 59).toInt ≤ 16 := hF_fv_56 59
          have z_248 : (fv_56 60).toInt = (0 : Int32).toInt := congrArg Int32.toInt ((fr_59 60 rfl).trans ((congrFun efv_39 60).trans ((congrFun efv_37 60).trans ((congrFun efv_36 60).trans ((congrFun efv_35 60))))))
          have z_249 : (0 : Int32).toInt = 0 := by decide
          have z_250 : 0 ≤ (fv_56 60).toInt ∧ (fv_56 60).toInt ≤ 120 := hF_fv_56 60
          have z_251 : (fv_56 62).toInt = (0 : Int32).toInt := congrArg Int32.toInt ((fr_59 62 rfl).trans ((congrFun efv_39 62).trans ((congrFun efv_37 62).trans ((congrFun efv_36 62)))))
          have z_252 : (0 : Int32).toInt = 0 := by decide
          have z_253 : 0 ≤ (fv_56 62).toInt ∧ (fv_56 62).toInt ≤ 50 := hF_fv_56 62
          have z_254 : (fv_56 63).toInt = (0 : Int32).toInt := congrArg Int32.toInt ((fr_59 63 rfl).trans ((congrFun efv_39 63).trans ((congrFun efv_37 63))))
          have z_255 : (0 : Int32).toInt = 0 := by decide
          have z_256 : (-100) ≤ (fv_56 63).toInt ∧ (fv_56 63).toInt ≤ 10 := hF_fv_56 63
          exact hj_88 17 fv_56 ar_58 wd_57 _ _ ls (by omega) hF_fv_56 (fM_rf [38, 39, 40, 41, 42, 43, 44, 45, 59, 60, 61, 62, 63] _) hA_ar_58 (fA_rf [48, 50, 51, 52, 53, 54, 55, 56, 57] _) hp_74 (vM_fr hp_vM (fM_call (fM_put (fM_put (fM_put (fM_put (fM_put (fM_put (fM_put (fM_put (fM_call (fM_put (fM_rf [0, 2, 37, 38, 39, 40, 41, 42, 43, 45, 59, 60, 62, 63] _) efv_4 (by decide)) fr_12 (by decide)) efv_15 (by decide)) efv_32 (by decide)) efv_33 (by decide)) efv_34 (by decide)) efv_35 (by decide)) efv_36 (by decide)) efv_37 (by decide)) efv_39 (by decide)) fr_59 (by decide)) (fA_call (fA_put (fA_call (fA_rf [48] _) fa_13 (by decide)) ear_38 (by decide)) fa_60 (by decide)) rfl rfl rfl rfl rfl) (by omega) (by omega) (by omega) (by have z599 : (fv_56 59).toInt = 0 := (by rw [show fv_56 59 = (0 : Int32) from (fr_59 59 rfl).trans ((congrFun efv_39 59).trans ((congrFun efv_37 59).trans ((congrFun efv_36 59).trans ((congrFun efv_35 59).trans ((congrFun efv_34 59))))))]; decide); have z629 : (fv_56 62).toInt = 0 := (by rw [show fv_56 62 = (0 : Int32) from (fr_59 62 rfl).trans ((congrFun efv_39 62).trans ((congrFun efv_37 62).trans ((congrFun efv_36 62))))]; decide); have z639 : (fv_56 63).toInt = 0 := (by rw [show fv_56 63 = (0 : Int32) from (fr_59 63 rfl).trans ((congrFun efv_39 63).trans ((congrFun efv_37 63)))]; decide); have z459 : (fv_56 45).toInt = 0 := (by rw [show fv_56 45 = (0 : Int32) from (fr_59 45 rfl).trans ((congrFun efv_39 45).trans ((congrFun efv_37 45).trans ((congrFun efv_36 45).trans ((congrFun efv_35 45).trans ((congrFun efv_34 45).trans ((congrFun efv_33 45)))))))]; decide); have z439 : (fv_56 43).toInt = 0 := (by rw [show fv_56 43 = (0 : Int32) from (fr_59 43 rfl).trans ((congrFun efv_39 43).trans ((congrFun efv_37 43).trans ((congrFun efv_36 43).trans ((congrFun efv_35 43).trans ((congrFun efv_34 43).trans ((congrFun efv_33 43).trans ((congrFun efv_32 43))))))))]; decide); exact ⟨0, m_61, (by rw [show 400 - (fv_56 59).toInt.toNat = 400 from (by omega), show (fv_56 59).toInt.toNat = 0 from (by omega), show (fv_56 62).toInt.toNat = 0 from (by omega), show (decide ((fv_56 45).toInt = 1)) = false from decide_eq_false (by omega)]; rfl), by omega, by omega, by omega⟩) hP hS (lv_sub hl [0, 1] rfl)
      · skip
        exact absurd c_31 (by decide)
set_option maxHeartbeats 4000000 in
set_option maxRecDepth 100000 in
theorem m_faultC (l : Launch) (dC : Nat → ClassId) (dI : Nat → Nat → Nat) (sz h : Nat) (ad : Nat → Nat) (cA : Nat → ClassId) (hd : dM h ad) (fv : Nat → Int32) (wd : Int64) (ar : Nat → Nat → Int32) (hF_fv : rF fv) (hA_ar : rA ar) : Met l yX12_fault (.code yX12_fault cX12_fault 1 (some .int) :: lw_good) ({ frames := 2, cells := 0, slots := 0, locals := 40 }) (va_Pc [.ref h] (prM dC dI h ad cA fv wd ar sz)) (va_Qi (fun (r : Int32) (u : mS) => rF u.1 ∧ rA u.2.2 ∧ fM [0] fv u.1 ∧ fA [] ar u.2.2 ∧ (r = fv 43) ∧ True) (enM dC dI h ad cA) (aM h ad sz)) 0 0 (aM h ad sz) := by
  refine Met.ofW (cc := cX12_fault) (maxL := 1) (ret := (some .int)) (by decide) rfl ?_
  intro p e s m args below meth c s₁ B hml hv
  obtain ⟨rfl, hsz, hP, hK⟩ := hv
  have hx := B.exec
  have hb := B.bytes
  have hr := B.returns
  have hts := atoms_spec (ws := (.code yX12_fault cX12_fault 1 (some .int) :: lw_good)) B.pre
  have htg : ∀ w ∈ lw_good, w.before _ s = true := fun w hw => hts w (List.mem_cons_of_mem _ hw)
  have hown : s.vm.findClass RX12 = some m.cls := findClass_of_methodNamed B.named
  have hlocks := B.notSynchronized
  subst hsz
  have hS : va_S (aM h ad s.heap.size) s.heap s.heap [] := va_S.rf
  have hl := lv_entry ([.ref h]) (n := 1) (Nat.le_of_ble_eq_true rfl)
  rw [lg_entry_eq]
  generalize (lg_sl ([.ref h]) ++ List.replicate (1 - (lg_sl ([.ref h])).length) Slot.unset).toArray = ls at hl ⊢
  have hl : lv_has ls 1 [(0, .ref h)] := hl
  refine lv_aload_n hx hb dX12_fault_0 rfl (lv_at hl 0 rfl) ?_
  refine lv_iconst (v := 0) hx hb dX12_fault_1 (by decide) ?_
  refine pM_0 hx hb htg hown hK hP hS hd dX12_fault_2 (fun H locs fv_1 efv_1 hP hS => ?_)
  have hF_fv_1 : rF fv_1 := rF_put hF_fv efv_1 (iv_any _)
  refine lv_aload_n hx hb dX12_fault_5 rfl (lv_at hl 0 rfl) ?_
  refine gM_43 hx hb htg hown hK hP dX12_fault_6 ?_
  refine my_ti (y := fv 43) ((congrFun efv_1 43)) ?_
  exact W.iret (v := fv 43) hx hb hr (fun t ht hW => ⟨⟨fv 43, (fv_1, wd, ar), rfl, ⟨hF_fv_1, hA_ar, (fM_put (fM_rf [0] _) efv_1 (by decide)), (fA_rf [] _), (show (fv 43) = fv 43 from rfl), trivial⟩, ⟨by rw [ht]; exact hP, va_K.moved hW.alike hK⟩⟩, hS.F ht⟩) hS.2.2 dX12_fault_9

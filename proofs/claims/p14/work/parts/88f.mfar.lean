def wt_is (x y : Int) : Prop := x = y
theorem wt_is_rf (x : Int) : wt_is x x := rfl
theorem wt_mv1 {x y e z : Int} (h1 : x ≤ y) (h2 : x ≤ e) (hz : z = x) : z = wt_mn (wt_mn x y) e := by
  subst hz
  have m1 := wt_mn_cases z y
  have m2 := wt_mn_cases (wt_mn z y) e
  omega
theorem wt_mv2 {x y e z : Int} (h1 : y ≤ x) (h2 : y ≤ e) (hz : z = y) : z = wt_mn (wt_mn x y) e := by
  subst hz
  have m1 := wt_mn_cases x z
  have m2 := wt_mn_cases (wt_mn x z) e
  omega
theorem wt_mv3 {x y e z : Int} (h1 : e ≤ x) (h2 : e ≤ y) (hz : z = e) : z = wt_mn (wt_mn x y) e := by
  subst hz
  have m1 := wt_mn_cases x y
  have m2 := wt_mn_cases (wt_mn x y) z
  omega
set_option maxHeartbeats 4000000 in
set_option maxRecDepth 100000 in
theorem m_streetF (l : Launch) (dC : Nat → ClassId) (dI : Nat → Nat → Nat) (sz h : Nat) (ad : Nat → Nat) (cA : Nat → ClassId) (hd : dM h ad) (fv : Nat → Int32) (wd : Int64) (ar : Nat → Nat → Int32) (hF_fv : rF fv) (hA_ar : rA ar) (G9 : Nat → Int) (a : Int32) (b : Int32) (v : Int32) (hp_mF : wt_fm G9 (fv 8) (ar 4)) : Met l yX12_street (.code yX12_street cX12_street 9 (some .boolean) :: lw_good) ({ frames := 3, cells := 0, slots := 0, locals := 62 }) (va_Pc [.ref h, .int a, .int b, .int v] (prM dC dI h ad cA fv wd ar sz)) (va_Qi (fun (r : Int32) (u : mS) => rF u.1 ∧ rA u.2.2 ∧ fM [0, 6, 8] fv u.1 ∧ fA [4] ar u.2.2 ∧ (0 ≤ r.toInt ∧ r.toInt ≤ 1) ∧ (ps_street r (u.1 6) (fv 6) a b v) ∧ (wt_sm r G9 (u.1 8) (u.2.2 4) a b v) ∧ True) (enM dC dI h ad cA) (aM h ad sz)) 0 0 (aM h ad sz) := by
  refine Met.ofW (cc := cX12_street) (maxL := 9) (ret := (some .boolean)) (by decide) rfl ?_
  intro p e s m args below meth c s₁ B hml hv
  obtain ⟨rfl, hsz, hP, hK⟩ := hv
  have hx := B.exec
  have hb := B.bytes
  have hr := B.returns
  have hts := atoms_spec (ws := (.code yX12_street cX12_street 9 (some .boolean) :: lw_good)) B.pre
  have htg : ∀ w ∈ lw_good, w.before _ s = true := fun w hw => hts w (List.mem_cons_of_mem _ hw)
  have hown : s.vm.findClass RX12 = some m.cls := findClass_of_methodNamed B.named
  have hlocks := B.notSynchronized
  subst hsz
  have hS : va_S (aM h ad s.heap.size) s.heap s.heap [] := va_S.rf
  have hl := lv_entry ([.ref h, .int a, .int b, .int v]) (n := 9) (Nat.le_of_ble_eq_true rfl)
  rw [lg_entry_eq]
  generalize (lg_sl ([.ref h, .int a, .int b, .int v]) ++ List.replicate (9 - (lg_sl ([.ref h, .int a, .int b, .int v])).length) Slot.unset).toArray = ls at hl ⊢
  have hl : lv_has ls 9 [(0, .ref h), (1, .int a), (2, .int b), (3, .int v)] := hl
  have zc0 : (0 : Int32).toInt = 0 := by decide
  have zc1 : (1 : Int32).toInt = 1 := by decide
  have zc2 : (2 : Int32).toInt = 2 := by decide
  have zc9 : (9 : Int32).toInt = 9 := by decide
  have zc11 : (11 : Int32).toInt = 11 := by decide
  have zc12 : (12 : Int32).toInt = 12 := by decide
  have zc19 : (19 : Int32).toInt = 19 := by decide
  have zc99 : (99 : Int32).toInt = 99 := by decide
  have zc199 : (199 : Int32).toInt = 199 := by decide
  have zc719 : (719 : Int32).toInt = 719 := by decide
  have zc20 : (20 : Int32).toInt = 20 := by decide
  have zc340 : (340 : Int32).toInt = 340 := by decide
  have zcm1 : ((-1) : Int32).toInt = (-1) := by decide
  refine lv_aload_n hx hb dX12_street_0 rfl (lv_at hl 0 rfl) ?_
  refine lv_iconst (v := 0) hx hb dX12_street_1 (by decide) ?_
  refine pM_0 hx hb htg hown hK hP hS hd dX12_street_2 (fun H locs fv_1 efv_1 hP hS => ?_)
  have hF_fv_1 : rF fv_1 := rF_put hF_fv efv_1 (iv_any _)
  refine lv_aload_n hx hb dX12_street_5 rfl (lv_at hl 0 rfl) ?_
  refine gM_6 hx hb htg hown hK hP dX12_street_6 ?_
  refine my_ti (y := fv 6) ((congrFun efv_1 6)) ?_
  have i_2 : 0 ≤ (fv 6).toInt ∧ (fv 6).toInt ≤ 30 := hF_fv 6
  refine lv_bipush (v := 30) hx hb dX12_street_9 (by decide) ?_
  refine lv_icmp_eq (tgt := 43) hx hb dX12_street_11 (by decide) (fun c_3 => ?_) (fun c_3 => ?_)
  · skip
    have i_4 : 30 ≤ (fv 6).toInt ∧ (fv 6).toInt ≤ 30 := iv_eq1 (⟨by decide, by decide⟩ : (30 : Int) ≤ (30 : Int32).toInt ∧ (30 : Int32).toInt ≤ 30) c_3
    refine lv_iconst (v := 0) hx hb dX12_street_43 (by decide) ?_
    have z_6 : (0 : Int32).toInt = 0 := by decide
    exact W.zret (v := 0) hx hb hr (by decide) (fun t ht hW => ⟨⟨0, (fv_1, wd, ar), rfl, ⟨hF_fv_1, hA_ar, (fM_put (fM_rf [0, 6, 8] _) efv_1 (by decide)), (fA_rf [4] _), (iv_w (⟨by decide, by decide⟩ : (0 : Int) ≤ (0 : Int32).toInt ∧ (0 : Int32).toInt ≤ 0) (by decide) (by decide)), (show ps_street (0 : Int32) (fv_1 6) (fv 6) a b v from by have q_fv_1_33 : (fv_1 33).toInt = (fv 33).toInt := congrArg Int32.toInt ((fM_put (fM_rf [0] _) efv_1 (by decide)) 33 rfl); have q_fv_1_3 : (fv_1 3).toInt = (fv 3).toInt := congrArg Int32.toInt ((fM_put (fM_rf [0] _) efv_1 (by decide)) 3 rfl); have q_fv_1_6 : (fv_1 6).toInt = (fv 6).toInt := congrArg Int32.toInt ((fM_put (fM_rf [0] _) efv_1 (by decide)) 6 rfl); have q_fv_1_34 : (fv_1 34).toInt = (fv 34).toInt := congrArg Int32.toInt ((fM_put (fM_rf [0] _) efv_1 (by decide)) 34 rfl); have q_fv_1_35 : (fv_1 35).toInt = (fv 35).toInt := congrArg Int32.toInt ((fM_put (fM_rf [0] _) efv_1 (by decide)) 35 rfl); have q_fv_1_2 : (fv_1 2).toInt = (fv 2).toInt := congrArg Int32.toInt ((fM_put (fM_rf [0] _) efv_1 (by decide)) 2 rfl); exact Or.inl ⟨rfl, (congrFun efv_1 6), by omega⟩), (show wt_sm (0 : Int32) G9 (fv_1 8) (ar 4) a b v from Or.inl ⟨rfl, (mF_fr hp_mF (fM_put (fM_rf [0] _) efv_1 (by decide)) (fA_rf [] _) rfl rfl)⟩), trivial⟩, ⟨by rw [ht]; exact hP, va_K.moved hW.alike hK⟩⟩, hS.F ht⟩) hS.2.2 dX12_street_44
  · skip
    have i_7 : 0 ≤ (fv 6).toInt ∧ (fv 6).toInt ≤ 29 := iv_neh i_2 (by decide) c_3
    have k_8 : ¬ (fv 6).toInt = 30 := fun q => c_3 (Int32.toInt_inj.mp q)
    refine lv_iload_n hx hb dX12_street_14 rfl (lv_at hl 1 rfl) ?_
    refine va_calli (va_runS (As := [.int a]) (rest := []) ⟨hx, hb, hml, hown, hts⟩ (m_isCorner l H.size a) (va_cwS 1 hts (gS kw_7_225 kw_7_226 kw_1_15 kw_7_227) rfl rfl rfl (by decide +kernel) ⟨Nat.le_of_ble_eq_true rfl, Nat.le_of_ble_eq_true rfl⟩) ⟨fun a U g mk q => ⟨q.1, q.2⟩, fun U hU hW => ⟨rfl, congrArg Array.size hU⟩⟩ rfl rfl hl.1 rfl (lv_room (Nat.le_of_ble_eq_true rfl)) dX12_street_15 ⟨Nat.le_of_ble_eq_true rfl, Nat.le_of_ble_eq_true rfl⟩) hS (fun q _ h9 => nM_up hS q h9) (nM_up hS) (fun r_9 u t H1 locs ht _ hw hB _ hk1 hS => ?_)
    obtain ⟨p_10, p_11, -⟩ := hw
    have hP := my_keepM hP hk1
    generalize H1 = H at hP hS ⊢
    rcases p_11 with ⟨rfl, p_11⟩ | ⟨rfl, p_11⟩
    · skip
      refine lv_if_eq (tgt := 43) hx hb dX12_street_18 (by decide) (fun c_12 => ?_) (fun c_12 => ?_)
      · skip
        refine lv_iconst (v := 0) hx hb dX12_street_43 (by decide) ?_
        have z_13 : (0 : Int32).toInt = 0 := by decide
        exact W.zret (v := 0) hx hb hr (by decide) (fun t ht hW => ⟨⟨0, (fv_1, wd, ar), rfl, ⟨hF_fv_1, hA_ar, (fM_put (fM_rf [0, 6, 8] _) efv_1 (by decide)), (fA_rf [4] _), (iv_w (⟨by decide, by decide⟩ : (0 : Int) ≤ (0 : Int32).toInt ∧ (0 : Int32).toInt ≤ 0) (by decide) (by decide)), (show ps_street (0 : Int32) (fv_1 6) (fv 6) a b v from by have q_fv_1_33 : (fv_1 33).toInt = (fv 33).toInt := congrArg Int32.toInt ((fM_put (fM_rf [0] _) efv_1 (by decide)) 33 rfl); have q_fv_1_3 : (fv_1 3).toInt = (fv 3).toInt := congrArg Int32.toInt ((fM_put (fM_rf [0] _) efv_1 (by decide)) 3 rfl); have q_fv_1_6 : (fv_1 6).toInt = (fv 6).toInt := congrArg Int32.toInt ((fM_put (fM_rf [0] _) efv_1 (by decide)) 6 rfl); have q_fv_1_34 : (fv_1 34).toInt = (fv 34).toInt := congrArg Int32.toInt ((fM_put (fM_rf [0] _) efv_1 (by decide)) 34 rfl); have q_fv_1_35 : (fv_1 35).toInt = (fv 35).toInt := congrArg Int32.toInt ((fM_put (fM_rf [0] _) efv_1 (by decide)) 35 rfl); have q_fv_1_2 : (fv_1 2).toInt = (fv 2).toInt := congrArg Int32.toInt ((fM_put (fM_rf [0] _) efv_1 (by decide)) 2 rfl); exact Or.inl ⟨rfl, (congrFun efv_1 6), by omega⟩), (show wt_sm (0 : Int32) G9 (fv_1 8) (ar 4) a b v from Or.inl ⟨rfl, (mF_fr hp_mF (fM_put (fM_rf [0] _) efv_1 (by decide)) (fA_rf [] _) rfl rfl)⟩), trivial⟩, ⟨by rw [ht]; exact hP, va_K.moved hW.alike hK⟩⟩, hS.F ht⟩) hS.2.2 dX12_street_44
      · skip
        exact absurd c_12 (by decide)
    · skip
      have i_14 : 0 ≤ a.toInt ∧ a.toInt ≤ 2147483647 := ⟨p_11.1, (iv_any a).2⟩
      have i_15 : 0 ≤ a.toInt ∧ a.toInt ≤ 11 := ⟨i_14.1, p_11.2⟩
      refine lv_if_eq (tgt := 43) hx hb dX12_street_18 (by decide) (fun c_16 => ?_) (fun c_16 => ?_)
      · skip
        exact absurd c_16 (by decide)
      · skip
        refine lv_iload_n hx hb dX12_street_21 rfl (lv_at hl 2 rfl) ?_
        refine va_calli (va_runS (As := [.int b]) (rest := []) ⟨hx, hb, hml, hown, hts⟩ (m_isCorner l H.size b) (va_cwS 1 hts (gS kw_7_225 kw_7_226 kw_1_15 kw_7_227) rfl rfl rfl (by decide +kernel) ⟨Nat.le_of_ble_eq_true rfl, Nat.le_of_ble_eq_true rfl⟩) ⟨fun a U g mk q => ⟨q.1, q.2⟩, fun U hU hW => ⟨rfl, congrArg Array.size hU⟩⟩ rfl rfl hl.1 rfl (lv_room (Nat.le_of_ble_eq_true rfl)) dX12_street_22 ⟨Nat.le_of_ble_eq_true rfl, Nat.le_of_ble_eq_true rfl⟩) hS (fun q _ h9 => nM_up hS q h9) (nM_up hS) (fun r_17 u t H1 locs ht _ hw hB _ hk1 hS => ?_)
        obtain ⟨p_18, p_19, -⟩ := hw
        have hP := my_keepM hP hk1
        generalize H1 = H at hP hS ⊢
        rcases p_19 with ⟨rfl, p_19⟩ | ⟨rfl, p_19⟩
        · skip
          refine lv_if_eq (tgt := 43) hx hb dX12_street_25 (by decide) (fun c_20 => ?_) (fun c_20 => ?_)
          · skip
            refine lv_iconst (v := 0) hx hb dX12_street_43 (by decide) ?_
            have z_21 : (0 : Int32).toInt = 0 := by decide
            exact W.zret (v := 0) hx hb hr (by decide) (fun t ht hW => ⟨⟨0, (fv_1, wd, ar), rfl, ⟨hF_fv_1, hA_ar, (fM_put (fM_rf [0, 6, 8] _) efv_1 (by decide)), (fA_rf [4] _), (iv_w (⟨by decide, by decide⟩ : (0 : Int) ≤ (0 : Int32).toInt ∧ (0 : Int32).toInt ≤ 0) (by decide) (by decide)), (show ps_street (0 : Int32) (fv_1 6) (fv 6) a b v from by have q_fv_1_33 : (fv_1 33).toInt = (fv 33).toInt := congrArg Int32.toInt ((fM_put (fM_rf [0] _) efv_1 (by decide)) 33 rfl); have q_fv_1_3 : (fv_1 3).toInt = (fv 3).toInt := congrArg Int32.toInt ((fM_put (fM_rf [0] _) efv_1 (by decide)) 3 rfl); have q_fv_1_6 : (fv_1 6).toInt = (fv 6).toInt := congrArg Int32.toInt ((fM_put (fM_rf [0] _) efv_1 (by decide)) 6 rfl); have q_fv_1_34 : (fv_1 34).toInt = (fv 34).toInt := congrArg Int32.toInt ((fM_put (fM_rf [0] _) efv_1 (by decide)) 34 rfl); have q_fv_1_35 : (fv_1 35).toInt = (fv 35).toInt := congrArg Int32.toInt ((fM_put (fM_rf [0] _) efv_1 (by decide)) 35 rfl); have q_fv_1_2 : (fv_1 2).toInt = (fv 2).toInt := congrArg Int32.toInt ((fM_put (fM_rf [0] _) efv_1 (by decide)) 2 rfl); exact Or.inl ⟨rfl, (congrFun efv_1 6), by omega⟩), (show wt_sm (0 : Int32) G9 (fv_1 8) (ar 4) a b v from Or.inl ⟨rfl, (mF_fr hp_mF (fM_put (fM_rf [0] _) efv_1 (by decide)) (fA_rf [] _) rfl rfl)⟩), trivial⟩, ⟨by rw [ht]; exact hP, va_K.moved hW.alike hK⟩⟩, hS.F ht⟩) hS.2.2 dX12_street_44
          · skip
            exact absurd c_20 (by decide)
        · skip
          have i_22 : 0 ≤ b.toInt ∧ b.toInt ≤ 2147483647 := ⟨p_19.1, (iv_any b).2⟩
          have i_23 : 0 ≤ b.toInt ∧ b.toInt ≤ 11 := ⟨i_22.1, p_19.2⟩
          refine lv_if_eq (tgt := 43) hx hb dX12_street_25 (by decide) (fun c_24 => ?_) (fun c_24 => ?_)
          · skip
            exact absurd c_24 (by decide)
          · skip
            refine lv_iload_n hx hb dX12_street_28 rfl (lv_at hl 1 rfl) ?_
            refine lv_iload_n hx hb dX12_street_29 rfl (lv_at hl 2 rfl) ?_
            refine lv_icmp_eq (tgt := 43) hx hb dX12_street_30 (by decide) (fun c_25 => ?_) (fun c_25 => ?_)
            · skip
              have k_26 := congrArg Int32.toInt c_25
              refine lv_iconst (v := 0) hx hb dX12_street_43 (by decide) ?_
              have z_27 : (0 : Int32).toInt = 0 := by decide
              exact W.zret (v := 0) hx hb hr (by decide) (fun t ht hW => ⟨⟨0, (fv_1, wd, ar), rfl, ⟨hF_fv_1, hA_ar, (fM_put (fM_rf [0, 6, 8] _) efv_1 (by decide)), (fA_rf [4] _), (iv_w (⟨by decide, by decide⟩ : (0 : Int) ≤ (0 : Int32).toInt ∧ (0 : Int32).toInt ≤ 0) (by decide) (by decide)), (show ps_street (0 : Int32) (fv_1 6) (fv 6) a b v from by have q_fv_1_33 : (fv_1 33).toInt = (fv 33).toInt := congrArg Int32.toInt ((fM_put (fM_rf [0] _) efv_1 (by decide)) 33 rfl); have q_fv_1_3 : (fv_1 3).toInt = (fv 3).toInt := congrArg Int32.toInt ((fM_put (fM_rf [0] _) efv_1 (by decide)) 3 rfl); have q_fv_1_6 : (fv_1 6).toInt = (fv 6).toInt := congrArg Int32.toInt ((fM_put (fM_rf [0] _) efv_1 (by decide)) 6 rfl); have q_fv_1_34 : (fv_1 34).toInt = (fv 34).toInt := congrArg Int32.toInt ((fM_put (fM_rf [0] _) efv_1 (by decide)) 34 rfl); have q_fv_1_35 : (fv_1 35).toInt = (fv 35).toInt := congrArg Int32.toInt ((fM_put (fM_rf [0] _) efv_1 (by decide)) 35 rfl); have q_fv_1_2 : (fv_1 2).toInt = (fv 2).toInt := congrArg Int32.toInt ((fM_put (fM_rf [0] _) efv_1 (by decide)) 2 rfl); exact Or.inl ⟨rfl, (congrFun efv_1 6), by omega⟩), (show wt_sm (0 : Int32) G9 (fv_1 8) (ar 4) a b v from Or.inl ⟨rfl, (mF_fr hp_mF (fM_put (fM_rf [0] _) efv_1 (by decide)) (fA_rf [] _) rfl rfl)⟩), trivial⟩, ⟨by rw [ht]; exact hP, va_K.moved hW.alike hK⟩⟩, hS.F ht⟩) hS.2.2 dX12_street_44
            · skip
              have k_28 : ¬ a.toInt = b.toInt := fun q => c_25 (Int32.toInt_inj.mp q)
              refine lv_iload_n hx hb dX12_street_33 rfl (lv_at hl 3 rfl) ?_
              refine lv_iconst (v := 1) hx hb dX12_street_34 (by decide) ?_
              refine lv_bipush (v := 99) hx hb dX12_street_35 (by decide) ?_
              refine va_calli (va_runS (As := [.int v, .int 1, .int 99]) (rest := []) ⟨hx, hb, hml, hown, hts⟩ (m_isIn l H.size v 1 99) (va_cwS 3 hts (gS kw_7_218 kw_7_219 kw_1_15 kw_7_220) rfl rfl rfl (by decide +kernel) ⟨Nat.le_of_ble_eq_true rfl, Nat.le_of_ble_eq_true rfl⟩) ⟨fun a U g mk q => ⟨q.1, q.2⟩, fun U hU hW => ⟨rfl, congrArg Array.size hU⟩⟩ rfl rfl hl.1 rfl (lv_room (Nat.le_of_ble_eq_true rfl)) dX12_street_37 ⟨Nat.le_of_ble_eq_true rfl, Nat.le_of_ble_eq_true rfl⟩) hS (fun q _ h9 => nM_up hS q h9) (nM_up hS) (fun r_29 u t H1 locs ht _ hw hB _ hk1 hS => ?_)
              obtain ⟨p_30, p_31, -⟩ := hw
              have hP := my_keepM hP hk1
              generalize H1 = H at hP hS ⊢
              rcases p_31 with ⟨rfl, p_31⟩ | ⟨rfl, p_31⟩
              · skip
                refine lv_if_ne (tgt := 45) hx hb dX12_street_40 (by decide) (fun c_32 => ?_) (fun c_32 => ?_)
                · skip
                  exact absurd c_32 (by decide)
                · skip
                  refine lv_iconst (v := 0) hx hb dX12_street_43 (by decide) ?_
                  have z_33 : (0 : Int32).toInt = 0 := by decide
                  exact W.zret (v := 0) hx hb hr (by decide) (fun t ht hW => ⟨⟨0, (fv_1, wd, ar), rfl, ⟨hF_fv_1, hA_ar, (fM_put (fM_rf [0, 6, 8] _) efv_1 (by decide)), (fA_rf [4] _), (iv_w (⟨by decide, by decide⟩ : (0 : Int) ≤ (0 : Int32).toInt ∧ (0 : Int32).toInt ≤ 0) (by decide) (by decide)), (show ps_street (0 : Int32) (fv_1 6) (fv 6) a b v from by have q_fv_1_33 : (fv_1 33).toInt = (fv 33).toInt := congrArg Int32.toInt ((fM_put (fM_rf [0] _) efv_1 (by decide)) 33 rfl); have q_fv_1_3 : (fv_1 3).toInt = (fv 3).toInt := congrArg Int32.toInt ((fM_put (fM_rf [0] _) efv_1 (by decide)) 3 rfl); have q_fv_1_6 : (fv_1 6).toInt = (fv 6).toInt := congrArg Int32.toInt ((fM_put (fM_rf [0] _) efv_1 (by decide)) 6 rfl); have q_fv_1_34 : (fv_1 34).toInt = (fv 34).toInt := congrArg Int32.toInt ((fM_put (fM_rf [0] _) efv_1 (by decide)) 34 rfl); have q_fv_1_35 : (fv_1 35).toInt = (fv 35).toInt := congrArg Int32.toInt ((fM_put (fM_rf [0] _) efv_1 (by decide)) 35 rfl); have q_fv_1_2 : (fv_1 2).toInt = (fv 2).toInt := congrArg Int32.toInt ((fM_put (fM_rf [0] _) efv_1 (by decide)) 2 rfl); exact Or.inl ⟨rfl, (congrFun efv_1 6), by omega⟩), (show wt_sm (0 : Int32) G9 (fv_1 8) (ar 4) a b v from Or.inl ⟨rfl, (mF_fr hp_mF (fM_put (fM_rf [0] _) efv_1 (by decide)) (fA_rf [] _) rfl rfl)⟩), trivial⟩, ⟨by rw [ht]; exact hP, va_K.moved hW.alike hK⟩⟩, hS.F ht⟩) hS.2.2 dX12_street_44
              · skip
                have i_34 : 1 ≤ v.toInt ∧ v.toInt ≤ 2147483647 := iv_le2 (⟨by decide, by decide⟩ : (1 : Int) ≤ (1 : Int32).toInt ∧ (1 : Int32).toInt ≤ 1) (iv_any v) (Int32.le_iff_toInt_le.mpr p_31.1)
                have i_35 : 1 ≤ v.toInt ∧ v.toInt ≤ 99 := iv_le1 i_34 (⟨by decide, by decide⟩ : (99 : Int) ≤ (99 : Int32).toInt ∧ (99 : Int32).toInt ≤ 99) (Int32.le_iff_toInt_le.mpr p_31.2)
                refine lv_if_ne (tgt := 45) hx hb dX12_street_40 (by decide) (fun c_36 => ?_) (fun c_36 => ?_)
                · skip
                  refine lv_aload_n hx hb dX12_street_45 rfl (lv_at hl 0 rfl) ?_
                  refine va_callv (va_runV (As := []) (rest := []) ⟨hx, hb, hml, hown, hts⟩ (m_begin l dC dI H.size h ad cA hd fv_1 wd ar hF_fv_1 hA_ar G9 (mF_fr hp_mF (fM_put (fM_rf [0] _) efv_1 (by decide)) (fA_rf [] _) rfl rfl)) (cwV 0 hts (gV kw_7_228 kw_7_230 kw_p_58 kw_1_15 kw_7_231) rfl rfl rfl (by decide +kernel) ⟨Nat.le_of_ble_eq_true rfl, Nat.le_of_ble_eq_true rfl⟩) ⟨fun a U g mk q => ⟨q.1, q.2.1, q.2.2.1, va_K.moved (u := U) (U := U.calling g mk a) (Vm.Alike.refl U.vm) q.2.2.2⟩, va_recv hK hP (ci := 12) (q0 := 0) rfl rfl, fun U hU hW => ⟨rfl, by rw [hU], by rw [hU]; exact hP, va_K.moved hW.alike hK⟩⟩ rfl rfl hl.1 rfl (lv_room (Nat.le_of_ble_eq_true rfl)) dX12_street_46 ⟨Nat.le_of_ble_eq_true rfl, Nat.le_of_ble_eq_true rfl⟩) hS (fun q _ h9 => aM_up hS q h9) (aM_up hS) (fun u t H1 locs ht _ hw hB _ hk1 hS => ?_)
                  obtain ⟨fv_40, wd_41, ar_42⟩ := u
                  obtain ⟨hF_fv_40, hA_ar_42, fr_43, fa_44, p_38, p_39, -⟩ := hw
                  have hP : va_P (dC, dI) vwCl (wsM h ad cA fv_40 wd_41 ar_42) H1 := by have h9 := hB.1; rw [ht] at h9; exact h9
                  have fr_43 : fM [8] fv_1 fv_40 := fr_43
                  have fa_44 : fA [4] ar ar_42 := fa_44
                  have p_39 : wt_fm G9 (fv_40 8) (ar_42 4) := p_39
                  have p_38 : (fv_40 8).toInt = 1 ∧ ∀ i, i < 144 → wt_rl (G9 i) (ar_42 4 i).toInt := p_38
                  generalize H1 = H at hP hS ⊢
                  refine lv_aload_n hx hb dX12_street_49 rfl (lv_at hl 0 rfl) ?_
                  refine lv_dup hx hb dX12_street_50 rfl ?_
                  refine gM_6 hx hb htg hown hK hP dX12_street_51 ?_
                  refine my_ti (y := fv 6) ((fr_43 6 rfl).trans ((congrFun efv_1 6))) ?_
                  refine lv_iconst (v := 1) hx hb dX12_street_54 (by decide) ?_
                  refine lv_iadd hx hb dX12_street_55 ?_
                  refine lv_topi (fun v_45 ev_45 => ?_)
                  have t_46 : v_45.toInt = (fv 6).toInt + 1 ∧ 1 ≤ v_45.toInt ∧ v_45.toInt ≤ 30 := iv_addc ev_45 i_7 (by decide) (by decide) (by decide)
                  refine pM_6 hx hb htg hown hK hP hS hd dX12_street_56 (fun H locs fv_48 efv_48 hP hS => ?_)
                  have hF_fv_48 : rF fv_48 := rF_put hF_fv_40 efv_48 (iv_w t_46.2 (by decide) (by decide))
                  refine lv_iconst (v := 0) hx hb dX12_street_59 (by decide) ?_
                  refine lv_istore (lv' := [(4, .int 0), (0, .ref h), (1, .int a), (2, .int b), (3, .int v)]) hx hb dX12_street_60 hl (by decide) rfl (fun ls hl => ?_)
                  refine my_cut (P := fun R9 a9 Q9 => ∀ (n_53 : Nat) (x_49 : Int32) (ar_50 : Nat → Nat → Int32) (H : Heap) (locs : List Loc) (ls : Array Slot), 12 - x_49.toInt < (n_53 : Int) → (0 ≤ x_49.toInt ∧ x_49.toInt ≤ 12) → rA ar_50 → fA [4] ar_42 ar_50 → ((fun i => (ar_50 4 i).toInt) = wt_L a.toInt.toNat b.toInt.toNat v.toInt (fun i => (ar_42 4 i).toInt) (12 * x_49.toInt.toNat)) → va_P (dC, dI) vwCl (wsM h ad cA fv_48 wd_41 ar_50) H → va_S (aM h ad s.heap.size) s.heap H locs → lv_has ls 9 [(0, .ref h), (1, .int a), (2, .int b), (3, .int v), (4, .int x_49)] → W p l e R9 s m a9 below meth c H locs 0 0 Q9 (F0 m 62 ls [])) ?_ (fun hj_55 => ?_)
                  · intro n_53
                    induction n_53 with
                    | zero => intro x_49 ar_50 H locs ls fu_54 i_x_49 hA_ar_50 fa_51 q_52; exfalso; omega
                    | succ n_53 ih_53 =>
                      intro x_49 ar_50 H locs ls fu_54 i_x_49 hA_ar_50 fa_51 q_52 hP hS hl
                      refine lv_iload hx hb dX12_street_62 (lv_at hl 4 rfl) ?_
                      refine lv_bipush (v := 12) hx hb dX12_street_64 (by decide) ?_
                      refine lv_icmp_ge (tgt := 198) hx hb dX12_street_66 (by decide) (fun c_56 => ?_) (fun c_56 => ?_)
                      · skip
                        have i_57 : 12 ≤ x_49.toInt ∧ x_49.toInt ≤ 12 := iv_le2 (⟨by decide, by decide⟩ : (12 : Int) ≤ (12 : Int32).toInt ∧ (12 : Int32).toInt ≤ 12) i_x_49 c_56
                        refine lv_iconst (v := 1) hx hb dX12_street_198 (by decide) ?_
                        have z_58 : (1 : Int32).toInt = 1 := by decide
                        exact W.zret (v := 1) hx hb hr (by decide) (fun t ht hW => ⟨⟨1, (fv_48, wd_41, ar_50), rfl, ⟨hF_fv_48, hA_ar_50, (fM_put (fM_call (fM_put (fM_rf [0, 6, 8] _) efv_1 (by decide)) fr_43 (by decide)) efv_48 (by decide)), (fA_call (fA_call (fA_rf [4] _) fa_44 (by decide)) fa_51 (by decide)), (iv_w (⟨by decide, by decide⟩ : (1 : Int) ≤ (1 : Int32).toInt ∧ (1 : Int32).toInt ≤ 1) (by decide) (by decide)), (show ps_street (1 : Int32) (fv_48 6) (fv 6) a b v from by have q_fv_1_33 : (fv_1 33).toInt = (fv 33).toInt := congrArg Int32.toInt ((fM_put (fM_rf [0] _) efv_1 (by decide)) 33 rfl); have q_fv_1_3 : (fv_1 3).toInt = (fv 3).toInt := congrArg Int32.toInt ((fM_put (fM_rf [0] _) efv_1 (by decide)) 3 rfl); have q_fv_1_6 : (fv_1 6).toInt = (fv 6).toInt := congrArg Int32.toInt ((fM_put (fM_rf [0] _) efv_1 (by decide)) 6 rfl); have q_fv_1_34 : (fv_1 34).toInt = (fv 34).toInt := congrArg Int32.toInt ((fM_put (fM_rf [0] _) efv_1 (by decide)) 34 rfl); have q_fv_1_35 : (fv_1 35).toInt = (fv 35).toInt := congrArg Int32.toInt ((fM_put (fM_rf [0] _) efv_1 (by decide)) 35 rfl); have q_fv_1_2 : (fv_1 2).toInt = (fv 2).toInt := congrArg Int32.toInt ((fM_put (fM_rf [0] _) efv_1 (by decide)) 2 rfl); have q_fv_40_33 : (fv_40 33).toInt = (fv 33).toInt := congrArg Int32.toInt ((fM_call (fM_put (fM_rf [0, 8] _) efv_1 (by decide)) fr_43 (by decide)) 33 rfl); have q_fv_40_3 : (fv_40 3).toInt = (fv 3).toInt := congrArg Int32.toInt ((fM_call (fM_put (fM_rf [0, 8] _) efv_1 (by decide)) fr_43 (by decide)) 3 rfl); have q_fv_40_6 : (fv_40 6).toInt = (fv 6).toInt := congrArg Int32.toInt ((fM_call (fM_put (fM_rf [0, 8] _) efv_1 (by decide)) fr_43 (by decide)) 6 rfl); have q_fv_40_34 : (fv_40 34).toInt = (fv 34).toInt := congrArg Int32.toInt ((fM_call (fM_put (fM_rf [0, 8] _) efv_1 (by decide)) fr_43 (by decide)) 34 rfl); have q_fv_40_35 : (fv_40 35).toInt = (fv 35).toInt := congrArg Int32.toInt ((fM_call (fM_put (fM_rf [0, 8] _) efv_1 (by decide)) fr_43 (by decide)) 35 rfl); have q_fv_40_2 : (fv_40 2).toInt = (fv 2).toInt := congrArg Int32.toInt ((fM_call (fM_put (fM_rf [0, 8] _) efv_1 (by decide)) fr_43 (by decide)) 2 rfl); have q_fv_48_33 : (fv_48 33).toInt = (fv 33).toInt := congrArg Int32.toInt ((fM_put (fM_call (fM_put (fM_rf [0, 6, 8] _) efv_1 (by decide)) fr_43 (by decide)) efv_48 (by decide)) 33 rfl); have q_fv_48_3 : (fv_48 3).toInt = (fv 3).toInt := congrArg Int32.toInt ((fM_put (fM_call (fM_put (fM_rf [0, 6, 8] _) efv_1 (by decide)) fr_43 (by decide)) efv_48 (by decide)) 3 rfl); have q_fv_48_34 : (fv_48 34).toInt = (fv 34).toInt := congrArg Int32.toInt ((fM_put (fM_call (fM_put (fM_rf [0, 6, 8] _) efv_1 (by decide)) fr_43 (by decide)) efv_48 (by decide)) 34 rfl); have q_fv_48_35 : (fv_48 35).toInt = (fv 35).toInt := congrArg Int32.toInt ((fM_put (fM_call (fM_put (fM_rf [0, 6, 8] _) efv_1 (by decide)) fr_43 (by decide)) efv_48 (by decide)) 35 rfl); have q_fv_48_2 : (fv_48 2).toInt = (fv 2).toInt := congrArg Int32.toInt ((fM_put (fM_call (fM_put (fM_rf [0, 6, 8] _) efv_1 (by decide)) fr_43 (by decide)) efv_48 (by decide)) 2 rfl); exact Or.inr ⟨rfl, by rw [show fv_48 6 = v_45 from (congrFun efv_48 6)]; omega, by omega⟩), (show wt_sm (1 : Int32) G9 (fv_48 8) (ar_50 4) a b v from Or.inr ⟨rfl, by rw [show fv_48 8 = (fv_40 8) from (congrFun efv_48 8)]; exact p_38.1, ar_42 4, p_38.2, by rw [q_52, show 12 * x_49.toInt.toNat = 144 from (by omega)]⟩), trivial⟩, ⟨by rw [ht]; exact hP, va_K.moved hW.alike hK⟩⟩, hS.F ht⟩) hS.2.2 dX12_street_199
                      · skip
                        have i_59 : 0 ≤ x_49.toInt ∧ x_49.toInt ≤ 11 := iv_lt1 i_x_49 (⟨by decide, by decide⟩ : (12 : Int) ≤ (12 : Int32).toInt ∧ (12 : Int32).toInt ≤ 12) (Int32.not_le.mp c_56)
                        refine lv_iconst (v := 0) hx hb dX12_street_69 (by decide) ?_
                        refine lv_istore (lv' := [(5, .int 0), (0, .ref h), (1, .int a), (2, .int b), (3, .int v), (4, .int x_49)]) hx hb dX12_street_70 hl (by decide) rfl (fun ls hl => ?_)
                        refine my_cut (P := fun R9 a9 Q9 => ∀ (n_64 : Nat) (x_60 : Int32) (ar_61 : Nat → Nat → Int32) (H : Heap) (locs : List Loc) (ls : Array Slot), 12 - x_60.toInt < (n_64 : Int) → (0 ≤ x_60.toInt ∧ x_60.toInt ≤ 12) → rA ar_61 → fA [4] ar_50 ar_61 → ((fun i => (ar_61 4 i).toInt) = wt_L a.toInt.toNat b.toInt.toNat v.toInt (fun i => (ar_42 4 i).toInt) (12 * x_49.toInt.toNat + x_60.toInt.toNat)) → va_P (dC, dI) vwCl (wsM h ad cA fv_48 wd_41 ar_61) H → va_S (aM h ad s.heap.size) s.heap H locs → lv_has ls 9 [(0, .ref h), (1, .int a), (2, .int b), (3, .int v), (4, .int x_49), (5, .int x_60)] → W p l e R9 s m a9 below meth c H locs 0 0 Q9 (F0 m 72 ls [])) ?_ (fun hj_66 => ?_)
                        · intro n_64
                          induction n_64 with
                          | zero => intro x_60 ar_61 H locs ls fu_65 i_x_60 hA_ar_61 fa_62 q_63; exfalso; omega
                          | succ n_64 ih_64 =>
                            intro x_60 ar_61 H locs ls fu_65 i_x_60 hA_ar_61 fa_62 q_63 hP hS hl
                            refine lv_iload hx hb dX12_street_72 (lv_at hl 5 rfl) ?_
                            refine lv_bipush (v := 12) hx hb dX12_street_74 (by decide) ?_
                            refine lv_icmp_ge (tgt := 192) hx hb dX12_street_76 (by decide) (fun c_67 => ?_) (fun c_67 => ?_)
                            · skip
                              have i_68 : 12 ≤ x_60.toInt ∧ x_60.toInt ≤ 12 := iv_le2 (⟨by decide, by decide⟩ : (12 : Int) ≤ (12 : Int32).toInt ∧ (12 : Int32).toInt ≤ 12) i_x_60 c_67
                              obtain ⟨v_150, ev_150⟩ : ∃ z : Int32, z = x_49 + 1 := ⟨_, rfl⟩
                              refine lv_iinc (v := v_150) (lv' := [(4, .int v_150), (0, .ref h), (1, .int a), (2, .int b), (3, .int v), (5, .int x_60)]) hx hb dX12_street_192 hl (k := 4) rfl (by rw [ev_150]; rfl) (by decide) rfl (fun ls hl => ?_)
                              have t_151 : v_150.toInt = x_49.toInt + 1 ∧ 1 ≤ v_150.toInt ∧ v_150.toInt ≤ 12 := iv_addc ev_150 i_59 (by decide) (by decide) (by decide)
                              refine lv_goto (tgt := 62) hx hb dX12_street_195 (by decide) ?_
                              exact ih_53 v_150 ar_61 _ _ ls (by omega) (iv_w t_151.2 (by decide) (by decide)) hA_ar_61 (fA_call (fA_call (fA_rf [4] _) fa_51 (by decide)) fa_62 (by decide)) (by rw [show 12 * v_150.toInt.toNat = 12 * x_49.toInt.toNat + x_60.toInt.toNat from (by omega)]; exact q_63) hP hS (lv_sub hl [1, 2, 3, 4, 0] rfl)
                            · skip
                              have i_69 : 0 ≤ x_60.toInt ∧ x_60.toInt ≤ 11 := iv_lt1 i_x_60 (⟨by decide, by decide⟩ : (12 : Int) ≤ (12 : Int32).toInt ∧ (12 : Int32).toInt ≤ 12) (Int32.not_le.mp c_67)
                              refine lv_aload_n hx hb dX12_street_79 rfl (lv_at hl 0 rfl) ?_
                              refine gM_4 hx hb htg hown hK hP dX12_street_80 ?_
                              refine lv_bipush (v := 12) hx hb dX12_street_83 (by decide) ?_
                              refine lv_iload hx hb dX12_street_85 (lv_at hl 4 rfl) ?_
                              refine lv_imul hx hb dX12_street_87 ?_
                              refine lv_topi (fun v_70 ev_70 => ?_)
                              have t_71 : v_70.toInt = 12 * x_49.toInt ∧ 0 ≤ v_70.toInt ∧ v_70.toInt ≤ 132 := iv_mulc ev_70 i_59 (by decide) (by decide) (by decide) (by decide)
                              refine lv_iload_n hx hb dX12_street_88 rfl (lv_at hl 1 rfl) ?_
                              refine lv_iadd hx hb dX12_street_89 ?_
                              refine lv_topi (fun v_73 ev_73 => ?_)
                              have t_74 : v_73.toInt = v_70.toInt + a.toInt ∧ 0 ≤ v_73.toInt ∧ v_73.toInt ≤ 143 := iv_add ev_73 t_71.2 i_15 (by decide) (by decide)
                              refine lM_4 hx hb hK hP (iv_in t_74.2 (by decide) (by decide)) dX12_street_90 (fun v_76 ev_76 => ?_)
                              have i_77 : 0 ≤ v_76.toInt ∧ v_76.toInt ≤ 100000 := ev_76 ▸ hA_ar_61 4 _
                              refine lv_iload_n hx hb dX12_street_91 rfl (lv_at hl 3 rfl) ?_
                              refine lv_iadd hx hb dX12_street_92 ?_
                              refine lv_topi (fun v_78 ev_78 => ?_)
                              have t_79 : v_78.toInt = v_76.toInt + v.toInt ∧ 1 ≤ v_78.toInt ∧ v_78.toInt ≤ 100099 := iv_add ev_78 i_77 i_35 (by decide) (by decide)
                              refine lv_aload_n hx hb dX12_street_93 rfl (lv_at hl 0 rfl) ?_
                              refine gM_4 hx hb htg hown hK hP dX12_street_94 ?_
                              refine lv_bipush (v := 12) hx hb dX12_street_97 (by decide) ?_
                              refine lv_iload_n hx hb dX12_street_99 rfl (lv_at hl 2 rfl) ?_
                              refine lv_imul hx hb dX12_street_100 ?_
                              refine lv_topi (fun v_81 ev_81 => ?_)
                              have t_82 : v_81.toInt = 12 * b.toInt ∧ 0 ≤ v_81.toInt ∧ v_81.toInt ≤ 132 := iv_mulc ev_81 i_23 (by decide) (by decide) (by decide) (by decide)
                              refine lv_iload hx hb dX12_street_101 (lv_at hl 5 rfl) ?_
                              refine lv_iadd hx hb dX12_street_103 ?_
                              refine lv_topi (fun v_84 ev_84 => ?_)
                              have t_85 : v_84.toInt = v_81.toInt + x_60.toInt ∧ 0 ≤ v_84.toInt ∧ v_84.toInt ≤ 143 := iv_add ev_84 t_82.2 i_69 (by decide) (by decide)
                              refine lM_4 hx hb hK hP (iv_in t_85.2 (by decide) (by decide)) dX12_street_104 (fun v_87 ev_87 => ?_)
                              have i_88 : 0 ≤ v_87.toInt ∧ v_87.toInt ≤ 100000 := ev_87 ▸ hA_ar_61 4 _
                              refine lv_iadd hx hb dX12_street_105 ?_
                              refine lv_topi (fun v_89 ev_89 => ?_)
                              have t_90 : v_89.toInt = v_78.toInt + v_87.toInt ∧ 1 ≤ v_89.toInt ∧ v_89.toInt ≤ 200099 := iv_add ev_89 t_79.2 i_88 (by decide) (by decide)
                              refine lv_istore (lv' := [(6, .int v_89), (0, .ref h), (1, .int a), (2, .int b), (3, .int v), (4, .int x_49), (5, .int x_60)]) hx hb dX12_street_106 hl (by decide) rfl (fun ls hl => ?_)
                              refine lv_aload_n hx hb dX12_street_108 rfl (lv_at hl 1 rfl) ?_
                              refine gM_4 hx hb htg hown hK hP dX12_street_109 ?_
                              refine lv_bipush (v := 12) hx hb dX12_street_112 (by decide) ?_
                              refine lv_iload hx hb dX12_street_114 (lv_at hl 5 rfl) ?_
                              refine lv_imul hx hb dX12_street_116 ?_
                              refine my_ti (y := v_70) ev_70.symm ?_
                              refine lv_iload_n hx hb dX12_street_117 rfl (lv_at hl 3 rfl) ?_
                              refine lv_iadd hx hb dX12_street_118 ?_
                              refine lv_topi (fun v_92 ev_92 => ?_)
                              have t_93 : v_92.toInt = v_70.toInt + b.toInt ∧ 0 ≤ v_92.toInt ∧ v_92.toInt ≤ 143 := iv_add ev_92 t_71.2 i_23 (by decide) (by decide)
                              refine lM_4 hx hb hK hP (iv_in t_93.2 (by decide) (by decide)) dX12_street_119 (fun v_95 ev_95 => ?_)
                              have i_96 : 0 ≤ v_95.toInt ∧ v_95.toInt ≤ 100000 := ev_95 ▸ hA_ar_61 4 _
                              refine lv_iload_n hx hb dX12_street_120 rfl (lv_at hl 4 rfl) ?_
                              refine lv_iadd hx hb dX12_street_121 ?_
                              refine lv_topi (fun v_97 ev_97 => ?_)
                              have t_98 : v_97.toInt = v_95.toInt + v.toInt ∧ 1 ≤ v_97.toInt ∧ v_97.toInt ≤ 100099 := iv_add ev_97 i_96 i_35 (by decide) (by decide)
                              refine lv_aload_n hx hb dX12_street_122 rfl (lv_at hl 1 rfl) ?_
                              refine gM_4 hx hb htg hown hK hP dX12_street_123 ?_
                              refine lv_bipush (v := 12) hx hb dX12_street_126 (by decide) ?_
                              refine lv_iload_n hx hb dX12_street_128 rfl (lv_at hl 2 rfl) ?_
                              refine lv_imul hx hb dX12_street_129 ?_
                              refine lv_topi (fun v_100 ev_100 => ?_)
                              have t_101 : v_100.toInt = 12 * a.toInt ∧ 0 ≤ v_100.toInt ∧ v_100.toInt ≤ 132 := iv_mulc ev_100 i_15 (by decide) (by decide) (by decide) (by decide)
                              refine lv_iload hx hb dX12_street_130 (lv_at hl 6 rfl) ?_
                              refine lv_iadd hx hb dX12_street_132 ?_
                              refine lv_topi (fun v_103 ev_103 => ?_)
                              have t_104 : v_103.toInt = v_100.toInt + x_60.toInt ∧ 0 ≤ v_103.toInt ∧ v_103.toInt ≤ 143 := iv_add ev_103 t_101.2 i_69 (by decide) (by decide)
                              refine lM_4 hx hb hK hP (iv_in t_104.2 (by decide) (by decide)) dX12_street_133 (fun v_106 ev_106 => ?_)
                              have i_107 : 0 ≤ v_106.toInt ∧ v_106.toInt ≤ 100000 := ev_106 ▸ hA_ar_61 4 _
                              refine lv_iadd hx hb dX12_street_134 ?_
                              refine lv_topi (fun v_108 ev_108 => ?_)
                              have t_109 : v_108.toInt = v_97.toInt + v_106.toInt ∧ 1 ≤ v_108.toInt ∧ v_108.toInt ≤ 200099 := iv_add ev_108 t_98.2 i_107 (by decide) (by decide)
                              refine lv_istore (lv' := [(7, .int v_108), (6, .int v_89), (0, .ref h), (1, .int a), (2, .int b), (3, .int v), (4, .int x_49), (5, .int x_60)]) hx hb dX12_street_135 hl (by decide) rfl (fun ls hl => ?_)
                              refine lv_iload hx hb dX12_street_137 (lv_at hl 1 rfl) ?_
                              refine lv_iload hx hb dX12_street_139 (lv_at hl 0 rfl) ?_
                              refine lv_icmp_ge (tgt := 149) hx hb dX12_street_141 (by decide) (fun c_111 => ?_) (fun c_111 => ?_)
                              · skip
                                have k_112 := Int32.le_iff_toInt_le.mp c_111
                                refine lv_iload hx hb dX12_street_149 (lv_at hl 0 rfl) ?_
                                refine lv_istore (lv' := [(8, .int v_108), (7, .int v_108), (6, .int v_89), (0, .ref h), (1, .int a), (2, .int b), (3, .int v), (4, .int x_49), (5, .int x_60)]) hx hb dX12_street_151 hl (by decide) rfl (fun ls hl => ?_)
                                refine lv_iload hx hb dX12_street_153 (lv_at hl 0 rfl) ?_
                                refine lv_aload_n hx hb dX12_street_155 rfl (lv_at hl 3 rfl) ?_
                                refine gM_4 hx hb htg hown hK hP dX12_street_156 ?_
                                refine lv_bipush (v := 12) hx hb dX12_street_159 (by decide) ?_
                                refine lv_iload hx hb dX12_street_161 (lv_at hl 7 rfl) ?_
                                refine lv_imul hx hb dX12_street_163 ?_
                                refine my_ti (y := v_70) ev_70.symm ?_
                                refine lv_iload hx hb dX12_street_164 (lv_at hl 8 rfl) ?_
                                refine lv_iadd hx hb dX12_street_166 ?_
                                refine lv_topi (fun v_113 ev_113 => ?_)
                                have t_114 : v_113.toInt = v_70.toInt + x_60.toInt ∧ 0 ≤ v_113.toInt ∧ v_113.toInt ≤ 143 := iv_add ev_113 t_71.2 i_69 (by decide) (by decide)
                                refine lM_4 hx hb hK hP (iv_in t_114.2 (by decide) (by decide)) dX12_street_167 (fun v_116 ev_116 => ?_)
                                have i_117 : 0 ≤ v_116.toInt ∧ v_116.toInt ≤ 100000 := ev_116 ▸ hA_ar_61 4 _
                                refine lv_icmp_ge (tgt := 186) hx hb dX12_street_168 (by decide) (fun c_118 => ?_) (fun c_118 => ?_)
                                · skip
                                  have k_119 := Int32.le_iff_toInt_le.mp c_118
                                  obtain ⟨v_120, ev_120⟩ : ∃ z : Int32, z = x_60 + 1 := ⟨_, rfl⟩
                                  refine lv_iinc (v := v_120) (lv' := [(5, .int v_120), (8, .int v_108), (7, .int v_108), (6, .int v_89), (0, .ref h), (1, .int a), (2, .int b), (3, .int v), (4, .int x_49)]) hx hb dX12_street_186 hl (k := 8) rfl (by rw [ev_120]; rfl) (by decide) rfl (fun ls hl => ?_)
                                  have t_121 : v_120.toInt = x_60.toInt + 1 ∧ 1 ≤ v_120.toInt ∧ v_120.toInt ≤ 12 := iv_addc ev_120 i_69 (by decide) (by decide) (by decide)
                                  refine lv_goto (tgt := 72) hx hb dX12_street_189 (by decide) ?_
                                  exact ih_64 v_120 ar_61 _ _ ls (by omega) (iv_w t_121.2 (by decide) (by decide)) hA_ar_61 (fA_call (fA_rf [4] _) fa_62 (by decide)) (by obtain ⟨n9, hn9⟩ : ∃ n9 : Nat, n9 = 12 * x_49.toInt.toNat + x_60.toInt.toNat := ⟨_, rfl⟩; have hq9 := q_63; rw [← hn9] at hq9; obtain ⟨G0_, hG0⟩ : ∃ z : Int, wt_is z (ar_61 4 (12 * ((n9) / 12) + a.toInt.toNat)).toInt := ⟨_, wt_is_rf _⟩; have g0 : v_76.toInt = G0_ := (by rw [show G0_ = (ar_61 4 (12 * ((n9) / 12) + a.toInt.toNat)).toInt from hG0, ev_76]; show (ar_61 4 (v_73.toInt.toNat)).toInt = _; rw [show v_73.toInt.toNat = 12 * ((n9) / 12) + a.toInt.toNat from (by omega)]); obtain ⟨G1_, hG1⟩ : ∃ z : Int, wt_is z (ar_61 4 (12 * b.toInt.toNat + (n9) % 12)).toInt := ⟨_, wt_is_rf _⟩; have g1 : v_87.toInt = G1_ := (by rw [show G1_ = (ar_61 4 (12 * b.toInt.toNat + (n9) % 12)).toInt from hG1, ev_87]; show (ar_61 4 (v_84.toInt.toNat)).toInt = _; rw [show v_84.toInt.toNat = 12 * b.toInt.toNat + (n9) % 12 from (by omega)]); obtain ⟨G2_, hG2⟩ : ∃ z : Int, wt_is z (ar_61 4 (12 * ((n9) / 12) + b.toInt.toNat)).toInt := ⟨_, wt_is_rf _⟩; have g2 : v_95.toInt = G2_ := (by rw [show G2_ = (ar_61 4 (12 * ((n9) / 12) + b.toInt.toNat)).toInt from hG2, ev_95]; show (ar_61 4 (v_92.toInt.toNat)).toInt = _; rw [show v_92.toInt.toNat = 12 * ((n9) / 12) + b.toInt.toNat from (by omega)]); obtain ⟨G3_, hG3⟩ : ∃ z : Int, wt_is z (ar_61 4 (12 * a.toInt.toNat + (n9) % 12)).toInt := ⟨_, wt_is_rf _⟩; have g3 : v_106.toInt = G3_ := (by rw [show G3_ = (ar_61 4 (12 * a.toInt.toNat + (n9) % 12)).toInt from hG3, ev_106]; show (ar_61 4 (v_103.toInt.toNat)).toInt = _; rw [show v_103.toInt.toNat = 12 * a.toInt.toNat + (n9) % 12 from (by omega)]); obtain ⟨G4_, hG4⟩ : ∃ z : Int, wt_is z (ar_61 4 (n9)).toInt := ⟨_, wt_is_rf _⟩; have g4 : v_116.toInt = G4_ := (by rw [show G4_ = (ar_61 4 (n9)).toInt from hG4, ev_116]; show (ar_61 4 (v_113.toInt.toNat)).toInt = _; rw [show v_113.toInt.toNat = n9 from (by omega)]); have w1 : v_89.toInt = G0_ + v.toInt + G1_ := (by omega); have w2 : v_108.toInt = G2_ + v.toInt + G3_ := (by omega); rw [show 12 * x_49.toInt.toNat + v_120.toInt.toNat = n9 + 1 from (by omega)]; exact wt_Lk hq9 (show (ar_61 4 (n9)).toInt = wt_mn (wt_mn ((ar_61 4 (12 * ((n9) / 12) + a.toInt.toNat)).toInt + v.toInt + (ar_61 4 (12 * b.toInt.toNat + (n9) % 12)).toInt) ((ar_61 4 (12 * ((n9) / 12) + b.toInt.toNat)).toInt + v.toInt + (ar_61 4 (12 * a.toInt.toNat + (n9) % 12)).toInt)) (ar_61 4 (n9)).toInt from by rw [show (ar_61 4 (12 * ((n9) / 12) + a.toInt.toNat)).toInt = G0_ from (show G0_ = (ar_61 4 (12 * ((n9) / 12) + a.toInt.toNat)).toInt from hG0).symm, show (ar_61 4 (12 * b.toInt.toNat + (n9) % 12)).toInt = G1_ from (show G1_ = (ar_61 4 (12 * b.toInt.toNat + (n9) % 12)).toInt from hG1).symm, show (ar_61 4 (12 * ((n9) / 12) + b.toInt.toNat)).toInt = G2_ from (show G2_ = (ar_61 4 (12 * ((n9) / 12) + b.toInt.toNat)).toInt from hG2).symm, show (ar_61 4 (12 * a.toInt.toNat + (n9) % 12)).toInt = G3_ from (show G3_ = (ar_61 4 (12 * a.toInt.toNat + (n9) % 12)).toInt from hG3).symm, show (ar_61 4 (n9)).toInt = G4_ from (show G4_ = (ar_61 4 (n9)).toInt from hG4).symm, ← w1, ← w2]; exact wt_mv3 (by omega) (by omega) (by omega))) hP hS (lv_sub hl [4, 5, 6, 7, 8, 0] rfl)
                                · skip
                                  have i_123 : 1 ≤ v_108.toInt ∧ v_108.toInt ≤ 99999 := iv_lt1 t_109.2 i_117 (Int32.not_le.mp c_118)
                                  have i_124 : 2 ≤ v_116.toInt ∧ v_116.toInt ≤ 100000 := iv_lt2 t_109.2 i_117 (Int32.not_le.mp c_118)
                                  have k_125 := Int32.lt_iff_toInt_lt.mp (Int32.not_le.mp c_118)
                                  refine lv_aload_n hx hb dX12_street_171 rfl (lv_at hl 3 rfl) ?_
                                  refine gM_4 hx hb htg hown hK hP dX12_street_172 ?_
                                  refine lv_bipush (v := 12) hx hb dX12_street_175 (by decide) ?_
                                  refine lv_iload hx hb dX12_street_177 (lv_at hl 7 rfl) ?_
                                  refine lv_imul hx hb dX12_street_179 ?_
                                  refine my_ti (y := v_70) ev_70.symm ?_
                                  refine lv_iload hx hb dX12_street_180 (lv_at hl 8 rfl) ?_
                                  refine lv_iadd hx hb dX12_street_182 ?_
                                  refine my_ti (y := v_113) ev_113.symm ?_
                                  refine lv_iload hx hb dX12_street_183 (lv_at hl 0 rfl) ?_
                                  refine sM_4 hx hb hK hP hS hd (iv_in t_114.2 (by decide) (by decide)) dX12_street_185 (fun H locs ar_126 ear_126 hP hS => ?_)
                                  have hA_ar_126 : rA ar_126 := rA_put hA_ar_61 ear_126 (iv_w i_123 (by decide) (by decide))
                                  obtain ⟨v_127, ev_127⟩ : ∃ z : Int32, z = x_60 + 1 := ⟨_, rfl⟩
                                  refine lv_iinc (v := v_127) (lv' := [(5, .int v_127), (8, .int v_108), (7, .int v_108), (6, .int v_89), (0, .ref h), (1, .int a), (2, .int b), (3, .int v), (4, .int x_49)]) hx hb dX12_street_186 hl (k := 8) rfl (by rw [ev_127]; rfl) (by decide) rfl (fun ls hl => ?_)
                                  have t_128 : v_127.toInt = x_60.toInt + 1 ∧ 1 ≤ v_127.toInt ∧ v_127.toInt ≤ 12 := iv_addc ev_127 i_69 (by decide) (by decide) (by decide)
                                  refine lv_goto (tgt := 72) hx hb dX12_street_189 (by decide) ?_
                                  exact ih_64 v_127 ar_126 _ _ ls (by omega) (iv_w t_128.2 (by decide) (by decide)) hA_ar_126 (fA_put (fA_call (fA_rf [4] _) fa_62 (by decide)) ear_126 (by decide)) (by obtain ⟨n9, hn9⟩ : ∃ n9 : Nat, n9 = 12 * x_49.toInt.toNat + x_60.toInt.toNat := ⟨_, rfl⟩; have hq9 := q_63; rw [← hn9] at hq9; obtain ⟨G0_, hG0⟩ : ∃ z : Int, wt_is z (ar_61 4 (12 * ((n9) / 12) + a.toInt.toNat)).toInt := ⟨_, wt_is_rf _⟩; have g0 : v_76.toInt = G0_ := (by rw [show G0_ = (ar_61 4 (12 * ((n9) / 12) + a.toInt.toNat)).toInt from hG0, ev_76]; show (ar_61 4 (v_73.toInt.toNat)).toInt = _; rw [show v_73.toInt.toNat = 12 * ((n9) / 12) + a.toInt.toNat from (by omega)]); obtain ⟨G1_, hG1⟩ : ∃ z : Int, wt_is z (ar_61 4 (12 * b.toInt.toNat + (n9) % 12)).toInt := ⟨_, wt_is_rf _⟩; have g1 : v_87.toInt = G1_ := (by rw [show G1_ = (ar_61 4 (12 * b.toInt.toNat + (n9) % 12)).toInt from hG1, ev_87]; show (ar_61 4 (v_84.toInt.toNat)).toInt = _; rw [show v_84.toInt.toNat = 12 * b.toInt.toNat + (n9) % 12 from (by omega)]); obtain ⟨G2_, hG2⟩ : ∃ z : Int, wt_is z (ar_61 4 (12 * ((n9) / 12) + b.toInt.toNat)).toInt := ⟨_, wt_is_rf _⟩; have g2 : v_95.toInt = G2_ := (by rw [show G2_ = (ar_61 4 (12 * ((n9) / 12) + b.toInt.toNat)).toInt from hG2, ev_95]; show (ar_61 4 (v_92.toInt.toNat)).toInt = _; rw [show v_92.toInt.toNat = 12 * ((n9) / 12) + b.toInt.toNat from (by omega)]); obtain ⟨G3_, hG3⟩ : ∃ z : Int, wt_is z (ar_61 4 (12 * a.toInt.toNat + (n9) % 12)).toInt := ⟨_, wt_is_rf _⟩; have g3 : v_106.toInt = G3_ := (by rw [show G3_ = (ar_61 4 (12 * a.toInt.toNat + (n9) % 12)).toInt from hG3, ev_106]; show (ar_61 4 (v_103.toInt.toNat)).toInt = _; rw [show v_103.toInt.toNat = 12 * a.toInt.toNat + (n9) % 12 from (by omega)]); obtain ⟨G4_, hG4⟩ : ∃ z : Int, wt_is z (ar_61 4 (n9)).toInt := ⟨_, wt_is_rf _⟩; have g4 : v_116.toInt = G4_ := (by rw [show G4_ = (ar_61 4 (n9)).toInt from hG4, ev_116]; show (ar_61 4 (v_113.toInt.toNat)).toInt = _; rw [show v_113.toInt.toNat = n9 from (by omega)]); have w1 : v_89.toInt = G0_ + v.toInt + G1_ := (by omega); have w2 : v_108.toInt = G2_ + v.toInt + G3_ := (by omega); rw [show 12 * x_49.toInt.toNat + v_127.toInt.toNat = n9 + 1 from (by omega)]; exact wt_Lg hq9 (show ar_126 4 = upd (ar_61 4) (n9) v_108 from by rw [ear_126]; show upd (ar_61 4) (v_113.toInt.toNat) v_108 = _; rw [show v_113.toInt.toNat = n9 from (by omega)]) (show v_108.toInt = wt_mn (wt_mn ((ar_61 4 (12 * ((n9) / 12) + a.toInt.toNat)).toInt + v.toInt + (ar_61 4 (12 * b.toInt.toNat + (n9) % 12)).toInt) ((ar_61 4 (12 * ((n9) / 12) + b.toInt.toNat)).toInt + v.toInt + (ar_61 4 (12 * a.toInt.toNat + (n9) % 12)).toInt)) (ar_61 4 (n9)).toInt from by rw [show (ar_61 4 (12 * ((n9) / 12) + a.toInt.toNat)).toInt = G0_ from (show G0_ = (ar_61 4 (12 * ((n9) / 12) + a.toInt.toNat)).toInt from hG0).symm, show (ar_61 4 (12 * b.toInt.toNat + (n9) % 12)).toInt = G1_ from (show G1_ = (ar_61 4 (12 * b.toInt.toNat + (n9) % 12)).toInt from hG1).symm, show (ar_61 4 (12 * ((n9) / 12) + b.toInt.toNat)).toInt = G2_ from (show G2_ = (ar_61 4 (12 * ((n9) / 12) + b.toInt.toNat)).toInt from hG2).symm, show (ar_61 4 (12 * a.toInt.toNat + (n9) % 12)).toInt = G3_ from (show G3_ = (ar_61 4 (12 * a.toInt.toNat + (n9) % 12)).toInt from hG3).symm, show (ar_61 4 (n9)).toInt = G4_ from (show G4_ = (ar_61 4 (n9)).toInt from hG4).symm, ← w1, ← w2]; exact wt_mv2 (by omega) (by omega) (by omega))) hP hS (lv_sub hl [4, 5, 6, 7, 8, 0] rfl)
                              · skip
                                have i_130 : 1 ≤ v_89.toInt ∧ v_89.toInt ≤ 200098 := iv_lt1 t_90.2 t_109.2 (Int32.not_le.mp c_111)
                                have i_131 : 2 ≤ v_108.toInt ∧ v_108.toInt ≤ 200099 := iv_lt2 t_90.2 t_109.2 (Int32.not_le.mp c_111)
                                have k_132 := Int32.lt_iff_toInt_lt.mp (Int32.not_le.mp c_111)
                                refine lv_iload hx hb dX12_street_144 (lv_at hl 1 rfl) ?_
                                refine lv_goto (tgt := 151) hx hb dX12_street_146 (by decide) ?_
                                refine lv_istore (lv' := [(8, .int v_89), (7, .int v_108), (6, .int v_89), (0, .ref h), (1, .int a), (2, .int b), (3, .int v), (4, .int x_49), (5, .int x_60)]) hx hb dX12_street_151 hl (by decide) rfl (fun ls hl => ?_)
                                refine lv_iload hx hb dX12_street_153 (lv_at hl 0 rfl) ?_
                                refine lv_aload_n hx hb dX12_street_155 rfl (lv_at hl 3 rfl) ?_
                                refine gM_4 hx hb htg hown hK hP dX12_street_156 ?_
                                refine lv_bipush (v := 12) hx hb dX12_street_159 (by decide) ?_
                                refine lv_iload hx hb dX12_street_161 (lv_at hl 7 rfl) ?_
                                refine lv_imul hx hb dX12_street_163 ?_
                                refine my_ti (y := v_70) ev_70.symm ?_
                                refine lv_iload hx hb dX12_street_164 (lv_at hl 8 rfl) ?_
                                refine lv_iadd hx hb dX12_street_166 ?_
                                refine lv_topi (fun v_133 ev_133 => ?_)
                                have t_134 : v_133.toInt = v_70.toInt + x_60.toInt ∧ 0 ≤ v_133.toInt ∧ v_133.toInt ≤ 143 := iv_add ev_133 t_71.2 i_69 (by decide) (by decide)
                                refine lM_4 hx hb hK hP (iv_in t_134.2 (by decide) (by decide)) dX12_street_167 (fun v_136 ev_136 => ?_)
                                have i_137 : 0 ≤ v_136.toInt ∧ v_136.toInt ≤ 100000 := ev_136 ▸ hA_ar_61 4 _
                                refine lv_icmp_ge (tgt := 186) hx hb dX12_street_168 (by decide) (fun c_138 => ?_) (fun c_138 => ?_)
                                · skip
                                  have k_139 := Int32.le_iff_toInt_le.mp c_138
                                  obtain ⟨v_140, ev_140⟩ : ∃ z : Int32, z = x_60 + 1 := ⟨_, rfl⟩
                                  refine lv_iinc (v := v_140) (lv' := [(5, .int v_140), (8, .int v_89), (7, .int v_108), (6, .int v_89), (0, .ref h), (1, .int a), (2, .int b), (3, .int v), (4, .int x_49)]) hx hb dX12_street_186 hl (k := 8) rfl (by rw [ev_140]; rfl) (by decide) rfl (fun ls hl => ?_)
                                  have t_141 : v_140.toInt = x_60.toInt + 1 ∧ 1 ≤ v_140.toInt ∧ v_140.toInt ≤ 12 := iv_addc ev_140 i_69 (by decide) (by decide) (by decide)
                                  refine lv_goto (tgt := 72) hx hb dX12_street_189 (by decide) ?_
                                  exact ih_64 v_140 ar_61 _ _ ls (by omega) (iv_w t_141.2 (by decide) (by decide)) hA_ar_61 (fA_call (fA_rf [4] _) fa_62 (by decide)) (by obtain ⟨n9, hn9⟩ : ∃ n9 : Nat, n9 = 12 * x_49.toInt.toNat + x_60.toInt.toNat := ⟨_, rfl⟩; have hq9 := q_63; rw [← hn9] at hq9; obtain ⟨G0_, hG0⟩ : ∃ z : Int, wt_is z (ar_61 4 (12 * ((n9) / 12) + a.toInt.toNat)).toInt := ⟨_, wt_is_rf _⟩; have g0 : v_76.toInt = G0_ := (by rw [show G0_ = (ar_61 4 (12 * ((n9) / 12) + a.toInt.toNat)).toInt from hG0, ev_76]; show (ar_61 4 (v_73.toInt.toNat)).toInt = _; rw [show v_73.toInt.toNat = 12 * ((n9) / 12) + a.toInt.toNat from (by omega)]); obtain ⟨G1_, hG1⟩ : ∃ z : Int, wt_is z (ar_61 4 (12 * b.toInt.toNat + (n9) % 12)).toInt := ⟨_, wt_is_rf _⟩; have g1 : v_87.toInt = G1_ := (by rw [show G1_ = (ar_61 4 (12 * b.toInt.toNat + (n9) % 12)).toInt from hG1, ev_87]; show (ar_61 4 (v_84.toInt.toNat)).toInt = _; rw [show v_84.toInt.toNat = 12 * b.toInt.toNat + (n9) % 12 from (by omega)]); obtain ⟨G2_, hG2⟩ : ∃ z : Int, wt_is z (ar_61 4 (12 * ((n9) / 12) + b.toInt.toNat)).toInt := ⟨_, wt_is_rf _⟩; have g2 : v_95.toInt = G2_ := (by rw [show G2_ = (ar_61 4 (12 * ((n9) / 12) + b.toInt.toNat)).toInt from hG2, ev_95]; show (ar_61 4 (v_92.toInt.toNat)).toInt = _; rw [show v_92.toInt.toNat = 12 * ((n9) / 12) + b.toInt.toNat from (by omega)]); obtain ⟨G3_, hG3⟩ : ∃ z : Int, wt_is z (ar_61 4 (12 * a.toInt.toNat + (n9) % 12)).toInt := ⟨_, wt_is_rf _⟩; have g3 : v_106.toInt = G3_ := (by rw [show G3_ = (ar_61 4 (12 * a.toInt.toNat + (n9) % 12)).toInt from hG3, ev_106]; show (ar_61 4 (v_103.toInt.toNat)).toInt = _; rw [show v_103.toInt.toNat = 12 * a.toInt.toNat + (n9) % 12 from (by omega)]); obtain ⟨G4_, hG4⟩ : ∃ z : Int, wt_is z (ar_61 4 (n9)).toInt := ⟨_, wt_is_rf _⟩; have g4 : v_136.toInt = G4_ := (by rw [show G4_ = (ar_61 4 (n9)).toInt from hG4, ev_136]; show (ar_61 4 (v_133.toInt.toNat)).toInt = _; rw [show v_133.toInt.toNat = n9 from (by omega)]); have w1 : v_89.toInt = G0_ + v.toInt + G1_ := (by omega); have w2 : v_108.toInt = G2_ + v.toInt + G3_ := (by omega); rw [show 12 * x_49.toInt.toNat + v_140.toInt.toNat = n9 + 1 from (by omega)]; exact wt_Lk hq9 (show (ar_61 4 (n9)).toInt = wt_mn (wt_mn ((ar_61 4 (12 * ((n9) / 12) + a.toInt.toNat)).toInt + v.toInt + (ar_61 4 (12 * b.toInt.toNat + (n9) % 12)).toInt) ((ar_61 4 (12 * ((n9) / 12) + b.toInt.toNat)).toInt + v.toInt + (ar_61 4 (12 * a.toInt.toNat + (n9) % 12)).toInt)) (ar_61 4 (n9)).toInt from by rw [show (ar_61 4 (12 * ((n9) / 12) + a.toInt.toNat)).toInt = G0_ from (show G0_ = (ar_61 4 (12 * ((n9) / 12) + a.toInt.toNat)).toInt from hG0).symm, show (ar_61 4 (12 * b.toInt.toNat + (n9) % 12)).toInt = G1_ from (show G1_ = (ar_61 4 (12 * b.toInt.toNat + (n9) % 12)).toInt from hG1).symm, show (ar_61 4 (12 * ((n9) / 12) + b.toInt.toNat)).toInt = G2_ from (show G2_ = (ar_61 4 (12 * ((n9) / 12) + b.toInt.toNat)).toInt from hG2).symm, show (ar_61 4 (12 * a.toInt.toNat + (n9) % 12)).toInt = G3_ from (show G3_ = (ar_61 4 (12 * a.toInt.toNat + (n9) % 12)).toInt from hG3).symm, show (ar_61 4 (n9)).toInt = G4_ from (show G4_ = (ar_61 4 (n9)).toInt from hG4).symm, ← w1, ← w2]; exact wt_mv3 (by omega) (by omega) (by omega))) hP hS (lv_sub hl [4, 5, 6, 7, 8, 0] rfl)
                                · skip
                                  have i_143 : 1 ≤ v_89.toInt ∧ v_89.toInt ≤ 99999 := iv_lt1 i_130 i_137 (Int32.not_le.mp c_138)
                                  have i_144 : 2 ≤ v_136.toInt ∧ v_136.toInt ≤ 100000 := iv_lt2 i_130 i_137 (Int32.not_le.mp c_138)
                                  have k_145 := Int32.lt_iff_toInt_lt.mp (Int32.not_le.mp c_138)
                                  refine lv_aload_n hx hb dX12_street_171 rfl (lv_at hl 3 rfl) ?_
                                  refine gM_4 hx hb htg hown hK hP dX12_street_172 ?_
                                  refine lv_bipush (v := 12) hx hb dX12_street_175 (by decide) ?_
                                  refine lv_iload hx hb dX12_street_177 (lv_at hl 7 rfl) ?_
                                  refine lv_imul hx hb dX12_street_179 ?_
                                  refine my_ti (y := v_70) ev_70.symm ?_
                                  refine lv_iload hx hb dX12_street_180 (lv_at hl 8 rfl) ?_
                                  refine lv_iadd hx hb dX12_street_182 ?_
                                  refine my_ti (y := v_133) ev_133.symm ?_
                                  refine lv_iload hx hb dX12_street_183 (lv_at hl 0 rfl) ?_
                                  refine sM_4 hx hb hK hP hS hd (iv_in t_134.2 (by decide) (by decide)) dX12_street_185 (fun H locs ar_146 ear_146 hP hS => ?_)
                                  have hA_ar_146 : rA ar_146 := rA_put hA_ar_61 ear_146 (iv_w i_143 (by decide) (by decide))
                                  obtain ⟨v_147, ev_147⟩ : ∃ z : Int32, z = x_60 + 1 := ⟨_, rfl⟩
                                  refine lv_iinc (v := v_147) (lv' := [(5, .int v_147), (8, .int v_89), (7, .int v_108), (6, .int v_89), (0, .ref h), (1, .int a), (2, .int b), (3, .int v), (4, .int x_49)]) hx hb dX12_street_186 hl (k := 8) rfl (by rw [ev_147]; rfl) (by decide) rfl (fun ls hl => ?_)
                                  have t_148 : v_147.toInt = x_60.toInt + 1 ∧ 1 ≤ v_147.toInt ∧ v_147.toInt ≤ 12 := iv_addc ev_147 i_69 (by decide) (by decide) (by decide)
                                  refine lv_goto (tgt := 72) hx hb dX12_street_189 (by decide) ?_
                                  exact ih_64 v_147 ar_146 _ _ ls (by omega) (iv_w t_148.2 (by decide) (by decide)) hA_ar_146 (fA_put (fA_call (fA_rf [4] _) fa_62 (by decide)) ear_146 (by decide)) (by obtain ⟨n9, hn9⟩ : ∃ n9 : Nat, n9 = 12 * x_49.toInt.toNat + x_60.toInt.toNat := ⟨_, rfl⟩; have hq9 := q_63; rw [← hn9] at hq9; obtain ⟨G0_, hG0⟩ : ∃ z : Int, wt_is z (ar_61 4 (12 * ((n9) / 12) + a.toInt.toNat)).toInt := ⟨_, wt_is_rf _⟩; have g0 : v_76.toInt = G0_ := (by rw [show G0_ = (ar_61 4 (12 * ((n9) / 12) + a.toInt.toNat)).toInt from hG0, ev_76]; show (ar_61 4 (v_73.toInt.toNat)).toInt = _; rw [show v_73.toInt.toNat = 12 * ((n9) / 12) + a.toInt.toNat from (by omega)]); obtain ⟨G1_, hG1⟩ : ∃ z : Int, wt_is z (ar_61 4 (12 * b.toInt.toNat + (n9) % 12)).toInt := ⟨_, wt_is_rf _⟩; have g1 : v_87.toInt = G1_ := (by rw [show G1_ = (ar_61 4 (12 * b.toInt.toNat + (n9) % 12)).toInt from hG1, ev_87]; show (ar_61 4 (v_84.toInt.toNat)).toInt = _; rw [show v_84.toInt.toNat = 12 * b.toInt.toNat + (n9) % 12 from (by omega)]); obtain ⟨G2_, hG2⟩ : ∃ z : Int, wt_is z (ar_61 4 (12 * ((n9) / 12) + b.toInt.toNat)).toInt := ⟨_, wt_is_rf _⟩; have g2 : v_95.toInt = G2_ := (by rw [show G2_ = (ar_61 4 (12 * ((n9) / 12) + b.toInt.toNat)).toInt from hG2, ev_95]; show (ar_61 4 (v_92.toInt.toNat)).toInt = _; rw [show v_92.toInt.toNat = 12 * ((n9) / 12) + b.toInt.toNat from (by omega)]); obtain ⟨G3_, hG3⟩ : ∃ z : Int, wt_is z (ar_61 4 (12 * a.toInt.toNat + (n9) % 12)).toInt := ⟨_, wt_is_rf _⟩; have g3 : v_106.toInt = G3_ := (by rw [show G3_ = (ar_61 4 (12 * a.toInt.toNat + (n9) % 12)).toInt from hG3, ev_106]; show (ar_61 4 (v_103.toInt.toNat)).toInt = _; rw [show v_103.toInt.toNat = 12 * a.toInt.toNat + (n9) % 12 from (by omega)]); obtain ⟨G4_, hG4⟩ : ∃ z : Int, wt_is z (ar_61 4 (n9)).toInt := ⟨_, wt_is_rf _⟩; have g4 : v_136.toInt = G4_ := (by rw [show G4_ = (ar_61 4 (n9)).toInt from hG4, ev_136]; show (ar_61 4 (v_133.toInt.toNat)).toInt = _; rw [show v_133.toInt.toNat = n9 from (by omega)]); have w1 : v_89.toInt = G0_ + v.toInt + G1_ := (by omega); have w2 : v_108.toInt = G2_ + v.toInt + G3_ := (by omega); rw [show 12 * x_49.toInt.toNat + v_147.toInt.toNat = n9 + 1 from (by omega)]; exact wt_Lg hq9 (show ar_146 4 = upd (ar_61 4) (n9) v_89 from by rw [ear_146]; show upd (ar_61 4) (v_133.toInt.toNat) v_89 = _; rw [show v_133.toInt.toNat = n9 from (by omega)]) (show v_89.toInt = wt_mn (wt_mn ((ar_61 4 (12 * ((n9) / 12) + a.toInt.toNat)).toInt + v.toInt + (ar_61 4 (12 * b.toInt.toNat + (n9) % 12)).toInt) ((ar_61 4 (12 * ((n9) / 12) + b.toInt.toNat)).toInt + v.toInt + (ar_61 4 (12 * a.toInt.toNat + (n9) % 12)).toInt)) (ar_61 4 (n9)).toInt from by rw [show (ar_61 4 (12 * ((n9) / 12) + a.toInt.toNat)).toInt = G0_ from (show G0_ = (ar_61 4 (12 * ((n9) / 12) + a.toInt.toNat)).toInt from hG0).symm, show (ar_61 4 (12 * b.toInt.toNat + (n9) % 12)).toInt = G1_ from (show G1_ = (ar_61 4 (12 * b.toInt.toNat + (n9) % 12)).toInt from hG1).symm, show (ar_61 4 (12 * ((n9) / 12) + b.toInt.toNat)).toInt = G2_ from (show G2_ = (ar_61 4 (12 * ((n9) / 12) + b.toInt.toNat)).toInt from hG2).symm, show (ar_61 4 (12 * a.toInt.toNat + (n9) % 12)).toInt = G3_ from (show G3_ = (ar_61 4 (12 * a.toInt.toNat + (n9) % 12)).toInt from hG3).symm, show (ar_61 4 (n9)).toInt = G4_ from (show G4_ = (ar_61 4 (n9)).toInt from hG4).symm, ← w1, ← w2]; exact wt_mv1 (by omega) (by omega) (by omega))) hP hS (lv_sub hl [4, 5, 6, 7, 8, 0] rfl)
                        · skip
                          have z_153 : (0 : Int32).toInt = 0 := by decide
                          exact hj_66 13 0 ar_50 _ _ ls (by first | decide | omega) (iv_w (⟨by decide, by decide⟩ : (0 : Int) ≤ (0 : Int32).toInt ∧ (0 : Int32).toInt ≤ 0) (by decide) (by decide)) hA_ar_50 (fA_rf [4] _) (by rw [show (0 : Int32).toInt.toNat = 0 from (by decide), Nat.add_zero]; exact q_52) hP hS (lv_sub hl [1, 2, 3, 4, 5, 0] rfl)
                  · skip
                    have z_154 : (0 : Int32).toInt = 0 := by decide
                    exact hj_55 13 0 ar_42 _ _ ls (by first | decide | omega) (iv_w (⟨by decide, by decide⟩ : (0 : Int) ≤ (0 : Int32).toInt ∧ (0 : Int32).toInt ≤ 0) (by decide) (by decide)) hA_ar_42 (fA_rf [4] _) (by rw [show (0 : Int32).toInt.toNat = 0 from (by decide)]; rfl) hP hS (lv_sub hl [1, 2, 3, 4, 0] rfl)
                · skip
                  exact absurd c_36 (by decide)
set_option maxHeartbeats 4000000 in
set_option maxRecDepth 100000 in
theorem m_farF (l : Launch) (dC : Nat → ClassId) (dI : Nat → Nat → Nat) (sz h : Nat) (ad : Nat → Nat) (cA : Nat → ClassId) (hd : dM h ad) (fv : Nat → Int32) (wd : Int64) (ar : Nat → Nat → Int32) (hF_fv : rF fv) (hA_ar : rA ar) (G9 : Nat → Int) (a : Int32) (b : Int32) (hp_mF : wt_fm G9 (fv 8) (ar 4)) : Met l yX12_far (.code yX12_far cX12_far 4 (some .int) :: lw_good) ({ frames := 4, cells := 0, slots := 0, locals := 83 }) (va_Pc [.ref h, .int a, .int b] (prM dC dI h ad cA fv wd ar sz)) (va_Qi (fun (r : Int32) (u : mS) => rF u.1 ∧ rA u.2.2 ∧ fM [0, 8] fv u.1 ∧ fA [4] ar u.2.2 ∧ (wt_far r a b G9) ∧ (wt_fm G9 (u.1 8) (u.2.2 4)) ∧ True) (enM dC dI h ad cA) (aM h ad sz)) 0 0 (aM h ad sz) := by
  refine Met.ofW (cc := cX12_far) (maxL := 4) (ret := (some .int)) (by decide) rfl ?_
  intro p e s m args below meth c s₁ B hml hv
  obtain ⟨rfl, hsz, hP, hK⟩ := hv
  have hx := B.exec
  have hb := B.bytes
  have hr := B.returns
  have hts := atoms_spec (ws := (.code yX12_far cX12_far 4 (some .int) :: lw_good)) B.pre
  have htg : ∀ w ∈ lw_good, w.before _ s = true := fun w hw => hts w (List.mem_cons_of_mem _ hw)
  have hown : s.vm.findClass RX12 = some m.cls := findClass_of_methodNamed B.named
  have hlocks := B.notSynchronized
  subst hsz
  have hS : va_S (aM h ad s.heap.size) s.heap s.heap [] := va_S.rf
  have hl := lv_entry ([.ref h, .int a, .int b]) (n := 4) (Nat.le_of_ble_eq_true rfl)
  rw [lg_entry_eq]
  generalize (lg_sl ([.ref h, .int a, .int b]) ++ List.replicate (4 - (lg_sl ([.ref h, .int a, .int b])).length) Slot.unset).toArray = ls at hl ⊢
  have hl : lv_has ls 4 [(0, .ref h), (1, .int a), (2, .int b)] := hl
  have zc0 : (0 : Int32).toInt = 0 := by decide
  have zc1 : (1 : Int32).toInt = 1 := by decide
  have zc2 : (2 : Int32).toInt = 2 := by decide
  have zc9 : (9 : Int32).toInt = 9 := by decide
  have zc11 : (11 : Int32).toInt = 11 := by decide
  have zc12 : (12 : Int32).toInt = 12 := by decide
  have zc19 : (19 : Int32).toInt = 19 := by decide
  have zc99 : (99 : Int32).toInt = 99 := by decide
  have zc199 : (199 : Int32).toInt = 199 := by decide
  have zc719 : (719 : Int32).toInt = 719 := by decide
  have zc20 : (20 : Int32).toInt = 20 := by decide
  have zc340 : (340 : Int32).toInt = 340 := by decide
  have zcm1 : ((-1) : Int32).toInt = (-1) := by decide
  refine lv_aload_n hx hb dX12_far_0 rfl (lv_at hl 0 rfl) ?_
  refine lv_iconst (v := 0) hx hb dX12_far_1 (by decide) ?_
  refine pM_0 hx hb htg hown hK hP hS hd dX12_far_2 (fun H locs fv_1 efv_1 hP hS => ?_)
  have hF_fv_1 : rF fv_1 := rF_put hF_fv efv_1 (iv_any _)
  refine lv_iload_n hx hb dX12_far_5 rfl (lv_at hl 1 rfl) ?_
  refine va_calli (va_runS (As := [.int a]) (rest := []) ⟨hx, hb, hml, hown, hts⟩ (m_isCorner l H.size a) (va_cwS 1 hts (gS kw_7_225 kw_7_226 kw_1_15 kw_7_227) rfl rfl rfl (by decide +kernel) ⟨Nat.le_of_ble_eq_true rfl, Nat.le_of_ble_eq_true rfl⟩) ⟨fun a U g mk q => ⟨q.1, q.2⟩, fun U hU hW => ⟨rfl, congrArg Array.size hU⟩⟩ rfl rfl hl.1 rfl (lv_room (Nat.le_of_ble_eq_true rfl)) dX12_far_6 ⟨Nat.le_of_ble_eq_true rfl, Nat.le_of_ble_eq_true rfl⟩) hS (fun q _ h9 => nM_up hS q h9) (nM_up hS) (fun r_2 u t H1 locs ht _ hw hB _ hk1 hS => ?_)
  obtain ⟨p_3, p_4, -⟩ := hw
  have hP := my_keepM hP hk1
  generalize H1 = H at hP hS ⊢
  rcases p_4 with ⟨rfl, p_4⟩ | ⟨rfl, p_4⟩
  · skip
    refine lv_if_eq (tgt := 19) hx hb dX12_far_9 (by decide) (fun c_5 => ?_) (fun c_5 => ?_)
    · skip
      refine lv_iconst (v := (-1)) hx hb dX12_far_19 (by decide) ?_
      have z_6 : ((-1) : Int32).toInt = (-1) := by decide
      exact W.iret (v := (-1)) hx hb hr (fun t ht hW => ⟨⟨(-1), (fv_1, wd, ar), rfl, ⟨hF_fv_1, hA_ar, (fM_put (fM_rf [0, 8] _) efv_1 (by decide)), (fA_rf [4] _), (show wt_far ((-1) : Int32) a b G9 from Or.inl ⟨by omega, rfl⟩), (mF_fr hp_mF (fM_put (fM_rf [0] _) efv_1 (by decide)) (fA_rf [] _) rfl rfl), trivial⟩, ⟨by rw [ht]; exact hP, va_K.moved hW.alike hK⟩⟩, hS.F ht⟩) hS.2.2 dX12_far_20
    · skip
      exact absurd c_5 (by decide)
  · skip
    have i_7 : 0 ≤ a.toInt ∧ a.toInt ≤ 2147483647 := ⟨p_4.1, (iv_any a).2⟩
    have i_8 : 0 ≤ a.toInt ∧ a.toInt ≤ 11 := ⟨i_7.1, p_4.2⟩
    refine lv_if_eq (tgt := 19) hx hb dX12_far_9 (by decide) (fun c_9 => ?_) (fun c_9 => ?_)
    · skip
      exact absurd c_9 (by decide)
    · skip
      refine lv_iload_n hx hb dX12_far_12 rfl (lv_at hl 2 rfl) ?_
      refine va_calli (va_runS (As := [.int b]) (rest := []) ⟨hx, hb, hml, hown, hts⟩ (m_isCorner l H.size b) (va_cwS 1 hts (gS kw_7_225 kw_7_226 kw_1_15 kw_7_227) rfl rfl rfl (by decide +kernel) ⟨Nat.le_of_ble_eq_true rfl, Nat.le_of_ble_eq_true rfl⟩) ⟨fun a U g mk q => ⟨q.1, q.2⟩, fun U hU hW => ⟨rfl, congrArg Array.size hU⟩⟩ rfl rfl hl.1 rfl (lv_room (Nat.le_of_ble_eq_true rfl)) dX12_far_13 ⟨Nat.le_of_ble_eq_true rfl, Nat.le_of_ble_eq_true rfl⟩) hS (fun q _ h9 => nM_up hS q h9) (nM_up hS) (fun r_10 u t H1 locs ht _ hw hB _ hk1 hS => ?_)
      obtain ⟨p_11, p_12, -⟩ := hw
      have hP := my_keepM hP hk1
      generalize H1 = H at hP hS ⊢
      rcases p_12 with ⟨rfl, p_12⟩ | ⟨rfl, p_12⟩
      · skip
        refine lv_if_ne (tgt := 21) hx hb dX12_far_16 (by decide) (fun c_13 => ?_) (fun c_13 => ?_)
        · skip
          exact absurd c_13 (by decide)
        · skip
          refine lv_iconst (v := (-1)) hx hb dX12_far_19 (by decide) ?_
          have z_14 : ((-1) : Int32).toInt = (-1) := by decide
          exact W.iret (v := (-1)) hx hb hr (fun t ht hW => ⟨⟨(-1), (fv_1, wd, ar), rfl, ⟨hF_fv_1, hA_ar, (fM_put (fM_rf [0, 8] _) efv_1 (by decide)), (fA_rf [4] _), (show wt_far ((-1) : Int32) a b G9 from Or.inl ⟨by omega, rfl⟩), (mF_fr hp_mF (fM_put (fM_rf [0] _) efv_1 (by decide)) (fA_rf [] _) rfl rfl), trivial⟩, ⟨by rw [ht]; exact hP, va_K.moved hW.alike hK⟩⟩, hS.F ht⟩) hS.2.2 dX12_far_20
      · skip
        have i_15 : 0 ≤ b.toInt ∧ b.toInt ≤ 2147483647 := ⟨p_12.1, (iv_any b).2⟩
        have i_16 : 0 ≤ b.toInt ∧ b.toInt ≤ 11 := ⟨i_15.1, p_12.2⟩
        refine lv_if_ne (tgt := 21) hx hb dX12_far_16 (by decide) (fun c_17 => ?_) (fun c_17 => ?_)
        · skip
          refine lv_aload_n hx hb dX12_far_21 rfl (lv_at hl 0 rfl) ?_
          refine lv_iload_n hx hb dX12_far_22 rfl (lv_at hl 1 rfl) ?_
          refine lv_iload_n hx hb dX12_far_23 rfl (lv_at hl 2 rfl) ?_
          refine va_calli (va_runV (As := [.int a, .int b]) (rest := []) ⟨hx, hb, hml, hown, hts⟩ (m_farOf l dC dI H.size h ad cA hd fv_1 wd ar hF_fv_1 hA_ar G9 a b i_8 i_16 (mF_fr hp_mF (fM_put (fM_rf [0] _) efv_1 (by decide)) (fA_rf [] _) rfl rfl)) (cwV 2 hts (gV kw_7_237 kw_7_239 kw_p_59 kw_1_15 kw_8_0) rfl rfl rfl (by decide +kernel) ⟨Nat.le_of_ble_eq_true rfl, Nat.le_of_ble_eq_true rfl⟩) ⟨fun a U g mk q => ⟨q.1, q.2.1, q.2.2.1, va_K.moved (u := U) (U := U.calling g mk a) (Vm.Alike.refl U.vm) q.2.2.2⟩, va_recv hK hP (ci := 12) (q0 := 0) rfl rfl, fun U hU hW => ⟨rfl, by rw [hU], by rw [hU]; exact hP, va_K.moved hW.alike hK⟩⟩ rfl rfl hl.1 rfl (lv_room (Nat.le_of_ble_eq_true rfl)) dX12_far_24 ⟨Nat.le_of_ble_eq_true rfl, Nat.le_of_ble_eq_true rfl⟩) hS (fun q _ h9 => aM_up hS q h9) (aM_up hS) (fun r_18 u t H1 locs ht _ hw hB _ hk1 hS => ?_)
          obtain ⟨fv_22, wd_23, ar_24⟩ := u
          obtain ⟨hF_fv_22, hA_ar_24, fr_25, fa_26, p_19, p_20, p_21, -⟩ := hw
          have hP : va_P (dC, dI) vwCl (wsM h ad cA fv_22 wd_23 ar_24) H1 := by have h9 := hB.1; rw [ht] at h9; exact h9
          have fr_25 : fM [8] fv_1 fv_22 := fr_25
          have fa_26 : fA [4] ar ar_24 := fa_26
          have p_21 : wt_fm G9 (fv_22 8) (ar_24 4) := p_21
          have p_20 : wt_rl (G9 (12 * a.toInt.toNat + b.toInt.toNat)) r_18.toInt := p_20
          generalize H1 = H at hP hS ⊢
          refine lv_istore_n (lv' := [(3, .int r_18), (0, .ref h), (1, .int a), (2, .int b)]) hx hb dX12_far_27 rfl hl (by decide) rfl (fun ls hl => ?_)
          refine lv_iload_n hx hb dX12_far_28 rfl (lv_at hl 0 rfl) ?_
          refine lv_ldc hx hb hown (htg (.constant RX12 225 100000) kw_7_232) dX12_far_29 ?_
          refine lv_icmp_lt (tgt := 39) hx hb dX12_far_31 (by decide) (fun c_27 => ?_) (fun c_27 => ?_)
          · skip
            have i_28 : 0 ≤ r_18.toInt ∧ r_18.toInt ≤ 99999 := iv_lt1 p_19 (⟨by decide, by decide⟩ : (100000 : Int) ≤ (100000 : Int32).toInt ∧ (100000 : Int32).toInt ≤ 100000) c_27
            refine lv_iload_n hx hb dX12_far_39 rfl (lv_at hl 0 rfl) ?_
            exact W.iret (v := r_18) hx hb hr (fun t ht hW => ⟨⟨r_18, (fv_22, wd_23, ar_24), rfl, ⟨hF_fv_22, hA_ar_24, (fM_call (fM_put (fM_rf [0, 8] _) efv_1 (by decide)) fr_25 (by decide)), (fA_call (fA_rf [4] _) fa_26 (by decide)), (show wt_far r_18 a b G9 from Or.inr ⟨by omega, by have h9 := p_20; unfold wt_rl at h9; exact Or.inl ⟨by omega, by omega⟩⟩), p_21, trivial⟩, ⟨by rw [ht]; exact hP, va_K.moved hW.alike hK⟩⟩, hS.F ht⟩) hS.2.2 dX12_far_40
          · skip
            have i_29 : 100000 ≤ r_18.toInt ∧ r_18.toInt ≤ 100000 := iv_le2 (⟨by decide, by decide⟩ : (100000 : Int) ≤ (100000 : Int32).toInt ∧ (100000 : Int32).toInt ≤ 100000) p_19 (Int32.not_lt.mp c_27)
            refine lv_bipush (v := (-2)) hx hb dX12_far_34 (by decide) ?_
            refine lv_goto (tgt := 40) hx hb dX12_far_36 (by decide) ?_
            have z_30 : ((-2) : Int32).toInt = (-2) := by decide
            exact W.iret (v := (-2)) hx hb hr (fun t ht hW => ⟨⟨(-2), (fv_22, wd_23, ar_24), rfl, ⟨hF_fv_22, hA_ar_24, (fM_call (fM_put (fM_rf [0, 8] _) efv_1 (by decide)) fr_25 (by decide)), (fA_call (fA_rf [4] _) fa_26 (by decide)), (show wt_far ((-2) : Int32) a b G9 from Or.inr ⟨by omega, by have h9 := p_20; unfold wt_rl at h9; exact Or.inr ⟨by omega, rfl⟩⟩), p_21, trivial⟩, ⟨by rw [ht]; exact hP, va_K.moved hW.alike hK⟩⟩, hS.F ht⟩) hS.2.2 dX12_far_40
        · skip
          exact absurd c_17 (by decide)

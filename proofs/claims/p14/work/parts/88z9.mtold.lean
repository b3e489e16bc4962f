set_option maxHeartbeats 4000000 in
set_option maxRecDepth 100000 in
theorem m_toldE (l : Launch) (dC : Nat → ClassId) (dI : Nat → Nat → Nat) (sz h : Nat) (ad : Nat → Nat) (cA : Nat → ClassId) (hd : dM h ad) (fv : Nat → Int32) (wd : Int64) (ar : Nat → Nat → Int32) (hF_fv : rF fv) (hA_ar : rA ar) (a : Int32) (b : Int32) (v : Int32) (f : Int32) (hgdm : ∀ b : Nat, (b : Int) < (fv 58).toInt → ∀ l ∈ cd_LM ar b, cd_gd l) (hfd : ∀ i : Nat, (i : Int) < (fv 58).toInt → 0 ≤ (ar 49 i).toInt) (hp_vM : vM fv ar) : Met l yX12_told (.code yX12_told cX12_told 6 (some .int) :: lw_good) ({ frames := 5, cells := 0, slots := 0, locals := 114 }) (va_Pc [.ref h, .int a, .int b, .int v, .int f] (prM dC dI h ad cA fv wd ar sz)) (va_Qi (fun (r : Int32) (u : mS) => rF u.1 ∧ rA u.2.2 ∧ fM [0, 66, 67] fv u.1 ∧ fA [64, 65] ar u.2.2 ∧ (((a.toInt < 0 ∨ (fv 35).toInt ≤ a.toInt ∨ b.toInt < 0 ∨ 5 < b.toInt ∨ v.toInt < 0 ∨ f.toInt < 0) ∧ r = -1 ∧ u.1 67 = fv 67) ∨ (¬ (a.toInt < 0 ∨ (fv 35).toInt ≤ a.toInt ∨ b.toInt < 0 ∨ 5 < b.toInt ∨ v.toInt < 0 ∨ f.toInt < 0) ∧ r.toInt = cd_av (cd_fc (ar 20 ((ar 25 (a.toInt.toNat)).toInt.toNat)).toInt (ar 23 ((ar 25 (a.toInt.toNat)).toInt.toNat)).toInt (ar 22 ((ar 25 (a.toInt.toNat)).toInt.toNat)).toInt (wt_rf (fv 3) (fv 7) (ar 5)) (ar 28 (a.toInt.toNat)).toInt (fv 3).toInt (ar 26 (a.toInt.toNat)).toInt (ar 27 (a.toInt.toNat)).toInt (cd_ri b.toInt v.toInt) f.toInt) b.toInt (decide ((ar 20 ((ar 25 (a.toInt.toNat)).toInt.toNat)).toInt = 2)) (if ((cd_nw (fun i => (ar 49 (i - 1)).toInt) (fv 3).toInt ((fv 58).toInt.toNat)).1) = 0 then [] else cd_LM ar (((cd_nw (fun i => (ar 49 (i - 1)).toInt) (fv 3).toInt ((fv 58).toInt.toNat)).1) - 1)) ∧ (u.1 67).toInt = cd_al (cd_fc (ar 20 ((ar 25 (a.toInt.toNat)).toInt.toNat)).toInt (ar 23 ((ar 25 (a.toInt.toNat)).toInt.toNat)).toInt (ar 22 ((ar 25 (a.toInt.toNat)).toInt.toNat)).toInt (wt_rf (fv 3) (fv 7) (ar 5)) (ar 28 (a.toInt.toNat)).toInt (fv 3).toInt (ar 26 (a.toInt.toNat)).toInt (ar 27 (a.toInt.toNat)).toInt (cd_ri b.toInt v.toInt) f.toInt) b.toInt (decide ((ar 20 ((ar 25 (a.toInt.toNat)).toInt.toNat)).toInt = 2)) (if ((cd_nw (fun i => (ar 49 (i - 1)).toInt) (fv 3).toInt ((fv 58).toInt.toNat)).1) = 0 then [] else cd_LM ar (((cd_nw (fun i => (ar 49 (i - 1)).toInt) (fv 3).toInt ((fv 58).toInt.toNat)).1) - 1)))) ∧ True) (enM dC dI h ad cA) (aM h ad sz)) 0 0 (aM h ad sz) := by
  refine Met.ofW (cc := cX12_told) (maxL := 6) (ret := (some .int)) (by decide) rfl ?_
  intro p e s m args below meth c s₁ B hml hv
  obtain ⟨rfl, hsz, hP, hK⟩ := hv
  have hx := B.exec
  have hb := B.bytes
  have hr := B.returns
  have hts := atoms_spec (ws := (.code yX12_told cX12_told 6 (some .int) :: lw_good)) B.pre
  have htg : ∀ w ∈ lw_good, w.before _ s = true := fun w hw => hts w (List.mem_cons_of_mem _ hw)
  have hown : s.vm.findClass RX12 = some m.cls := findClass_of_methodNamed B.named
  have hlocks := B.notSynchronized
  subst hsz
  have hS : va_S (aM h ad s.heap.size) s.heap s.heap [] := va_S.rf
  have hl := lv_entry ([.ref h, .int a, .int b, .int v, .int f]) (n := 6) (Nat.le_of_ble_eq_true rfl)
  rw [lg_entry_eq]
  generalize (lg_sl ([.ref h, .int a, .int b, .int v, .int f]) ++ List.replicate (6 - (lg_sl ([.ref h, .int a, .int b, .int v, .int f])).length) Slot.unset).toArray = ls at hl ⊢
  have hl : lv_has ls 6 [(0, .ref h), (1, .int a), (2, .int b), (3, .int v), (4, .int f)] := hl
  refine lv_aload_n hx hb dX12_told_0 rfl (lv_at hl 0 rfl) ?_
  refine lv_iconst (v := 0) hx hb dX12_told_1 (by decide) ?_
  refine pM_0 hx hb htg hown hK hP hS hd dX12_told_2 (fun H locs fv_1 efv_1 hP hS => ?_)
  have hF_fv_1 : rF fv_1 := rF_put hF_fv efv_1 (iv_any _)
  refine lv_iload_n hx hb dX12_told_5 rfl (lv_at hl 1 rfl) ?_
  refine lv_iconst (v := 0) hx hb dX12_told_6 (by decide) ?_
  refine lv_aload_n hx hb dX12_told_7 rfl (lv_at hl 0 rfl) ?_
  refine gM_35 hx hb htg hown hK hP dX12_told_8 ?_
  refine my_ti (y := fv 35) ((congrFun efv_1 35)) ?_
  have i_2 : 0 ≤ (fv 35).toInt ∧ (fv 35).toInt ≤ 80 := hF_fv 35
  refine lv_iconst (v := 1) hx hb dX12_told_11 (by decide) ?_
  refine lv_isub hx hb dX12_told_12 ?_
  refine lv_topi (fun v_3 ev_3 => ?_)
  have t_4 : v_3.toInt = (fv 35).toInt - 1 ∧ (-1) ≤ v_3.toInt ∧ v_3.toInt ≤ 79 := iv_subc ev_3 i_2 (by decide) (by decide) (by decide)
  refine va_calli (va_runS (As := [.int a, .int 0, .int v_3]) (rest := []) ⟨hx, hb, hml, hown, hts⟩ (m_isIn l H.size a 0 v_3) (va_cwS 3 hts (gS kw_7_218 kw_7_219 kw_1_15 kw_7_220) rfl rfl rfl (by decide +kernel) ⟨Nat.le_of_ble_eq_true rfl, Nat.le_of_ble_eq_true rfl⟩) ⟨fun a U g mk q => ⟨q.1, q.2⟩, fun U hU hW => ⟨rfl, congrArg Array.size hU⟩⟩ rfl rfl hl.1 rfl (lv_room (Nat.le_of_ble_eq_true rfl)) dX12_told_13 ⟨Nat.le_of_ble_eq_true rfl, Nat.le_of_ble_eq_true rfl⟩) hS (fun q _ h9 => nM_up hS q h9) (nM_up hS) (fun r_6 u t H1 locs ht _ hw hB _ hk1 hS => ?_)
  obtain ⟨p_7, p_8, -⟩ := hw
  have hP := my_keepM hP hk1
  generalize H1 = H at hP hS ⊢
  rcases p_8 with ⟨rfl, p_8⟩ | ⟨rfl, p_8⟩
  · skip
    refine lv_if_eq (tgt := 37) hx hb dX12_told_16 (by decide) (fun c_9 => ?_) (fun c_9 => ?_)
    · skip
      refine lv_iconst (v := (-1)) hx hb dX12_told_37 (by decide) ?_
      have z_10 : ((-1) : Int32).toInt = (-1) := by decide
      exact W.iret (v := (-1)) hx hb hr (fun t ht hW => ⟨⟨(-1), (fv_1, wd, ar), rfl, ⟨hF_fv_1, hA_ar, (fM_put (fM_rf [0, 66, 67] _) efv_1 (by decide)), (fA_rf [64, 65] _), (show ((a.toInt < 0 ∨ (fv 35).toInt ≤ a.toInt ∨ b.toInt < 0 ∨ 5 < b.toInt ∨ v.toInt < 0 ∨ f.toInt < 0) ∧ ((-1) : Int32) = -1 ∧ fv_1 67 = fv 67) ∨ (¬ (a.toInt < 0 ∨ (fv 35).toInt ≤ a.toInt ∨ b.toInt < 0 ∨ 5 < b.toInt ∨ v.toInt < 0 ∨ f.toInt < 0) ∧ ((-1) : Int32).toInt = cd_av (cd_fc (ar 20 ((ar 25 (a.toInt.toNat)).toInt.toNat)).toInt (ar 23 ((ar 25 (a.toInt.toNat)).toInt.toNat)).toInt (ar 22 ((ar 25 (a.toInt.toNat)).toInt.toNat)).toInt (wt_rf (fv 3) (fv 7) (ar 5)) (ar 28 (a.toInt.toNat)).toInt (fv 3).toInt (ar 26 (a.toInt.toNat)).toInt (ar 27 (a.toInt.toNat)).toInt (cd_ri b.toInt v.toInt) f.toInt) b.toInt (decide ((ar 20 ((ar 25 (a.toInt.toNat)).toInt.toNat)).toInt = 2)) (if ((cd_nw (fun i => (ar 49 (i - 1)).toInt) (fv 3).toInt ((fv 58).toInt.toNat)).1) = 0 then [] else cd_LM ar (((cd_nw (fun i => (ar 49 (i - 1)).toInt) (fv 3).toInt ((fv 58).toInt.toNat)).1) - 1)) ∧ (fv_1 67).toInt = cd_al (cd_fc (ar 20 ((ar 25 (a.toInt.toNat)).toInt.toNat)).toInt (ar 23 ((ar 25 (a.toInt.toNat)).toInt.toNat)).toInt (ar 22 ((ar 25 (a.toInt.toNat)).toInt.toNat)).toInt (wt_rf (fv 3) (fv 7) (ar 5)) (ar 28 (a.toInt.toNat)).toInt (fv 3).toInt (ar 26 (a.toInt.toNat)).toInt (ar 27 (a.toInt.toNat)).toInt (cd_ri b.toInt v.toInt) f.toInt) b.toInt (decide ((ar 20 ((ar 25 (a.toInt.toNat)).toInt.toNat)).toInt = 2)) (if ((cd_nw (fun i => (ar 49 (i - 1)).toInt) (fv 3).toInt ((fv 58).toInt.toNat)).1) = 0 then [] else cd_LM ar (((cd_nw (fun i => (ar 49 (i - 1)).toInt) (fv 3).toInt ((fv 58).toInt.toNat)).1) - 1))) from by have hz0 : (0 : Int32).toInt = 0 := (by decide); have hz5 : (5 : Int32).toInt = 5 := (by decide); have : (fv_1 35).toInt = (fv 35).toInt := congrArg Int32.toInt ((fM_put (fM_rf [0] _) efv_1 (by decide)) 35 rfl); exact Or.inl ⟨by omega, rfl, ((fM_put (fM_rf [0] _) efv_1 (by decide)) 67 rfl)⟩), trivial⟩, ⟨by rw [ht]; exact hP, va_K.moved hW.alike hK⟩⟩, hS.F ht⟩) hS.2.2 dX12_told_38
    · skip
      exact absurd c_9 (by decide)
  · skip
    have i_11 : 0 ≤ a.toInt ∧ a.toInt ≤ 2147483647 := iv_le2 (⟨by decide, by decide⟩ : (0 : Int) ≤ (0 : Int32).toInt ∧ (0 : Int32).toInt ≤ 0) (iv_any a) (Int32.le_iff_toInt_le.mpr p_8.1)
    have i_12 : 0 ≤ a.toInt ∧ a.toInt ≤ 79 := iv_le1 i_11 t_4.2 (Int32.le_iff_toInt_le.mpr p_8.2)
    have i_13 : 0 ≤ v_3.toInt ∧ v_3.toInt ≤ 79 := iv_le2 i_11 t_4.2 (Int32.le_iff_toInt_le.mpr p_8.2)
    refine lv_if_eq (tgt := 37) hx hb dX12_told_16 (by decide) (fun c_14 => ?_) (fun c_14 => ?_)
    · skip
      exact absurd c_14 (by decide)
    · skip
      refine lv_iload_n hx hb dX12_told_19 rfl (lv_at hl 2 rfl) ?_
      refine lv_iconst (v := 0) hx hb dX12_told_20 (by decide) ?_
      refine lv_iconst (v := 5) hx hb dX12_told_21 (by decide) ?_
      refine va_calli (va_runS (As := [.int b, .int 0, .int 5]) (rest := []) ⟨hx, hb, hml, hown, hts⟩ (m_isIn l H.size b 0 5) (va_cwS 3 hts (gS kw_7_218 kw_7_219 kw_1_15 kw_7_220) rfl rfl rfl (by decide +kernel) ⟨Nat.le_of_ble_eq_true rfl, Nat.le_of_ble_eq_true rfl⟩) ⟨fun a U g mk q => ⟨q.1, q.2⟩, fun U hU hW => ⟨rfl, congrArg Array.size hU⟩⟩ rfl rfl hl.1 rfl (lv_room (Nat.le_of_ble_eq_true rfl)) dX12_told_22 ⟨Nat.le_of_ble_eq_true rfl, Nat.le_of_ble_eq_true rfl⟩) hS (fun q _ h9 => nM_up hS q h9) (nM_up hS) (fun r_15 u t H1 locs ht _ hw hB _ hk1 hS => ?_)
      obtain ⟨p_16, p_17, -⟩ := hw
      have hP := my_keepM hP hk1
      generalize H1 = H at hP hS ⊢
      rcases p_17 with ⟨rfl, p_17⟩ | ⟨rfl, p_17⟩
      · skip
        refine lv_if_eq (tgt := 37) hx hb dX12_told_25 (by decide) (fun c_18 => ?_) (fun c_18 => ?_)
        · skip
          refine lv_iconst (v := (-1)) hx hb dX12_told_37 (by decide) ?_
          have z_19 : ((-1) : Int32).toInt = (-1) := by decide
          exact W.iret (v := (-1)) hx hb hr (fun t ht hW => ⟨⟨(-1), (fv_1, wd, ar), rfl, ⟨hF_fv_1, hA_ar, (fM_put (fM_rf [0, 66, 67] _) efv_1 (by decide)), (fA_rf [64, 65] _), (show ((a.toInt < 0 ∨ (fv 35).toInt ≤ a.toInt ∨ b.toInt < 0 ∨ 5 < b.toInt ∨ v.toInt < 0 ∨ f.toInt < 0) ∧ ((-1) : Int32) = -1 ∧ fv_1 67 = fv 67) ∨ (¬ (a.toInt < 0 ∨ (fv 35).toInt ≤ a.toInt ∨ b.toInt < 0 ∨ 5 < b.toInt ∨ v.toInt < 0 ∨ f.toInt < 0) ∧ ((-1) : Int32).toInt = cd_av (cd_fc (ar 20 ((ar 25 (a.toInt.toNat)).toInt.toNat)).toInt (ar 23 ((ar 25 (a.toInt.toNat)).toInt.toNat)).toInt (ar 22 ((ar 25 (a.toInt.toNat)).toInt.toNat)).toInt (wt_rf (fv 3) (fv 7) (ar 5)) (ar 28 (a.toInt.toNat)).toInt (fv 3).toInt (ar 26 (a.toInt.toNat)).toInt (ar 27 (a.toInt.toNat)).toInt (cd_ri b.toInt v.toInt) f.toInt) b.toInt (decide ((ar 20 ((ar 25 (a.toInt.toNat)).toInt.toNat)).toInt = 2)) (if ((cd_nw (fun i => (ar 49 (i - 1)).toInt) (fv 3).toInt ((fv 58).toInt.toNat)).1) = 0 then [] else cd_LM ar (((cd_nw (fun i => (ar 49 (i - 1)).toInt) (fv 3).toInt ((fv 58).toInt.toNat)).1) - 1)) ∧ (fv_1 67).toInt = cd_al (cd_fc (ar 20 ((ar 25 (a.toInt.toNat)).toInt.toNat)).toInt (ar 23 ((ar 25 (a.toInt.toNat)).toInt.toNat)).toInt (ar 22 ((ar 25 (a.toInt.toNat)).toInt.toNat)).toInt (wt_rf (fv 3) (fv 7) (ar 5)) (ar 28 (a.toInt.toNat)).toInt (fv 3).toInt (ar 26 (a.toInt.toNat)).toInt (ar 27 (a.toInt.toNat)).toInt (cd_ri b.toInt v.toInt) f.toInt) b.toInt (decide ((ar 20 ((ar 25 (a.toInt.toNat)).toInt.toNat)).toInt = 2)) (if ((cd_nw (fun i => (ar 49 (i - 1)).toInt) (fv 3).toInt ((fv 58).toInt.toNat)).1) = 0 then [] else cd_LM ar (((cd_nw (fun i => (ar 49 (i - 1)).toInt) (fv 3).toInt ((fv 58).toInt.toNat)).1) - 1))) from by have hz0 : (0 : Int32).toInt = 0 := (by decide); have hz5 : (5 : Int32).toInt = 5 := (by decide); have : (fv_1 35).toInt = (fv 35).toInt := congrArg Int32.toInt ((fM_put (fM_rf [0] _) efv_1 (by decide)) 35 rfl); exact Or.inl ⟨by omega, rfl, ((fM_put (fM_rf [0] _) efv_1 (by decide)) 67 rfl)⟩), trivial⟩, ⟨by rw [ht]; exact hP, va_K.moved hW.alike hK⟩⟩, hS.F ht⟩) hS.2.2 dX12_told_38
        · skip
          exact absurd c_18 (by decide)
      · skip
        have i_20 : 0 ≤ b.toInt ∧ b.toInt ≤ 2147483647 := iv_le2 (⟨by decide, by decide⟩ : (0 : Int) ≤ (0 : Int32).toInt ∧ (0 : Int32).toInt ≤ 0) (iv_any b) (Int32.le_iff_toInt_le.mpr p_17.1)
        have i_21 : 0 ≤ b.toInt ∧ b.toInt ≤ 5 := iv_le1 i_20 (⟨by decide, by decide⟩ : (5 : Int) ≤ (5 : Int32).toInt ∧ (5 : Int32).toInt ≤ 5) (Int32.le_iff_toInt_le.mpr p_17.2)
        refine lv_if_eq (tgt := 37) hx hb dX12_told_25 (by decide) (fun c_22 => ?_) (fun c_22 => ?_)
        · skip
          exact absurd c_22 (by decide)
        · skip
          refine lv_iload_n hx hb dX12_told_28 rfl (lv_at hl 3 rfl) ?_
          refine lv_if_lt (tgt := 37) hx hb dX12_told_29 (by decide) (fun c_23 => ?_) (fun c_23 => ?_)
          · skip
            have i_24 : (-2147483648) ≤ v.toInt ∧ v.toInt ≤ (-1) := iv_lt1 (iv_any v) (⟨by decide, by decide⟩ : (0 : Int) ≤ (0 : Int32).toInt ∧ (0 : Int32).toInt ≤ 0) c_23
            refine lv_iconst (v := (-1)) hx hb dX12_told_37 (by decide) ?_
            have z_25 : ((-1) : Int32).toInt = (-1) := by decide
            exact W.iret (v := (-1)) hx hb hr (fun t ht hW => ⟨⟨(-1), (fv_1, wd, ar), rfl, ⟨hF_fv_1, hA_ar, (fM_put (fM_rf [0, 66, 67] _) efv_1 (by decide)), (fA_rf [64, 65] _), (show ((a.toInt < 0 ∨ (fv 35).toInt ≤ a.toInt ∨ b.toInt < 0 ∨ 5 < b.toInt ∨ v.toInt < 0 ∨ f.toInt < 0) ∧ ((-1) : Int32) = -1 ∧ fv_1 67 = fv 67) ∨ (¬ (a.toInt < 0 ∨ (fv 35).toInt ≤ a.toInt ∨ b.toInt < 0 ∨ 5 < b.toInt ∨ v.toInt < 0 ∨ f.toInt < 0) ∧ ((-1) : Int32).toInt = cd_av (cd_fc (ar 20 ((ar 25 (a.toInt.toNat)).toInt.toNat)).toInt (ar 23 ((ar 25 (a.toInt.toNat)).toInt.toNat)).toInt (ar 22 ((ar 25 (a.toInt.toNat)).toInt.toNat)).toInt (wt_rf (fv 3) (fv 7) (ar 5)) (ar 28 (a.toInt.toNat)).toInt (fv 3).toInt (ar 26 (a.toInt.toNat)).toInt (ar 27 (a.toInt.toNat)).toInt (cd_ri b.toInt v.toInt) f.toInt) b.toInt (decide ((ar 20 ((ar 25 (a.toInt.toNat)).toInt.toNat)).toInt = 2)) (if ((cd_nw (fun i => (ar 49 (i - 1)).toInt) (fv 3).toInt ((fv 58).toInt.toNat)).1) = 0 then [] else cd_LM ar (((cd_nw (fun i => (ar 49 (i - 1)).toInt) (fv 3).toInt ((fv 58).toInt.toNat)).1) - 1)) ∧ (fv_1 67).toInt = cd_al (cd_fc (ar 20 ((ar 25 (a.toInt.toNat)).toInt.toNat)).toInt (ar 23 ((ar 25 (a.toInt.toNat)).toInt.toNat)).toInt (ar 22 ((ar 25 (a.toInt.toNat)).toInt.toNat)).toInt (wt_rf (fv 3) (fv 7) (ar 5)) (ar 28 (a.toInt.toNat)).toInt (fv 3).toInt (ar 26 (a.toInt.toNat)).toInt (ar 27 (a.toInt.toNat)).toInt (cd_ri b.toInt v.toInt) f.toInt) b.toInt (decide ((ar 20 ((ar 25 (a.toInt.toNat)).toInt.toNat)).toInt = 2)) (if ((cd_nw (fun i => (ar 49 (i - 1)).toInt) (fv 3).toInt ((fv 58).toInt.toNat)).1) = 0 then [] else cd_LM ar (((cd_nw (fun i => (ar 49 (i - 1)).toInt) (fv 3).toInt ((fv 58).toInt.toNat)).1) - 1))) from by have hz0 : (0 : Int32).toInt = 0 := (by decide); have hz5 : (5 : Int32).toInt = 5 := (by decide); have : (fv_1 35).toInt = (fv 35).toInt := congrArg Int32.toInt ((fM_put (fM_rf [0] _) efv_1 (by decide)) 35 rfl); exact Or.inl ⟨by omega, rfl, ((fM_put (fM_rf [0] _) efv_1 (by decide)) 67 rfl)⟩), trivial⟩, ⟨by rw [ht]; exact hP, va_K.moved hW.alike hK⟩⟩, hS.F ht⟩) hS.2.2 dX12_told_38
          · skip
            have i_26 : 0 ≤ v.toInt ∧ v.toInt ≤ 2147483647 := iv_le2 (⟨by decide, by decide⟩ : (0 : Int) ≤ (0 : Int32).toInt ∧ (0 : Int32).toInt ≤ 0) (iv_any v) (Int32.not_lt.mp c_23)
            refine lv_iload hx hb dX12_told_32 (lv_at hl 4 rfl) ?_
            refine lv_if_ge (tgt := 39) hx hb dX12_told_34 (by decide) (fun c_27 => ?_) (fun c_27 => ?_)
            · skip
              have i_28 : 0 ≤ f.toInt ∧ f.toInt ≤ 2147483647 := iv_le2 (⟨by decide, by decide⟩ : (0 : Int) ≤ (0 : Int32).toInt ∧ (0 : Int32).toInt ≤ 0) (iv_any f) c_27
              refine lv_aload_n hx hb dX12_told_39 rfl (lv_at hl 0 rfl) ?_
              refine lv_iload_n hx hb dX12_told_40 rfl (lv_at hl 1 rfl) ?_
              refine lv_iload_n hx hb dX12_told_41 rfl (lv_at hl 2 rfl) ?_
              refine lv_iload_n hx hb dX12_told_42 rfl (lv_at hl 3 rfl) ?_
              refine lv_iload hx hb dX12_told_43 (lv_at hl 4 rfl) ?_
              have z_29 : (fv_1 58).toInt = (fv 58).toInt := congrArg Int32.toInt ((congrFun efv_1 58))
              have z_30 : 0 ≤ (fv_1 58).toInt ∧ (fv_1 58).toInt ≤ 10 := hF_fv_1 58
              have z_31 : (fv_1 58).toInt = (fv 58).toInt := congrArg Int32.toInt ((congrFun efv_1 58))
              have z_32 : 0 ≤ (fv_1 58).toInt ∧ (fv_1 58).toInt ≤ 10 := hF_fv_1 58
              have z_33 : (fv_1 3).toInt = (fv 3).toInt := congrArg Int32.toInt ((congrFun efv_1 3))
              have z_34 : 0 ≤ (fv_1 3).toInt ∧ (fv_1 3).toInt ≤ 199 := hF_fv_1 3
              have z_35 : (fv_1 7).toInt = (fv 7).toInt := congrArg Int32.toInt ((congrFun efv_1 7))
              have z_36 : 0 ≤ (fv_1 7).toInt ∧ (fv_1 7).toInt ≤ 200 := hF_fv_1 7
              have z_37 : (fv_1 58).toInt = (fv 58).toInt := congrArg Int32.toInt ((congrFun efv_1 58))
              have z_38 : 0 ≤ (fv_1 58).toInt ∧ (fv_1 58).toInt ≤ 10 := hF_fv_1 58
              refine va_calli (va_runV (As := [.int a, .int b, .int v, .int f]) (rest := []) ⟨hx, hb, hml, hown, hts⟩ (m_tellsE l dC dI H.size h ad cA hd fv_1 wd ar hF_fv_1 hA_ar a b v f i_12 i_21 (by rw [show fv_1 58 = fv 58 from ((fM_put (fM_rf [0] _) efv_1 (by decide)) 58 rfl)]; exact hgdm) (by rw [show fv_1 58 = fv 58 from ((fM_put (fM_rf [0] _) efv_1 (by decide)) 58 rfl)]; exact hfd) (vM_fr hp_vM (fM_put (fM_rf [0] _) efv_1 (by decide)) (fA_rf [] _) rfl rfl rfl rfl rfl)) (cwV 4 hts (gV kw_8_145 kw_8_147 kw_p_79 kw_1_15 kw_8_148) rfl rfl rfl (by decide +kernel) ⟨Nat.le_of_ble_eq_true rfl, Nat.le_of_ble_eq_true rfl⟩) ⟨fun a U g mk q => ⟨q.1, q.2.1, q.2.2.1, va_K.moved (u := U) (U := U.calling g mk a) (Vm.Alike.refl U.vm) q.2.2.2⟩, va_recv hK hP (ci := 12) (q0 := 0) rfl rfl, fun U hU hW => ⟨rfl, by rw [hU], by rw [hU]; exact hP, va_K.moved hW.alike hK⟩⟩ rfl rfl hl.1 rfl (lv_room (Nat.le_of_ble_eq_true rfl)) dX12_told_45 ⟨Nat.le_of_ble_eq_true rfl, Nat.le_of_ble_eq_true rfl⟩) hS (fun q _ h9 => aM_up hS q h9) (aM_up hS) (fun r_39 u t H1 locs ht _ hw hB _ hk1 hS => ?_)
              obtain ⟨fv_42, wd_43, ar_44⟩ := u
              obtain ⟨hF_fv_42, hA_ar_44, fr_45, fa_46, p_40, p_41, -⟩ := hw
              have hP : va_P (dC, dI) vwCl (wsM h ad cA fv_42 wd_43 ar_44) H1 := by have h9 := hB.1; rw [ht] at h9; exact h9
              have fr_45 : fM [66] fv_1 fv_42 := fr_45
              have fa_46 : fA [64, 65] ar ar_44 := fa_46
              have p_40 : (fv_42 66).toInt = cd_al (cd_fc (ar 20 ((ar 25 (a.toInt.toNat)).toInt.toNat)).toInt (ar 23 ((ar 25 (a.toInt.toNat)).toInt.toNat)).toInt (ar 22 ((ar 25 (a.toInt.toNat)).toInt.toNat)).toInt (wt_rf (fv_1 3) (fv_1 7) (ar 5)) (ar 28 (a.toInt.toNat)).toInt (fv_1 3).toInt (ar 26 (a.toInt.toNat)).toInt (ar 27 (a.toInt.toNat)).toInt (cd_ri b.toInt v.toInt) f.toInt) b.toInt (decide ((ar 20 ((ar 25 (a.toInt.toNat)).toInt.toNat)).toInt = 2)) (if ((cd_nw (fun i => (ar 49 (i - 1)).toInt) (fv_1 3).toInt ((fv_1 58).toInt.toNat)).1) = 0 then [] else cd_LM ar (((cd_nw (fun i => (ar 49 (i - 1)).toInt) (fv_1 3).toInt ((fv_1 58).toInt.toNat)).1) - 1)) := p_40
              have p_41 : r_39.toInt = cd_av (cd_fc (ar 20 ((ar 25 (a.toInt.toNat)).toInt.toNat)).toInt (ar 23 ((ar 25 (a.toInt.toNat)).toInt.toNat)).toInt (ar 22 ((ar 25 (a.toInt.toNat)).toInt.toNat)).toInt (wt_rf (fv_1 3) (fv_1 7) (ar 5)) (ar 28 (a.toInt.toNat)).toInt (fv_1 3).toInt (ar 26 (a.toInt.toNat)).toInt (ar 27 (a.toInt.toNat)).toInt (cd_ri b.toInt v.toInt) f.toInt) b.toInt (decide ((ar 20 ((ar 25 (a.toInt.toNat)).toInt.toNat)).toInt = 2)) (if ((cd_nw (fun i => (ar 49 (i - 1)).toInt) (fv_1 3).toInt ((fv_1 58).toInt.toNat)).1) = 0 then [] else cd_LM ar (((cd_nw (fun i => (ar 49 (i - 1)).toInt) (fv_1 3).toInt ((fv_1 58).toInt.toNat)).1) - 1)) := p_41
              generalize H1 = H at hP hS ⊢
              refine lv_istore (lv' := [(5, .int r_39), (0, .ref h), (1, .int a), (2, .int b), (3, .int v), (4, .int f)]) hx hb dX12_told_48 hl (by decide) rfl (fun ls hl => ?_)
              refine lv_aload_n hx hb dX12_told_50 rfl (lv_at hl 1 rfl) ?_
              refine lv_aload_n hx hb dX12_told_51 rfl (lv_at hl 1 rfl) ?_
              refine gM_66 hx hb htg hown hK hP dX12_told_52 ?_
              refine pM_67 hx hb htg hown hK hP hS hd dX12_told_55 (fun H locs fv_47 efv_47 hP hS => ?_)
              have hF_fv_47 : rF fv_47 := rF_put hF_fv_42 efv_47 (iv_any (fv_42 66))
              refine lv_iload hx hb dX12_told_58 (lv_at hl 0 rfl) ?_
              exact W.iret (v := r_39) hx hb hr (fun t ht hW => ⟨⟨r_39, (fv_47, wd_43, ar_44), rfl, ⟨hF_fv_47, hA_ar_44, (fM_put (fM_call (fM_put (fM_rf [0, 66, 67] _) efv_1 (by decide)) fr_45 (by decide)) efv_47 (by decide)), (fA_call (fA_rf [64, 65] _) fa_46 (by decide)), (show ((a.toInt < 0 ∨ (fv 35).toInt ≤ a.toInt ∨ b.toInt < 0 ∨ 5 < b.toInt ∨ v.toInt < 0 ∨ f.toInt < 0) ∧ r_39 = -1 ∧ fv_47 67 = fv 67) ∨ (¬ (a.toInt < 0 ∨ (fv 35).toInt ≤ a.toInt ∨ b.toInt < 0 ∨ 5 < b.toInt ∨ v.toInt < 0 ∨ f.toInt < 0) ∧ r_39.toInt = cd_av (cd_fc (ar 20 ((ar 25 (a.toInt.toNat)).toInt.toNat)).toInt (ar 23 ((ar 25 (a.toInt.toNat)).toInt.toNat)).toInt (ar 22 ((ar 25 (a.toInt.toNat)).toInt.toNat)).toInt (wt_rf (fv 3) (fv 7) (ar 5)) (ar 28 (a.toInt.toNat)).toInt (fv 3).toInt (ar 26 (a.toInt.toNat)).toInt (ar 27 (a.toInt.toNat)).toInt (cd_ri b.toInt v.toInt) f.toInt) b.toInt (decide ((ar 20 ((ar 25 (a.toInt.toNat)).toInt.toNat)).toInt = 2)) (if ((cd_nw (fun i => (ar 49 (i - 1)).toInt) (fv 3).toInt ((fv 58).toInt.toNat)).1) = 0 then [] else cd_LM ar (((cd_nw (fun i => (ar 49 (i - 1)).toInt) (fv 3).toInt ((fv 58).toInt.toNat)).1) - 1)) ∧ (fv_47 67).toInt = cd_al (cd_fc (ar 20 ((ar 25 (a.toInt.toNat)).toInt.toNat)).toInt (ar 23 ((ar 25 (a.toInt.toNat)).toInt.toNat)).toInt (ar 22 ((ar 25 (a.toInt.toNat)).toInt.toNat)).toInt (wt_rf (fv 3) (fv 7) (ar 5)) (ar 28 (a.toInt.toNat)).toInt (fv 3).toInt (ar 26 (a.toInt.toNat)).toInt (ar 27 (a.toInt.toNat)).toInt (cd_ri b.toInt v.toInt) f.toInt) b.toInt (decide ((ar 20 ((ar 25 (a.toInt.toNat)).toInt.toNat)).toInt = 2)) (if ((cd_nw (fun i => (ar 49 (i - 1)).toInt) (fv 3).toInt ((fv 58).toInt.toNat)).1) = 0 then [] else cd_LM ar (((cd_nw (fun i => (ar 49 (i - 1)).toInt) (fv 3).toInt ((fv 58).toInt.toNat)).1) - 1))) from by have hz0 : (0 : Int32).toInt = 0 := (by decide); have hz5 : (5 : Int32).toInt = 5 := (by decide); have : (fv_1 35).toInt = (fv 35).toInt := congrArg Int32.toInt ((fM_put (fM_rf [0] _) efv_1 (by decide)) 35 rfl); have : (fv_42 35).toInt = (fv_1 35).toInt := congrArg Int32.toInt ((fM_call (fM_rf [66] _) fr_45 (by decide)) 35 rfl); have : (fv_47 35).toInt = (fv_42 35).toInt := congrArg Int32.toInt ((fM_put (fM_rf [67] _) efv_47 (by decide)) 35 rfl); exact Or.inr ⟨by omega, by have h9 := p_41; rw [show fv_1 3 = fv 3 from ((fM_put (fM_rf [0] _) efv_1 (by decide)) 3 rfl), show fv_1 7 = fv 7 from ((fM_put (fM_rf [0] _) efv_1 (by decide)) 7 rfl), show fv_1 58 = fv 58 from ((fM_put (fM_rf [0] _) efv_1 (by decide)) 58 rfl)] at h9; exact h9, by have h9 := p_40; rw [show fv_1 3 = fv 3 from ((fM_put (fM_rf [0] _) efv_1 (by decide)) 3 rfl), show fv_1 7 = fv 7 from ((fM_put (fM_rf [0] _) efv_1 (by decide)) 7 rfl), show fv_1 58 = fv 58 from ((fM_put (fM_rf [0] _) efv_1 (by decide)) 58 rfl)] at h9; rw [show fv_47 67 = fv_42 66 from (congrFun efv_47 67)]; exact h9⟩), trivial⟩, ⟨by rw [ht]; exact hP, va_K.moved hW.alike hK⟩⟩, hS.F ht⟩) hS.2.2 dX12_told_60
            · skip
              have i_48 : (-2147483648) ≤ f.toInt ∧ f.toInt ≤ (-1) := iv_lt1 (iv_any f) (⟨by decide, by decide⟩ : (0 : Int) ≤ (0 : Int32).toInt ∧ (0 : Int32).toInt ≤ 0) (Int32.not_le.mp c_27)
              refine lv_iconst (v := (-1)) hx hb dX12_told_37 (by decide) ?_
              have z_49 : ((-1) : Int32).toInt = (-1) := by decide
              exact W.iret (v := (-1)) hx hb hr (fun t ht hW => ⟨⟨(-1), (fv_1, wd, ar), rfl, ⟨hF_fv_1, hA_ar, (fM_put (fM_rf [0, 66, 67] _) efv_1 (by decide)), (fA_rf [64, 65] _), (show ((a.toInt < 0 ∨ (fv 35).toInt ≤ a.toInt ∨ b.toInt < 0 ∨ 5 < b.toInt ∨ v.toInt < 0 ∨ f.toInt < 0) ∧ ((-1) : Int32) = -1 ∧ fv_1 67 = fv 67) ∨ (¬ (a.toInt < 0 ∨ (fv 35).toInt ≤ a.toInt ∨ b.toInt < 0 ∨ 5 < b.toInt ∨ v.toInt < 0 ∨ f.toInt < 0) ∧ ((-1) : Int32).toInt = cd_av (cd_fc (ar 20 ((ar 25 (a.toInt.toNat)).toInt.toNat)).toInt (ar 23 ((ar 25 (a.toInt.toNat)).toInt.toNat)).toInt (ar 22 ((ar 25 (a.toInt.toNat)).toInt.toNat)).toInt (wt_rf (fv 3) (fv 7) (ar 5)) (ar 28 (a.toInt.toNat)).toInt (fv 3).toInt (ar 26 (a.toInt.toNat)).toInt (ar 27 (a.toInt.toNat)).toInt (cd_ri b.toInt v.toInt) f.toInt) b.toInt (decide ((ar 20 ((ar 25 (a.toInt.toNat)).toInt.toNat)).toInt = 2)) (if ((cd_nw (fun i => (ar 49 (i - 1)).toInt) (fv 3).toInt ((fv 58).toInt.toNat)).1) = 0 then [] else cd_LM ar (((cd_nw (fun i => (ar 49 (i - 1)).toInt) (fv 3).toInt ((fv 58).toInt.toNat)).1) - 1)) ∧ (fv_1 67).toInt = cd_al (cd_fc (ar 20 ((ar 25 (a.toInt.toNat)).toInt.toNat)).toInt (ar 23 ((ar 25 (a.toInt.toNat)).toInt.toNat)).toInt (ar 22 ((ar 25 (a.toInt.toNat)).toInt.toNat)).toInt (wt_rf (fv 3) (fv 7) (ar 5)) (ar 28 (a.toInt.toNat)).toInt (fv 3).toInt (ar 26 (a.toInt.toNat)).toInt (ar 27 (a.toInt.toNat)).toInt (cd_ri b.toInt v.toInt) f.toInt) b.toInt (decide ((ar 20 ((ar 25 (a.toInt.toNat)).toInt.toNat)).toInt = 2)) (if ((cd_nw (fun i => (ar 49 (i - 1)).toInt) (fv 3).toInt ((fv 58).toInt.toNat)).1) = 0 then [] else cd_LM ar (((cd_nw (fun i => (ar 49 (i - 1)).toInt) (fv 3).toInt ((fv 58).toInt.toNat)).1) - 1))) from by have hz0 : (0 : Int32).toInt = 0 := (by decide); have hz5 : (5 : Int32).toInt = 5 := (by decide); have : (fv_1 35).toInt = (fv 35).toInt := congrArg Int32.toInt ((fM_put (fM_rf [0] _) efv_1 (by decide)) 35 rfl); exact Or.inl ⟨by omega, rfl, ((fM_put (fM_rf [0] _) efv_1 (by decide)) 67 rfl)⟩), trivial⟩, ⟨by rw [ht]; exact hP, va_K.moved hW.alike hK⟩⟩, hS.F ht⟩) hS.2.2 dX12_told_38

theorem dX12_drop_0 : decode cX12_drop 0 = .ok (.aload_n 0, 1) := by decide +kernel
theorem dX12_drop_1 : decode cX12_drop 1 = .ok (.getfield 340, 3) := by decide +kernel
theorem dX12_drop_4 : decode cX12_drop 4 = .ok (.ifCond .le 50, 3) := by decide +kernel
theorem dX12_drop_7 : decode cX12_drop 7 = .ok (.aload_n 0, 1) := by decide +kernel
theorem dX12_drop_8 : decode cX12_drop 8 = .ok (.getfield 118, 3) := by decide +kernel
theorem dX12_drop_11 : decode cX12_drop 11 = .ok (.aload_n 0, 1) := by decide +kernel
theorem dX12_drop_12 : decode cX12_drop 12 = .ok (.getfield 340, 3) := by decide +kernel
theorem dX12_drop_15 : decode cX12_drop 15 = .ok (.iconst 1, 1) := by decide +kernel
theorem dX12_drop_16 : decode cX12_drop 16 = .ok (.isub, 1) := by decide +kernel
theorem dX12_drop_17 : decode cX12_drop 17 = .ok (.iaload, 1) := by decide +kernel
theorem dX12_drop_18 : decode cX12_drop 18 = .ok (.iload_n 1, 1) := by decide +kernel
theorem dX12_drop_19 : decode cX12_drop 19 = .ok (.iload_n 2, 1) := by decide +kernel
theorem dX12_drop_20 : decode cX12_drop 20 = .ok (.invokestatic 214, 3) := by decide +kernel
theorem dX12_drop_23 : decode cX12_drop 23 = .ok (.ifCond .eq 31, 3) := by decide +kernel
theorem dX12_drop_26 : decode cX12_drop 26 = .ok (.aload_n 0, 1) := by decide +kernel
theorem dX12_drop_27 : decode cX12_drop 27 = .ok (.dup, 1) := by decide +kernel
theorem dX12_drop_28 : decode cX12_drop 28 = .ok (.getfield 340, 3) := by decide +kernel
theorem dX12_drop_31 : decode cX12_drop 31 = .ok (.iconst 1, 1) := by decide +kernel
theorem dX12_drop_32 : decode cX12_drop 32 = .ok (.isub, 1) := by decide +kernel
theorem dX12_drop_33 : decode cX12_drop 33 = .ok (.putfield 340, 3) := by decide +kernel
theorem dX12_drop_36 : decode cX12_drop 36 = .ok (.aload_n 0, 1) := by decide +kernel
theorem dX12_drop_37 : decode cX12_drop 37 = .ok (.aload_n 0, 1) := by decide +kernel
theorem dX12_drop_38 : decode cX12_drop 38 = .ok (.getfield 118, 3) := by decide +kernel
theorem dX12_drop_41 : decode cX12_drop 41 = .ok (.aload_n 0, 1) := by decide +kernel
theorem dX12_drop_42 : decode cX12_drop 42 = .ok (.getfield 340, 3) := by decide +kernel
theorem dX12_drop_45 : decode cX12_drop 45 = .ok (.iaload, 1) := by decide +kernel
theorem dX12_drop_46 : decode cX12_drop 46 = .ok (.iconst 0, 1) := by decide +kernel
theorem dX12_drop_47 : decode cX12_drop 47 = .ok (.iconst 0, 1) := by decide +kernel
theorem dX12_drop_48 : decode cX12_drop 48 = .ok (.invokevirtual 343, 3) := by decide +kernel
theorem dX12_drop_51 : decode cX12_drop 51 = .ok (.goto (-51), 3) := by decide +kernel
theorem dX12_drop_54 : decode cX12_drop 54 = .ok (.return_, 1) := by decide +kernel
theorem dX12_dropNots_0 : decode cX12_dropNots 0 = .ok (.aload_n 0, 1) := by decide +kernel
theorem dX12_dropNots_1 : decode cX12_dropNots 1 = .ok (.getfield 340, 3) := by decide +kernel
theorem dX12_dropNots_4 : decode cX12_dropNots 4 = .ok (.ifCond .le 50, 3) := by decide +kernel
theorem dX12_dropNots_7 : decode cX12_dropNots 7 = .ok (.aload_n 0, 1) := by decide +kernel
theorem dX12_dropNots_8 : decode cX12_dropNots 8 = .ok (.getfield 118, 3) := by decide +kernel
theorem dX12_dropNots_11 : decode cX12_dropNots 11 = .ok (.aload_n 0, 1) := by decide +kernel
theorem dX12_dropNots_12 : decode cX12_dropNots 12 = .ok (.getfield 340, 3) := by decide +kernel
theorem dX12_dropNots_15 : decode cX12_dropNots 15 = .ok (.iconst 1, 1) := by decide +kernel
theorem dX12_dropNots_16 : decode cX12_dropNots 16 = .ok (.isub, 1) := by decide +kernel
theorem dX12_dropNots_17 : decode cX12_dropNots 17 = .ok (.iaload, 1) := by decide +kernel
theorem dX12_dropNots_18 : decode cX12_dropNots 18 = .ok (.bipush 12, 2) := by decide +kernel
theorem dX12_dropNots_20 : decode cX12_dropNots 20 = .ok (.if_icmp .ne 34, 3) := by decide +kernel
theorem dX12_dropNots_23 : decode cX12_dropNots 23 = .ok (.aload_n 0, 1) := by decide +kernel
theorem dX12_dropNots_24 : decode cX12_dropNots 24 = .ok (.dup, 1) := by decide +kernel
theorem dX12_dropNots_25 : decode cX12_dropNots 25 = .ok (.getfield 340, 3) := by decide +kernel
theorem dX12_dropNots_28 : decode cX12_dropNots 28 = .ok (.iconst 1, 1) := by decide +kernel
theorem dX12_dropNots_29 : decode cX12_dropNots 29 = .ok (.isub, 1) := by decide +kernel
theorem dX12_dropNots_30 : decode cX12_dropNots 30 = .ok (.putfield 340, 3) := by decide +kernel
theorem dX12_dropNots_33 : decode cX12_dropNots 33 = .ok (.aload_n 0, 1) := by decide +kernel
theorem dX12_dropNots_34 : decode cX12_dropNots 34 = .ok (.dup, 1) := by decide +kernel
theorem dX12_dropNots_35 : decode cX12_dropNots 35 = .ok (.getfield 363, 3) := by decide +kernel
theorem dX12_dropNots_38 : decode cX12_dropNots 38 = .ok (.iconst 1, 1) := by decide +kernel
theorem dX12_dropNots_39 : decode cX12_dropNots 39 = .ok (.isub, 1) := by decide +kernel
theorem dX12_dropNots_40 : decode cX12_dropNots 40 = .ok (.putfield 363, 3) := by decide +kernel
theorem dX12_dropNots_43 : decode cX12_dropNots 43 = .ok (.aload_n 0, 1) := by decide +kernel
theorem dX12_dropNots_44 : decode cX12_dropNots 44 = .ok (.bipush 12, 2) := by decide +kernel
theorem dX12_dropNots_46 : decode cX12_dropNots 46 = .ok (.iconst 0, 1) := by decide +kernel
theorem dX12_dropNots_47 : decode cX12_dropNots 47 = .ok (.iconst 0, 1) := by decide +kernel
theorem dX12_dropNots_48 : decode cX12_dropNots 48 = .ok (.invokevirtual 343, 3) := by decide +kernel
theorem dX12_dropNots_51 : decode cX12_dropNots 51 = .ok (.goto (-51), 3) := by decide +kernel
theorem dX12_dropNots_54 : decode cX12_dropNots 54 = .ok (.return_, 1) := by decide +kernel
set_option maxHeartbeats 4000000 in
set_option maxRecDepth 100000 in
theorem m_drop (l : Launch) (dC : Nat → ClassId) (dI : Nat → Nat → Nat) (sz h : Nat) (ad : Nat → Nat) (cA : Nat → ClassId) (hd : dM h ad) (fv : Nat → Int32) (wd : Int64) (ar : Nat → Nat → Int32) (hF_fv : rF fv) (hA_ar : rA ar) (FF : Nat) (g0 : Nat → Int32) (ll : Int32) (mm : Int32) (h_ll : 13 ≤ ll.toInt ∧ ll.toInt ≤ 13) (h_mm : 13 ≤ mm.toInt ∧ mm.toInt ≤ 14) (hp_c1 : cX FF g0 1 (fv 60).toInt (fv 61).toInt (fv 62).toInt (fv 63).toInt (ar 54) (ar 57)) (hp_vM : vM fv ar) : Met l yX12_drop (.code yX12_drop cX12_drop 3 none :: lw_good) ({ frames := 3, cells := 0, slots := 0, locals := 64 }) (va_Pc [.ref h, .int ll, .int mm] (prM dC dI h ad cA fv wd ar sz)) (va_Qv (fun (u : mS) => rF u.1 ∧ rA u.2.2 ∧ fM [60, 61] fv u.1 ∧ fA [54, 55, 56] ar u.2.2 ∧ ((u.1 61).toInt ≤ (fv 61).toInt) ∧ (∀ j : Nat, (j : Int) < (fv 61).toInt → (ar 57 j).toInt = 15 → (j : Int) < (u.1 61).toInt) ∧ ((u.1 61).toInt = 0 ∨ (ar 57 ((u.1 61).toInt - 1).toNat).toInt < ll.toInt ∨ mm.toInt < (ar 57 ((u.1 61).toInt - 1).toNat).toInt) ∧ (cX FF g0 1 (u.1 60).toInt (u.1 61).toInt (u.1 62).toInt (u.1 63).toInt (u.2.2 54) (u.2.2 57)) ∧ (vM u.1 u.2.2) ∧ True) (enM dC dI h ad cA) (aM h ad sz)) 0 0 (aM h ad sz) := by
  refine Met.ofW (cc := cX12_drop) (maxL := 3) (ret := none) (by decide) rfl ?_
  intro p e s m args below meth c s₁ B hml hv
  obtain ⟨rfl, hsz, hP, hK⟩ := hv
  have hx := B.exec
  have hb := B.bytes
  have hr := B.returns
  have hts := atoms_spec (ws := (.code yX12_drop cX12_drop 3 none :: lw_good)) B.pre
  have htg : ∀ w ∈ lw_good, w.before _ s = true := fun w hw => hts w (List.mem_cons_of_mem _ hw)
  have hown : s.vm.findClass RX12 = some m.cls := findClass_of_methodNamed B.named
  have hlocks := B.notSynchronized
  subst hsz
  have hS : va_S (aM h ad s.heap.size) s.heap s.heap [] := va_S.rf
  have hl := lv_entry ([.ref h, .int ll, .int mm]) (n := 3) (Nat.le_of_ble_eq_true rfl)
  rw [lg_entry_eq]
  generalize (lg_sl ([.ref h, .int ll, .int mm]) ++ List.replicate (3 - (lg_sl ([.ref h, .int ll, .int mm])).length) Slot.unset).toArray = ls at hl ⊢
  have hl : lv_has ls 3 [(0, .ref h), (1, .int ll), (2, .int mm)] := hl
  refine my_cut (P := fun R9 a9 Q9 => ∀ (n_11 : Nat) (fv_1 : Nat → Int32) (ar_3 : Nat → Nat → Int32) (wd_5 : Int64) (H : Heap) (locs : List Loc) (ls : Array Slot), (fv_1 61).toInt < (n_11 : Int) → rF fv_1 → fM [60, 61] fv fv_1 → rA ar_3 → fA [54, 55, 56] ar ar_3 → cX FF g0 1 (fv_1 60).toInt (fv_1 61).toInt (fv_1 62).toInt (fv_1 63).toInt (ar_3 54) (ar_3 57) → vM fv_1 ar_3 → ((fv_1 61).toInt ≤ (fv 61).toInt) → (∀ j : Nat, (j : Int) < (fv 61).toInt → (ar 57 j).toInt = 15 → (j : Int) < (fv_1 61).toInt) → (0 ≤ (fv_1 61).toInt ∧ (fv_1 61).toInt ≤ 64) → va_P (dC, dI) vwCl (wsM h ad cA fv_1 wd_5 ar_3) H → va_S (aM h ad s.heap.size) s.heap H locs → lv_has ls 3 [(0, .ref h), (1, .int ll), (2, .int mm)] → W p l e R9 s m a9 below meth c H locs 0 0 Q9 (F0 m 0 ls [])) ?_ (fun hj_13 => ?_)
  · intro n_11
    induction n_11 with
    | zero => intro fv_1 ar_3 wd_5 H locs ls fu_12 hF_fv_1 fr_2 hA_ar_3 fa_4 hp_6 hp_7 q_8 q_9 q_10; exfalso; omega
    | succ n_11 ih_11 =>
      intro fv_1 ar_3 wd_5 H locs ls fu_12 hF_fv_1 fr_2 hA_ar_3 fa_4 hp_6 hp_7 q_8 q_9 q_10 hP hS hl
      have z_14 : 0 ≤ (fv_1 60).toInt ∧ (fv_1 60).toInt ≤ 120 := hF_fv_1 60
      have z_15 : 0 ≤ (fv_1 61).toInt ∧ (fv_1 61).toInt ≤ 64 := hF_fv_1 61
      have z_16 : (fv_1 62).toInt = (fv 62).toInt := congrArg Int32.toInt ((fr_2 62 rfl))
      have z_17 : 0 ≤ (fv_1 62).toInt ∧ (fv_1 62).toInt ≤ 50 := hF_fv_1 62
      have z_18 : (fv_1 63).toInt = (fv 63).toInt := congrArg Int32.toInt ((fr_2 63 rfl))
      have z_19 : (-100) ≤ (fv_1 63).toInt ∧ (fv_1 63).toInt ≤ 10 := hF_fv_1 63
      have n9 := cX_n hp_6
      refine lv_aload_n hx hb dX12_drop_0 rfl (lv_at hl 0 rfl) ?_
      refine gM_61 hx hb htg hown hK hP dX12_drop_1 ?_
      have i_20 : 0 ≤ (fv_1 61).toInt ∧ (fv_1 61).toInt ≤ 64 := hF_fv_1 61
      refine lv_if_le (tgt := 54) hx hb dX12_drop_4 (by decide) (fun c_21 => ?_) (fun c_21 => ?_)
      · skip
        have i_22 : 0 ≤ (fv_1 61).toInt ∧ (fv_1 61).toInt ≤ 0 := iv_le1 i_20 (⟨by decide, by decide⟩ : (0 : Int) ≤ (0 : Int32).toInt ∧ (0 : Int32).toInt ≤ 0) c_21
        have z_23 : 0 ≤ (fv_1 61).toInt ∧ (fv_1 61).toInt ≤ 64 := hF_fv_1 61
        exact W.vret hx hb hr (fun t ht hW => ⟨⟨(fv_1, wd_5, ar_3), rfl, ⟨hF_fv_1, hA_ar_3, (fM_call (fM_rf [60, 61] _) fr_2 (by decide)), (fA_call (fA_rf [54, 55, 56] _) fa_4 (by decide)), (show (fv_1 61).toInt ≤ (fv 61).toInt from by omega), (show ∀ j : Nat, (j : Int) < (fv 61).toInt → (ar 57 j).toInt = 15 → (j : Int) < (fv_1 61).toInt from q_9), (show (fv_1 61).toInt = 0 ∨ _ from by omega), hp_6, hp_7, trivial⟩, ⟨by rw [ht]; exact hP, va_K.moved hW.alike hK⟩⟩, hS.F ht⟩) hS.2.2 dX12_drop_54
      · skip
        have i_24 : 1 ≤ (fv_1 61).toInt ∧ (fv_1 61).toInt ≤ 64 := iv_lt2 (⟨by decide, by decide⟩ : (0 : Int) ≤ (0 : Int32).toInt ∧ (0 : Int32).toInt ≤ 0) i_20 (Int32.not_le.mp c_21)
        refine lv_aload_n hx hb dX12_drop_7 rfl (lv_at hl 0 rfl) ?_
        refine gM_57 hx hb htg hown hK hP dX12_drop_8 ?_
        refine lv_aload_n hx hb dX12_drop_11 rfl (lv_at hl 0 rfl) ?_
        refine gM_61 hx hb htg hown hK hP dX12_drop_12 ?_
        refine lv_iconst (v := 1) hx hb dX12_drop_15 (by decide) ?_
        refine lv_isub hx hb dX12_drop_16 ?_
        refine lv_topi (fun v_25 ev_25 => ?_)
        have t_26 : v_25.toInt = (fv_1 61).toInt - 1 ∧ 0 ≤ v_25.toInt ∧ v_25.toInt ≤ 63 := iv_subc ev_25 i_24 (by decide) (by decide) (by decide)
        refine lM_57 hx hb hK hP (iv_in t_26.2 (by decide) (by decide)) dX12_drop_17 (fun v_28 ev_28 => ?_)
        have i_29 : 0 ≤ v_28.toInt ∧ v_28.toInt ≤ 15 := ev_28 ▸ hA_ar_3 57 _
        refine lv_iload_n hx hb dX12_drop_18 rfl (lv_at hl 1 rfl) ?_
        refine lv_iload_n hx hb dX12_drop_19 rfl (lv_at hl 2 rfl) ?_
        refine va_calli (va_runS (As := [.int v_28, .int ll, .int mm]) (rest := []) ⟨hx, hb, hml, hown, hts⟩ (m_isIn l H.size v_28 ll mm) (va_cwS 3 hts (gS kw_7_218 kw_7_219 kw_1_15 kw_7_220) rfl rfl rfl (by decide +kernel) ⟨Nat.le_of_ble_eq_true rfl, Nat.le_of_ble_eq_true rfl⟩) ⟨fun a U g mk q => ⟨q.1, q.2⟩, fun U hU hW => ⟨rfl, congrArg Array.size hU⟩⟩ rfl rfl hl.1 rfl (lv_room (Nat.le_of_ble_eq_true rfl)) dX12_drop_20 ⟨Nat.le_of_ble_eq_true rfl, Nat.le_of_ble_eq_true rfl⟩) hS (fun q _ h9 => nM_up hS q h9) (nM_up hS) (fun r_30 u t H1 locs ht _ hw hB _ hk1 hS => ?_)
        obtain ⟨p_31, p_32, -⟩ := hw
        have hP := my_keepM hP hk1
        generalize H1 = H at hP hS ⊢
        rcases p_32 with ⟨rfl, p_32⟩ | ⟨rfl, p_32⟩
        · skip
          refine lv_if_eq (tgt := 54) hx hb dX12_drop_23 (by decide) (fun c_33 => ?_) (fun c_33 => ?_)
          · skip
            have z_34 : 0 ≤ (fv_1 61).toInt ∧ (fv_1 61).toInt ≤ 64 := hF_fv_1 61
            exact W.vret hx hb hr (fun t ht hW => ⟨⟨(fv_1, wd_5, ar_3), rfl, ⟨hF_fv_1, hA_ar_3, (fM_call (fM_rf [60, 61] _) fr_2 (by decide)), (fA_call (fA_rf [54, 55, 56] _) fa_4 (by decide)), (show (fv_1 61).toInt ≤ (fv 61).toInt from by omega), (show ∀ j : Nat, (j : Int) < (fv 61).toInt → (ar 57 j).toInt = 15 → (j : Int) < (fv_1 61).toInt from q_9), (show (fv_1 61).toInt = 0 ∨ (ar 57 ((fv_1 61).toInt - 1).toNat).toInt < ll.toInt ∨ mm.toInt < (ar 57 ((fv_1 61).toInt - 1).toNat).toInt from by rw [show ar 57 ((fv_1 61).toInt - 1).toNat = v_28 from by rw [ev_28, ((fA_call (fA_rf [54, 55, 56] _) fa_4 (by decide)) 57 rfl)]; congr 1; show _ = v_25.toInt.toNat; omega]; omega), hp_6, hp_7, trivial⟩, ⟨by rw [ht]; exact hP, va_K.moved hW.alike hK⟩⟩, hS.F ht⟩) hS.2.2 dX12_drop_54
          · skip
            exact absurd c_33 (by decide)
        · skip
          have i_35 : 13 ≤ v_28.toInt ∧ v_28.toInt ≤ 15 := iv_le2 h_ll i_29 (Int32.le_iff_toInt_le.mpr p_32.1)
          have i_36 : 13 ≤ v_28.toInt ∧ v_28.toInt ≤ 14 := iv_le1 i_35 h_mm (Int32.le_iff_toInt_le.mpr p_32.2)
          refine lv_if_eq (tgt := 54) hx hb dX12_drop_23 (by decide) (fun c_37 => ?_) (fun c_37 => ?_)
          · skip
            exact absurd c_37 (by decide)
          · skip
            refine lv_aload_n hx hb dX12_drop_26 rfl (lv_at hl 0 rfl) ?_
            refine lv_dup hx hb dX12_drop_27 rfl ?_
            refine gM_61 hx hb htg hown hK hP dX12_drop_28 ?_
            refine lv_iconst (v := 1) hx hb dX12_drop_31 (by decide) ?_
            refine lv_isub hx hb dX12_drop_32 ?_
            refine my_ti (y := v_25) ev_25.symm ?_
            refine pM_61 hx hb htg hown hK hP hS hd dX12_drop_33 (fun H locs fv_38 efv_38 hP hS => ?_)
            have hF_fv_38 : rF fv_38 := rF_put hF_fv_1 efv_38 (iv_w t_26.2 (by decide) (by decide))
            refine lv_aload_n hx hb dX12_drop_36 rfl (lv_at hl 0 rfl) ?_
            refine lv_aload_n hx hb dX12_drop_37 rfl (lv_at hl 0 rfl) ?_
            refine gM_57 hx hb htg hown hK hP dX12_drop_38 ?_
            refine lv_aload_n hx hb dX12_drop_41 rfl (lv_at hl 0 rfl) ?_
            refine gM_61 hx hb htg hown hK hP dX12_drop_42 ?_
            refine my_ti (y := v_25) ((congrFun efv_38 61)) ?_
            refine lM_57 hx hb hK hP (iv_in t_26.2 (by decide) (by decide)) dX12_drop_45 (fun v_39 ev_39 => ?_)
            obtain rfl : v_28 = v_39 := ev_28.trans ev_39.symm
            refine lv_iconst (v := 0) hx hb dX12_drop_46 (by decide) ?_
            refine lv_iconst (v := 0) hx hb dX12_drop_47 (by decide) ?_
            have pl9 : ar 57 ((fv_1 61).toInt - 1).toNat = v_28 := by rw [ev_28, ((fA_call (fA_rf [54, 55, 56] _) fa_4 (by decide)) 57 rfl)]; congr 1; show _ = v_25.toInt.toNat; omega
            have z_40 : (fv_38 60).toInt = (fv_1 60).toInt := congrArg Int32.toInt ((congrFun efv_38 60))
            have z_41 : 0 ≤ (fv_38 60).toInt ∧ (fv_38 60).toInt ≤ 120 := hF_fv_38 60
            have z_42 : (fv_38 61).toInt = v_25.toInt := congrArg Int32.toInt ((congrFun efv_38 61))
            have z_43 : 0 ≤ (fv_38 61).toInt ∧ (fv_38 61).toInt ≤ 64 := hF_fv_38 61
            have z_44 : (fv_38 62).toInt = (fv 62).toInt := congrArg Int32.toInt ((congrFun efv_38 62).trans ((fr_2 62 rfl)))
            have z_45 : 0 ≤ (fv_38 62).toInt ∧ (fv_38 62).toInt ≤ 50 := hF_fv_38 62
            have z_46 : (fv_38 63).toInt = (fv 63).toInt := congrArg Int32.toInt ((congrFun efv_38 63).trans ((fr_2 63 rfl)))
            have z_47 : (-100) ≤ (fv_38 63).toInt ∧ (fv_38 63).toInt ≤ 10 := hF_fv_38 63
            have z_48 : (fv_38 60).toInt = (fv_1 60).toInt := congrArg Int32.toInt ((congrFun efv_38 60))
            have z_49 : 0 ≤ (fv_38 60).toInt ∧ (fv_38 60).toInt ≤ 120 := hF_fv_38 60
            have z_50 : (fv_38 60).toInt = (fv_1 60).toInt := congrArg Int32.toInt ((congrFun efv_38 60))
            have z_51 : 0 ≤ (fv_38 60).toInt ∧ (fv_38 60).toInt ≤ 120 := hF_fv_38 60
            refine va_callv (va_runV (As := [.int v_28, .int 0, .int 0]) (rest := []) ⟨hx, hb, hml, hown, hts⟩ (m_emit l dC dI H.size h ad cA hd fv_38 wd_5 ar_3 hF_fv_38 hA_ar_3 v_28 0 0 (iv_w i_36 (by decide) (by decide)) (by omega) (vM_fr hp_7 (fM_put (fM_rf [61] _) efv_38 (by decide)) (fA_rf [] _) rfl rfl rfl rfl rfl)) (cwV 3 hts (gV kw_8_121 kw_8_123 kw_p_75 kw_1_15 kw_8_124) rfl rfl rfl (by decide +kernel) ⟨Nat.le_of_ble_eq_true rfl, Nat.le_of_ble_eq_true rfl⟩) ⟨fun a U g mk q => ⟨q.1, q.2.1, q.2.2.1, va_K.moved (u := U) (U := U.calling g mk a) (Vm.Alike.refl U.vm) q.2.2.2⟩, va_recv hK hP (ci := 12) (q0 := 0) rfl rfl, fun U hU hW => ⟨rfl, by rw [hU], by rw [hU]; exact hP, va_K.moved hW.alike hK⟩⟩ rfl rfl hl.1 rfl (lv_room (Nat.le_of_ble_eq_true rfl)) dX12_drop_48 ⟨Nat.le_of_ble_eq_true rfl, Nat.le_of_ble_eq_true rfl⟩) hS (fun q _ h9 => aM_up hS q h9) (aM_up hS) (fun u t H1 locs ht _ hw hB _ hk1 hS => ?_)
            obtain ⟨fv_56, wd_57, ar_58⟩ := u
            obtain ⟨hF_fv_56, hA_ar_58, fr_59, fa_60, p_53, p_54, p_55, -⟩ := hw
            have hP : va_P (dC, dI) vwCl (wsM h ad cA fv_56 wd_57 ar_58) H1 := by have h9 := hB.1; rw [ht] at h9; exact h9
            have fr_59 : fM [60] fv_38 fv_56 := fr_59
            have fa_60 : fA [54, 55, 56] ar_3 ar_58 := fa_60
            have p_55 : vM fv_56 ar_58 := p_55
            have p_53 : (fv_56 60).toInt = (fv_38 60).toInt + 1 := p_53
            have p_54 : ar_58 54 = upd (ar_3 54) (1200 + (fv_38 60).toInt.toNat) v_28 := p_54
            generalize H1 = H at hP hS ⊢
            have z_61 : 0 ≤ (fv_56 60).toInt ∧ (fv_56 60).toInt ≤ 120 := hF_fv_56 60
            have z_62 : (fv_56 61).toInt = v_25.toInt := congrArg Int32.toInt ((fr_59 61 rfl).trans ((congrFun efv_38 61)))
            have z_63 : 0 ≤ (fv_56 61).toInt ∧ (fv_56 61).toInt ≤ 64 := hF_fv_56 61
            have z_64 : (fv_56 62).toInt = (fv 62).toInt := congrArg Int32.toInt ((fr_59 62 rfl).trans ((congrFun efv_38 62).trans ((fr_2 62 rfl))))
            have z_65 : 0 ≤ (fv_56 62).toInt ∧ (fv_56 62).toInt ≤ 50 := hF_fv_56 62
            have z_66 : (fv_56 63).toInt = (fv 63).toInt := congrArg Int32.toInt ((fr_59 63 rfl).trans ((congrFun efv_38 63).trans ((fr_2 63 rfl))))
            have z_67 : (-100) ≤ (fv_56 63).toInt ∧ (fv_56 63).toInt ≤ 10 := hF_fv_56 63
            have hp_68 : cX FF g0 1 (fv_56 60).toInt (fv_56 61).toInt (fv_56 62).toInt (fv_56 63).toInt (ar_58 54) (ar_58 57) := cX_eq (cX_drop (g1 := ar_58 54) hp_6 (by omega) (by rw [((fA_call (fA_rf [54, 55, 56] _) fa_4 (by decide)) 57 rfl)]; exact pl9) (by omega) (p1 := (fv_56 60).toInt) (t1 := (fv_56 61).toInt) (o1 := (fv_56 62).toInt) (w1 := (fv_56 63).toInt) (by omega) (by omega) (by omega) (by omega) (i := _) (by omega) p_54) rfl rfl rfl rfl rfl ((fA_call (fA_rf [54, 55, 56] _) fa_60 (by decide)) 57 rfl)
            refine lv_goto (tgt := 0) hx hb dX12_drop_51 (by decide) ?_
            have z_69 : 0 ≤ (fv_56 60).toInt ∧ (fv_56 60).toInt ≤ 120 := hF_fv_56 60
            have z_70 : (fv_56 61).toInt = v_25.toInt := congrArg Int32.toInt ((fr_59 61 rfl).trans ((congrFun efv_38 61)))
            have z_71 : 0 ≤ (fv_56 61).toInt ∧ (fv_56 61).toInt ≤ 64 := hF_fv_56 61
            exact ih_11 fv_56 ar_58 wd_57 _ _ ls (by omega) hF_fv_56 (fM_call (fM_put (fM_call (fM_rf [60, 61] _) fr_2 (by decide)) efv_38 (by decide)) fr_59 (by decide)) hA_ar_58 (fA_call (fA_call (fA_rf [54, 55, 56] _) fa_4 (by decide)) fa_60 (by decide)) hp_68 p_55 (by omega) (fun j h1 h2 => by have a9 := q_9 j h1 h2; have c9 : j ≠ ((fv_1 61).toInt - 1).toNat := (fun e9 => by (rw [e9, pl9] at h2; omega)); omega) (by omega) hP hS (lv_sub hl [0, 1, 2] rfl)
  · skip
    have z_72 : 0 ≤ (fv 60).toInt ∧ (fv 60).toInt ≤ 120 := hF_fv 60
    have z_73 : 0 ≤ (fv 61).toInt ∧ (fv 61).toInt ≤ 64 := hF_fv 61
    exact hj_13 65 fv ar wd _ _ ls (by omega) hF_fv (fM_rf [60, 61] _) hA_ar (fA_rf [54, 55, 56] _) hp_c1 hp_vM (Int.le_refl _) (fun j h _ => h) (hF_fv 61) hP hS (lv_sub hl [0, 1, 2] rfl)
set_option maxHeartbeats 4000000 in
set_option maxRecDepth 100000 in
theorem m_dropNots (l : Launch) (dC : Nat → ClassId) (dI : Nat → Nat → Nat) (sz h : Nat) (ad : Nat → Nat) (cA : Nat → ClassId) (hd : dM h ad) (fv : Nat → Int32) (wd : Int64) (ar : Nat → Nat → Int32) (hF_fv : rF fv) (hA_ar : rA ar) (FF : Nat) (g0 : Nat → Int32) (hp_c1 : cX FF g0 1 (fv 60).toInt (fv 61).toInt (fv 62).toInt (fv 63).toInt (ar 54) (ar 57)) (hp_vM : vM fv ar) : Met l yX12_dropNots (.code yX12_dropNots cX12_dropNots 1 none :: lw_good) ({ frames := 3, cells := 0, slots := 0, locals := 64 }) (va_Pc [.ref h] (prM dC dI h ad cA fv wd ar sz)) (va_Qv (fun (u : mS) => rF u.1 ∧ rA u.2.2 ∧ fM [60, 61, 63] fv u.1 ∧ fA [54, 55, 56] ar u.2.2 ∧ ((u.1 61).toInt ≤ (fv 61).toInt) ∧ (cX FF g0 1 (u.1 60).toInt (u.1 61).toInt (u.1 62).toInt (u.1 63).toInt (u.2.2 54) (u.2.2 57)) ∧ (vM u.1 u.2.2) ∧ True) (enM dC dI h ad cA) (aM h ad sz)) 0 0 (aM h ad sz) := by
  refine Met.ofW (cc := cX12_dropNots) (maxL := 1) (ret := none) (by decide) rfl ?_
  intro p e s m args below meth c s₁ B hml hv
  obtain ⟨rfl, hsz, hP, hK⟩ := hv
  have hx := B.exec
  have hb := B.bytes
  have hr := B.returns
  have hts := atoms_spec (ws := (.code yX12_dropNots cX12_dropNots 1 none :: lw_good)) B.pre
  have htg : ∀ w ∈ lw_good, w.before _ s = true := fun w hw => hts w (List.mem_cons_of_mem _ hw)
  have hown : s.vm.findClass RX12 = some m.cls := findClass_of_methodNamed B.named
  have hlocks := B.notSynchronized
  subst hsz
  have hS : va_S (aM h ad s.heap.size) s.heap s.heap [] := va_S.rf
  have hl := lv_entry ([.ref h]) (n := 1) (Nat.le_of_ble_eq_true rfl)
  rw [lg_entry_eq]
  generalize (lg_sl ([.ref h]) ++ List.replicate (1 - (lg_sl ([.ref h])).length) Slot.unset).toArray = ls at hl ⊢
  have hl : lv_has ls 1 [(0, .ref h)] := hl
  refine my_cut (P := fun R9 a9 Q9 => ∀ (n_10 : Nat) (fv_1 : Nat → Int32) (ar_3 : Nat → Nat → Int32) (wd_5 : Int64) (H : Heap) (locs : List Loc) (ls : Array Slot), (fv_1 61).toInt < (n_10 : Int) → rF fv_1 → fM [60, 61, 63] fv fv_1 → rA ar_3 → fA [54, 55, 56] ar ar_3 → cX FF g0 1 (fv_1 60).toInt (fv_1 61).toInt (fv_1 62).toInt (fv_1 63).toInt (ar_3 54) (ar_3 57) → vM fv_1 ar_3 → (0 ≤ (fv_1 61).toInt ∧ (fv_1 61).toInt ≤ 64) → ((fv_1 61).toInt ≤ (fv 61).toInt) → va_P (dC, dI) vwCl (wsM h ad cA fv_1 wd_5 ar_3) H → va_S (aM h ad s.heap.size) s.heap H locs → lv_has ls 1 [(0, .ref h)] → W p l e R9 s m a9 below meth c H locs 0 0 Q9 (F0 m 0 ls [])) ?_ (fun hj_12 => ?_)
  · intro n_10
    induction n_10 with
    | zero => intro fv_1 ar_3 wd_5 H locs ls fu_11 hF_fv_1 fr_2 hA_ar_3 fa_4 hp_6 hp_7 q_8 q_9; exfalso; omega
    | succ n_10 ih_10 =>
      intro fv_1 ar_3 wd_5 H locs ls fu_11 hF_fv_1 fr_2 hA_ar_3 fa_4 hp_6 hp_7 q_8 q_9 hP hS hl
      have z_13 : 0 ≤ (fv_1 60).toInt ∧ (fv_1 60).toInt ≤ 120 := hF_fv_1 60
      have z_14 : 0 ≤ (fv_1 61).toInt ∧ (fv_1 61).toInt ≤ 64 := hF_fv_1 61
      have z_15 : (fv_1 62).toInt = (fv 62).toInt := congrArg Int32.toInt ((fr_2 62 rfl))
      have z_16 : 0 ≤ (fv_1 62).toInt ∧ (fv_1 62).toInt ≤ 50 := hF_fv_1 62
      have z_17 : (-100) ≤ (fv_1 63).toInt ∧ (fv_1 63).toInt ≤ 10 := hF_fv_1 63
      have n9 := cX_n hp_6
      refine lv_aload_n hx hb dX12_dropNots_0 rfl (lv_at hl 0 rfl) ?_
      refine gM_61 hx hb htg hown hK hP dX12_dropNots_1 ?_
      have i_18 : 0 ≤ (fv_1 61).toInt ∧ (fv_1 61).toInt ≤ 64 := hF_fv_1 61
      refine lv_if_le (tgt := 54) hx hb dX12_dropNots_4 (by decide) (fun c_19 => ?_) (fun c_19 => ?_)
      · skip
        have i_20 : 0 ≤ (fv_1 61).toInt ∧ (fv_1 61).toInt ≤ 0 := iv_le1 i_18 (⟨by decide, by decide⟩ : (0 : Int) ≤ (0 : Int32).toInt ∧ (0 : Int32).toInt ≤ 0) c_19
        have z_21 : 0 ≤ (fv_1 61).toInt ∧ (fv_1 61).toInt ≤ 64 := hF_fv_1 61
        exact W.vret hx hb hr (fun t ht hW => ⟨⟨(fv_1, wd_5, ar_3), rfl, ⟨hF_fv_1, hA_ar_3, (fM_call (fM_rf [60, 61, 63] _) fr_2 (by decide)), (fA_call (fA_rf [54, 55, 56] _) fa_4 (by decide)), (show (fv_1 61).toInt ≤ (fv 61).toInt from by omega), hp_6, hp_7, trivial⟩, ⟨by rw [ht]; exact hP, va_K.moved hW.alike hK⟩⟩, hS.F ht⟩) hS.2.2 dX12_dropNots_54
      · skip
        have i_22 : 1 ≤ (fv_1 61).toInt ∧ (fv_1 61).toInt ≤ 64 := iv_lt2 (⟨by decide, by decide⟩ : (0 : Int) ≤ (0 : Int32).toInt ∧ (0 : Int32).toInt ≤ 0) i_18 (Int32.not_le.mp c_19)
        refine lv_aload_n hx hb dX12_dropNots_7 rfl (lv_at hl 0 rfl) ?_
        refine gM_57 hx hb htg hown hK hP dX12_dropNots_8 ?_
        refine lv_aload_n hx hb dX12_dropNots_11 rfl (lv_at hl 0 rfl) ?_
        refine gM_61 hx hb htg hown hK hP dX12_dropNots_12 ?_
        refine lv_iconst (v := 1) hx hb dX12_dropNots_15 (by decide) ?_
        refine lv_isub hx hb dX12_dropNots_16 ?_
        refine lv_topi (fun v_23 ev_23 => ?_)
        have t_24 : v_23.toInt = (fv_1 61).toInt - 1 ∧ 0 ≤ v_23.toInt ∧ v_23.toInt ≤ 63 := iv_subc ev_23 i_22 (by decide) (by decide) (by decide)
        refine lM_57 hx hb hK hP (iv_in t_24.2 (by decide) (by decide)) dX12_dropNots_17 (fun v_26 ev_26 => ?_)
        have i_27 : 0 ≤ v_26.toInt ∧ v_26.toInt ≤ 15 := ev_26 ▸ hA_ar_3 57 _
        refine lv_bipush (v := 12) hx hb dX12_dropNots_18 (by decide) ?_
        refine lv_icmp_ne (tgt := 54) hx hb dX12_dropNots_20 (by decide) (fun c_28 => ?_) (fun c_28 => ?_)
        · skip
          have k_29 : ¬ v_26.toInt = 12 := fun q => c_28 (Int32.toInt_inj.mp q)
          have z_30 : 0 ≤ (fv_1 61).toInt ∧ (fv_1 61).toInt ≤ 64 := hF_fv_1 61
          exact W.vret hx hb hr (fun t ht hW => ⟨⟨(fv_1, wd_5, ar_3), rfl, ⟨hF_fv_1, hA_ar_3, (fM_call (fM_rf [60, 61, 63] _) fr_2 (by decide)), (fA_call (fA_rf [54, 55, 56] _) fa_4 (by decide)), (show (fv_1 61).toInt ≤ (fv 61).toInt from by omega), hp_6, hp_7, trivial⟩, ⟨by rw [ht]; exact hP, va_K.moved hW.alike hK⟩⟩, hS.F ht⟩) hS.2.2 dX12_dropNots_54
        · skip
          have i_31 : 12 ≤ v_26.toInt ∧ v_26.toInt ≤ 12 := iv_eq1 (⟨by decide, by decide⟩ : (12 : Int) ≤ (12 : Int32).toInt ∧ (12 : Int32).toInt ≤ 12) c_28
          refine lv_aload_n hx hb dX12_dropNots_23 rfl (lv_at hl 0 rfl) ?_
          refine lv_dup hx hb dX12_dropNots_24 rfl ?_
          refine gM_61 hx hb htg hown hK hP dX12_dropNots_25 ?_
          refine lv_iconst (v := 1) hx hb dX12_dropNots_28 (by decide) ?_
          refine lv_isub hx hb dX12_dropNots_29 ?_
          refine my_ti (y := v_23) ev_23.symm ?_
          refine pM_61 hx hb htg hown hK hP hS hd dX12_dropNots_30 (fun H locs fv_33 efv_33 hP hS => ?_)
          have hF_fv_33 : rF fv_33 := rF_put hF_fv_1 efv_33 (iv_w t_24.2 (by decide) (by decide))
          refine lv_aload_n hx hb dX12_dropNots_33 rfl (lv_at hl 0 rfl) ?_
          refine lv_dup hx hb dX12_dropNots_34 rfl ?_
          refine gM_63 hx hb htg hown hK hP dX12_dropNots_35 ?_
          refine my_ti (y := fv_1 63) ((congrFun efv_33 63)) ?_
          have i_34 : (-100) ≤ (fv_1 63).toInt ∧ (fv_1 63).toInt ≤ 10 := hF_fv_1 63
          refine lv_iconst (v := 1) hx hb dX12_dropNots_38 (by decide) ?_
          refine lv_isub hx hb dX12_dropNots_39 ?_
          refine lv_topi (fun v_35 ev_35 => ?_)
          have t_36 : v_35.toInt = (fv_1 63).toInt - 1 ∧ (-101) ≤ v_35.toInt ∧ v_35.toInt ≤ 9 := iv_subc ev_35 i_34 (by decide) (by decide) (by decide)
          have i_38 : (-100) ≤ v_35.toInt ∧ v_35.toInt ≤ 10 := (by omega)
          refine pM_63 hx hb htg hown hK hP hS hd dX12_dropNots_40 (fun H locs fv_39 efv_39 hP hS => ?_)
          have hF_fv_39 : rF fv_39 := rF_put hF_fv_33 efv_39 i_38
          have pl9 : (ar_3 57 ((fv_1 61).toInt - 1).toNat).toInt = 12 := by rw [show ar_3 57 ((fv_1 61).toInt - 1).toNat = v_26 from by rw [ev_26]; congr 1; show _ = v_23.toInt.toNat; omega]; omega
          have z_40 : (fv_39 60).toInt = (fv_1 60).toInt := congrArg Int32.toInt ((congrFun efv_39 60).trans ((congrFun efv_33 60)))
          have z_41 : 0 ≤ (fv_39 60).toInt ∧ (fv_39 60).toInt ≤ 120 := hF_fv_39 60
          have z_42 : (fv_39 61).toInt = v_23.toInt := congrArg Int32.toInt ((congrFun efv_39 61).trans ((congrFun efv_33 61)))
          have z_43 : 0 ≤ (fv_39 61).toInt ∧ (fv_39 61).toInt ≤ 64 := hF_fv_39 61
          have z_44 : (fv_39 62).toInt = (fv 62).toInt := congrArg Int32.toInt ((congrFun efv_39 62).trans ((congrFun efv_33 62).trans ((fr_2 62 rfl))))
          have z_45 : 0 ≤ (fv_39 62).toInt ∧ (fv_39 62).toInt ≤ 50 := hF_fv_39 62
          have z_46 : (fv_39 63).toInt = v_35.toInt := congrArg Int32.toInt ((congrFun efv_39 63))
          have z_47 : (-100) ≤ (fv_39 63).toInt ∧ (fv_39 63).toInt ≤ 10 := hF_fv_39 63
          refine lv_aload_n hx hb dX12_dropNots_43 rfl (lv_at hl 0 rfl) ?_
          refine lv_bipush (v := 12) hx hb dX12_dropNots_44 (by decide) ?_
          refine lv_iconst (v := 0) hx hb dX12_dropNots_46 (by decide) ?_
          refine lv_iconst (v := 0) hx hb dX12_dropNots_47 (by decide) ?_
          have z_48 : (fv_39 60).toInt = (fv_1 60).toInt := congrArg Int32.toInt ((congrFun efv_39 60).trans ((congrFun efv_33 60)))
          have z_49 : 0 ≤ (fv_39 60).toInt ∧ (fv_39 60).toInt ≤ 120 := hF_fv_39 60
          have z_50 : (fv_39 60).toInt = (fv_1 60).toInt := congrArg Int32.toInt ((congrFun efv_39 60).trans ((congrFun efv_33 60)))
          have z_51 : 0 ≤ (fv_39 60).toInt ∧ (fv_39 60).toInt ≤ 120 := hF_fv_39 60
          refine va_callv (va_runV (As := [.int 12, .int 0, .int 0]) (rest := []) ⟨hx, hb, hml, hown, hts⟩ (m_emit l dC dI H.size h ad cA hd fv_39 wd_5 ar_3 hF_fv_39 hA_ar_3 12 0 0 (iv_w (⟨by decide, by decide⟩ : (12 : Int) ≤ (12 : Int32).toInt ∧ (12 : Int32).toInt ≤ 12) (by decide) (by decide)) (by omega) (vM_fr hp_7 (fM_put (fM_put (fM_rf [61, 63] _) efv_33 (by decide)) efv_39 (by decide)) (fA_rf [] _) rfl rfl rfl rfl rfl)) (cwV 3 hts (gV kw_8_121 kw_8_123 kw_p_75 kw_1_15 kw_8_124) rfl rfl rfl (by decide +kernel) ⟨Nat.le_of_ble_eq_true rfl, Nat.le_of_ble_eq_true rfl⟩) ⟨fun a U g mk q => ⟨q.1, q.2.1, q.2.2.1, va_K.moved (u := U) (U := U.calling g mk a) (Vm.Alike.refl U.vm) q.2.2.2⟩, va_recv hK hP (ci := 12) (q0 := 0) rfl rfl, fun U hU hW => ⟨rfl, by rw [hU], by rw [hU]; exact hP, va_K.moved hW.alike hK⟩⟩ rfl rfl hl.1 rfl (lv_room (Nat.le_of_ble_eq_true rfl)) dX12_dropNots_48 ⟨Nat.le_of_ble_eq_true rfl, Nat.le_of_ble_eq_true rfl⟩) hS (fun q _ h9 => aM_up hS q h9) (aM_up hS) (fun u t H1 locs ht _ hw hB _ hk1 hS => ?_)
          obtain ⟨fv_56, wd_57, ar_58⟩ := u
          obtain ⟨hF_fv_56, hA_ar_58, fr_59, fa_60, p_53, p_54, p_55, -⟩ := hw
          have hP : va_P (dC, dI) vwCl (wsM h ad cA fv_56 wd_57 ar_58) H1 := by have h9 := hB.1; rw [ht] at h9; exact h9
          have fr_59 : fM [60] fv_39 fv_56 := fr_59
          have fa_60 : fA [54, 55, 56] ar_3 ar_58 := fa_60
          have p_55 : vM fv_56 ar_58 := p_55
          have p_53 : (fv_56 60).toInt = (fv_39 60).toInt + 1 := p_53
          have p_54 : ar_58 54 = upd (ar_3 54) (1200 + (fv_39 60).toInt.toNat) (12 : Int32) := p_54
          generalize H1 = H at hP hS ⊢
          have z_61 : 0 ≤ (fv_56 60).toInt ∧ (fv_56 60).toInt ≤ 120 := hF_fv_56 60
          have z_62 : (fv_56 61).toInt = v_23.toInt := congrArg Int32.toInt ((fr_59 61 rfl).trans ((congrFun efv_39 61).trans ((congrFun efv_33 61))))
          have z_63 : 0 ≤ (fv_56 61).toInt ∧ (fv_56 61).toInt ≤ 64 := hF_fv_56 61
          have z_64 : (fv_56 62).toInt = (fv 62).toInt := congrArg Int32.toInt ((fr_59 62 rfl).trans ((congrFun efv_39 62).trans ((congrFun efv_33 62).trans ((fr_2 62 rfl)))))
          have z_65 : 0 ≤ (fv_56 62).toInt ∧ (fv_56 62).toInt ≤ 50 := hF_fv_56 62
          have z_66 : (fv_56 63).toInt = v_35.toInt := congrArg Int32.toInt ((fr_59 63 rfl).trans ((congrFun efv_39 63)))
          have z_67 : (-100) ≤ (fv_56 63).toInt ∧ (fv_56 63).toInt ≤ 10 := hF_fv_56 63
          have hp_68 : cX FF g0 1 (fv_56 60).toInt (fv_56 61).toInt (fv_56 62).toInt (fv_56 63).toInt (ar_58 54) (ar_58 57) := cX_eq (cX_not (g1 := ar_58 54) hp_6 (by omega) pl9 (by decide) (p1 := (fv_56 60).toInt) (t1 := (fv_56 61).toInt) (o1 := (fv_56 62).toInt) (w1 := (fv_56 63).toInt) (by omega) (by omega) (by omega) (by omega) (i := _) (by omega) p_54) rfl rfl rfl rfl rfl ((fA_call (fA_rf [54, 55, 56] _) fa_60 (by decide)) 57 rfl)
          refine lv_goto (tgt := 0) hx hb dX12_dropNots_51 (by decide) ?_
          have z_69 : 0 ≤ (fv_56 60).toInt ∧ (fv_56 60).toInt ≤ 120 := hF_fv_56 60
          have z_70 : (fv_56 61).toInt = v_23.toInt := congrArg Int32.toInt ((fr_59 61 rfl).trans ((congrFun efv_39 61).trans ((congrFun efv_33 61))))
          have z_71 : 0 ≤ (fv_56 61).toInt ∧ (fv_56 61).toInt ≤ 64 := hF_fv_56 61
          exact ih_10 fv_56 ar_58 wd_57 _ _ ls (by omega) hF_fv_56 (fM_call (fM_put (fM_put (fM_call (fM_rf [60, 61, 63] _) fr_2 (by decide)) efv_33 (by decide)) efv_39 (by decide)) fr_59 (by decide)) hA_ar_58 (fA_call (fA_call (fA_rf [54, 55, 56] _) fa_4 (by decide)) fa_60 (by decide)) hp_68 p_55 (by omega) (by omega) hP hS (lv_sub hl [0] rfl)
  · skip
    have z_72 : 0 ≤ (fv 60).toInt ∧ (fv 60).toInt ≤ 120 := hF_fv 60
    have z_73 : 0 ≤ (fv 61).toInt ∧ (fv 61).toInt ≤ 64 := hF_fv 61
    exact hj_12 65 fv ar wd _ _ ls (by omega) hF_fv (fM_rf [60, 61, 63] _) hA_ar (fA_rf [54, 55, 56] _) hp_c1 hp_vM (hF_fv 61) (Int.le_refl _) hP hS (lv_sub hl [0] rfl)

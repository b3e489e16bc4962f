set_option maxHeartbeats 4000000 in
set_option maxRecDepth 100000 in
theorem m_orderTripsE (l : Launch) (dC : Nat → ClassId) (dI : Nat → Nat → Nat) (sz h : Nat) (ad : Nat → Nat) (cA : Nat → ClassId) (hd : dM h ad) (fv : Nat → Int32) (wd : Int64) (ar : Nat → Nat → Int32) (hF_fv : rF fv) (hA_ar : rA ar) (G9 : Nat → Int) (w9 : Nat → Int32) (hp_nR : mm_R G9 fv ar) : Met l yX12_orderTrips (.code yX12_orderTrips cX12_orderTrips 3 none :: lw_good) ({ frames := 3, cells := 0, slots := 0, locals := 61 }) (va_Pc [.ref h] (prM dC dI h ad cA fv wd ar sz)) (va_Qv (fun (u : mS) => rF u.1 ∧ rA u.2.2 ∧ fM [87] fv u.1 ∧ fA [83] ar u.2.2 ∧ (mo_or (mm_D w9 fv ar) (mo_gt (mm_D w9 fv ar)) ((fv 35).toInt.toNat) ((u.1 87).toInt.toNat) (u.2.2 83)) ∧ True) (enM dC dI h ad cA) (aM h ad sz)) 0 0 (aM h ad sz) := by
  refine Met.ofW (cc := cX12_orderTrips) (maxL := 3) (ret := none) (by decide) rfl ?_
  intro p e s m args below meth c s₁ B hml hv
  obtain ⟨rfl, hsz, hP, hK⟩ := hv
  have hx := B.exec
  have hb := B.bytes
  have hr := B.returns
  have hts := atoms_spec (ws := (.code yX12_orderTrips cX12_orderTrips 3 none :: lw_good)) B.pre
  have htg : ∀ w ∈ lw_good, w.before _ s = true := fun w hw => hts w (List.mem_cons_of_mem _ hw)
  have hown : s.vm.findClass RX12 = some m.cls := findClass_of_methodNamed B.named
  have hlocks := B.notSynchronized
  subst hsz
  have hS : va_S (aM h ad s.heap.size) s.heap s.heap [] := va_S.rf
  have hl := lv_entry ([.ref h]) (n := 3) (Nat.le_of_ble_eq_true rfl)
  rw [lg_entry_eq]
  generalize (lg_sl ([.ref h]) ++ List.replicate (3 - (lg_sl ([.ref h])).length) Slot.unset).toArray = ls at hl ⊢
  have hl : lv_has ls 3 [(0, .ref h)] := hl
  refine lv_aload_n hx hb dX12_orderTrips_0 rfl (lv_at hl 0 rfl) ?_
  refine lv_iconst (v := 0) hx hb dX12_orderTrips_1 (by decide) ?_
  refine pM_87 hx hb htg hown hK hP hS hd dX12_orderTrips_2 (fun H locs fv_1 efv_1 hP hS => ?_)
  have hF_fv_1 : rF fv_1 := rF_put hF_fv efv_1 (iv_w (⟨by decide, by decide⟩ : (0 : Int) ≤ (0 : Int32).toInt ∧ (0 : Int32).toInt ≤ 0) (by decide) (by decide))
  refine lv_sipush (v := 719) hx hb dX12_orderTrips_5 (by decide) ?_
  refine lv_istore_n (lv' := [(1, .int 719), (0, .ref h)]) hx hb dX12_orderTrips_8 rfl hl (by decide) rfl (fun ls hl => ?_)
  refine my_cut (P := fun R9 a9 Q9 => ∀ (n_11 : Nat) (x_2 : Int32) (fv_3 : Nat → Int32) (ar_5 : Nat → Nat → Int32) (wd_7 : Int64) (H : Heap) (locs : List Loc) (ls : Array Slot), x_2.toInt - (-1) < (n_11 : Int) → ((-1) ≤ x_2.toInt ∧ x_2.toInt ≤ 719) → rF fv_3 → fM [87] fv_1 fv_3 → rA ar_5 → fA [83] ar ar_5 → mm_R G9 fv_3 ar_5 → ((fv_3 87).toInt ≤ cO (ar 28) x_2.toInt 0 (fv 35).toInt.toNat) → (mo_or (mm_D w9 fv ar) (mm_og (mm_D w9 fv ar) (x_2.toInt) 0) ((fv 35).toInt.toNat) ((fv_3 87).toInt.toNat) (ar_5 83)) → va_P (dC, dI) vwCl (wsM h ad cA fv_3 wd_7 ar_5) H → va_S (aM h ad s.heap.size) s.heap H locs → lv_has ls 3 [(0, .ref h), (1, .int x_2)] → W p l e R9 s m a9 below meth c H locs 0 0 Q9 (F0 m 9 ls [])) ?_ (fun hj_13 => ?_)
  · intro n_11
    induction n_11 with
    | zero => intro x_2 fv_3 ar_5 wd_7 H locs ls fu_12 i_x_2 hF_fv_3 fr_4 hA_ar_5 fa_6 hp_8 q_9 q_10; exfalso; omega
    | succ n_11 ih_11 =>
      intro x_2 fv_3 ar_5 wd_7 H locs ls fu_12 i_x_2 hF_fv_3 fr_4 hA_ar_5 fa_6 hp_8 q_9 q_10 hP hS hl
      refine lv_iload_n hx hb dX12_orderTrips_9 rfl (lv_at hl 1 rfl) ?_
      refine lv_if_lt (tgt := 76) hx hb dX12_orderTrips_10 (by decide) (fun c_14 => ?_) (fun c_14 => ?_)
      · skip
        have i_15 : (-1) ≤ x_2.toInt ∧ x_2.toInt ≤ (-1) := iv_lt1 i_x_2 (⟨by decide, by decide⟩ : (0 : Int) ≤ (0 : Int32).toInt ∧ (0 : Int32).toInt ≤ 0) c_14
        exact W.vret hx hb hr (fun t ht hW => ⟨⟨(fv_3, wd_7, ar_5), rfl, ⟨hF_fv_3, hA_ar_5, (fM_call (fM_put (fM_rf [87] _) efv_1 (by decide)) fr_4 (by decide)), (fA_call (fA_rf [83] _) fa_6 (by decide)), (show mo_or (mm_D w9 fv ar) (mo_gt (mm_D w9 fv ar)) ((fv 35).toInt.toNat) ((fv_3 87).toInt.toNat) (ar_5 83) from mm_or_e (fun i => (hp_nR.1.2.2.1 i).1) q_10 (by omega)), trivial⟩, ⟨by rw [ht]; exact hP, va_K.moved hW.alike hK⟩⟩, hS.F ht⟩) hS.2.2 dX12_orderTrips_76
      · skip
        have i_16 : 0 ≤ x_2.toInt ∧ x_2.toInt ≤ 719 := iv_le2 (⟨by decide, by decide⟩ : (0 : Int) ≤ (0 : Int32).toInt ∧ (0 : Int32).toInt ≤ 0) i_x_2 (Int32.not_lt.mp c_14)
        refine lv_iconst (v := 0) hx hb dX12_orderTrips_13 (by decide) ?_
        refine lv_istore_n (lv' := [(2, .int 0), (0, .ref h), (1, .int x_2)]) hx hb dX12_orderTrips_14 rfl hl (by decide) rfl (fun ls hl => ?_)
        refine my_cut (P := fun R9 a9 Q9 => ∀ (n_26 : Nat) (x_17 : Int32) (fv_18 : Nat → Int32) (ar_20 : Nat → Nat → Int32) (wd_22 : Int64) (H : Heap) (locs : List Loc) (ls : Array Slot), 80 - x_17.toInt < (n_26 : Int) → (0 ≤ x_17.toInt ∧ x_17.toInt ≤ 80) → rF fv_18 → fM [87] fv_3 fv_18 → rA ar_20 → fA [83] ar_5 ar_20 → mm_R G9 fv_18 ar_20 → ((fv_18 87).toInt ≤ cO (ar 28) x_2.toInt x_17.toInt.toNat (fv 35).toInt.toNat) → (mo_or (mm_D w9 fv ar) (mm_og (mm_D w9 fv ar) (x_2.toInt) (x_17.toInt.toNat)) ((fv 35).toInt.toNat) ((fv_18 87).toInt.toNat) (ar_20 83)) → va_P (dC, dI) vwCl (wsM h ad cA fv_18 wd_22 ar_20) H → va_S (aM h ad s.heap.size) s.heap H locs → lv_has ls 3 [(0, .ref h), (1, .int x_2), (2, .int x_17)] → W p l e R9 s m a9 below meth c H locs 0 0 Q9 (F0 m 15 ls [])) ?_ (fun hj_28 => ?_)
        · intro n_26
          induction n_26 with
          | zero => intro x_17 fv_18 ar_20 wd_22 H locs ls fu_27 i_x_17 hF_fv_18 fr_19 hA_ar_20 fa_21 hp_23 q_24 q_25; exfalso; omega
          | succ n_26 ih_26 =>
            intro x_17 fv_18 ar_20 wd_22 H locs ls fu_27 i_x_17 hF_fv_18 fr_19 hA_ar_20 fa_21 hp_23 q_24 q_25 hP hS hl
            refine lv_iload_n hx hb dX12_orderTrips_15 rfl (lv_at hl 2 rfl) ?_
            refine lv_aload_n hx hb dX12_orderTrips_16 rfl (lv_at hl 0 rfl) ?_
            refine gM_35 hx hb htg hown hK hP dX12_orderTrips_17 ?_
            refine my_ti (y := fv 35) ((fr_19 35 rfl).trans ((fr_4 35 rfl).trans ((congrFun efv_1 35)))) ?_
            have i_29 : 0 ≤ (fv 35).toInt ∧ (fv 35).toInt ≤ 80 := hF_fv 35
            refine lv_icmp_ge (tgt := 70) hx hb dX12_orderTrips_20 (by decide) (fun c_30 => ?_) (fun c_30 => ?_)
            · skip
              have k_31 := Int32.le_iff_toInt_le.mp c_30
              obtain ⟨v_79, ev_79⟩ : ∃ z : Int32, z = x_2 + (-1) := ⟨_, rfl⟩
              refine lv_iinc (v := v_79) (lv' := [(1, .int v_79), (0, .ref h), (2, .int x_17)]) hx hb dX12_orderTrips_70 hl (k := 1) rfl (by rw [ev_79]; rfl) (by decide) rfl (fun ls hl => ?_)
              have t_80 : v_79.toInt = x_2.toInt + (-1) ∧ (-1) ≤ v_79.toInt ∧ v_79.toInt ≤ 718 := iv_addc ev_79 i_16 (by decide) (by decide) (by decide)
              refine lv_goto (tgt := 9) hx hb dX12_orderTrips_73 (by decide) ?_
              have z_85 : 0 ≤ (fv_18 87).toInt ∧ (fv_18 87).toInt ≤ 80 := hF_fv_18 87
              exact ih_11 v_79 fv_18 ar_20 wd_22 _ _ ls (by omega) (iv_w t_80.2 (by decide) (by decide)) hF_fv_18 (fM_call (fM_call (fM_rf [87] _) fr_4 (by decide)) fr_19 (by decide)) hA_ar_20 (fA_call (fA_call (fA_rf [83] _) fa_6 (by decide)) fa_21 (by decide)) hp_23 (by have h9 := cO_next (ar 28) x_2.toInt (x_17.toInt.toNat) (fv 35).toInt.toNat (by omega); rw [show v_79.toInt = x_2.toInt - 1 from by omega]; omega) (mm_or_d q_25 (by omega) (by omega)) hP hS (lv_sub hl [1, 0] rfl)
            · skip
              have i_32 : 0 ≤ x_17.toInt ∧ x_17.toInt ≤ 79 := iv_lt1 i_x_17 i_29 (Int32.not_le.mp c_30)
              have i_33 : 1 ≤ (fv 35).toInt ∧ (fv 35).toInt ≤ 80 := iv_lt2 i_x_17 i_29 (Int32.not_le.mp c_30)
              have k_34 := Int32.lt_iff_toInt_lt.mp (Int32.not_le.mp c_30)
              refine lv_aload_n hx hb dX12_orderTrips_23 rfl (lv_at hl 0 rfl) ?_
              refine gM_28 hx hb htg hown hK hP dX12_orderTrips_24 ?_
              refine lv_iload_n hx hb dX12_orderTrips_27 rfl (lv_at hl 2 rfl) ?_
              refine lM_28 hx hb hK hP (iv_in i_32 (by decide) (by decide)) dX12_orderTrips_28 (fun v_35 ev_35 => ?_)
              refine lv_iload_n hx hb dX12_orderTrips_29 rfl (lv_at hl 1 rfl) ?_
              refine my_cut (P := fun R9 a9 Q9 => ∀ (fv_62 : Nat → Int32) (ar_64 : Nat → Nat → Int32) (wd_66 : Int64) (H : Heap) (locs : List Loc) (ls : Array Slot), rF fv_62 → fM [87] fv_18 fv_62 → rA ar_64 → fA [83] ar_20 ar_64 → mm_R G9 fv_62 ar_64 → ((fv_62 87).toInt ≤ cO (ar 28) x_2.toInt (x_17.toInt.toNat + 1) (fv 35).toInt.toNat) → (mo_or (mm_D w9 fv ar) (mm_og (mm_D w9 fv ar) (x_2.toInt) (x_17.toInt.toNat + 1)) ((fv 35).toInt.toNat) ((fv_62 87).toInt.toNat) (ar_64 83)) → va_P (dC, dI) vwCl (wsM h ad cA fv_62 wd_66 ar_64) H → va_S (aM h ad s.heap.size) s.heap H locs → lv_has ls 3 [(0, .ref h), (1, .int x_2), (2, .int x_17)] → W p l e R9 s m a9 below meth c H locs 0 0 Q9 (F0 m 64 ls [])) ?_ (fun hj_70 => ?_)
              · intro fv_62 ar_64 wd_66 H locs ls hF_fv_62 fr_63 hA_ar_64 fa_65 hp_67 q_68 q_69 hP hS hl
                obtain ⟨v_71, ev_71⟩ : ∃ z : Int32, z = x_17 + 1 := ⟨_, rfl⟩
                refine lv_iinc (v := v_71) (lv' := [(2, .int v_71), (0, .ref h), (1, .int x_2)]) hx hb dX12_orderTrips_64 hl (k := 2) rfl (by rw [ev_71]; rfl) (by decide) rfl (fun ls hl => ?_)
                have t_72 : v_71.toInt = x_17.toInt + 1 ∧ 1 ≤ v_71.toInt ∧ v_71.toInt ≤ 80 := iv_addc ev_71 i_32 (by decide) (by decide) (by decide)
                refine lv_goto (tgt := 15) hx hb dX12_orderTrips_67 (by decide) ?_
                have z_82 : 0 ≤ (fv_62 87).toInt ∧ (fv_62 87).toInt ≤ 80 := hF_fv_62 87
                exact ih_26 v_71 fv_62 ar_64 wd_66 _ _ ls (by omega) (iv_w t_72.2 (by decide) (by decide)) hF_fv_62 (fM_call (fM_call (fM_rf [87] _) fr_19 (by decide)) fr_63 (by decide)) hA_ar_64 (fA_call (fA_call (fA_rf [83] _) fa_21 (by decide)) fa_65 (by decide)) hp_67 (by rw [show v_71.toInt.toNat = x_17.toInt.toNat + 1 from by omega]; omega) (by rw [show v_71.toInt.toNat = x_17.toInt.toNat + 1 from by omega]; exact q_69) hP hS (lv_sub hl [1, 2, 0] rfl)
              · skip
                refine lv_icmp_ne (tgt := 64) hx hb dX12_orderTrips_30 (by decide) (fun c_36 => ?_) (fun c_36 => ?_)
                · skip
                  have k_37 : ¬ v_35.toInt = x_2.toInt := fun q => c_36 (Int32.toInt_inj.mp q)
                  have z_74 : 0 ≤ (fv_18 87).toInt ∧ (fv_18 87).toInt ≤ 80 := hF_fv_18 87
                  exact hj_70 fv_18 ar_20 wd_22 _ _ ls hF_fv_18 (fM_rf [87] _) hA_ar_20 (fA_rf [83] _) hp_23 (by have h8 := cO_mono (ar 28) x_2.toInt x_17.toInt.toNat (fv 35).toInt.toNat; omega) (by have hm9 : (mm_D w9 fv ar) 14 (x_17.toInt.toNat) = v_35 := (by show ar 28 _ = _; exact ((show v_35 = ar 28 (x_17.toInt.toNat) from by rw [ev_35, show ar_20 28 = ar 28 from ((fA_call (fA_call (fA_rf [83] _) fa_6 (by decide)) fa_21 (by decide)) 28 rfl)]; exact congrArg (ar 28) (show x_17.toInt.toNat = (x_17.toInt.toNat) from by omega))).symm); exact mm_or_n q_25 (fun w9_ => by have w1 := w9_.1; rw [hm9] at w1; omega)) hP hS (lv_sub hl [0, 1, 2] rfl)
                · skip
                  have i_38 : 0 ≤ v_35.toInt ∧ v_35.toInt ≤ 719 := iv_eq1 i_16 c_36
                  have k_39 := congrArg Int32.toInt c_36
                  refine lv_aload_n hx hb dX12_orderTrips_33 rfl (lv_at hl 0 rfl) ?_
                  refine lv_iload_n hx hb dX12_orderTrips_34 rfl (lv_at hl 2 rfl) ?_
                  refine va_calli (va_runV (As := [.int x_17]) (rest := []) ⟨hx, hb, hml, hown, hts⟩ (m_runsTodayE l dC dI H.size h ad cA hd fv_18 wd_22 ar_20 hF_fv_18 hA_ar_20 w9 x_17 i_32) (cwV 1 hts (gV kw_8_180 kw_8_182 kw_p_85 kw_1_15 kw_8_183) rfl rfl rfl (by decide +kernel) ⟨Nat.le_of_ble_eq_true rfl, Nat.le_of_ble_eq_true rfl⟩) ⟨fun a U g mk q => ⟨q.1, q.2.1, q.2.2.1, va_K.moved (u := U) (U := U.calling g mk a) (Vm.Alike.refl U.vm) q.2.2.2⟩, va_recv hK hP (ci := 12) (q0 := 0) rfl rfl, fun U hU hW => ⟨rfl, by rw [hU], by rw [hU]; exact hP, va_K.moved hW.alike hK⟩⟩ rfl rfl hl.1 rfl (lv_room (Nat.le_of_ble_eq_true rfl)) dX12_orderTrips_35 ⟨Nat.le_of_ble_eq_true rfl, Nat.le_of_ble_eq_true rfl⟩) hS (fun q _ h9 => aM_up hS q h9) (aM_up hS) (fun r_40 u t H1 locs ht _ hw hB _ hk1 hS => ?_)
                  obtain ⟨fv_43, wd_44, ar_45⟩ := u
                  obtain ⟨hF_fv_43, hA_ar_45, fr_46, fa_47, p_41, p_42, -⟩ := hw
                  have hP : va_P (dC, dI) vwCl (wsM h ad cA fv_43 wd_44 ar_45) H1 := by have h9 := hB.1; rw [ht] at h9; exact h9
                  have fr_46 : fM [] fv_18 fv_43 := fr_46
                  have fa_47 : fA [] ar_20 ar_45 := fa_47
                  generalize H1 = H at hP hS ⊢
                  rcases p_42 with ⟨rfl, p_42⟩ | ⟨rfl, p_42⟩
                  · skip
                    have q_48 : ¬ mo_gt (mm_D w9 fv_18 ar_20) (x_17.toInt.toNat) := p_42
                    refine lv_if_ne (tgt := 44) hx hb dX12_orderTrips_38 (by decide) (fun c_49 => ?_) (fun c_49 => ?_)
                    · skip
                      exact absurd c_49 (by decide)
                    · skip
                      refine lv_goto (tgt := 64) hx hb dX12_orderTrips_41 (by decide) ?_
                      have z_75 : (fv_43 87).toInt = (fv_18 87).toInt := congrArg Int32.toInt ((fr_46 87 rfl))
                      have z_76 : 0 ≤ (fv_43 87).toInt ∧ (fv_43 87).toInt ≤ 80 := hF_fv_43 87
                      exact hj_70 fv_43 ar_45 wd_44 _ _ ls hF_fv_43 (fM_call (fM_rf [87] _) fr_46 (by decide)) hA_ar_45 (fA_call (fA_rf [83] _) fa_47 (by decide)) (mm_R_fr hp_23 (fM_call (fM_rf [] _) fr_46 (by decide)) (fA_call (fA_rf [] _) fa_47 (by decide)) rfl rfl rfl rfl rfl rfl rfl rfl rfl rfl rfl) (by have h8 := cO_mono (ar 28) x_2.toInt x_17.toInt.toNat (fv 35).toInt.toNat; omega) (by have hm9 : (mm_D w9 fv ar) 14 (x_17.toInt.toNat) = v_35 := (by show ar 28 _ = _; exact ((show v_35 = ar 28 (x_17.toInt.toNat) from by rw [ev_35, show ar_20 28 = ar 28 from ((fA_call (fA_call (fA_rf [83] _) fa_6 (by decide)) fa_21 (by decide)) 28 rfl)]; exact congrArg (ar 28) (show x_17.toInt.toNat = (x_17.toInt.toNat) from by omega))).symm); rw [show ar_45 83 = ar_20 83 from ((fA_call (fA_rf [] _) fa_47 (by decide)) 83 rfl)]; rw [show fv_43 87 = fv_18 87 from ((fM_call (fM_rf [] _) fr_46 (by decide)) 87 rfl)]; exact mm_or_n q_25 (fun w9_ => by exact absurd w9_.2 (by have h9 := q_48; rw [show mm_D w9 fv_18 ar_20 = mm_D w9 fv ar from (mm_D_fr (fM_call (fM_call (fM_put (fM_rf [87] _) efv_1 (by decide)) fr_4 (by decide)) fr_19 (by decide)) (fA_call (fA_call (fA_rf [83] _) fa_6 (by decide)) fa_21 (by decide)) rfl rfl)] at h9; exact h9))) hP hS (lv_sub hl [0, 1, 2] rfl)
                  · skip
                    have q_50 : mo_gt (mm_D w9 fv_18 ar_20) (x_17.toInt.toNat) := p_42
                    refine lv_if_ne (tgt := 44) hx hb dX12_orderTrips_38 (by decide) (fun c_51 => ?_) (fun c_51 => ?_)
                    · skip
                      have hk9 : (ar 28 x_17.toInt.toNat).toInt = x_2.toInt := by rw [← ((fA_call (fA_call (fA_rf [83] _) fa_6 (by decide)) fa_21 (by decide)) 28 rfl)]; show (ar_20 28 x_17.toNatClampNeg).toInt = _; rw [← ev_35]; omega
                      have st9 := cO_step (ar 28) x_2.toInt x_17.toInt.toNat hk9 (fv 35).toInt.toNat (by omega)
                      have le9 := cO_le (ar 28) x_2.toInt (x_17.toInt.toNat + 1) (fv 35).toInt.toNat
                      have z35 : (0 : Int) ≤ (fv 35).toInt ∧ (fv 35).toInt ≤ 80 := hF_fv 35
                      have z_53 : (fv_43 87).toInt = (fv_18 87).toInt := congrArg Int32.toInt ((fr_46 87 rfl))
                      have z_54 : 0 ≤ (fv_43 87).toInt ∧ (fv_43 87).toInt ≤ 80 := hF_fv_43 87
                      refine lv_aload_n hx hb dX12_orderTrips_44 rfl (lv_at hl 0 rfl) ?_
                      refine gM_83 hx hb htg hown hK hP dX12_orderTrips_45 ?_
                      refine lv_aload_n hx hb dX12_orderTrips_48 rfl (lv_at hl 0 rfl) ?_
                      refine gM_87 hx hb htg hown hK hP dX12_orderTrips_49 ?_
                      refine my_ti (y := fv_18 87) ((fr_46 87 rfl)) ?_
                      have i_55 : 0 ≤ (fv_18 87).toInt ∧ (fv_18 87).toInt ≤ 80 := hF_fv_18 87
                      refine lv_iload_n hx hb dX12_orderTrips_52 rfl (lv_at hl 2 rfl) ?_
                      refine sM_83 hx hb hK hP hS hd (vp_in_iff.mpr (by omega)) dX12_orderTrips_53 (fun H locs ar_56 ear_56 hP hS => ?_)
                      have hA_ar_56 : rA ar_56 := rA_put hA_ar_45 ear_56 i_32
                      refine lv_aload_n hx hb dX12_orderTrips_54 rfl (lv_at hl 0 rfl) ?_
                      refine lv_dup hx hb dX12_orderTrips_55 rfl ?_
                      refine gM_87 hx hb htg hown hK hP dX12_orderTrips_56 ?_
                      refine my_ti (y := fv_18 87) ((fr_46 87 rfl)) ?_
                      refine lv_iconst (v := 1) hx hb dX12_orderTrips_59 (by decide) ?_
                      refine lv_iadd hx hb dX12_orderTrips_60 ?_
                      refine lv_topi (fun v_57 ev_57 => ?_)
                      have t_58 : v_57.toInt = (fv_18 87).toInt + 1 ∧ 1 ≤ v_57.toInt ∧ v_57.toInt ≤ 81 := iv_addc ev_57 i_55 (by decide) (by decide) (by decide)
                      have i_60 : 0 ≤ v_57.toInt ∧ v_57.toInt ≤ 80 := (by omega)
                      refine pM_87 hx hb htg hown hK hP hS hd dX12_orderTrips_61 (fun H locs fv_61 efv_61 hP hS => ?_)
                      have hF_fv_61 : rF fv_61 := rF_put hF_fv_43 efv_61 i_60
                      have z_77 : (fv_61 87).toInt = v_57.toInt := congrArg Int32.toInt ((congrFun efv_61 87))
                      have z_78 : 0 ≤ (fv_61 87).toInt ∧ (fv_61 87).toInt ≤ 80 := hF_fv_61 87
                      exact hj_70 fv_61 ar_56 wd_44 _ _ ls hF_fv_61 (fM_put (fM_call (fM_rf [87] _) fr_46 (by decide)) efv_61 (by decide)) hA_ar_56 (fA_put (fA_call (fA_rf [83] _) fa_47 (by decide)) ear_56 (by decide)) (mm_R_fr hp_23 (fM_put (fM_call (fM_rf [87] _) fr_46 (by decide)) efv_61 (by decide)) (fA_put (fA_call (fA_rf [83] _) fa_47 (by decide)) ear_56 (by decide)) rfl rfl rfl rfl rfl rfl rfl rfl rfl rfl rfl) (by have h8 := cO_mono (ar 28) x_2.toInt x_17.toInt.toNat (fv 35).toInt.toNat; omega) (by have hm9 : (mm_D w9 fv ar) 14 (x_17.toInt.toNat) = v_35 := (by show ar 28 _ = _; exact ((show v_35 = ar 28 (x_17.toInt.toNat) from by rw [ev_35, show ar_20 28 = ar 28 from ((fA_call (fA_call (fA_rf [83] _) fa_6 (by decide)) fa_21 (by decide)) 28 rfl)]; exact congrArg (ar 28) (show x_17.toInt.toNat = (x_17.toInt.toNat) from by omega))).symm); have h87 : (fv_61 87).toInt.toNat = (fv_18 87).toInt.toNat + 1 := (by rw [show fv_61 87 = v_57 from (congrFun efv_61 87)]; omega); rw [h87]; exact mm_or_y q_25 (by omega) (by rw [hm9]; omega) (by have h9 := q_50; rw [show mm_D w9 fv_18 ar_20 = mm_D w9 fv ar from (mm_D_fr (fM_call (fM_call (fM_put (fM_rf [87] _) efv_1 (by decide)) fr_4 (by decide)) fr_19 (by decide)) (fA_call (fA_call (fA_rf [83] _) fa_6 (by decide)) fa_21 (by decide)) rfl rfl)] at h9; exact h9) (fun i9 => by rw [ear_56]; show (if i9 = Int32.toNatClampNeg (fv_18 87) then x_17 else ar_45 83 i9) = _; rw [show ar_45 83 = ar_20 83 from ((fA_call (fA_rf [] _) fa_47 (by decide)) 83 rfl)]; rfl) (by omega)) hP hS (lv_sub hl [0, 1, 2] rfl)
                    · skip
                      exact absurd c_51 (by decide)
        · skip
          have z_83 : (0 : Int32).toInt = 0 := by decide
          have z_84 : 0 ≤ (fv_3 87).toInt ∧ (fv_3 87).toInt ≤ 80 := hF_fv_3 87
          exact hj_28 81 0 fv_3 ar_5 wd_7 _ _ ls (by first | decide | omega) (iv_w (⟨by decide, by decide⟩ : (0 : Int) ≤ (0 : Int32).toInt ∧ (0 : Int32).toInt ≤ 0) (by decide) (by decide)) hF_fv_3 (fM_rf [87] _) hA_ar_5 (fA_rf [83] _) hp_8 (by show _ ≤ ((cO (ar 28) x_2.toInt 0 (fv 35).toInt.toNat : Nat) : Int); omega) (by rw [show (0 : Int32).toInt.toNat = 0 from by decide]; exact q_10) hP hS (lv_sub hl [1, 2, 0] rfl)
  · skip
    have z_86 : (719 : Int32).toInt = 719 := by decide
    have z_87 : (fv_1 87).toInt = (0 : Int32).toInt := congrArg Int32.toInt ((congrFun efv_1 87))
    have z_88 : (0 : Int32).toInt = 0 := by decide
    have z_89 : 0 ≤ (fv_1 87).toInt ∧ (fv_1 87).toInt ≤ 80 := hF_fv_1 87
    exact hj_13 721 719 fv_1 ar wd _ _ ls (by first | decide | omega) (iv_w (⟨by decide, by decide⟩ : (719 : Int) ≤ (719 : Int32).toInt ∧ (719 : Int32).toInt ≤ 719) (by decide) (by decide)) hF_fv_1 (fM_rf [87] _) hA_ar (fA_rf [83] _) (mm_R_fr hp_nR (fM_put (fM_rf [87] _) efv_1 (by decide)) (fA_rf [] _) rfl rfl rfl rfl rfl rfl rfl rfl rfl rfl rfl) (by omega) (by rw [show (fv_1 87).toInt.toNat = 0 from by rw [show fv_1 87 = (0 : Int32) from (congrFun efv_1 87)]; decide, show ((719 : Int32).toInt) = 719 from by decide]; exact mm_or_i (fun i => (hp_nR.1.2.2.1 i).2)) hP hS (lv_sub hl [1, 0] rfl)
set_option maxHeartbeats 4000000 in
set_option maxRecDepth 100000 in
theorem m_reckonWaysE (l : Launch) (dC : Nat → ClassId) (dI : Nat → Nat → Nat) (sz h : Nat) (ad : Nat → Nat) (cA : Nat → ClassId) (hd : dM h ad) (fv : Nat → Int32) (wd : Int64) (ar : Nat → Nat → Int32) (hF_fv : rF fv) (hA_ar : rA ar) (G9 : Nat → Int) (w9 : Nat → Int32) (pp : Int32) (h_pp : 0 ≤ pp.toInt ∧ pp.toInt ≤ 39) (hor : mo_or (mm_D w9 fv ar) (mo_gt (mm_D w9 fv ar)) ((fv 35).toInt.toNat) ((fv 87).toInt.toNat) (ar 83)) (hp_nR : mm_R G9 fv ar) (hp_mF : wt_fm G9 (fv 8) (ar 4)) : Met l yX12_reckonWays (.code yX12_reckonWays cX12_reckonWays 8 none :: lw_good) ({ frames := 6, cells := 0, slots := 0, locals := 128 }) (va_Pc [.ref h, .int pp] (prM dC dI h ad cA fv wd ar sz)) (va_Qv (fun (u : mS) => rF u.1 ∧ rA u.2.2 ∧ fM [8] fv u.1 ∧ fA [4, 82] ar u.2.2 ∧ (mo_mr (mm_D w9 fv ar) G9 (pp.toInt.toNat) (mo_pc (mm_D w9 fv ar) (ar 15 (pp.toInt.toNat)) (pp.toInt.toNat)) ((fv 87).toInt.toNat) (ar 83) (u.2.2 82) ∧ mm_ra ((fv 87).toInt.toNat) (ar 83) (u.2.2 82)) ∧ (wt_fm G9 (u.1 8) (u.2.2 4)) ∧ True) (enM dC dI h ad cA) (aM h ad sz)) 0 0 (aM h ad sz) := by
  refine Met.ofW (cc := cX12_reckonWays) (maxL := 8) (ret := none) (by decide) rfl ?_
  intro p e s m args below meth c s₁ B hml hv
  obtain ⟨rfl, hsz, hP, hK⟩ := hv
  have hx := B.exec
  have hb := B.bytes
  have hr := B.returns
  have hts := atoms_spec (ws := (.code yX12_reckonWays cX12_reckonWays 8 none :: lw_good)) B.pre
  have htg : ∀ w ∈ lw_good, w.before _ s = true := fun w hw => hts w (List.mem_cons_of_mem _ hw)
  have hown : s.vm.findClass RX12 = some m.cls := findClass_of_methodNamed B.named
  have hlocks := B.notSynchronized
  subst hsz
  have hS : va_S (aM h ad s.heap.size) s.heap s.heap [] := va_S.rf
  have hl := lv_entry ([.ref h, .int pp]) (n := 8) (Nat.le_of_ble_eq_true rfl)
  rw [lg_entry_eq]
  generalize (lg_sl ([.ref h, .int pp]) ++ List.replicate (8 - (lg_sl ([.ref h, .int pp])).length) Slot.unset).toArray = ls at hl ⊢
  have hl : lv_has ls 8 [(0, .ref h), (1, .int pp)] := hl
  refine lv_iconst (v := 0) hx hb dX12_reckonWays_0 (by decide) ?_
  refine lv_istore_n (lv' := [(2, .int 0), (0, .ref h), (1, .int pp)]) hx hb dX12_reckonWays_1 rfl hl (by decide) rfl (fun ls hl => ?_)
  refine my_cut (P := fun R9 a9 Q9 => ∀ (n_11 : Nat) (x_1 : Int32) (fv_2 : Nat → Int32) (ar_4 : Nat → Nat → Int32) (wd_6 : Int64) (H : Heap) (locs : List Loc) (ls : Array Slot), 80 - x_1.toInt < (n_11 : Int) → (0 ≤ x_1.toInt ∧ x_1.toInt ≤ 80) → rF fv_2 → fM [8] fv fv_2 → rA ar_4 → fA [4, 82] ar ar_4 → wt_fm G9 (fv_2 8) (ar_4 4) → mm_R G9 fv_2 ar_4 → (mo_mr (mm_D w9 fv ar) G9 (pp.toInt.toNat) (mo_pc (mm_D w9 fv ar) (ar 15 (pp.toInt.toNat)) (pp.toInt.toNat)) (x_1.toInt.toNat) (ar 83) (ar_4 82) ∧ mm_ra (x_1.toInt.toNat) (ar 83) (ar_4 82)) → (x_1.toInt ≤ (fv 87).toInt) → va_P (dC, dI) vwCl (wsM h ad cA fv_2 wd_6 ar_4) H → va_S (aM h ad s.heap.size) s.heap H locs → lv_has ls 8 [(0, .ref h), (1, .int pp), (2, .int x_1)] → W p l e R9 s m a9 below meth c H locs 0 0 Q9 (F0 m 2 ls [])) ?_ (fun hj_13 => ?_)
  · intro n_11
    induction n_11 with
    | zero => intro x_1 fv_2 ar_4 wd_6 H locs ls fu_12 i_x_1 hF_fv_2 fr_3 hA_ar_4 fa_5 hp_7 hp_8 q_9 q_10; exfalso; omega
    | succ n_11 ih_11 =>
      intro x_1 fv_2 ar_4 wd_6 H locs ls fu_12 i_x_1 hF_fv_2 fr_3 hA_ar_4 fa_5 hp_7 hp_8 q_9 q_10 hP hS hl
      refine lv_iload_n hx hb dX12_reckonWays_2 rfl (lv_at hl 2 rfl) ?_
      refine lv_aload_n hx hb dX12_reckonWays_3 rfl (lv_at hl 0 rfl) ?_
      refine gM_87 hx hb htg hown hK hP dX12_reckonWays_4 ?_
      refine my_ti (y := fv 87) ((fr_3 87 rfl)) ?_
      have i_14 : 0 ≤ (fv 87).toInt ∧ (fv 87).toInt ≤ 80 := hF_fv 87
      refine lv_icmp_ge (tgt := 190) hx hb dX12_reckonWays_7 (by decide) (fun c_15 => ?_) (fun c_15 => ?_)
      · skip
        have k_16 := Int32.le_iff_toInt_le.mp c_15
        exact W.vret hx hb hr (fun t ht hW => ⟨⟨(fv_2, wd_6, ar_4), rfl, ⟨hF_fv_2, hA_ar_4, (fM_call (fM_rf [8] _) fr_3 (by decide)), (fA_call (fA_rf [4, 82] _) fa_5 (by decide)), (show mo_mr (mm_D w9 fv ar) G9 (pp.toInt.toNat) (mo_pc (mm_D w9 fv ar) (ar 15 (pp.toInt.toNat)) (pp.toInt.toNat)) ((fv 87).toInt.toNat) (ar 83) (ar_4 82) ∧ mm_ra ((fv 87).toInt.toNat) (ar 83) (ar_4 82) from by have h9 := q_9; rw [show x_1.toInt.toNat = ((fv 87).toInt.toNat) from by omega] at h9; exact h9), hp_7, trivial⟩, ⟨by rw [ht]; exact hP, va_K.moved hW.alike hK⟩⟩, hS.F ht⟩) hS.2.2 dX12_reckonWays_190
      · skip
        have i_17 : 0 ≤ x_1.toInt ∧ x_1.toInt ≤ 79 := iv_lt1 i_x_1 i_14 (Int32.not_le.mp c_15)
        have i_18 : 1 ≤ (fv 87).toInt ∧ (fv 87).toInt ≤ 80 := iv_lt2 i_x_1 i_14 (Int32.not_le.mp c_15)
        have k_19 := Int32.lt_iff_toInt_lt.mp (Int32.not_le.mp c_15)
        refine lv_aload_n hx hb dX12_reckonWays_10 rfl (lv_at hl 0 rfl) ?_
        refine gM_83 hx hb htg hown hK hP dX12_reckonWays_11 ?_
        refine lv_iload_n hx hb dX12_reckonWays_14 rfl (lv_at hl 2 rfl) ?_
        refine lM_83 hx hb hK hP (iv_in i_17 (by decide) (by decide)) dX12_reckonWays_15 (fun v_20 ev_20 => ?_)
        have i_21 : 0 ≤ v_20.toInt ∧ v_20.toInt ≤ 79 := ev_20 ▸ hA_ar_4 83 _
        refine lv_istore_n (lv' := [(3, .int v_20), (0, .ref h), (1, .int pp), (2, .int x_1)]) hx hb dX12_reckonWays_16 rfl hl (by decide) rfl (fun ls hl => ?_)
        refine lv_aload_n hx hb dX12_reckonWays_17 rfl (lv_at hl 1 rfl) ?_
        refine gM_82 hx hb htg hown hK hP dX12_reckonWays_18 ?_
        refine lv_iload_n hx hb dX12_reckonWays_21 rfl (lv_at hl 0 rfl) ?_
        refine lv_ldc hx hb hown (htg (.constant RX12 225 100000) kw_7_232) dX12_reckonWays_22 ?_
        refine sM_82 hx hb hK hP hS hd (iv_in i_21 (by decide) (by decide)) dX12_reckonWays_24 (fun H locs ar_22 ear_22 hP hS => ?_)
        have hA_ar_22 : rA ar_22 := rA_put hA_ar_4 ear_22 (iv_any _)
        refine lv_aload_n hx hb dX12_reckonWays_25 rfl (lv_at hl 1 rfl) ?_
        refine lv_iload_n hx hb dX12_reckonWays_26 rfl (lv_at hl 2 rfl) ?_
        refine lv_iload_n hx hb dX12_reckonWays_27 rfl (lv_at hl 0 rfl) ?_
        refine va_calli (va_runV (As := [.int pp, .int v_20]) (rest := []) ⟨hx, hb, hml, hown, hts⟩ (m_isHeardE l dC dI H.size h ad cA hd fv_2 wd_6 ar_22 hF_fv_2 hA_ar_22 G9 w9 pp v_20 h_pp i_21 (mm_R_fr hp_8 (fM_rf [] _) (fA_put (fA_rf [82] _) ear_22 (by decide)) rfl rfl rfl rfl rfl rfl rfl rfl rfl rfl rfl) (mF_fr hp_7 (fM_rf [] _) (fA_put (fA_rf [82] _) ear_22 (by decide)) rfl rfl)) (cwV 2 hts (gV kw_8_196 kw_8_198 kw_p_89 kw_1_15 kw_8_199) rfl rfl rfl (by decide +kernel) ⟨Nat.le_of_ble_eq_true rfl, Nat.le_of_ble_eq_true rfl⟩) ⟨fun a U g mk q => ⟨q.1, q.2.1, q.2.2.1, va_K.moved (u := U) (U := U.calling g mk a) (Vm.Alike.refl U.vm) q.2.2.2⟩, va_recv hK hP (ci := 12) (q0 := 0) rfl rfl, fun U hU hW => ⟨rfl, by rw [hU], by rw [hU]; exact hP, va_K.moved hW.alike hK⟩⟩ rfl rfl hl.1 rfl (lv_room (Nat.le_of_ble_eq_true rfl)) dX12_reckonWays_28 ⟨Nat.le_of_ble_eq_true rfl, Nat.le_of_ble_eq_true rfl⟩) hS (fun q _ h9 => aM_up hS q h9) (aM_up hS) (fun r_23 u t H1 locs ht _ hw hB _ hk1 hS => ?_)
        obtain ⟨fv_27, wd_28, ar_29⟩ := u
        obtain ⟨hF_fv_27, hA_ar_29, fr_30, fa_31, p_24, p_25, p_26, -⟩ := hw
        have hP : va_P (dC, dI) vwCl (wsM h ad cA fv_27 wd_28 ar_29) H1 := by have h9 := hB.1; rw [ht] at h9; exact h9
        have fr_30 : fM [8] fv_2 fv_27 := fr_30
        have fa_31 : fA [4] ar_22 ar_29 := fa_31
        have p_26 : wt_fm G9 (fv_27 8) (ar_29 4) := p_26
        generalize H1 = H at hP hS ⊢
        rcases p_25 with ⟨rfl, p_25⟩ | ⟨rfl, p_25⟩
        · skip
          have q_32 : ¬ mo_g (mm_D w9 fv_2 ar_22) G9 (pp.toInt.toNat) (v_20.toInt.toNat) := p_25
          refine lv_if_ne (tgt := 37) hx hb dX12_reckonWays_31 (by decide) (fun c_33 => ?_) (fun c_33 => ?_)
          · skip
            exact absurd c_33 (by decide)
          · skip
            refine lv_goto (tgt := 184) hx hb dX12_reckonWays_34 (by decide) ?_
            obtain ⟨v_34, ev_34⟩ : ∃ z : Int32, z = x_1 + 1 := ⟨_, rfl⟩
            refine lv_iinc (v := v_34) (lv' := [(2, .int v_34), (3, .int v_20), (0, .ref h), (1, .int pp)]) hx hb dX12_reckonWays_184 hl (k := 3) rfl (by rw [ev_34]; rfl) (by decide) rfl (fun ls hl => ?_)
            have t_35 : v_34.toInt = x_1.toInt + 1 ∧ 1 ≤ v_34.toInt ∧ v_34.toInt ≤ 80 := iv_addc ev_34 i_17 (by decide) (by decide) (by decide)
            refine lv_goto (tgt := 2) hx hb dX12_reckonWays_187 (by decide) ?_
            have z_197 : (fv_27 87).toInt = (fv 87).toInt := congrArg Int32.toInt ((fr_30 87 rfl).trans ((fr_3 87 rfl)))
            have z_198 : 0 ≤ (fv_27 87).toInt ∧ (fv_27 87).toInt ≤ 80 := hF_fv_27 87
            exact ih_11 v_34 fv_27 ar_29 wd_28 _ _ ls (by omega) (iv_w t_35.2 (by decide) (by decide)) hF_fv_27 (fM_call (fM_call (fM_rf [8] _) fr_3 (by decide)) fr_30 (by decide)) hA_ar_29 (fA_call (fA_put (fA_call (fA_rf [4, 82] _) fa_5 (by decide)) ear_22 (by decide)) fa_31 (by decide)) p_26 (mm_R_fr hp_8 (fM_call (fM_rf [8] _) fr_30 (by decide)) (fA_call (fA_put (fA_rf [4, 82] _) ear_22 (by decide)) fa_31 (by decide)) rfl rfl rfl rfl rfl rfl rfl rfl rfl rfl rfl) (by rw [show v_34.toInt.toNat = (x_1.toInt.toNat) + 1 from by omega]; have hk9 := (show ar 83 (x_1.toInt.toNat) = v_20 from by rw [ev_20, show ar_4 83 = ar 83 from ((fA_call (fA_rf [4, 82] _) fa_5 (by decide)) 83 rfl)]; exact congrArg (ar 83) (show (x_1.toInt.toNat) = x_1.toInt.toNat from by omega)); exact mm_it_n (v := (100000 : Int32)) hor (by omega) q_9 (by rw [hk9]; exact (show ¬ mo_g (mm_D w9 fv ar) G9 (pp.toInt.toNat) (v_20.toInt.toNat) from (by have h9 := q_32; rw [show mm_D w9 fv_2 ar_22 = mm_D w9 fv ar from (mm_D_fr (fM_call (fM_rf [8] _) fr_3 (by decide)) (fA_put (fA_call (fA_rf [4, 82] _) fa_5 (by decide)) ear_22 (by decide)) rfl rfl)] at h9; exact h9))) (by rw [hk9]; exact (fun i9 => by rw [show ar_29 82 = ar_22 82 from ((fA_call (fA_rf [4] _) fa_31 (by decide)) 82 rfl), ear_22]; show (if i9 = Int32.toNatClampNeg v_20 then (100000 : Int32) else ar_4 82 i9) = _; rfl)) (by decide)) (by omega) hP hS (lv_sub hl [2, 3, 0] rfl)
        · skip
          have q_37 : mo_g (mm_D w9 fv_2 ar_22) G9 (pp.toInt.toNat) (v_20.toInt.toNat) := p_25
          refine lv_if_ne (tgt := 37) hx hb dX12_reckonWays_31 (by decide) (fun c_38 => ?_) (fun c_38 => ?_)
          · skip
            refine lv_aload_n hx hb dX12_reckonWays_37 rfl (lv_at hl 1 rfl) ?_
            refine gM_28 hx hb htg hown hK hP dX12_reckonWays_38 ?_
            refine lv_iload_n hx hb dX12_reckonWays_41 rfl (lv_at hl 0 rfl) ?_
            refine lM_28 hx hb hK hP (iv_in i_21 (by decide) (by decide)) dX12_reckonWays_42 (fun v_39 ev_39 => ?_)
            have i_40 : 0 ≤ v_39.toInt ∧ v_39.toInt ≤ 719 := (by rw [ev_39, show ar_29 28 = ar 28 from ((fA_call (fA_put (fA_call (fA_rf [4, 82] _) fa_5 (by decide)) ear_22 (by decide)) fa_31 (by decide)) 28 rfl)]; exact hp_nR.1.2.2.1 _)
            refine lv_aload_n hx hb dX12_reckonWays_43 rfl (lv_at hl 1 rfl) ?_
            refine lv_iload_n hx hb dX12_reckonWays_44 rfl (lv_at hl 0 rfl) ?_
            refine va_calli (va_runV (As := [.int v_20]) (rest := [.int v_39]) ⟨hx, hb, hml, hown, hts⟩ (m_driveE l dC dI H.size h ad cA hd fv_27 wd_28 ar_29 hF_fv_27 hA_ar_29 G9 w9 v_20 i_21 (mm_R_fr hp_8 (fM_call (fM_rf [8] _) fr_30 (by decide)) (fA_call (fA_put (fA_rf [4, 82] _) ear_22 (by decide)) fa_31 (by decide)) rfl rfl rfl rfl rfl rfl rfl rfl rfl rfl rfl) p_26) (cwV 1 hts (gV kw_8_204 kw_8_206 kw_p_91 kw_1_15 kw_8_207) rfl rfl rfl (by decide +kernel) ⟨Nat.le_of_ble_eq_true rfl, Nat.le_of_ble_eq_true rfl⟩) ⟨fun a U g mk q => ⟨q.1, q.2.1, q.2.2.1, va_K.moved (u := U) (U := U.calling g mk a) (Vm.Alike.refl U.vm) q.2.2.2⟩, va_recv hK hP (ci := 12) (q0 := 0) rfl rfl, fun U hU hW => ⟨rfl, by rw [hU], by rw [hU]; exact hP, va_K.moved hW.alike hK⟩⟩ rfl rfl hl.1 rfl (lv_room (Nat.le_of_ble_eq_true rfl)) dX12_reckonWays_45 ⟨Nat.le_of_ble_eq_true rfl, Nat.le_of_ble_eq_true rfl⟩) hS (fun q _ h9 => aM_up hS q h9) (aM_up hS) (fun r_41 u t H1 locs ht _ hw hB _ hk1 hS => ?_)
            obtain ⟨fv_45, wd_46, ar_47⟩ := u
            obtain ⟨hF_fv_45, hA_ar_47, fr_48, fa_49, p_42, p_43, p_44, -⟩ := hw
            have hP : va_P (dC, dI) vwCl (wsM h ad cA fv_45 wd_46 ar_47) H1 := by have h9 := hB.1; rw [ht] at h9; exact h9
            have fr_48 : fM [8] fv_27 fv_45 := fr_48
            have fa_49 : fA [4] ar_29 ar_47 := fa_49
            have p_44 : wt_fm G9 (fv_45 8) (ar_47 4) := p_44
            have p_43 : mo_ln (mm_D w9 fv_27 ar_29) G9 (v_20.toInt.toNat) < 10000000 → r_41.toInt = mo_dr (mm_D w9 fv_27 ar_29) G9 (v_20.toInt.toNat) := p_43
            generalize H1 = H at hP hS ⊢
            have dr_50 : mo_ln (mm_D w9 fv ar) G9 (v_20.toInt.toNat) < 10000000 → r_41.toInt = mo_dr (mm_D w9 fv ar) G9 (v_20.toInt.toNat) := (by have h9 := p_43; rw [show mm_D w9 fv_27 ar_29 = mm_D w9 fv ar from (mm_D_fr (fM_call (fM_call (fM_rf [8] _) fr_3 (by decide)) fr_30 (by decide)) (fA_call (fA_put (fA_call (fA_rf [4, 82] _) fa_5 (by decide)) ear_22 (by decide)) fa_31 (by decide)) rfl rfl)] at h9; exact h9)
            refine lv_iadd hx hb dX12_reckonWays_48 ?_
            refine lv_topi (fun v_51 ev_51 => ?_)
            have t_52 : v_51.toInt = v_39.toInt + r_41.toInt ∧ 1 ≤ v_51.toInt ∧ v_51.toInt ≤ 50719 := iv_add ev_51 i_40 p_42 (by decide) (by decide)
            refine lv_istore (lv' := [(4, .int v_51), (3, .int v_20), (0, .ref h), (1, .int pp), (2, .int x_1)]) hx hb dX12_reckonWays_49 hl (by decide) rfl (fun ls hl => ?_)
            refine lv_aload_n hx hb dX12_reckonWays_51 rfl (lv_at hl 2 rfl) ?_
            refine gM_19 hx hb htg hown hK hP dX12_reckonWays_52 ?_
            refine lv_aload_n hx hb dX12_reckonWays_55 rfl (lv_at hl 2 rfl) ?_
            refine gM_27 hx hb htg hown hK hP dX12_reckonWays_56 ?_
            refine lv_iload_n hx hb dX12_reckonWays_59 rfl (lv_at hl 1 rfl) ?_
            refine lM_27 hx hb hK hP (iv_in i_21 (by decide) (by decide)) dX12_reckonWays_60 (fun v_54 ev_54 => ?_)
            have i_55 : 0 ≤ v_54.toInt ∧ v_54.toInt ≤ 7 := ev_54 ▸ hA_ar_47 27 _
            refine lM_19 hx hb hK hP (iv_in i_55 (by decide) (by decide)) dX12_reckonWays_61 (fun v_56 ev_56 => ?_)
            have i_57 : 0 ≤ v_56.toInt ∧ v_56.toInt ≤ 11 := ev_56 ▸ hA_ar_47 19 _
            refine lv_istore (lv' := [(5, .int v_56), (4, .int v_51), (3, .int v_20), (0, .ref h), (1, .int pp), (2, .int x_1)]) hx hb dX12_reckonWays_62 hl (by decide) rfl (fun ls hl => ?_)
            refine lv_aload_n hx hb dX12_reckonWays_64 rfl (lv_at hl 3 rfl) ?_
            refine lv_iload hx hb dX12_reckonWays_65 (lv_at hl 0 rfl) ?_
            refine lv_aload_n hx hb dX12_reckonWays_67 rfl (lv_at hl 3 rfl) ?_
            refine gM_10 hx hb htg hown hK hP dX12_reckonWays_68 ?_
            refine lv_iload_n hx hb dX12_reckonWays_71 rfl (lv_at hl 4 rfl) ?_
            refine lM_10 hx hb hK hP (iv_in h_pp (by decide) (by decide)) dX12_reckonWays_72 (fun v_58 ev_58 => ?_)
            have i_59 : 0 ≤ v_58.toInt ∧ v_58.toInt ≤ 11 := ev_58 ▸ hA_ar_47 10 _
            refine va_calli (va_runV (As := [.int v_56, .int v_58]) (rest := []) ⟨hx, hb, hml, hown, hts⟩ (m_farOf l dC dI H.size h ad cA hd fv_45 wd_46 ar_47 hF_fv_45 hA_ar_47 G9 v_56 v_58 i_57 i_59 p_44) (cwV 2 hts (gV kw_7_237 kw_7_239 kw_p_59 kw_1_15 kw_8_0) rfl rfl rfl (by decide +kernel) ⟨Nat.le_of_ble_eq_true rfl, Nat.le_of_ble_eq_true rfl⟩) ⟨fun a U g mk q => ⟨q.1, q.2.1, q.2.2.1, va_K.moved (u := U) (U := U.calling g mk a) (Vm.Alike.refl U.vm) q.2.2.2⟩, va_recv hK hP (ci := 12) (q0 := 0) rfl rfl, fun U hU hW => ⟨rfl, by rw [hU], by rw [hU]; exact hP, va_K.moved hW.alike hK⟩⟩ rfl rfl hl.1 rfl (lv_room (Nat.le_of_ble_eq_true rfl)) dX12_reckonWays_73 ⟨Nat.le_of_ble_eq_true rfl, Nat.le_of_ble_eq_true rfl⟩) hS (fun q _ h9 => aM_up hS q h9) (aM_up hS) (fun r_60 u t H1 locs ht _ hw hB _ hk1 hS => ?_)
            obtain ⟨fv_64, wd_65, ar_66⟩ := u
            obtain ⟨hF_fv_64, hA_ar_66, fr_67, fa_68, p_61, p_62, p_63, -⟩ := hw
            have hP : va_P (dC, dI) vwCl (wsM h ad cA fv_64 wd_65 ar_66) H1 := by have h9 := hB.1; rw [ht] at h9; exact h9
            have fr_67 : fM [8] fv_45 fv_64 := fr_67
            have fa_68 : fA [4] ar_47 ar_66 := fa_68
            have p_63 : wt_fm G9 (fv_64 8) (ar_66 4) := p_63
            have p_62 : wt_rl (G9 (12 * v_56.toInt.toNat + v_58.toInt.toNat)) r_60.toInt := p_62
            generalize H1 = H at hP hS ⊢
            refine lv_ldc hx hb hown (htg (.constant RX12 225 100000) kw_7_232) dX12_reckonWays_76 ?_
            refine lv_icmp_ge (tgt := 103) hx hb dX12_reckonWays_78 (by decide) (fun c_69 => ?_) (fun c_69 => ?_)
            · skip
              have i_70 : 100000 ≤ r_60.toInt ∧ r_60.toInt ≤ 100000 := iv_le2 (⟨by decide, by decide⟩ : (100000 : Int) ≤ (100000 : Int32).toInt ∧ (100000 : Int32).toInt ≤ 100000) p_61 c_69
              refine lv_iconst (v := 0) hx hb dX12_reckonWays_103 (by decide) ?_
              refine lv_istore (lv' := [(6, .int 0), (5, .int v_56), (4, .int v_51), (3, .int v_20), (0, .ref h), (1, .int pp), (2, .int x_1)]) hx hb dX12_reckonWays_104 hl (by decide) rfl (fun ls hl => ?_)
              refine my_cut (P := fun R9 a9 Q9 => ∀ (n_78 : Nat) (x_71 : Int32) (ar_72 : Nat → Nat → Int32) (H : Heap) (locs : List Loc) (ls : Array Slot), 79 - x_71.toInt < (n_78 : Int) → (0 ≤ x_71.toInt ∧ x_71.toInt ≤ 79) → rA ar_72 → fA [82] ar_66 ar_72 → wt_fm G9 (fv_64 8) (ar_72 4) → mm_R G9 fv_64 ar_72 → (mm_it (mm_D w9 fv ar) G9 (pp.toInt.toNat) (mo_pc (mm_D w9 fv ar) (ar 15 (pp.toInt.toNat)) (pp.toInt.toNat)) (x_1.toInt.toNat) (x_71.toInt.toNat) (ar 83) (ar_72 82)) → (x_71.toInt ≤ x_1.toInt) → va_P (dC, dI) vwCl (wsM h ad cA fv_64 wd_65 ar_72) H → va_S (aM h ad s.heap.size) s.heap H locs → lv_has ls 8 [(0, .ref h), (1, .int pp), (2, .int x_1), (3, .int v_20), (4, .int v_51), (6, .int x_71)] → W p l e R9 s m a9 below meth c H locs 0 0 Q9 (F0 m 106 ls [])) ?_ (fun hj_80 => ?_)
              · intro n_78
                induction n_78 with
                | zero => intro x_71 ar_72 H locs ls fu_79 i_x_71 hA_ar_72 fa_73 hp_74 hp_75 q_76 q_77; exfalso; omega
                | succ n_78 ih_78 =>
                  intro x_71 ar_72 H locs ls fu_79 i_x_71 hA_ar_72 fa_73 hp_74 hp_75 q_76 q_77 hP hS hl
                  refine lv_iload hx hb dX12_reckonWays_106 (lv_at hl 5 rfl) ?_
                  refine lv_iload_n hx hb dX12_reckonWays_108 rfl (lv_at hl 2 rfl) ?_
                  refine lv_icmp_ge (tgt := 184) hx hb dX12_reckonWays_109 (by decide) (fun c_81 => ?_) (fun c_81 => ?_)
                  · skip
                    have k_82 := Int32.le_iff_toInt_le.mp c_81
                    obtain ⟨v_83, ev_83⟩ : ∃ z : Int32, z = x_1 + 1 := ⟨_, rfl⟩
                    refine lv_iinc (v := v_83) (lv' := [(2, .int v_83), (0, .ref h), (1, .int pp), (3, .int v_20), (4, .int v_51), (6, .int x_71)]) hx hb dX12_reckonWays_184 hl (k := 2) rfl (by rw [ev_83]; rfl) (by decide) rfl (fun ls hl => ?_)
                    have t_84 : v_83.toInt = x_1.toInt + 1 ∧ 1 ≤ v_83.toInt ∧ v_83.toInt ≤ 80 := iv_addc ev_83 i_17 (by decide) (by decide) (by decide)
                    refine lv_goto (tgt := 2) hx hb dX12_reckonWays_187 (by decide) ?_
                    have z_199 : (fv_64 87).toInt = (fv 87).toInt := congrArg Int32.toInt ((fr_67 87 rfl).trans ((fr_48 87 rfl).trans ((fr_30 87 rfl).trans ((fr_3 87 rfl)))))
                    have z_200 : 0 ≤ (fv_64 87).toInt ∧ (fv_64 87).toInt ≤ 80 := hF_fv_64 87
                    exact ih_11 v_83 fv_64 ar_72 wd_65 _ _ ls (by omega) (iv_w t_84.2 (by decide) (by decide)) hF_fv_64 (fM_call (fM_call (fM_call (fM_call (fM_rf [8] _) fr_3 (by decide)) fr_30 (by decide)) fr_48 (by decide)) fr_67 (by decide)) hA_ar_72 (fA_call (fA_call (fA_call (fA_call (fA_put (fA_call (fA_rf [4, 82] _) fa_5 (by decide)) ear_22 (by decide)) fa_31 (by decide)) fa_49 (by decide)) fa_68 (by decide)) fa_73 (by decide)) hp_74 hp_75 (by rw [show v_83.toInt.toNat = (x_1.toInt.toNat) + 1 from by omega]; exact mm_it_e q_76 (by omega)) (by omega) hP hS (lv_sub hl [1, 2, 0] rfl)
                  · skip
                    have i_86 : 0 ≤ x_71.toInt ∧ x_71.toInt ≤ 78 := iv_lt1 i_x_71 i_17 (Int32.not_le.mp c_81)
                    have i_87 : 1 ≤ x_1.toInt ∧ x_1.toInt ≤ 79 := iv_lt2 i_x_71 i_17 (Int32.not_le.mp c_81)
                    have k_88 := Int32.lt_iff_toInt_lt.mp (Int32.not_le.mp c_81)
                    refine lv_aload_n hx hb dX12_reckonWays_112 rfl (lv_at hl 0 rfl) ?_
                    refine gM_83 hx hb htg hown hK hP dX12_reckonWays_113 ?_
                    refine lv_iload hx hb dX12_reckonWays_116 (lv_at hl 5 rfl) ?_
                    refine lM_83 hx hb hK hP (iv_in i_86 (by decide) (by decide)) dX12_reckonWays_118 (fun v_89 ev_89 => ?_)
                    have i_90 : 0 ≤ v_89.toInt ∧ v_89.toInt ≤ 79 := ev_89 ▸ hA_ar_72 83 _
                    refine lv_istore (lv' := [(7, .int v_89), (0, .ref h), (1, .int pp), (2, .int x_1), (3, .int v_20), (4, .int v_51), (6, .int x_71)]) hx hb dX12_reckonWays_119 hl (by decide) rfl (fun ls hl => ?_)
                    refine lv_aload_n hx hb dX12_reckonWays_121 rfl (lv_at hl 1 rfl) ?_
                    refine gM_26 hx hb htg hown hK hP dX12_reckonWays_122 ?_
                    refine lv_iload hx hb dX12_reckonWays_125 (lv_at hl 0 rfl) ?_
                    refine lM_26 hx hb hK hP (iv_in i_90 (by decide) (by decide)) dX12_reckonWays_127 (fun v_91 ev_91 => ?_)
                    have i_92 : 0 ≤ v_91.toInt ∧ v_91.toInt ≤ 7 := ev_91 ▸ hA_ar_72 26 _
                    refine lv_aload_n hx hb dX12_reckonWays_128 rfl (lv_at hl 1 rfl) ?_
                    refine gM_27 hx hb htg hown hK hP dX12_reckonWays_129 ?_
                    refine lv_iload_n hx hb dX12_reckonWays_132 rfl (lv_at hl 4 rfl) ?_
                    refine lM_27 hx hb hK hP (iv_in i_21 (by decide) (by decide)) dX12_reckonWays_133 (fun v_93 ev_93 => ?_)
                    obtain rfl : v_54 = v_93 := ev_54.trans ((congrFun ((fA_call (fA_call (fA_rf [4, 82] _) fa_68 (by decide)) fa_73 (by decide)) 27 rfl) _).symm.trans ev_93.symm)
                    refine lv_icmp_ne (tgt := 178) hx hb dX12_reckonWays_134 (by decide) (fun c_94 => ?_) (fun c_94 => ?_)
                    · skip
                      have k_95 : ¬ v_91.toInt = v_54.toInt := fun q => c_94 (Int32.toInt_inj.mp q)
                      obtain ⟨v_96, ev_96⟩ : ∃ z : Int32, z = x_71 + 1 := ⟨_, rfl⟩
                      refine lv_iinc (v := v_96) (lv' := [(6, .int v_96), (7, .int v_89), (0, .ref h), (1, .int pp), (2, .int x_1), (3, .int v_20), (4, .int v_51)]) hx hb dX12_reckonWays_178 hl (k := 6) rfl (by rw [ev_96]; rfl) (by decide) rfl (fun ls hl => ?_)
                      have t_97 : v_96.toInt = x_71.toInt + 1 ∧ 1 ≤ v_96.toInt ∧ v_96.toInt ≤ 79 := iv_addc ev_96 i_86 (by decide) (by decide) (by decide)
                      refine lv_goto (tgt := 106) hx hb dX12_reckonWays_181 (by decide) ?_
                      exact ih_78 v_96 ar_72 _ _ ls (by omega) (iv_w t_97.2 (by decide) (by decide)) hA_ar_72 (fA_call (fA_rf [82] _) fa_73 (by decide)) hp_74 hp_75 (by rw [show v_96.toInt.toNat = (x_71.toInt.toNat) + 1 from by omega]; have hk9 := (show ar 83 (x_1.toInt.toNat) = v_20 from by rw [ev_20, show ar_4 83 = ar 83 from ((fA_call (fA_rf [4, 82] _) fa_5 (by decide)) 83 rfl)]; exact congrArg (ar 83) (show (x_1.toInt.toNat) = x_1.toInt.toNat from by omega)); have hq9 := (show ar 83 (x_71.toInt.toNat) = v_89 from by rw [ev_89, show ar_72 83 = ar 83 from ((fA_call (fA_call (fA_call (fA_call (fA_put (fA_call (fA_rf [4, 82] _) fa_5 (by decide)) ear_22 (by decide)) fa_31 (by decide)) fa_49 (by decide)) fa_68 (by decide)) fa_73 (by decide)) 83 rfl)]; exact congrArg (ar 83) (show (x_71.toInt.toNat) = x_71.toInt.toNat from by omega)); have h12 : (mm_D w9 fv ar) 12 (v_89.toInt.toNat) = v_91 := (by show ar 26 _ = _; exact ((show v_91 = ar 26 (v_89.toInt.toNat) from by rw [ev_91, show ar_72 26 = ar 26 from ((fA_call (fA_call (fA_call (fA_call (fA_put (fA_call (fA_rf [4, 82] _) fa_5 (by decide)) ear_22 (by decide)) fa_31 (by decide)) fa_49 (by decide)) fa_68 (by decide)) fa_73 (by decide)) 26 rfl)]; exact congrArg (ar 26) (show v_89.toInt.toNat = (v_89.toInt.toNat) from by omega))).symm); have h13 : (mm_D w9 fv ar) 13 (v_20.toInt.toNat) = v_54 := (by show ar 27 _ = _; exact ((show v_54 = ar 27 (v_20.toInt.toNat) from by rw [ev_54, show ar_47 27 = ar 27 from ((fA_call (fA_call (fA_put (fA_call (fA_rf [4, 82] _) fa_5 (by decide)) ear_22 (by decide)) fa_31 (by decide)) fa_49 (by decide)) 27 rfl)]; exact congrArg (ar 27) (show v_20.toInt.toNat = (v_20.toInt.toNat) from by omega))).symm); exact mm_it_s q_76 (fun w9_ => by obtain ⟨w1, w2, w3⟩ := w9_; rw [hk9, hq9, h12, h13] at w1; omega)) (by omega) hP hS (lv_sub hl [2, 3, 4, 5, 6, 0] rfl)
                    · skip
                      have k_99 := congrArg Int32.toInt c_94
                      refine lv_aload_n hx hb dX12_reckonWays_137 rfl (lv_at hl 1 rfl) ?_
                      refine gM_28 hx hb htg hown hK hP dX12_reckonWays_138 ?_
                      refine lv_iload hx hb dX12_reckonWays_141 (lv_at hl 0 rfl) ?_
                      refine lM_28 hx hb hK hP (iv_in i_90 (by decide) (by decide)) dX12_reckonWays_143 (fun v_100 ev_100 => ?_)
                      have i_101 : 0 ≤ v_100.toInt ∧ v_100.toInt ≤ 719 := (by rw [ev_100, show ar_72 28 = ar 28 from ((fA_call (fA_call (fA_call (fA_call (fA_put (fA_call (fA_rf [4, 82] _) fa_5 (by decide)) ear_22 (by decide)) fa_31 (by decide)) fa_49 (by decide)) fa_68 (by decide)) fa_73 (by decide)) 28 rfl)]; exact hp_nR.1.2.2.1 _)
                      refine lv_iload hx hb dX12_reckonWays_144 (lv_at hl 5 rfl) ?_
                      refine lv_icmp_lt (tgt := 178) hx hb dX12_reckonWays_146 (by decide) (fun c_102 => ?_) (fun c_102 => ?_)
                      · skip
                        have k_103 := Int32.lt_iff_toInt_lt.mp c_102
                        obtain ⟨v_104, ev_104⟩ : ∃ z : Int32, z = x_71 + 1 := ⟨_, rfl⟩
                        refine lv_iinc (v := v_104) (lv' := [(6, .int v_104), (7, .int v_89), (0, .ref h), (1, .int pp), (2, .int x_1), (3, .int v_20), (4, .int v_51)]) hx hb dX12_reckonWays_178 hl (k := 6) rfl (by rw [ev_104]; rfl) (by decide) rfl (fun ls hl => ?_)
                        have t_105 : v_104.toInt = x_71.toInt + 1 ∧ 1 ≤ v_104.toInt ∧ v_104.toInt ≤ 79 := iv_addc ev_104 i_86 (by decide) (by decide) (by decide)
                        refine lv_goto (tgt := 106) hx hb dX12_reckonWays_181 (by decide) ?_
                        exact ih_78 v_104 ar_72 _ _ ls (by omega) (iv_w t_105.2 (by decide) (by decide)) hA_ar_72 (fA_call (fA_rf [82] _) fa_73 (by decide)) hp_74 hp_75 (by rw [show v_104.toInt.toNat = (x_71.toInt.toNat) + 1 from by omega]; have hk9 := (show ar 83 (x_1.toInt.toNat) = v_20 from by rw [ev_20, show ar_4 83 = ar 83 from ((fA_call (fA_rf [4, 82] _) fa_5 (by decide)) 83 rfl)]; exact congrArg (ar 83) (show (x_1.toInt.toNat) = x_1.toInt.toNat from by omega)); have hq9 := (show ar 83 (x_71.toInt.toNat) = v_89 from by rw [ev_89, show ar_72 83 = ar 83 from ((fA_call (fA_call (fA_call (fA_call (fA_put (fA_call (fA_rf [4, 82] _) fa_5 (by decide)) ear_22 (by decide)) fa_31 (by decide)) fa_49 (by decide)) fa_68 (by decide)) fa_73 (by decide)) 83 rfl)]; exact congrArg (ar 83) (show (x_71.toInt.toNat) = x_71.toInt.toNat from by omega)); have h12 : (mm_D w9 fv ar) 12 (v_89.toInt.toNat) = v_91 := (by show ar 26 _ = _; exact ((show v_91 = ar 26 (v_89.toInt.toNat) from by rw [ev_91, show ar_72 26 = ar 26 from ((fA_call (fA_call (fA_call (fA_call (fA_put (fA_call (fA_rf [4, 82] _) fa_5 (by decide)) ear_22 (by decide)) fa_31 (by decide)) fa_49 (by decide)) fa_68 (by decide)) fa_73 (by decide)) 26 rfl)]; exact congrArg (ar 26) (show v_89.toInt.toNat = (v_89.toInt.toNat) from by omega))).symm); have h13 : (mm_D w9 fv ar) 13 (v_20.toInt.toNat) = v_54 := (by show ar 27 _ = _; exact ((show v_54 = ar 27 (v_20.toInt.toNat) from by rw [ev_54, show ar_47 27 = ar 27 from ((fA_call (fA_call (fA_put (fA_call (fA_rf [4, 82] _) fa_5 (by decide)) ear_22 (by decide)) fa_31 (by decide)) fa_49 (by decide)) 27 rfl)]; exact congrArg (ar 27) (show v_20.toInt.toNat = (v_20.toInt.toNat) from by omega))).symm); have h14 : ((mm_D w9 fv ar) 14 (v_89.toInt.toNat)).toInt = v_100.toInt := (by show (ar 28 _).toInt = _; rw [show ar 28 (v_89.toInt.toNat) = v_100 from ((show v_100 = ar 28 (v_89.toInt.toNat) from by rw [ev_100, show ar_72 28 = ar 28 from ((fA_call (fA_call (fA_call (fA_call (fA_put (fA_call (fA_rf [4, 82] _) fa_5 (by decide)) ear_22 (by decide)) fa_31 (by decide)) fa_49 (by decide)) fa_68 (by decide)) fa_73 (by decide)) 28 rfl)]; exact congrArg (ar 28) (show v_89.toInt.toNat = (v_89.toInt.toNat) from by omega))).symm]); have hcm : mo_cm (mm_D w9 fv ar) G9 (v_20.toInt.toNat) = v_39.toInt + r_41.toInt := (by unfold mo_cm; rw [← dr_50 ((show mo_g (mm_D w9 fv ar) G9 (pp.toInt.toNat) (v_20.toInt.toNat) from (by have h9 := q_37; rw [show mm_D w9 fv_2 ar_22 = mm_D w9 fv ar from (mm_D_fr (fM_call (fM_rf [8] _) fr_3 (by decide)) (fA_put (fA_call (fA_rf [4, 82] _) fa_5 (by decide)) ear_22 (by decide)) rfl rfl)] at h9; exact h9))).1.2, show ((mm_D w9 fv ar) 14 (v_20.toInt.toNat)).toInt = v_39.toInt from (by show (ar 28 _).toInt = _; rw [show ar 28 (v_20.toInt.toNat) = v_39 from ((show v_39 = ar 28 (v_20.toInt.toNat) from by rw [ev_39, show ar_29 28 = ar 28 from ((fA_call (fA_put (fA_call (fA_rf [4, 82] _) fa_5 (by decide)) ear_22 (by decide)) fa_31 (by decide)) 28 rfl)]; exact congrArg (ar 28) (show v_20.toInt.toNat = (v_20.toInt.toNat) from by omega))).symm])]); exact mm_it_s q_76 (fun w9_ => by obtain ⟨w1, w2, w3⟩ := w9_; rw [hk9, hq9, h12, h13] at w1; rw [hk9, hq9, hcm, h14] at w2; omega)) (by omega) hP hS (lv_sub hl [2, 3, 4, 5, 6, 0] rfl)
                      · skip
                        have i_107 : 1 ≤ v_51.toInt ∧ v_51.toInt ≤ 719 := iv_le1 t_52.2 i_101 (Int32.not_lt.mp c_102)
                        have i_108 : 1 ≤ v_100.toInt ∧ v_100.toInt ≤ 719 := iv_le2 t_52.2 i_101 (Int32.not_lt.mp c_102)
                        have k_109 := Int32.le_iff_toInt_le.mp (Int32.not_lt.mp c_102)
                        refine lv_aload_n hx hb dX12_reckonWays_149 rfl (lv_at hl 1 rfl) ?_
                        refine gM_82 hx hb htg hown hK hP dX12_reckonWays_150 ?_
                        refine lv_iload hx hb dX12_reckonWays_153 (lv_at hl 0 rfl) ?_
                        refine lM_82 hx hb hK hP (iv_in i_90 (by decide) (by decide)) dX12_reckonWays_155 (fun v_110 ev_110 => ?_)
                        refine lv_aload_n hx hb dX12_reckonWays_156 rfl (lv_at hl 1 rfl) ?_
                        refine gM_82 hx hb htg hown hK hP dX12_reckonWays_157 ?_
                        refine lv_iload_n hx hb dX12_reckonWays_160 rfl (lv_at hl 4 rfl) ?_
                        refine lM_82 hx hb hK hP (iv_in i_21 (by decide) (by decide)) dX12_reckonWays_161 (fun v_111 ev_111 => ?_)
                        refine lv_icmp_ge (tgt := 178) hx hb dX12_reckonWays_162 (by decide) (fun c_112 => ?_) (fun c_112 => ?_)
                        · skip
                          have k_113 := Int32.le_iff_toInt_le.mp c_112
                          obtain ⟨v_114, ev_114⟩ : ∃ z : Int32, z = x_71 + 1 := ⟨_, rfl⟩
                          refine lv_iinc (v := v_114) (lv' := [(6, .int v_114), (7, .int v_89), (0, .ref h), (1, .int pp), (2, .int x_1), (3, .int v_20), (4, .int v_51)]) hx hb dX12_reckonWays_178 hl (k := 6) rfl (by rw [ev_114]; rfl) (by decide) rfl (fun ls hl => ?_)
                          have t_115 : v_114.toInt = x_71.toInt + 1 ∧ 1 ≤ v_114.toInt ∧ v_114.toInt ≤ 79 := iv_addc ev_114 i_86 (by decide) (by decide) (by decide)
                          refine lv_goto (tgt := 106) hx hb dX12_reckonWays_181 (by decide) ?_
                          exact ih_78 v_114 ar_72 _ _ ls (by omega) (iv_w t_115.2 (by decide) (by decide)) hA_ar_72 (fA_call (fA_rf [82] _) fa_73 (by decide)) hp_74 hp_75 (by rw [show v_114.toInt.toNat = (x_71.toInt.toNat) + 1 from by omega]; have hk9 := (show ar 83 (x_1.toInt.toNat) = v_20 from by rw [ev_20, show ar_4 83 = ar 83 from ((fA_call (fA_rf [4, 82] _) fa_5 (by decide)) 83 rfl)]; exact congrArg (ar 83) (show (x_1.toInt.toNat) = x_1.toInt.toNat from by omega)); have hq9 := (show ar 83 (x_71.toInt.toNat) = v_89 from by rw [ev_89, show ar_72 83 = ar 83 from ((fA_call (fA_call (fA_call (fA_call (fA_put (fA_call (fA_rf [4, 82] _) fa_5 (by decide)) ear_22 (by decide)) fa_31 (by decide)) fa_49 (by decide)) fa_68 (by decide)) fa_73 (by decide)) 83 rfl)]; exact congrArg (ar 83) (show (x_71.toInt.toNat) = x_71.toInt.toNat from by omega)); have h12 : (mm_D w9 fv ar) 12 (v_89.toInt.toNat) = v_91 := (by show ar 26 _ = _; exact ((show v_91 = ar 26 (v_89.toInt.toNat) from by rw [ev_91, show ar_72 26 = ar 26 from ((fA_call (fA_call (fA_call (fA_call (fA_put (fA_call (fA_rf [4, 82] _) fa_5 (by decide)) ear_22 (by decide)) fa_31 (by decide)) fa_49 (by decide)) fa_68 (by decide)) fa_73 (by decide)) 26 rfl)]; exact congrArg (ar 26) (show v_89.toInt.toNat = (v_89.toInt.toNat) from by omega))).symm); have h13 : (mm_D w9 fv ar) 13 (v_20.toInt.toNat) = v_54 := (by show ar 27 _ = _; exact ((show v_54 = ar 27 (v_20.toInt.toNat) from by rw [ev_54, show ar_47 27 = ar 27 from ((fA_call (fA_call (fA_put (fA_call (fA_rf [4, 82] _) fa_5 (by decide)) ear_22 (by decide)) fa_31 (by decide)) fa_49 (by decide)) 27 rfl)]; exact congrArg (ar 27) (show v_20.toInt.toNat = (v_20.toInt.toNat) from by omega))).symm); have h14 : ((mm_D w9 fv ar) 14 (v_89.toInt.toNat)).toInt = v_100.toInt := (by show (ar 28 _).toInt = _; rw [show ar 28 (v_89.toInt.toNat) = v_100 from ((show v_100 = ar 28 (v_89.toInt.toNat) from by rw [ev_100, show ar_72 28 = ar 28 from ((fA_call (fA_call (fA_call (fA_call (fA_put (fA_call (fA_rf [4, 82] _) fa_5 (by decide)) ear_22 (by decide)) fa_31 (by decide)) fa_49 (by decide)) fa_68 (by decide)) fa_73 (by decide)) 28 rfl)]; exact congrArg (ar 28) (show v_89.toInt.toNat = (v_89.toInt.toNat) from by omega))).symm]); have hcm : mo_cm (mm_D w9 fv ar) G9 (v_20.toInt.toNat) = v_39.toInt + r_41.toInt := (by unfold mo_cm; rw [← dr_50 ((show mo_g (mm_D w9 fv ar) G9 (pp.toInt.toNat) (v_20.toInt.toNat) from (by have h9 := q_37; rw [show mm_D w9 fv_2 ar_22 = mm_D w9 fv ar from (mm_D_fr (fM_call (fM_rf [8] _) fr_3 (by decide)) (fA_put (fA_call (fA_rf [4, 82] _) fa_5 (by decide)) ear_22 (by decide)) rfl rfl)] at h9; exact h9))).1.2, show ((mm_D w9 fv ar) 14 (v_20.toInt.toNat)).toInt = v_39.toInt from (by show (ar 28 _).toInt = _; rw [show ar 28 (v_20.toInt.toNat) = v_39 from ((show v_39 = ar 28 (v_20.toInt.toNat) from by rw [ev_39, show ar_29 28 = ar 28 from ((fA_call (fA_put (fA_call (fA_rf [4, 82] _) fa_5 (by decide)) ear_22 (by decide)) fa_31 (by decide)) 28 rfl)]; exact congrArg (ar 28) (show v_20.toInt.toNat = (v_20.toInt.toNat) from by omega))).symm])]); have h82q : ar_72 82 (v_89.toInt.toNat) = v_110 := (by rw [ev_110]; exact congrArg (ar_72 82) (show v_89.toInt.toNat = v_89.toInt.toNat from by omega)); have h82k : ar_72 82 (v_20.toInt.toNat) = v_111 := (by rw [ev_111]; exact congrArg (ar_72 82) (show v_20.toInt.toNat = v_20.toInt.toNat from by omega)); exact mm_it_s q_76 (fun w9_ => by obtain ⟨w1, w2, w3⟩ := w9_; rw [hk9, hq9, h12, h13] at w1; rw [hk9, hq9, hcm, h14] at w2; rw [hk9, hq9, h82q, h82k] at w3; omega)) (by omega) hP hS (lv_sub hl [2, 3, 4, 5, 6, 0] rfl)
                        · skip
                          have i_117 : (-2147483648) ≤ v_110.toInt ∧ v_110.toInt ≤ 2147483646 := iv_lt1 (iv_any v_110) (iv_any v_111) (Int32.not_le.mp c_112)
                          have i_118 : (-2147483647) ≤ v_111.toInt ∧ v_111.toInt ≤ 2147483647 := iv_lt2 (iv_any v_110) (iv_any v_111) (Int32.not_le.mp c_112)
                          have k_119 := Int32.lt_iff_toInt_lt.mp (Int32.not_le.mp c_112)
                          refine lv_aload_n hx hb dX12_reckonWays_165 rfl (lv_at hl 1 rfl) ?_
                          refine gM_82 hx hb htg hown hK hP dX12_reckonWays_166 ?_
                          refine lv_iload_n hx hb dX12_reckonWays_169 rfl (lv_at hl 4 rfl) ?_
                          refine lv_aload_n hx hb dX12_reckonWays_170 rfl (lv_at hl 1 rfl) ?_
                          refine gM_82 hx hb htg hown hK hP dX12_reckonWays_171 ?_
                          refine lv_iload hx hb dX12_reckonWays_174 (lv_at hl 0 rfl) ?_
                          refine lM_82 hx hb hK hP (iv_in i_90 (by decide) (by decide)) dX12_reckonWays_176 (fun v_120 ev_120 => ?_)
                          obtain rfl : v_110 = v_120 := ev_110.trans ev_120.symm
                          refine sM_82 hx hb hK hP hS hd (iv_in i_21 (by decide) (by decide)) dX12_reckonWays_177 (fun H locs ar_121 ear_121 hP hS => ?_)
                          have hA_ar_121 : rA ar_121 := rA_put hA_ar_72 ear_121 (iv_any _)
                          obtain ⟨v_122, ev_122⟩ : ∃ z : Int32, z = x_71 + 1 := ⟨_, rfl⟩
                          refine lv_iinc (v := v_122) (lv' := [(6, .int v_122), (7, .int v_89), (0, .ref h), (1, .int pp), (2, .int x_1), (3, .int v_20), (4, .int v_51)]) hx hb dX12_reckonWays_178 hl (k := 6) rfl (by rw [ev_122]; rfl) (by decide) rfl (fun ls hl => ?_)
                          have t_123 : v_122.toInt = x_71.toInt + 1 ∧ 1 ≤ v_122.toInt ∧ v_122.toInt ≤ 79 := iv_addc ev_122 i_86 (by decide) (by decide) (by decide)
                          refine lv_goto (tgt := 106) hx hb dX12_reckonWays_181 (by decide) ?_
                          exact ih_78 v_122 ar_121 _ _ ls (by omega) (iv_w t_123.2 (by decide) (by decide)) hA_ar_121 (fA_put (fA_call (fA_rf [82] _) fa_73 (by decide)) ear_121 (by decide)) (mF_fr hp_74 (fM_rf [] _) (fA_put (fA_rf [82] _) ear_121 (by decide)) rfl rfl) (mm_R_fr hp_75 (fM_rf [] _) (fA_put (fA_rf [82] _) ear_121 (by decide)) rfl rfl rfl rfl rfl rfl rfl rfl rfl rfl rfl) (by rw [show v_122.toInt.toNat = (x_71.toInt.toNat) + 1 from by omega]; have hk9 := (show ar 83 (x_1.toInt.toNat) = v_20 from by rw [ev_20, show ar_4 83 = ar 83 from ((fA_call (fA_rf [4, 82] _) fa_5 (by decide)) 83 rfl)]; exact congrArg (ar 83) (show (x_1.toInt.toNat) = x_1.toInt.toNat from by omega)); have hq9 := (show ar 83 (x_71.toInt.toNat) = v_89 from by rw [ev_89, show ar_72 83 = ar 83 from ((fA_call (fA_call (fA_call (fA_call (fA_put (fA_call (fA_rf [4, 82] _) fa_5 (by decide)) ear_22 (by decide)) fa_31 (by decide)) fa_49 (by decide)) fa_68 (by decide)) fa_73 (by decide)) 83 rfl)]; exact congrArg (ar 83) (show (x_71.toInt.toNat) = x_71.toInt.toNat from by omega)); have h12 : (mm_D w9 fv ar) 12 (v_89.toInt.toNat) = v_91 := (by show ar 26 _ = _; exact ((show v_91 = ar 26 (v_89.toInt.toNat) from by rw [ev_91, show ar_72 26 = ar 26 from ((fA_call (fA_call (fA_call (fA_call (fA_put (fA_call (fA_rf [4, 82] _) fa_5 (by decide)) ear_22 (by decide)) fa_31 (by decide)) fa_49 (by decide)) fa_68 (by decide)) fa_73 (by decide)) 26 rfl)]; exact congrArg (ar 26) (show v_89.toInt.toNat = (v_89.toInt.toNat) from by omega))).symm); have h13 : (mm_D w9 fv ar) 13 (v_20.toInt.toNat) = v_54 := (by show ar 27 _ = _; exact ((show v_54 = ar 27 (v_20.toInt.toNat) from by rw [ev_54, show ar_47 27 = ar 27 from ((fA_call (fA_call (fA_put (fA_call (fA_rf [4, 82] _) fa_5 (by decide)) ear_22 (by decide)) fa_31 (by decide)) fa_49 (by decide)) 27 rfl)]; exact congrArg (ar 27) (show v_20.toInt.toNat = (v_20.toInt.toNat) from by omega))).symm); have h14 : ((mm_D w9 fv ar) 14 (v_89.toInt.toNat)).toInt = v_100.toInt := (by show (ar 28 _).toInt = _; rw [show ar 28 (v_89.toInt.toNat) = v_100 from ((show v_100 = ar 28 (v_89.toInt.toNat) from by rw [ev_100, show ar_72 28 = ar 28 from ((fA_call (fA_call (fA_call (fA_call (fA_put (fA_call (fA_rf [4, 82] _) fa_5 (by decide)) ear_22 (by decide)) fa_31 (by decide)) fa_49 (by decide)) fa_68 (by decide)) fa_73 (by decide)) 28 rfl)]; exact congrArg (ar 28) (show v_89.toInt.toNat = (v_89.toInt.toNat) from by omega))).symm]); have hcm : mo_cm (mm_D w9 fv ar) G9 (v_20.toInt.toNat) = v_39.toInt + r_41.toInt := (by unfold mo_cm; rw [← dr_50 ((show mo_g (mm_D w9 fv ar) G9 (pp.toInt.toNat) (v_20.toInt.toNat) from (by have h9 := q_37; rw [show mm_D w9 fv_2 ar_22 = mm_D w9 fv ar from (mm_D_fr (fM_call (fM_rf [8] _) fr_3 (by decide)) (fA_put (fA_call (fA_rf [4, 82] _) fa_5 (by decide)) ear_22 (by decide)) rfl rfl)] at h9; exact h9))).1.2, show ((mm_D w9 fv ar) 14 (v_20.toInt.toNat)).toInt = v_39.toInt from (by show (ar 28 _).toInt = _; rw [show ar 28 (v_20.toInt.toNat) = v_39 from ((show v_39 = ar 28 (v_20.toInt.toNat) from by rw [ev_39, show ar_29 28 = ar 28 from ((fA_call (fA_put (fA_call (fA_rf [4, 82] _) fa_5 (by decide)) ear_22 (by decide)) fa_31 (by decide)) 28 rfl)]; exact congrArg (ar 28) (show v_20.toInt.toNat = (v_20.toInt.toNat) from by omega))).symm])]); have h82q : ar_72 82 (v_89.toInt.toNat) = v_110 := (by rw [ev_110]; exact congrArg (ar_72 82) (show v_89.toInt.toNat = v_89.toInt.toNat from by omega)); have h82k : ar_72 82 (v_20.toInt.toNat) = v_111 := (by rw [ev_111]; exact congrArg (ar_72 82) (show v_20.toInt.toNat = v_20.toInt.toNat from by omega)); exact mm_it_y hor (by omega) (by omega) q_76 (by rw [hk9, hq9, h12, h13]; omega) (by rw [hk9, hq9, hcm, h14]; omega) (by rw [hk9, hq9, h82q, h82k]; omega) (by rw [hk9, hq9, h82q]; exact (fun i9 => by rw [ear_121]; show (if i9 = Int32.toNatClampNeg v_20 then v_110 else ar_72 82 i9) = _; rfl))) (by omega) hP hS (lv_sub hl [2, 3, 4, 5, 6, 0] rfl)
              · skip
                have z_125 : (0 : Int32).toInt = 0 := by decide
                exact hj_80 80 0 ar_66 _ _ ls (by first | decide | omega) (iv_w (⟨by decide, by decide⟩ : (0 : Int) ≤ (0 : Int32).toInt ∧ (0 : Int32).toInt ≤ 0) (by decide) (by decide)) hA_ar_66 (fA_rf [82] _) p_63 (mm_R_fr hp_8 (fM_call (fM_call (fM_call (fM_rf [8] _) fr_30 (by decide)) fr_48 (by decide)) fr_67 (by decide)) (fA_call (fA_call (fA_call (fA_put (fA_rf [4, 82] _) ear_22 (by decide)) fa_31 (by decide)) fa_49 (by decide)) fa_68 (by decide)) rfl rfl rfl rfl rfl rfl rfl rfl rfl rfl rfl) (by rw [show (0 : Int32).toInt.toNat = 0 from by decide]; have hk9 := (show ar 83 (x_1.toInt.toNat) = v_20 from by rw [ev_20, show ar_4 83 = ar 83 from ((fA_call (fA_rf [4, 82] _) fa_5 (by decide)) 83 rfl)]; exact congrArg (ar 83) (show (x_1.toInt.toNat) = x_1.toInt.toNat from by omega)); have hl9 : mo_ln (mm_D w9 fv ar) G9 (v_20.toInt.toNat) < 10000000 := ((show mo_g (mm_D w9 fv ar) G9 (pp.toInt.toNat) (v_20.toInt.toNat) from (by have h9 := q_37; rw [show mm_D w9 fv_2 ar_22 = mm_D w9 fv ar from (mm_D_fr (fM_call (fM_rf [8] _) fr_3 (by decide)) (fA_put (fA_call (fA_rf [4, 82] _) fa_5 (by decide)) ear_22 (by decide)) rfl rfl)] at h9; exact h9))).1.2; have hdr9 := dr_50 hl9; have hdb9 := mo_dr_b (D := (mm_D w9 fv ar)) hp_nR.1 hp_nR.2.1 hl9; have hc9 : mo_ct (mm_D w9 fv ar) (v_20.toInt.toNat) = v_56.toInt.toNat := (by show (ar 19 (ar 27 (v_20.toInt.toNat)).toInt.toNat).toInt.toNat = _; rw [show ar 27 (v_20.toInt.toNat) = v_54 from ((show v_54 = ar 27 (v_20.toInt.toNat) from by rw [ev_54, show ar_47 27 = ar 27 from ((fA_call (fA_call (fA_put (fA_call (fA_rf [4, 82] _) fa_5 (by decide)) ear_22 (by decide)) fa_31 (by decide)) fa_49 (by decide)) 27 rfl)]; exact congrArg (ar 27) (show v_20.toInt.toNat = (v_20.toInt.toNat) from by omega))).symm, show ar 19 (v_54.toInt.toNat) = v_56 from ((show v_56 = ar 19 (v_54.toInt.toNat) from by rw [ev_56, show ar_47 19 = ar 19 from ((fA_call (fA_call (fA_put (fA_call (fA_rf [4, 82] _) fa_5 (by decide)) ear_22 (by decide)) fa_31 (by decide)) fa_49 (by decide)) 19 rfl)]; exact congrArg (ar 19) (show v_54.toInt.toNat = (v_54.toInt.toNat) from by omega))).symm]); have hw9 : ((mm_D w9 fv ar) 1 (pp.toInt.toNat)).toInt.toNat = v_58.toInt.toNat := (by show (ar 10 (pp.toInt.toNat)).toInt.toNat = _; rw [show ar 10 (pp.toInt.toNat) = v_58 from ((show v_58 = ar 10 (pp.toInt.toNat) from by rw [ev_58, show ar_47 10 = ar 10 from ((fA_call (fA_call (fA_put (fA_call (fA_rf [4, 82] _) fa_5 (by decide)) ear_22 (by decide)) fa_31 (by decide)) fa_49 (by decide)) 10 rfl)]; exact congrArg (ar 10) (show pp.toInt.toNat = (pp.toInt.toNat) from by omega))).symm]); have hm9 : ((mm_D w9 fv ar) 14 (v_20.toInt.toNat)).toInt = v_39.toInt := (by show (ar 28 _).toInt = _; rw [show ar 28 (v_20.toInt.toNat) = v_39 from ((show v_39 = ar 28 (v_20.toInt.toNat) from by rw [ev_39, show ar_29 28 = ar 28 from ((fA_call (fA_put (fA_call (fA_rf [4, 82] _) fa_5 (by decide)) ear_22 (by decide)) fa_31 (by decide)) 28 rfl)]; exact congrArg (ar 28) (show v_20.toInt.toNat = (v_20.toInt.toNat) from by omega))).symm]); have hft : mo_ft (mm_D w9 fv ar) G9 (pp.toInt.toNat) (mo_pc (mm_D w9 fv ar) (ar 15 (pp.toInt.toNat)) (pp.toInt.toNat)) (v_20.toInt.toNat) = v_39.toInt + r_41.toInt + mo_wk G9 (mo_pc (mm_D w9 fv ar) (ar 15 (pp.toInt.toNat)) (pp.toInt.toNat)) v_56.toInt.toNat v_58.toInt.toNat := (by unfold mo_ft mo_cm; rw [hc9, hw9, hm9, ← hdr9]); exact mm_it_0 (v := (100000 : Int32)) hor (by omega) q_9 (by rw [hk9]; exact (show mo_g (mm_D w9 fv ar) G9 (pp.toInt.toNat) (v_20.toInt.toNat) from (by have h9 := q_37; rw [show mm_D w9 fv_2 ar_22 = mm_D w9 fv ar from (mm_D_fr (fM_call (fM_rf [8] _) fr_3 (by decide)) (fA_put (fA_call (fA_rf [4, 82] _) fa_5 (by decide)) ear_22 (by decide)) rfl rfl)] at h9; exact h9))) (by rw [hk9]; exact (fun k9 h9 => by rw [(show ∀ i9, ar_66 82 i9 = if i9 = (v_20.toInt.toNat) then (100000 : Int32) else ar_4 82 i9 from (fun i9 => by rw [show ar_66 82 = ar_22 82 from ((fA_call (fA_call (fA_call (fA_rf [4] _) fa_31 (by decide)) fa_49 (by decide)) fa_68 (by decide)) 82 rfl), ear_22]; show (if i9 = Int32.toNatClampNeg v_20 then (100000 : Int32) else ar_4 82 i9) = _; rfl)) k9, if_neg h9])) (by rw [hk9]; exact (by rw [(show ∀ i9, ar_66 82 i9 = if i9 = (v_20.toInt.toNat) then (100000 : Int32) else ar_4 82 i9 from (fun i9 => by rw [show ar_66 82 = ar_22 82 from ((fA_call (fA_call (fA_call (fA_rf [4] _) fa_31 (by decide)) fa_49 (by decide)) fa_68 (by decide)) 82 rfl), ear_22]; show (if i9 = Int32.toNatClampNeg v_20 then (100000 : Int32) else ar_4 82 i9) = _; rfl)) (v_20.toInt.toNat), if_pos rfl])) (Or.inr (by decide)) (by rw [hk9]; exact (fun x9 hx9 => by rw [hft]; rcases p_62 with ⟨w1, w2⟩ | ⟨w1, w2⟩; omega; (unfold mo_wk mo_min; rw [if_pos (by omega), show ((100000 : Int32)).toInt = 100000 from by decide]; omega)))) (by omega) hP hS (lv_sub hl [4, 5, 6, 3, 2, 0] rfl)
            · skip
              have i_126 : 0 ≤ r_60.toInt ∧ r_60.toInt ≤ 99999 := iv_lt1 p_61 (⟨by decide, by decide⟩ : (100000 : Int) ≤ (100000 : Int32).toInt ∧ (100000 : Int32).toInt ≤ 100000) (Int32.not_le.mp c_69)
              refine lv_aload_n hx hb dX12_reckonWays_81 rfl (lv_at hl 3 rfl) ?_
              refine gM_82 hx hb htg hown hK hP dX12_reckonWays_82 ?_
              refine lv_iload_n hx hb dX12_reckonWays_85 rfl (lv_at hl 2 rfl) ?_
              refine lv_iload hx hb dX12_reckonWays_86 (lv_at hl 1 rfl) ?_
              refine lv_aload_n hx hb dX12_reckonWays_88 rfl (lv_at hl 3 rfl) ?_
              refine lv_iload_n hx hb dX12_reckonWays_89 rfl (lv_at hl 4 rfl) ?_
              refine lv_iload hx hb dX12_reckonWays_90 (lv_at hl 0 rfl) ?_
              refine lv_aload_n hx hb dX12_reckonWays_92 rfl (lv_at hl 3 rfl) ?_
              refine gM_10 hx hb htg hown hK hP dX12_reckonWays_93 ?_
              refine lv_iload_n hx hb dX12_reckonWays_96 rfl (lv_at hl 4 rfl) ?_
              refine lM_10 hx hb hK hP (iv_in h_pp (by decide) (by decide)) dX12_reckonWays_97 (fun v_127 ev_127 => ?_)
              obtain rfl : v_58 = v_127 := ev_58.trans ((congrFun ((fA_call (fA_rf [4] _) fa_68 (by decide)) 10 rfl) _).symm.trans ev_127.symm)
              refine va_calli (va_runV (As := [.int pp, .int v_56, .int v_58]) (rest := [.int v_51, .int v_20, .ref (ad 82)]) ⟨hx, hb, hml, hown, hts⟩ (m_walkE l dC dI H.size h ad cA hd fv_64 wd_65 ar_66 hF_fv_64 hA_ar_66 G9 w9 pp v_56 v_58 h_pp i_57 i_59 (mm_R_fr hp_8 (fM_call (fM_call (fM_call (fM_rf [8] _) fr_30 (by decide)) fr_48 (by decide)) fr_67 (by decide)) (fA_call (fA_call (fA_call (fA_put (fA_rf [4, 82] _) ear_22 (by decide)) fa_31 (by decide)) fa_49 (by decide)) fa_68 (by decide)) rfl rfl rfl rfl rfl rfl rfl rfl rfl rfl rfl) p_63) (cwV 3 hts (gV kw_8_208 kw_8_210 kw_p_92 kw_1_15 kw_8_211) rfl rfl rfl (by decide +kernel) ⟨Nat.le_of_ble_eq_true rfl, Nat.le_of_ble_eq_true rfl⟩) ⟨fun a U g mk q => ⟨q.1, q.2.1, q.2.2.1, va_K.moved (u := U) (U := U.calling g mk a) (Vm.Alike.refl U.vm) q.2.2.2⟩, va_recv hK hP (ci := 12) (q0 := 0) rfl rfl, fun U hU hW => ⟨rfl, by rw [hU], by rw [hU]; exact hP, va_K.moved hW.alike hK⟩⟩ rfl rfl hl.1 rfl (lv_room (Nat.le_of_ble_eq_true rfl)) dX12_reckonWays_98 ⟨Nat.le_of_ble_eq_true rfl, Nat.le_of_ble_eq_true rfl⟩) hS (fun q _ h9 => aM_up hS q h9) (aM_up hS) (fun r_128 u t H1 locs ht _ hw hB _ hk1 hS => ?_)
              obtain ⟨fv_132, wd_133, ar_134⟩ := u
              obtain ⟨hF_fv_132, hA_ar_134, fr_135, fa_136, p_129, p_130, p_131, -⟩ := hw
              have hP : va_P (dC, dI) vwCl (wsM h ad cA fv_132 wd_133 ar_134) H1 := by have h9 := hB.1; rw [ht] at h9; exact h9
              have fr_135 : fM [8] fv_64 fv_132 := fr_135
              have fa_136 : fA [4] ar_66 ar_134 := fa_136
              have p_131 : wt_fm G9 (fv_132 8) (ar_134 4) := p_131
              have p_130 : mm_w G9 (mo_pc (mm_D w9 fv_64 ar_66) (ar_66 15 (pp.toInt.toNat)) (pp.toInt.toNat)) v_56.toInt.toNat v_58.toInt.toNat r_128.toInt := p_130
              generalize H1 = H at hP hS ⊢
              have wk_137 : mm_w G9 (mo_pc (mm_D w9 fv ar) (ar 15 (pp.toInt.toNat)) (pp.toInt.toNat)) (v_56.toInt.toNat) (v_58.toInt.toNat) r_128.toInt := (by have h9 := p_130; rw [show mm_D w9 fv_64 ar_66 = mm_D w9 fv ar from (mm_D_fr (fM_call (fM_call (fM_call (fM_call (fM_rf [8] _) fr_3 (by decide)) fr_30 (by decide)) fr_48 (by decide)) fr_67 (by decide)) (fA_call (fA_call (fA_call (fA_put (fA_call (fA_rf [4, 82] _) fa_5 (by decide)) ear_22 (by decide)) fa_31 (by decide)) fa_49 (by decide)) fa_68 (by decide)) rfl rfl), show ar_66 15 = ar 15 from ((fA_call (fA_call (fA_call (fA_put (fA_call (fA_rf [4, 82] _) fa_5 (by decide)) ear_22 (by decide)) fa_31 (by decide)) fa_49 (by decide)) fa_68 (by decide)) 15 rfl)] at h9; exact h9)
              refine lv_iadd hx hb dX12_reckonWays_101 ?_
              refine lv_topi (fun v_138 ev_138 => ?_)
              have t_139 : v_138.toInt = v_51.toInt + r_128.toInt ∧ 1 ≤ v_138.toInt ∧ v_138.toInt ≤ 650719 := iv_add ev_138 t_52.2 p_129 (by decide) (by decide)
              refine sM_82 hx hb hK hP hS hd (iv_in i_21 (by decide) (by decide)) dX12_reckonWays_102 (fun H locs ar_141 ear_141 hP hS => ?_)
              have hA_ar_141 : rA ar_141 := rA_put hA_ar_134 ear_141 (iv_any _)
              refine lv_iconst (v := 0) hx hb dX12_reckonWays_103 (by decide) ?_
              refine lv_istore (lv' := [(6, .int 0), (5, .int v_56), (4, .int v_51), (3, .int v_20), (0, .ref h), (1, .int pp), (2, .int x_1)]) hx hb dX12_reckonWays_104 hl (by decide) rfl (fun ls hl => ?_)
              refine my_cut (P := fun R9 a9 Q9 => ∀ (n_149 : Nat) (x_142 : Int32) (ar_143 : Nat → Nat → Int32) (H : Heap) (locs : List Loc) (ls : Array Slot), 79 - x_142.toInt < (n_149 : Int) → (0 ≤ x_142.toInt ∧ x_142.toInt ≤ 79) → rA ar_143 → fA [82] ar_141 ar_143 → wt_fm G9 (fv_132 8) (ar_143 4) → mm_R G9 fv_132 ar_143 → (mm_it (mm_D w9 fv ar) G9 (pp.toInt.toNat) (mo_pc (mm_D w9 fv ar) (ar 15 (pp.toInt.toNat)) (pp.toInt.toNat)) (x_1.toInt.toNat) (x_142.toInt.toNat) (ar 83) (ar_143 82)) → (x_142.toInt ≤ x_1.toInt) → va_P (dC, dI) vwCl (wsM h ad cA fv_132 wd_133 ar_143) H → va_S (aM h ad s.heap.size) s.heap H locs → lv_has ls 8 [(0, .ref h), (1, .int pp), (2, .int x_1), (3, .int v_20), (4, .int v_51), (6, .int x_142)] → W p l e R9 s m a9 below meth c H locs 0 0 Q9 (F0 m 106 ls [])) ?_ (fun hj_151 => ?_)
              · intro n_149
                induction n_149 with
                | zero => intro x_142 ar_143 H locs ls fu_150 i_x_142 hA_ar_143 fa_144 hp_145 hp_146 q_147 q_148; exfalso; omega
                | succ n_149 ih_149 =>
                  intro x_142 ar_143 H locs ls fu_150 i_x_142 hA_ar_143 fa_144 hp_145 hp_146 q_147 q_148 hP hS hl
                  refine lv_iload hx hb dX12_reckonWays_106 (lv_at hl 5 rfl) ?_
                  refine lv_iload_n hx hb dX12_reckonWays_108 rfl (lv_at hl 2 rfl) ?_
                  refine lv_icmp_ge (tgt := 184) hx hb dX12_reckonWays_109 (by decide) (fun c_152 => ?_) (fun c_152 => ?_)
                  · skip
                    have k_153 := Int32.le_iff_toInt_le.mp c_152
                    obtain ⟨v_154, ev_154⟩ : ∃ z : Int32, z = x_1 + 1 := ⟨_, rfl⟩
                    refine lv_iinc (v := v_154) (lv' := [(2, .int v_154), (0, .ref h), (1, .int pp), (3, .int v_20), (4, .int v_51), (6, .int x_142)]) hx hb dX12_reckonWays_184 hl (k := 2) rfl (by rw [ev_154]; rfl) (by decide) rfl (fun ls hl => ?_)
                    have t_155 : v_154.toInt = x_1.toInt + 1 ∧ 1 ≤ v_154.toInt ∧ v_154.toInt ≤ 80 := iv_addc ev_154 i_17 (by decide) (by decide) (by decide)
                    refine lv_goto (tgt := 2) hx hb dX12_reckonWays_187 (by decide) ?_
                    have z_201 : (fv_132 87).toInt = (fv 87).toInt := congrArg Int32.toInt ((fr_135 87 rfl).trans ((fr_67 87 rfl).trans ((fr_48 87 rfl).trans ((fr_30 87 rfl).trans ((fr_3 87 rfl))))))
                    have z_202 : 0 ≤ (fv_132 87).toInt ∧ (fv_132 87).toInt ≤ 80 := hF_fv_132 87
                    exact ih_11 v_154 fv_132 ar_143 wd_133 _ _ ls (by omega) (iv_w t_155.2 (by decide) (by decide)) hF_fv_132 (fM_call (fM_call (fM_call (fM_call (fM_call (fM_rf [8] _) fr_3 (by decide)) fr_30 (by decide)) fr_48 (by decide)) fr_67 (by decide)) fr_135 (by decide)) hA_ar_143 (fA_call (fA_put (fA_call (fA_call (fA_call (fA_call (fA_put (fA_call (fA_rf [4, 82] _) fa_5 (by decide)) ear_22 (by decide)) fa_31 (by decide)) fa_49 (by decide)) fa_68 (by decide)) fa_136 (by decide)) ear_141 (by decide)) fa_144 (by decide)) hp_145 hp_146 (by rw [show v_154.toInt.toNat = (x_1.toInt.toNat) + 1 from by omega]; exact mm_it_e q_147 (by omega)) (by omega) hP hS (lv_sub hl [1, 2, 0] rfl)
                  · skip
                    have i_157 : 0 ≤ x_142.toInt ∧ x_142.toInt ≤ 78 := iv_lt1 i_x_142 i_17 (Int32.not_le.mp c_152)
                    have i_158 : 1 ≤ x_1.toInt ∧ x_1.toInt ≤ 79 := iv_lt2 i_x_142 i_17 (Int32.not_le.mp c_152)
                    have k_159 := Int32.lt_iff_toInt_lt.mp (Int32.not_le.mp c_152)
                    refine lv_aload_n hx hb dX12_reckonWays_112 rfl (lv_at hl 0 rfl) ?_
                    refine gM_83 hx hb htg hown hK hP dX12_reckonWays_113 ?_
                    refine lv_iload hx hb dX12_reckonWays_116 (lv_at hl 5 rfl) ?_
                    refine lM_83 hx hb hK hP (iv_in i_157 (by decide) (by decide)) dX12_reckonWays_118 (fun v_160 ev_160 => ?_)
                    have i_161 : 0 ≤ v_160.toInt ∧ v_160.toInt ≤ 79 := ev_160 ▸ hA_ar_143 83 _
                    refine lv_istore (lv' := [(7, .int v_160), (0, .ref h), (1, .int pp), (2, .int x_1), (3, .int v_20), (4, .int v_51), (6, .int x_142)]) hx hb dX12_reckonWays_119 hl (by decide) rfl (fun ls hl => ?_)
                    refine lv_aload_n hx hb dX12_reckonWays_121 rfl (lv_at hl 1 rfl) ?_
                    refine gM_26 hx hb htg hown hK hP dX12_reckonWays_122 ?_
                    refine lv_iload hx hb dX12_reckonWays_125 (lv_at hl 0 rfl) ?_
                    refine lM_26 hx hb hK hP (iv_in i_161 (by decide) (by decide)) dX12_reckonWays_127 (fun v_162 ev_162 => ?_)
                    have i_163 : 0 ≤ v_162.toInt ∧ v_162.toInt ≤ 7 := ev_162 ▸ hA_ar_143 26 _
                    refine lv_aload_n hx hb dX12_reckonWays_128 rfl (lv_at hl 1 rfl) ?_
                    refine gM_27 hx hb htg hown hK hP dX12_reckonWays_129 ?_
                    refine lv_iload_n hx hb dX12_reckonWays_132 rfl (lv_at hl 4 rfl) ?_
                    refine lM_27 hx hb hK hP (iv_in i_21 (by decide) (by decide)) dX12_reckonWays_133 (fun v_164 ev_164 => ?_)
                    obtain rfl : v_54 = v_164 := ev_54.trans ((congrFun ((fA_call (fA_put (fA_call (fA_call (fA_rf [4, 82] _) fa_68 (by decide)) fa_136 (by decide)) ear_141 (by decide)) fa_144 (by decide)) 27 rfl) _).symm.trans ev_164.symm)
                    refine lv_icmp_ne (tgt := 178) hx hb dX12_reckonWays_134 (by decide) (fun c_165 => ?_) (fun c_165 => ?_)
                    · skip
                      have k_166 : ¬ v_162.toInt = v_54.toInt := fun q => c_165 (Int32.toInt_inj.mp q)
                      obtain ⟨v_167, ev_167⟩ : ∃ z : Int32, z = x_142 + 1 := ⟨_, rfl⟩
                      refine lv_iinc (v := v_167) (lv' := [(6, .int v_167), (7, .int v_160), (0, .ref h), (1, .int pp), (2, .int x_1), (3, .int v_20), (4, .int v_51)]) hx hb dX12_reckonWays_178 hl (k := 6) rfl (by rw [ev_167]; rfl) (by decide) rfl (fun ls hl => ?_)
                      have t_168 : v_167.toInt = x_142.toInt + 1 ∧ 1 ≤ v_167.toInt ∧ v_167.toInt ≤ 79 := iv_addc ev_167 i_157 (by decide) (by decide) (by decide)
                      refine lv_goto (tgt := 106) hx hb dX12_reckonWays_181 (by decide) ?_
                      exact ih_149 v_167 ar_143 _ _ ls (by omega) (iv_w t_168.2 (by decide) (by decide)) hA_ar_143 (fA_call (fA_rf [82] _) fa_144 (by decide)) hp_145 hp_146 (by rw [show v_167.toInt.toNat = (x_142.toInt.toNat) + 1 from by omega]; have hk9 := (show ar 83 (x_1.toInt.toNat) = v_20 from by rw [ev_20, show ar_4 83 = ar 83 from ((fA_call (fA_rf [4, 82] _) fa_5 (by decide)) 83 rfl)]; exact congrArg (ar 83) (show (x_1.toInt.toNat) = x_1.toInt.toNat from by omega)); have hq9 := (show ar 83 (x_142.toInt.toNat) = v_160 from by rw [ev_160, show ar_143 83 = ar 83 from ((fA_call (fA_put (fA_call (fA_call (fA_call (fA_call (fA_put (fA_call (fA_rf [4, 82] _) fa_5 (by decide)) ear_22 (by decide)) fa_31 (by decide)) fa_49 (by decide)) fa_68 (by decide)) fa_136 (by decide)) ear_141 (by decide)) fa_144 (by decide)) 83 rfl)]; exact congrArg (ar 83) (show (x_142.toInt.toNat) = x_142.toInt.toNat from by omega)); have h12 : (mm_D w9 fv ar) 12 (v_160.toInt.toNat) = v_162 := (by show ar 26 _ = _; exact ((show v_162 = ar 26 (v_160.toInt.toNat) from by rw [ev_162, show ar_143 26 = ar 26 from ((fA_call (fA_put (fA_call (fA_call (fA_call (fA_call (fA_put (fA_call (fA_rf [4, 82] _) fa_5 (by decide)) ear_22 (by decide)) fa_31 (by decide)) fa_49 (by decide)) fa_68 (by decide)) fa_136 (by decide)) ear_141 (by decide)) fa_144 (by decide)) 26 rfl)]; exact congrArg (ar 26) (show v_160.toInt.toNat = (v_160.toInt.toNat) from by omega))).symm); have h13 : (mm_D w9 fv ar) 13 (v_20.toInt.toNat) = v_54 := (by show ar 27 _ = _; exact ((show v_54 = ar 27 (v_20.toInt.toNat) from by rw [ev_54, show ar_47 27 = ar 27 from ((fA_call (fA_call (fA_put (fA_call (fA_rf [4, 82] _) fa_5 (by decide)) ear_22 (by decide)) fa_31 (by decide)) fa_49 (by decide)) 27 rfl)]; exact congrArg (ar 27) (show v_20.toInt.toNat = (v_20.toInt.toNat) from by omega))).symm); exact mm_it_s q_147 (fun w9_ => by obtain ⟨w1, w2, w3⟩ := w9_; rw [hk9, hq9, h12, h13] at w1; omega)) (by omega) hP hS (lv_sub hl [2, 3, 4, 5, 6, 0] rfl)
                    · skip
                      have k_170 := congrArg Int32.toInt c_165
                      refine lv_aload_n hx hb dX12_reckonWays_137 rfl (lv_at hl 1 rfl) ?_
                      refine gM_28 hx hb htg hown hK hP dX12_reckonWays_138 ?_
                      refine lv_iload hx hb dX12_reckonWays_141 (lv_at hl 0 rfl) ?_
                      refine lM_28 hx hb hK hP (iv_in i_161 (by decide) (by decide)) dX12_reckonWays_143 (fun v_171 ev_171 => ?_)
                      have i_172 : 0 ≤ v_171.toInt ∧ v_171.toInt ≤ 719 := (by rw [ev_171, show ar_143 28 = ar 28 from ((fA_call (fA_put (fA_call (fA_call (fA_call (fA_call (fA_put (fA_call (fA_rf [4, 82] _) fa_5 (by decide)) ear_22 (by decide)) fa_31 (by decide)) fa_49 (by decide)) fa_68 (by decide)) fa_136 (by decide)) ear_141 (by decide)) fa_144 (by decide)) 28 rfl)]; exact hp_nR.1.2.2.1 _)
                      refine lv_iload hx hb dX12_reckonWays_144 (lv_at hl 5 rfl) ?_
                      refine lv_icmp_lt (tgt := 178) hx hb dX12_reckonWays_146 (by decide) (fun c_173 => ?_) (fun c_173 => ?_)
                      · skip
                        have k_174 := Int32.lt_iff_toInt_lt.mp c_173
                        obtain ⟨v_175, ev_175⟩ : ∃ z : Int32, z = x_142 + 1 := ⟨_, rfl⟩
                        refine lv_iinc (v := v_175) (lv' := [(6, .int v_175), (7, .int v_160), (0, .ref h), (1, .int pp), (2, .int x_1), (3, .int v_20), (4, .int v_51)]) hx hb dX12_reckonWays_178 hl (k := 6) rfl (by rw [ev_175]; rfl) (by decide) rfl (fun ls hl => ?_)
                        have t_176 : v_175.toInt = x_142.toInt + 1 ∧ 1 ≤ v_175.toInt ∧ v_175.toInt ≤ 79 := iv_addc ev_175 i_157 (by decide) (by decide) (by decide)
                        refine lv_goto (tgt := 106) hx hb dX12_reckonWays_181 (by decide) ?_
                        exact ih_149 v_175 ar_143 _ _ ls (by omega) (iv_w t_176.2 (by decide) (by decide)) hA_ar_143 (fA_call (fA_rf [82] _) fa_144 (by decide)) hp_145 hp_146 (by rw [show v_175.toInt.toNat = (x_142.toInt.toNat) + 1 from by omega]; have hk9 := (show ar 83 (x_1.toInt.toNat) = v_20 from by rw [ev_20, show ar_4 83 = ar 83 from ((fA_call (fA_rf [4, 82] _) fa_5 (by decide)) 83 rfl)]; exact congrArg (ar 83) (show (x_1.toInt.toNat) = x_1.toInt.toNat from by omega)); have hq9 := (show ar 83 (x_142.toInt.toNat) = v_160 from by rw [ev_160, show ar_143 83 = ar 83 from ((fA_call (fA_put (fA_call (fA_call (fA_call (fA_call (fA_put (fA_call (fA_rf [4, 82] _) fa_5 (by decide)) ear_22 (by decide)) fa_31 (by decide)) fa_49 (by decide)) fa_68 (by decide)) fa_136 (by decide)) ear_141 (by decide)) fa_144 (by decide)) 83 rfl)]; exact congrArg (ar 83) (show (x_142.toInt.toNat) = x_142.toInt.toNat from by omega)); have h12 : (mm_D w9 fv ar) 12 (v_160.toInt.toNat) = v_162 := (by show ar 26 _ = _; exact ((show v_162 = ar 26 (v_160.toInt.toNat) from by rw [ev_162, show ar_143 26 = ar 26 from ((fA_call (fA_put (fA_call (fA_call (fA_call (fA_call (fA_put (fA_call (fA_rf [4, 82] _) fa_5 (by decide)) ear_22 (by decide)) fa_31 (by decide)) fa_49 (by decide)) fa_68 (by decide)) fa_136 (by decide)) ear_141 (by decide)) fa_144 (by decide)) 26 rfl)]; exact congrArg (ar 26) (show v_160.toInt.toNat = (v_160.toInt.toNat) from by omega))).symm); have h13 : (mm_D w9 fv ar) 13 (v_20.toInt.toNat) = v_54 := (by show ar 27 _ = _; exact ((show v_54 = ar 27 (v_20.toInt.toNat) from by rw [ev_54, show ar_47 27 = ar 27 from ((fA_call (fA_call (fA_put (fA_call (fA_rf [4, 82] _) fa_5 (by decide)) ear_22 (by decide)) fa_31 (by decide)) fa_49 (by decide)) 27 rfl)]; exact congrArg (ar 27) (show v_20.toInt.toNat = (v_20.toInt.toNat) from by omega))).symm); have h14 : ((mm_D w9 fv ar) 14 (v_160.toInt.toNat)).toInt = v_171.toInt := (by show (ar 28 _).toInt = _; rw [show ar 28 (v_160.toInt.toNat) = v_171 from ((show v_171 = ar 28 (v_160.toInt.toNat) from by rw [ev_171, show ar_143 28 = ar 28 from ((fA_call (fA_put (fA_call (fA_call (fA_call (fA_call (fA_put (fA_call (fA_rf [4, 82] _) fa_5 (by decide)) ear_22 (by decide)) fa_31 (by decide)) fa_49 (by decide)) fa_68 (by decide)) fa_136 (by decide)) ear_141 (by decide)) fa_144 (by decide)) 28 rfl)]; exact congrArg (ar 28) (show v_160.toInt.toNat = (v_160.toInt.toNat) from by omega))).symm]); have hcm : mo_cm (mm_D w9 fv ar) G9 (v_20.toInt.toNat) = v_39.toInt + r_41.toInt := (by unfold mo_cm; rw [← dr_50 ((show mo_g (mm_D w9 fv ar) G9 (pp.toInt.toNat) (v_20.toInt.toNat) from (by have h9 := q_37; rw [show mm_D w9 fv_2 ar_22 = mm_D w9 fv ar from (mm_D_fr (fM_call (fM_rf [8] _) fr_3 (by decide)) (fA_put (fA_call (fA_rf [4, 82] _) fa_5 (by decide)) ear_22 (by decide)) rfl rfl)] at h9; exact h9))).1.2, show ((mm_D w9 fv ar) 14 (v_20.toInt.toNat)).toInt = v_39.toInt from (by show (ar 28 _).toInt = _; rw [show ar 28 (v_20.toInt.toNat) = v_39 from ((show v_39 = ar 28 (v_20.toInt.toNat) from by rw [ev_39, show ar_29 28 = ar 28 from ((fA_call (fA_put (fA_call (fA_rf [4, 82] _) fa_5 (by decide)) ear_22 (by decide)) fa_31 (by decide)) 28 rfl)]; exact congrArg (ar 28) (show v_20.toInt.toNat = (v_20.toInt.toNat) from by omega))).symm])]); exact mm_it_s q_147 (fun w9_ => by obtain ⟨w1, w2, w3⟩ := w9_; rw [hk9, hq9, h12, h13] at w1; rw [hk9, hq9, hcm, h14] at w2; omega)) (by omega) hP hS (lv_sub hl [2, 3, 4, 5, 6, 0] rfl)
                      · skip
                        have i_178 : 1 ≤ v_51.toInt ∧ v_51.toInt ≤ 719 := iv_le1 t_52.2 i_172 (Int32.not_lt.mp c_173)
                        have i_179 : 1 ≤ v_171.toInt ∧ v_171.toInt ≤ 719 := iv_le2 t_52.2 i_172 (Int32.not_lt.mp c_173)
                        have k_180 := Int32.le_iff_toInt_le.mp (Int32.not_lt.mp c_173)
                        refine lv_aload_n hx hb dX12_reckonWays_149 rfl (lv_at hl 1 rfl) ?_
                        refine gM_82 hx hb htg hown hK hP dX12_reckonWays_150 ?_
                        refine lv_iload hx hb dX12_reckonWays_153 (lv_at hl 0 rfl) ?_
                        refine lM_82 hx hb hK hP (iv_in i_161 (by decide) (by decide)) dX12_reckonWays_155 (fun v_181 ev_181 => ?_)
                        refine lv_aload_n hx hb dX12_reckonWays_156 rfl (lv_at hl 1 rfl) ?_
                        refine gM_82 hx hb htg hown hK hP dX12_reckonWays_157 ?_
                        refine lv_iload_n hx hb dX12_reckonWays_160 rfl (lv_at hl 4 rfl) ?_
                        refine lM_82 hx hb hK hP (iv_in i_21 (by decide) (by decide)) dX12_reckonWays_161 (fun v_182 ev_182 => ?_)
                        refine lv_icmp_ge (tgt := 178) hx hb dX12_reckonWays_162 (by decide) (fun c_183 => ?_) (fun c_183 => ?_)
                        · skip
                          have k_184 := Int32.le_iff_toInt_le.mp c_183
                          obtain ⟨v_185, ev_185⟩ : ∃ z : Int32, z = x_142 + 1 := ⟨_, rfl⟩
                          refine lv_iinc (v := v_185) (lv' := [(6, .int v_185), (7, .int v_160), (0, .ref h), (1, .int pp), (2, .int x_1), (3, .int v_20), (4, .int v_51)]) hx hb dX12_reckonWays_178 hl (k := 6) rfl (by rw [ev_185]; rfl) (by decide) rfl (fun ls hl => ?_)
                          have t_186 : v_185.toInt = x_142.toInt + 1 ∧ 1 ≤ v_185.toInt ∧ v_185.toInt ≤ 79 := iv_addc ev_185 i_157 (by decide) (by decide) (by decide)
                          refine lv_goto (tgt := 106) hx hb dX12_reckonWays_181 (by decide) ?_
                          exact ih_149 v_185 ar_143 _ _ ls (by omega) (iv_w t_186.2 (by decide) (by decide)) hA_ar_143 (fA_call (fA_rf [82] _) fa_144 (by decide)) hp_145 hp_146 (by rw [show v_185.toInt.toNat = (x_142.toInt.toNat) + 1 from by omega]; have hk9 := (show ar 83 (x_1.toInt.toNat) = v_20 from by rw [ev_20, show ar_4 83 = ar 83 from ((fA_call (fA_rf [4, 82] _) fa_5 (by decide)) 83 rfl)]; exact congrArg (ar 83) (show (x_1.toInt.toNat) = x_1.toInt.toNat from by omega)); have hq9 := (show ar 83 (x_142.toInt.toNat) = v_160 from by rw [ev_160, show ar_143 83 = ar 83 from ((fA_call (fA_put (fA_call (fA_call (fA_call (fA_call (fA_put (fA_call (fA_rf [4, 82] _) fa_5 (by decide)) ear_22 (by decide)) fa_31 (by decide)) fa_49 (by decide)) fa_68 (by decide)) fa_136 (by decide)) ear_141 (by decide)) fa_144 (by decide)) 83 rfl)]; exact congrArg (ar 83) (show (x_142.toInt.toNat) = x_142.toInt.toNat from by omega)); have h12 : (mm_D w9 fv ar) 12 (v_160.toInt.toNat) = v_162 := (by show ar 26 _ = _; exact ((show v_162 = ar 26 (v_160.toInt.toNat) from by rw [ev_162, show ar_143 26 = ar 26 from ((fA_call (fA_put (fA_call (fA_call (fA_call (fA_call (fA_put (fA_call (fA_rf [4, 82] _) fa_5 (by decide)) ear_22 (by decide)) fa_31 (by decide)) fa_49 (by decide)) fa_68 (by decide)) fa_136 (by decide)) ear_141 (by decide)) fa_144 (by decide)) 26 rfl)]; exact congrArg (ar 26) (show v_160.toInt.toNat = (v_160.toInt.toNat) from by omega))).symm); have h13 : (mm_D w9 fv ar) 13 (v_20.toInt.toNat) = v_54 := (by show ar 27 _ = _; exact ((show v_54 = ar 27 (v_20.toInt.toNat) from by rw [ev_54, show ar_47 27 = ar 27 from ((fA_call (fA_call (fA_put (fA_call (fA_rf [4, 82] _) fa_5 (by decide)) ear_22 (by decide)) fa_31 (by decide)) fa_49 (by decide)) 27 rfl)]; exact congrArg (ar 27) (show v_20.toInt.toNat = (v_20.toInt.toNat) from by omega))).symm); have h14 : ((mm_D w9 fv ar) 14 (v_160.toInt.toNat)).toInt = v_171.toInt := (by show (ar 28 _).toInt = _; rw [show ar 28 (v_160.toInt.toNat) = v_171 from ((show v_171 = ar 28 (v_160.toInt.toNat) from by rw [ev_171, show ar_143 28 = ar 28 from ((fA_call (fA_put (fA_call (fA_call (fA_call (fA_call (fA_put (fA_call (fA_rf [4, 82] _) fa_5 (by decide)) ear_22 (by decide)) fa_31 (by decide)) fa_49 (by decide)) fa_68 (by decide)) fa_136 (by decide)) ear_141 (by decide)) fa_144 (by decide)) 28 rfl)]; exact congrArg (ar 28) (show v_160.toInt.toNat = (v_160.toInt.toNat) from by omega))).symm]); have hcm : mo_cm (mm_D w9 fv ar) G9 (v_20.toInt.toNat) = v_39.toInt + r_41.toInt := (by unfold mo_cm; rw [← dr_50 ((show mo_g (mm_D w9 fv ar) G9 (pp.toInt.toNat) (v_20.toInt.toNat) from (by have h9 := q_37; rw [show mm_D w9 fv_2 ar_22 = mm_D w9 fv ar from (mm_D_fr (fM_call (fM_rf [8] _) fr_3 (by decide)) (fA_put (fA_call (fA_rf [4, 82] _) fa_5 (by decide)) ear_22 (by decide)) rfl rfl)] at h9; exact h9))).1.2, show ((mm_D w9 fv ar) 14 (v_20.toInt.toNat)).toInt = v_39.toInt from (by show (ar 28 _).toInt = _; rw [show ar 28 (v_20.toInt.toNat) = v_39 from ((show v_39 = ar 28 (v_20.toInt.toNat) from by rw [ev_39, show ar_29 28 = ar 28 from ((fA_call (fA_put (fA_call (fA_rf [4, 82] _) fa_5 (by decide)) ear_22 (by decide)) fa_31 (by decide)) 28 rfl)]; exact congrArg (ar 28) (show v_20.toInt.toNat = (v_20.toInt.toNat) from by omega))).symm])]); have h82q : ar_143 82 (v_160.toInt.toNat) = v_181 := (by rw [ev_181]; exact congrArg (ar_143 82) (show v_160.toInt.toNat = v_160.toInt.toNat from by omega)); have h82k : ar_143 82 (v_20.toInt.toNat) = v_182 := (by rw [ev_182]; exact congrArg (ar_143 82) (show v_20.toInt.toNat = v_20.toInt.toNat from by omega)); exact mm_it_s q_147 (fun w9_ => by obtain ⟨w1, w2, w3⟩ := w9_; rw [hk9, hq9, h12, h13] at w1; rw [hk9, hq9, hcm, h14] at w2; rw [hk9, hq9, h82q, h82k] at w3; omega)) (by omega) hP hS (lv_sub hl [2, 3, 4, 5, 6, 0] rfl)
                        · skip
                          have i_188 : (-2147483648) ≤ v_181.toInt ∧ v_181.toInt ≤ 2147483646 := iv_lt1 (iv_any v_181) (iv_any v_182) (Int32.not_le.mp c_183)
                          have i_189 : (-2147483647) ≤ v_182.toInt ∧ v_182.toInt ≤ 2147483647 := iv_lt2 (iv_any v_181) (iv_any v_182) (Int32.not_le.mp c_183)
                          have k_190 := Int32.lt_iff_toInt_lt.mp (Int32.not_le.mp c_183)
                          refine lv_aload_n hx hb dX12_reckonWays_165 rfl (lv_at hl 1 rfl) ?_
                          refine gM_82 hx hb htg hown hK hP dX12_reckonWays_166 ?_
                          refine lv_iload_n hx hb dX12_reckonWays_169 rfl (lv_at hl 4 rfl) ?_
                          refine lv_aload_n hx hb dX12_reckonWays_170 rfl (lv_at hl 1 rfl) ?_
                          refine gM_82 hx hb htg hown hK hP dX12_reckonWays_171 ?_
                          refine lv_iload hx hb dX12_reckonWays_174 (lv_at hl 0 rfl) ?_
                          refine lM_82 hx hb hK hP (iv_in i_161 (by decide) (by decide)) dX12_reckonWays_176 (fun v_191 ev_191 => ?_)
                          obtain rfl : v_181 = v_191 := ev_181.trans ev_191.symm
                          refine sM_82 hx hb hK hP hS hd (iv_in i_21 (by decide) (by decide)) dX12_reckonWays_177 (fun H locs ar_192 ear_192 hP hS => ?_)
                          have hA_ar_192 : rA ar_192 := rA_put hA_ar_143 ear_192 (iv_any _)
                          obtain ⟨v_193, ev_193⟩ : ∃ z : Int32, z = x_142 + 1 := ⟨_, rfl⟩
                          refine lv_iinc (v := v_193) (lv' := [(6, .int v_193), (7, .int v_160), (0, .ref h), (1, .int pp), (2, .int x_1), (3, .int v_20), (4, .int v_51)]) hx hb dX12_reckonWays_178 hl (k := 6) rfl (by rw [ev_193]; rfl) (by decide) rfl (fun ls hl => ?_)
                          have t_194 : v_193.toInt = x_142.toInt + 1 ∧ 1 ≤ v_193.toInt ∧ v_193.toInt ≤ 79 := iv_addc ev_193 i_157 (by decide) (by decide) (by decide)
                          refine lv_goto (tgt := 106) hx hb dX12_reckonWays_181 (by decide) ?_
                          exact ih_149 v_193 ar_192 _ _ ls (by omega) (iv_w t_194.2 (by decide) (by decide)) hA_ar_192 (fA_put (fA_call (fA_rf [82] _) fa_144 (by decide)) ear_192 (by decide)) (mF_fr hp_145 (fM_rf [] _) (fA_put (fA_rf [82] _) ear_192 (by decide)) rfl rfl) (mm_R_fr hp_146 (fM_rf [] _) (fA_put (fA_rf [82] _) ear_192 (by decide)) rfl rfl rfl rfl rfl rfl rfl rfl rfl rfl rfl) (by rw [show v_193.toInt.toNat = (x_142.toInt.toNat) + 1 from by omega]; have hk9 := (show ar 83 (x_1.toInt.toNat) = v_20 from by rw [ev_20, show ar_4 83 = ar 83 from ((fA_call (fA_rf [4, 82] _) fa_5 (by decide)) 83 rfl)]; exact congrArg (ar 83) (show (x_1.toInt.toNat) = x_1.toInt.toNat from by omega)); have hq9 := (show ar 83 (x_142.toInt.toNat) = v_160 from by rw [ev_160, show ar_143 83 = ar 83 from ((fA_call (fA_put (fA_call (fA_call (fA_call (fA_call (fA_put (fA_call (fA_rf [4, 82] _) fa_5 (by decide)) ear_22 (by decide)) fa_31 (by decide)) fa_49 (by decide)) fa_68 (by decide)) fa_136 (by decide)) ear_141 (by decide)) fa_144 (by decide)) 83 rfl)]; exact congrArg (ar 83) (show (x_142.toInt.toNat) = x_142.toInt.toNat from by omega)); have h12 : (mm_D w9 fv ar) 12 (v_160.toInt.toNat) = v_162 := (by show ar 26 _ = _; exact ((show v_162 = ar 26 (v_160.toInt.toNat) from by rw [ev_162, show ar_143 26 = ar 26 from ((fA_call (fA_put (fA_call (fA_call (fA_call (fA_call (fA_put (fA_call (fA_rf [4, 82] _) fa_5 (by decide)) ear_22 (by decide)) fa_31 (by decide)) fa_49 (by decide)) fa_68 (by decide)) fa_136 (by decide)) ear_141 (by decide)) fa_144 (by decide)) 26 rfl)]; exact congrArg (ar 26) (show v_160.toInt.toNat = (v_160.toInt.toNat) from by omega))).symm); have h13 : (mm_D w9 fv ar) 13 (v_20.toInt.toNat) = v_54 := (by show ar 27 _ = _; exact ((show v_54 = ar 27 (v_20.toInt.toNat) from by rw [ev_54, show ar_47 27 = ar 27 from ((fA_call (fA_call (fA_put (fA_call (fA_rf [4, 82] _) fa_5 (by decide)) ear_22 (by decide)) fa_31 (by decide)) fa_49 (by decide)) 27 rfl)]; exact congrArg (ar 27) (show v_20.toInt.toNat = (v_20.toInt.toNat) from by omega))).symm); have h14 : ((mm_D w9 fv ar) 14 (v_160.toInt.toNat)).toInt = v_171.toInt := (by show (ar 28 _).toInt = _; rw [show ar 28 (v_160.toInt.toNat) = v_171 from ((show v_171 = ar 28 (v_160.toInt.toNat) from by rw [ev_171, show ar_143 28 = ar 28 from ((fA_call (fA_put (fA_call (fA_call (fA_call (fA_call (fA_put (fA_call (fA_rf [4, 82] _) fa_5 (by decide)) ear_22 (by decide)) fa_31 (by decide)) fa_49 (by decide)) fa_68 (by decide)) fa_136 (by decide)) ear_141 (by decide)) fa_144 (by decide)) 28 rfl)]; exact congrArg (ar 28) (show v_160.toInt.toNat = (v_160.toInt.toNat) from by omega))).symm]); have hcm : mo_cm (mm_D w9 fv ar) G9 (v_20.toInt.toNat) = v_39.toInt + r_41.toInt := (by unfold mo_cm; rw [← dr_50 ((show mo_g (mm_D w9 fv ar) G9 (pp.toInt.toNat) (v_20.toInt.toNat) from (by have h9 := q_37; rw [show mm_D w9 fv_2 ar_22 = mm_D w9 fv ar from (mm_D_fr (fM_call (fM_rf [8] _) fr_3 (by decide)) (fA_put (fA_call (fA_rf [4, 82] _) fa_5 (by decide)) ear_22 (by decide)) rfl rfl)] at h9; exact h9))).1.2, show ((mm_D w9 fv ar) 14 (v_20.toInt.toNat)).toInt = v_39.toInt from (by show (ar 28 _).toInt = _; rw [show ar 28 (v_20.toInt.toNat) = v_39 from ((show v_39 = ar 28 (v_20.toInt.toNat) from by rw [ev_39, show ar_29 28 = ar 28 from ((fA_call (fA_put (fA_call (fA_rf [4, 82] _) fa_5 (by decide)) ear_22 (by decide)) fa_31 (by decide)) 28 rfl)]; exact congrArg (ar 28) (show v_20.toInt.toNat = (v_20.toInt.toNat) from by omega))).symm])]); have h82q : ar_143 82 (v_160.toInt.toNat) = v_181 := (by rw [ev_181]; exact congrArg (ar_143 82) (show v_160.toInt.toNat = v_160.toInt.toNat from by omega)); have h82k : ar_143 82 (v_20.toInt.toNat) = v_182 := (by rw [ev_182]; exact congrArg (ar_143 82) (show v_20.toInt.toNat = v_20.toInt.toNat from by omega)); exact mm_it_y hor (by omega) (by omega) q_147 (by rw [hk9, hq9, h12, h13]; omega) (by rw [hk9, hq9, hcm, h14]; omega) (by rw [hk9, hq9, h82q, h82k]; omega) (by rw [hk9, hq9, h82q]; exact (fun i9 => by rw [ear_192]; show (if i9 = Int32.toNatClampNeg v_20 then v_181 else ar_143 82 i9) = _; rfl))) (by omega) hP hS (lv_sub hl [2, 3, 4, 5, 6, 0] rfl)
              · skip
                have z_196 : (0 : Int32).toInt = 0 := by decide
                exact hj_151 80 0 ar_141 _ _ ls (by first | decide | omega) (iv_w (⟨by decide, by decide⟩ : (0 : Int) ≤ (0 : Int32).toInt ∧ (0 : Int32).toInt ≤ 0) (by decide) (by decide)) hA_ar_141 (fA_rf [82] _) (mF_fr p_131 (fM_rf [] _) (fA_put (fA_rf [82] _) ear_141 (by decide)) rfl rfl) (mm_R_fr hp_8 (fM_call (fM_call (fM_call (fM_call (fM_rf [8] _) fr_30 (by decide)) fr_48 (by decide)) fr_67 (by decide)) fr_135 (by decide)) (fA_put (fA_call (fA_call (fA_call (fA_call (fA_put (fA_rf [4, 82] _) ear_22 (by decide)) fa_31 (by decide)) fa_49 (by decide)) fa_68 (by decide)) fa_136 (by decide)) ear_141 (by decide)) rfl rfl rfl rfl rfl rfl rfl rfl rfl rfl rfl) (by rw [show (0 : Int32).toInt.toNat = 0 from by decide]; have hk9 := (show ar 83 (x_1.toInt.toNat) = v_20 from by rw [ev_20, show ar_4 83 = ar 83 from ((fA_call (fA_rf [4, 82] _) fa_5 (by decide)) 83 rfl)]; exact congrArg (ar 83) (show (x_1.toInt.toNat) = x_1.toInt.toNat from by omega)); have hl9 : mo_ln (mm_D w9 fv ar) G9 (v_20.toInt.toNat) < 10000000 := ((show mo_g (mm_D w9 fv ar) G9 (pp.toInt.toNat) (v_20.toInt.toNat) from (by have h9 := q_37; rw [show mm_D w9 fv_2 ar_22 = mm_D w9 fv ar from (mm_D_fr (fM_call (fM_rf [8] _) fr_3 (by decide)) (fA_put (fA_call (fA_rf [4, 82] _) fa_5 (by decide)) ear_22 (by decide)) rfl rfl)] at h9; exact h9))).1.2; have hdr9 := dr_50 hl9; have hdb9 := mo_dr_b (D := (mm_D w9 fv ar)) hp_nR.1 hp_nR.2.1 hl9; have hc9 : mo_ct (mm_D w9 fv ar) (v_20.toInt.toNat) = v_56.toInt.toNat := (by show (ar 19 (ar 27 (v_20.toInt.toNat)).toInt.toNat).toInt.toNat = _; rw [show ar 27 (v_20.toInt.toNat) = v_54 from ((show v_54 = ar 27 (v_20.toInt.toNat) from by rw [ev_54, show ar_47 27 = ar 27 from ((fA_call (fA_call (fA_put (fA_call (fA_rf [4, 82] _) fa_5 (by decide)) ear_22 (by decide)) fa_31 (by decide)) fa_49 (by decide)) 27 rfl)]; exact congrArg (ar 27) (show v_20.toInt.toNat = (v_20.toInt.toNat) from by omega))).symm, show ar 19 (v_54.toInt.toNat) = v_56 from ((show v_56 = ar 19 (v_54.toInt.toNat) from by rw [ev_56, show ar_47 19 = ar 19 from ((fA_call (fA_call (fA_put (fA_call (fA_rf [4, 82] _) fa_5 (by decide)) ear_22 (by decide)) fa_31 (by decide)) fa_49 (by decide)) 19 rfl)]; exact congrArg (ar 19) (show v_54.toInt.toNat = (v_54.toInt.toNat) from by omega))).symm]); have hw9 : ((mm_D w9 fv ar) 1 (pp.toInt.toNat)).toInt.toNat = v_58.toInt.toNat := (by show (ar 10 (pp.toInt.toNat)).toInt.toNat = _; rw [show ar 10 (pp.toInt.toNat) = v_58 from ((show v_58 = ar 10 (pp.toInt.toNat) from by rw [ev_58, show ar_47 10 = ar 10 from ((fA_call (fA_call (fA_put (fA_call (fA_rf [4, 82] _) fa_5 (by decide)) ear_22 (by decide)) fa_31 (by decide)) fa_49 (by decide)) 10 rfl)]; exact congrArg (ar 10) (show pp.toInt.toNat = (pp.toInt.toNat) from by omega))).symm]); have hm9 : ((mm_D w9 fv ar) 14 (v_20.toInt.toNat)).toInt = v_39.toInt := (by show (ar 28 _).toInt = _; rw [show ar 28 (v_20.toInt.toNat) = v_39 from ((show v_39 = ar 28 (v_20.toInt.toNat) from by rw [ev_39, show ar_29 28 = ar 28 from ((fA_call (fA_put (fA_call (fA_rf [4, 82] _) fa_5 (by decide)) ear_22 (by decide)) fa_31 (by decide)) 28 rfl)]; exact congrArg (ar 28) (show v_20.toInt.toNat = (v_20.toInt.toNat) from by omega))).symm]); have hft : mo_ft (mm_D w9 fv ar) G9 (pp.toInt.toNat) (mo_pc (mm_D w9 fv ar) (ar 15 (pp.toInt.toNat)) (pp.toInt.toNat)) (v_20.toInt.toNat) = v_39.toInt + r_41.toInt + mo_wk G9 (mo_pc (mm_D w9 fv ar) (ar 15 (pp.toInt.toNat)) (pp.toInt.toNat)) v_56.toInt.toNat v_58.toInt.toNat := (by unfold mo_ft mo_cm; rw [hc9, hw9, hm9, ← hdr9]); exact mm_it_0 (v := v_138) hor (by omega) q_9 (by rw [hk9]; exact (show mo_g (mm_D w9 fv ar) G9 (pp.toInt.toNat) (v_20.toInt.toNat) from (by have h9 := q_37; rw [show mm_D w9 fv_2 ar_22 = mm_D w9 fv ar from (mm_D_fr (fM_call (fM_rf [8] _) fr_3 (by decide)) (fA_put (fA_call (fA_rf [4, 82] _) fa_5 (by decide)) ear_22 (by decide)) rfl rfl)] at h9; exact h9))) (by rw [hk9]; exact (fun k9 h9 => by rw [(show ∀ i9, ar_141 82 i9 = if i9 = (v_20.toInt.toNat) then v_138 else ar_134 82 i9 from (fun i9 => by rw [ear_141]; show (if i9 = Int32.toNatClampNeg v_20 then v_138 else ar_134 82 i9) = _; rfl)) k9, if_neg h9, (show ∀ i9, ar_134 82 i9 = if i9 = (v_20.toInt.toNat) then (100000 : Int32) else ar_4 82 i9 from fun i9 => by rw [show ar_134 82 = ar_22 82 from ((fA_call (fA_call (fA_call (fA_call (fA_rf [4] _) fa_31 (by decide)) fa_49 (by decide)) fa_68 (by decide)) fa_136 (by decide)) 82 rfl), ear_22]; show (if i9 = Int32.toNatClampNeg v_20 then (100000 : Int32) else ar_4 82 i9) = _; rfl) k9, if_neg h9])) (by rw [hk9]; exact (by rw [(show ∀ i9, ar_141 82 i9 = if i9 = (v_20.toInt.toNat) then v_138 else ar_134 82 i9 from (fun i9 => by rw [ear_141]; show (if i9 = Int32.toNatClampNeg v_20 then v_138 else ar_134 82 i9) = _; rfl)) (v_20.toInt.toNat), if_pos rfl])) (Or.inl (by rcases wk_137 with ⟨w1, w2⟩ | ⟨w1, w2, w3⟩; (have hp9 := mm_pc_b (D := (mm_D w9 fv ar)) hp_nR.1 (ar 15 (pp.toInt.toNat)) (pp.toInt.toNat); have hb9 := mo_wk_b hp_nR.2.1 (pc := (mo_pc (mm_D w9 fv ar) (ar 15 (pp.toInt.toNat)) (pp.toInt.toNat))) (by omega) (by omega) (a := (v_56.toInt.toNat)) (b := (v_58.toInt.toNat)) (by omega) (by omega); omega); (rcases p_62 with ⟨w4, w5⟩ | ⟨w4, w5⟩ <;> omega))) (by rw [hk9]; exact (fun x9 hx9 => by rw [hft]; rcases wk_137 with ⟨w1, w2⟩ | ⟨w1, w2, w3⟩; (rw [← w2]; omega); (rcases p_62 with ⟨w4, w5⟩ | ⟨w4, w5⟩ <;> omega)))) (by omega) hP hS (lv_sub hl [4, 5, 6, 3, 2, 0] rfl)
          · skip
            exact absurd c_38 (by decide)
  · skip
    have z_203 : (0 : Int32).toInt = 0 := by decide
    have z_204 : 0 ≤ (fv 87).toInt ∧ (fv 87).toInt ≤ 80 := hF_fv 87
    exact hj_13 81 0 fv ar wd _ _ ls (by first | decide | omega) (iv_w (⟨by decide, by decide⟩ : (0 : Int) ≤ (0 : Int32).toInt ∧ (0 : Int32).toInt ≤ 0) (by decide) (by decide)) hF_fv (fM_rf [8] _) hA_ar (fA_rf [4, 82] _) hp_mF hp_nR (by rw [show (0 : Int32).toInt.toNat = 0 from by decide]; exact mm_mr_0 _ _ _ _ _ _) (by omega) hP hS (lv_sub hl [1, 2, 0] rfl)

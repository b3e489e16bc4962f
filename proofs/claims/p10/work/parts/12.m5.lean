theorem dX12_orderTrips_0 : decode cX12_orderTrips 0 = .ok (.aload_n 0, 1) := by decide +kernel
theorem dX12_orderTrips_1 : decode cX12_orderTrips 1 = .ok (.iconst 0, 1) := by decide +kernel
theorem dX12_orderTrips_2 : decode cX12_orderTrips 2 = .ok (.putfield 429, 3) := by decide +kernel
theorem dX12_orderTrips_5 : decode cX12_orderTrips 5 = .ok (.sipush 719, 3) := by decide +kernel
theorem dX12_orderTrips_8 : decode cX12_orderTrips 8 = .ok (.istore_n 1, 1) := by decide +kernel
theorem dX12_orderTrips_9 : decode cX12_orderTrips 9 = .ok (.iload_n 1, 1) := by decide +kernel
theorem dX12_orderTrips_10 : decode cX12_orderTrips 10 = .ok (.ifCond .lt 66, 3) := by decide +kernel
theorem dX12_orderTrips_13 : decode cX12_orderTrips 13 = .ok (.iconst 0, 1) := by decide +kernel
theorem dX12_orderTrips_14 : decode cX12_orderTrips 14 = .ok (.istore_n 2, 1) := by decide +kernel
theorem dX12_orderTrips_15 : decode cX12_orderTrips 15 = .ok (.iload_n 2, 1) := by decide +kernel
theorem dX12_orderTrips_16 : decode cX12_orderTrips 16 = .ok (.aload_n 0, 1) := by decide +kernel
theorem dX12_orderTrips_17 : decode cX12_orderTrips 17 = .ok (.getfield 269, 3) := by decide +kernel
theorem dX12_orderTrips_20 : decode cX12_orderTrips 20 = .ok (.if_icmp .ge 50, 3) := by decide +kernel
theorem dX12_orderTrips_23 : decode cX12_orderTrips 23 = .ok (.aload_n 0, 1) := by decide +kernel
theorem dX12_orderTrips_24 : decode cX12_orderTrips 24 = .ok (.getfield 76, 3) := by decide +kernel
theorem dX12_orderTrips_27 : decode cX12_orderTrips 27 = .ok (.iload_n 2, 1) := by decide +kernel
theorem dX12_orderTrips_28 : decode cX12_orderTrips 28 = .ok (.iaload, 1) := by decide +kernel
theorem dX12_orderTrips_29 : decode cX12_orderTrips 29 = .ok (.iload_n 1, 1) := by decide +kernel
theorem dX12_orderTrips_30 : decode cX12_orderTrips 30 = .ok (.if_icmp .ne 34, 3) := by decide +kernel
theorem dX12_orderTrips_33 : decode cX12_orderTrips 33 = .ok (.aload_n 0, 1) := by decide +kernel
theorem dX12_orderTrips_34 : decode cX12_orderTrips 34 = .ok (.iload_n 2, 1) := by decide +kernel
theorem dX12_orderTrips_35 : decode cX12_orderTrips 35 = .ok (.invokevirtual 426, 3) := by decide +kernel
theorem dX12_orderTrips_38 : decode cX12_orderTrips 38 = .ok (.ifCond .ne 6, 3) := by decide +kernel
theorem dX12_orderTrips_41 : decode cX12_orderTrips 41 = .ok (.goto 23, 3) := by decide +kernel
theorem dX12_orderTrips_44 : decode cX12_orderTrips 44 = .ok (.aload_n 0, 1) := by decide +kernel
theorem dX12_orderTrips_45 : decode cX12_orderTrips 45 = .ok (.getfield 180, 3) := by decide +kernel
theorem dX12_orderTrips_48 : decode cX12_orderTrips 48 = .ok (.aload_n 0, 1) := by decide +kernel
theorem dX12_orderTrips_49 : decode cX12_orderTrips 49 = .ok (.getfield 429, 3) := by decide +kernel
theorem dX12_orderTrips_52 : decode cX12_orderTrips 52 = .ok (.iload_n 2, 1) := by decide +kernel
theorem dX12_orderTrips_53 : decode cX12_orderTrips 53 = .ok (.iastore, 1) := by decide +kernel
theorem dX12_orderTrips_54 : decode cX12_orderTrips 54 = .ok (.aload_n 0, 1) := by decide +kernel
theorem dX12_orderTrips_55 : decode cX12_orderTrips 55 = .ok (.dup, 1) := by decide +kernel
theorem dX12_orderTrips_56 : decode cX12_orderTrips 56 = .ok (.getfield 429, 3) := by decide +kernel
theorem dX12_orderTrips_59 : decode cX12_orderTrips 59 = .ok (.iconst 1, 1) := by decide +kernel
theorem dX12_orderTrips_60 : decode cX12_orderTrips 60 = .ok (.iadd, 1) := by decide +kernel
theorem dX12_orderTrips_61 : decode cX12_orderTrips 61 = .ok (.putfield 429, 3) := by decide +kernel
theorem dX12_orderTrips_64 : decode cX12_orderTrips 64 = .ok (.iinc 2 1, 3) := by decide +kernel
theorem dX12_orderTrips_67 : decode cX12_orderTrips 67 = .ok (.goto (-52), 3) := by decide +kernel
theorem dX12_orderTrips_70 : decode cX12_orderTrips 70 = .ok (.iinc 1 (-1), 3) := by decide +kernel
theorem dX12_orderTrips_73 : decode cX12_orderTrips 73 = .ok (.goto (-64), 3) := by decide +kernel
theorem dX12_orderTrips_76 : decode cX12_orderTrips 76 = .ok (.return_, 1) := by decide +kernel
set_option maxHeartbeats 4000000 in
set_option maxRecDepth 100000 in
theorem m_orderTrips (l : Launch) (dC : Nat → ClassId) (dI : Nat → Nat → Nat) (sz h : Nat) (ad : Nat → Nat) (cA : Nat → ClassId) (hd : dM h ad) (fv : Nat → Int32) (wd : Int64) (ar : Nat → Nat → Int32) (hF_fv : rF fv) (hA_ar : rA ar) : Met l yX12_orderTrips (.code yX12_orderTrips cX12_orderTrips 3 none :: lw_good) ({ frames := 3, cells := 0, slots := 0, locals := 61 }) (va_Pc [.ref h] (prM dC dI h ad cA fv wd ar sz)) (va_Qv (fun (u : mS) => rF u.1 ∧ rA u.2.2 ∧ fM [87] fv u.1 ∧ fA [83] ar u.2.2 ∧ True) (enM dC dI h ad cA) (aM h ad sz)) 0 0 (aM h ad sz) := by
  refine Met.ofW (cc := cX12_orderTrips) (maxL := 3) (ret := none) (by decide) rfl ?_
  intro p e s m args below meth c s₁ B hml hv
  obtain ⟨rfl, hsz, hP, hK⟩ := hv
  have hx := B.exec
  have hb := B.bytes
  have hr := B.returns
  have hts := atoms_spec (ws := (.code yX12_orderTrips cX12_orderTrips 3 none :: lw_good)) B.pre
  have htg : ∀ w ∈ lw_good, w.before _ s = true := fun w hw => hts w (List.mem_cons_of_mem _ hw)
  have hown : s.vm.findClass RX12 = some m.cls := findClass_of_methodNamed B.named
  have hlocks := B.notSynchronized
  subst hsz
  have hS : va_S (aM h ad s.heap.size) s.heap s.heap [] := va_S.rf
  have hl := lv_entry ([.ref h]) (n := 3) (Nat.le_of_ble_eq_true rfl)
  rw [lg_entry_eq]
  generalize (lg_sl ([.ref h]) ++ List.replicate (3 - (lg_sl ([.ref h])).length) Slot.unset).toArray = ls at hl ⊢
  have hl : lv_has ls 3 [(0, .ref h)] := hl
  refine lv_aload_n hx hb dX12_orderTrips_0 rfl (lv_at hl 0 rfl) ?_
  refine lv_iconst (v := 0) hx hb dX12_orderTrips_1 (by decide) ?_
  refine pM_87 hx hb htg hown hK hP hS hd dX12_orderTrips_2 (fun H locs fv_1 efv_1 hP hS => ?_)
  have hF_fv_1 : rF fv_1 := rF_put hF_fv efv_1 (iv_w (⟨by decide, by decide⟩ : (0 : Int) ≤ (0 : Int32).toInt ∧ (0 : Int32).toInt ≤ 0) (by decide) (by decide))
  refine lv_sipush (v := 719) hx hb dX12_orderTrips_5 (by decide) ?_
  refine lv_istore_n (lv' := [(1, .int 719), (0, .ref h)]) hx hb dX12_orderTrips_8 rfl hl (by decide) rfl (fun ls hl => ?_)
  refine my_cut (P := fun R9 a9 Q9 => ∀ (n_9 : Nat) (x_2 : Int32) (fv_3 : Nat → Int32) (ar_5 : Nat → Nat → Int32) (wd_7 : Int64) (H : Heap) (locs : List Loc) (ls : Array Slot), x_2.toInt - (-1) < (n_9 : Int) → ((-1) ≤ x_2.toInt ∧ x_2.toInt ≤ 719) → rF fv_3 → fM [87] fv_1 fv_3 → rA ar_5 → fA [83] ar ar_5 → ((fv_3 87).toInt ≤ cO (ar 28) x_2.toInt 0 (fv 35).toInt.toNat) → va_P (dC, dI) vwCl (wsM h ad cA fv_3 wd_7 ar_5) H → va_S (aM h ad s.heap.size) s.heap H locs → lv_has ls 3 [(0, .ref h), (1, .int x_2)] → W p l e R9 s m a9 below meth c H locs 0 0 Q9 (F0 m 9 ls [])) ?_ (fun hj_11 => ?_)
  · intro n_9
    induction n_9 with
    | zero => intro x_2 fv_3 ar_5 wd_7 H locs ls fu_10 i_x_2 hF_fv_3 fr_4 hA_ar_5 fa_6 q_8; exfalso; omega
    | succ n_9 ih_9 =>
      intro x_2 fv_3 ar_5 wd_7 H locs ls fu_10 i_x_2 hF_fv_3 fr_4 hA_ar_5 fa_6 q_8 hP hS hl
      refine lv_iload_n hx hb dX12_orderTrips_9 rfl (lv_at hl 1 rfl) ?_
      refine lv_if_lt (tgt := 76) hx hb dX12_orderTrips_10 (by decide) (fun c_12 => ?_) (fun c_12 => ?_)
      · skip
        have i_13 : (-1) ≤ x_2.toInt ∧ x_2.toInt ≤ (-1) := iv_lt1 i_x_2 (⟨by decide, by decide⟩ : (0 : Int) ≤ (0 : Int32).toInt ∧ (0 : Int32).toInt ≤ 0) c_12
        exact W.vret hx hb hr (fun t ht hW => ⟨⟨(fv_3, wd_7, ar_5), rfl, ⟨hF_fv_3, hA_ar_5, (fM_call (fM_put (fM_rf [87] _) efv_1 (by decide)) fr_4 (by decide)), (fA_call (fA_rf [83] _) fa_6 (by decide)), trivial⟩, ⟨by rw [ht]; exact hP, va_K.moved hW.alike hK⟩⟩, hS.F ht⟩) hS.2.2 dX12_orderTrips_76
      · skip
        have i_14 : 0 ≤ x_2.toInt ∧ x_2.toInt ≤ 719 := iv_le2 (⟨by decide, by decide⟩ : (0 : Int) ≤ (0 : Int32).toInt ∧ (0 : Int32).toInt ≤ 0) i_x_2 (Int32.not_lt.mp c_12)
        refine lv_iconst (v := 0) hx hb dX12_orderTrips_13 (by decide) ?_
        refine lv_istore_n (lv' := [(2, .int 0), (0, .ref h), (1, .int x_2)]) hx hb dX12_orderTrips_14 rfl hl (by decide) rfl (fun ls hl => ?_)
        refine my_cut (P := fun R9 a9 Q9 => ∀ (n_22 : Nat) (x_15 : Int32) (fv_16 : Nat → Int32) (ar_18 : Nat → Nat → Int32) (wd_20 : Int64) (H : Heap) (locs : List Loc) (ls : Array Slot), 80 - x_15.toInt < (n_22 : Int) → (0 ≤ x_15.toInt ∧ x_15.toInt ≤ 80) → rF fv_16 → fM [87] fv_3 fv_16 → rA ar_18 → fA [83] ar_5 ar_18 → ((fv_16 87).toInt ≤ cO (ar 28) x_2.toInt x_15.toInt.toNat (fv 35).toInt.toNat) → va_P (dC, dI) vwCl (wsM h ad cA fv_16 wd_20 ar_18) H → va_S (aM h ad s.heap.size) s.heap H locs → lv_has ls 3 [(0, .ref h), (1, .int x_2), (2, .int x_15)] → W p l e R9 s m a9 below meth c H locs 0 0 Q9 (F0 m 15 ls [])) ?_ (fun hj_24 => ?_)
        · intro n_22
          induction n_22 with
          | zero => intro x_15 fv_16 ar_18 wd_20 H locs ls fu_23 i_x_15 hF_fv_16 fr_17 hA_ar_18 fa_19 q_21; exfalso; omega
          | succ n_22 ih_22 =>
            intro x_15 fv_16 ar_18 wd_20 H locs ls fu_23 i_x_15 hF_fv_16 fr_17 hA_ar_18 fa_19 q_21 hP hS hl
            refine lv_iload_n hx hb dX12_orderTrips_15 rfl (lv_at hl 2 rfl) ?_
            refine lv_aload_n hx hb dX12_orderTrips_16 rfl (lv_at hl 0 rfl) ?_
            refine gM_35 hx hb htg hown hK hP dX12_orderTrips_17 ?_
            refine my_ti (y := fv 35) ((fr_17 35 rfl).trans ((fr_4 35 rfl).trans ((congrFun efv_1 35)))) ?_
            have i_25 : 0 ≤ (fv 35).toInt ∧ (fv 35).toInt ≤ 80 := hF_fv 35
            refine lv_icmp_ge (tgt := 70) hx hb dX12_orderTrips_20 (by decide) (fun c_26 => ?_) (fun c_26 => ?_)
            · skip
              have k_27 := Int32.le_iff_toInt_le.mp c_26
              obtain ⟨v_72, ev_72⟩ : ∃ z : Int32, z = x_2 + (-1) := ⟨_, rfl⟩
              refine lv_iinc (v := v_72) (lv' := [(1, .int v_72), (0, .ref h), (2, .int x_15)]) hx hb dX12_orderTrips_70 hl (k := 1) rfl (by rw [ev_72]; rfl) (by decide) rfl (fun ls hl => ?_)
              have t_73 : v_72.toInt = x_2.toInt + (-1) ∧ (-1) ≤ v_72.toInt ∧ v_72.toInt ≤ 718 := iv_addc ev_72 i_14 (by decide) (by decide) (by decide)
              refine lv_goto (tgt := 9) hx hb dX12_orderTrips_73 (by decide) ?_
              have z_78 : 0 ≤ (fv_16 87).toInt ∧ (fv_16 87).toInt ≤ 80 := hF_fv_16 87
              exact ih_9 v_72 fv_16 ar_18 wd_20 _ _ ls (by omega) (iv_w t_73.2 (by decide) (by decide)) hF_fv_16 (fM_call (fM_call (fM_rf [87] _) fr_4 (by decide)) fr_17 (by decide)) hA_ar_18 (fA_call (fA_call (fA_rf [83] _) fa_6 (by decide)) fa_19 (by decide)) (by have h9 := cO_next (ar 28) x_2.toInt (x_15.toInt.toNat) (fv 35).toInt.toNat (by omega); rw [show v_72.toInt = x_2.toInt - 1 from by omega]; omega) hP hS (lv_sub hl [1, 0] rfl)
            · skip
              have i_28 : 0 ≤ x_15.toInt ∧ x_15.toInt ≤ 79 := iv_lt1 i_x_15 i_25 (Int32.not_le.mp c_26)
              have i_29 : 1 ≤ (fv 35).toInt ∧ (fv 35).toInt ≤ 80 := iv_lt2 i_x_15 i_25 (Int32.not_le.mp c_26)
              have k_30 := Int32.lt_iff_toInt_lt.mp (Int32.not_le.mp c_26)
              refine lv_aload_n hx hb dX12_orderTrips_23 rfl (lv_at hl 0 rfl) ?_
              refine gM_28 hx hb htg hown hK hP dX12_orderTrips_24 ?_
              refine lv_iload_n hx hb dX12_orderTrips_27 rfl (lv_at hl 2 rfl) ?_
              refine lM_28 hx hb hK hP (iv_in i_28 (by decide) (by decide)) dX12_orderTrips_28 (fun v_31 ev_31 => ?_)
              refine lv_iload_n hx hb dX12_orderTrips_29 rfl (lv_at hl 1 rfl) ?_
              refine my_cut (P := fun R9 a9 Q9 => ∀ (fv_57 : Nat → Int32) (ar_59 : Nat → Nat → Int32) (wd_61 : Int64) (H : Heap) (locs : List Loc) (ls : Array Slot), rF fv_57 → fM [87] fv_16 fv_57 → rA ar_59 → fA [83] ar_18 ar_59 → ((fv_57 87).toInt ≤ cO (ar 28) x_2.toInt (x_15.toInt.toNat + 1) (fv 35).toInt.toNat) → va_P (dC, dI) vwCl (wsM h ad cA fv_57 wd_61 ar_59) H → va_S (aM h ad s.heap.size) s.heap H locs → lv_has ls 3 [(0, .ref h), (1, .int x_2), (2, .int x_15)] → W p l e R9 s m a9 below meth c H locs 0 0 Q9 (F0 m 64 ls [])) ?_ (fun hj_63 => ?_)
              · intro fv_57 ar_59 wd_61 H locs ls hF_fv_57 fr_58 hA_ar_59 fa_60 q_62 hP hS hl
                obtain ⟨v_64, ev_64⟩ : ∃ z : Int32, z = x_15 + 1 := ⟨_, rfl⟩
                refine lv_iinc (v := v_64) (lv' := [(2, .int v_64), (0, .ref h), (1, .int x_2)]) hx hb dX12_orderTrips_64 hl (k := 2) rfl (by rw [ev_64]; rfl) (by decide) rfl (fun ls hl => ?_)
                have t_65 : v_64.toInt = x_15.toInt + 1 ∧ 1 ≤ v_64.toInt ∧ v_64.toInt ≤ 80 := iv_addc ev_64 i_28 (by decide) (by decide) (by decide)
                refine lv_goto (tgt := 15) hx hb dX12_orderTrips_67 (by decide) ?_
                have z_75 : 0 ≤ (fv_57 87).toInt ∧ (fv_57 87).toInt ≤ 80 := hF_fv_57 87
                exact ih_22 v_64 fv_57 ar_59 wd_61 _ _ ls (by omega) (iv_w t_65.2 (by decide) (by decide)) hF_fv_57 (fM_call (fM_call (fM_rf [87] _) fr_17 (by decide)) fr_58 (by decide)) hA_ar_59 (fA_call (fA_call (fA_rf [83] _) fa_19 (by decide)) fa_60 (by decide)) (by rw [show v_64.toInt.toNat = x_15.toInt.toNat + 1 from by omega]; omega) hP hS (lv_sub hl [1, 2, 0] rfl)
              · skip
                refine lv_icmp_ne (tgt := 64) hx hb dX12_orderTrips_30 (by decide) (fun c_32 => ?_) (fun c_32 => ?_)
                · skip
                  have z_67 : 0 ≤ (fv_16 87).toInt ∧ (fv_16 87).toInt ≤ 80 := hF_fv_16 87
                  exact hj_63 fv_16 ar_18 wd_20 _ _ ls hF_fv_16 (fM_rf [87] _) hA_ar_18 (fA_rf [83] _) (by have h8 := cO_mono (ar 28) x_2.toInt x_15.toInt.toNat (fv 35).toInt.toNat; omega) hP hS (lv_sub hl [0, 1, 2] rfl)
                · skip
                  have i_33 : 0 ≤ v_31.toInt ∧ v_31.toInt ≤ 719 := iv_eq1 i_14 c_32
                  have k_34 := congrArg Int32.toInt c_32
                  refine lv_aload_n hx hb dX12_orderTrips_33 rfl (lv_at hl 0 rfl) ?_
                  refine lv_iload_n hx hb dX12_orderTrips_34 rfl (lv_at hl 2 rfl) ?_
                  refine va_calli (va_runV (As := [.int x_15]) (rest := []) ⟨hx, hb, hml, hown, hts⟩ (m_runsToday l dC dI H.size h ad cA hd fv_16 wd_20 ar_18 hF_fv_16 hA_ar_18 x_15 i_28) (cwV 1 hts (gV kw_8_180 kw_8_182 kw_p_85 kw_1_15 kw_8_183) rfl rfl rfl (by decide +kernel) ⟨Nat.le_of_ble_eq_true rfl, Nat.le_of_ble_eq_true rfl⟩) ⟨fun a U g mk q => ⟨q.1, q.2.1, q.2.2.1, va_K.moved (u := U) (U := U.calling g mk a) (Vm.Alike.refl U.vm) q.2.2.2⟩, va_recv hK hP (ci := 12) (q0 := 0) rfl rfl, fun U hU hW => ⟨rfl, by rw [hU], by rw [hU]; exact hP, va_K.moved hW.alike hK⟩⟩ rfl rfl hl.1 rfl (lv_room (Nat.le_of_ble_eq_true rfl)) dX12_orderTrips_35 ⟨Nat.le_of_ble_eq_true rfl, Nat.le_of_ble_eq_true rfl⟩) hS (fun q _ h9 => aM_up hS q h9) (aM_up hS) (fun r_35 u t H1 locs ht _ hw hB _ hk1 hS => ?_)
                  obtain ⟨fv_37, wd_38, ar_39⟩ := u
                  obtain ⟨hF_fv_37, hA_ar_39, fr_40, fa_41, p_36, -⟩ := hw
                  have hP : va_P (dC, dI) vwCl (wsM h ad cA fv_37 wd_38 ar_39) H1 := by have h9 := hB.1; rw [ht] at h9; exact h9
                  have fr_40 : fM [] fv_16 fv_37 := fr_40
                  have fa_41 : fA [] ar_18 ar_39 := fa_41
                  generalize H1 = H at hP hS ⊢
                  refine lv_if_ne (tgt := 44) hx hb dX12_orderTrips_38 (by decide) (fun c_42 => ?_) (fun c_42 => ?_)
                  · skip
                    have i_43 : 1 ≤ r_35.toInt ∧ r_35.toInt ≤ 1 := iv_nel p_36 (by decide) c_42
                    have k_44 : ¬ r_35.toInt = 0 := fun q => c_42 (Int32.toInt_inj.mp q)
                    have hk9 : (ar 28 x_15.toInt.toNat).toInt = x_2.toInt := by rw [← ((fA_call (fA_call (fA_rf [83] _) fa_6 (by decide)) fa_19 (by decide)) 28 rfl)]; show (ar_18 28 x_15.toNatClampNeg).toInt = _; rw [← ev_31]; omega
                    have st9 := cO_step (ar 28) x_2.toInt x_15.toInt.toNat hk9 (fv 35).toInt.toNat (by omega)
                    have le9 := cO_le (ar 28) x_2.toInt (x_15.toInt.toNat + 1) (fv 35).toInt.toNat
                    have z35 : (0 : Int) ≤ (fv 35).toInt ∧ (fv 35).toInt ≤ 80 := hF_fv 35
                    have z_46 : (fv_37 87).toInt = (fv_16 87).toInt := congrArg Int32.toInt ((fr_40 87 rfl))
                    have z_47 : 0 ≤ (fv_37 87).toInt ∧ (fv_37 87).toInt ≤ 80 := hF_fv_37 87
                    refine lv_aload_n hx hb dX12_orderTrips_44 rfl (lv_at hl 0 rfl) ?_
                    refine gM_83 hx hb htg hown hK hP dX12_orderTrips_45 ?_
                    refine lv_aload_n hx hb dX12_orderTrips_48 rfl (lv_at hl 0 rfl) ?_
                    refine gM_87 hx hb htg hown hK hP dX12_orderTrips_49 ?_
                    refine my_ti (y := fv_16 87) ((fr_40 87 rfl)) ?_
                    have i_48 : 0 ≤ (fv_16 87).toInt ∧ (fv_16 87).toInt ≤ 80 := hF_fv_16 87
                    refine lv_iload_n hx hb dX12_orderTrips_52 rfl (lv_at hl 2 rfl) ?_
                    refine sM_83 hx hb hK hP hS hd (vp_in_iff.mpr (by omega)) dX12_orderTrips_53 (fun H locs ar_49 ear_49 hP hS => ?_)
                    have hA_ar_49 : rA ar_49 := rA_put hA_ar_39 ear_49 i_28
                    refine lv_aload_n hx hb dX12_orderTrips_54 rfl (lv_at hl 0 rfl) ?_
                    refine lv_dup hx hb dX12_orderTrips_55 rfl ?_
                    refine gM_87 hx hb htg hown hK hP dX12_orderTrips_56 ?_
                    refine my_ti (y := fv_16 87) ((fr_40 87 rfl)) ?_
                    refine lv_iconst (v := 1) hx hb dX12_orderTrips_59 (by decide) ?_
                    refine lv_iadd hx hb dX12_orderTrips_60 ?_
                    refine lv_topi (fun v_50 ev_50 => ?_)
                    have t_51 : v_50.toInt = (fv_16 87).toInt + 1 ∧ 1 ≤ v_50.toInt ∧ v_50.toInt ≤ 81 := iv_addc ev_50 i_48 (by decide) (by decide) (by decide)
                    have i_53 : 0 ≤ v_50.toInt ∧ v_50.toInt ≤ 80 := (by omega)
                    refine pM_87 hx hb htg hown hK hP hS hd dX12_orderTrips_61 (fun H locs fv_54 efv_54 hP hS => ?_)
                    have hF_fv_54 : rF fv_54 := rF_put hF_fv_37 efv_54 i_53
                    have z_68 : (fv_54 87).toInt = v_50.toInt := congrArg Int32.toInt ((congrFun efv_54 87))
                    have z_69 : 0 ≤ (fv_54 87).toInt ∧ (fv_54 87).toInt ≤ 80 := hF_fv_54 87
                    exact hj_63 fv_54 ar_49 wd_38 _ _ ls hF_fv_54 (fM_put (fM_call (fM_rf [87] _) fr_40 (by decide)) efv_54 (by decide)) hA_ar_49 (fA_put (fA_call (fA_rf [83] _) fa_41 (by decide)) ear_49 (by decide)) (by have h8 := cO_mono (ar 28) x_2.toInt x_15.toInt.toNat (fv 35).toInt.toNat; omega) hP hS (lv_sub hl [0, 1, 2] rfl)
                  · skip
                    have i_55 : 0 ≤ r_35.toInt ∧ r_35.toInt ≤ 0 := iv_eq1 (⟨by decide, by decide⟩ : (0 : Int) ≤ (0 : Int32).toInt ∧ (0 : Int32).toInt ≤ 0) c_42
                    refine lv_goto (tgt := 64) hx hb dX12_orderTrips_41 (by decide) ?_
                    have z_70 : (fv_37 87).toInt = (fv_16 87).toInt := congrArg Int32.toInt ((fr_40 87 rfl))
                    have z_71 : 0 ≤ (fv_37 87).toInt ∧ (fv_37 87).toInt ≤ 80 := hF_fv_37 87
                    exact hj_63 fv_37 ar_39 wd_38 _ _ ls hF_fv_37 (fM_call (fM_rf [87] _) fr_40 (by decide)) hA_ar_39 (fA_call (fA_rf [83] _) fa_41 (by decide)) (by have h8 := cO_mono (ar 28) x_2.toInt x_15.toInt.toNat (fv 35).toInt.toNat; omega) hP hS (lv_sub hl [0, 1, 2] rfl)
        · skip
          have z_76 : (0 : Int32).toInt = 0 := by decide
          have z_77 : 0 ≤ (fv_3 87).toInt ∧ (fv_3 87).toInt ≤ 80 := hF_fv_3 87
          exact hj_24 81 0 fv_3 ar_5 wd_7 _ _ ls (by first | decide | omega) (iv_w (⟨by decide, by decide⟩ : (0 : Int) ≤ (0 : Int32).toInt ∧ (0 : Int32).toInt ≤ 0) (by decide) (by decide)) hF_fv_3 (fM_rf [87] _) hA_ar_5 (fA_rf [83] _) (by show _ ≤ ((cO (ar 28) x_2.toInt 0 (fv 35).toInt.toNat : Nat) : Int); omega) hP hS (lv_sub hl [1, 2, 0] rfl)
  · skip
    have z_79 : (719 : Int32).toInt = 719 := by decide
    have z_80 : (fv_1 87).toInt = (0 : Int32).toInt := congrArg Int32.toInt ((congrFun efv_1 87))
    have z_81 : (0 : Int32).toInt = 0 := by decide
    have z_82 : 0 ≤ (fv_1 87).toInt ∧ (fv_1 87).toInt ≤ 80 := hF_fv_1 87
    exact hj_11 721 719 fv_1 ar wd _ _ ls (by first | decide | omega) (iv_w (⟨by decide, by decide⟩ : (719 : Int) ≤ (719 : Int32).toInt ∧ (719 : Int32).toInt ≤ 719) (by decide) (by decide)) hF_fv_1 (fM_rf [87] _) hA_ar (fA_rf [83] _) (by omega) hP hS (lv_sub hl [1, 0] rfl)

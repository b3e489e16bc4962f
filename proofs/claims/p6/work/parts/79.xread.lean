theorem dX3_read_0 : decode cX3_read 0 = .ok (.aload_n 0, 1) := by decide +kernel
theorem dX3_read_1 : decode cX3_read 1 = .ok (.iconst 0, 1) := by decide +kernel
theorem dX3_read_2 : decode cX3_read 2 = .ok (.putfield 31, 3) := by decide +kernel
theorem dX3_read_5 : decode cX3_read 5 = .ok (.aload_n 0, 1) := by decide +kernel
theorem dX3_read_6 : decode cX3_read 6 = .ok (.iconst 0, 1) := by decide +kernel
theorem dX3_read_7 : decode cX3_read 7 = .ok (.putfield 35, 3) := by decide +kernel
theorem dX3_read_10 : decode cX3_read 10 = .ok (.aload_n 0, 1) := by decide +kernel
theorem dX3_read_11 : decode cX3_read 11 = .ok (.iconst 0, 1) := by decide +kernel
theorem dX3_read_12 : decode cX3_read 12 = .ok (.putfield 38, 3) := by decide +kernel
theorem dX3_read_15 : decode cX3_read 15 = .ok (.aload_n 0, 1) := by decide +kernel
theorem dX3_read_16 : decode cX3_read 16 = .ok (.iconst 0, 1) := by decide +kernel
theorem dX3_read_17 : decode cX3_read 17 = .ok (.putfield 41, 3) := by decide +kernel
theorem dX3_read_20 : decode cX3_read 20 = .ok (.aload_n 0, 1) := by decide +kernel
theorem dX3_read_21 : decode cX3_read 21 = .ok (.iconst 0, 1) := by decide +kernel
theorem dX3_read_22 : decode cX3_read 22 = .ok (.putfield 44, 3) := by decide +kernel
theorem dX3_read_25 : decode cX3_read 25 = .ok (.aload_n 0, 1) := by decide +kernel
theorem dX3_read_26 : decode cX3_read 26 = .ok (.iconst 0, 1) := by decide +kernel
theorem dX3_read_27 : decode cX3_read 27 = .ok (.putfield 48, 3) := by decide +kernel
theorem dX3_read_30 : decode cX3_read 30 = .ok (.aload_n 0, 1) := by decide +kernel
theorem dX3_read_31 : decode cX3_read 31 = .ok (.iconst 0, 1) := by decide +kernel
theorem dX3_read_32 : decode cX3_read 32 = .ok (.putfield 51, 3) := by decide +kernel
theorem dX3_read_35 : decode cX3_read 35 = .ok (.aload_n 0, 1) := by decide +kernel
theorem dX3_read_36 : decode cX3_read 36 = .ok (.aload_n 1, 1) := by decide +kernel
theorem dX3_read_37 : decode cX3_read 37 = .ok (.iload_n 2, 1) := by decide +kernel
theorem dX3_read_38 : decode cX3_read 38 = .ok (.invokevirtual 54, 3) := by decide +kernel
theorem dX3_read_41 : decode cX3_read 41 = .ok (.iconst 0, 1) := by decide +kernel
theorem dX3_read_42 : decode cX3_read 42 = .ok (.istore_n 3, 1) := by decide +kernel
theorem dX3_read_43 : decode cX3_read 43 = .ok (.iload_n 3, 1) := by decide +kernel
theorem dX3_read_44 : decode cX3_read 44 = .ok (.bipush 16, 2) := by decide +kernel
theorem dX3_read_46 : decode cX3_read 46 = .ok (.if_icmp .gt 31, 3) := by decide +kernel
theorem dX3_read_49 : decode cX3_read 49 = .ok (.aload_n 0, 1) := by decide +kernel
theorem dX3_read_50 : decode cX3_read 50 = .ok (.getfield 48, 3) := by decide +kernel
theorem dX3_read_53 : decode cX3_read 53 = .ok (.ifCond .ne 24, 3) := by decide +kernel
theorem dX3_read_56 : decode cX3_read 56 = .ok (.aload_n 0, 1) := by decide +kernel
theorem dX3_read_57 : decode cX3_read 57 = .ok (.invokevirtual 58, 3) := by decide +kernel
theorem dX3_read_60 : decode cX3_read 60 = .ok (.getstatic 62, 3) := by decide +kernel
theorem dX3_read_63 : decode cX3_read 63 = .ok (.if_acmp .eq 14, 3) := by decide +kernel
theorem dX3_read_66 : decode cX3_read 66 = .ok (.aload_n 0, 1) := by decide +kernel
theorem dX3_read_67 : decode cX3_read 67 = .ok (.invokevirtual 66, 3) := by decide +kernel
theorem dX3_read_70 : decode cX3_read 70 = .ok (.pop, 1) := by decide +kernel
theorem dX3_read_71 : decode cX3_read 71 = .ok (.iinc 3 1, 3) := by decide +kernel
theorem dX3_read_74 : decode cX3_read 74 = .ok (.goto (-31), 3) := by decide +kernel
theorem dX3_read_77 : decode cX3_read 77 = .ok (.return_, 1) := by decide +kernel
set_option maxHeartbeats 4000000 in
set_option maxRecDepth 100000 in
theorem x_read (l : Launch) (dC : Nat → ClassId) (dI : Nat → Nat → Nat) (sz : Nat) (ob ad : Nat → Nat) (cA : Nat → ClassId) (hd : dX ob ad) (fv : Nat → Int32) (wd : xT) (ar : Nat → Nat → Int32) (hF_fv : rX fv) (hA_ar : rB ar) (tkK tkV tkL : Nat → Nat) (tkB : Nat → Nat → Int32) (tkT : Nat) (tA : Nat → Nat) (hto : tO tA wd.2.1) (sz_ : Int32) (h_sz_ : 0 ≤ sz_.toInt ∧ sz_.toInt ≤ 340) : Met l yX3_read (.code yX3_read cX3_read 4 none :: lw_good) ({ frames := 37, cells := 0, slots := 0, locals := 830 }) (va_Pc [.ref (ob 6), .ref (ad 1), .int sz_] (fun U => prX dC dI ob ad cA fv wd ar sz U ∧ tkA ob ad tA sz U ∧ txA ob ad tA tkK tkV tkL tkB tkT sz U)) (va_Qv (fun (u : xS) => rX u.1 ∧ rB u.2.2 ∧ fM [13, 14, 15, 16, 17, 18, 19, 20] fv u.1 ∧ fA [36, 37, 38, 39, 40, 41, 42, 43] ar u.2.2 ∧ (tO tA u.2.1.2.1) ∧ (u.2.1.2.2 = wd.2.2) ∧ (eC u.1 u.2.2) ∧ True) (enX dC dI ob ad cA) (aX ob ad sz)) 0 0 (aX ob ad sz) := by
  refine Met.ofW (cc := cX3_read) (maxL := 4) (ret := none) (by decide) rfl ?_
  intro p e s m args below meth c s₁ B hml hv
  obtain ⟨rfl, ⟨hsz, hP, hK⟩, hE, hX⟩ := hv
  have hx := B.exec
  have hb := B.bytes
  have hr := B.returns
  have hts := atoms_spec (ws := (.code yX3_read cX3_read 4 none :: lw_good)) B.pre
  have htg : ∀ w ∈ lw_good, w.before _ s = true := fun w hw => hts w (List.mem_cons_of_mem _ hw)
  have hown : s.vm.findClass RX3 = some m.cls := findClass_of_methodNamed B.named
  have hlocks := B.notSynchronized
  subst hsz
  have hS : va_S (aX ob ad s.heap.size) s.heap s.heap [] := va_S.rf
  have hl := lv_entry ([.ref (ob 6), .ref (ad 1), .int sz_]) (n := 4) (Nat.le_of_ble_eq_true rfl)
  rw [lg_entry_eq]
  generalize (lg_sl ([.ref (ob 6), .ref (ad 1), .int sz_]) ++ List.replicate (4 - (lg_sl ([.ref (ob 6), .ref (ad 1), .int sz_])).length) Slot.unset).toArray = ls at hl ⊢
  have hl : lv_has ls 4 [(0, .ref (ob 6)), (1, .ref (ad 1)), (2, .int sz_)] := hl
  refine lv_aload_n hx hb dX3_read_0 rfl (lv_at hl 0 rfl) ?_
  refine lv_iconst (v := 0) hx hb dX3_read_1 (by decide) ?_
  refine pX_X3_31 hx hb htg hown hK hP hS hd dX3_read_2 (fun H locs fv_1 efv_1 hP hS => ?_)
  have hF_fv_1 : rX fv_1 := rX_put hF_fv efv_1 (iv_w (⟨by decide, by decide⟩ : (0 : Int) ≤ (0 : Int32).toInt ∧ (0 : Int32).toInt ≤ 0) (by decide) (by decide))
  refine lv_aload_n hx hb dX3_read_5 rfl (lv_at hl 0 rfl) ?_
  refine lv_iconst (v := 0) hx hb dX3_read_6 (by decide) ?_
  refine pX_X3_35 hx hb htg hown hK hP hS hd dX3_read_7 (fun H locs fv_2 efv_2 hP hS => ?_)
  have hF_fv_2 : rX fv_2 := rX_put hF_fv_1 efv_2 (iv_w (⟨by decide, by decide⟩ : (0 : Int) ≤ (0 : Int32).toInt ∧ (0 : Int32).toInt ≤ 0) (by decide) (by decide))
  refine lv_aload_n hx hb dX3_read_10 rfl (lv_at hl 0 rfl) ?_
  refine lv_iconst (v := 0) hx hb dX3_read_11 (by decide) ?_
  refine pX_X3_38 hx hb htg hown hK hP hS hd dX3_read_12 (fun H locs fv_3 efv_3 hP hS => ?_)
  have hF_fv_3 : rX fv_3 := rX_put hF_fv_2 efv_3 (iv_w (⟨by decide, by decide⟩ : (0 : Int) ≤ (0 : Int32).toInt ∧ (0 : Int32).toInt ≤ 0) (by decide) (by decide))
  refine lv_aload_n hx hb dX3_read_15 rfl (lv_at hl 0 rfl) ?_
  refine lv_iconst (v := 0) hx hb dX3_read_16 (by decide) ?_
  refine pX_X3_41 hx hb htg hown hK hP hS hd dX3_read_17 (fun H locs fv_4 efv_4 hP hS => ?_)
  have hF_fv_4 : rX fv_4 := rX_put hF_fv_3 efv_4 (iv_w (⟨by decide, by decide⟩ : (0 : Int) ≤ (0 : Int32).toInt ∧ (0 : Int32).toInt ≤ 0) (by decide) (by decide))
  refine lv_aload_n hx hb dX3_read_20 rfl (lv_at hl 0 rfl) ?_
  refine lv_iconst (v := 0) hx hb dX3_read_21 (by decide) ?_
  refine pX_X3_44 hx hb htg hown hK hP hS hd (by decide) (by decide) dX3_read_22 (fun H locs fv_5 efv_5 hP hS => ?_)
  have hF_fv_5 : rX fv_5 := rX_put hF_fv_4 efv_5 (iv_w (⟨by decide, by decide⟩ : (0 : Int) ≤ (0 : Int32).toInt ∧ (0 : Int32).toInt ≤ 0) (by decide) (by decide))
  refine lv_aload_n hx hb dX3_read_25 rfl (lv_at hl 0 rfl) ?_
  refine lv_iconst (v := 0) hx hb dX3_read_26 (by decide) ?_
  refine pX_X3_48 hx hb htg hown hK hP hS hd dX3_read_27 (fun H locs fv_6 efv_6 hP hS => ?_)
  have hF_fv_6 : rX fv_6 := rX_put hF_fv_5 efv_6 (iv_any _)
  refine lv_aload_n hx hb dX3_read_30 rfl (lv_at hl 0 rfl) ?_
  refine lv_iconst (v := 0) hx hb dX3_read_31 (by decide) ?_
  refine pX_X3_51 hx hb htg hown hK hP hS hd dX3_read_32 (fun H locs fv_7 efv_7 hP hS => ?_)
  have hF_fv_7 : rX fv_7 := rX_put hF_fv_6 efv_7 (iv_any _)
  refine lv_aload_n hx hb dX3_read_35 rfl (lv_at hl 0 rfl) ?_
  refine lv_aload_n hx hb dX3_read_36 rfl (lv_at hl 1 rfl) ?_
  refine lv_iload_n hx hb dX3_read_37 rfl (lv_at hl 2 rfl) ?_
  refine va_callv (va_runV (As := [.ref (ad 1), .int sz_]) (rest := []) ⟨hx, hb, hml, hown, hts⟩ (x_split l dC dI H.size ob ad cA hd fv_7 wd ar hF_fv_7 hA_ar tkK tkV tkL tkB tkT tA hto sz_ h_sz_) (cwV 2 hts (gV kw_4_13 kw_4_15 kw_p_2 kw_1_11 kw_4_16) rfl rfl rfl (by decide +kernel) ⟨Nat.le_of_ble_eq_true rfl, Nat.le_of_ble_eq_true rfl⟩) ⟨fun a U g mk q => ⟨q.1, ⟨q.2.1.1, q.2.1.2.1, va_K.moved (u := U) (U := U.calling g mk a) (Vm.Alike.refl U.vm) q.2.1.2.2⟩, tk_mv (U := U.calling g mk a) rfl (Vm.Alike.refl U.vm) q.2.2.1, tx_mv (U := U.calling g mk a) rfl (Vm.Alike.refl U.vm) q.2.2.2⟩, va_recv hK hP (ci := 4) (q0 := 6) rfl rfl, fun U hU hW => ⟨rfl, ⟨by rw [hU], by rw [hU]; exact hP, va_K.moved hW.alike hK⟩, tk_pass hE hS hU hW.alike, tx_pass hX hS hU hW.alike⟩⟩ rfl rfl hl.1 rfl (lv_room (Nat.le_of_ble_eq_true rfl)) dX3_read_38 ⟨Nat.le_of_ble_eq_true rfl, Nat.le_of_ble_eq_true rfl⟩) hS (fun q _ h9 => aX_up hS q h9) (aX_up hS) (fun u t H1 locs ht _ hw hB _ hk1 hS => ?_)
  obtain ⟨fv_11, wd_12, ar_13⟩ := u
  obtain ⟨hF_fv_11, hA_ar_13, fr_14, fa_15, p_9, p_10, -⟩ := hw
  have hP : va_P (dC, dI) vwCl (wsX ob ad cA fv_11 wd_12 ar_13) H1 := by have h9 := hB.1; rw [ht] at h9; exact h9
  have fr_14 : fM [13] fv_7 fv_11 := fr_14
  have fa_15 : fA [36, 37] ar ar_13 := fa_15
  have p_9 : tO tA wd_12.2.1 := p_9
  have p_10 : wd_12.2.2 = wd.2.2 := p_10
  generalize H1 = H at hP hS ⊢
  have hp_17 : eC fv_11 ar_13 := eC_zero ((fr_14 15 rfl).trans ((congrFun efv_7 15).trans ((congrFun efv_6 15).trans ((congrFun efv_5 15).trans ((congrFun efv_4 15).trans ((congrFun efv_3 15).trans ((congrFun efv_2 15).trans ((congrFun efv_1 15)))))))))
  refine lv_iconst (v := 0) hx hb dX3_read_41 (by decide) ?_
  refine lv_istore_n (lv' := [(3, .int 0), (0, .ref (ob 6)), (1, .ref (ad 1)), (2, .int sz_)]) hx hb dX3_read_42 rfl hl (by decide) rfl (fun ls hl => ?_)
  refine my_cut (P := fun R9 a9 Q9 => ∀ (n_27 : Nat) (x_18 : Int32) (fv_19 : Nat → Int32) (ar_21 : Nat → Nat → Int32) (wd_23 : xT) (H : Heap) (locs : List Loc) (ls : Array Slot), 17 - x_18.toInt < (n_27 : Int) → (0 ≤ x_18.toInt ∧ x_18.toInt ≤ 17) → rX fv_19 → fM [14, 15, 16, 17, 18, 19, 20] fv_11 fv_19 → rB ar_21 → fA [38, 39, 40, 41, 42, 43] ar_13 ar_21 → tO tA wd_23.2.1 → wd_23.2.2 = wd.2.2 → eC fv_19 ar_21 → va_P (dC, dI) vwCl (wsX ob ad cA fv_19 wd_23 ar_21) H → va_S (aX ob ad s.heap.size) s.heap H locs → lv_has ls 4 [(0, .ref (ob 6)), (3, .int x_18)] → W p l e R9 s m a9 below meth c H locs 0 0 Q9 (F0 m 43 ls [])) ?_ (fun hj_29 => ?_)
  · intro n_27
    induction n_27 with
    | zero => intro x_18 fv_19 ar_21 wd_23 H locs ls fu_28 i_x_18 hF_fv_19 fr_20 hA_ar_21 fa_22 to_24 tq_25 hp_26; exfalso; omega
    | succ n_27 ih_27 =>
      intro x_18 fv_19 ar_21 wd_23 H locs ls fu_28 i_x_18 hF_fv_19 fr_20 hA_ar_21 fa_22 to_24 tq_25 hp_26 hP hS hl
      refine lv_iload_n hx hb dX3_read_43 rfl (lv_at hl 1 rfl) ?_
      refine lv_bipush (v := 16) hx hb dX3_read_44 (by decide) ?_
      refine lv_icmp_gt (tgt := 77) hx hb dX3_read_46 (by decide) (fun c_30 => ?_) (fun c_30 => ?_)
      · skip
        have i_31 : 17 ≤ x_18.toInt ∧ x_18.toInt ≤ 17 := iv_lt2 (⟨by decide, by decide⟩ : (16 : Int) ≤ (16 : Int32).toInt ∧ (16 : Int32).toInt ≤ 16) i_x_18 c_30
        exact W.vret hx hb hr (fun t ht hW => ⟨⟨(fv_19, wd_23, ar_21), rfl, ⟨hF_fv_19, hA_ar_21, (fM_call (fM_call (fM_put (fM_put (fM_put (fM_put (fM_put (fM_put (fM_put (fM_rf [13, 14, 15, 16, 17, 18, 19, 20] _) efv_1 (by decide)) efv_2 (by decide)) efv_3 (by decide)) efv_4 (by decide)) efv_5 (by decide)) efv_6 (by decide)) efv_7 (by decide)) fr_14 (by decide)) fr_20 (by decide)), (fA_call (fA_call (fA_rf [36, 37, 38, 39, 40, 41, 42, 43] _) fa_15 (by decide)) fa_22 (by decide)), (show tO tA wd_23.2.1 from to_24), (show wd_23.2.2 = wd.2.2 from tq_25), (show eC fv_19 ar_21 from hp_26), trivial⟩, ⟨by rw [ht]; exact hP, va_K.moved hW.alike hK⟩⟩, hS.F ht⟩) hS.2.2 dX3_read_77
      · skip
        have i_32 : 0 ≤ x_18.toInt ∧ x_18.toInt ≤ 16 := iv_le1 i_x_18 (⟨by decide, by decide⟩ : (16 : Int) ≤ (16 : Int32).toInt ∧ (16 : Int32).toInt ≤ 16) (Int32.not_lt.mp c_30)
        refine lv_aload_n hx hb dX3_read_49 rfl (lv_at hl 0 rfl) ?_
        refine gX_X3_48 hx hb htg hown hK hP dX3_read_50 ?_
        refine lv_if_ne (tgt := 77) hx hb dX3_read_53 (by decide) (fun c_33 => ?_) (fun c_33 => ?_)
        · skip
          exact W.vret hx hb hr (fun t ht hW => ⟨⟨(fv_19, wd_23, ar_21), rfl, ⟨hF_fv_19, hA_ar_21, (fM_call (fM_call (fM_put (fM_put (fM_put (fM_put (fM_put (fM_put (fM_put (fM_rf [13, 14, 15, 16, 17, 18, 19, 20] _) efv_1 (by decide)) efv_2 (by decide)) efv_3 (by decide)) efv_4 (by decide)) efv_5 (by decide)) efv_6 (by decide)) efv_7 (by decide)) fr_14 (by decide)) fr_20 (by decide)), (fA_call (fA_call (fA_rf [36, 37, 38, 39, 40, 41, 42, 43] _) fa_15 (by decide)) fa_22 (by decide)), (show tO tA wd_23.2.1 from to_24), (show wd_23.2.2 = wd.2.2 from tq_25), (show eC fv_19 ar_21 from hp_26), trivial⟩, ⟨by rw [ht]; exact hP, va_K.moved hW.alike hK⟩⟩, hS.F ht⟩) hS.2.2 dX3_read_77
        · skip
          have i_34 : 0 ≤ (fv_19 19).toInt ∧ (fv_19 19).toInt ≤ 0 := iv_eq1 (⟨by decide, by decide⟩ : (0 : Int) ≤ (0 : Int32).toInt ∧ (0 : Int32).toInt ≤ 0) c_33
          refine lv_aload_n hx hb dX3_read_56 rfl (lv_at hl 0 rfl) ?_
          refine va_callr (va_runV (As := []) (rest := []) ⟨hx, hb, hml, hown, hts⟩ (x_token l dC dI H.size ob ad cA hd fv_19 wd_23 ar_21 hF_fv_19 hA_ar_21 tA to_24) (cwV 0 hts (gV kw_4_102 kw_4_104 kw_p_4 kw_1_11 kw_4_105) rfl rfl rfl (by decide +kernel) ⟨Nat.le_of_ble_eq_true rfl, Nat.le_of_ble_eq_true rfl⟩) ⟨fun a U g mk q => ⟨q.1, ⟨q.2.1.1, q.2.1.2.1, va_K.moved (u := U) (U := U.calling g mk a) (Vm.Alike.refl U.vm) q.2.1.2.2⟩, tk_mv (U := U.calling g mk a) rfl (Vm.Alike.refl U.vm) q.2.2⟩, va_recv hK hP (ci := 4) (q0 := 6) rfl rfl, fun U hU hW => ⟨rfl, ⟨by rw [hU], by rw [hU]; exact hP, va_K.moved hW.alike hK⟩, tk_pass hE hS hU hW.alike⟩⟩ rfl rfl hl.1 rfl (lv_room (Nat.le_of_ble_eq_true rfl)) dX3_read_57 ⟨Nat.le_of_ble_eq_true rfl, Nat.le_of_ble_eq_true rfl⟩) hS (fun q _ h9 => aX_up hS q h9) (aX_up hS) (fun u r_35 t H1 locs ht _ hw hB _ hk1 hS => ?_)
          obtain ⟨fv_36, wd_37, ar_38⟩ := u
          obtain ⟨hF_fv_36, hA_ar_38, fr_39, fa_40, wf_41, -⟩ := hw
          have wf_41 : wd_37.2 = wd_23.2 := wf_41
          have hP : va_P (dC, dI) vwCl (wsX ob ad cA fv_36 wd_37 ar_38) H1 := by have h9 := hB.1.1; rw [ht] at h9; exact h9
          have fr_39 : fM [] fv_19 fv_36 := fr_39
          have fa_40 : fA [] ar_21 ar_38 := fa_40
          generalize H1 = H at hP hS ⊢
          obtain ⟨j_42, lj_42, rj_42⟩ := hB.2
          subst rj_42
          refine va_gets hx hb (hE.1 30 (by decide)).1 hS hown (htg (.fieldLink RX3 62 "WalkingTown$Token" "END" "LWalkingTown$Token;") kw_4_100) (fun _ h9 => h9) dX3_read_60 ?_
          refine lv_acmp_eq (rx := some (tA j_42)) (ry := some (tA 30)) (tgt := 77) hx hb dX3_read_63 (by decide) (fun _ => ?_) (fun _ => ?_)
          · skip
            exact W.vret hx hb hr (fun t ht hW => ⟨⟨(fv_36, wd_37, ar_38), rfl, ⟨hF_fv_36, hA_ar_38, (fM_call (fM_call (fM_call (fM_put (fM_put (fM_put (fM_put (fM_put (fM_put (fM_put (fM_rf [13, 14, 15, 16, 17, 18, 19, 20] _) efv_1 (by decide)) efv_2 (by decide)) efv_3 (by decide)) efv_4 (by decide)) efv_5 (by decide)) efv_6 (by decide)) efv_7 (by decide)) fr_14 (by decide)) fr_20 (by decide)) fr_39 (by decide)), (fA_call (fA_call (fA_call (fA_rf [36, 37, 38, 39, 40, 41, 42, 43] _) fa_15 (by decide)) fa_22 (by decide)) fa_40 (by decide)), (show tO tA wd_37.2.1 from (tO_w to_24 wf_41)), (show wd_37.2.2 = wd.2.2 from ((congrArg (fun z => z.2) wf_41).trans tq_25)), (show eC fv_36 ar_38 from (eC_fr hp_26 (fM_call (fM_rf [] _) fr_39 (by decide)) (fA_call (fA_rf [] _) fa_40 (by decide)) rfl rfl rfl)), trivial⟩, ⟨by rw [ht]; exact hP, va_K.moved hW.alike hK⟩⟩, hS.F ht⟩) hS.2.2 dX3_read_77
          · skip
            refine lv_aload_n hx hb dX3_read_66 rfl (lv_at hl 0 rfl) ?_
            refine va_calli (va_runV (As := []) (rest := []) ⟨hx, hb, hml, hown, hts⟩ (x_rreadLine l dC dI H.size ob ad cA hd fv_36 wd_37 ar_38 hF_fv_36 hA_ar_38 tA (tO_w to_24 wf_41) (eC_fr hp_26 (fM_call (fM_rf [] _) fr_39 (by decide)) (fA_call (fA_rf [] _) fa_40 (by decide)) rfl rfl rfl)) (cwV 0 hts (gV kw_4_106 kw_4_108 kw_p_5 kw_1_11 kw_4_109) rfl rfl rfl (by decide +kernel) ⟨Nat.le_of_ble_eq_true rfl, Nat.le_of_ble_eq_true rfl⟩) ⟨fun a U g mk q => ⟨q.1, ⟨q.2.1.1, q.2.1.2.1, va_K.moved (u := U) (U := U.calling g mk a) (Vm.Alike.refl U.vm) q.2.1.2.2⟩, tk_mv (U := U.calling g mk a) rfl (Vm.Alike.refl U.vm) q.2.2⟩, va_recv hK hP (ci := 4) (q0 := 6) rfl rfl, fun U hU hW => ⟨rfl, ⟨by rw [hU], by rw [hU]; exact hP, va_K.moved hW.alike hK⟩, tk_pass hE hS hU hW.alike⟩⟩ rfl rfl hl.1 rfl (lv_room (Nat.le_of_ble_eq_true rfl)) dX3_read_67 ⟨Nat.le_of_ble_eq_true rfl, Nat.le_of_ble_eq_true rfl⟩) hS (fun q _ h9 => aX_up hS q h9) (aX_up hS) (fun r_43 u t H1 locs ht _ hw hB _ hk1 hS => ?_)
            obtain ⟨fv_46, wd_47, ar_48⟩ := u
            obtain ⟨hF_fv_46, hA_ar_48, fr_49, fa_50, wf_51, p_44, p_45, -⟩ := hw
            have wf_51 : wd_47.2 = wd_37.2 := wf_51
            have hP : va_P (dC, dI) vwCl (wsX ob ad cA fv_46 wd_47 ar_48) H1 := by have h9 := hB.1; rw [ht] at h9; exact h9
            have fr_49 : fM [14, 15, 16, 17, 18, 19, 20] fv_36 fv_46 := fr_49
            have fa_50 : fA [38, 39, 40, 41, 42, 43] ar_38 ar_48 := fa_50
            have p_45 : eC fv_46 ar_48 := p_45
            generalize H1 = H at hP hS ⊢
            refine lv_pop hx hb dX3_read_70 rfl ?_
            obtain ⟨v_52, ev_52⟩ : ∃ z : Int32, z = x_18 + 1 := ⟨_, rfl⟩
            refine lv_iinc (v := v_52) (lv' := [(3, .int v_52), (0, .ref (ob 6))]) hx hb dX3_read_71 hl (k := 1) rfl (by rw [ev_52]; rfl) (by decide) rfl (fun ls hl => ?_)
            have t_53 : v_52.toInt = x_18.toInt + 1 ∧ 1 ≤ v_52.toInt ∧ v_52.toInt ≤ 17 := iv_addc ev_52 i_32 (by decide) (by decide) (by decide)
            refine lv_goto (tgt := 43) hx hb dX3_read_74 (by decide) ?_
            exact ih_27 v_52 fv_46 ar_48 wd_47 _ _ ls (by omega) (iv_w t_53.2 (by decide) (by decide)) hF_fv_46 (fM_call (fM_call (fM_call (fM_rf [14, 15, 16, 17, 18, 19, 20] _) fr_20 (by decide)) fr_39 (by decide)) fr_49 (by decide)) hA_ar_48 (fA_call (fA_call (fA_call (fA_rf [38, 39, 40, 41, 42, 43] _) fa_22 (by decide)) fa_40 (by decide)) fa_50 (by decide)) (tO_w to_24 (wf_51.trans wf_41)) ((congrArg (fun z => z.2) (wf_51.trans wf_41)).trans tq_25) p_45 hP hS (lv_sub hl [1, 0] rfl)
  · skip
    have z_55 : (0 : Int32).toInt = 0 := by decide
    exact hj_29 18 0 fv_11 ar_13 wd_12 _ _ ls (by first | decide | omega) (iv_w (⟨by decide, by decide⟩ : (0 : Int) ≤ (0 : Int32).toInt ∧ (0 : Int32).toInt ≤ 0) (by decide) (by decide)) hF_fv_11 (fM_rf [14, 15, 16, 17, 18, 19, 20] _) hA_ar_13 (fA_rf [38, 39, 40, 41, 42, 43] _) p_9 p_10 hp_17 hP hS (lv_sub hl [1, 0] rfl)

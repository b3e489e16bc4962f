set_option maxHeartbeats 4000000 in
set_option maxRecDepth 100000 in
theorem x_readyPeopleE (l : Launch) (dC : Nat → ClassId) (dI : Nat → Nat → Nat) (sz : Nat) (ob ad : Nat → Nat) (cA : Nat → ClassId) (hd : dX ob ad) (fv : Nat → Int32) (wd : xT) (ar : Nat → Nat → Int32) (hF_fv : rX fv) (hA_ar : rB ar) (hp_mR : mx_R fv ar) : Met l yX1_readyPeople (.code yX1_readyPeople cX1_readyPeople 2 none :: lw_good) ({ frames := 4, cells := 0, slots := 0, locals := 85 }) (va_Pc [.ref (ob 8)] (prX dC dI ob ad cA fv wd ar sz)) (va_Qv (fun (u : xS) => rX u.1 ∧ rB u.2.2 ∧ fM [] fv u.1 ∧ fA [44, 45, 46, 47, 48, 49, 50, 57, 64] ar u.2.2 ∧ u.2.1.2 = wd.2 ∧ (mx_S u.1 u.2.2 = mo_fo (mo_rp0 (mx_D fv ar) (ar 13) (ar 12)) (mx_S fv ar) (((fv 10).toInt.toNat))) ∧ (mx_C u.1 u.2.2) ∧ True) (enX dC dI ob ad cA) (aX ob ad sz)) 0 0 (aX ob ad sz) := by
  refine Met.ofW (cc := cX1_readyPeople) (maxL := 2) (ret := none) (by decide) rfl ?_
  intro p e s m args below meth c s₁ B hml hv
  obtain ⟨rfl, hsz, hP, hK⟩ := hv
  have hx := B.exec
  have hb := B.bytes
  have hr := B.returns
  have hts := atoms_spec (ws := (.code yX1_readyPeople cX1_readyPeople 2 none :: lw_good)) B.pre
  have htg : ∀ w ∈ lw_good, w.before _ s = true := fun w hw => hts w (List.mem_cons_of_mem _ hw)
  have hown : s.vm.findClass RX1 = some m.cls := findClass_of_methodNamed B.named
  have hlocks := B.notSynchronized
  subst hsz
  have hS : va_S (aX ob ad s.heap.size) s.heap s.heap [] := va_S.rf
  have hl := lv_entry ([.ref (ob 8)]) (n := 2) (Nat.le_of_ble_eq_true rfl)
  rw [lg_entry_eq]
  generalize (lg_sl ([.ref (ob 8)]) ++ List.replicate (2 - (lg_sl ([.ref (ob 8)])).length) Slot.unset).toArray = ls at hl ⊢
  have hl : lv_has ls 2 [(0, .ref (ob 8))] := hl
  refine lv_iconst (v := 0) hx hb dX1_readyPeople_0 (by decide) ?_
  refine lv_istore_n (lv' := [(1, .int 0), (0, .ref (ob 8))]) hx hb dX1_readyPeople_1 rfl hl (by decide) rfl (fun ls hl => ?_)
  refine my_cut (P := fun R9 a9 Q9 => ∀ (n_12 : Nat) (x_1 : Int32) (fv_2 : Nat → Int32) (ar_4 : Nat → Nat → Int32) (wd_6 : xT) (H : Heap) (locs : List Loc) (ls : Array Slot), 40 - x_1.toInt < (n_12 : Int) → (0 ≤ x_1.toInt ∧ x_1.toInt ≤ 40) → rX fv_2 → fM [] fv fv_2 → rB ar_4 → fA [44, 45, 46, 47, 48, 49, 50, 57, 64] ar ar_4 → wd_6.2 = wd.2 → mx_R fv_2 ar_4 → (mx_S fv_2 ar_4 = mo_fo (mo_rp0 (mx_D fv ar) (ar 13) (ar 12)) (mx_S fv ar) (x_1.toInt.toNat)) → (∀ q : Nat, (q : Int) < x_1.toInt → (ar_4 64 q).toInt = mo_pc (mx_D fv ar) (ar_4 45 q) q) → (x_1.toInt ≤ (fv 10).toInt) → va_P (dC, dI) vwCl (wsX ob ad cA fv_2 wd_6 ar_4) H → va_S (aX ob ad s.heap.size) s.heap H locs → lv_has ls 2 [(0, .ref (ob 8)), (1, .int x_1)] → W p l e R9 s m a9 below meth c H locs 0 0 Q9 (F0 m 2 ls [])) ?_ (fun hj_14 => ?_)
  · intro n_12
    induction n_12 with
    | zero => intro x_1 fv_2 ar_4 wd_6 H locs ls fu_13 i_x_1 hF_fv_2 fr_3 hA_ar_4 fa_5 wf_7 hp_8 q_9 q_10 q_11; exfalso; omega
    | succ n_12 ih_12 =>
      intro x_1 fv_2 ar_4 wd_6 H locs ls fu_13 i_x_1 hF_fv_2 fr_3 hA_ar_4 fa_5 wf_7 hp_8 q_9 q_10 q_11 hP hS hl
      refine lv_iload_n hx hb dX1_readyPeople_2 rfl (lv_at hl 1 rfl) ?_
      refine lv_aload_n hx hb dX1_readyPeople_3 rfl (lv_at hl 0 rfl) ?_
      refine gX_X1_9 hx hb htg hown hK hP dX1_readyPeople_4 ?_
      refine gX_X1_129 hx hb htg hown hK hP dX1_readyPeople_7 ?_
      refine gX_X1_133 hx hb htg hown hK hP dX1_readyPeople_10 ?_
      refine my_ti (y := fv 10) ((fr_3 10 rfl)) ?_
      have i_15 : 0 ≤ (fv 10).toInt ∧ (fv 10).toInt ≤ 40 := hF_fv 10
      refine lv_icmp_ge (tgt := 123) hx hb dX1_readyPeople_13 (by decide) (fun c_16 => ?_) (fun c_16 => ?_)
      · skip
        have k_17 := Int32.le_iff_toInt_le.mp c_16
        exact W.vret hx hb hr (fun t ht hW => ⟨⟨(fv_2, wd_6, ar_4), rfl, ⟨hF_fv_2, hA_ar_4, (fM_call (fM_rf [] _) fr_3 (by decide)), (fA_call (fA_rf [44, 45, 46, 47, 48, 49, 50, 57, 64] _) fa_5 (by decide)), wf_7, (show mx_S fv_2 ar_4 = mo_fo (mo_rp0 (mx_D fv ar) (ar 13) (ar 12)) (mx_S fv ar) (((fv 10).toInt.toNat)) from by have h9 := q_9; rw [show x_1.toInt.toNat = (fv 10).toInt.toNat from by omega] at h9; exact h9), (show mx_C fv_2 ar_4 from fun q9 h9 => by rw [show mx_D fv_2 ar_4 = mx_D fv ar from (mx_D_fr (fM_call (fM_rf [] _) fr_3 (by decide)) (fA_call (fA_rf [44, 45, 46, 47, 48, 49, 50, 57, 64] _) fa_5 (by decide)) rfl rfl)]; exact q_10 q9 (by have h8 : (fv_2 10) = fv 10 := ((fM_call (fM_rf [] _) fr_3 (by decide)) 10 rfl); rw [h8] at h9; omega)), trivial⟩, ⟨by rw [ht]; exact hP, va_K.moved hW.alike hK⟩⟩, hS.F ht⟩) hS.2.2 dX1_readyPeople_123
      · skip
        have i_18 : 0 ≤ x_1.toInt ∧ x_1.toInt ≤ 39 := iv_lt1 i_x_1 i_15 (Int32.not_le.mp c_16)
        have i_19 : 1 ≤ (fv 10).toInt ∧ (fv 10).toInt ≤ 40 := iv_lt2 i_x_1 i_15 (Int32.not_le.mp c_16)
        have k_20 := Int32.lt_iff_toInt_lt.mp (Int32.not_le.mp c_16)
        refine lv_aload_n hx hb dX1_readyPeople_16 rfl (lv_at hl 0 rfl) ?_
        refine gX_X1_35 hx hb htg hown hK hP dX1_readyPeople_17 ?_
        refine lv_iload_n hx hb dX1_readyPeople_20 rfl (lv_at hl 1 rfl) ?_
        refine lv_aload_n hx hb dX1_readyPeople_21 rfl (lv_at hl 0 rfl) ?_
        refine gX_X1_9 hx hb htg hown hK hP dX1_readyPeople_22 ?_
        refine gX_X1_129 hx hb htg hown hK hP dX1_readyPeople_25 ?_
        refine gX_X1_136 hx hb htg hown hK hP dX1_readyPeople_28 ?_
        refine lv_iload_n hx hb dX1_readyPeople_31 rfl (lv_at hl 1 rfl) ?_
        refine lX_13 hx hb hK hP (iv_in i_18 (by decide) (by decide)) dX1_readyPeople_32 (fun v_21 ev_21 => ?_)
        refine sX_44 hx hb hK hP hS hd (iv_in i_18 (by decide) (by decide)) dX1_readyPeople_33 (fun H locs ar_22 ear_22 hP hS => ?_)
        have hA_ar_22 : rB ar_22 := rB_put hA_ar_4 ear_22 (iv_any _)
        refine lv_aload_n hx hb dX1_readyPeople_34 rfl (lv_at hl 0 rfl) ?_
        refine gX_X1_39 hx hb htg hown hK hP dX1_readyPeople_35 ?_
        refine lv_iload_n hx hb dX1_readyPeople_38 rfl (lv_at hl 1 rfl) ?_
        refine lv_aload_n hx hb dX1_readyPeople_39 rfl (lv_at hl 0 rfl) ?_
        refine gX_X1_9 hx hb htg hown hK hP dX1_readyPeople_40 ?_
        refine gX_X1_129 hx hb htg hown hK hP dX1_readyPeople_43 ?_
        refine gX_X1_137 hx hb htg hown hK hP dX1_readyPeople_46 ?_
        refine lv_iload_n hx hb dX1_readyPeople_49 rfl (lv_at hl 1 rfl) ?_
        refine lX_12 hx hb hK hP (iv_in i_18 (by decide) (by decide)) dX1_readyPeople_50 (fun v_23 ev_23 => ?_)
        refine sX_45 hx hb hK hP hS hd (iv_in i_18 (by decide) (by decide)) dX1_readyPeople_51 (fun H locs ar_24 ear_24 hP hS => ?_)
        have hA_ar_24 : rB ar_24 := rB_put hA_ar_22 ear_24 (iv_any _)
        refine lv_aload_n hx hb dX1_readyPeople_52 rfl (lv_at hl 0 rfl) ?_
        refine gX_X1_20 hx hb htg hown hK hP dX1_readyPeople_53 ?_
        refine lv_iload_n hx hb dX1_readyPeople_56 rfl (lv_at hl 1 rfl) ?_
        refine lv_aload_n hx hb dX1_readyPeople_57 rfl (lv_at hl 0 rfl) ?_
        refine gX_X1_39 hx hb htg hown hK hP dX1_readyPeople_58 ?_
        refine lv_iload_n hx hb dX1_readyPeople_61 rfl (lv_at hl 1 rfl) ?_
        refine lX_45 hx hb hK hP (iv_in i_18 (by decide) (by decide)) dX1_readyPeople_62 (fun v_25 ev_25 => ?_)
        refine va_callv (va_runV (As := [.int x_1, .int v_25]) (rest := []) ⟨hx, hb, hml, hown, hts⟩ (x_setPaceE l dC dI H.size ob ad cA hd fv_2 wd_6 ar_24 hF_fv_2 hA_ar_24 x_1 v_25 i_18 (mx_R_fr hp_8 (fM_rf [] _) (fA_put (fA_put (fA_rf [44, 45] _) ear_22 (by decide)) ear_24 (by decide)) rfl rfl rfl rfl rfl rfl rfl rfl rfl rfl rfl rfl rfl rfl rfl rfl rfl rfl rfl rfl rfl rfl rfl rfl rfl rfl rfl)) (cwV 2 hts (gV kw_5_61 kw_5_62 kw_5_63 kw_1_13 kw_5_64) rfl rfl rfl (by decide +kernel) ⟨Nat.le_of_ble_eq_true rfl, Nat.le_of_ble_eq_true rfl⟩) ⟨fun a U g mk q => ⟨q.1, q.2.1, q.2.2.1, va_K.moved (u := U) (U := U.calling g mk a) (Vm.Alike.refl U.vm) q.2.2.2⟩, va_recv hK hP (ci := 9) (q0 := 9) rfl rfl, fun U hU hW => ⟨rfl, by rw [hU], by rw [hU]; exact hP, va_K.moved hW.alike hK⟩⟩ rfl rfl hl.1 rfl (lv_room (Nat.le_of_ble_eq_true rfl)) dX1_readyPeople_63 ⟨Nat.le_of_ble_eq_true rfl, Nat.le_of_ble_eq_true rfl⟩) hS (fun q _ h9 => aX_up hS q h9) (aX_up hS) (fun u t H1 locs ht _ hw hB _ hk1 hS => ?_)
        obtain ⟨fv_28, wd_29, ar_30⟩ := u
        obtain ⟨hF_fv_28, hA_ar_30, fr_31, fa_32, wf_33, p_27, -⟩ := hw
        have wf_33 : wd_29.2 = wd_6.2 := wf_33
        have hP : va_P (dC, dI) vwCl (wsX ob ad cA fv_28 wd_29 ar_30) H1 := by have h9 := hB.1; rw [ht] at h9; exact h9
        have fr_31 : fM [] fv_2 fv_28 := fr_31
        have fa_32 : fA [64] ar_24 ar_30 := fa_32
        have p_27 : ∃ v : Int32, v.toInt = mo_pc (mx_D fv_2 ar_24) v_25 (x_1.toInt.toNat) ∧ ar_30 64 = upd (ar_24 64) (x_1.toInt.toNat) v := p_27
        generalize H1 = H at hP hS ⊢
        refine lv_aload_n hx hb dX1_readyPeople_66 rfl (lv_at hl 0 rfl) ?_
        refine gX_X1_42 hx hb htg hown hK hP dX1_readyPeople_67 ?_
        refine lv_iload_n hx hb dX1_readyPeople_70 rfl (lv_at hl 1 rfl) ?_
        refine lv_iconst (v := (-1)) hx hb dX1_readyPeople_71 (by decide) ?_
        refine sX_46 hx hb hK hP hS hd (iv_in i_18 (by decide) (by decide)) dX1_readyPeople_72 (fun H locs ar_34 ear_34 hP hS => ?_)
        have hA_ar_34 : rB ar_34 := rB_put hA_ar_30 ear_34 (iv_any _)
        refine lv_aload_n hx hb dX1_readyPeople_73 rfl (lv_at hl 0 rfl) ?_
        refine gX_X1_45 hx hb htg hown hK hP dX1_readyPeople_74 ?_
        refine lv_iload_n hx hb dX1_readyPeople_77 rfl (lv_at hl 1 rfl) ?_
        refine lv_iconst (v := 0) hx hb dX1_readyPeople_78 (by decide) ?_
        refine sX_47 hx hb hK hP hS hd (iv_in i_18 (by decide) (by decide)) dX1_readyPeople_79 (fun H locs ar_35 ear_35 hP hS => ?_)
        have hA_ar_35 : rB ar_35 := rB_put hA_ar_34 ear_35 (iv_any _)
        refine lv_aload_n hx hb dX1_readyPeople_80 rfl (lv_at hl 0 rfl) ?_
        refine gX_X1_48 hx hb htg hown hK hP dX1_readyPeople_81 ?_
        refine lv_iload_n hx hb dX1_readyPeople_84 rfl (lv_at hl 1 rfl) ?_
        refine lv_iconst (v := 0) hx hb dX1_readyPeople_85 (by decide) ?_
        refine sX_48 hx hb hK hP hS hd (iv_in i_18 (by decide) (by decide)) dX1_readyPeople_86 (fun H locs ar_36 ear_36 hP hS => ?_)
        have hA_ar_36 : rB ar_36 := rB_put hA_ar_35 ear_36 (iv_any _)
        refine lv_aload_n hx hb dX1_readyPeople_87 rfl (lv_at hl 0 rfl) ?_
        refine gX_X1_51 hx hb htg hown hK hP dX1_readyPeople_88 ?_
        refine lv_iload_n hx hb dX1_readyPeople_91 rfl (lv_at hl 1 rfl) ?_
        refine lv_iconst (v := (-1)) hx hb dX1_readyPeople_92 (by decide) ?_
        refine sX_49 hx hb hK hP hS hd (iv_in i_18 (by decide) (by decide)) dX1_readyPeople_93 (fun H locs ar_37 ear_37 hP hS => ?_)
        have hA_ar_37 : rB ar_37 := rB_put hA_ar_36 ear_37 (iv_w (⟨by decide, by decide⟩ : (-1 : Int) ≤ ((-1) : Int32).toInt ∧ ((-1) : Int32).toInt ≤ -1) (by decide) (by decide))
        refine lv_aload_n hx hb dX1_readyPeople_94 rfl (lv_at hl 0 rfl) ?_
        refine gX_X1_54 hx hb htg hown hK hP dX1_readyPeople_95 ?_
        refine lv_iload_n hx hb dX1_readyPeople_98 rfl (lv_at hl 1 rfl) ?_
        refine lv_iconst (v := (-1)) hx hb dX1_readyPeople_99 (by decide) ?_
        refine sX_50 hx hb hK hP hS hd (iv_in i_18 (by decide) (by decide)) dX1_readyPeople_100 (fun H locs ar_38 ear_38 hP hS => ?_)
        have hA_ar_38 : rB ar_38 := rB_put hA_ar_37 ear_38 (iv_w (⟨by decide, by decide⟩ : (-1 : Int) ≤ ((-1) : Int32).toInt ∧ ((-1) : Int32).toInt ≤ -1) (by decide) (by decide))
        refine lv_aload_n hx hb dX1_readyPeople_101 rfl (lv_at hl 0 rfl) ?_
        refine lv_aload_n hx hb dX1_readyPeople_102 rfl (lv_at hl 0 rfl) ?_
        refine gX_X1_9 hx hb htg hown hK hP dX1_readyPeople_103 ?_
        refine gX_X1_129 hx hb htg hown hK hP dX1_readyPeople_106 ?_
        refine gX_X1_142 hx hb htg hown hK hP dX1_readyPeople_109 ?_
        refine lv_iload_n hx hb dX1_readyPeople_112 rfl (lv_at hl 1 rfl) ?_
        refine lX_9 hx hb hK hP (iv_in i_18 (by decide) (by decide)) dX1_readyPeople_113 (fun v_39 ev_39 => ?_)
        refine va_callv (va_runV (As := [.int v_39]) (rest := []) ⟨hx, hb, hml, hown, hts⟩ (x_markBusyE l dC dI H.size ob ad cA hd fv_28 wd_29 ar_38 hF_fv_28 hA_ar_38 v_39) (cwV 1 hts (gV kw_5_69 kw_5_71 kw_p_22 kw_1_12 kw_5_72) rfl rfl rfl (by decide +kernel) ⟨Nat.le_of_ble_eq_true rfl, Nat.le_of_ble_eq_true rfl⟩) ⟨fun a U g mk q => ⟨q.1, q.2.1, q.2.2.1, va_K.moved (u := U) (U := U.calling g mk a) (Vm.Alike.refl U.vm) q.2.2.2⟩, va_recv hK hP (ci := 2) (q0 := 8) rfl rfl, fun U hU hW => ⟨rfl, by rw [hU], by rw [hU]; exact hP, va_K.moved hW.alike hK⟩⟩ rfl rfl hl.1 rfl (lv_room (Nat.le_of_ble_eq_true rfl)) dX1_readyPeople_114 ⟨Nat.le_of_ble_eq_true rfl, Nat.le_of_ble_eq_true rfl⟩) hS (fun q _ h9 => aX_up hS q h9) (aX_up hS) (fun u t H1 locs ht _ hw hB _ hk1 hS => ?_)
        obtain ⟨fv_42, wd_43, ar_44⟩ := u
        obtain ⟨hF_fv_42, hA_ar_44, fr_45, fa_46, wf_47, p_41, -⟩ := hw
        have wf_47 : wd_43.2 = wd_29.2 := wf_47
        have hP : va_P (dC, dI) vwCl (wsX ob ad cA fv_42 wd_43 ar_44) H1 := by have h9 := hB.1; rw [ht] at h9; exact h9
        have fr_45 : fM [] fv_28 fv_42 := fr_45
        have fa_46 : fA [57] ar_38 ar_44 := fa_46
        have p_41 : mx_S fv_42 ar_44 = mo_mk (mx_S fv_28 ar_38) v_39 := p_41
        generalize H1 = H at hP hS ⊢
        have k_48 : mx_S fv_42 ar_44 = mo_mk (mx_S fv_28 ar_38) v_39 := by have h9 := p_41; (try rw [show mx_D fv_28 ar_38 = mx_D fv ar from (mx_D_fr (fM_call (fM_call (fM_rf [] _) fr_3 (by decide)) fr_31 (by decide)) (fA_put (fA_put (fA_put (fA_put (fA_put (fA_call (fA_put (fA_put (fA_call (fA_rf [44, 45, 46, 47, 48, 49, 50, 57, 64] _) fa_5 (by decide)) ear_22 (by decide)) ear_24 (by decide)) fa_32 (by decide)) ear_34 (by decide)) ear_35 (by decide)) ear_36 (by decide)) ear_37 (by decide)) ear_38 (by decide)) rfl rfl)] at h9); exact h9
        obtain ⟨v_49, ev_49⟩ : ∃ z : Int32, z = x_1 + 1 := ⟨_, rfl⟩
        refine lv_iinc (v := v_49) (lv' := [(1, .int v_49), (0, .ref (ob 8))]) hx hb dX1_readyPeople_117 hl (k := 1) rfl (by rw [ev_49]; rfl) (by decide) rfl (fun ls hl => ?_)
        have t_50 : v_49.toInt = x_1.toInt + 1 ∧ 1 ≤ v_49.toInt ∧ v_49.toInt ≤ 40 := iv_addc ev_49 i_18 (by decide) (by decide) (by decide)
        refine lv_goto (tgt := 2) hx hb dX1_readyPeople_120 (by decide) ?_
        have z_52 : (fv_42 10).toInt = (fv 10).toInt := congrArg Int32.toInt ((fr_45 10 rfl).trans ((fr_31 10 rfl).trans ((fr_3 10 rfl))))
        have z_53 : 0 ≤ (fv_42 10).toInt ∧ (fv_42 10).toInt ≤ 40 := hF_fv_42 10
        exact ih_12 v_49 fv_42 ar_44 wd_43 _ _ ls (by omega) (iv_w t_50.2 (by decide) (by decide)) hF_fv_42 (fM_call (fM_call (fM_call (fM_rf [] _) fr_3 (by decide)) fr_31 (by decide)) fr_45 (by decide)) hA_ar_44 (fA_call (fA_put (fA_put (fA_put (fA_put (fA_put (fA_call (fA_put (fA_put (fA_call (fA_rf [44, 45, 46, 47, 48, 49, 50, 57, 64] _) fa_5 (by decide)) ear_22 (by decide)) ear_24 (by decide)) fa_32 (by decide)) ear_34 (by decide)) ear_35 (by decide)) ear_36 (by decide)) ear_37 (by decide)) ear_38 (by decide)) fa_46 (by decide)) (wf_47.trans (wf_33.trans wf_7)) (mx_R_fr hp_8 (fM_call (fM_call (fM_rf [] _) fr_31 (by decide)) fr_45 (by decide)) (fA_call (fA_put (fA_put (fA_put (fA_put (fA_put (fA_call (fA_put (fA_put (fA_rf [44, 45, 46, 47, 48, 49, 50, 57, 64] _) ear_22 (by decide)) ear_24 (by decide)) fa_32 (by decide)) ear_34 (by decide)) ear_35 (by decide)) ear_36 (by decide)) ear_37 (by decide)) ear_38 (by decide)) fa_46 (by decide)) rfl rfl rfl rfl rfl rfl rfl rfl rfl rfl rfl rfl rfl rfl rfl rfl rfl rfl rfl rfl rfl rfl rfl rfl rfl rfl rfl) (by have sc1 : mx_S fv_2 ar_22 = mo_se (mx_S fv_2 ar_4) 0 (x_1.toInt.toNat) v_21 := mx_S_put (r := 0) (by decide) ear_22; have sc2 : mx_S fv_2 ar_24 = mo_se (mx_S fv_2 ar_22) 1 (x_1.toInt.toNat) v_23 := mx_S_put (r := 1) (by decide) ear_24; have sc3 : mx_S fv_28 ar_30 = mx_S fv_2 ar_24 := mx_S_eq (fA_all fa_32 rfl) (fr_31 23 rfl); have sc4 : mx_S fv_28 ar_34 = mo_se (mx_S fv_28 ar_30) 2 (x_1.toInt.toNat) ((-1) : Int32) := mx_S_put (r := 2) (by decide) ear_34; have sc5 : mx_S fv_28 ar_35 = mo_se (mx_S fv_28 ar_34) 3 (x_1.toInt.toNat) (0 : Int32) := mx_S_put (r := 3) (by decide) ear_35; have sc6 : mx_S fv_28 ar_36 = mo_se (mx_S fv_28 ar_35) 4 (x_1.toInt.toNat) (0 : Int32) := mx_S_put (r := 4) (by decide) ear_36; have sc7 : mx_S fv_28 ar_37 = mo_se (mx_S fv_28 ar_36) 5 (x_1.toInt.toNat) ((-1) : Int32) := mx_S_put (r := 5) (by decide) ear_37; have sc8 : mx_S fv_28 ar_38 = mo_se (mx_S fv_28 ar_37) 6 (x_1.toInt.toNat) ((-1) : Int32) := mx_S_put (r := 6) (by decide) ear_38; have sc9 := k_48; rw [show v_49.toInt.toNat = (x_1.toInt.toNat) + 1 from by omega]; show _ = mo_mk (mo_se (mo_se (mo_se (mo_se (mo_se (mo_se (mo_se (mo_fo (mo_rp0 (mx_D fv ar) (ar 13) (ar 12)) (mx_S fv ar) ((x_1.toInt.toNat))) 0 (x_1.toInt.toNat) (ar 13 (x_1.toInt.toNat))) 1 (x_1.toInt.toNat) (ar 12 (x_1.toInt.toNat))) 2 (x_1.toInt.toNat) (-1)) 3 (x_1.toInt.toNat) 0) 4 (x_1.toInt.toNat) 0) 5 (x_1.toInt.toNat) (-1)) 6 (x_1.toInt.toNat) (-1)) (ar 9 (x_1.toInt.toNat)); rw [← q_9, show ar 13 (x_1.toInt.toNat) = v_21 from ((show v_21 = ar 13 (x_1.toInt.toNat) from by rw [ev_21, show ar_4 13 = ar 13 from ((fA_call (fA_rf [44, 45, 46, 47, 48, 49, 50, 57, 64] _) fa_5 (by decide)) 13 rfl)]; exact congrArg (ar 13) (show x_1.toInt.toNat = (x_1.toInt.toNat) from by omega))).symm, show ar 12 (x_1.toInt.toNat) = v_23 from ((show v_23 = ar 12 (x_1.toInt.toNat) from by rw [ev_23, show ar_22 12 = ar 12 from ((fA_put (fA_call (fA_rf [44, 45, 46, 47, 48, 49, 50, 57, 64] _) fa_5 (by decide)) ear_22 (by decide)) 12 rfl)]; exact congrArg (ar 12) (show x_1.toInt.toNat = (x_1.toInt.toNat) from by omega))).symm, show ar 9 (x_1.toInt.toNat) = v_39 from ((show v_39 = ar 9 (x_1.toInt.toNat) from by rw [ev_39, show ar_38 9 = ar 9 from ((fA_put (fA_put (fA_put (fA_put (fA_put (fA_call (fA_put (fA_put (fA_call (fA_rf [44, 45, 46, 47, 48, 49, 50, 57, 64] _) fa_5 (by decide)) ear_22 (by decide)) ear_24 (by decide)) fa_32 (by decide)) ear_34 (by decide)) ear_35 (by decide)) ear_36 (by decide)) ear_37 (by decide)) ear_38 (by decide)) 9 rfl)]; exact congrArg (ar 9) (show x_1.toInt.toNat = (x_1.toInt.toNat) from by omega))).symm, sc9, sc8, sc7, sc6, sc5, sc4, sc3, sc2, sc1]) (fun q9 h9 => by obtain ⟨z9, hz9, hz8⟩ := p_27; have h64 : ∀ i9, ar_44 64 i9 = if i9 = (x_1.toInt.toNat) then z9 else ar_4 64 i9 := (fun i9 => by rw [show ar_44 64 = ar_30 64 from ((fA_call (fA_put (fA_put (fA_put (fA_put (fA_put (fA_rf [46, 47, 48, 49, 50, 57] _) ear_34 (by decide)) ear_35 (by decide)) ear_36 (by decide)) ear_37 (by decide)) ear_38 (by decide)) fa_46 (by decide)) 64 rfl), hz8]; show (if i9 = (x_1.toInt.toNat) then z9 else ar_24 64 i9) = _; rw [show ar_24 64 = ar_4 64 from ((fA_put (fA_put (fA_rf [44, 45] _) ear_22 (by decide)) ear_24 (by decide)) 64 rfl)]; (try rfl)); have h45 : ∀ i9, ar_44 45 i9 = if i9 = (x_1.toInt.toNat) then v_23 else ar_4 45 i9 := (fun i9 => by rw [show ar_44 45 = ar_24 45 from ((fA_call (fA_put (fA_put (fA_put (fA_put (fA_put (fA_call (fA_rf [46, 47, 48, 49, 50, 57, 64] _) fa_32 (by decide)) ear_34 (by decide)) ear_35 (by decide)) ear_36 (by decide)) ear_37 (by decide)) ear_38 (by decide)) fa_46 (by decide)) 45 rfl), ear_24]; show (if i9 = Int32.toNatClampNeg x_1 then v_23 else ar_22 45 i9) = _; rw [show ar_22 45 = ar_4 45 from ((fA_put (fA_rf [44] _) ear_22 (by decide)) 45 rfl)]; (try rfl)); rw [h64, h45]; by_cases c9 : q9 = (x_1.toInt.toNat); (rw [if_pos c9, if_pos c9, c9]; have h8 := hz9; rw [show mx_D fv_2 ar_24 = mx_D fv ar from (mx_D_fr (fM_call (fM_rf [] _) fr_3 (by decide)) (fA_put (fA_put (fA_call (fA_rf [44, 45, 46, 47, 48, 49, 50, 57, 64] _) fa_5 (by decide)) ear_22 (by decide)) ear_24 (by decide)) rfl rfl)] at h8; rw [(show v_25 = v_23 from by rw [ev_25, show ar_24 45 = ar_24 45 from rfl, ear_24]; show (if Int32.toNatClampNeg x_1 = Int32.toNatClampNeg x_1 then _ else _) = _; exact if_pos rfl)] at h8; exact h8); (rw [if_neg c9, if_neg c9]; exact q_10 q9 (by omega))) (by omega) hP hS (lv_sub hl [1, 0] rfl)
  · skip
    have z_54 : (0 : Int32).toInt = 0 := by decide
    have z_55 : 0 ≤ (fv 10).toInt ∧ (fv 10).toInt ≤ 40 := hF_fv 10
    exact hj_14 41 0 fv ar wd _ _ ls (by first | decide | omega) (iv_w (⟨by decide, by decide⟩ : (0 : Int) ≤ (0 : Int32).toInt ∧ (0 : Int32).toInt ≤ 0) (by decide) (by decide)) hF_fv (fM_rf [] _) hA_ar (fA_rf [44, 45, 46, 47, 48, 49, 50, 57, 64] _) rfl hp_mR (by rw [show (0 : Int32).toInt.toNat = 0 from by decide]; rfl) (fun q h => by exfalso; omega) (by omega) hP hS (lv_sub hl [1, 0] rfl)
set_option maxHeartbeats 4000000 in
set_option maxRecDepth 100000 in
theorem x_readyWheelsE (l : Launch) (dC : Nat → ClassId) (dI : Nat → Nat → Nat) (sz : Nat) (ob ad : Nat → Nat) (cA : Nat → ClassId) (hd : dX ob ad) (fv : Nat → Int32) (wd : xT) (ar : Nat → Nat → Int32) (hF_fv : rX fv) (hA_ar : rB ar) : Met l yX1_readyWheels (.code yX1_readyWheels cX1_readyWheels 2 none :: lw_good) ({ frames := 2, cells := 0, slots := 0, locals := 40 }) (va_Pc [.ref (ob 8)] (prX dC dI ob ad cA fv wd ar sz)) (va_Qv (fun (u : xS) => rX u.1 ∧ rB u.2.2 ∧ fM [] fv u.1 ∧ fA [51, 52, 53, 54, 55] ar u.2.2 ∧ u.2.1.2 = wd.2 ∧ (mx_S u.1 u.2.2 = mo_fo (mo_rw0 (mx_D fv ar) (ar 24)) (mx_S fv ar) (((fv 11).toInt.toNat))) ∧ True) (enX dC dI ob ad cA) (aX ob ad sz)) 0 0 (aX ob ad sz) := by
  refine Met.ofW (cc := cX1_readyWheels) (maxL := 2) (ret := none) (by decide) rfl ?_
  intro p e s m args below meth c s₁ B hml hv
  obtain ⟨rfl, hsz, hP, hK⟩ := hv
  have hx := B.exec
  have hb := B.bytes
  have hr := B.returns
  have hts := atoms_spec (ws := (.code yX1_readyWheels cX1_readyWheels 2 none :: lw_good)) B.pre
  have htg : ∀ w ∈ lw_good, w.before _ s = true := fun w hw => hts w (List.mem_cons_of_mem _ hw)
  have hown : s.vm.findClass RX1 = some m.cls := findClass_of_methodNamed B.named
  have hlocks := B.notSynchronized
  subst hsz
  have hS : va_S (aX ob ad s.heap.size) s.heap s.heap [] := va_S.rf
  have hl := lv_entry ([.ref (ob 8)]) (n := 2) (Nat.le_of_ble_eq_true rfl)
  rw [lg_entry_eq]
  generalize (lg_sl ([.ref (ob 8)]) ++ List.replicate (2 - (lg_sl ([.ref (ob 8)])).length) Slot.unset).toArray = ls at hl ⊢
  have hl : lv_has ls 2 [(0, .ref (ob 8))] := hl
  refine lv_iconst (v := 0) hx hb dX1_readyWheels_0 (by decide) ?_
  refine lv_istore_n (lv' := [(1, .int 0), (0, .ref (ob 8))]) hx hb dX1_readyWheels_1 rfl hl (by decide) rfl (fun ls hl => ?_)
  refine my_cut (P := fun R9 a9 Q9 => ∀ (n_6 : Nat) (x_1 : Int32) (ar_2 : Nat → Nat → Int32) (H : Heap) (locs : List Loc) (ls : Array Slot), 20 - x_1.toInt < (n_6 : Int) → (0 ≤ x_1.toInt ∧ x_1.toInt ≤ 20) → rB ar_2 → fA [51, 52, 53, 54, 55] ar ar_2 → (mx_S fv ar_2 = mo_fo (mo_rw0 (mx_D fv ar) (ar 24)) (mx_S fv ar) (x_1.toInt.toNat)) → (x_1.toInt ≤ (fv 11).toInt) → va_P (dC, dI) vwCl (wsX ob ad cA fv wd ar_2) H → va_S (aX ob ad s.heap.size) s.heap H locs → lv_has ls 2 [(0, .ref (ob 8)), (1, .int x_1)] → W p l e R9 s m a9 below meth c H locs 0 0 Q9 (F0 m 2 ls [])) ?_ (fun hj_8 => ?_)
  · intro n_6
    induction n_6 with
    | zero => intro x_1 ar_2 H locs ls fu_7 i_x_1 hA_ar_2 fa_3 q_4 q_5; exfalso; omega
    | succ n_6 ih_6 =>
      intro x_1 ar_2 H locs ls fu_7 i_x_1 hA_ar_2 fa_3 q_4 q_5 hP hS hl
      refine lv_iload_n hx hb dX1_readyWheels_2 rfl (lv_at hl 1 rfl) ?_
      refine lv_aload_n hx hb dX1_readyWheels_3 rfl (lv_at hl 0 rfl) ?_
      refine gX_X1_9 hx hb htg hown hK hP dX1_readyWheels_4 ?_
      refine gX_X1_148 hx hb htg hown hK hP dX1_readyWheels_7 ?_
      refine gX_X1_152 hx hb htg hown hK hP dX1_readyWheels_10 ?_
      have i_9 : 0 ≤ (fv 11).toInt ∧ (fv 11).toInt ≤ 20 := hF_fv 11
      refine lv_icmp_ge (tgt := 79) hx hb dX1_readyWheels_13 (by decide) (fun c_10 => ?_) (fun c_10 => ?_)
      · skip
        have k_11 := Int32.le_iff_toInt_le.mp c_10
        exact W.vret hx hb hr (fun t ht hW => ⟨⟨(fv, wd, ar_2), rfl, ⟨hF_fv, hA_ar_2, (fM_rf [] _), (fA_call (fA_rf [51, 52, 53, 54, 55] _) fa_3 (by decide)), rfl, (show mx_S fv ar_2 = mo_fo (mo_rw0 (mx_D fv ar) (ar 24)) (mx_S fv ar) (((fv 11).toInt.toNat)) from by have h9 := q_4; rw [show x_1.toInt.toNat = (fv 11).toInt.toNat from by omega] at h9; exact h9), trivial⟩, ⟨by rw [ht]; exact hP, va_K.moved hW.alike hK⟩⟩, hS.F ht⟩) hS.2.2 dX1_readyWheels_79
      · skip
        have i_12 : 0 ≤ x_1.toInt ∧ x_1.toInt ≤ 19 := iv_lt1 i_x_1 i_9 (Int32.not_le.mp c_10)
        have i_13 : 1 ≤ (fv 11).toInt ∧ (fv 11).toInt ≤ 20 := iv_lt2 i_x_1 i_9 (Int32.not_le.mp c_10)
        have k_14 := Int32.lt_iff_toInt_lt.mp (Int32.not_le.mp c_10)
        refine lv_aload_n hx hb dX1_readyWheels_16 rfl (lv_at hl 0 rfl) ?_
        refine gX_X1_59 hx hb htg hown hK hP dX1_readyWheels_17 ?_
        refine lv_iload_n hx hb dX1_readyWheels_20 rfl (lv_at hl 1 rfl) ?_
        refine lv_aload_n hx hb dX1_readyWheels_21 rfl (lv_at hl 0 rfl) ?_
        refine gX_X1_9 hx hb htg hown hK hP dX1_readyWheels_22 ?_
        refine gX_X1_148 hx hb htg hown hK hP dX1_readyWheels_25 ?_
        refine gX_X1_153 hx hb htg hown hK hP dX1_readyWheels_28 ?_
        refine lv_iload_n hx hb dX1_readyWheels_31 rfl (lv_at hl 1 rfl) ?_
        refine lX_24 hx hb hK hP (iv_in i_12 (by decide) (by decide)) dX1_readyWheels_32 (fun v_15 ev_15 => ?_)
        refine sX_51 hx hb hK hP hS hd (iv_in i_12 (by decide) (by decide)) dX1_readyWheels_33 (fun H locs ar_16 ear_16 hP hS => ?_)
        have hA_ar_16 : rB ar_16 := rB_put hA_ar_2 ear_16 (iv_any _)
        refine lv_aload_n hx hb dX1_readyWheels_34 rfl (lv_at hl 0 rfl) ?_
        refine gX_X1_62 hx hb htg hown hK hP dX1_readyWheels_35 ?_
        refine lv_iload_n hx hb dX1_readyWheels_38 rfl (lv_at hl 1 rfl) ?_
        refine lv_iconst (v := 0) hx hb dX1_readyWheels_39 (by decide) ?_
        refine sX_52 hx hb hK hP hS hd (iv_in i_12 (by decide) (by decide)) dX1_readyWheels_40 (fun H locs ar_17 ear_17 hP hS => ?_)
        have hA_ar_17 : rB ar_17 := rB_put hA_ar_16 ear_17 (iv_any _)
        refine lv_aload_n hx hb dX1_readyWheels_41 rfl (lv_at hl 0 rfl) ?_
        refine gX_X1_65 hx hb htg hown hK hP dX1_readyWheels_42 ?_
        refine lv_iload_n hx hb dX1_readyWheels_45 rfl (lv_at hl 1 rfl) ?_
        refine lv_iconst (v := 0) hx hb dX1_readyWheels_46 (by decide) ?_
        refine sX_53 hx hb hK hP hS hd (iv_in i_12 (by decide) (by decide)) dX1_readyWheels_47 (fun H locs ar_18 ear_18 hP hS => ?_)
        have hA_ar_18 : rB ar_18 := rB_put hA_ar_17 ear_18 (iv_any _)
        refine lv_aload_n hx hb dX1_readyWheels_48 rfl (lv_at hl 0 rfl) ?_
        refine gX_X1_68 hx hb htg hown hK hP dX1_readyWheels_49 ?_
        refine lv_iload_n hx hb dX1_readyWheels_52 rfl (lv_at hl 1 rfl) ?_
        refine lv_aload_n hx hb dX1_readyWheels_53 rfl (lv_at hl 0 rfl) ?_
        refine gX_X1_9 hx hb htg hown hK hP dX1_readyWheels_54 ?_
        refine gX_X1_148 hx hb htg hown hK hP dX1_readyWheels_57 ?_
        refine gX_X1_154 hx hb htg hown hK hP dX1_readyWheels_60 ?_
        refine lv_iload_n hx hb dX1_readyWheels_63 rfl (lv_at hl 1 rfl) ?_
        refine lX_21 hx hb hK hP (iv_in i_12 (by decide) (by decide)) dX1_readyWheels_64 (fun v_19 ev_19 => ?_)
        have i_20 : 0 ≤ v_19.toInt ∧ v_19.toInt ≤ 7 := ev_19 ▸ hA_ar_18 21 _
        refine sX_54 hx hb hK hP hS hd (iv_in i_12 (by decide) (by decide)) dX1_readyWheels_65 (fun H locs ar_21 ear_21 hP hS => ?_)
        have hA_ar_21 : rB ar_21 := rB_put hA_ar_18 ear_21 i_20
        refine lv_aload_n hx hb dX1_readyWheels_66 rfl (lv_at hl 0 rfl) ?_
        refine gX_X1_71 hx hb htg hown hK hP dX1_readyWheels_67 ?_
        refine lv_iload_n hx hb dX1_readyWheels_70 rfl (lv_at hl 1 rfl) ?_
        refine lv_iconst (v := (-1)) hx hb dX1_readyWheels_71 (by decide) ?_
        refine sX_55 hx hb hK hP hS hd (iv_in i_12 (by decide) (by decide)) dX1_readyWheels_72 (fun H locs ar_22 ear_22 hP hS => ?_)
        have hA_ar_22 : rB ar_22 := rB_put hA_ar_21 ear_22 (iv_any _)
        obtain ⟨v_23, ev_23⟩ : ∃ z : Int32, z = x_1 + 1 := ⟨_, rfl⟩
        refine lv_iinc (v := v_23) (lv' := [(1, .int v_23), (0, .ref (ob 8))]) hx hb dX1_readyWheels_73 hl (k := 1) rfl (by rw [ev_23]; rfl) (by decide) rfl (fun ls hl => ?_)
        have t_24 : v_23.toInt = x_1.toInt + 1 ∧ 1 ≤ v_23.toInt ∧ v_23.toInt ≤ 20 := iv_addc ev_23 i_12 (by decide) (by decide) (by decide)
        refine lv_goto (tgt := 2) hx hb dX1_readyWheels_76 (by decide) ?_
        have z_26 : 0 ≤ (fv 11).toInt ∧ (fv 11).toInt ≤ 20 := hF_fv 11
        exact ih_6 v_23 ar_22 _ _ ls (by omega) (iv_w t_24.2 (by decide) (by decide)) hA_ar_22 (fA_put (fA_put (fA_put (fA_put (fA_put (fA_call (fA_rf [51, 52, 53, 54, 55] _) fa_3 (by decide)) ear_16 (by decide)) ear_17 (by decide)) ear_18 (by decide)) ear_21 (by decide)) ear_22 (by decide)) (by have sc1 : mx_S fv ar_16 = mo_se (mx_S fv ar_2) 7 (x_1.toInt.toNat) v_15 := mx_S_put (r := 7) (by decide) ear_16; have sc2 : mx_S fv ar_17 = mo_se (mx_S fv ar_16) 8 (x_1.toInt.toNat) (0 : Int32) := mx_S_put (r := 8) (by decide) ear_17; have sc3 : mx_S fv ar_18 = mo_se (mx_S fv ar_17) 9 (x_1.toInt.toNat) (0 : Int32) := mx_S_put (r := 9) (by decide) ear_18; have sc4 : mx_S fv ar_21 = mo_se (mx_S fv ar_18) 10 (x_1.toInt.toNat) v_19 := mx_S_put (r := 10) (by decide) ear_21; have sc5 : mx_S fv ar_22 = mo_se (mx_S fv ar_21) 11 (x_1.toInt.toNat) ((-1) : Int32) := mx_S_put (r := 11) (by decide) ear_22; rw [show v_23.toInt.toNat = (x_1.toInt.toNat) + 1 from by omega]; show _ = mo_se (mo_se (mo_se (mo_se (mo_se (mo_fo (mo_rw0 (mx_D fv ar) (ar 24)) (mx_S fv ar) ((x_1.toInt.toNat))) 7 (x_1.toInt.toNat) (ar 24 (x_1.toInt.toNat))) 8 (x_1.toInt.toNat) 0) 9 (x_1.toInt.toNat) 0) 10 (x_1.toInt.toNat) (ar 21 (x_1.toInt.toNat))) 11 (x_1.toInt.toNat) (-1); rw [← q_4, show ar 24 (x_1.toInt.toNat) = v_15 from ((show v_15 = ar 24 (x_1.toInt.toNat) from by rw [ev_15, show ar_2 24 = ar 24 from ((fA_call (fA_rf [51, 52, 53, 54, 55] _) fa_3 (by decide)) 24 rfl)]; exact congrArg (ar 24) (show x_1.toInt.toNat = (x_1.toInt.toNat) from by omega))).symm, show ar 21 (x_1.toInt.toNat) = v_19 from ((show v_19 = ar 21 (x_1.toInt.toNat) from by rw [ev_19, show ar_18 21 = ar 21 from ((fA_put (fA_put (fA_put (fA_call (fA_rf [51, 52, 53, 54, 55] _) fa_3 (by decide)) ear_16 (by decide)) ear_17 (by decide)) ear_18 (by decide)) 21 rfl)]; exact congrArg (ar 21) (show x_1.toInt.toNat = (x_1.toInt.toNat) from by omega))).symm, sc5, sc4, sc3, sc2, sc1]) (by omega) hP hS (lv_sub hl [1, 0] rfl)
  · skip
    have z_27 : (0 : Int32).toInt = 0 := by decide
    have z_28 : 0 ≤ (fv 11).toInt ∧ (fv 11).toInt ≤ 20 := hF_fv 11
    exact hj_8 21 0 ar _ _ ls (by first | decide | omega) (iv_w (⟨by decide, by decide⟩ : (0 : Int) ≤ (0 : Int32).toInt ∧ (0 : Int32).toInt ≤ 0) (by decide) (by decide)) hA_ar (fA_rf [51, 52, 53, 54, 55] _) (by rw [show (0 : Int32).toInt.toNat = 0 from by decide]; rfl) (by omega) hP hS (lv_sub hl [1, 0] rfl)
set_option maxHeartbeats 4000000 in
set_option maxRecDepth 100000 in
theorem x_readyTripsE (l : Launch) (dC : Nat → ClassId) (dI : Nat → Nat → Nat) (sz : Nat) (ob ad : Nat → Nat) (cA : Nat → ClassId) (hd : dX ob ad) (fv : Nat → Int32) (wd : xT) (ar : Nat → Nat → Int32) (hF_fv : rX fv) (hA_ar : rB ar) : Met l yX1_readyTrips (.code yX1_readyTrips cX1_readyTrips 2 none :: lw_good) ({ frames := 4, cells := 0, slots := 0, locals := 83 }) (va_Pc [.ref (ob 8)] (prX dC dI ob ad cA fv wd ar sz)) (va_Qv (fun (u : xS) => rX u.1 ∧ rB u.2.2 ∧ fM [] fv u.1 ∧ fA [56, 57] ar u.2.2 ∧ u.2.1.2 = wd.2 ∧ (mx_S u.1 u.2.2 = mo_fo (mo_rt0 (mx_D fv ar)) (mx_S fv ar) (((fv 12).toInt.toNat))) ∧ True) (enX dC dI ob ad cA) (aX ob ad sz)) 0 0 (aX ob ad sz) := by
  refine Met.ofW (cc := cX1_readyTrips) (maxL := 2) (ret := none) (by decide) rfl ?_
  intro p e s m args below meth c s₁ B hml hv
  obtain ⟨rfl, hsz, hP, hK⟩ := hv
  have hx := B.exec
  have hb := B.bytes
  have hr := B.returns
  have hts := atoms_spec (ws := (.code yX1_readyTrips cX1_readyTrips 2 none :: lw_good)) B.pre
  have htg : ∀ w ∈ lw_good, w.before _ s = true := fun w hw => hts w (List.mem_cons_of_mem _ hw)
  have hown : s.vm.findClass RX1 = some m.cls := findClass_of_methodNamed B.named
  have hlocks := B.notSynchronized
  subst hsz
  have hS : va_S (aX ob ad s.heap.size) s.heap s.heap [] := va_S.rf
  have hl := lv_entry ([.ref (ob 8)]) (n := 2) (Nat.le_of_ble_eq_true rfl)
  rw [lg_entry_eq]
  generalize (lg_sl ([.ref (ob 8)]) ++ List.replicate (2 - (lg_sl ([.ref (ob 8)])).length) Slot.unset).toArray = ls at hl ⊢
  have hl : lv_has ls 2 [(0, .ref (ob 8))] := hl
  refine lv_iconst (v := 0) hx hb dX1_readyTrips_0 (by decide) ?_
  refine lv_istore_n (lv' := [(1, .int 0), (0, .ref (ob 8))]) hx hb dX1_readyTrips_1 rfl hl (by decide) rfl (fun ls hl => ?_)
  refine my_cut (P := fun R9 a9 Q9 => ∀ (n_10 : Nat) (x_1 : Int32) (fv_2 : Nat → Int32) (ar_4 : Nat → Nat → Int32) (wd_6 : xT) (H : Heap) (locs : List Loc) (ls : Array Slot), 80 - x_1.toInt < (n_10 : Int) → (0 ≤ x_1.toInt ∧ x_1.toInt ≤ 80) → rX fv_2 → fM [] fv fv_2 → rB ar_4 → fA [56, 57] ar ar_4 → wd_6.2 = wd.2 → (mx_S fv_2 ar_4 = mo_fo (mo_rt0 (mx_D fv ar)) (mx_S fv ar) (x_1.toInt.toNat)) → (x_1.toInt ≤ (fv 12).toInt) → va_P (dC, dI) vwCl (wsX ob ad cA fv_2 wd_6 ar_4) H → va_S (aX ob ad s.heap.size) s.heap H locs → lv_has ls 2 [(0, .ref (ob 8)), (1, .int x_1)] → W p l e R9 s m a9 below meth c H locs 0 0 Q9 (F0 m 2 ls [])) ?_ (fun hj_12 => ?_)
  · intro n_10
    induction n_10 with
    | zero => intro x_1 fv_2 ar_4 wd_6 H locs ls fu_11 i_x_1 hF_fv_2 fr_3 hA_ar_4 fa_5 wf_7 q_8 q_9; exfalso; omega
    | succ n_10 ih_10 =>
      intro x_1 fv_2 ar_4 wd_6 H locs ls fu_11 i_x_1 hF_fv_2 fr_3 hA_ar_4 fa_5 wf_7 q_8 q_9 hP hS hl
      refine lv_iload_n hx hb dX1_readyTrips_2 rfl (lv_at hl 1 rfl) ?_
      refine lv_aload_n hx hb dX1_readyTrips_3 rfl (lv_at hl 0 rfl) ?_
      refine gX_X1_9 hx hb htg hown hK hP dX1_readyTrips_4 ?_
      refine gX_X1_157 hx hb htg hown hK hP dX1_readyTrips_7 ?_
      refine gX_X1_161 hx hb htg hown hK hP dX1_readyTrips_10 ?_
      refine my_ti (y := fv 12) ((fr_3 12 rfl)) ?_
      have i_13 : 0 ≤ (fv 12).toInt ∧ (fv 12).toInt ≤ 80 := hF_fv 12
      refine lv_icmp_ge (tgt := 53) hx hb dX1_readyTrips_13 (by decide) (fun c_14 => ?_) (fun c_14 => ?_)
      · skip
        have k_15 := Int32.le_iff_toInt_le.mp c_14
        exact W.vret hx hb hr (fun t ht hW => ⟨⟨(fv_2, wd_6, ar_4), rfl, ⟨hF_fv_2, hA_ar_4, (fM_call (fM_rf [] _) fr_3 (by decide)), (fA_call (fA_rf [56, 57] _) fa_5 (by decide)), wf_7, (show mx_S fv_2 ar_4 = mo_fo (mo_rt0 (mx_D fv ar)) (mx_S fv ar) (((fv 12).toInt.toNat)) from by have h9 := q_8; rw [show x_1.toInt.toNat = (fv 12).toInt.toNat from by omega] at h9; exact h9), trivial⟩, ⟨by rw [ht]; exact hP, va_K.moved hW.alike hK⟩⟩, hS.F ht⟩) hS.2.2 dX1_readyTrips_53
      · skip
        have i_16 : 0 ≤ x_1.toInt ∧ x_1.toInt ≤ 79 := iv_lt1 i_x_1 i_13 (Int32.not_le.mp c_14)
        have i_17 : 1 ≤ (fv 12).toInt ∧ (fv 12).toInt ≤ 80 := iv_lt2 i_x_1 i_13 (Int32.not_le.mp c_14)
        have k_18 := Int32.lt_iff_toInt_lt.mp (Int32.not_le.mp c_14)
        refine lv_aload_n hx hb dX1_readyTrips_16 rfl (lv_at hl 0 rfl) ?_
        refine gX_X1_76 hx hb htg hown hK hP dX1_readyTrips_17 ?_
        refine lv_iload_n hx hb dX1_readyTrips_20 rfl (lv_at hl 1 rfl) ?_
        refine lv_iconst (v := (-1)) hx hb dX1_readyTrips_21 (by decide) ?_
        refine sX_56 hx hb hK hP hS hd (iv_in i_16 (by decide) (by decide)) dX1_readyTrips_22 (fun H locs ar_19 ear_19 hP hS => ?_)
        have hA_ar_19 : rB ar_19 := rB_put hA_ar_4 ear_19 (iv_any _)
        refine lv_aload_n hx hb dX1_readyTrips_23 rfl (lv_at hl 0 rfl) ?_
        refine lv_iload_n hx hb dX1_readyTrips_24 rfl (lv_at hl 1 rfl) ?_
        refine va_calli (va_runV (As := [.int x_1]) (rest := []) ⟨hx, hb, hml, hown, hts⟩ (x_goesTodayE l dC dI H.size ob ad cA hd fv_2 wd_6 ar_19 hF_fv_2 hA_ar_19 x_1 i_16) (cwV 1 hts (gV kw_5_81 kw_5_83 kw_p_25 kw_1_12 kw_5_84) rfl rfl rfl (by decide +kernel) ⟨Nat.le_of_ble_eq_true rfl, Nat.le_of_ble_eq_true rfl⟩) ⟨fun a U g mk q => ⟨q.1, q.2.1, q.2.2.1, va_K.moved (u := U) (U := U.calling g mk a) (Vm.Alike.refl U.vm) q.2.2.2⟩, va_recv hK hP (ci := 2) (q0 := 8) rfl rfl, fun U hU hW => ⟨rfl, by rw [hU], by rw [hU]; exact hP, va_K.moved hW.alike hK⟩⟩ rfl rfl hl.1 rfl (lv_room (Nat.le_of_ble_eq_true rfl)) dX1_readyTrips_25 ⟨Nat.le_of_ble_eq_true rfl, Nat.le_of_ble_eq_true rfl⟩) hS (fun q _ h9 => aX_up hS q h9) (aX_up hS) (fun r_20 u t H1 locs ht _ hw hB _ hk1 hS => ?_)
        obtain ⟨fv_23, wd_24, ar_25⟩ := u
        obtain ⟨hF_fv_23, hA_ar_25, fr_26, fa_27, wf_28, p_21, p_22, -⟩ := hw
        have wf_28 : wd_24.2 = wd_6.2 := wf_28
        have hP : va_P (dC, dI) vwCl (wsX ob ad cA fv_23 wd_24 ar_25) H1 := by have h9 := hB.1; rw [ht] at h9; exact h9
        have fr_26 : fM [] fv_2 fv_23 := fr_26
        have fa_27 : fA [] ar_19 ar_25 := fa_27
        generalize H1 = H at hP hS ⊢
        rcases p_22 with ⟨rfl, p_22⟩ | ⟨rfl, p_22⟩
        · skip
          have q_29 : ¬ mo_gt (mx_D fv_2 ar_19) (x_1.toInt.toNat) := p_22
          refine lv_if_eq (tgt := 47) hx hb dX1_readyTrips_28 (by decide) (fun c_30 => ?_) (fun c_30 => ?_)
          · skip
            obtain ⟨v_31, ev_31⟩ : ∃ z : Int32, z = x_1 + 1 := ⟨_, rfl⟩
            refine lv_iinc (v := v_31) (lv' := [(1, .int v_31), (0, .ref (ob 8))]) hx hb dX1_readyTrips_47 hl (k := 1) rfl (by rw [ev_31]; rfl) (by decide) rfl (fun ls hl => ?_)
            have t_32 : v_31.toInt = x_1.toInt + 1 ∧ 1 ≤ v_31.toInt ∧ v_31.toInt ≤ 80 := iv_addc ev_31 i_16 (by decide) (by decide) (by decide)
            refine lv_goto (tgt := 2) hx hb dX1_readyTrips_50 (by decide) ?_
            have z_49 : (fv_23 12).toInt = (fv 12).toInt := congrArg Int32.toInt ((fr_26 12 rfl).trans ((fr_3 12 rfl)))
            have z_50 : 0 ≤ (fv_23 12).toInt ∧ (fv_23 12).toInt ≤ 80 := hF_fv_23 12
            exact ih_10 v_31 fv_23 ar_25 wd_24 _ _ ls (by omega) (iv_w t_32.2 (by decide) (by decide)) hF_fv_23 (fM_call (fM_call (fM_rf [] _) fr_3 (by decide)) fr_26 (by decide)) hA_ar_25 (fA_call (fA_put (fA_call (fA_rf [56, 57] _) fa_5 (by decide)) ear_19 (by decide)) fa_27 (by decide)) (wf_28.trans wf_7) (by have sc1 : mx_S fv_2 ar_19 = mo_se (mx_S fv_2 ar_4) 12 (x_1.toInt.toNat) ((-1) : Int32) := mx_S_put (r := 12) (by decide) ear_19; have sc2 : mx_S fv_23 ar_25 = mx_S fv_2 ar_19 := mx_S_eq (fA_all fa_27 rfl) (fr_26 23 rfl); rw [show v_31.toInt.toNat = (x_1.toInt.toNat) + 1 from by omega]; show _ = mo_rt0 (mx_D fv ar) (mo_fo (mo_rt0 (mx_D fv ar)) (mx_S fv ar) ((x_1.toInt.toNat))) (x_1.toInt.toNat); rw [← q_8]; unfold mo_rt0; rw [mo_ii_n (by have h9 := q_29; rw [show mx_D fv_2 ar_19 = mx_D fv ar from (mx_D_fr (fM_call (fM_rf [] _) fr_3 (by decide)) (fA_put (fA_call (fA_rf [56, 57] _) fa_5 (by decide)) ear_19 (by decide)) rfl rfl)] at h9; exact h9), sc2, sc1]) (by omega) hP hS (lv_sub hl [1, 0] rfl)
          · skip
            exact absurd c_30 (by decide)
        · skip
          have q_34 : mo_gt (mx_D fv_2 ar_19) (x_1.toInt.toNat) := p_22
          refine lv_if_eq (tgt := 47) hx hb dX1_readyTrips_28 (by decide) (fun c_35 => ?_) (fun c_35 => ?_)
          · skip
            exact absurd c_35 (by decide)
          · skip
            refine lv_aload_n hx hb dX1_readyTrips_31 rfl (lv_at hl 0 rfl) ?_
            refine lv_aload_n hx hb dX1_readyTrips_32 rfl (lv_at hl 0 rfl) ?_
            refine gX_X1_9 hx hb htg hown hK hP dX1_readyTrips_33 ?_
            refine gX_X1_157 hx hb htg hown hK hP dX1_readyTrips_36 ?_
            refine gX_X1_166 hx hb htg hown hK hP dX1_readyTrips_39 ?_
            refine lv_iload_n hx hb dX1_readyTrips_42 rfl (lv_at hl 1 rfl) ?_
            refine lX_31 hx hb hK hP (iv_in i_16 (by decide) (by decide)) dX1_readyTrips_43 (fun v_36 ev_36 => ?_)
            refine va_callv (va_runV (As := [.int v_36]) (rest := []) ⟨hx, hb, hml, hown, hts⟩ (x_markBusyE l dC dI H.size ob ad cA hd fv_23 wd_24 ar_25 hF_fv_23 hA_ar_25 v_36) (cwV 1 hts (gV kw_5_69 kw_5_71 kw_p_22 kw_1_12 kw_5_72) rfl rfl rfl (by decide +kernel) ⟨Nat.le_of_ble_eq_true rfl, Nat.le_of_ble_eq_true rfl⟩) ⟨fun a U g mk q => ⟨q.1, q.2.1, q.2.2.1, va_K.moved (u := U) (U := U.calling g mk a) (Vm.Alike.refl U.vm) q.2.2.2⟩, va_recv hK hP (ci := 2) (q0 := 8) rfl rfl, fun U hU hW => ⟨rfl, by rw [hU], by rw [hU]; exact hP, va_K.moved hW.alike hK⟩⟩ rfl rfl hl.1 rfl (lv_room (Nat.le_of_ble_eq_true rfl)) dX1_readyTrips_44 ⟨Nat.le_of_ble_eq_true rfl, Nat.le_of_ble_eq_true rfl⟩) hS (fun q _ h9 => aX_up hS q h9) (aX_up hS) (fun u t H1 locs ht _ hw hB _ hk1 hS => ?_)
            obtain ⟨fv_39, wd_40, ar_41⟩ := u
            obtain ⟨hF_fv_39, hA_ar_41, fr_42, fa_43, wf_44, p_38, -⟩ := hw
            have wf_44 : wd_40.2 = wd_24.2 := wf_44
            have hP : va_P (dC, dI) vwCl (wsX ob ad cA fv_39 wd_40 ar_41) H1 := by have h9 := hB.1; rw [ht] at h9; exact h9
            have fr_42 : fM [] fv_23 fv_39 := fr_42
            have fa_43 : fA [57] ar_25 ar_41 := fa_43
            have p_38 : mx_S fv_39 ar_41 = mo_mk (mx_S fv_23 ar_25) v_36 := p_38
            generalize H1 = H at hP hS ⊢
            have k_45 : mx_S fv_39 ar_41 = mo_mk (mx_S fv_23 ar_25) v_36 := by have h9 := p_38; (try rw [show mx_D fv_23 ar_25 = mx_D fv ar from (mx_D_fr (fM_call (fM_call (fM_rf [] _) fr_3 (by decide)) fr_26 (by decide)) (fA_call (fA_put (fA_call (fA_rf [56, 57] _) fa_5 (by decide)) ear_19 (by decide)) fa_27 (by decide)) rfl rfl)] at h9); exact h9
            obtain ⟨v_46, ev_46⟩ : ∃ z : Int32, z = x_1 + 1 := ⟨_, rfl⟩
            refine lv_iinc (v := v_46) (lv' := [(1, .int v_46), (0, .ref (ob 8))]) hx hb dX1_readyTrips_47 hl (k := 1) rfl (by rw [ev_46]; rfl) (by decide) rfl (fun ls hl => ?_)
            have t_47 : v_46.toInt = x_1.toInt + 1 ∧ 1 ≤ v_46.toInt ∧ v_46.toInt ≤ 80 := iv_addc ev_46 i_16 (by decide) (by decide) (by decide)
            refine lv_goto (tgt := 2) hx hb dX1_readyTrips_50 (by decide) ?_
            have z_51 : (fv_39 12).toInt = (fv 12).toInt := congrArg Int32.toInt ((fr_42 12 rfl).trans ((fr_26 12 rfl).trans ((fr_3 12 rfl))))
            have z_52 : 0 ≤ (fv_39 12).toInt ∧ (fv_39 12).toInt ≤ 80 := hF_fv_39 12
            exact ih_10 v_46 fv_39 ar_41 wd_40 _ _ ls (by omega) (iv_w t_47.2 (by decide) (by decide)) hF_fv_39 (fM_call (fM_call (fM_call (fM_rf [] _) fr_3 (by decide)) fr_26 (by decide)) fr_42 (by decide)) hA_ar_41 (fA_call (fA_call (fA_put (fA_call (fA_rf [56, 57] _) fa_5 (by decide)) ear_19 (by decide)) fa_27 (by decide)) fa_43 (by decide)) (wf_44.trans (wf_28.trans wf_7)) (by have sc1 : mx_S fv_2 ar_19 = mo_se (mx_S fv_2 ar_4) 12 (x_1.toInt.toNat) ((-1) : Int32) := mx_S_put (r := 12) (by decide) ear_19; have sc2 : mx_S fv_23 ar_25 = mx_S fv_2 ar_19 := mx_S_eq (fA_all fa_27 rfl) (fr_26 23 rfl); have sc3 := k_45; rw [show v_46.toInt.toNat = (x_1.toInt.toNat) + 1 from by omega]; show _ = mo_rt0 (mx_D fv ar) (mo_fo (mo_rt0 (mx_D fv ar)) (mx_S fv ar) ((x_1.toInt.toNat))) (x_1.toInt.toNat); rw [← q_8]; unfold mo_rt0; rw [mo_ii_y (by have h9 := q_34; rw [show mx_D fv_2 ar_19 = mx_D fv ar from (mx_D_fr (fM_call (fM_rf [] _) fr_3 (by decide)) (fA_put (fA_call (fA_rf [56, 57] _) fa_5 (by decide)) ear_19 (by decide)) rfl rfl)] at h9; exact h9)]; show _ = mo_mk (mo_se (mx_S fv_2 ar_4) 12 (x_1.toInt.toNat) (-1)) (ar 31 (x_1.toInt.toNat)); rw [show ar 31 (x_1.toInt.toNat) = v_36 from ((show v_36 = ar 31 (x_1.toInt.toNat) from by rw [ev_36, show ar_25 31 = ar 31 from ((fA_call (fA_put (fA_call (fA_rf [56, 57] _) fa_5 (by decide)) ear_19 (by decide)) fa_27 (by decide)) 31 rfl)]; exact congrArg (ar 31) (show x_1.toInt.toNat = (x_1.toInt.toNat) from by omega))).symm, sc3, sc2, sc1]) (by omega) hP hS (lv_sub hl [1, 0] rfl)
  · skip
    have z_53 : (0 : Int32).toInt = 0 := by decide
    have z_54 : 0 ≤ (fv 12).toInt ∧ (fv 12).toInt ≤ 80 := hF_fv 12
    exact hj_12 81 0 fv ar wd _ _ ls (by first | decide | omega) (iv_w (⟨by decide, by decide⟩ : (0 : Int) ≤ (0 : Int32).toInt ∧ (0 : Int32).toInt ≤ 0) (by decide) (by decide)) hF_fv (fM_rf [] _) hA_ar (fA_rf [56, 57] _) rfl (by rw [show (0 : Int32).toInt.toNat = 0 from by decide]; rfl) (by omega) hP hS (lv_sub hl [1, 0] rfl)
set_option maxHeartbeats 4000000 in
set_option maxRecDepth 100000 in
theorem x_sortInE (l : Launch) (dC : Nat → ClassId) (dI : Nat → Nat → Nat) (sz : Nat) (ob ad : Nat → Nat) (cA : Nat → ClassId) (hd : dX ob ad) (fv : Nat → Int32) (wd : xT) (ar : Nat → Nat → Int32) (hF_fv : rX fv) (hA_ar : rB ar) (kk : Int32) (h_kk : 0 ≤ kk.toInt ∧ kk.toInt ≤ 79) (hz : (fv 24).toInt ≤ 79) (hso : mo_or (mx_D fv ar) (mo_rn (mx_D fv ar) (mx_G ar)) (kk.toInt.toNat) ((fv 24).toInt.toNat) (ar 58)) (hsn : mo_rn (mx_D fv ar) (mx_G ar) (kk.toInt.toNat)) : Met l yX9_sortIn (.code yX9_sortIn cX9_sortIn 3 none :: lw_good) ({ frames := 2, cells := 0, slots := 0, locals := 40 }) (va_Pc [.ref (ob 9), .int kk] (prX dC dI ob ad cA fv wd ar sz)) (va_Qv (fun (u : xS) => rX u.1 ∧ rB u.2.2 ∧ fM [24] fv u.1 ∧ fA [58] ar u.2.2 ∧ u.2.1.2 = wd.2 ∧ ((u.1 24).toInt = (fv 24).toInt + 1) ∧ (mo_or (mx_D fv ar) (mo_rn (mx_D fv ar) (mx_G ar)) ((kk.toInt.toNat) + 1) (((fv 24).toInt.toNat) + 1) (u.2.2 58)) ∧ True) (enX dC dI ob ad cA) (aX ob ad sz)) 0 0 (aX ob ad sz) := by
  refine Met.ofW (cc := cX9_sortIn) (maxL := 3) (ret := none) (by decide) rfl ?_
  intro p e s m args below meth c s₁ B hml hv
  obtain ⟨rfl, hsz, hP, hK⟩ := hv
  have hx := B.exec
  have hb := B.bytes
  have hr := B.returns
  have hts := atoms_spec (ws := (.code yX9_sortIn cX9_sortIn 3 none :: lw_good)) B.pre
  have htg : ∀ w ∈ lw_good, w.before _ s = true := fun w hw => hts w (List.mem_cons_of_mem _ hw)
  have hown : s.vm.findClass RX9 = some m.cls := findClass_of_methodNamed B.named
  have hlocks := B.notSynchronized
  subst hsz
  have hS : va_S (aX ob ad s.heap.size) s.heap s.heap [] := va_S.rf
  have hl := lv_entry ([.ref (ob 9), .int kk]) (n := 3) (Nat.le_of_ble_eq_true rfl)
  rw [lg_entry_eq]
  generalize (lg_sl ([.ref (ob 9), .int kk]) ++ List.replicate (3 - (lg_sl ([.ref (ob 9), .int kk])).length) Slot.unset).toArray = ls at hl ⊢
  have hl : lv_has ls 3 [(0, .ref (ob 9)), (1, .int kk)] := hl
  have i_1 : 0 ≤ (fv 24).toInt ∧ (fv 24).toInt ≤ 79 := ⟨(hF_fv 24).1, hz⟩
  refine lv_aload_n hx hb dX9_sortIn_0 rfl (lv_at hl 0 rfl) ?_
  refine gX_X9_51 hx hb htg hown hK hP dX9_sortIn_1 ?_
  refine lv_istore_n (lv' := [(2, .int (fv 24)), (0, .ref (ob 9)), (1, .int kk)]) hx hb dX9_sortIn_4 rfl hl (by decide) rfl (fun ls hl => ?_)
  refine my_cut (P := fun R9 a9 Q9 => ∀ (n_6 : Nat) (x_2 : Int32) (ar_3 : Nat → Nat → Int32) (H : Heap) (locs : List Loc) (ls : Array Slot), x_2.toInt - 0 < (n_6 : Int) → (0 ≤ x_2.toInt ∧ x_2.toInt ≤ 79) → rB ar_3 → fA [58] ar ar_3 → (mo_gap (mx_D fv ar) (ar 58) (ar_3 58) (kk.toInt.toNat) ((fv 24).toInt.toNat) (x_2.toInt.toNat)) → va_P (dC, dI) vwCl (wsX ob ad cA fv wd ar_3) H → va_S (aX ob ad s.heap.size) s.heap H locs → lv_has ls 3 [(0, .ref (ob 9)), (1, .int kk), (2, .int x_2)] → W p l e R9 s m a9 below meth c H locs 0 0 Q9 (F0 m 5 ls [])) ?_ (fun hj_8 => ?_)
  · intro n_6
    induction n_6 with
    | zero => intro x_2 ar_3 H locs ls fu_7 i_x_2 hA_ar_3 fa_4 q_5; exfalso; omega
    | succ n_6 ih_6 =>
      intro x_2 ar_3 H locs ls fu_7 i_x_2 hA_ar_3 fa_4 q_5 hP hS hl
      refine lv_iload_n hx hb dX9_sortIn_5 rfl (lv_at hl 2 rfl) ?_
      refine lv_if_le (tgt := 63) hx hb dX9_sortIn_6 (by decide) (fun c_9 => ?_) (fun c_9 => ?_)
      · skip
        have i_10 : 0 ≤ x_2.toInt ∧ x_2.toInt ≤ 0 := iv_le1 i_x_2 (⟨by decide, by decide⟩ : (0 : Int) ≤ (0 : Int32).toInt ∧ (0 : Int32).toInt ≤ 0) c_9
        refine lv_aload_n hx hb dX9_sortIn_63 rfl (lv_at hl 0 rfl) ?_
        refine gX_X9_17 hx hb htg hown hK hP dX9_sortIn_64 ?_
        refine lv_iload_n hx hb dX9_sortIn_67 rfl (lv_at hl 2 rfl) ?_
        refine lv_iload_n hx hb dX9_sortIn_68 rfl (lv_at hl 1 rfl) ?_
        refine sX_58 hx hb hK hP hS hd (iv_in i_10 (by decide) (by decide)) dX9_sortIn_69 (fun H locs ar_11 ear_11 hP hS => ?_)
        have hA_ar_11 : rB ar_11 := rB_put hA_ar_3 ear_11 h_kk
        refine lv_aload_n hx hb dX9_sortIn_70 rfl (lv_at hl 0 rfl) ?_
        refine lv_dup hx hb dX9_sortIn_71 rfl ?_
        refine gX_X9_51 hx hb htg hown hK hP dX9_sortIn_72 ?_
        refine lv_iconst (v := 1) hx hb dX9_sortIn_75 (by decide) ?_
        refine lv_iadd hx hb dX9_sortIn_76 ?_
        refine lv_topi (fun v_12 ev_12 => ?_)
        have t_13 : v_12.toInt = (fv 24).toInt + 1 ∧ 1 ≤ v_12.toInt ∧ v_12.toInt ≤ 80 := iv_addc ev_12 i_1 (by decide) (by decide) (by decide)
        refine pX_X9_51 hx hb htg hown hK hP hS hd dX9_sortIn_77 (fun H locs fv_15 efv_15 hP hS => ?_)
        have hF_fv_15 : rX fv_15 := rX_put hF_fv efv_15 (iv_w t_13.2 (by decide) (by decide))
        have z_16 : (fv_15 24).toInt = v_12.toInt := congrArg Int32.toInt ((congrFun efv_15 24))
        have z_17 : 0 ≤ (fv_15 24).toInt ∧ (fv_15 24).toInt ≤ 80 := hF_fv_15 24
        exact W.vret hx hb hr (fun t ht hW => ⟨⟨(fv_15, wd, ar_11), rfl, ⟨hF_fv_15, hA_ar_11, (fM_put (fM_rf [24] _) efv_15 (by decide)), (fA_put (fA_call (fA_rf [58] _) fa_4 (by decide)) ear_11 (by decide)), rfl, (show (fv_15 24).toInt = (fv 24).toInt + 1 from by omega), (show mo_or (mx_D fv ar) (mo_rn (mx_D fv ar) (mx_G ar)) ((kk.toInt.toNat) + 1) (((fv 24).toInt.toNat) + 1) (ar_11 58) from mo_gap_e (x := kk) hso hsn q_5 (by omega) (fun i9 => by rw [ear_11]; rfl) (Or.inl (by omega))), trivial⟩, ⟨by rw [ht]; exact hP, va_K.moved hW.alike hK⟩⟩, hS.F ht⟩) hS.2.2 dX9_sortIn_80
      · skip
        have i_18 : 1 ≤ x_2.toInt ∧ x_2.toInt ≤ 79 := iv_lt2 (⟨by decide, by decide⟩ : (0 : Int) ≤ (0 : Int32).toInt ∧ (0 : Int32).toInt ≤ 0) i_x_2 (Int32.not_le.mp c_9)
        refine lv_aload_n hx hb dX9_sortIn_9 rfl (lv_at hl 0 rfl) ?_
        refine gX_X9_9 hx hb htg hown hK hP dX9_sortIn_10 ?_
        refine gX_X9_54 hx hb htg hown hK hP dX9_sortIn_13 ?_
        refine gX_X9_74 hx hb htg hown hK hP dX9_sortIn_16 ?_
        refine lv_aload_n hx hb dX9_sortIn_19 rfl (lv_at hl 0 rfl) ?_
        refine gX_X9_17 hx hb htg hown hK hP dX9_sortIn_20 ?_
        refine lv_iload_n hx hb dX9_sortIn_23 rfl (lv_at hl 2 rfl) ?_
        refine lv_iconst (v := 1) hx hb dX9_sortIn_24 (by decide) ?_
        refine lv_isub hx hb dX9_sortIn_25 ?_
        refine lv_topi (fun v_19 ev_19 => ?_)
        have t_20 : v_19.toInt = x_2.toInt - 1 ∧ 0 ≤ v_19.toInt ∧ v_19.toInt ≤ 78 := iv_subc ev_19 i_18 (by decide) (by decide) (by decide)
        refine lX_58 hx hb hK hP (iv_in t_20.2 (by decide) (by decide)) dX9_sortIn_26 (fun v_22 ev_22 => ?_)
        have i_23 : 0 ≤ v_22.toInt ∧ v_22.toInt ≤ 79 := ev_22 ▸ hA_ar_3 58 _
        refine lX_31 hx hb hK hP (iv_in i_23 (by decide) (by decide)) dX9_sortIn_27 (fun v_24 ev_24 => ?_)
        refine lv_aload_n hx hb dX9_sortIn_28 rfl (lv_at hl 0 rfl) ?_
        refine gX_X9_9 hx hb htg hown hK hP dX9_sortIn_29 ?_
        refine gX_X9_54 hx hb htg hown hK hP dX9_sortIn_32 ?_
        refine gX_X9_74 hx hb htg hown hK hP dX9_sortIn_35 ?_
        refine lv_iload_n hx hb dX9_sortIn_38 rfl (lv_at hl 1 rfl) ?_
        refine lX_31 hx hb hK hP (iv_in h_kk (by decide) (by decide)) dX9_sortIn_39 (fun v_25 ev_25 => ?_)
        refine lv_icmp_ge (tgt := 63) hx hb dX9_sortIn_40 (by decide) (fun c_26 => ?_) (fun c_26 => ?_)
        · skip
          have k_27 := Int32.le_iff_toInt_le.mp c_26
          refine lv_aload_n hx hb dX9_sortIn_63 rfl (lv_at hl 0 rfl) ?_
          refine gX_X9_17 hx hb htg hown hK hP dX9_sortIn_64 ?_
          refine lv_iload_n hx hb dX9_sortIn_67 rfl (lv_at hl 2 rfl) ?_
          refine lv_iload_n hx hb dX9_sortIn_68 rfl (lv_at hl 1 rfl) ?_
          refine sX_58 hx hb hK hP hS hd (iv_in i_18 (by decide) (by decide)) dX9_sortIn_69 (fun H locs ar_28 ear_28 hP hS => ?_)
          have hA_ar_28 : rB ar_28 := rB_put hA_ar_3 ear_28 h_kk
          refine lv_aload_n hx hb dX9_sortIn_70 rfl (lv_at hl 0 rfl) ?_
          refine lv_dup hx hb dX9_sortIn_71 rfl ?_
          refine gX_X9_51 hx hb htg hown hK hP dX9_sortIn_72 ?_
          refine lv_iconst (v := 1) hx hb dX9_sortIn_75 (by decide) ?_
          refine lv_iadd hx hb dX9_sortIn_76 ?_
          refine lv_topi (fun v_29 ev_29 => ?_)
          have t_30 : v_29.toInt = (fv 24).toInt + 1 ∧ 1 ≤ v_29.toInt ∧ v_29.toInt ≤ 80 := iv_addc ev_29 i_1 (by decide) (by decide) (by decide)
          refine pX_X9_51 hx hb htg hown hK hP hS hd dX9_sortIn_77 (fun H locs fv_32 efv_32 hP hS => ?_)
          have hF_fv_32 : rX fv_32 := rX_put hF_fv efv_32 (iv_w t_30.2 (by decide) (by decide))
          have z_33 : (fv_32 24).toInt = v_29.toInt := congrArg Int32.toInt ((congrFun efv_32 24))
          have z_34 : 0 ≤ (fv_32 24).toInt ∧ (fv_32 24).toInt ≤ 80 := hF_fv_32 24
          exact W.vret hx hb hr (fun t ht hW => ⟨⟨(fv_32, wd, ar_28), rfl, ⟨hF_fv_32, hA_ar_28, (fM_put (fM_rf [24] _) efv_32 (by decide)), (fA_put (fA_call (fA_rf [58] _) fa_4 (by decide)) ear_28 (by decide)), rfl, (show (fv_32 24).toInt = (fv 24).toInt + 1 from by omega), (show mo_or (mx_D fv ar) (mo_rn (mx_D fv ar) (mx_G ar)) ((kk.toInt.toNat) + 1) (((fv 24).toInt.toNat) + 1) (ar_28 58) from mo_gap_e (x := kk) hso hsn q_5 (by omega) (fun i9 => by rw [ear_28]; rfl) (Or.inr (by show (ar 31 (kk.toInt.toNat)).toInt ≤ (ar 31 ((ar_3 58 ((x_2.toInt.toNat) - 1)).toInt.toNat)).toInt; rw [show ar_3 58 ((x_2.toInt.toNat) - 1) = v_22 from by rw [ev_22]; exact congrArg (ar_3 58) (show _ = v_19.toInt.toNat from by omega), show ar 31 (v_22.toInt.toNat) = v_24 from (show v_24 = ar 31 (v_22.toInt.toNat) from by rw [ev_24, show ar_3 31 = ar 31 from ((fA_call (fA_rf [58] _) fa_4 (by decide)) 31 rfl)]; exact congrArg (ar 31) (show v_22.toInt.toNat = (v_22.toInt.toNat) from by omega)).symm, show ar 31 (kk.toInt.toNat) = v_25 from (show v_25 = ar 31 (kk.toInt.toNat) from by rw [ev_25, show ar_3 31 = ar 31 from ((fA_call (fA_rf [58] _) fa_4 (by decide)) 31 rfl)]; exact congrArg (ar 31) (show kk.toInt.toNat = (kk.toInt.toNat) from by omega)).symm]; omega))), trivial⟩, ⟨by rw [ht]; exact hP, va_K.moved hW.alike hK⟩⟩, hS.F ht⟩) hS.2.2 dX9_sortIn_80
        · skip
          have i_35 : (-2147483648) ≤ v_24.toInt ∧ v_24.toInt ≤ 2147483646 := iv_lt1 (iv_any v_24) (iv_any v_25) (Int32.not_le.mp c_26)
          have i_36 : (-2147483647) ≤ v_25.toInt ∧ v_25.toInt ≤ 2147483647 := iv_lt2 (iv_any v_24) (iv_any v_25) (Int32.not_le.mp c_26)
          have k_37 := Int32.lt_iff_toInt_lt.mp (Int32.not_le.mp c_26)
          refine lv_aload_n hx hb dX9_sortIn_43 rfl (lv_at hl 0 rfl) ?_
          refine gX_X9_17 hx hb htg hown hK hP dX9_sortIn_44 ?_
          refine lv_iload_n hx hb dX9_sortIn_47 rfl (lv_at hl 2 rfl) ?_
          refine lv_aload_n hx hb dX9_sortIn_48 rfl (lv_at hl 0 rfl) ?_
          refine gX_X9_17 hx hb htg hown hK hP dX9_sortIn_49 ?_
          refine lv_iload_n hx hb dX9_sortIn_52 rfl (lv_at hl 2 rfl) ?_
          refine lv_iconst (v := 1) hx hb dX9_sortIn_53 (by decide) ?_
          refine lv_isub hx hb dX9_sortIn_54 ?_
          refine my_ti (y := v_19) ev_19.symm ?_
          refine lX_58 hx hb hK hP (iv_in t_20.2 (by decide) (by decide)) dX9_sortIn_55 (fun v_38 ev_38 => ?_)
          obtain rfl : v_22 = v_38 := ev_22.trans ev_38.symm
          refine sX_58 hx hb hK hP hS hd (iv_in i_18 (by decide) (by decide)) dX9_sortIn_56 (fun H locs ar_39 ear_39 hP hS => ?_)
          have hA_ar_39 : rB ar_39 := rB_put hA_ar_3 ear_39 i_23
          obtain ⟨v_40, ev_40⟩ : ∃ z : Int32, z = x_2 + (-1) := ⟨_, rfl⟩
          refine lv_iinc (v := v_40) (lv' := [(2, .int v_40), (0, .ref (ob 9)), (1, .int kk)]) hx hb dX9_sortIn_57 hl (k := 2) rfl (by rw [ev_40]; rfl) (by decide) rfl (fun ls hl => ?_)
          have t_41 : v_40.toInt = x_2.toInt + (-1) ∧ 0 ≤ v_40.toInt ∧ v_40.toInt ≤ 78 := iv_addc ev_40 i_18 (by decide) (by decide) (by decide)
          refine lv_goto (tgt := 5) hx hb dX9_sortIn_60 (by decide) ?_
          exact ih_6 v_40 ar_39 _ _ ls (by omega) (iv_w t_41.2 (by decide) (by decide)) hA_ar_39 (fA_put (fA_call (fA_rf [58] _) fa_4 (by decide)) ear_39 (by decide)) (by have h9 := q_5; rw [show x_2.toInt.toNat = (v_40.toInt.toNat) + 1 from by omega] at h9; exact mo_gap_s (x := v_22) h9 (show v_22 = ar_3 58 (v_40.toInt.toNat) from by rw [ev_22]; exact congrArg (ar_3 58) (show v_19.toInt.toNat = v_40.toInt.toNat from by omega)) (fun i9 => by rw [ear_39]; show (if i9 = Int32.toNatClampNeg x_2 then v_22 else ar_3 58 i9) = _; rw [show Int32.toNatClampNeg x_2 = (v_40.toInt.toNat) + 1 from (show x_2.toInt.toNat = _ from by omega)]) (show (ar 31 (v_22.toInt.toNat)).toInt < (ar 31 (kk.toInt.toNat)).toInt from by rw [show ar 31 (v_22.toInt.toNat) = v_24 from (show v_24 = ar 31 (v_22.toInt.toNat) from by rw [ev_24, show ar_3 31 = ar 31 from ((fA_call (fA_rf [58] _) fa_4 (by decide)) 31 rfl)]; exact congrArg (ar 31) (show v_22.toInt.toNat = (v_22.toInt.toNat) from by omega)).symm, show ar 31 (kk.toInt.toNat) = v_25 from (show v_25 = ar 31 (kk.toInt.toNat) from by rw [ev_25, show ar_3 31 = ar 31 from ((fA_call (fA_rf [58] _) fa_4 (by decide)) 31 rfl)]; exact congrArg (ar 31) (show kk.toInt.toNat = (kk.toInt.toNat) from by omega)).symm]; omega)) hP hS (lv_sub hl [1, 2, 0] rfl)
  · skip
    exact hj_8 80 (fv 24) ar _ _ ls (by omega) i_1 hA_ar (fA_rf [58] _) (mo_gap0 (mx_D fv ar) (ar 58) (kk.toInt.toNat) ((fv 24).toInt.toNat)) hP hS (lv_sub hl [1, 2, 0] rfl)
set_option maxHeartbeats 4000000 in
set_option maxRecDepth 100000 in
theorem x_layOutE (l : Launch) (dC : Nat → ClassId) (dI : Nat → Nat → Nat) (sz : Nat) (ob ad : Nat → Nat) (cA : Nat → ClassId) (hd : dX ob ad) (fv : Nat → Int32) (wd : xT) (ar : Nat → Nat → Int32) (hF_fv : rX fv) (hA_ar : rB ar) (a : Int32) (hlo : a.toInt = (fv 22).toInt) (hp_mR : mx_R fv ar) : Met l yX9_layOut (.code yX9_layOut cX9_layOut 5 none :: lw_good) ({ frames := 5, cells := 0, slots := 0, locals := 107 }) (va_Pc [.ref (ob 9), .int a] (prX dC dI ob ad cA fv wd ar sz)) (va_Qv (fun (u : xS) => rX u.1 ∧ rB u.2.2 ∧ fM [24] fv u.1 ∧ fA [58, 59, 60, 61] ar u.2.2 ∧ u.2.1.2 = wd.2 ∧ (mx_Y u.1 u.2.2) ∧ True) (enX dC dI ob ad cA) (aX ob ad sz)) 0 0 (aX ob ad sz) := by
  refine Met.ofW (cc := cX9_layOut) (maxL := 5) (ret := none) (by decide) rfl ?_
  intro p e s m args below meth c s₁ B hml hv
  obtain ⟨rfl, hsz, hP, hK⟩ := hv
  have hx := B.exec
  have hb := B.bytes
  have hr := B.returns
  have hts := atoms_spec (ws := (.code yX9_layOut cX9_layOut 5 none :: lw_good)) B.pre
  have htg : ∀ w ∈ lw_good, w.before _ s = true := fun w hw => hts w (List.mem_cons_of_mem _ hw)
  have hown : s.vm.findClass RX9 = some m.cls := findClass_of_methodNamed B.named
  have hlocks := B.notSynchronized
  subst hsz
  have hS : va_S (aX ob ad s.heap.size) s.heap s.heap [] := va_S.rf
  have hl := lv_entry ([.ref (ob 9), .int a]) (n := 5) (Nat.le_of_ble_eq_true rfl)
  rw [lg_entry_eq]
  generalize (lg_sl ([.ref (ob 9), .int a]) ++ List.replicate (5 - (lg_sl ([.ref (ob 9), .int a])).length) Slot.unset).toArray = ls at hl ⊢
  have hl : lv_has ls 5 [(0, .ref (ob 9)), (1, .int a)] := hl
  refine lv_aload_n hx hb dX9_layOut_0 rfl (lv_at hl 0 rfl) ?_
  refine gX_X9_9 hx hb htg hown hK hP dX9_layOut_1 ?_
  refine lv_aload_n hx hb dX9_layOut_4 rfl (lv_at hl 0 rfl) ?_
  refine gX_X9_9 hx hb htg hown hK hP dX9_layOut_5 ?_
  refine gX_X9_41 hx hb htg hown hK hP dX9_layOut_8 ?_
  have i_1 : 0 ≤ (fv 7).toInt ∧ (fv 7).toInt ≤ 199 := hF_fv 7
  have z_2 : 0 ≤ (fv 5).toInt ∧ (fv 5).toInt ≤ 200 := hF_fv 5
  refine va_calli (va_runV (As := [.int (fv 7)]) (rest := []) ⟨hx, hb, hml, hown, hts⟩ (x_rainOnC l dC dI s.heap.size ob ad cA hd fv wd ar hF_fv hA_ar (fv 7) i_1) (cwV 1 hts (gV kw_5_65 kw_3_231 kw_3_232 kw_1_2 kw_3_233) rfl rfl rfl (by decide +kernel) ⟨Nat.le_of_ble_eq_true rfl, Nat.le_of_ble_eq_true rfl⟩) ⟨fun a U g mk q => ⟨q.1, q.2.1, q.2.2.1, va_K.moved (u := U) (U := U.calling g mk a) (Vm.Alike.refl U.vm) q.2.2.2⟩, va_recv hK hP (ci := 7) (q0 := 1) rfl rfl, fun U hU hW => ⟨rfl, by rw [hU], by rw [hU]; exact hP, va_K.moved hW.alike hK⟩⟩ rfl rfl hl.1 rfl (lv_room (Nat.le_of_ble_eq_true rfl)) dX9_layOut_11 ⟨Nat.le_of_ble_eq_true rfl, Nat.le_of_ble_eq_true rfl⟩) hS (fun q _ h9 => aX_up hS q h9) (aX_up hS) (fun r_3 u t H1 locs ht _ hw hB _ hk1 hS => ?_)
  obtain ⟨fv_5, wd_6, ar_7⟩ := u
  obtain ⟨hF_fv_5, hA_ar_7, fr_8, fa_9, wf_10, p_4, -⟩ := hw
  have wf_10 : wd_6.2 = wd.2 := wf_10
  have hP : va_P (dC, dI) vwCl (wsX ob ad cA fv_5 wd_6 ar_7) H1 := by have h9 := hB.1; rw [ht] at h9; exact h9
  have fr_8 : fM [] fv fv_5 := fr_8
  have fa_9 : fA [] ar ar_7 := fa_9
  have p_4 : wt_on r_3 (fv 7) (fv 5) (ar 3) := p_4
  generalize H1 = H at hP hS ⊢
  have rn_11 : r_3 = mx_rn fv ar := by have h9 := p_4; exact mo_rnI h9
  have i_12 : 0 ≤ r_3.toInt ∧ r_3.toInt ≤ 9 := (by rw [rn_11]; exact hp_mR.1.2.2.2.2.2.2)
  refine lv_istore_n (lv' := [(2, .int r_3), (0, .ref (ob 9)), (1, .int a)]) hx hb dX9_layOut_14 rfl hl (by decide) rfl (fun ls hl => ?_)
  refine lv_aload_n hx hb dX9_layOut_15 rfl (lv_at hl 1 rfl) ?_
  refine lv_iconst (v := 0) hx hb dX9_layOut_16 (by decide) ?_
  refine pX_X9_51 hx hb htg hown hK hP hS hd dX9_layOut_17 (fun H locs fv_13 efv_13 hP hS => ?_)
  have hF_fv_13 : rX fv_13 := rX_put hF_fv_5 efv_13 (iv_w (⟨by decide, by decide⟩ : (0 : Int) ≤ (0 : Int32).toInt ∧ (0 : Int32).toInt ≤ 0) (by decide) (by decide))
  refine lv_iconst (v := 0) hx hb dX9_layOut_20 (by decide) ?_
  refine lv_istore_n (lv' := [(3, .int 0), (2, .int r_3), (0, .ref (ob 9)), (1, .int a)]) hx hb dX9_layOut_21 rfl hl (by decide) rfl (fun ls hl => ?_)
  refine my_cut (P := fun R9 a9 Q9 => ∀ (n_24 : Nat) (x_14 : Int32) (fv_15 : Nat → Int32) (ar_17 : Nat → Nat → Int32) (wd_19 : xT) (H : Heap) (locs : List Loc) (ls : Array Slot), 80 - x_14.toInt < (n_24 : Int) → (0 ≤ x_14.toInt ∧ x_14.toInt ≤ 80) → rX fv_15 → fM [24] fv_13 fv_15 → rB ar_17 → fA [58] ar_7 ar_17 → wd_19.2 = wd_6.2 → mx_R fv_15 ar_17 → (mo_or (mx_D fv ar) (mo_rn (mx_D fv ar) (mx_G ar)) (x_14.toInt.toNat) ((fv_15 24).toInt.toNat) (ar_17 58)) → ((fv_15 24).toInt ≤ x_14.toInt ∧ x_14.toInt ≤ (fv 12).toInt) → va_P (dC, dI) vwCl (wsX ob ad cA fv_15 wd_19 ar_17) H → va_S (aX ob ad s.heap.size) s.heap H locs → lv_has ls 5 [(0, .ref (ob 9)), (1, .int a), (2, .int r_3), (3, .int x_14)] → W p l e R9 s m a9 below meth c H locs 0 0 Q9 (F0 m 22 ls [])) ?_ (fun hj_26 => ?_)
  · intro n_24
    induction n_24 with
    | zero => intro x_14 fv_15 ar_17 wd_19 H locs ls fu_25 i_x_14 hF_fv_15 fr_16 hA_ar_17 fa_18 wf_20 hp_21 q_22 q_23; exfalso; omega
    | succ n_24 ih_24 =>
      intro x_14 fv_15 ar_17 wd_19 H locs ls fu_25 i_x_14 hF_fv_15 fr_16 hA_ar_17 fa_18 wf_20 hp_21 q_22 q_23 hP hS hl
      refine lv_iload_n hx hb dX9_layOut_22 rfl (lv_at hl 3 rfl) ?_
      refine lv_aload_n hx hb dX9_layOut_23 rfl (lv_at hl 0 rfl) ?_
      refine gX_X9_9 hx hb htg hown hK hP dX9_layOut_24 ?_
      refine gX_X9_54 hx hb htg hown hK hP dX9_layOut_27 ?_
      refine gX_X9_58 hx hb htg hown hK hP dX9_layOut_30 ?_
      refine my_ti (y := fv 12) ((fr_16 12 rfl).trans ((congrFun efv_13 12).trans ((fr_8 12 rfl)))) ?_
      have i_27 : 0 ≤ (fv 12).toInt ∧ (fv 12).toInt ≤ 80 := hF_fv 12
      refine lv_icmp_ge (tgt := 109) hx hb dX9_layOut_33 (by decide) (fun c_28 => ?_) (fun c_28 => ?_)
      · skip
        have k_29 := Int32.le_iff_toInt_le.mp c_28
        refine lv_iconst (v := 0) hx hb dX9_layOut_109 (by decide) ?_
        refine lv_istore_n (lv' := [(3, .int 0), (0, .ref (ob 9)), (1, .int a), (2, .int r_3)]) hx hb dX9_layOut_110 rfl hl (by decide) rfl (fun ls hl => ?_)
        refine my_cut (P := fun R9 a9 Q9 => ∀ (n_110 : Nat) (x_99 : Int32) (fv_100 : Nat → Int32) (ar_102 : Nat → Nat → Int32) (wd_104 : xT) (H : Heap) (locs : List Loc) (ls : Array Slot), 80 - x_99.toInt < (n_110 : Int) → (0 ≤ x_99.toInt ∧ x_99.toInt ≤ 80) → rX fv_100 → fM [] fv_15 fv_100 → rB ar_102 → fA [59, 60, 61] ar_17 ar_102 → wd_104.2 = wd_19.2 → mx_R fv_100 ar_102 → (mo_wn (mx_D fv ar) (mx_G ar) (x_99.toInt.toNat) (ar_102 58) (ar_102 59) (ar_102 60) (ar_102 61)) → (mo_or (mx_D fv ar) (mo_rn (mx_D fv ar) (mx_G ar)) ((fv 12).toInt.toNat) ((fv_100 24).toInt.toNat) (ar_102 58)) → (x_99.toInt ≤ (fv_100 24).toInt) → va_P (dC, dI) vwCl (wsX ob ad cA fv_100 wd_104 ar_102) H → va_S (aX ob ad s.heap.size) s.heap H locs → lv_has ls 5 [(0, .ref (ob 9)), (2, .int r_3), (3, .int x_99)] → W p l e R9 s m a9 below meth c H locs 0 0 Q9 (F0 m 111 ls [])) ?_ (fun hj_112 => ?_)
        · intro n_110
          induction n_110 with
          | zero => intro x_99 fv_100 ar_102 wd_104 H locs ls fu_111 i_x_99 hF_fv_100 fr_101 hA_ar_102 fa_103 wf_105 hp_106 q_107 q_108 q_109; exfalso; omega
          | succ n_110 ih_110 =>
            intro x_99 fv_100 ar_102 wd_104 H locs ls fu_111 i_x_99 hF_fv_100 fr_101 hA_ar_102 fa_103 wf_105 hp_106 q_107 q_108 q_109 hP hS hl
            refine lv_iload_n hx hb dX9_layOut_111 rfl (lv_at hl 2 rfl) ?_
            refine lv_aload_n hx hb dX9_layOut_112 rfl (lv_at hl 0 rfl) ?_
            refine gX_X9_51 hx hb htg hown hK hP dX9_layOut_113 ?_
            refine my_ti (y := fv_15 24) ((fr_101 24 rfl)) ?_
            have i_113 : 0 ≤ (fv_15 24).toInt ∧ (fv_15 24).toInt ≤ 80 := hF_fv_15 24
            refine lv_icmp_ge (tgt := 226) hx hb dX9_layOut_116 (by decide) (fun c_114 => ?_) (fun c_114 => ?_)
            · skip
              have k_115 := Int32.le_iff_toInt_le.mp c_114
              have z_116 : (fv_100 24).toInt = (fv_15 24).toInt := congrArg Int32.toInt ((fr_101 24 rfl))
              have z_117 : 0 ≤ (fv_100 24).toInt ∧ (fv_100 24).toInt ≤ 80 := hF_fv_100 24
              exact W.vret hx hb hr (fun t ht hW => ⟨⟨(fv_100, wd_104, ar_102), rfl, ⟨hF_fv_100, hA_ar_102, (fM_call (fM_call (fM_put (fM_call (fM_rf [24] _) fr_8 (by decide)) efv_13 (by decide)) fr_16 (by decide)) fr_101 (by decide)), (fA_call (fA_call (fA_call (fA_rf [58, 59, 60, 61] _) fa_9 (by decide)) fa_18 (by decide)) fa_103 (by decide)), (wf_105.trans (wf_20.trans wf_10)), (show mx_Y fv_100 ar_102 from by unfold mx_Y; rw [show mx_D fv_100 ar_102 = mx_D fv ar from (mx_D_fr (fM_call (fM_call (fM_put (fM_call (fM_rf [24] _) fr_8 (by decide)) efv_13 (by decide)) fr_16 (by decide)) fr_101 (by decide)) (fA_call (fA_call (fA_call (fA_rf [58, 59, 60, 61] _) fa_9 (by decide)) fa_18 (by decide)) fa_103 (by decide)) rfl rfl), show mx_G ar_102 = mx_G ar from by unfold mx_G; rw [show ar_102 5 = ar 5 from ((fA_call (fA_call (fA_call (fA_rf [58, 59, 60, 61] _) fa_9 (by decide)) fa_18 (by decide)) fa_103 (by decide)) 5 rfl)]]; refine ⟨?_, ?_⟩; (show mo_or _ _ ((mx_D fv ar) 19 2).toInt.toNat _ _; exact q_108); (have h9 := q_107; rw [show x_99.toInt.toNat = (fv_100 24).toInt.toNat from congrArg Int.toNat (by omega)] at h9; exact h9)), trivial⟩, ⟨by rw [ht]; exact hP, va_K.moved hW.alike hK⟩⟩, hS.F ht⟩) hS.2.2 dX9_layOut_226
            · skip
              have i_118 : 0 ≤ x_99.toInt ∧ x_99.toInt ≤ 79 := iv_lt1 i_x_99 i_113 (Int32.not_le.mp c_114)
              have i_119 : 1 ≤ (fv_15 24).toInt ∧ (fv_15 24).toInt ≤ 80 := iv_lt2 i_x_99 i_113 (Int32.not_le.mp c_114)
              have k_120 := Int32.lt_iff_toInt_lt.mp (Int32.not_le.mp c_114)
              refine lv_aload_n hx hb dX9_layOut_119 rfl (lv_at hl 0 rfl) ?_
              refine gX_X9_21 hx hb htg hown hK hP dX9_layOut_120 ?_
              refine lv_iload_n hx hb dX9_layOut_123 rfl (lv_at hl 2 rfl) ?_
              refine lv_aload_n hx hb dX9_layOut_124 rfl (lv_at hl 0 rfl) ?_
              refine gX_X9_9 hx hb htg hown hK hP dX9_layOut_125 ?_
              refine gX_X9_54 hx hb htg hown hK hP dX9_layOut_128 ?_
              refine gX_X9_74 hx hb htg hown hK hP dX9_layOut_131 ?_
              refine lv_aload_n hx hb dX9_layOut_134 rfl (lv_at hl 0 rfl) ?_
              refine gX_X9_17 hx hb htg hown hK hP dX9_layOut_135 ?_
              refine lv_iload_n hx hb dX9_layOut_138 rfl (lv_at hl 2 rfl) ?_
              refine lX_58 hx hb hK hP (iv_in i_118 (by decide) (by decide)) dX9_layOut_139 (fun v_121 ev_121 => ?_)
              have i_122 : 0 ≤ v_121.toInt ∧ v_121.toInt ≤ 79 := ev_121 ▸ hA_ar_102 58 _
              refine lX_31 hx hb hK hP (iv_in i_122 (by decide) (by decide)) dX9_layOut_140 (fun v_123 ev_123 => ?_)
              have i_124 : 0 ≤ v_123.toInt ∧ v_123.toInt ≤ 719 := (by rw [ev_123, show ar_102 31 = ar 31 from ((fA_call (fA_call (fA_call (fA_rf [58, 59, 60, 61] _) fa_9 (by decide)) fa_18 (by decide)) fa_103 (by decide)) 31 rfl)]; exact hp_mR.1.2.2.1 _)
              refine lv_aload_n hx hb dX9_layOut_141 rfl (lv_at hl 0 rfl) ?_
              refine gX_X9_9 hx hb htg hown hK hP dX9_layOut_142 ?_
              refine lv_aload_n hx hb dX9_layOut_145 rfl (lv_at hl 0 rfl) ?_
              refine gX_X9_17 hx hb htg hown hK hP dX9_layOut_146 ?_
              refine lv_iload_n hx hb dX9_layOut_149 rfl (lv_at hl 2 rfl) ?_
              refine lX_58 hx hb hK hP (iv_in i_118 (by decide) (by decide)) dX9_layOut_150 (fun v_125 ev_125 => ?_)
              obtain rfl : v_121 = v_125 := ev_121.trans ev_125.symm
              refine lv_iload_n hx hb dX9_layOut_151 rfl (lv_at hl 1 rfl) ?_
              refine va_calli (va_runV (As := [.int v_121, .int r_3]) (rest := [.int v_123, .int x_99, .ref (ad 59)]) ⟨hx, hb, hml, hown, hts⟩ (x_driveMinutesE l dC dI H.size ob ad cA hd fv_100 wd_104 ar_102 hF_fv_100 hA_ar_102 v_121 r_3 i_122 i_12 (by show r_3 = mx_rn fv_100 ar_102; have h9 : mx_rn fv_100 ar_102 = mx_rn fv ar := (congrFun (congrFun (show mx_D fv_100 ar_102 = mx_D fv ar from (mx_D_fr (fM_call (fM_call (fM_put (fM_call (fM_rf [24] _) fr_8 (by decide)) efv_13 (by decide)) fr_16 (by decide)) fr_101 (by decide)) (fA_call (fA_call (fA_call (fA_rf [58, 59, 60, 61] _) fa_9 (by decide)) fa_18 (by decide)) fa_103 (by decide)) rfl rfl)) 19) 4); rw [h9]; exact rn_11) hp_106) (cwV 2 hts (gV kw_5_104 kw_5_105 kw_5_106 kw_1_2 kw_5_107) rfl rfl rfl (by decide +kernel) ⟨Nat.le_of_ble_eq_true rfl, Nat.le_of_ble_eq_true rfl⟩) ⟨fun a U g mk q => ⟨q.1, q.2.1, q.2.2.1, va_K.moved (u := U) (U := U.calling g mk a) (Vm.Alike.refl U.vm) q.2.2.2⟩, va_recv hK hP (ci := 7) (q0 := 1) rfl rfl, fun U hU hW => ⟨rfl, by rw [hU], by rw [hU]; exact hP, va_K.moved hW.alike hK⟩⟩ rfl rfl hl.1 rfl (lv_room (Nat.le_of_ble_eq_true rfl)) dX9_layOut_152 ⟨Nat.le_of_ble_eq_true rfl, Nat.le_of_ble_eq_true rfl⟩) hS (fun q _ h9 => aX_up hS q h9) (aX_up hS) (fun r_126 u t H1 locs ht _ hw hB _ hk1 hS => ?_)
              obtain ⟨fv_129, wd_130, ar_131⟩ := u
              obtain ⟨hF_fv_129, hA_ar_131, fr_132, fa_133, wf_134, p_127, p_128, -⟩ := hw
              have wf_134 : wd_130.2 = wd_104.2 := wf_134
              have hP : va_P (dC, dI) vwCl (wsX ob ad cA fv_129 wd_130 ar_131) H1 := by have h9 := hB.1; rw [ht] at h9; exact h9
              have fr_132 : fM [] fv_100 fv_129 := fr_132
              have fa_133 : fA [] ar_102 ar_131 := fa_133
              have p_128 : r_126.toInt = mo_dr (mx_D fv_100 ar_102) (mx_G ar_102) (v_121.toInt.toNat) := p_128
              generalize H1 = H at hP hS ⊢
              have dr_135 : r_126.toInt = mo_dr (mx_D fv ar) (mx_G ar) (v_121.toInt.toNat) := by have h9 := p_128; rw [show mx_D fv_100 ar_102 = mx_D fv ar from (mx_D_fr (fM_call (fM_call (fM_put (fM_call (fM_rf [24] _) fr_8 (by decide)) efv_13 (by decide)) fr_16 (by decide)) fr_101 (by decide)) (fA_call (fA_call (fA_call (fA_rf [58, 59, 60, 61] _) fa_9 (by decide)) fa_18 (by decide)) fa_103 (by decide)) rfl rfl), show mx_G ar_102 = mx_G ar from by unfold mx_G; rw [show ar_102 5 = ar 5 from ((fA_call (fA_call (fA_call (fA_rf [58, 59, 60, 61] _) fa_9 (by decide)) fa_18 (by decide)) fa_103 (by decide)) 5 rfl)]] at h9; exact h9
              refine lv_iadd hx hb dX9_layOut_155 ?_
              refine lv_topi (fun v_136 ev_136 => ?_)
              have t_137 : v_136.toInt = v_123.toInt + r_126.toInt ∧ 1 ≤ v_136.toInt ∧ v_136.toInt ≤ 50000719 := iv_add ev_136 i_124 p_127 (by decide) (by decide)
              refine sX_59 hx hb hK hP hS hd (iv_in i_118 (by decide) (by decide)) dX9_layOut_156 (fun H locs ar_139 ear_139 hP hS => ?_)
              have hA_ar_139 : rB ar_139 := rB_put hA_ar_131 ear_139 (iv_any _)
              refine lv_aload_n hx hb dX9_layOut_157 rfl (lv_at hl 0 rfl) ?_
              refine gX_X9_24 hx hb htg hown hK hP dX9_layOut_158 ?_
              refine lv_iload_n hx hb dX9_layOut_161 rfl (lv_at hl 2 rfl) ?_
              refine lv_aload_n hx hb dX9_layOut_162 rfl (lv_at hl 0 rfl) ?_
              refine lv_iload_n hx hb dX9_layOut_163 rfl (lv_at hl 2 rfl) ?_
              refine lv_aload_n hx hb dX9_layOut_164 rfl (lv_at hl 0 rfl) ?_
              refine gX_X9_9 hx hb htg hown hK hP dX9_layOut_165 ?_
              refine gX_X9_54 hx hb htg hown hK hP dX9_layOut_168 ?_
              refine gX_X9_81 hx hb htg hown hK hP dX9_layOut_171 ?_
              refine lv_aload_n hx hb dX9_layOut_174 rfl (lv_at hl 0 rfl) ?_
              refine gX_X9_17 hx hb htg hown hK hP dX9_layOut_175 ?_
              refine lv_iload_n hx hb dX9_layOut_178 rfl (lv_at hl 2 rfl) ?_
              refine lX_58 hx hb hK hP (iv_in i_118 (by decide) (by decide)) dX9_layOut_179 (fun v_140 ev_140 => ?_)
              obtain rfl : v_121 = v_140 := ev_121.trans ((congrFun ((fA_put (fA_call (fA_rf [59] _) fa_133 (by decide)) ear_139 (by decide)) 58 rfl) _).symm.trans ev_140.symm)
              refine lX_29 hx hb hK hP (iv_in i_122 (by decide) (by decide)) dX9_layOut_180 (fun v_141 ev_141 => ?_)
              have i_142 : 0 ≤ v_141.toInt ∧ v_141.toInt ≤ 7 := ev_141 ▸ hA_ar_139 29 _
              refine lv_iconst (v := 0) hx hb dX9_layOut_181 (by decide) ?_
              refine va_calli (va_runV (As := [.int x_99, .int v_141, .int 0]) (rest := [.int x_99, .ref (ad 60)]) ⟨hx, hb, hml, hown, hts⟩ (x_lastAheadE l dC dI H.size ob ad cA hd fv_129 wd_130 ar_139 hF_fv_129 hA_ar_139 x_99 v_141 0 i_118) (cwV 3 hts (gV kw_5_114 kw_5_116 kw_p_27 kw_1_13 kw_5_117) rfl rfl rfl (by decide +kernel) ⟨Nat.le_of_ble_eq_true rfl, Nat.le_of_ble_eq_true rfl⟩) ⟨fun a U g mk q => ⟨q.1, q.2.1, q.2.2.1, va_K.moved (u := U) (U := U.calling g mk a) (Vm.Alike.refl U.vm) q.2.2.2⟩, va_recv hK hP (ci := 9) (q0 := 9) rfl rfl, fun U hU hW => ⟨rfl, by rw [hU], by rw [hU]; exact hP, va_K.moved hW.alike hK⟩⟩ rfl rfl hl.1 rfl (lv_room (Nat.le_of_ble_eq_true rfl)) dX9_layOut_182 ⟨Nat.le_of_ble_eq_true rfl, Nat.le_of_ble_eq_true rfl⟩) hS (fun q _ h9 => aX_up hS q h9) (aX_up hS) (fun r_143 u t H1 locs ht _ hw hB _ hk1 hS => ?_)
              obtain ⟨fv_146, wd_147, ar_148⟩ := u
              obtain ⟨hF_fv_146, hA_ar_148, fr_149, fa_150, wf_151, p_144, p_145, -⟩ := hw
              have wf_151 : wd_147.2 = wd_130.2 := wf_151
              have hP : va_P (dC, dI) vwCl (wsX ob ad cA fv_146 wd_147 ar_148) H1 := by have h9 := hB.1; rw [ht] at h9; exact h9
              have fr_149 : fM [] fv_129 fv_146 := fr_149
              have fa_150 : fA [] ar_139 ar_148 := fa_150
              have p_145 : mo_la (mx_D fv_129 ar_139) (ar_139 58) (x_99.toInt.toNat) v_141.toInt (0 : Int32).toInt r_143.toInt := p_145
              generalize H1 = H at hP hS ⊢
              have la_152 : mo_la (mx_D fv ar) (ar_102 58) (x_99.toInt.toNat) v_141.toInt (0 : Int32).toInt r_143.toInt := by have h9 := p_145; rw [show mx_D fv_129 ar_139 = mx_D fv ar from (mx_D_fr (fM_call (fM_call (fM_call (fM_put (fM_call (fM_rf [24] _) fr_8 (by decide)) efv_13 (by decide)) fr_16 (by decide)) fr_101 (by decide)) fr_132 (by decide)) (fA_put (fA_call (fA_call (fA_call (fA_call (fA_rf [58, 59, 60, 61] _) fa_9 (by decide)) fa_18 (by decide)) fa_103 (by decide)) fa_133 (by decide)) ear_139 (by decide)) rfl rfl), show ar_139 58 = ar_102 58 from ((fA_put (fA_call (fA_rf [59] _) fa_133 (by decide)) ear_139 (by decide)) 58 rfl)] at h9; exact h9
              refine sX_60 hx hb hK hP hS hd (iv_in i_118 (by decide) (by decide)) dX9_layOut_185 (fun H locs ar_153 ear_153 hP hS => ?_)
              have hA_ar_153 : rB ar_153 := rB_put hA_ar_148 ear_153 p_144
              refine lv_aload_n hx hb dX9_layOut_186 rfl (lv_at hl 0 rfl) ?_
              refine gX_X9_27 hx hb htg hown hK hP dX9_layOut_187 ?_
              refine lv_iload_n hx hb dX9_layOut_190 rfl (lv_at hl 2 rfl) ?_
              refine lv_aload_n hx hb dX9_layOut_191 rfl (lv_at hl 0 rfl) ?_
              refine lv_iload_n hx hb dX9_layOut_192 rfl (lv_at hl 2 rfl) ?_
              refine lv_aload_n hx hb dX9_layOut_193 rfl (lv_at hl 0 rfl) ?_
              refine gX_X9_9 hx hb htg hown hK hP dX9_layOut_194 ?_
              refine gX_X9_54 hx hb htg hown hK hP dX9_layOut_197 ?_
              refine gX_X9_88 hx hb htg hown hK hP dX9_layOut_200 ?_
              refine lv_aload_n hx hb dX9_layOut_203 rfl (lv_at hl 0 rfl) ?_
              refine gX_X9_17 hx hb htg hown hK hP dX9_layOut_204 ?_
              refine lv_iload_n hx hb dX9_layOut_207 rfl (lv_at hl 2 rfl) ?_
              refine lX_58 hx hb hK hP (iv_in i_118 (by decide) (by decide)) dX9_layOut_208 (fun v_154 ev_154 => ?_)
              obtain rfl : v_121 = v_154 := ev_121.trans ((congrFun ((fA_put (fA_call (fA_put (fA_call (fA_rf [59, 60] _) fa_133 (by decide)) ear_139 (by decide)) fa_150 (by decide)) ear_153 (by decide)) 58 rfl) _).symm.trans ev_154.symm)
              refine lX_30 hx hb hK hP (iv_in i_122 (by decide) (by decide)) dX9_layOut_209 (fun v_155 ev_155 => ?_)
              have i_156 : 0 ≤ v_155.toInt ∧ v_155.toInt ≤ 7 := ev_155 ▸ hA_ar_153 30 _
              refine lv_aload_n hx hb dX9_layOut_210 rfl (lv_at hl 0 rfl) ?_
              refine gX_X9_21 hx hb htg hown hK hP dX9_layOut_211 ?_
              refine lv_iload_n hx hb dX9_layOut_214 rfl (lv_at hl 2 rfl) ?_
              refine lX_59 hx hb hK hP (iv_in i_118 (by decide) (by decide)) dX9_layOut_215 (fun v_157 ev_157 => ?_)
              refine va_calli (va_runV (As := [.int x_99, .int v_155, .int v_157]) (rest := [.int x_99, .ref (ad 61)]) ⟨hx, hb, hml, hown, hts⟩ (x_lastAheadE l dC dI H.size ob ad cA hd fv_146 wd_147 ar_153 hF_fv_146 hA_ar_153 x_99 v_155 v_157 i_118) (cwV 3 hts (gV kw_5_114 kw_5_116 kw_p_27 kw_1_13 kw_5_117) rfl rfl rfl (by decide +kernel) ⟨Nat.le_of_ble_eq_true rfl, Nat.le_of_ble_eq_true rfl⟩) ⟨fun a U g mk q => ⟨q.1, q.2.1, q.2.2.1, va_K.moved (u := U) (U := U.calling g mk a) (Vm.Alike.refl U.vm) q.2.2.2⟩, va_recv hK hP (ci := 9) (q0 := 9) rfl rfl, fun U hU hW => ⟨rfl, by rw [hU], by rw [hU]; exact hP, va_K.moved hW.alike hK⟩⟩ rfl rfl hl.1 rfl (lv_room (Nat.le_of_ble_eq_true rfl)) dX9_layOut_216 ⟨Nat.le_of_ble_eq_true rfl, Nat.le_of_ble_eq_true rfl⟩) hS (fun q _ h9 => aX_up hS q h9) (aX_up hS) (fun r_158 u t H1 locs ht _ hw hB _ hk1 hS => ?_)
              obtain ⟨fv_161, wd_162, ar_163⟩ := u
              obtain ⟨hF_fv_161, hA_ar_163, fr_164, fa_165, wf_166, p_159, p_160, -⟩ := hw
              have wf_166 : wd_162.2 = wd_147.2 := wf_166
              have hP : va_P (dC, dI) vwCl (wsX ob ad cA fv_161 wd_162 ar_163) H1 := by have h9 := hB.1; rw [ht] at h9; exact h9
              have fr_164 : fM [] fv_146 fv_161 := fr_164
              have fa_165 : fA [] ar_153 ar_163 := fa_165
              have p_160 : mo_la (mx_D fv_146 ar_153) (ar_153 58) (x_99.toInt.toNat) v_155.toInt v_157.toInt r_158.toInt := p_160
              generalize H1 = H at hP hS ⊢
              have la_167 : mo_la (mx_D fv ar) (ar_102 58) (x_99.toInt.toNat) v_155.toInt v_157.toInt r_158.toInt := by have h9 := p_160; rw [show mx_D fv_146 ar_153 = mx_D fv ar from (mx_D_fr (fM_call (fM_call (fM_call (fM_call (fM_put (fM_call (fM_rf [24] _) fr_8 (by decide)) efv_13 (by decide)) fr_16 (by decide)) fr_101 (by decide)) fr_132 (by decide)) fr_149 (by decide)) (fA_put (fA_call (fA_put (fA_call (fA_call (fA_call (fA_call (fA_rf [58, 59, 60, 61] _) fa_9 (by decide)) fa_18 (by decide)) fa_103 (by decide)) fa_133 (by decide)) ear_139 (by decide)) fa_150 (by decide)) ear_153 (by decide)) rfl rfl), show ar_153 58 = ar_102 58 from ((fA_put (fA_call (fA_put (fA_call (fA_rf [59, 60] _) fa_133 (by decide)) ear_139 (by decide)) fa_150 (by decide)) ear_153 (by decide)) 58 rfl)] at h9; exact h9
              refine sX_61 hx hb hK hP hS hd (iv_in i_118 (by decide) (by decide)) dX9_layOut_219 (fun H locs ar_168 ear_168 hP hS => ?_)
              have hA_ar_168 : rB ar_168 := rB_put hA_ar_163 ear_168 p_159
              obtain ⟨v_169, ev_169⟩ : ∃ z : Int32, z = x_99 + 1 := ⟨_, rfl⟩
              refine lv_iinc (v := v_169) (lv' := [(3, .int v_169), (0, .ref (ob 9)), (2, .int r_3)]) hx hb dX9_layOut_220 hl (k := 2) rfl (by rw [ev_169]; rfl) (by decide) rfl (fun ls hl => ?_)
              have t_170 : v_169.toInt = x_99.toInt + 1 ∧ 1 ≤ v_169.toInt ∧ v_169.toInt ≤ 80 := iv_addc ev_169 i_118 (by decide) (by decide) (by decide)
              refine lv_goto (tgt := 111) hx hb dX9_layOut_223 (by decide) ?_
              have z_172 : (fv_161 24).toInt = (fv_15 24).toInt := congrArg Int32.toInt ((fr_164 24 rfl).trans ((fr_149 24 rfl).trans ((fr_132 24 rfl).trans ((fr_101 24 rfl)))))
              have z_173 : 0 ≤ (fv_161 24).toInt ∧ (fv_161 24).toInt ≤ 80 := hF_fv_161 24
              exact ih_110 v_169 fv_161 ar_168 wd_162 _ _ ls (by omega) (iv_w t_170.2 (by decide) (by decide)) hF_fv_161 (fM_call (fM_call (fM_call (fM_call (fM_rf [] _) fr_101 (by decide)) fr_132 (by decide)) fr_149 (by decide)) fr_164 (by decide)) hA_ar_168 (fA_put (fA_call (fA_put (fA_call (fA_put (fA_call (fA_call (fA_rf [59, 60, 61] _) fa_103 (by decide)) fa_133 (by decide)) ear_139 (by decide)) fa_150 (by decide)) ear_153 (by decide)) fa_165 (by decide)) ear_168 (by decide)) (wf_166.trans (wf_151.trans (wf_134.trans wf_105))) (mx_R_fr hp_106 (fM_call (fM_call (fM_call (fM_rf [] _) fr_132 (by decide)) fr_149 (by decide)) fr_164 (by decide)) (fA_put (fA_call (fA_put (fA_call (fA_put (fA_call (fA_rf [59, 60, 61] _) fa_133 (by decide)) ear_139 (by decide)) fa_150 (by decide)) ear_153 (by decide)) fa_165 (by decide)) ear_168 (by decide)) rfl rfl rfl rfl rfl rfl rfl rfl rfl rfl rfl rfl rfl rfl rfl rfl rfl rfl rfl rfl rfl rfl rfl rfl rfl rfl rfl) (by rw [show v_169.toInt.toNat = (x_99.toInt.toNat) + 1 from by omega, show ar_168 58 = ar_102 58 from ((fA_put (fA_call (fA_put (fA_call (fA_put (fA_call (fA_rf [59, 60, 61] _) fa_133 (by decide)) ear_139 (by decide)) fa_150 (by decide)) ear_153 (by decide)) fa_165 (by decide)) ear_168 (by decide)) 58 rfl)]; exact mo_wn_s q_107 (fun i9 => by rw [show ar_168 59 = ar_139 59 from ((fA_put (fA_call (fA_put (fA_call (fA_rf [60, 61] _) fa_150 (by decide)) ear_153 (by decide)) fa_165 (by decide)) ear_168 (by decide)) 59 rfl), ear_139]; show (if i9 = Int32.toNatClampNeg x_99 then v_136 else ar_131 59 i9) = _; rw [show ar_131 59 = ar_102 59 from ((fA_call (fA_rf [] _) fa_133 (by decide)) 59 rfl)]; (try rfl)) (fun i9 => by rw [show ar_168 60 = ar_153 60 from ((fA_put (fA_call (fA_rf [61] _) fa_165 (by decide)) ear_168 (by decide)) 60 rfl), ear_153]; show (if i9 = Int32.toNatClampNeg x_99 then r_143 else ar_148 60 i9) = _; rw [show ar_148 60 = ar_102 60 from ((fA_call (fA_put (fA_call (fA_rf [59] _) fa_133 (by decide)) ear_139 (by decide)) fa_150 (by decide)) 60 rfl)]; (try rfl)) (fun i9 => by rw [show ar_168 61 = ar_168 61 from rfl, ear_168]; show (if i9 = Int32.toNatClampNeg x_99 then r_158 else ar_163 61 i9) = _; rw [show ar_163 61 = ar_102 61 from ((fA_call (fA_put (fA_call (fA_put (fA_call (fA_rf [59, 60] _) fa_133 (by decide)) ear_139 (by decide)) fa_150 (by decide)) ear_153 (by decide)) fa_165 (by decide)) 61 rfl)]; (try rfl)) (by rw [show ar_102 58 (x_99.toInt.toNat) = v_121 from ((show v_121 = ar_102 58 (x_99.toInt.toNat) from by rw [ev_121]; exact congrArg (ar_102 58) (show x_99.toInt.toNat = (x_99.toInt.toNat) from by omega))).symm]; show _ = (ar 31 (v_121.toInt.toNat)).toInt + _; rw [show ar 31 (v_121.toInt.toNat) = v_123 from ((show v_123 = ar 31 (v_121.toInt.toNat) from by rw [ev_123, show ar_102 31 = ar 31 from ((fA_call (fA_call (fA_call (fA_rf [58, 59, 60, 61] _) fa_9 (by decide)) fa_18 (by decide)) fa_103 (by decide)) 31 rfl)]; exact congrArg (ar 31) (show v_121.toInt.toNat = (v_121.toInt.toNat) from by omega))).symm, ← dr_135]; omega) (by rw [show ar_102 58 (x_99.toInt.toNat) = v_121 from ((show v_121 = ar_102 58 (x_99.toInt.toNat) from by rw [ev_121]; exact congrArg (ar_102 58) (show x_99.toInt.toNat = (x_99.toInt.toNat) from by omega))).symm]; show mo_la _ _ _ (ar 29 (v_121.toInt.toNat)).toInt _ _; rw [show ar 29 (v_121.toInt.toNat) = v_141 from ((show v_141 = ar 29 (v_121.toInt.toNat) from by rw [ev_141, show ar_139 29 = ar 29 from ((fA_put (fA_call (fA_call (fA_call (fA_call (fA_rf [58, 59, 60, 61] _) fa_9 (by decide)) fa_18 (by decide)) fa_103 (by decide)) fa_133 (by decide)) ear_139 (by decide)) 29 rfl)]; exact congrArg (ar 29) (show v_121.toInt.toNat = (v_121.toInt.toNat) from by omega))).symm]; have h9 := la_152; rw [show (0 : Int32).toInt = 0 from by decide] at h9; exact h9) (by rw [show ar_102 58 (x_99.toInt.toNat) = v_121 from ((show v_121 = ar_102 58 (x_99.toInt.toNat) from by rw [ev_121]; exact congrArg (ar_102 58) (show x_99.toInt.toNat = (x_99.toInt.toNat) from by omega))).symm]; show mo_la _ _ _ (ar 30 (v_121.toInt.toNat)).toInt _ _; rw [show ar 30 (v_121.toInt.toNat) = v_155 from ((show v_155 = ar 30 (v_121.toInt.toNat) from by rw [ev_155, show ar_153 30 = ar 30 from ((fA_put (fA_call (fA_put (fA_call (fA_call (fA_call (fA_call (fA_rf [58, 59, 60, 61] _) fa_9 (by decide)) fa_18 (by decide)) fa_103 (by decide)) fa_133 (by decide)) ear_139 (by decide)) fa_150 (by decide)) ear_153 (by decide)) 30 rfl)]; exact congrArg (ar 30) (show v_121.toInt.toNat = (v_121.toInt.toNat) from by omega))).symm]; have h9 := la_167; rw [(show v_157 = v_136 from by rw [ev_157, show ar_153 59 = ar_139 59 from ((fA_put (fA_call (fA_rf [60] _) fa_150 (by decide)) ear_153 (by decide)) 59 rfl), ear_139]; show (if _ = _ then _ else _) = _; exact if_pos rfl)] at h9; exact h9)) (by rw [show fv_161 24 = fv_100 24 from ((fM_call (fM_call (fM_call (fM_rf [] _) fr_132 (by decide)) fr_149 (by decide)) fr_164 (by decide)) 24 rfl), show ar_168 58 = ar_102 58 from ((fA_put (fA_call (fA_put (fA_call (fA_put (fA_call (fA_rf [59, 60, 61] _) fa_133 (by decide)) ear_139 (by decide)) fa_150 (by decide)) ear_153 (by decide)) fa_165 (by decide)) ear_168 (by decide)) 58 rfl)]; exact q_108) (by omega) hP hS (lv_sub hl [1, 2, 0] rfl)
        · skip
          have z_174 : (0 : Int32).toInt = 0 := by decide
          have z_175 : 0 ≤ (fv_15 24).toInt ∧ (fv_15 24).toInt ≤ 80 := hF_fv_15 24
          exact hj_112 81 0 fv_15 ar_17 wd_19 _ _ ls (by first | decide | omega) (iv_w (⟨by decide, by decide⟩ : (0 : Int) ≤ (0 : Int32).toInt ∧ (0 : Int32).toInt ≤ 0) (by decide) (by decide)) hF_fv_15 (fM_rf [] _) hA_ar_17 (fA_rf [59, 60, 61] _) rfl hp_21 (by intro i9 hi9; exact absurd hi9 (by rw [show (0 : Int32).toInt.toNat = 0 from by decide]; omega)) (by have h9 := q_22; rw [show x_14.toInt.toNat = ((fv 12).toInt.toNat) from by omega] at h9; exact h9) (by omega) hP hS (lv_sub hl [1, 3, 0] rfl)
      · skip
        have i_30 : 0 ≤ x_14.toInt ∧ x_14.toInt ≤ 79 := iv_lt1 i_x_14 i_27 (Int32.not_le.mp c_28)
        have i_31 : 1 ≤ (fv 12).toInt ∧ (fv 12).toInt ≤ 80 := iv_lt2 i_x_14 i_27 (Int32.not_le.mp c_28)
        have k_32 := Int32.lt_iff_toInt_lt.mp (Int32.not_le.mp c_28)
        have z_33 : 0 ≤ (fv_15 24).toInt ∧ (fv_15 24).toInt ≤ 80 := hF_fv_15 24
        refine lv_aload_n hx hb dX9_layOut_36 rfl (lv_at hl 0 rfl) ?_
        refine gX_X9_9 hx hb htg hown hK hP dX9_layOut_37 ?_
        refine gX_X9_54 hx hb htg hown hK hP dX9_layOut_40 ?_
        refine lv_iload_n hx hb dX9_layOut_43 rfl (lv_at hl 3 rfl) ?_
        refine lv_aload_n hx hb dX9_layOut_44 rfl (lv_at hl 0 rfl) ?_
        refine gX_X9_9 hx hb htg hown hK hP dX9_layOut_45 ?_
        refine gX_X9_41 hx hb htg hown hK hP dX9_layOut_48 ?_
        refine my_ti (y := fv 7) ((fr_16 7 rfl).trans ((congrFun efv_13 7).trans ((fr_8 7 rfl)))) ?_
        refine va_calli (va_runV (As := [.int x_14, .int (fv 7)]) (rest := []) ⟨hx, hb, hml, hown, hts⟩ (x_runsE l dC dI H.size ob ad cA hd fv_15 wd_19 ar_17 hF_fv_15 hA_ar_17 x_14 (fv 7) i_30) (cwV 2 hts (gV kw_5_93 kw_5_86 kw_5_87 kw_1_6 kw_5_88) rfl rfl rfl (by decide +kernel) ⟨Nat.le_of_ble_eq_true rfl, Nat.le_of_ble_eq_true rfl⟩) ⟨fun a U g mk q => ⟨q.1, q.2.1, q.2.2.1, va_K.moved (u := U) (U := U.calling g mk a) (Vm.Alike.refl U.vm) q.2.2.2⟩, va_recv hK hP (ci := 8) (q0 := 5) rfl rfl, fun U hU hW => ⟨rfl, by rw [hU], by rw [hU]; exact hP, va_K.moved hW.alike hK⟩⟩ rfl rfl hl.1 rfl (lv_room (Nat.le_of_ble_eq_true rfl)) dX9_layOut_51 ⟨Nat.le_of_ble_eq_true rfl, Nat.le_of_ble_eq_true rfl⟩) hS (fun q _ h9 => aX_up hS q h9) (aX_up hS) (fun r_34 u t H1 locs ht _ hw hB _ hk1 hS => ?_)
        obtain ⟨fv_37, wd_38, ar_39⟩ := u
        obtain ⟨hF_fv_37, hA_ar_39, fr_40, fa_41, wf_42, p_35, p_36, -⟩ := hw
        have wf_42 : wd_38.2 = wd_19.2 := wf_42
        have hP : va_P (dC, dI) vwCl (wsX ob ad cA fv_37 wd_38 ar_39) H1 := by have h9 := hB.1; rw [ht] at h9; exact h9
        have fr_40 : fM [] fv_15 fv_37 := fr_40
        have fa_41 : fA [] ar_17 ar_39 := fa_41
        generalize H1 = H at hP hS ⊢
        rcases p_36 with ⟨rfl, p_36⟩ | ⟨rfl, p_36⟩
        · skip
          have q_43 : ¬ ((ar_17 32 (x_14.toInt.toNat)).toInt ≤ (fv 7).toInt ∧ (fv 7).toInt ≤ (ar_17 33 (x_14.toInt.toNat)).toInt) := p_36
          refine lv_if_eq (tgt := 77) hx hb dX9_layOut_54 (by decide) (fun c_44 => ?_) (fun c_44 => ?_)
          · skip
            refine lv_iconst (v := 0) hx hb dX9_layOut_77 (by decide) ?_
            refine lv_istore (lv' := [(4, .int 0), (0, .ref (ob 9)), (1, .int a), (2, .int r_3), (3, .int x_14)]) hx hb dX9_layOut_78 hl (by decide) rfl (fun ls hl => ?_)
            refine lv_iload hx hb dX9_layOut_80 (lv_at hl 0 rfl) ?_
            refine lv_if_eq (tgt := 103) hx hb dX9_layOut_82 (by decide) (fun c_45 => ?_) (fun c_45 => ?_)
            · skip
              obtain ⟨v_46, ev_46⟩ : ∃ z : Int32, z = x_14 + 1 := ⟨_, rfl⟩
              refine lv_iinc (v := v_46) (lv' := [(3, .int v_46), (4, .int 0), (0, .ref (ob 9)), (1, .int a), (2, .int r_3)]) hx hb dX9_layOut_103 hl (k := 4) rfl (by rw [ev_46]; rfl) (by decide) rfl (fun ls hl => ?_)
              have t_47 : v_46.toInt = x_14.toInt + 1 ∧ 1 ≤ v_46.toInt ∧ v_46.toInt ≤ 80 := iv_addc ev_46 i_30 (by decide) (by decide) (by decide)
              refine lv_goto (tgt := 22) hx hb dX9_layOut_106 (by decide) ?_
              have z_176 : (fv_37 24).toInt = (fv_15 24).toInt := congrArg Int32.toInt ((fr_40 24 rfl))
              have z_177 : 0 ≤ (fv_37 24).toInt ∧ (fv_37 24).toInt ≤ 80 := hF_fv_37 24
              have z_178 : (fv_37 12).toInt = (fv 12).toInt := congrArg Int32.toInt ((fr_40 12 rfl).trans ((fr_16 12 rfl).trans ((congrFun efv_13 12).trans ((fr_8 12 rfl)))))
              have z_179 : 0 ≤ (fv_37 12).toInt ∧ (fv_37 12).toInt ≤ 80 := hF_fv_37 12
              exact ih_24 v_46 fv_37 ar_39 wd_38 _ _ ls (by omega) (iv_w t_47.2 (by decide) (by decide)) hF_fv_37 (fM_call (fM_call (fM_rf [24] _) fr_16 (by decide)) fr_40 (by decide)) hA_ar_39 (fA_call (fA_call (fA_rf [58] _) fa_18 (by decide)) fa_41 (by decide)) (wf_42.trans wf_20) (mx_R_fr hp_21 (fM_call (fM_rf [] _) fr_40 (by decide)) (fA_call (fA_rf [] _) fa_41 (by decide)) rfl rfl rfl rfl rfl rfl rfl rfl rfl rfl rfl rfl rfl rfl rfl rfl rfl rfl rfl rfl rfl rfl rfl rfl rfl rfl rfl) (by rw [show v_46.toInt.toNat = (x_14.toInt.toNat) + 1 from by omega]; have h24 : fv_37 24 = fv_15 24 := ((fM_call (fM_rf [] _) fr_40 (by decide)) 24 rfl); have h58 : ar_39 58 = ar_17 58 := ((fA_call (fA_rf [] _) fa_41 (by decide)) 58 rfl); rw [h24, h58]; exact mo_or_no q_22 (fun w => absurd (show (ar 32 (x_14.toInt.toNat)).toInt ≤ _ ∧ _ ≤ (ar 33 (x_14.toInt.toNat)).toInt from ⟨w.1.1, w.1.2.1⟩) (by have h9 := q_43; rw [show ar_17 32 = ar 32 from ((fA_call (fA_call (fA_rf [58] _) fa_9 (by decide)) fa_18 (by decide)) 32 rfl), show ar_17 33 = ar 33 from ((fA_call (fA_call (fA_rf [58] _) fa_9 (by decide)) fa_18 (by decide)) 33 rfl)] at h9; exact h9))) (by omega) hP hS (lv_sub hl [2, 3, 4, 0] rfl)
            · skip
              exact absurd c_45 (by decide)
          · skip
            exact absurd c_44 (by decide)
        · skip
          have q_49 : (ar_17 32 (x_14.toInt.toNat)).toInt ≤ (fv 7).toInt ∧ (fv 7).toInt ≤ (ar_17 33 (x_14.toInt.toNat)).toInt := p_36
          refine lv_if_eq (tgt := 77) hx hb dX9_layOut_54 (by decide) (fun c_50 => ?_) (fun c_50 => ?_)
          · skip
            exact absurd c_50 (by decide)
          · skip
            refine lv_aload_n hx hb dX9_layOut_57 rfl (lv_at hl 0 rfl) ?_
            refine gX_X9_9 hx hb htg hown hK hP dX9_layOut_58 ?_
            refine gX_X9_54 hx hb htg hown hK hP dX9_layOut_61 ?_
            refine gX_X9_63 hx hb htg hown hK hP dX9_layOut_64 ?_
            refine lv_iload_n hx hb dX9_layOut_67 rfl (lv_at hl 3 rfl) ?_
            refine lX_28 hx hb hK hP (iv_in i_30 (by decide) (by decide)) dX9_layOut_68 (fun v_51 ev_51 => ?_)
            have i_52 : 0 ≤ v_51.toInt ∧ v_51.toInt ≤ 19 := ev_51 ▸ hA_ar_39 28 _
            refine lv_iload_n hx hb dX9_layOut_69 rfl (lv_at hl 1 rfl) ?_
            refine lv_icmp_eq (tgt := 77) hx hb dX9_layOut_70 (by decide) (fun c_53 => ?_) (fun c_53 => ?_)
            · skip
              have i_54 : 0 ≤ a.toInt ∧ a.toInt ≤ 19 := iv_eq1 i_52 c_53.symm
              have k_55 := congrArg Int32.toInt c_53
              refine lv_iconst (v := 0) hx hb dX9_layOut_77 (by decide) ?_
              refine lv_istore (lv' := [(4, .int 0), (0, .ref (ob 9)), (1, .int a), (2, .int r_3), (3, .int x_14)]) hx hb dX9_layOut_78 hl (by decide) rfl (fun ls hl => ?_)
              refine lv_iload hx hb dX9_layOut_80 (lv_at hl 0 rfl) ?_
              refine lv_if_eq (tgt := 103) hx hb dX9_layOut_82 (by decide) (fun c_56 => ?_) (fun c_56 => ?_)
              · skip
                obtain ⟨v_57, ev_57⟩ : ∃ z : Int32, z = x_14 + 1 := ⟨_, rfl⟩
                refine lv_iinc (v := v_57) (lv' := [(3, .int v_57), (4, .int 0), (0, .ref (ob 9)), (1, .int a), (2, .int r_3)]) hx hb dX9_layOut_103 hl (k := 4) rfl (by rw [ev_57]; rfl) (by decide) rfl (fun ls hl => ?_)
                have t_58 : v_57.toInt = x_14.toInt + 1 ∧ 1 ≤ v_57.toInt ∧ v_57.toInt ≤ 80 := iv_addc ev_57 i_30 (by decide) (by decide) (by decide)
                refine lv_goto (tgt := 22) hx hb dX9_layOut_106 (by decide) ?_
                have z_180 : (fv_37 24).toInt = (fv_15 24).toInt := congrArg Int32.toInt ((fr_40 24 rfl))
                have z_181 : 0 ≤ (fv_37 24).toInt ∧ (fv_37 24).toInt ≤ 80 := hF_fv_37 24
                have z_182 : (fv_37 12).toInt = (fv 12).toInt := congrArg Int32.toInt ((fr_40 12 rfl).trans ((fr_16 12 rfl).trans ((congrFun efv_13 12).trans ((fr_8 12 rfl)))))
                have z_183 : 0 ≤ (fv_37 12).toInt ∧ (fv_37 12).toInt ≤ 80 := hF_fv_37 12
                exact ih_24 v_57 fv_37 ar_39 wd_38 _ _ ls (by omega) (iv_w t_58.2 (by decide) (by decide)) hF_fv_37 (fM_call (fM_call (fM_rf [24] _) fr_16 (by decide)) fr_40 (by decide)) hA_ar_39 (fA_call (fA_call (fA_rf [58] _) fa_18 (by decide)) fa_41 (by decide)) (wf_42.trans wf_20) (mx_R_fr hp_21 (fM_call (fM_rf [] _) fr_40 (by decide)) (fA_call (fA_rf [] _) fa_41 (by decide)) rfl rfl rfl rfl rfl rfl rfl rfl rfl rfl rfl rfl rfl rfl rfl rfl rfl rfl rfl rfl rfl rfl rfl rfl rfl rfl rfl) (by rw [show v_57.toInt.toNat = (x_14.toInt.toNat) + 1 from by omega]; have h24 : fv_37 24 = fv_15 24 := ((fM_call (fM_rf [] _) fr_40 (by decide)) 24 rfl); have h58 : ar_39 58 = ar_17 58 := ((fA_call (fA_rf [] _) fa_41 (by decide)) 58 rfl); rw [h24, h58]; exact mo_or_no q_22 (fun w => by have w2 : (ar 28 (x_14.toInt.toNat)).toInt ≠ (fv 22).toInt := w.1.2.2; rw [show ar 28 (x_14.toInt.toNat) = v_51 from ((show v_51 = ar 28 (x_14.toInt.toNat) from by rw [ev_51, show ar_39 28 = ar 28 from ((fA_call (fA_call (fA_call (fA_rf [58] _) fa_9 (by decide)) fa_18 (by decide)) fa_41 (by decide)) 28 rfl)]; exact congrArg (ar 28) (show x_14.toInt.toNat = (x_14.toInt.toNat) from by omega))).symm, ← hlo] at w2; omega)) (by omega) hP hS (lv_sub hl [2, 3, 4, 0] rfl)
              · skip
                exact absurd c_56 (by decide)
            · skip
              have k_60 : ¬ v_51.toInt = a.toInt := fun q => c_53 (Int32.toInt_inj.mp q)
              refine lv_iconst (v := 1) hx hb dX9_layOut_73 (by decide) ?_
              refine lv_goto (tgt := 78) hx hb dX9_layOut_74 (by decide) ?_
              refine lv_istore (lv' := [(4, .int 1), (0, .ref (ob 9)), (1, .int a), (2, .int r_3), (3, .int x_14)]) hx hb dX9_layOut_78 hl (by decide) rfl (fun ls hl => ?_)
              refine lv_iload hx hb dX9_layOut_80 (lv_at hl 0 rfl) ?_
              refine lv_if_eq (tgt := 103) hx hb dX9_layOut_82 (by decide) (fun c_61 => ?_) (fun c_61 => ?_)
              · skip
                exact absurd c_61 (by decide)
              · skip
                refine lv_aload_n hx hb dX9_layOut_85 rfl (lv_at hl 1 rfl) ?_
                refine gX_X9_9 hx hb htg hown hK hP dX9_layOut_86 ?_
                refine lv_iload_n hx hb dX9_layOut_89 rfl (lv_at hl 4 rfl) ?_
                refine va_calli (va_runV (As := [.int x_14]) (rest := []) ⟨hx, hb, hml, hown, hts⟩ (x_lengthOfE l dC dI H.size ob ad cA hd fv_37 wd_38 ar_39 hF_fv_37 hA_ar_39 x_14 i_30 (mx_R_fr hp_21 (fM_call (fM_rf [] _) fr_40 (by decide)) (fA_call (fA_rf [] _) fa_41 (by decide)) rfl rfl rfl rfl rfl rfl rfl rfl rfl rfl rfl rfl rfl rfl rfl rfl rfl rfl rfl rfl rfl rfl rfl rfl rfl rfl rfl)) (cwV 1 hts (gV kw_5_94 kw_5_95 kw_5_96 kw_1_2 kw_5_97) rfl rfl rfl (by decide +kernel) ⟨Nat.le_of_ble_eq_true rfl, Nat.le_of_ble_eq_true rfl⟩) ⟨fun a U g mk q => ⟨q.1, q.2.1, q.2.2.1, va_K.moved (u := U) (U := U.calling g mk a) (Vm.Alike.refl U.vm) q.2.2.2⟩, va_recv hK hP (ci := 7) (q0 := 1) rfl rfl, fun U hU hW => ⟨rfl, by rw [hU], by rw [hU]; exact hP, va_K.moved hW.alike hK⟩⟩ rfl rfl hl.1 rfl (lv_room (Nat.le_of_ble_eq_true rfl)) dX9_layOut_90 ⟨Nat.le_of_ble_eq_true rfl, Nat.le_of_ble_eq_true rfl⟩) hS (fun q _ h9 => aX_up hS q h9) (aX_up hS) (fun r_62 u t H1 locs ht _ hw hB _ hk1 hS => ?_)
                obtain ⟨fv_65, wd_66, ar_67⟩ := u
                obtain ⟨hF_fv_65, hA_ar_67, fr_68, fa_69, wf_70, p_63, p_64, -⟩ := hw
                have wf_70 : wd_66.2 = wd_38.2 := wf_70
                have hP : va_P (dC, dI) vwCl (wsX ob ad cA fv_65 wd_66 ar_67) H1 := by have h9 := hB.1; rw [ht] at h9; exact h9
                have fr_68 : fM [] fv_37 fv_65 := fr_68
                have fa_69 : fA [] ar_39 ar_67 := fa_69
                have p_64 : r_62.toInt = mo_ln (mx_D fv_37 ar_39) (mx_G ar_39) (x_14.toInt.toNat) := p_64
                generalize H1 = H at hP hS ⊢
                have ln_71 : r_62.toInt = mo_ln (mx_D fv ar) (mx_G ar) (x_14.toInt.toNat) := by have h9 := p_64; rw [show mx_D fv_37 ar_39 = mx_D fv ar from (mx_D_fr (fM_call (fM_call (fM_put (fM_call (fM_rf [24] _) fr_8 (by decide)) efv_13 (by decide)) fr_16 (by decide)) fr_40 (by decide)) (fA_call (fA_call (fA_call (fA_rf [58] _) fa_9 (by decide)) fa_18 (by decide)) fa_41 (by decide)) rfl rfl), show mx_G ar_39 = mx_G ar from by unfold mx_G; rw [show ar_39 5 = ar 5 from ((fA_call (fA_call (fA_call (fA_rf [58] _) fa_9 (by decide)) fa_18 (by decide)) fa_41 (by decide)) 5 rfl)]] at h9; exact h9
                refine lv_ldc hx hb hown (htg (.constant RX9 69 10000000) kw_5_99) dX9_layOut_93 ?_
                refine lv_icmp_ge (tgt := 103) hx hb dX9_layOut_95 (by decide) (fun c_72 => ?_) (fun c_72 => ?_)
                · skip
                  have i_73 : 10000000 ≤ r_62.toInt ∧ r_62.toInt ≤ 10000000 := iv_le2 (⟨by decide, by decide⟩ : (10000000 : Int) ≤ (10000000 : Int32).toInt ∧ (10000000 : Int32).toInt ≤ 10000000) p_63 c_72
                  obtain ⟨v_74, ev_74⟩ : ∃ z : Int32, z = x_14 + 1 := ⟨_, rfl⟩
                  refine lv_iinc (v := v_74) (lv' := [(3, .int v_74), (4, .int 1), (0, .ref (ob 9)), (1, .int a), (2, .int r_3)]) hx hb dX9_layOut_103 hl (k := 4) rfl (by rw [ev_74]; rfl) (by decide) rfl (fun ls hl => ?_)
                  have t_75 : v_74.toInt = x_14.toInt + 1 ∧ 1 ≤ v_74.toInt ∧ v_74.toInt ≤ 80 := iv_addc ev_74 i_30 (by decide) (by decide) (by decide)
                  refine lv_goto (tgt := 22) hx hb dX9_layOut_106 (by decide) ?_
                  have z_184 : (fv_65 24).toInt = (fv_15 24).toInt := congrArg Int32.toInt ((fr_68 24 rfl).trans ((fr_40 24 rfl)))
                  have z_185 : 0 ≤ (fv_65 24).toInt ∧ (fv_65 24).toInt ≤ 80 := hF_fv_65 24
                  have z_186 : (fv_65 12).toInt = (fv 12).toInt := congrArg Int32.toInt ((fr_68 12 rfl).trans ((fr_40 12 rfl).trans ((fr_16 12 rfl).trans ((congrFun efv_13 12).trans ((fr_8 12 rfl))))))
                  have z_187 : 0 ≤ (fv_65 12).toInt ∧ (fv_65 12).toInt ≤ 80 := hF_fv_65 12
                  exact ih_24 v_74 fv_65 ar_67 wd_66 _ _ ls (by omega) (iv_w t_75.2 (by decide) (by decide)) hF_fv_65 (fM_call (fM_call (fM_call (fM_rf [24] _) fr_16 (by decide)) fr_40 (by decide)) fr_68 (by decide)) hA_ar_67 (fA_call (fA_call (fA_call (fA_rf [58] _) fa_18 (by decide)) fa_41 (by decide)) fa_69 (by decide)) (wf_70.trans (wf_42.trans wf_20)) (mx_R_fr hp_21 (fM_call (fM_call (fM_rf [] _) fr_40 (by decide)) fr_68 (by decide)) (fA_call (fA_call (fA_rf [] _) fa_41 (by decide)) fa_69 (by decide)) rfl rfl rfl rfl rfl rfl rfl rfl rfl rfl rfl rfl rfl rfl rfl rfl rfl rfl rfl rfl rfl rfl rfl rfl rfl rfl rfl) (by rw [show v_74.toInt.toNat = (x_14.toInt.toNat) + 1 from by omega]; have h24 : fv_65 24 = fv_15 24 := ((fM_call (fM_call (fM_rf [] _) fr_40 (by decide)) fr_68 (by decide)) 24 rfl); have h58 : ar_67 58 = ar_17 58 := ((fA_call (fA_call (fA_rf [] _) fa_41 (by decide)) fa_69 (by decide)) 58 rfl); rw [h24, h58]; exact mo_or_no q_22 (fun w => by have w2 := w.2; rw [← ln_71] at w2; omega)) (by omega) hP hS (lv_sub hl [2, 3, 4, 0] rfl)
                · skip
                  have i_77 : 0 ≤ r_62.toInt ∧ r_62.toInt ≤ 9999999 := iv_lt1 p_63 (⟨by decide, by decide⟩ : (10000000 : Int) ≤ (10000000 : Int32).toInt ∧ (10000000 : Int32).toInt ≤ 10000000) (Int32.not_le.mp c_72)
                  have z_78 : (fv_65 24).toInt = (fv_15 24).toInt := congrArg Int32.toInt ((fr_68 24 rfl).trans ((fr_40 24 rfl)))
                  have z_79 : 0 ≤ (fv_65 24).toInt ∧ (fv_65 24).toInt ≤ 80 := hF_fv_65 24
                  refine lv_aload_n hx hb dX9_layOut_98 rfl (lv_at hl 1 rfl) ?_
                  refine lv_iload_n hx hb dX9_layOut_99 rfl (lv_at hl 4 rfl) ?_
                  have z_80 : (fv_65 24).toInt = (fv_15 24).toInt := congrArg Int32.toInt ((fr_68 24 rfl).trans ((fr_40 24 rfl)))
                  have z_81 : 0 ≤ (fv_65 24).toInt ∧ (fv_65 24).toInt ≤ 80 := hF_fv_65 24
                  have z_82 : (fv_65 24).toInt = (fv_15 24).toInt := congrArg Int32.toInt ((fr_68 24 rfl).trans ((fr_40 24 rfl)))
                  have z_83 : 0 ≤ (fv_65 24).toInt ∧ (fv_65 24).toInt ≤ 80 := hF_fv_65 24
                  have z_84 : (fv_65 24).toInt = (fv_15 24).toInt := congrArg Int32.toInt ((fr_68 24 rfl).trans ((fr_40 24 rfl)))
                  have z_85 : 0 ≤ (fv_65 24).toInt ∧ (fv_65 24).toInt ≤ 80 := hF_fv_65 24
                  refine va_callv (va_runV (As := [.int x_14]) (rest := []) ⟨hx, hb, hml, hown, hts⟩ (x_sortInE l dC dI H.size ob ad cA hd fv_65 wd_66 ar_67 hF_fv_65 hA_ar_67 x_14 i_30 (by omega) (by rw [show mx_D fv_65 ar_67 = mx_D fv ar from (mx_D_fr (fM_call (fM_call (fM_call (fM_put (fM_call (fM_rf [24] _) fr_8 (by decide)) efv_13 (by decide)) fr_16 (by decide)) fr_40 (by decide)) fr_68 (by decide)) (fA_call (fA_call (fA_call (fA_call (fA_rf [58] _) fa_9 (by decide)) fa_18 (by decide)) fa_41 (by decide)) fa_69 (by decide)) rfl rfl), show mx_G ar_67 = mx_G ar from by unfold mx_G; rw [show ar_67 5 = ar 5 from ((fA_call (fA_call (fA_call (fA_call (fA_rf [58] _) fa_9 (by decide)) fa_18 (by decide)) fa_41 (by decide)) fa_69 (by decide)) 5 rfl)], show fv_65 24 = fv_15 24 from ((fM_call (fM_call (fM_rf [] _) fr_40 (by decide)) fr_68 (by decide)) 24 rfl), show ar_67 58 = ar_17 58 from ((fA_call (fA_call (fA_rf [] _) fa_41 (by decide)) fa_69 (by decide)) 58 rfl)]; exact q_22) (by rw [show mx_D fv_65 ar_67 = mx_D fv ar from (mx_D_fr (fM_call (fM_call (fM_call (fM_put (fM_call (fM_rf [24] _) fr_8 (by decide)) efv_13 (by decide)) fr_16 (by decide)) fr_40 (by decide)) fr_68 (by decide)) (fA_call (fA_call (fA_call (fA_call (fA_rf [58] _) fa_9 (by decide)) fa_18 (by decide)) fa_41 (by decide)) fa_69 (by decide)) rfl rfl), show mx_G ar_67 = mx_G ar from by unfold mx_G; rw [show ar_67 5 = ar 5 from ((fA_call (fA_call (fA_call (fA_call (fA_rf [58] _) fa_9 (by decide)) fa_18 (by decide)) fa_41 (by decide)) fa_69 (by decide)) 5 rfl)]]; have h9 := q_49; rw [show ar_17 32 = ar 32 from ((fA_call (fA_call (fA_rf [58] _) fa_9 (by decide)) fa_18 (by decide)) 32 rfl), show ar_17 33 = ar 33 from ((fA_call (fA_call (fA_rf [58] _) fa_9 (by decide)) fa_18 (by decide)) 33 rfl)] at h9; have h7 : (fv_15 7).toInt = (fv 7).toInt := congrArg Int32.toInt (((fM_call (fM_put (fM_call (fM_rf [24] _) fr_8 (by decide)) efv_13 (by decide)) fr_16 (by decide)) 7 rfl)); exact ⟨⟨(show (ar 32 (x_14.toInt.toNat)).toInt ≤ (fv 7).toInt from by omega), (show (fv 7).toInt ≤ (ar 33 (x_14.toInt.toNat)).toInt from by omega), (show (ar 28 (x_14.toInt.toNat)).toInt ≠ (fv 22).toInt from by rw [show ar 28 (x_14.toInt.toNat) = v_51 from ((show v_51 = ar 28 (x_14.toInt.toNat) from by rw [ev_51, show ar_39 28 = ar 28 from ((fA_call (fA_call (fA_call (fA_rf [58] _) fa_9 (by decide)) fa_18 (by decide)) fa_41 (by decide)) 28 rfl)]; exact congrArg (ar 28) (show x_14.toInt.toNat = (x_14.toInt.toNat) from by omega))).symm, ← hlo]; omega)⟩, by rw [← ln_71]; omega⟩)) (cwV 1 hts (gV kw_5_100 kw_5_102 kw_p_26 kw_1_13 kw_5_103) rfl rfl rfl (by decide +kernel) ⟨Nat.le_of_ble_eq_true rfl, Nat.le_of_ble_eq_true rfl⟩) ⟨fun a U g mk q => ⟨q.1, q.2.1, q.2.2.1, va_K.moved (u := U) (U := U.calling g mk a) (Vm.Alike.refl U.vm) q.2.2.2⟩, va_recv hK hP (ci := 9) (q0 := 9) rfl rfl, fun U hU hW => ⟨rfl, by rw [hU], by rw [hU]; exact hP, va_K.moved hW.alike hK⟩⟩ rfl rfl hl.1 rfl (lv_room (Nat.le_of_ble_eq_true rfl)) dX9_layOut_100 ⟨Nat.le_of_ble_eq_true rfl, Nat.le_of_ble_eq_true rfl⟩) hS (fun q _ h9 => aX_up hS q h9) (aX_up hS) (fun u t H1 locs ht _ hw hB _ hk1 hS => ?_)
                  obtain ⟨fv_89, wd_90, ar_91⟩ := u
                  obtain ⟨hF_fv_89, hA_ar_91, fr_92, fa_93, wf_94, p_87, p_88, -⟩ := hw
                  have wf_94 : wd_90.2 = wd_66.2 := wf_94
                  have hP : va_P (dC, dI) vwCl (wsX ob ad cA fv_89 wd_90 ar_91) H1 := by have h9 := hB.1; rw [ht] at h9; exact h9
                  have fr_92 : fM [24] fv_65 fv_89 := fr_92
                  have fa_93 : fA [58] ar_67 ar_91 := fa_93
                  have p_87 : (fv_89 24).toInt = (fv_65 24).toInt + 1 := p_87
                  have p_88 : mo_or (mx_D fv_65 ar_67) (mo_rn (mx_D fv_65 ar_67) (mx_G ar_67)) ((x_14.toInt.toNat) + 1) (((fv_65 24).toInt.toNat) + 1) (ar_91 58) := p_88
                  generalize H1 = H at hP hS ⊢
                  have k_95 : mo_or (mx_D fv ar) (mo_rn (mx_D fv ar) (mx_G ar)) (x_14.toInt.toNat + 1) ((fv_65 24).toInt.toNat + 1) (ar_91 58) := by have h9 := p_88; rw [show mx_D fv_65 ar_67 = mx_D fv ar from (mx_D_fr (fM_call (fM_call (fM_call (fM_put (fM_call (fM_rf [24] _) fr_8 (by decide)) efv_13 (by decide)) fr_16 (by decide)) fr_40 (by decide)) fr_68 (by decide)) (fA_call (fA_call (fA_call (fA_call (fA_rf [58] _) fa_9 (by decide)) fa_18 (by decide)) fa_41 (by decide)) fa_69 (by decide)) rfl rfl), show mx_G ar_67 = mx_G ar from by unfold mx_G; rw [show ar_67 5 = ar 5 from ((fA_call (fA_call (fA_call (fA_call (fA_rf [58] _) fa_9 (by decide)) fa_18 (by decide)) fa_41 (by decide)) fa_69 (by decide)) 5 rfl)]] at h9; exact h9
                  obtain ⟨v_96, ev_96⟩ : ∃ z : Int32, z = x_14 + 1 := ⟨_, rfl⟩
                  refine lv_iinc (v := v_96) (lv' := [(3, .int v_96), (4, .int 1), (0, .ref (ob 9)), (1, .int a), (2, .int r_3)]) hx hb dX9_layOut_103 hl (k := 4) rfl (by rw [ev_96]; rfl) (by decide) rfl (fun ls hl => ?_)
                  have t_97 : v_96.toInt = x_14.toInt + 1 ∧ 1 ≤ v_96.toInt ∧ v_96.toInt ≤ 80 := iv_addc ev_96 i_30 (by decide) (by decide) (by decide)
                  refine lv_goto (tgt := 22) hx hb dX9_layOut_106 (by decide) ?_
                  have z_188 : 0 ≤ (fv_89 24).toInt ∧ (fv_89 24).toInt ≤ 80 := hF_fv_89 24
                  have z_189 : (fv_89 12).toInt = (fv 12).toInt := congrArg Int32.toInt ((fr_92 12 rfl).trans ((fr_68 12 rfl).trans ((fr_40 12 rfl).trans ((fr_16 12 rfl).trans ((congrFun efv_13 12).trans ((fr_8 12 rfl)))))))
                  have z_190 : 0 ≤ (fv_89 12).toInt ∧ (fv_89 12).toInt ≤ 80 := hF_fv_89 12
                  exact ih_24 v_96 fv_89 ar_91 wd_90 _ _ ls (by omega) (iv_w t_97.2 (by decide) (by decide)) hF_fv_89 (fM_call (fM_call (fM_call (fM_call (fM_rf [24] _) fr_16 (by decide)) fr_40 (by decide)) fr_68 (by decide)) fr_92 (by decide)) hA_ar_91 (fA_call (fA_call (fA_call (fA_call (fA_rf [58] _) fa_18 (by decide)) fa_41 (by decide)) fa_69 (by decide)) fa_93 (by decide)) (wf_94.trans (wf_70.trans (wf_42.trans wf_20))) (mx_R_fr hp_21 (fM_call (fM_call (fM_call (fM_rf [24] _) fr_40 (by decide)) fr_68 (by decide)) fr_92 (by decide)) (fA_call (fA_call (fA_call (fA_rf [58] _) fa_41 (by decide)) fa_69 (by decide)) fa_93 (by decide)) rfl rfl rfl rfl rfl rfl rfl rfl rfl rfl rfl rfl rfl rfl rfl rfl rfl rfl rfl rfl rfl rfl rfl rfl rfl rfl rfl) (by rw [show v_96.toInt.toNat = (x_14.toInt.toNat) + 1 from by omega]; have h9 := k_95; rw [show (fv_89 24).toInt.toNat = (fv_65 24).toInt.toNat + 1 from by omega]; exact h9) (by omega) hP hS (lv_sub hl [2, 3, 4, 0] rfl)
  · skip
    have z_191 : (0 : Int32).toInt = 0 := by decide
    have z_192 : (fv_13 24).toInt = (0 : Int32).toInt := congrArg Int32.toInt ((congrFun efv_13 24))
    have z_193 : (0 : Int32).toInt = 0 := by decide
    have z_194 : 0 ≤ (fv_13 24).toInt ∧ (fv_13 24).toInt ≤ 80 := hF_fv_13 24
    have z_195 : (fv_13 12).toInt = (fv 12).toInt := congrArg Int32.toInt ((congrFun efv_13 12).trans ((fr_8 12 rfl)))
    have z_196 : 0 ≤ (fv_13 12).toInt ∧ (fv_13 12).toInt ≤ 80 := hF_fv_13 12
    exact hj_26 81 0 fv_13 ar_7 wd_6 _ _ ls (by first | decide | omega) (iv_w (⟨by decide, by decide⟩ : (0 : Int) ≤ (0 : Int32).toInt ∧ (0 : Int32).toInt ≤ 0) (by decide) (by decide)) hF_fv_13 (fM_rf [24] _) hA_ar_7 (fA_rf [58] _) rfl (mx_R_fr hp_mR (fM_put (fM_call (fM_rf [24] _) fr_8 (by decide)) efv_13 (by decide)) (fA_call (fA_rf [] _) fa_9 (by decide)) rfl rfl rfl rfl rfl rfl rfl rfl rfl rfl rfl rfl rfl rfl rfl rfl rfl rfl rfl rfl rfl rfl rfl rfl rfl rfl rfl) (by rw [show ((fv_13 24).toInt.toNat) = 0 from by rw [show fv_13 24 = 0 from (congrFun efv_13 24)]; decide, show (0 : Int32).toInt.toNat = 0 from by decide]; exact ⟨fun i9 h9 => by omega, fun k9 h9 => by omega, fun i9 j9 h9 h8 => by omega, fun i9 j9 h9 h8 => by omega⟩) (by omega) hP hS (lv_sub hl [2, 3, 1, 0] rfl)
set_option maxHeartbeats 4000000 in
set_option maxRecDepth 100000 in
theorem x_countOnTimeE (l : Launch) (dC : Nat → ClassId) (dI : Nat → Nat → Nat) (sz : Nat) (ob ad : Nat → Nat) (cA : Nat → ClassId) (hd : dX ob ad) (fv : Nat → Int32) (wd : xT) (ar : Nat → Nat → Int32) (hF_fv : rX fv) (hA_ar : rB ar) : Met l yX1_countOnTime (.code yX1_countOnTime cX1_countOnTime 3 (some .int) :: lw_good) ({ frames := 2, cells := 0, slots := 0, locals := 40 }) (va_Pc [.ref (ob 8)] (prX dC dI ob ad cA fv wd ar sz)) (va_Qi (fun (r : Int32) (u : xS) => rX u.1 ∧ rB u.2.2 ∧ fM [] fv u.1 ∧ fA [] ar u.2.2 ∧ u.2.1.2 = wd.2 ∧ (r.toInt = mo_ot (mx_D fv ar) (mx_S fv ar) (((fv 10).toInt.toNat))) ∧ True) (enX dC dI ob ad cA) (aX ob ad sz)) 0 0 (aX ob ad sz) := by
  refine Met.ofW (cc := cX1_countOnTime) (maxL := 3) (ret := (some .int)) (by decide) rfl ?_
  intro p e s m args below meth c s₁ B hml hv
  obtain ⟨rfl, hsz, hP, hK⟩ := hv
  have hx := B.exec
  have hb := B.bytes
  have hr := B.returns
  have hts := atoms_spec (ws := (.code yX1_countOnTime cX1_countOnTime 3 (some .int) :: lw_good)) B.pre
  have htg : ∀ w ∈ lw_good, w.before _ s = true := fun w hw => hts w (List.mem_cons_of_mem _ hw)
  have hown : s.vm.findClass RX1 = some m.cls := findClass_of_methodNamed B.named
  have hlocks := B.notSynchronized
  subst hsz
  have hS : va_S (aX ob ad s.heap.size) s.heap s.heap [] := va_S.rf
  have hl := lv_entry ([.ref (ob 8)]) (n := 3) (Nat.le_of_ble_eq_true rfl)
  rw [lg_entry_eq]
  generalize (lg_sl ([.ref (ob 8)]) ++ List.replicate (3 - (lg_sl ([.ref (ob 8)])).length) Slot.unset).toArray = ls at hl ⊢
  have hl : lv_has ls 3 [(0, .ref (ob 8))] := hl
  refine lv_iconst (v := 0) hx hb dX1_countOnTime_0 (by decide) ?_
  refine lv_istore_n (lv' := [(1, .int 0), (0, .ref (ob 8))]) hx hb dX1_countOnTime_1 rfl hl (by decide) rfl (fun ls hl => ?_)
  refine lv_iconst (v := 0) hx hb dX1_countOnTime_2 (by decide) ?_
  refine lv_istore_n (lv' := [(2, .int 0), (1, .int 0), (0, .ref (ob 8))]) hx hb dX1_countOnTime_3 rfl hl (by decide) rfl (fun ls hl => ?_)
  refine my_cut (P := fun R9 a9 Q9 => ∀ (n_5 : Nat) (x_1 : Int32) (x_2 : Int32) (H : Heap) (locs : List Loc) (ls : Array Slot), 40 - x_2.toInt < (n_5 : Int) → (0 ≤ x_1.toInt ∧ x_1.toInt ≤ 40) → (0 ≤ x_2.toInt ∧ x_2.toInt ≤ 40) → (x_1.toInt = mo_ot (mx_D fv ar) (mx_S fv ar) (x_2.toInt.toNat)) → (x_2.toInt ≤ (fv 10).toInt) → va_P (dC, dI) vwCl (wsX ob ad cA fv wd ar) H → va_S (aX ob ad s.heap.size) s.heap H locs → lv_has ls 3 [(0, .ref (ob 8)), (1, .int x_1), (2, .int x_2)] → W p l e R9 s m a9 below meth c H locs 0 0 Q9 (F0 m 4 ls [])) ?_ (fun hj_7 => ?_)
  · intro n_5
    induction n_5 with
    | zero => intro x_1 x_2 H locs ls fu_6 i_x_1 i_x_2 q_3 q_4; exfalso; omega
    | succ n_5 ih_5 =>
      intro x_1 x_2 H locs ls fu_6 i_x_1 i_x_2 q_3 q_4 hP hS hl
      refine lv_iload_n hx hb dX1_countOnTime_4 rfl (lv_at hl 2 rfl) ?_
      refine lv_aload_n hx hb dX1_countOnTime_5 rfl (lv_at hl 0 rfl) ?_
      refine gX_X1_9 hx hb htg hown hK hP dX1_countOnTime_6 ?_
      refine gX_X1_129 hx hb htg hown hK hP dX1_countOnTime_9 ?_
      refine gX_X1_133 hx hb htg hown hK hP dX1_countOnTime_12 ?_
      have i_8 : 0 ≤ (fv 10).toInt ∧ (fv 10).toInt ≤ 40 := hF_fv 10
      refine lv_icmp_ge (tgt := 58) hx hb dX1_countOnTime_15 (by decide) (fun c_9 => ?_) (fun c_9 => ?_)
      · skip
        have k_10 := Int32.le_iff_toInt_le.mp c_9
        refine lv_iload_n hx hb dX1_countOnTime_58 rfl (lv_at hl 1 rfl) ?_
        exact W.iret (v := x_1) hx hb hr (fun t ht hW => ⟨⟨x_1, (fv, wd, ar), rfl, ⟨hF_fv, hA_ar, (fM_rf [] _), (fA_rf [] _), rfl, (show x_1.toInt = mo_ot (mx_D fv ar) (mx_S fv ar) (((fv 10).toInt.toNat)) from by have h9 := q_3; rw [show x_2.toInt.toNat = (fv 10).toInt.toNat from by omega] at h9; exact h9), trivial⟩, ⟨by rw [ht]; exact hP, va_K.moved hW.alike hK⟩⟩, hS.F ht⟩) hS.2.2 dX1_countOnTime_59
      · skip
        have i_11 : 0 ≤ x_2.toInt ∧ x_2.toInt ≤ 39 := iv_lt1 i_x_2 i_8 (Int32.not_le.mp c_9)
        have i_12 : 1 ≤ (fv 10).toInt ∧ (fv 10).toInt ≤ 40 := iv_lt2 i_x_2 i_8 (Int32.not_le.mp c_9)
        have k_13 := Int32.lt_iff_toInt_lt.mp (Int32.not_le.mp c_9)
        refine lv_aload_n hx hb dX1_countOnTime_18 rfl (lv_at hl 0 rfl) ?_
        refine gX_X1_42 hx hb htg hown hK hP dX1_countOnTime_19 ?_
        refine lv_iload_n hx hb dX1_countOnTime_22 rfl (lv_at hl 2 rfl) ?_
        refine lX_46 hx hb hK hP (iv_in i_11 (by decide) (by decide)) dX1_countOnTime_23 (fun v_14 ev_14 => ?_)
        refine lv_iconst (v := (-1)) hx hb dX1_countOnTime_24 (by decide) ?_
        refine lv_icmp_eq (tgt := 52) hx hb dX1_countOnTime_25 (by decide) (fun c_15 => ?_) (fun c_15 => ?_)
        · skip
          have i_16 : (-1) ≤ v_14.toInt ∧ v_14.toInt ≤ (-1) := iv_eq1 (⟨by decide, by decide⟩ : (-1 : Int) ≤ ((-1) : Int32).toInt ∧ ((-1) : Int32).toInt ≤ -1) c_15
          obtain ⟨v_18, ev_18⟩ : ∃ z : Int32, z = x_2 + 1 := ⟨_, rfl⟩
          refine lv_iinc (v := v_18) (lv' := [(2, .int v_18), (0, .ref (ob 8)), (1, .int x_1)]) hx hb dX1_countOnTime_52 hl (k := 2) rfl (by rw [ev_18]; rfl) (by decide) rfl (fun ls hl => ?_)
          have t_19 : v_18.toInt = x_2.toInt + 1 ∧ 1 ≤ v_18.toInt ∧ v_18.toInt ≤ 40 := iv_addc ev_18 i_11 (by decide) (by decide) (by decide)
          refine lv_goto (tgt := 4) hx hb dX1_countOnTime_55 (by decide) ?_
          have z_39 : 0 ≤ (fv 10).toInt ∧ (fv 10).toInt ≤ 40 := hF_fv 10
          exact ih_5 x_1 v_18 _ _ ls (by omega) i_x_1 (iv_w t_19.2 (by decide) (by decide)) (by have h46 : (mx_S fv ar) 2 (x_2.toInt.toNat) = v_14 := (by show ar 46 _ = _; exact ((show v_14 = ar 46 (x_2.toInt.toNat) from by rw [ev_14]; exact congrArg (ar 46) (show x_2.toInt.toNat = (x_2.toInt.toNat) from by omega))).symm); rw [show v_18.toInt.toNat = (x_2.toInt.toNat) + 1 from by omega]; show _ = (if ((mx_S fv ar) 2 (x_2.toInt.toNat)).toInt ≠ -1 ∧ ((mx_S fv ar) 2 (x_2.toInt.toNat)).toInt ≤ ((mx_D fv ar) 3 (x_2.toInt.toNat)).toInt then mo_ot (mx_D fv ar) (mx_S fv ar) ((x_2.toInt.toNat)) + 1 else mo_ot (mx_D fv ar) (mx_S fv ar) ((x_2.toInt.toNat))); rw [h46]; rw [if_neg (by rintro ⟨w1, w2⟩; omega)]; exact q_3) (by omega) hP hS (lv_sub hl [1, 2, 0] rfl)
        · skip
          have k_21 : ¬ v_14.toInt = (-1) := fun q => c_15 (Int32.toInt_inj.mp q)
          refine lv_aload_n hx hb dX1_countOnTime_28 rfl (lv_at hl 0 rfl) ?_
          refine gX_X1_42 hx hb htg hown hK hP dX1_countOnTime_29 ?_
          refine lv_iload_n hx hb dX1_countOnTime_32 rfl (lv_at hl 2 rfl) ?_
          refine lX_46 hx hb hK hP (iv_in i_11 (by decide) (by decide)) dX1_countOnTime_33 (fun v_22 ev_22 => ?_)
          obtain rfl : v_14 = v_22 := ev_14.trans ev_22.symm
          refine lv_aload_n hx hb dX1_countOnTime_34 rfl (lv_at hl 0 rfl) ?_
          refine gX_X1_9 hx hb htg hown hK hP dX1_countOnTime_35 ?_
          refine gX_X1_129 hx hb htg hown hK hP dX1_countOnTime_38 ?_
          refine gX_X1_259 hx hb htg hown hK hP dX1_countOnTime_41 ?_
          refine lv_iload_n hx hb dX1_countOnTime_44 rfl (lv_at hl 2 rfl) ?_
          refine lX_10 hx hb hK hP (iv_in i_11 (by decide) (by decide)) dX1_countOnTime_45 (fun v_23 ev_23 => ?_)
          refine lv_icmp_gt (tgt := 52) hx hb dX1_countOnTime_46 (by decide) (fun c_24 => ?_) (fun c_24 => ?_)
          · skip
            have i_25 : (-2147483648) ≤ v_23.toInt ∧ v_23.toInt ≤ 2147483646 := iv_lt1 (iv_any v_23) (iv_any v_14) c_24
            have i_26 : (-2147483647) ≤ v_14.toInt ∧ v_14.toInt ≤ 2147483647 := iv_lt2 (iv_any v_23) (iv_any v_14) c_24
            have k_27 := Int32.lt_iff_toInt_lt.mp c_24
            obtain ⟨v_28, ev_28⟩ : ∃ z : Int32, z = x_2 + 1 := ⟨_, rfl⟩
            refine lv_iinc (v := v_28) (lv' := [(2, .int v_28), (0, .ref (ob 8)), (1, .int x_1)]) hx hb dX1_countOnTime_52 hl (k := 2) rfl (by rw [ev_28]; rfl) (by decide) rfl (fun ls hl => ?_)
            have t_29 : v_28.toInt = x_2.toInt + 1 ∧ 1 ≤ v_28.toInt ∧ v_28.toInt ≤ 40 := iv_addc ev_28 i_11 (by decide) (by decide) (by decide)
            refine lv_goto (tgt := 4) hx hb dX1_countOnTime_55 (by decide) ?_
            have z_40 : 0 ≤ (fv 10).toInt ∧ (fv 10).toInt ≤ 40 := hF_fv 10
            exact ih_5 x_1 v_28 _ _ ls (by omega) i_x_1 (iv_w t_29.2 (by decide) (by decide)) (by have h46 : (mx_S fv ar) 2 (x_2.toInt.toNat) = v_14 := (by show ar 46 _ = _; exact ((show v_14 = ar 46 (x_2.toInt.toNat) from by rw [ev_14]; exact congrArg (ar 46) (show x_2.toInt.toNat = (x_2.toInt.toNat) from by omega))).symm); have h10 : (mx_D fv ar) 3 (x_2.toInt.toNat) = v_23 := (by show ar 10 _ = _; exact ((show v_23 = ar 10 (x_2.toInt.toNat) from by rw [ev_23]; exact congrArg (ar 10) (show x_2.toInt.toNat = (x_2.toInt.toNat) from by omega))).symm); rw [show v_28.toInt.toNat = (x_2.toInt.toNat) + 1 from by omega]; show _ = (if ((mx_S fv ar) 2 (x_2.toInt.toNat)).toInt ≠ -1 ∧ ((mx_S fv ar) 2 (x_2.toInt.toNat)).toInt ≤ ((mx_D fv ar) 3 (x_2.toInt.toNat)).toInt then mo_ot (mx_D fv ar) (mx_S fv ar) ((x_2.toInt.toNat)) + 1 else mo_ot (mx_D fv ar) (mx_S fv ar) ((x_2.toInt.toNat))); rw [h46, h10]; rw [if_neg (by rintro ⟨w1, w2⟩; omega)]; exact q_3) (by omega) hP hS (lv_sub hl [1, 2, 0] rfl)
          · skip
            have k_31 := Int32.le_iff_toInt_le.mp (Int32.not_lt.mp c_24)
            have hob := mo_ot_b (mx_D fv ar) (mx_S fv ar) (x_2.toInt.toNat)
            have i_32 : 0 ≤ x_1.toInt ∧ x_1.toInt ≤ 39 := (by omega)
            obtain ⟨v_33, ev_33⟩ : ∃ z : Int32, z = x_1 + 1 := ⟨_, rfl⟩
            refine lv_iinc (v := v_33) (lv' := [(1, .int v_33), (0, .ref (ob 8)), (2, .int x_2)]) hx hb dX1_countOnTime_49 hl (k := 1) rfl (by rw [ev_33]; rfl) (by decide) rfl (fun ls hl => ?_)
            have t_34 : v_33.toInt = x_1.toInt + 1 ∧ 1 ≤ v_33.toInt ∧ v_33.toInt ≤ 40 := iv_addc ev_33 i_32 (by decide) (by decide) (by decide)
            obtain ⟨v_36, ev_36⟩ : ∃ z : Int32, z = x_2 + 1 := ⟨_, rfl⟩
            refine lv_iinc (v := v_36) (lv' := [(2, .int v_36), (1, .int v_33), (0, .ref (ob 8))]) hx hb dX1_countOnTime_52 hl (k := 2) rfl (by rw [ev_36]; rfl) (by decide) rfl (fun ls hl => ?_)
            have t_37 : v_36.toInt = x_2.toInt + 1 ∧ 1 ≤ v_36.toInt ∧ v_36.toInt ≤ 40 := iv_addc ev_36 i_11 (by decide) (by decide) (by decide)
            refine lv_goto (tgt := 4) hx hb dX1_countOnTime_55 (by decide) ?_
            have z_41 : 0 ≤ (fv 10).toInt ∧ (fv 10).toInt ≤ 40 := hF_fv 10
            exact ih_5 v_33 v_36 _ _ ls (by omega) (iv_w t_34.2 (by decide) (by decide)) (iv_w t_37.2 (by decide) (by decide)) (by have h46 : (mx_S fv ar) 2 (x_2.toInt.toNat) = v_14 := (by show ar 46 _ = _; exact ((show v_14 = ar 46 (x_2.toInt.toNat) from by rw [ev_14]; exact congrArg (ar 46) (show x_2.toInt.toNat = (x_2.toInt.toNat) from by omega))).symm); have h10 : (mx_D fv ar) 3 (x_2.toInt.toNat) = v_23 := (by show ar 10 _ = _; exact ((show v_23 = ar 10 (x_2.toInt.toNat) from by rw [ev_23]; exact congrArg (ar 10) (show x_2.toInt.toNat = (x_2.toInt.toNat) from by omega))).symm); rw [show v_36.toInt.toNat = (x_2.toInt.toNat) + 1 from by omega]; show _ = (if ((mx_S fv ar) 2 (x_2.toInt.toNat)).toInt ≠ -1 ∧ ((mx_S fv ar) 2 (x_2.toInt.toNat)).toInt ≤ ((mx_D fv ar) 3 (x_2.toInt.toNat)).toInt then mo_ot (mx_D fv ar) (mx_S fv ar) ((x_2.toInt.toNat)) + 1 else mo_ot (mx_D fv ar) (mx_S fv ar) ((x_2.toInt.toNat))); rw [h46, h10]; rw [if_pos ⟨by omega, by omega⟩]; omega) (by omega) hP hS (lv_sub hl [2, 1, 0] rfl)
  · skip
    have z_42 : (0 : Int32).toInt = 0 := by decide
    have z_43 : 0 ≤ (fv 10).toInt ∧ (fv 10).toInt ≤ 40 := hF_fv 10
    exact hj_7 41 0 0 _ _ ls (by first | decide | omega) (iv_w (⟨by decide, by decide⟩ : (0 : Int) ≤ (0 : Int32).toInt ∧ (0 : Int32).toInt ≤ 0) (by decide) (by decide)) (iv_w (⟨by decide, by decide⟩ : (0 : Int) ≤ (0 : Int32).toInt ∧ (0 : Int32).toInt ≤ 0) (by decide) (by decide)) (by rw [show (0 : Int32).toInt.toNat = 0 from by decide]; show (0 : Int32).toInt = 0; decide) (by omega) hP hS (lv_sub hl [2, 1, 0] rfl)

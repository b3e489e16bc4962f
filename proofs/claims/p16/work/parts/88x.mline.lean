def rd_dq2 (x d : Int32) (j : Nat) : Prop := x.toInt = 1 ↔ (d.toInt = 1 ∨ j = 6)
def rd_01 (x : Int32) : Prop := x.toInt = 0 ∨ x.toInt = 1
theorem rd_and1 {v x : Int32} (e : v = x &&& 1) (h : x.toInt = 0 ∨ x.toInt = 1) : v.toInt = x.toInt := by
  have t : ∀ n : Fin 2, (nI n.val) &&& 1 = nI n.val := by decide +kernel
  have hx : x = nI x.toInt.toNat := Int32.toInt_inj.mp (by rw [nI_toInt (by omega)]; omega)
  have t1 := t ⟨x.toInt.toNat, by omega⟩
  rw [e, hx]; exact congrArg Int32.toInt t1
set_option maxHeartbeats 4000000 in
set_option maxRecDepth 100000 in
theorem m_readLineC (l : Launch) (dC : Nat → ClassId) (dI : Nat → Nat → Nat) (sz h : Nat) (ad : Nat → Nat) (cA : Nat → ClassId) (hd : dM h ad) (fv : Nat → Int32) (wd : Int64) (ar : Nat → Nat → Int32) (hF_fv : rF fv) (hA_ar : rA ar) (b9 : Nat → Int) (n9 : Nat) (k9 : Nat) (n1 : (fv 60).toInt ≤ 2 * (fv 62).toInt) (n2 : 0 ≤ (fv 63).toInt + (fv 62).toInt) (hb9 : b9 = rd_b (ar 1)) (hmt : rd_mt b9 n9 k9 (fv 37) (fv 38) (fv 39) (fv 40) (fv 42) (fv 41) wd) (hw0 : (fv 63).toInt = 0) (htd : (fv 45).toInt = 0 ∨ (fv 45).toInt = 1) (hp_rL : rL fv ar) (hp_vM : vM fv ar) : Met l yX12_readLine (.code yX12_readLine cX12_readLine 3 (some .boolean) :: lw_good) ({ frames := 6, cells := 0, slots := 0, locals := 129 }) (va_Pc [.ref h] (prM dC dI h ad cA fv wd ar sz)) (va_Qi (fun (r : Int32) (u : mS) => rF u.1 ∧ rA u.2.2 ∧ fM [38, 39, 40, 41, 42, 43, 44, 45, 59, 60, 61, 62, 63] fv u.1 ∧ fA [48, 50, 51, 52, 53, 54, 55, 56, 57] ar u.2.2 ∧ (0 ≤ r.toInt ∧ r.toInt ≤ 1) ∧ ((r = 0 ∧ (0 < (u.1 43).toInt ∧ (rd_ln (rd_T b9 n9) (rd_N b9 n9) k9 ((fv 62).toInt.toNat) ((fv 59).toInt.toNat) (decide ((fv 45).toInt = 1))).1 = (u.1 43).toInt.toNat ∧ (u.1 44).toInt = (rd_S b9 n9 (rd_ln (rd_T b9 n9) (rd_N b9 n9) k9 ((fv 62).toInt.toNat) ((fv 59).toInt.toNat) (decide ((fv 45).toInt = 1))).2.1 : Nat))) ∨ (r = 1 ∧ (rL u.1 u.2.2) ∧ ((u.1 60).toInt ≤ 2 * (u.1 62).toInt) ∧ (0 ≤ (u.1 63).toInt + (u.1 62).toInt) ∧ ((u.1 59).toInt = (fv 59).toInt + 1) ∧ (∃ k1 : Nat, rd_mt b9 n9 k1 (u.1 37) (u.1 38) (u.1 39) (u.1 40) (u.1 42) (u.1 41) u.2.1 ∧ rd_T b9 n9 k1 = 26 ∧ rd_ln (rd_T b9 n9) (rd_N b9 n9) k9 ((fv 62).toInt.toNat) ((fv 59).toInt.toNat) (decide ((fv 45).toInt = 1)) = (0, k1 + 1, (u.1 62).toInt.toNat) ∧ (u.1 63).toInt = 0 ∧ ((u.1 45).toInt = 1 ↔ ((fv 45).toInt = 1 ∨ rd_T b9 n9 k9 = 6)) ∧ ((u.1 45).toInt = 0 ∨ (u.1 45).toInt = 1) ∧ u.1 43 = fv 43))) ∧ (vM u.1 u.2.2) ∧ True) (enM dC dI h ad cA) (aM h ad sz)) 0 0 (aM h ad sz) := by
  refine Met.ofW (cc := cX12_readLine) (maxL := 3) (ret := (some .boolean)) (by decide) rfl ?_
  intro p e s m args below meth c s₁ B hml hv
  obtain ⟨rfl, hsz, hP, hK⟩ := hv
  have hx := B.exec
  have hb := B.bytes
  have hr := B.returns
  have hts := atoms_spec (ws := (.code yX12_readLine cX12_readLine 3 (some .boolean) :: lw_good)) B.pre
  have htg : ∀ w ∈ lw_good, w.before _ s = true := fun w hw => hts w (List.mem_cons_of_mem _ hw)
  have hown : s.vm.findClass RX12 = some m.cls := findClass_of_methodNamed B.named
  have hlocks := B.notSynchronized
  subst hsz
  have hS : va_S (aM h ad s.heap.size) s.heap s.heap [] := va_S.rf
  have hl := lv_entry ([.ref h]) (n := 3) (Nat.le_of_ble_eq_true rfl)
  rw [lg_entry_eq]
  generalize (lg_sl ([.ref h]) ++ List.replicate (3 - (lg_sl ([.ref h])).length) Slot.unset).toArray = ls at hl ⊢
  have hl : lv_has ls 3 [(0, .ref h)] := hl
  have hk49 := rd_mt_k hmt
  have z_1 : 0 ≤ (fv 59).toInt ∧ (fv 59).toInt ≤ 16 := hF_fv 59
  have z_2 : 0 ≤ (fv 62).toInt ∧ (fv 62).toInt ≤ 50 := hF_fv 62
  have z_3 : (-100) ≤ (fv 63).toInt ∧ (fv 63).toInt ≤ 10 := hF_fv 63
  refine lv_aload_n hx hb dX12_readLine_0 rfl (lv_at hl 0 rfl) ?_
  refine va_calli (va_runV (As := []) (rest := []) ⟨hx, hb, hml, hown, hts⟩ (m_sortAtHandC l dC dI s.heap.size h ad cA hd fv wd ar hF_fv hA_ar (rd_T b9 n9 k9) (rd_N b9 n9 k9) hmt.2.2.1) (cwV 0 hts (gV kw_8_83 kw_8_85 kw_p_67 kw_1_15 kw_8_86) rfl rfl rfl (by decide +kernel) ⟨Nat.le_of_ble_eq_true rfl, Nat.le_of_ble_eq_true rfl⟩) ⟨fun a U g mk q => ⟨q.1, q.2.1, q.2.2.1, va_K.moved (u := U) (U := U.calling g mk a) (Vm.Alike.refl U.vm) q.2.2.2⟩, va_recv hK hP (ci := 12) (q0 := 0) rfl rfl, fun U hU hW => ⟨rfl, by rw [hU], by rw [hU]; exact hP, va_K.moved hW.alike hK⟩⟩ rfl rfl hl.1 rfl (lv_room (Nat.le_of_ble_eq_true rfl)) dX12_readLine_1 ⟨Nat.le_of_ble_eq_true rfl, Nat.le_of_ble_eq_true rfl⟩) hS (fun q _ h9 => aM_up hS q h9) (aM_up hS) (fun r_4 u t H1 locs ht _ hw hB _ hk1 hS => ?_)
  obtain ⟨fv_8, wd_9, ar_10⟩ := u
  obtain ⟨hF_fv_8, hA_ar_10, fr_11, fa_12, p_5, p_6, p_7, -⟩ := hw
  have hP : va_P (dC, dI) vwCl (wsM h ad cA fv_8 wd_9 ar_10) H1 := by have h9 := hB.1; rw [ht] at h9; exact h9
  have fr_11 : fM [] fv fv_8 := fr_11
  have fa_12 : fA [] ar ar_10 := fa_12
  have p_6 : wd_9 = wd := p_6
  have p_7 : (r_4.toInt = ((rd_T b9 n9 k9) : Int) ∧ (rd_T b9 n9 k9) < 7) ∨ (r_4 = -1 ∧ ¬ (rd_T b9 n9 k9) < 7) := p_7
  generalize H1 = H at hP hS ⊢
  rw [p_6] at hP
  have k_13 : (r_4.toInt = (rd_T b9 n9 k9 : Nat) ∧ rd_T b9 n9 k9 < 7) ∨ (r_4.toInt = -1 ∧ ¬ rd_T b9 n9 k9 < 7) := by rcases p_7 with a9 | ⟨a9, b9⟩; exact Or.inl a9; exact Or.inr ⟨by rw [a9]; decide, b9⟩
  clear p_7
  refine lv_istore_n (lv' := [(1, .int r_4), (0, .ref h)]) hx hb dX12_readLine_4 rfl hl (by decide) rfl (fun ls hl => ?_)
  refine lv_iload_n hx hb dX12_readLine_5 rfl (lv_at hl 0 rfl) ?_
  refine lv_iconst (v := (-1)) hx hb dX12_readLine_6 (by decide) ?_
  refine lv_icmp_ne (tgt := 16) hx hb dX12_readLine_7 (by decide) (fun c_14 => ?_) (fun c_14 => ?_)
  · skip
    have i_15 : 0 ≤ r_4.toInt ∧ r_4.toInt ≤ 6 := iv_nel p_5 (by decide) c_14
    have k_17 : r_4.toInt = (rd_T b9 n9 k9 : Nat) ∧ rd_T b9 n9 k9 < 7 := by omega
    clear k_13
    refine lv_aload_n hx hb dX12_readLine_16 rfl (lv_at hl 1 rfl) ?_
    refine gM_59 hx hb htg hown hK hP dX12_readLine_17 ?_
    refine my_ti (y := fv 59) ((fr_11 59 rfl)) ?_
    have i_18 : 0 ≤ (fv 59).toInt ∧ (fv 59).toInt ≤ 16 := hF_fv 59
    refine lv_bipush (v := 16) hx hb dX12_readLine_20 (by decide) ?_
    refine lv_icmp_eq (tgt := 41) hx hb dX12_readLine_22 (by decide) (fun c_19 => ?_) (fun c_19 => ?_)
    · skip
      have i_20 : 16 ≤ (fv 59).toInt ∧ (fv 59).toInt ≤ 16 := iv_eq1 (⟨by decide, by decide⟩ : (16 : Int) ≤ (16 : Int32).toInt ∧ (16 : Int32).toInt ≤ 16) c_19
      refine lv_aload_n hx hb dX12_readLine_41 rfl (lv_at hl 1 rfl) ?_
      refine lv_iconst (v := 3) hx hb dX12_readLine_42 (by decide) ?_
      have z_22 : (fv_8 39).toInt = (fv 39).toInt := congrArg Int32.toInt ((fr_11 39 rfl))
      have z_23 : 0 ≤ (fv_8 39).toInt ∧ (fv_8 39).toInt ≤ 340 := hF_fv_8 39
      have z_24 : (fv_8 40).toInt = (fv 40).toInt := congrArg Int32.toInt ((fr_11 40 rfl))
      refine va_calli (va_runV (As := [.int 3]) (rest := []) ⟨hx, hb, hml, hown, hts⟩ (m_badC l dC dI H.size h ad cA hd fv_8 wd ar_10 hF_fv_8 hA_ar_10 3) (cwV 1 hts (gV kw_8_94 kw_8_96 kw_p_69 kw_1_15 kw_8_97) rfl rfl rfl (by decide +kernel) ⟨Nat.le_of_ble_eq_true rfl, Nat.le_of_ble_eq_true rfl⟩) ⟨fun a U g mk q => ⟨q.1, q.2.1, q.2.2.1, va_K.moved (u := U) (U := U.calling g mk a) (Vm.Alike.refl U.vm) q.2.2.2⟩, va_recv hK hP (ci := 12) (q0 := 0) rfl rfl, fun U hU hW => ⟨rfl, by rw [hU], by rw [hU]; exact hP, va_K.moved hW.alike hK⟩⟩ rfl rfl hl.1 rfl (lv_room (Nat.le_of_ble_eq_true rfl)) dX12_readLine_43 ⟨Nat.le_of_ble_eq_true rfl, Nat.le_of_ble_eq_true rfl⟩) hS (fun q _ h9 => aM_up hS q h9) (aM_up hS) (fun r_25 u t H1 locs ht _ hw hB _ hk1 hS => ?_)
      obtain ⟨fv_30, wd_31, ar_32⟩ := u
      obtain ⟨hF_fv_30, hA_ar_32, fr_33, fa_34, p_26, p_27, p_28, p_29, -⟩ := hw
      have hP : va_P (dC, dI) vwCl (wsM h ad cA fv_30 wd_31 ar_32) H1 := by have h9 := hB.1; rw [ht] at h9; exact h9
      have fr_33 : fM [43, 44] fv_8 fv_30 := fr_33
      have fa_34 : fA [] ar_10 ar_32 := fa_34
      have p_28 : wd_31 = wd := p_28
      have p_29 : (fv_30 43 = 1 ∨ fv_30 43 = (3 : Int32)) ∧ ((fv_8 40).toInt = 1 → fv_30 43 = 1) ∧ (¬ (fv_8 40).toInt = 1 → fv_30 43 = (3 : Int32)) ∧ (fv_30 44).toInt = (fv_8 39).toInt := p_29
      generalize H1 = H at hP hS ⊢
      rw [p_28] at hP
      rcases p_27 with ⟨rfl, p_27⟩
      · skip
        exact W.zret (v := 0) hx hb hr (by decide) (fun t ht hW => ⟨⟨0, (fv_30, wd, ar_32), rfl, ⟨hF_fv_30, hA_ar_32, (fM_call (fM_call (fM_rf [38, 39, 40, 41, 42, 43, 44, 45, 59, 60, 61, 62, 63] _) fr_11 (by decide)) fr_33 (by decide)), (fA_call (fA_call (fA_rf [48, 50, 51, 52, 53, 54, 55, 56, 57] _) fa_12 (by decide)) fa_34 (by decide)), (iv_w (⟨by decide, by decide⟩ : (0 : Int) ≤ (0 : Int32).toInt ∧ (0 : Int32).toInt ≤ 0) (by decide) (by decide)), (Or.inl ⟨rfl, (show (0 < (fv_30 43).toInt ∧ (rd_ln (rd_T b9 n9) (rd_N b9 n9) k9 ((fv 62).toInt.toNat) ((fv 59).toInt.toNat) (decide ((fv 45).toInt = 1))).1 = (fv_30 43).toInt.toNat ∧ (fv_30 44).toInt = (rd_S b9 n9 (rd_ln (rd_T b9 n9) (rd_N b9 n9) k9 ((fv 62).toInt.toNat) ((fv 59).toInt.toNat) (decide ((fv 45).toInt = 1))).2.1 : Nat)) from (by have : (fv_30 59).toInt = (fv 59).toInt := congrArg Int32.toInt ((fr_33 59 rfl).trans ((fr_11 59 rfl))); have : (fv_30 62).toInt = (fv 62).toInt := congrArg Int32.toInt ((fr_33 62 rfl).trans ((fr_11 62 rfl))); have : (fv_30 63).toInt = (fv 63).toInt := congrArg Int32.toInt ((fr_33 63 rfl).trans ((fr_11 63 rfl))); have : (fv_30 45).toInt = (fv 45).toInt := congrArg Int32.toInt ((fr_33 45 rfl).trans ((fr_11 45 rfl))); have hE : rd_ln (rd_T b9 n9) (rd_N b9 n9) k9 ((fv 62).toInt.toNat) ((fv 59).toInt.toNat) (decide ((fv 45).toInt = 1)) = (3, k9, (fv 62).toInt.toNat) := rd_ln_many (by omega) (Or.inl (by omega)); have hf9 : fv_30 43 = 3 := (p_29.2.2.1 (rd_kd2 (rd_rel_eq hmt.2.2.1 ((fM_call (fM_rf [] _) fr_11 (by decide)) 40 rfl) ((fM_call (fM_rf [] _) fr_11 (by decide)) 42 rfl) ((fM_call (fM_rf [] _) fr_11 (by decide)) 41 rfl) rfl) (by omega))); exact ⟨by rw [hf9]; decide, by rw [hE, hf9]; show 3 = (3 : Int32).toInt.toNat; decide, by rw [hE]; have h8 := (p_29).2.2.2; have h7 := ((rd_mt_eq hmt ((fM_call (fM_rf [] _) fr_11 (by decide)) 37 rfl) ((fM_call (fM_rf [] _) fr_11 (by decide)) 38 rfl) ((fM_call (fM_rf [] _) fr_11 (by decide)) 39 rfl) ((fM_call (fM_rf [] _) fr_11 (by decide)) 40 rfl) ((fM_call (fM_rf [] _) fr_11 (by decide)) 42 rfl) ((fM_call (fM_rf [] _) fr_11 (by decide)) 41 rfl) rfl)).2.1; show (fv_30 44).toInt = (rd_S b9 n9 k9 : Nat); rw [← h7]; exact h8⟩))⟩), (vM_fr hp_vM (fM_call (fM_call (fM_rf [43, 44] _) fr_11 (by decide)) fr_33 (by decide)) (fA_call (fA_call (fA_rf [] _) fa_12 (by decide)) fa_34 (by decide)) rfl rfl rfl rfl rfl), trivial⟩, ⟨by rw [ht]; exact hP, va_K.moved hW.alike hK⟩⟩, hS.F ht⟩) hS.2.2 dX12_readLine_46
    · skip
      have i_35 : 0 ≤ (fv 59).toInt ∧ (fv 59).toInt ≤ 15 := iv_neh i_18 (by decide) c_19
      refine lv_iload_n hx hb dX12_readLine_25 rfl (lv_at hl 0 rfl) ?_
      refine lv_bipush (v := 6) hx hb dX12_readLine_26 (by decide) ?_
      refine lv_icmp_ne (tgt := 47) hx hb dX12_readLine_28 (by decide) (fun c_37 => ?_) (fun c_37 => ?_)
      · skip
        have i_38 : 0 ≤ r_4.toInt ∧ r_4.toInt ≤ 5 := iv_neh i_15 (by decide) c_37
        refine lv_sipush (v := 160) hx hb dX12_readLine_47 (by decide) ?_
        refine lv_aload_n hx hb dX12_readLine_50 rfl (lv_at hl 1 rfl) ?_
        refine gM_59 hx hb htg hown hK hP dX12_readLine_51 ?_
        refine my_ti (y := fv 59) ((fr_11 59 rfl)) ?_
        refine lv_iadd hx hb dX12_readLine_54 ?_
        refine lv_topi (fun v_40 ev_40 => ?_)
        have t_41 : v_40.toInt = (fv 59).toInt + 160 ∧ 160 ≤ v_40.toInt ∧ v_40.toInt ≤ 175 := iv_addc (by rw [ev_40, Int32.add_comm]) i_35 (by decide) (by decide) (by decide)
        refine lv_istore_n (lv' := [(2, .int v_40), (1, .int r_4), (0, .ref h)]) hx hb dX12_readLine_55 rfl hl (by decide) rfl (fun ls hl => ?_)
        refine lv_aload_n hx hb dX12_readLine_56 rfl (lv_at hl 2 rfl) ?_
        refine gM_50 hx hb htg hown hK hP dX12_readLine_57 ?_
        refine lv_iload_n hx hb dX12_readLine_60 rfl (lv_at hl 0 rfl) ?_
        refine lv_iload_n hx hb dX12_readLine_61 rfl (lv_at hl 1 rfl) ?_
        refine sM_50 hx hb hK hP hS hd (iv_in t_41.2 (by decide) (by decide)) dX12_readLine_62 (fun H locs ar_43 ear_43 hP hS => ?_)
        have hA_ar_43 : rA ar_43 := rA_put hA_ar_10 ear_43 (iv_any _)
        refine lv_aload_n hx hb dX12_readLine_63 rfl (lv_at hl 2 rfl) ?_
        refine gM_51 hx hb htg hown hK hP dX12_readLine_64 ?_
        refine lv_iload_n hx hb dX12_readLine_67 rfl (lv_at hl 0 rfl) ?_
        refine lv_iconst (v := 1) hx hb dX12_readLine_68 (by decide) ?_
        refine sM_51 hx hb hK hP hS hd (iv_in t_41.2 (by decide) (by decide)) dX12_readLine_69 (fun H locs ar_44 ear_44 hP hS => ?_)
        have hA_ar_44 : rA ar_44 := rA_put hA_ar_43 ear_44 (iv_any _)
        refine lv_aload_n hx hb dX12_readLine_70 rfl (lv_at hl 2 rfl) ?_
        refine gM_52 hx hb htg hown hK hP dX12_readLine_71 ?_
        refine lv_iload_n hx hb dX12_readLine_74 rfl (lv_at hl 0 rfl) ?_
        refine lv_aload_n hx hb dX12_readLine_75 rfl (lv_at hl 2 rfl) ?_
        refine gM_60 hx hb htg hown hK hP dX12_readLine_76 ?_
        refine my_ti (y := fv 60) ((fr_11 60 rfl)) ?_
        have i_45 : 0 ≤ (fv 60).toInt ∧ (fv 60).toInt ≤ 120 := hF_fv 60
        refine sM_52 hx hb hK hP hS hd (iv_in t_41.2 (by decide) (by decide)) dX12_readLine_79 (fun H locs ar_46 ear_46 hP hS => ?_)
        have hA_ar_46 : rA ar_46 := rA_put hA_ar_44 ear_46 i_45
        have hp_47 : vM fv_8 ar_46 := vM_52 (vM_fr hp_vM (fM_call (fM_rf [] _) fr_11 (by decide)) (fA_put (fA_put (fA_call (fA_rf [50, 51] _) fa_12 (by decide)) ear_43 (by decide)) ear_44 (by decide)) rfl rfl rfl rfl rfl) hA_ar_44 ear_46 (by have h58 : (0 : Int) ≤ (fv_8 58).toInt ∧ (fv_8 58).toInt ≤ 10 := hF_fv_8 58; have h57 : (fv_8 58).toInt = (fv 58).toInt := congrArg Int32.toInt ((fr_11 58 rfl)); show _ ≤ ((v_40.toInt.toNat : Nat) : Int); omega)
        have hp_48 : rL fv_8 ar_46 := rL_52 (rL_fr hp_rL (fM_call (fM_rf [] _) fr_11 (by decide)) (fA_put (fA_put (fA_call (fA_rf [50, 51] _) fa_12 (by decide)) ear_43 (by decide)) ear_44 (by decide)) rfl rfl rfl rfl rfl) ear_46 (by have h57 : (fv_8 59).toInt = (fv 59).toInt := congrArg Int32.toInt ((fr_11 59 rfl)); show ((v_40.toInt.toNat : Nat) : Int) < 160 ∨ _ ≤ ((v_40.toInt.toNat : Nat) : Int); omega)
        refine lv_iload_n hx hb dX12_readLine_80 rfl (lv_at hl 1 rfl) ?_
        refine lv_bipush (v := 6) hx hb dX12_readLine_81 (by decide) ?_
        refine lv_icmp_ne (tgt := 91) hx hb dX12_readLine_83 (by decide) (fun c_49 => ?_) (fun c_49 => ?_)
        · skip
          refine lv_aload_n hx hb dX12_readLine_91 rfl (lv_at hl 2 rfl) ?_
          have z_51 : (fv_8 37).toInt = (fv 37).toInt := congrArg Int32.toInt ((fr_11 37 rfl))
          have z_52 : 0 ≤ (fv_8 37).toInt ∧ (fv_8 37).toInt ≤ 340 := hF_fv_8 37
          have z_53 : (fv_8 38).toInt = (fv 38).toInt := congrArg Int32.toInt ((fr_11 38 rfl))
          have z_54 : 0 ≤ (fv_8 38).toInt ∧ (fv_8 38).toInt ≤ 340 := hF_fv_8 38
          have z_55 : (fv_8 37).toInt = (fv 37).toInt := congrArg Int32.toInt ((fr_11 37 rfl))
          have z_56 : 0 ≤ (fv_8 37).toInt ∧ (fv_8 37).toInt ≤ 340 := hF_fv_8 37
          have z_57 : (fv_8 38).toInt = (fv 38).toInt := congrArg Int32.toInt ((fr_11 38 rfl))
          have z_58 : 0 ≤ (fv_8 38).toInt ∧ (fv_8 38).toInt ≤ 340 := hF_fv_8 38
          have z_59 : (fv_8 37).toInt = (fv 37).toInt := congrArg Int32.toInt ((fr_11 37 rfl))
          have z_60 : 0 ≤ (fv_8 37).toInt ∧ (fv_8 37).toInt ≤ 340 := hF_fv_8 37
          refine va_callv (va_runV (As := []) (rest := []) ⟨hx, hb, hml, hown, hts⟩ (m_goC l dC dI H.size h ad cA hd fv_8 wd ar_46 hF_fv_8 hA_ar_46 (k9 + 1) (rd_hto (rd_mt_eq hmt ((fM_call (fM_rf [] _) fr_11 (by decide)) 37 rfl) ((fM_call (fM_rf [] _) fr_11 (by decide)) 38 rfl) ((fM_call (fM_rf [] _) fr_11 (by decide)) 39 rfl) ((fM_call (fM_rf [] _) fr_11 (by decide)) 40 rfl) ((fM_call (fM_rf [] _) fr_11 (by decide)) 42 rfl) ((fM_call (fM_rf [] _) fr_11 (by decide)) 41 rfl) rfl) (by omega) (hb9.trans (congrArg rd_b (show ar_46 1 = ar 1 from ((fA_put (fA_put (fA_put (fA_call (fA_rf [50, 51, 52] _) fa_12 (by decide)) ear_43 (by decide)) ear_44 (by decide)) ear_46 (by decide)) 1 rfl)).symm))) (rd_mt_to (rd_mt_eq hmt ((fM_call (fM_rf [] _) fr_11 (by decide)) 37 rfl) ((fM_call (fM_rf [] _) fr_11 (by decide)) 38 rfl) ((fM_call (fM_rf [] _) fr_11 (by decide)) 39 rfl) ((fM_call (fM_rf [] _) fr_11 (by decide)) 40 rfl) ((fM_call (fM_rf [] _) fr_11 (by decide)) 42 rfl) ((fM_call (fM_rf [] _) fr_11 (by decide)) 41 rfl) rfl) (by omega)).2) (cwV 0 hts (gV kw_8_60 kw_8_62 kw_p_64 kw_1_15 kw_8_63) rfl rfl rfl (by decide +kernel) ⟨Nat.le_of_ble_eq_true rfl, Nat.le_of_ble_eq_true rfl⟩) ⟨fun a U g mk q => ⟨q.1, q.2.1, q.2.2.1, va_K.moved (u := U) (U := U.calling g mk a) (Vm.Alike.refl U.vm) q.2.2.2⟩, va_recv hK hP (ci := 12) (q0 := 0) rfl rfl, fun U hU hW => ⟨rfl, by rw [hU], by rw [hU]; exact hP, va_K.moved hW.alike hK⟩⟩ rfl rfl hl.1 rfl (lv_room (Nat.le_of_ble_eq_true rfl)) dX12_readLine_92 ⟨Nat.le_of_ble_eq_true rfl, Nat.le_of_ble_eq_true rfl⟩) hS (fun q _ h9 => aM_up hS q h9) (aM_up hS) (fun u t H1 locs ht _ hw hB _ hk1 hS => ?_)
          obtain ⟨fv_65, wd_66, ar_67⟩ := u
          obtain ⟨hF_fv_65, hA_ar_67, fr_68, fa_69, p_62, p_63, p_64, -⟩ := hw
          have hP : va_P (dC, dI) vwCl (wsM h ad cA fv_65 wd_66 ar_67) H1 := by have h9 := hB.1; rw [ht] at h9; exact h9
          have fr_68 : fM [38, 39, 40, 41, 42] fv_8 fv_65 := fr_68
          have fa_69 : fA [] ar_46 ar_67 := fa_69
          have p_62 : (fv_65 39).toInt = (rd_S (rd_b (ar_46 1)) (fv_8 37).toInt.toNat (k9 + 1) : Nat) := p_62
          have p_63 : rd_st (rd_b (ar_46 1)) (fv_8 37).toInt.toNat (k9 + 1) < rd_lim ((fv_8 37).toInt.toNat) → (fv_65 38).toInt = (rd_en (rd_b (ar_46 1)) (fv_8 37).toInt.toNat ((k9 + 1) + 1) : Nat) := p_63
          have p_64 : rd_rel (rd_T (rd_b (ar_46 1)) (fv_8 37).toInt.toNat (k9 + 1)) (rd_N (rd_b (ar_46 1)) (fv_8 37).toInt.toNat (k9 + 1)) (fv_65 40) (fv_65 42) (fv_65 41) wd_66 := p_64
          generalize H1 = H at hP hS ⊢
          have m_70 : rd_mt b9 n9 (k9 + 1) (fv_65 37) (fv_65 38) (fv_65 39) (fv_65 40) (fv_65 42) (fv_65 41) wd_66 := rd_mt_go (k := k9) (rd_mt_eq hmt ((fM_call (fM_rf [] _) fr_11 (by decide)) 37 rfl) ((fM_call (fM_rf [] _) fr_11 (by decide)) 38 rfl) ((fM_call (fM_rf [] _) fr_11 (by decide)) 39 rfl) ((fM_call (fM_rf [] _) fr_11 (by decide)) 40 rfl) ((fM_call (fM_rf [] _) fr_11 (by decide)) 42 rfl) ((fM_call (fM_rf [] _) fr_11 (by decide)) 41 rfl) rfl) (by omega) (fr_68 37 rfl) (by have h9 := p_62; rw [← (hb9.trans (congrArg rd_b (show ar_46 1 = ar 1 from ((fA_put (fA_put (fA_put (fA_call (fA_rf [50, 51, 52] _) fa_12 (by decide)) ear_43 (by decide)) ear_44 (by decide)) ear_46 (by decide)) 1 rfl)).symm)), show (fv_8 37).toInt.toNat = n9 from (by have h8 := (rd_mt_eq hmt ((fM_call (fM_rf [] _) fr_11 (by decide)) 37 rfl) ((fM_call (fM_rf [] _) fr_11 (by decide)) 38 rfl) ((fM_call (fM_rf [] _) fr_11 (by decide)) 39 rfl) ((fM_call (fM_rf [] _) fr_11 (by decide)) 40 rfl) ((fM_call (fM_rf [] _) fr_11 (by decide)) 42 rfl) ((fM_call (fM_rf [] _) fr_11 (by decide)) 41 rfl) rfl).1; omega)] at h9; exact h9) (by have h9 := p_63; rw [← (hb9.trans (congrArg rd_b (show ar_46 1 = ar 1 from ((fA_put (fA_put (fA_put (fA_call (fA_rf [50, 51, 52] _) fa_12 (by decide)) ear_43 (by decide)) ear_44 (by decide)) ear_46 (by decide)) 1 rfl)).symm)), show (fv_8 37).toInt.toNat = n9 from (by have h8 := (rd_mt_eq hmt ((fM_call (fM_rf [] _) fr_11 (by decide)) 37 rfl) ((fM_call (fM_rf [] _) fr_11 (by decide)) 38 rfl) ((fM_call (fM_rf [] _) fr_11 (by decide)) 39 rfl) ((fM_call (fM_rf [] _) fr_11 (by decide)) 40 rfl) ((fM_call (fM_rf [] _) fr_11 (by decide)) 42 rfl) ((fM_call (fM_rf [] _) fr_11 (by decide)) 41 rfl) rfl).1; omega)] at h9; exact h9) (by have h9 := p_64; rw [← (hb9.trans (congrArg rd_b (show ar_46 1 = ar 1 from ((fA_put (fA_put (fA_put (fA_call (fA_rf [50, 51, 52] _) fa_12 (by decide)) ear_43 (by decide)) ear_44 (by decide)) ear_46 (by decide)) 1 rfl)).symm)), show (fv_8 37).toInt.toNat = n9 from (by have h8 := (rd_mt_eq hmt ((fM_call (fM_rf [] _) fr_11 (by decide)) 37 rfl) ((fM_call (fM_rf [] _) fr_11 (by decide)) 38 rfl) ((fM_call (fM_rf [] _) fr_11 (by decide)) 39 rfl) ((fM_call (fM_rf [] _) fr_11 (by decide)) 40 rfl) ((fM_call (fM_rf [] _) fr_11 (by decide)) 42 rfl) ((fM_call (fM_rf [] _) fr_11 (by decide)) 41 rfl) rfl).1; omega)] at h9; exact h9)
          have k_71 := rd_mt_k m_70
          refine lv_iload_n hx hb dX12_readLine_95 rfl (lv_at hl 1 rfl) ?_
          refine lv_iconst (v := 2) hx hb dX12_readLine_96 (by decide) ?_
          refine my_cut (P := fun R9 a9 Q9 => ∀ (fv_166 : Nat → Int32) (ar_168 : Nat → Nat → Int32) (wd_170 : Int64) (H : Heap) (locs : List Loc) (ls : Array Slot), rF fv_166 → fM [38, 39, 40, 41, 42] fv_65 fv_166 → rA ar_168 → fA [51] ar_67 ar_168 → rL fv_166 ar_168 → vM fv_166 ar_168 → (∃ k2 : Nat, rd_mt b9 n9 k2 (fv_166 37) (fv_166 38) (fv_166 39) (fv_166 40) (fv_166 42) (fv_166 41) wd_170 ∧ rd_ln (rd_T b9 n9) (rd_N b9 n9) k9 ((fv 62).toInt.toNat) ((fv 59).toInt.toNat) (decide ((fv 45).toInt = 1)) = rd_l2 (rd_T b9 n9) (rd_T b9 n9 k9) k2 ((fv 62).toInt.toNat)) → (rd_dq2 (fv_166 45) (fv 45) (rd_T b9 n9 k9)) → (rd_01 (fv_166 45)) → va_P (dC, dI) vwCl (wsM h ad cA fv_166 wd_170 ar_168) H → va_S (aM h ad s.heap.size) s.heap H locs → lv_has ls 3 [(0, .ref h), (1, .int r_4), (2, .int v_40)] → W p l e R9 s m a9 below meth c H locs 0 0 Q9 (F0 m 182 ls [])) ?_ (fun hj_176 => ?_)
          · intro fv_166 ar_168 wd_170 H locs ls hF_fv_166 fr_167 hA_ar_168 fa_169 hp_171 hp_172 q_173 q_174 q_175 hP hS hl
            obtain ⟨k2, hm2, hA⟩ := q_173
            have hk42 := rd_mt_k hm2
            refine lv_iload_n hx hb dX12_readLine_182 rfl (lv_at hl 1 rfl) ?_
            refine lv_bipush (v := 6) hx hb dX12_readLine_183 (by decide) ?_
            refine lv_icmp_eq (tgt := 218) hx hb dX12_readLine_185 (by decide) (fun c_177 => ?_) (fun c_177 => ?_)
            · skip
              exact absurd True.intro (by have h7 := i_38; have h8 := (⟨by decide, by decide⟩ : (6 : Int) ≤ (6 : Int32).toInt ∧ (6 : Int32).toInt ≤ 6); have h9 := congrArg Int32.toInt c_177; exfalso; omega)
            · skip
              refine lv_aload_n hx hb dX12_readLine_188 rfl (lv_at hl 0 rfl) ?_
              refine lv_bipush (v := 105) hx hb dX12_readLine_189 (by decide) ?_
              refine lv_bipush (v := 102) hx hb dX12_readLine_191 (by decide) ?_
              refine lv_iconst (v := 0) hx hb dX12_readLine_193 (by decide) ?_
              refine lv_iconst (v := 0) hx hb dX12_readLine_194 (by decide) ?_
              refine lv_iconst (v := 0) hx hb dX12_readLine_195 (by decide) ?_
              refine va_calll (va_runS (As := [.int 105, .int 102, .int 0, .int 0, .int 0]) (rest := [.ref h]) ⟨hx, hb, hml, hown, hts⟩ (m_speltC l H.size 105 102 0 0 0) (va_cwS 5 hts (gS kw_8_87 kw_8_88 kw_1_15 kw_8_89) rfl rfl rfl (by decide +kernel) ⟨Nat.le_of_ble_eq_true rfl, Nat.le_of_ble_eq_true rfl⟩) ⟨fun a U g mk q => ⟨q.1, q.2⟩, fun U hU hW => ⟨rfl, congrArg Array.size hU⟩⟩ rfl rfl hl.1 rfl (lv_room (Nat.le_of_ble_eq_true rfl)) dX12_readLine_196 ⟨Nat.le_of_ble_eq_true rfl, Nat.le_of_ble_eq_true rfl⟩) hS (fun q _ h9 => nM_up hS q h9) (nM_up hS) (fun r_179 u t H1 locs ht _ hw hB _ hk1 hS => ?_)
              obtain ⟨p_180, -⟩ := hw
              have hP := my_keepM hP hk1
              generalize H1 = H at hP hS ⊢
              refine va_calli (va_runV (As := [.long r_179]) (rest := []) ⟨hx, hb, hml, hown, hts⟩ (m_isKeyC l dC dI H.size h ad cA hd fv_166 wd_170 ar_168 hF_fv_166 hA_ar_168 r_179) (cwV 1 hts (gV kw_8_90 kw_8_92 kw_p_68 kw_1_15 kw_8_93) rfl rfl rfl (by decide +kernel) ⟨Nat.le_of_ble_eq_true rfl, Nat.le_of_ble_eq_true rfl⟩) ⟨fun a U g mk q => ⟨q.1, q.2.1, q.2.2.1, va_K.moved (u := U) (U := U.calling g mk a) (Vm.Alike.refl U.vm) q.2.2.2⟩, va_recv hK hP (ci := 12) (q0 := 0) rfl rfl, fun U hU hW => ⟨rfl, by rw [hU], by rw [hU]; exact hP, va_K.moved hW.alike hK⟩⟩ rfl rfl hl.1 rfl (lv_room (Nat.le_of_ble_eq_true rfl)) dX12_readLine_199 ⟨Nat.le_of_ble_eq_true rfl, Nat.le_of_ble_eq_true rfl⟩) hS (fun q _ h9 => aM_up hS q h9) (aM_up hS) (fun r_181 u t H1 locs ht _ hw hB _ hk1 hS => ?_)
              obtain ⟨fv_185, wd_186, ar_187⟩ := u
              obtain ⟨hF_fv_185, hA_ar_187, fr_188, fa_189, p_182, p_183, p_184, -⟩ := hw
              have hP : va_P (dC, dI) vwCl (wsM h ad cA fv_185 wd_186 ar_187) H1 := by have h9 := hB.1; rw [ht] at h9; exact h9
              have fr_188 : fM [] fv_166 fv_185 := fr_188
              have fa_189 : fA [] ar_168 ar_187 := fa_189
              have p_183 : wd_186 = wd_170 := p_183
              have p_184 : (r_181 = 1 ∧ (fv_166 40).toInt = 2 ∧ wd_170 = r_179) ∨ (r_181 = 0 ∧ ¬ ((fv_166 40).toInt = 2 ∧ wd_170 = r_179)) := p_184
              generalize H1 = H at hP hS ⊢
              rw [p_183] at hP
              have k_190 : (r_181.toInt = 1 ∧ rd_T b9 n9 k2 = 23) ∨ (r_181.toInt = 0 ∧ ¬ rd_T b9 n9 k2 = 23) := by have h7 : (0 : Int32).toInt = 0 := (by decide); have h6 : (1 : Int32).toInt = 1 := (by decide); have hk9 := rd_key hm2.2.2.1 (w0 := r_179) (j := 23) (by decide) (by rw [p_180]; decide +kernel); rcases p_184 with ⟨a9, b9⟩ | ⟨a9, b9⟩; exact Or.inl ⟨by rw [a9]; exact h6, hk9.mp b9⟩; exact Or.inr ⟨by rw [a9]; exact h7, fun w => b9 (hk9.mpr w)⟩
              clear p_184
              refine lv_if_eq (tgt := 218) hx hb dX12_readLine_202 (by decide) (fun c_191 => ?_) (fun c_191 => ?_)
              · skip
                have i_192 : 0 ≤ r_181.toInt ∧ r_181.toInt ≤ 0 := iv_eq1 (⟨by decide, by decide⟩ : (0 : Int) ≤ (0 : Int32).toInt ∧ (0 : Int32).toInt ≤ 0) c_191
                have k_194 : ¬ rd_T b9 n9 k2 = 23 := by omega
                clear k_190
                have z_195 : (fv_185 62).toInt = (fv 62).toInt := congrArg Int32.toInt ((fr_188 62 rfl).trans ((fr_167 62 rfl).trans ((fr_68 62 rfl).trans ((fr_11 62 rfl)))))
                have z_196 : 0 ≤ (fv_185 62).toInt ∧ (fv_185 62).toInt ≤ 50 := hF_fv_185 62
                have hC : rd_ln (rd_T b9 n9) (rd_N b9 n9) k9 ((fv 62).toInt.toNat) ((fv 59).toInt.toNat) (decide ((fv 45).toInt = 1)) = rd_l3 (rd_T b9 n9) (0, k2, (fv 62).toInt.toNat) := (by have : (fv_185 59).toInt = (fv 59).toInt := congrArg Int32.toInt ((fr_188 59 rfl).trans ((fr_167 59 rfl).trans ((fr_68 59 rfl).trans ((fr_11 59 rfl))))); have : (fv_185 62).toInt = (fv 62).toInt := congrArg Int32.toInt ((fr_188 62 rfl).trans ((fr_167 62 rfl).trans ((fr_68 62 rfl).trans ((fr_11 62 rfl))))); have : (fv_185 63).toInt = (fv 63).toInt := congrArg Int32.toInt ((fr_188 63 rfl).trans ((fr_167 63 rfl).trans ((fr_68 63 rfl).trans ((fr_11 63 rfl))))); have : (fv_185 45).toInt = (fv 45).toInt := congrArg Int32.toInt ((fr_188 45 rfl).trans ((fr_167 45 rfl).trans ((fr_68 45 rfl).trans ((fr_11 45 rfl))))); rw [hA, rd_l2_no (Or.inr (by omega))])
                have z_197 : (fv_185 59).toInt = (fv 59).toInt := congrArg Int32.toInt ((fr_188 59 rfl).trans ((fr_167 59 rfl).trans ((fr_68 59 rfl).trans ((fr_11 59 rfl)))))
                have z_198 : 0 ≤ (fv_185 59).toInt ∧ (fv_185 59).toInt ≤ 16 := hF_fv_185 59
                have z_199 : (fv_185 60).toInt = (fv 60).toInt := congrArg Int32.toInt ((fr_188 60 rfl).trans ((fr_167 60 rfl).trans ((fr_68 60 rfl).trans ((fr_11 60 rfl)))))
                have z_200 : 0 ≤ (fv_185 60).toInt ∧ (fv_185 60).toInt ≤ 120 := hF_fv_185 60
                have z_201 : (fv_185 62).toInt = (fv 62).toInt := congrArg Int32.toInt ((fr_188 62 rfl).trans ((fr_167 62 rfl).trans ((fr_68 62 rfl).trans ((fr_11 62 rfl)))))
                have z_202 : 0 ≤ (fv_185 62).toInt ∧ (fv_185 62).toInt ≤ 50 := hF_fv_185 62
                have z_203 : (fv_185 63).toInt = (fv 63).toInt := congrArg Int32.toInt ((fr_188 63 rfl).trans ((fr_167 63 rfl).trans ((fr_68 63 rfl).trans ((fr_11 63 rfl)))))
                have z_204 : (-100) ≤ (fv_185 63).toInt ∧ (fv_185 63).toInt ≤ 10 := hF_fv_185 63
                have q_205 : vP (ar_187 54) (1200 + (fv 60).toInt.toNat) (1200 + (fv_185 60).toInt.toNat) := (by rw [show (fv_185 60).toInt.toNat = (fv 60).toInt.toNat from by omega]; exact vP_nil _ _)
                have q_206 : (fv_185 60).toInt ≤ 2 * (fv_185 62).toInt := (by omega)
                have q_207 : 0 ≤ (fv_185 63).toInt + (fv_185 62).toInt := (by omega)
                refine lv_aload_n hx hb dX12_readLine_218 rfl (lv_at hl 0 rfl) ?_
                refine gM_53 hx hb htg hown hK hP dX12_readLine_219 ?_
                refine lv_iload_n hx hb dX12_readLine_222 rfl (lv_at hl 2 rfl) ?_
                refine lv_aload_n hx hb dX12_readLine_223 rfl (lv_at hl 0 rfl) ?_
                refine gM_60 hx hb htg hown hK hP dX12_readLine_224 ?_
                refine my_ti (y := fv 60) ((fr_188 60 rfl).trans ((fr_167 60 rfl).trans ((fr_68 60 rfl).trans ((fr_11 60 rfl))))) ?_
                refine sM_53 hx hb hK hP hS hd (iv_in t_41.2 (by decide) (by decide)) dX12_readLine_227 (fun H locs ar_208 ear_208 hP hS => ?_)
                have hA_ar_208 : rA ar_208 := rA_put hA_ar_187 ear_208 i_45
                have hp_209 : vM fv_185 ar_208 := vM_53 (vM_fr hp_172 (fM_call (fM_rf [] _) fr_188 (by decide)) (fA_call (fA_rf [] _) fa_189 (by decide)) rfl rfl rfl rfl rfl) hA_ar_187 ear_208 (by have h58 : (0 : Int) ≤ (fv_185 58).toInt ∧ (fv_185 58).toInt ≤ 10 := hF_fv_185 58; have h57 : (fv_185 58).toInt = (fv 58).toInt := congrArg Int32.toInt ((fr_188 58 rfl).trans ((fr_167 58 rfl).trans ((fr_68 58 rfl).trans ((fr_11 58 rfl))))); show _ ≤ ((v_40.toInt.toNat : Nat) : Int); omega)
                have hp_210 : rL fv_185 ar_208 := rL_53 (rL_fr hp_171 (fM_call (fM_rf [] _) fr_188 (by decide)) (fA_call (fA_rf [] _) fa_189 (by decide)) rfl rfl rfl rfl rfl) ear_208 (by have h57 : (fv_185 59).toInt = (fv 59).toInt := congrArg Int32.toInt ((fr_188 59 rfl).trans ((fr_167 59 rfl).trans ((fr_68 59 rfl).trans ((fr_11 59 rfl))))); show ((v_40.toInt.toNat : Nat) : Int) < 160 ∨ _ ≤ ((v_40.toInt.toNat : Nat) : Int); omega)
                refine lv_aload_n hx hb dX12_readLine_228 rfl (lv_at hl 0 rfl) ?_
                refine lv_dup hx hb dX12_readLine_229 rfl ?_
                refine gM_59 hx hb htg hown hK hP dX12_readLine_230 ?_
                refine my_ti (y := fv 59) ((fr_188 59 rfl).trans ((fr_167 59 rfl).trans ((fr_68 59 rfl).trans ((fr_11 59 rfl))))) ?_
                refine lv_iconst (v := 1) hx hb dX12_readLine_233 (by decide) ?_
                refine lv_iadd hx hb dX12_readLine_234 ?_
                refine lv_topi (fun v_211 ev_211 => ?_)
                have t_212 : v_211.toInt = (fv 59).toInt + 1 ∧ 1 ≤ v_211.toInt ∧ v_211.toInt ≤ 16 := iv_addc ev_211 i_35 (by decide) (by decide) (by decide)
                refine pM_59 hx hb htg hown hK hP hS hd dX12_readLine_235 (fun H locs fv_214 efv_214 hP hS => ?_)
                have hF_fv_214 : rF fv_214 := rF_put hF_fv_185 efv_214 (iv_w t_212.2 (by decide) (by decide))
                have z_215 : (fv_214 59).toInt = v_211.toInt := congrArg Int32.toInt ((congrFun efv_214 59))
                have z_216 : 0 ≤ (fv_214 59).toInt ∧ (fv_214 59).toInt ≤ 16 := hF_fv_214 59
                have z_217 : (fv_214 60).toInt = (fv 60).toInt := congrArg Int32.toInt ((congrFun efv_214 60).trans ((fr_188 60 rfl).trans ((fr_167 60 rfl).trans ((fr_68 60 rfl).trans ((fr_11 60 rfl))))))
                have z_218 : 0 ≤ (fv_214 60).toInt ∧ (fv_214 60).toInt ≤ 120 := hF_fv_214 60
                have z_219 : (fv_214 62).toInt = (fv 62).toInt := congrArg Int32.toInt ((congrFun efv_214 62).trans ((fr_188 62 rfl).trans ((fr_167 62 rfl).trans ((fr_68 62 rfl).trans ((fr_11 62 rfl))))))
                have z_220 : 0 ≤ (fv_214 62).toInt ∧ (fv_214 62).toInt ≤ 50 := hF_fv_214 62
                have z_221 : (fv_214 63).toInt = (fv 63).toInt := congrArg Int32.toInt ((congrFun efv_214 63).trans ((fr_188 63 rfl).trans ((fr_167 63 rfl).trans ((fr_68 63 rfl).trans ((fr_11 63 rfl))))))
                have z_222 : (-100) ≤ (fv_214 63).toInt ∧ (fv_214 63).toInt ≤ 10 := hF_fv_214 63
                have g_223 : ar_208 53 = upd (ar_187 53) (v_40.toInt.toNat) (fv 60) := by rw [ear_208]; rfl
                have g_224 : ar_187 52 (160 + (fv_185 59).toInt.toNat) = (fv 60) := by rw [((fA_call (fA_call (fA_call (fA_rf [51] _) fa_69 (by decide)) fa_169 (by decide)) fa_189 (by decide)) 52 rfl), ear_46]; show upd _ (v_40.toInt.toNat) _ _ = _; rw [show v_40.toInt.toNat = 160 + (fv_185 59).toInt.toNat from by omega]; exact up_eq
                have hp_225 : rL fv_214 ar_208 := rL_add (i := v_40.toInt.toNat) (x := (fv 60)) (rL_fr hp_171 (fM_call (fM_rf [] _) fr_188 (by decide)) (fA_call (fA_rf [] _) fa_189 (by decide)) rfl rfl rfl rfl rfl) (by omega) (by omega) (by omega) ((fA_put (fA_rf [53] _) ear_208 (by decide)) 54 rfl) ((fA_put (fA_rf [53] _) ear_208 (by decide)) 52 rfl) (by rw [g_223]) (by omega) (by omega) (by rw [g_224]; exact q_205)
                refine lv_aload_n hx hb dX12_readLine_238 rfl (lv_at hl 0 rfl) ?_
                refine lv_bipush (v := 59) hx hb dX12_readLine_239 (by decide) ?_
                have z_226 : (fv_214 40).toInt = (fv_166 40).toInt := congrArg Int32.toInt ((congrFun efv_214 40).trans ((fr_188 40 rfl)))
                have z_227 : (fv_214 42).toInt = (fv_166 42).toInt := congrArg Int32.toInt ((congrFun efv_214 42).trans ((fr_188 42 rfl)))
                refine va_calli (va_runV (As := [.int 59]) (rest := []) ⟨hx, hb, hml, hown, hts⟩ (m_isSignC l dC dI H.size h ad cA hd fv_214 wd_170 ar_208 hF_fv_214 hA_ar_208 59) (cwV 1 hts (gV kw_8_117 kw_8_119 kw_p_74 kw_1_15 kw_8_120) rfl rfl rfl (by decide +kernel) ⟨Nat.le_of_ble_eq_true rfl, Nat.le_of_ble_eq_true rfl⟩) ⟨fun a U g mk q => ⟨q.1, q.2.1, q.2.2.1, va_K.moved (u := U) (U := U.calling g mk a) (Vm.Alike.refl U.vm) q.2.2.2⟩, va_recv hK hP (ci := 12) (q0 := 0) rfl rfl, fun U hU hW => ⟨rfl, by rw [hU], by rw [hU]; exact hP, va_K.moved hW.alike hK⟩⟩ rfl rfl hl.1 rfl (lv_room (Nat.le_of_ble_eq_true rfl)) dX12_readLine_241 ⟨Nat.le_of_ble_eq_true rfl, Nat.le_of_ble_eq_true rfl⟩) hS (fun q _ h9 => aM_up hS q h9) (aM_up hS) (fun r_228 u t H1 locs ht _ hw hB _ hk1 hS => ?_)
                obtain ⟨fv_232, wd_233, ar_234⟩ := u
                obtain ⟨hF_fv_232, hA_ar_234, fr_235, fa_236, p_229, p_230, p_231, -⟩ := hw
                have hP : va_P (dC, dI) vwCl (wsM h ad cA fv_232 wd_233 ar_234) H1 := by have h9 := hB.1; rw [ht] at h9; exact h9
                have fr_235 : fM [] fv_214 fv_232 := fr_235
                have fa_236 : fA [] ar_208 ar_234 := fa_236
                have p_230 : wd_233 = wd_170 := p_230
                have p_231 : (r_228 = 1 ∧ (fv_214 40).toInt = 4 ∧ (fv_214 42).toInt = (59 : Int32).toInt) ∨ (r_228 = 0 ∧ ¬ ((fv_214 40).toInt = 4 ∧ (fv_214 42).toInt = (59 : Int32).toInt)) := p_231
                generalize H1 = H at hP hS ⊢
                rw [p_230] at hP
                have k_237 : (r_228.toInt = 1 ∧ rd_T b9 n9 k2 = 26) ∨ (r_228.toInt = 0 ∧ ¬ rd_T b9 n9 k2 = 26) := by have h7 : (0 : Int32).toInt = 0 := (by decide); have h6 : (1 : Int32).toInt = 1 := (by decide); have hk9 := rd_sgn (rd_rel_eq hm2.2.2.1 ((fM_put (fM_call (fM_rf [59] _) fr_188 (by decide)) efv_214 (by decide)) 40 rfl) ((fM_put (fM_call (fM_rf [59] _) fr_188 (by decide)) efv_214 (by decide)) 42 rfl) ((fM_put (fM_call (fM_rf [59] _) fr_188 (by decide)) efv_214 (by decide)) 41 rfl) rfl) (a := 59) (j := 26) (by decide) (by decide); rcases p_231 with ⟨a9, b9⟩ | ⟨a9, b9⟩; exact Or.inl ⟨by rw [a9]; exact h6, hk9.mp b9⟩; exact Or.inr ⟨by rw [a9]; exact h7, fun w => b9 (hk9.mpr w)⟩
                clear p_231
                refine lv_if_ne (tgt := 255) hx hb dX12_readLine_244 (by decide) (fun c_238 => ?_) (fun c_238 => ?_)
                · skip
                  have i_239 : 1 ≤ r_228.toInt ∧ r_228.toInt ≤ 1 := iv_nel p_229 (by decide) c_238
                  have k_241 : rd_T b9 n9 k2 = 26 := by omega
                  clear k_237
                  refine lv_iconst (v := 1) hx hb dX12_readLine_255 (by decide) ?_
                  refine lv_goto (tgt := 260) hx hb dX12_readLine_256 (by decide) ?_
                  have z_242 : (fv_232 59).toInt = v_211.toInt := congrArg Int32.toInt ((fr_235 59 rfl).trans ((congrFun efv_214 59)))
                  have z_243 : 0 ≤ (fv_232 59).toInt ∧ (fv_232 59).toInt ≤ 16 := hF_fv_232 59
                  have z_244 : (fv_232 60).toInt = (fv 60).toInt := congrArg Int32.toInt ((fr_235 60 rfl).trans ((congrFun efv_214 60).trans ((fr_188 60 rfl).trans ((fr_167 60 rfl).trans ((fr_68 60 rfl).trans ((fr_11 60 rfl)))))))
                  have z_245 : 0 ≤ (fv_232 60).toInt ∧ (fv_232 60).toInt ≤ 120 := hF_fv_232 60
                  have z_246 : (fv_232 62).toInt = (fv 62).toInt := congrArg Int32.toInt ((fr_235 62 rfl).trans ((congrFun efv_214 62).trans ((fr_188 62 rfl).trans ((fr_167 62 rfl).trans ((fr_68 62 rfl).trans ((fr_11 62 rfl)))))))
                  have z_247 : 0 ≤ (fv_232 62).toInt ∧ (fv_232 62).toInt ≤ 50 := hF_fv_232 62
                  have z_248 : (fv_232 63).toInt = (fv 63).toInt := congrArg Int32.toInt ((fr_235 63 rfl).trans ((congrFun efv_214 63).trans ((fr_188 63 rfl).trans ((fr_167 63 rfl).trans ((fr_68 63 rfl).trans ((fr_11 63 rfl)))))))
                  have z_249 : (-100) ≤ (fv_232 63).toInt ∧ (fv_232 63).toInt ≤ 10 := hF_fv_232 63
                  exact W.zret (v := 1) hx hb hr (by decide) (fun t ht hW => ⟨⟨1, (fv_232, wd_170, ar_234), rfl, ⟨hF_fv_232, hA_ar_234, (fM_call (fM_put (fM_call (fM_call (fM_call (fM_call (fM_rf [38, 39, 40, 41, 42, 43, 44, 45, 59, 60, 61, 62, 63] _) fr_11 (by decide)) fr_68 (by decide)) fr_167 (by decide)) fr_188 (by decide)) efv_214 (by decide)) fr_235 (by decide)), (fA_call (fA_put (fA_call (fA_call (fA_call (fA_put (fA_put (fA_put (fA_call (fA_rf [48, 50, 51, 52, 53, 54, 55, 56, 57] _) fa_12 (by decide)) ear_43 (by decide)) ear_44 (by decide)) ear_46 (by decide)) fa_69 (by decide)) fa_169 (by decide)) fa_189 (by decide)) ear_208 (by decide)) fa_236 (by decide)), (iv_w (⟨by decide, by decide⟩ : (1 : Int) ≤ (1 : Int32).toInt ∧ (1 : Int32).toInt ≤ 1) (by decide) (by decide)), (Or.inr (⟨rfl, (show (rL fv_232 ar_234) ∧ ((fv_232 60).toInt ≤ 2 * (fv_232 62).toInt) ∧ (0 ≤ (fv_232 63).toInt + (fv_232 62).toInt) ∧ ((fv_232 59).toInt = (fv 59).toInt + 1) ∧ (∃ k1 : Nat, rd_mt b9 n9 k1 (fv_232 37) (fv_232 38) (fv_232 39) (fv_232 40) (fv_232 42) (fv_232 41) wd_170 ∧ rd_T b9 n9 k1 = 26 ∧ rd_ln (rd_T b9 n9) (rd_N b9 n9) k9 ((fv 62).toInt.toNat) ((fv 59).toInt.toNat) (decide ((fv 45).toInt = 1)) = (0, k1 + 1, (fv_232 62).toInt.toNat) ∧ (fv_232 63).toInt = 0 ∧ ((fv_232 45).toInt = 1 ↔ ((fv 45).toInt = 1 ∨ rd_T b9 n9 k9 = 6)) ∧ ((fv_232 45).toInt = 0 ∨ (fv_232 45).toInt = 1) ∧ fv_232 43 = fv 43) from ⟨(rL_fr hp_225 (fM_call (fM_rf [] _) fr_235 (by decide)) (fA_call (fA_rf [] _) fa_236 (by decide)) rfl rfl rfl rfl rfl), show (fv_232 60).toInt ≤ 2 * (fv_232 62).toInt from by omega, show 0 ≤ (fv_232 63).toInt + (fv_232 62).toInt from by omega, show (fv_232 59).toInt = (fv 59).toInt + 1 from by omega, (by have : (fv_232 59).toInt = (v_211).toInt := congrArg Int32.toInt ((fr_235 59 rfl).trans ((congrFun efv_214 59))); have : (fv_232 62).toInt = (fv 62).toInt := congrArg Int32.toInt ((fr_235 62 rfl).trans ((congrFun efv_214 62).trans ((fr_188 62 rfl).trans ((fr_167 62 rfl).trans ((fr_68 62 rfl).trans ((fr_11 62 rfl))))))); have : (fv_232 63).toInt = (fv 63).toInt := congrArg Int32.toInt ((fr_235 63 rfl).trans ((congrFun efv_214 63).trans ((fr_188 63 rfl).trans ((fr_167 63 rfl).trans ((fr_68 63 rfl).trans ((fr_11 63 rfl))))))); have : (fv_232 45).toInt = (fv 45).toInt := congrArg Int32.toInt ((fr_235 45 rfl).trans ((congrFun efv_214 45).trans ((fr_188 45 rfl).trans ((fr_167 45 rfl).trans ((fr_68 45 rfl).trans ((fr_11 45 rfl))))))); have hq9 : (fv_166 45).toInt = 1 ↔ ((fv 45).toInt = 1 ∨ rd_T b9 n9 k9 = 6) := q_174; have hq8 : (fv_166 45).toInt = 0 ∨ (fv_166 45).toInt = 1 := q_175; exact ⟨k2, (rd_mt_eq hm2 ((fM_call (fM_put (fM_call (fM_rf [59] _) fr_188 (by decide)) efv_214 (by decide)) fr_235 (by decide)) 37 rfl) ((fM_call (fM_put (fM_call (fM_rf [59] _) fr_188 (by decide)) efv_214 (by decide)) fr_235 (by decide)) 38 rfl) ((fM_call (fM_put (fM_call (fM_rf [59] _) fr_188 (by decide)) efv_214 (by decide)) fr_235 (by decide)) 39 rfl) ((fM_call (fM_put (fM_call (fM_rf [59] _) fr_188 (by decide)) efv_214 (by decide)) fr_235 (by decide)) 40 rfl) ((fM_call (fM_put (fM_call (fM_rf [59] _) fr_188 (by decide)) efv_214 (by decide)) fr_235 (by decide)) 42 rfl) ((fM_call (fM_put (fM_call (fM_rf [59] _) fr_188 (by decide)) efv_214 (by decide)) fr_235 (by decide)) 41 rfl) rfl), by omega, by rw [hC, rd_l3_ok (by omega), show (fv 62).toInt.toNat = (fv_232 62).toInt.toNat from (by omega)], by omega, by omega, by omega, ((fM_call (fM_put (fM_call (fM_call (fM_call (fM_call (fM_rf [38, 39, 40, 41, 42, 59] _) fr_11 (by decide)) fr_68 (by decide)) fr_167 (by decide)) fr_188 (by decide)) efv_214 (by decide)) fr_235 (by decide)) 43 rfl)⟩)⟩)⟩)), (vM_fr hp_209 (fM_call (fM_put (fM_rf [59] _) efv_214 (by decide)) fr_235 (by decide)) (fA_call (fA_rf [] _) fa_236 (by decide)) rfl rfl rfl rfl rfl), trivial⟩, ⟨by rw [ht]; exact hP, va_K.moved hW.alike hK⟩⟩, hS.F ht⟩) hS.2.2 dX12_readLine_260
                · skip
                  have i_250 : 0 ≤ r_228.toInt ∧ r_228.toInt ≤ 0 := iv_eq1 (⟨by decide, by decide⟩ : (0 : Int) ≤ (0 : Int32).toInt ∧ (0 : Int32).toInt ≤ 0) c_238
                  have k_252 : ¬ rd_T b9 n9 k2 = 26 := by omega
                  clear k_237
                  refine lv_aload_n hx hb dX12_readLine_247 rfl (lv_at hl 0 rfl) ?_
                  refine lv_iconst (v := 1) hx hb dX12_readLine_248 (by decide) ?_
                  have z_253 : (fv_232 39).toInt = (fv_166 39).toInt := congrArg Int32.toInt ((fr_235 39 rfl).trans ((congrFun efv_214 39).trans ((fr_188 39 rfl))))
                  have z_254 : 0 ≤ (fv_232 39).toInt ∧ (fv_232 39).toInt ≤ 340 := hF_fv_232 39
                  have z_255 : (fv_232 40).toInt = (fv_166 40).toInt := congrArg Int32.toInt ((fr_235 40 rfl).trans ((congrFun efv_214 40).trans ((fr_188 40 rfl))))
                  refine va_calli (va_runV (As := [.int 1]) (rest := []) ⟨hx, hb, hml, hown, hts⟩ (m_badC l dC dI H.size h ad cA hd fv_232 wd_170 ar_234 hF_fv_232 hA_ar_234 1) (cwV 1 hts (gV kw_8_94 kw_8_96 kw_p_69 kw_1_15 kw_8_97) rfl rfl rfl (by decide +kernel) ⟨Nat.le_of_ble_eq_true rfl, Nat.le_of_ble_eq_true rfl⟩) ⟨fun a U g mk q => ⟨q.1, q.2.1, q.2.2.1, va_K.moved (u := U) (U := U.calling g mk a) (Vm.Alike.refl U.vm) q.2.2.2⟩, va_recv hK hP (ci := 12) (q0 := 0) rfl rfl, fun U hU hW => ⟨rfl, by rw [hU], by rw [hU]; exact hP, va_K.moved hW.alike hK⟩⟩ rfl rfl hl.1 rfl (lv_room (Nat.le_of_ble_eq_true rfl)) dX12_readLine_249 ⟨Nat.le_of_ble_eq_true rfl, Nat.le_of_ble_eq_true rfl⟩) hS (fun q _ h9 => aM_up hS q h9) (aM_up hS) (fun r_256 u t H1 locs ht _ hw hB _ hk1 hS => ?_)
                  obtain ⟨fv_261, wd_262, ar_263⟩ := u
                  obtain ⟨hF_fv_261, hA_ar_263, fr_264, fa_265, p_257, p_258, p_259, p_260, -⟩ := hw
                  have hP : va_P (dC, dI) vwCl (wsM h ad cA fv_261 wd_262 ar_263) H1 := by have h9 := hB.1; rw [ht] at h9; exact h9
                  have fr_264 : fM [43, 44] fv_232 fv_261 := fr_264
                  have fa_265 : fA [] ar_234 ar_263 := fa_265
                  have p_259 : wd_262 = wd_170 := p_259
                  have p_260 : (fv_261 43 = 1 ∨ fv_261 43 = (1 : Int32)) ∧ ((fv_232 40).toInt = 1 → fv_261 43 = 1) ∧ (¬ (fv_232 40).toInt = 1 → fv_261 43 = (1 : Int32)) ∧ (fv_261 44).toInt = (fv_232 39).toInt := p_260
                  generalize H1 = H at hP hS ⊢
                  rw [p_259] at hP
                  rcases p_258 with ⟨rfl, p_258⟩
                  · skip
                    refine lv_if_eq (tgt := 259) hx hb dX12_readLine_252 (by decide) (fun c_266 => ?_) (fun c_266 => ?_)
                    · skip
                      refine lv_iconst (v := 0) hx hb dX12_readLine_259 (by decide) ?_
                      have z_267 : (fv_261 59).toInt = v_211.toInt := congrArg Int32.toInt ((fr_264 59 rfl).trans ((fr_235 59 rfl).trans ((congrFun efv_214 59))))
                      have z_268 : 0 ≤ (fv_261 59).toInt ∧ (fv_261 59).toInt ≤ 16 := hF_fv_261 59
                      have z_269 : (fv_261 60).toInt = (fv 60).toInt := congrArg Int32.toInt ((fr_264 60 rfl).trans ((fr_235 60 rfl).trans ((congrFun efv_214 60).trans ((fr_188 60 rfl).trans ((fr_167 60 rfl).trans ((fr_68 60 rfl).trans ((fr_11 60 rfl))))))))
                      have z_270 : 0 ≤ (fv_261 60).toInt ∧ (fv_261 60).toInt ≤ 120 := hF_fv_261 60
                      have z_271 : (fv_261 62).toInt = (fv 62).toInt := congrArg Int32.toInt ((fr_264 62 rfl).trans ((fr_235 62 rfl).trans ((congrFun efv_214 62).trans ((fr_188 62 rfl).trans ((fr_167 62 rfl).trans ((fr_68 62 rfl).trans ((fr_11 62 rfl))))))))
                      have z_272 : 0 ≤ (fv_261 62).toInt ∧ (fv_261 62).toInt ≤ 50 := hF_fv_261 62
                      have z_273 : (fv_261 63).toInt = (fv 63).toInt := congrArg Int32.toInt ((fr_264 63 rfl).trans ((fr_235 63 rfl).trans ((congrFun efv_214 63).trans ((fr_188 63 rfl).trans ((fr_167 63 rfl).trans ((fr_68 63 rfl).trans ((fr_11 63 rfl))))))))
                      have z_274 : (-100) ≤ (fv_261 63).toInt ∧ (fv_261 63).toInt ≤ 10 := hF_fv_261 63
                      exact W.zret (v := 0) hx hb hr (by decide) (fun t ht hW => ⟨⟨0, (fv_261, wd_170, ar_263), rfl, ⟨hF_fv_261, hA_ar_263, (fM_call (fM_call (fM_put (fM_call (fM_call (fM_call (fM_call (fM_rf [38, 39, 40, 41, 42, 43, 44, 45, 59, 60, 61, 62, 63] _) fr_11 (by decide)) fr_68 (by decide)) fr_167 (by decide)) fr_188 (by decide)) efv_214 (by decide)) fr_235 (by decide)) fr_264 (by decide)), (fA_call (fA_call (fA_put (fA_call (fA_call (fA_call (fA_put (fA_put (fA_put (fA_call (fA_rf [48, 50, 51, 52, 53, 54, 55, 56, 57] _) fa_12 (by decide)) ear_43 (by decide)) ear_44 (by decide)) ear_46 (by decide)) fa_69 (by decide)) fa_169 (by decide)) fa_189 (by decide)) ear_208 (by decide)) fa_236 (by decide)) fa_265 (by decide)), (iv_w (⟨by decide, by decide⟩ : (0 : Int) ≤ (0 : Int32).toInt ∧ (0 : Int32).toInt ≤ 0) (by decide) (by decide)), (Or.inl ⟨rfl, (show (0 < (fv_261 43).toInt ∧ (rd_ln (rd_T b9 n9) (rd_N b9 n9) k9 ((fv 62).toInt.toNat) ((fv 59).toInt.toNat) (decide ((fv 45).toInt = 1))).1 = (fv_261 43).toInt.toNat ∧ (fv_261 44).toInt = (rd_S b9 n9 (rd_ln (rd_T b9 n9) (rd_N b9 n9) k9 ((fv 62).toInt.toNat) ((fv 59).toInt.toNat) (decide ((fv 45).toInt = 1))).2.1 : Nat)) from (by have : (fv_261 59).toInt = (v_211).toInt := congrArg Int32.toInt ((fr_264 59 rfl).trans ((fr_235 59 rfl).trans ((congrFun efv_214 59)))); have : (fv_261 62).toInt = (fv 62).toInt := congrArg Int32.toInt ((fr_264 62 rfl).trans ((fr_235 62 rfl).trans ((congrFun efv_214 62).trans ((fr_188 62 rfl).trans ((fr_167 62 rfl).trans ((fr_68 62 rfl).trans ((fr_11 62 rfl)))))))); have : (fv_261 63).toInt = (fv 63).toInt := congrArg Int32.toInt ((fr_264 63 rfl).trans ((fr_235 63 rfl).trans ((congrFun efv_214 63).trans ((fr_188 63 rfl).trans ((fr_167 63 rfl).trans ((fr_68 63 rfl).trans ((fr_11 63 rfl)))))))); have : (fv_261 45).toInt = (fv 45).toInt := congrArg Int32.toInt ((fr_264 45 rfl).trans ((fr_235 45 rfl).trans ((congrFun efv_214 45).trans ((fr_188 45 rfl).trans ((fr_167 45 rfl).trans ((fr_68 45 rfl).trans ((fr_11 45 rfl)))))))); have hE : rd_ln (rd_T b9 n9) (rd_N b9 n9) k9 ((fv 62).toInt.toNat) ((fv 59).toInt.toNat) (decide ((fv 45).toInt = 1)) = (1, k2, (fv 62).toInt.toNat) := (by rw [hC, rd_l3_bad (by omega)]); have hf9 : fv_261 43 = 1 := (p_260.1.elim id id); exact ⟨by rw [hf9]; decide, by rw [hE, hf9]; show 1 = (1 : Int32).toInt.toNat; decide, by rw [hE]; have h8 := (p_260).2.2.2; have h7 := ((rd_mt_eq hm2 ((fM_call (fM_put (fM_call (fM_rf [59] _) fr_188 (by decide)) efv_214 (by decide)) fr_235 (by decide)) 37 rfl) ((fM_call (fM_put (fM_call (fM_rf [59] _) fr_188 (by decide)) efv_214 (by decide)) fr_235 (by decide)) 38 rfl) ((fM_call (fM_put (fM_call (fM_rf [59] _) fr_188 (by decide)) efv_214 (by decide)) fr_235 (by decide)) 39 rfl) ((fM_call (fM_put (fM_call (fM_rf [59] _) fr_188 (by decide)) efv_214 (by decide)) fr_235 (by decide)) 40 rfl) ((fM_call (fM_put (fM_call (fM_rf [59] _) fr_188 (by decide)) efv_214 (by decide)) fr_235 (by decide)) 42 rfl) ((fM_call (fM_put (fM_call (fM_rf [59] _) fr_188 (by decide)) efv_214 (by decide)) fr_235 (by decide)) 41 rfl) rfl)).2.1; show (fv_261 44).toInt = (rd_S b9 n9 k2 : Nat); rw [← h7]; exact h8⟩))⟩), (vM_fr hp_209 (fM_call (fM_call (fM_put (fM_rf [43, 44, 59] _) efv_214 (by decide)) fr_235 (by decide)) fr_264 (by decide)) (fA_call (fA_call (fA_rf [] _) fa_236 (by decide)) fa_265 (by decide)) rfl rfl rfl rfl rfl), trivial⟩, ⟨by rw [ht]; exact hP, va_K.moved hW.alike hK⟩⟩, hS.F ht⟩) hS.2.2 dX12_readLine_260
                    · skip
                      exact absurd c_266 (by decide)
              · skip
                have i_275 : 1 ≤ r_181.toInt ∧ r_181.toInt ≤ 1 := iv_nel p_182 (by decide) c_191
                have k_277 : rd_T b9 n9 k2 = 23 := by omega
                clear k_190
                refine lv_aload_n hx hb dX12_readLine_205 rfl (lv_at hl 0 rfl) ?_
                have z_278 : (fv_185 37).toInt = (fv 37).toInt := congrArg Int32.toInt ((fr_188 37 rfl).trans ((fr_167 37 rfl).trans ((fr_68 37 rfl).trans ((fr_11 37 rfl)))))
                have z_279 : 0 ≤ (fv_185 37).toInt ∧ (fv_185 37).toInt ≤ 340 := hF_fv_185 37
                have z_280 : (fv_185 38).toInt = (fv_166 38).toInt := congrArg Int32.toInt ((fr_188 38 rfl))
                have z_281 : 0 ≤ (fv_185 38).toInt ∧ (fv_185 38).toInt ≤ 340 := hF_fv_185 38
                have z_282 : (fv_185 37).toInt = (fv 37).toInt := congrArg Int32.toInt ((fr_188 37 rfl).trans ((fr_167 37 rfl).trans ((fr_68 37 rfl).trans ((fr_11 37 rfl)))))
                have z_283 : 0 ≤ (fv_185 37).toInt ∧ (fv_185 37).toInt ≤ 340 := hF_fv_185 37
                have z_284 : (fv_185 38).toInt = (fv_166 38).toInt := congrArg Int32.toInt ((fr_188 38 rfl))
                have z_285 : 0 ≤ (fv_185 38).toInt ∧ (fv_185 38).toInt ≤ 340 := hF_fv_185 38
                have z_286 : (fv_185 37).toInt = (fv 37).toInt := congrArg Int32.toInt ((fr_188 37 rfl).trans ((fr_167 37 rfl).trans ((fr_68 37 rfl).trans ((fr_11 37 rfl)))))
                have z_287 : 0 ≤ (fv_185 37).toInt ∧ (fv_185 37).toInt ≤ 340 := hF_fv_185 37
                refine va_callv (va_runV (As := []) (rest := []) ⟨hx, hb, hml, hown, hts⟩ (m_goC l dC dI H.size h ad cA hd fv_185 wd_170 ar_187 hF_fv_185 hA_ar_187 (k2 + 1) (rd_hto (rd_mt_eq hm2 ((fM_call (fM_rf [] _) fr_188 (by decide)) 37 rfl) ((fM_call (fM_rf [] _) fr_188 (by decide)) 38 rfl) ((fM_call (fM_rf [] _) fr_188 (by decide)) 39 rfl) ((fM_call (fM_rf [] _) fr_188 (by decide)) 40 rfl) ((fM_call (fM_rf [] _) fr_188 (by decide)) 42 rfl) ((fM_call (fM_rf [] _) fr_188 (by decide)) 41 rfl) rfl) (by omega) (hb9.trans (congrArg rd_b (show ar_187 1 = ar 1 from ((fA_call (fA_call (fA_call (fA_put (fA_put (fA_put (fA_call (fA_rf [50, 51, 52] _) fa_12 (by decide)) ear_43 (by decide)) ear_44 (by decide)) ear_46 (by decide)) fa_69 (by decide)) fa_169 (by decide)) fa_189 (by decide)) 1 rfl)).symm))) (rd_mt_to (rd_mt_eq hm2 ((fM_call (fM_rf [] _) fr_188 (by decide)) 37 rfl) ((fM_call (fM_rf [] _) fr_188 (by decide)) 38 rfl) ((fM_call (fM_rf [] _) fr_188 (by decide)) 39 rfl) ((fM_call (fM_rf [] _) fr_188 (by decide)) 40 rfl) ((fM_call (fM_rf [] _) fr_188 (by decide)) 42 rfl) ((fM_call (fM_rf [] _) fr_188 (by decide)) 41 rfl) rfl) (by omega)).2) (cwV 0 hts (gV kw_8_60 kw_8_62 kw_p_64 kw_1_15 kw_8_63) rfl rfl rfl (by decide +kernel) ⟨Nat.le_of_ble_eq_true rfl, Nat.le_of_ble_eq_true rfl⟩) ⟨fun a U g mk q => ⟨q.1, q.2.1, q.2.2.1, va_K.moved (u := U) (U := U.calling g mk a) (Vm.Alike.refl U.vm) q.2.2.2⟩, va_recv hK hP (ci := 12) (q0 := 0) rfl rfl, fun U hU hW => ⟨rfl, by rw [hU], by rw [hU]; exact hP, va_K.moved hW.alike hK⟩⟩ rfl rfl hl.1 rfl (lv_room (Nat.le_of_ble_eq_true rfl)) dX12_readLine_206 ⟨Nat.le_of_ble_eq_true rfl, Nat.le_of_ble_eq_true rfl⟩) hS (fun q _ h9 => aM_up hS q h9) (aM_up hS) (fun u t H1 locs ht _ hw hB _ hk1 hS => ?_)
                obtain ⟨fv_292, wd_293, ar_294⟩ := u
                obtain ⟨hF_fv_292, hA_ar_294, fr_295, fa_296, p_289, p_290, p_291, -⟩ := hw
                have hP : va_P (dC, dI) vwCl (wsM h ad cA fv_292 wd_293 ar_294) H1 := by have h9 := hB.1; rw [ht] at h9; exact h9
                have fr_295 : fM [38, 39, 40, 41, 42] fv_185 fv_292 := fr_295
                have fa_296 : fA [] ar_187 ar_294 := fa_296
                have p_289 : (fv_292 39).toInt = (rd_S (rd_b (ar_187 1)) (fv_185 37).toInt.toNat (k2 + 1) : Nat) := p_289
                have p_290 : rd_st (rd_b (ar_187 1)) (fv_185 37).toInt.toNat (k2 + 1) < rd_lim ((fv_185 37).toInt.toNat) → (fv_292 38).toInt = (rd_en (rd_b (ar_187 1)) (fv_185 37).toInt.toNat ((k2 + 1) + 1) : Nat) := p_290
                have p_291 : rd_rel (rd_T (rd_b (ar_187 1)) (fv_185 37).toInt.toNat (k2 + 1)) (rd_N (rd_b (ar_187 1)) (fv_185 37).toInt.toNat (k2 + 1)) (fv_292 40) (fv_292 42) (fv_292 41) wd_293 := p_291
                generalize H1 = H at hP hS ⊢
                have m_297 : rd_mt b9 n9 (k2 + 1) (fv_292 37) (fv_292 38) (fv_292 39) (fv_292 40) (fv_292 42) (fv_292 41) wd_293 := rd_mt_go (k := k2) (rd_mt_eq hm2 ((fM_call (fM_rf [] _) fr_188 (by decide)) 37 rfl) ((fM_call (fM_rf [] _) fr_188 (by decide)) 38 rfl) ((fM_call (fM_rf [] _) fr_188 (by decide)) 39 rfl) ((fM_call (fM_rf [] _) fr_188 (by decide)) 40 rfl) ((fM_call (fM_rf [] _) fr_188 (by decide)) 42 rfl) ((fM_call (fM_rf [] _) fr_188 (by decide)) 41 rfl) rfl) (by omega) (fr_295 37 rfl) (by have h9 := p_289; rw [← (hb9.trans (congrArg rd_b (show ar_187 1 = ar 1 from ((fA_call (fA_call (fA_call (fA_put (fA_put (fA_put (fA_call (fA_rf [50, 51, 52] _) fa_12 (by decide)) ear_43 (by decide)) ear_44 (by decide)) ear_46 (by decide)) fa_69 (by decide)) fa_169 (by decide)) fa_189 (by decide)) 1 rfl)).symm)), show (fv_185 37).toInt.toNat = n9 from (by have h8 := (rd_mt_eq hm2 ((fM_call (fM_rf [] _) fr_188 (by decide)) 37 rfl) ((fM_call (fM_rf [] _) fr_188 (by decide)) 38 rfl) ((fM_call (fM_rf [] _) fr_188 (by decide)) 39 rfl) ((fM_call (fM_rf [] _) fr_188 (by decide)) 40 rfl) ((fM_call (fM_rf [] _) fr_188 (by decide)) 42 rfl) ((fM_call (fM_rf [] _) fr_188 (by decide)) 41 rfl) rfl).1; omega)] at h9; exact h9) (by have h9 := p_290; rw [← (hb9.trans (congrArg rd_b (show ar_187 1 = ar 1 from ((fA_call (fA_call (fA_call (fA_put (fA_put (fA_put (fA_call (fA_rf [50, 51, 52] _) fa_12 (by decide)) ear_43 (by decide)) ear_44 (by decide)) ear_46 (by decide)) fa_69 (by decide)) fa_169 (by decide)) fa_189 (by decide)) 1 rfl)).symm)), show (fv_185 37).toInt.toNat = n9 from (by have h8 := (rd_mt_eq hm2 ((fM_call (fM_rf [] _) fr_188 (by decide)) 37 rfl) ((fM_call (fM_rf [] _) fr_188 (by decide)) 38 rfl) ((fM_call (fM_rf [] _) fr_188 (by decide)) 39 rfl) ((fM_call (fM_rf [] _) fr_188 (by decide)) 40 rfl) ((fM_call (fM_rf [] _) fr_188 (by decide)) 42 rfl) ((fM_call (fM_rf [] _) fr_188 (by decide)) 41 rfl) rfl).1; omega)] at h9; exact h9) (by have h9 := p_291; rw [← (hb9.trans (congrArg rd_b (show ar_187 1 = ar 1 from ((fA_call (fA_call (fA_call (fA_put (fA_put (fA_put (fA_call (fA_rf [50, 51, 52] _) fa_12 (by decide)) ear_43 (by decide)) ear_44 (by decide)) ear_46 (by decide)) fa_69 (by decide)) fa_169 (by decide)) fa_189 (by decide)) 1 rfl)).symm)), show (fv_185 37).toInt.toNat = n9 from (by have h8 := (rd_mt_eq hm2 ((fM_call (fM_rf [] _) fr_188 (by decide)) 37 rfl) ((fM_call (fM_rf [] _) fr_188 (by decide)) 38 rfl) ((fM_call (fM_rf [] _) fr_188 (by decide)) 39 rfl) ((fM_call (fM_rf [] _) fr_188 (by decide)) 40 rfl) ((fM_call (fM_rf [] _) fr_188 (by decide)) 42 rfl) ((fM_call (fM_rf [] _) fr_188 (by decide)) 41 rfl) rfl).1; omega)] at h9; exact h9)
                have k_298 := rd_mt_k m_297
                refine lv_aload_n hx hb dX12_readLine_209 rfl (lv_at hl 0 rfl) ?_
                have z_299 : (fv_292 59).toInt = (fv 59).toInt := congrArg Int32.toInt ((fr_295 59 rfl).trans ((fr_188 59 rfl).trans ((fr_167 59 rfl).trans ((fr_68 59 rfl).trans ((fr_11 59 rfl))))))
                have z_300 : 0 ≤ (fv_292 59).toInt ∧ (fv_292 59).toInt ≤ 16 := hF_fv_292 59
                have z_301 : (fv_292 60).toInt = (fv 60).toInt := congrArg Int32.toInt ((fr_295 60 rfl).trans ((fr_188 60 rfl).trans ((fr_167 60 rfl).trans ((fr_68 60 rfl).trans ((fr_11 60 rfl))))))
                have z_302 : 0 ≤ (fv_292 60).toInt ∧ (fv_292 60).toInt ≤ 120 := hF_fv_292 60
                have z_303 : (fv_292 62).toInt = (fv 62).toInt := congrArg Int32.toInt ((fr_295 62 rfl).trans ((fr_188 62 rfl).trans ((fr_167 62 rfl).trans ((fr_68 62 rfl).trans ((fr_11 62 rfl))))))
                have z_304 : 0 ≤ (fv_292 62).toInt ∧ (fv_292 62).toInt ≤ 50 := hF_fv_292 62
                have z_305 : (fv_292 63).toInt = (fv 63).toInt := congrArg Int32.toInt ((fr_295 63 rfl).trans ((fr_188 63 rfl).trans ((fr_167 63 rfl).trans ((fr_68 63 rfl).trans ((fr_11 63 rfl))))))
                have z_306 : (-100) ≤ (fv_292 63).toInt ∧ (fv_292 63).toInt ≤ 10 := hF_fv_292 63
                have z_307 : (fv_292 60).toInt = (fv 60).toInt := congrArg Int32.toInt ((fr_295 60 rfl).trans ((fr_188 60 rfl).trans ((fr_167 60 rfl).trans ((fr_68 60 rfl).trans ((fr_11 60 rfl))))))
                have z_308 : 0 ≤ (fv_292 60).toInt ∧ (fv_292 60).toInt ≤ 120 := hF_fv_292 60
                have z_309 : (fv_292 62).toInt = (fv 62).toInt := congrArg Int32.toInt ((fr_295 62 rfl).trans ((fr_188 62 rfl).trans ((fr_167 62 rfl).trans ((fr_68 62 rfl).trans ((fr_11 62 rfl))))))
                have z_310 : 0 ≤ (fv_292 62).toInt ∧ (fv_292 62).toInt ≤ 50 := hF_fv_292 62
                have z_311 : (fv_292 62).toInt = (fv 62).toInt := congrArg Int32.toInt ((fr_295 62 rfl).trans ((fr_188 62 rfl).trans ((fr_167 62 rfl).trans ((fr_68 62 rfl).trans ((fr_11 62 rfl))))))
                have z_312 : 0 ≤ (fv_292 62).toInt ∧ (fv_292 62).toInt ≤ 50 := hF_fv_292 62
                have z_313 : (fv_292 63).toInt = (fv 63).toInt := congrArg Int32.toInt ((fr_295 63 rfl).trans ((fr_188 63 rfl).trans ((fr_167 63 rfl).trans ((fr_68 63 rfl).trans ((fr_11 63 rfl))))))
                have z_314 : (-100) ≤ (fv_292 63).toInt ∧ (fv_292 63).toInt ≤ 10 := hF_fv_292 63
                have z_315 : (fv_292 37).toInt = (fv 37).toInt := congrArg Int32.toInt ((fr_295 37 rfl).trans ((fr_188 37 rfl).trans ((fr_167 37 rfl).trans ((fr_68 37 rfl).trans ((fr_11 37 rfl))))))
                have z_316 : 0 ≤ (fv_292 37).toInt ∧ (fv_292 37).toInt ≤ 340 := hF_fv_292 37
                have z_317 : 0 ≤ (fv_292 38).toInt ∧ (fv_292 38).toInt ≤ 340 := hF_fv_292 38
                have z_318 : 0 ≤ (fv_292 39).toInt ∧ (fv_292 39).toInt ≤ 340 := hF_fv_292 39
                have z_319 : (fv_292 63).toInt = (fv 63).toInt := congrArg Int32.toInt ((fr_295 63 rfl).trans ((fr_188 63 rfl).trans ((fr_167 63 rfl).trans ((fr_68 63 rfl).trans ((fr_11 63 rfl))))))
                have z_320 : (-100) ≤ (fv_292 63).toInt ∧ (fv_292 63).toInt ≤ 10 := hF_fv_292 63
                refine va_calli (va_runV (As := []) (rest := []) ⟨hx, hb, hml, hown, hts⟩ (m_readCondC l dC dI H.size h ad cA hd fv_292 wd_293 ar_294 hF_fv_292 hA_ar_294 b9 n9 (k2 + 1) (by omega) (by omega) (hb9.trans (congrArg rd_b (show ar_294 1 = ar 1 from ((fA_call (fA_call (fA_call (fA_call (fA_put (fA_put (fA_put (fA_call (fA_rf [50, 51, 52] _) fa_12 (by decide)) ear_43 (by decide)) ear_44 (by decide)) ear_46 (by decide)) fa_69 (by decide)) fa_169 (by decide)) fa_189 (by decide)) fa_296 (by decide)) 1 rfl)).symm)) m_297 (by omega) (vM_fr hp_172 (fM_call (fM_call (fM_rf [38, 39, 40, 41, 42] _) fr_188 (by decide)) fr_295 (by decide)) (fA_call (fA_call (fA_rf [] _) fa_189 (by decide)) fa_296 (by decide)) rfl rfl rfl rfl rfl)) (cwV 0 hts (gV kw_8_102 kw_8_104 kw_p_71 kw_1_15 kw_8_105) rfl rfl rfl (by decide +kernel) ⟨Nat.le_of_ble_eq_true rfl, Nat.le_of_ble_eq_true rfl⟩) ⟨fun a U g mk q => ⟨q.1, q.2.1, q.2.2.1, va_K.moved (u := U) (U := U.calling g mk a) (Vm.Alike.refl U.vm) q.2.2.2⟩, va_recv hK hP (ci := 12) (q0 := 0) rfl rfl, fun U hU hW => ⟨rfl, by rw [hU], by rw [hU]; exact hP, va_K.moved hW.alike hK⟩⟩ rfl rfl hl.1 rfl (lv_room (Nat.le_of_ble_eq_true rfl)) dX12_readLine_210 ⟨Nat.le_of_ble_eq_true rfl, Nat.le_of_ble_eq_true rfl⟩) hS (fun q _ h9 => aM_up hS q h9) (aM_up hS) (fun r_321 u t H1 locs ht _ hw hB _ hk1 hS => ?_)
                obtain ⟨fv_325, wd_326, ar_327⟩ := u
                obtain ⟨hF_fv_325, hA_ar_327, fr_328, fa_329, p_322, p_323, p_324, -⟩ := hw
                have hP : va_P (dC, dI) vwCl (wsM h ad cA fv_325 wd_326 ar_327) H1 := by have h9 := hB.1; rw [ht] at h9; exact h9
                have fr_328 : fM [38, 39, 40, 41, 42, 43, 44, 60, 61, 62, 63] fv_292 fv_325 := fr_328
                have fa_329 : fA [54, 55, 56, 57] ar_294 ar_327 := fa_329
                have p_324 : vM fv_325 ar_327 := p_324
                generalize H1 = H at hP hS ⊢
                rcases p_323 with ⟨rfl, p_323⟩ | ⟨rfl, p_323⟩
                · skip
                  have q_330 : 0 < (fv_325 43).toInt ∧ ∃ q o2, rd_m (rd_T b9 n9) 0 (k2 + 1) ((fv_292 62).toInt.toNat) [] = ((fv_325 43).toInt.toNat, q, o2) ∧ (fv_325 44).toInt = (rd_S b9 n9 q : Nat) := p_323
                  refine lv_if_ne (tgt := 218) hx hb dX12_readLine_213 (by decide) (fun c_331 => ?_) (fun c_331 => ?_)
                  · skip
                    exact absurd c_331 (by decide)
                  · skip
                    refine lv_iconst (v := 0) hx hb dX12_readLine_216 (by decide) ?_
                    exact W.zret (v := 0) hx hb hr (by decide) (fun t ht hW => ⟨⟨0, (fv_325, wd_326, ar_327), rfl, ⟨hF_fv_325, hA_ar_327, (fM_call (fM_call (fM_call (fM_call (fM_call (fM_call (fM_rf [38, 39, 40, 41, 42, 43, 44, 45, 59, 60, 61, 62, 63] _) fr_11 (by decide)) fr_68 (by decide)) fr_167 (by decide)) fr_188 (by decide)) fr_295 (by decide)) fr_328 (by decide)), (fA_call (fA_call (fA_call (fA_call (fA_call (fA_put (fA_put (fA_put (fA_call (fA_rf [48, 50, 51, 52, 53, 54, 55, 56, 57] _) fa_12 (by decide)) ear_43 (by decide)) ear_44 (by decide)) ear_46 (by decide)) fa_69 (by decide)) fa_169 (by decide)) fa_189 (by decide)) fa_296 (by decide)) fa_329 (by decide)), (iv_w (⟨by decide, by decide⟩ : (0 : Int) ≤ (0 : Int32).toInt ∧ (0 : Int32).toInt ≤ 0) (by decide) (by decide)), (Or.inl ⟨rfl, (show (0 < (fv_325 43).toInt ∧ (rd_ln (rd_T b9 n9) (rd_N b9 n9) k9 ((fv 62).toInt.toNat) ((fv 59).toInt.toNat) (decide ((fv 45).toInt = 1))).1 = (fv_325 43).toInt.toNat ∧ (fv_325 44).toInt = (rd_S b9 n9 (rd_ln (rd_T b9 n9) (rd_N b9 n9) k9 ((fv 62).toInt.toNat) ((fv 59).toInt.toNat) (decide ((fv 45).toInt = 1))).2.1 : Nat)) from (by have : (fv_325 59).toInt = (fv 59).toInt := congrArg Int32.toInt ((fr_328 59 rfl).trans ((fr_295 59 rfl).trans ((fr_188 59 rfl).trans ((fr_167 59 rfl).trans ((fr_68 59 rfl).trans ((fr_11 59 rfl))))))); have : (fv_325 45).toInt = (fv 45).toInt := congrArg Int32.toInt ((fr_328 45 rfl).trans ((fr_295 45 rfl).trans ((fr_188 45 rfl).trans ((fr_167 45 rfl).trans ((fr_68 45 rfl).trans ((fr_11 45 rfl))))))); have : (fv_292 59).toInt = (fv 59).toInt := congrArg Int32.toInt ((fM_call (fM_call (fM_call (fM_call (fM_call (fM_rf [38, 39, 40, 41, 42] _) fr_11 (by decide)) fr_68 (by decide)) fr_167 (by decide)) fr_188 (by decide)) fr_295 (by decide)) 59 rfl); have : (fv_292 62).toInt = (fv 62).toInt := congrArg Int32.toInt ((fM_call (fM_call (fM_call (fM_call (fM_call (fM_rf [38, 39, 40, 41, 42] _) fr_11 (by decide)) fr_68 (by decide)) fr_167 (by decide)) fr_188 (by decide)) fr_295 (by decide)) 62 rfl); have : (fv_292 63).toInt = (fv 63).toInt := congrArg Int32.toInt ((fM_call (fM_call (fM_call (fM_call (fM_call (fM_rf [38, 39, 40, 41, 42] _) fr_11 (by decide)) fr_68 (by decide)) fr_167 (by decide)) fr_188 (by decide)) fr_295 (by decide)) 63 rfl); have : (fv_292 45).toInt = (fv 45).toInt := congrArg Int32.toInt ((fM_call (fM_call (fM_call (fM_call (fM_call (fM_rf [38, 39, 40, 41, 42] _) fr_11 (by decide)) fr_68 (by decide)) fr_167 (by decide)) fr_188 (by decide)) fr_295 (by decide)) 45 rfl); obtain ⟨a9, q, o2, e8, c9⟩ := q_330; have hE : rd_ln (rd_T b9 n9) (rd_N b9 n9) k9 ((fv 62).toInt.toNat) ((fv 59).toInt.toNat) (decide ((fv 45).toInt = 1)) = (_, q, o2) := (by rw [hA, rd_l2_if (by omega) (by omega), show (fv 62).toInt.toNat = (fv_292 62).toInt.toNat from (by omega)]; exact (congrArg (rd_l3 (rd_T b9 n9)) e8).trans (rd_l3_f (by omega))); exact ⟨a9, by rw [hE], by rw [hE]; exact c9⟩))⟩), p_324, trivial⟩, ⟨by rw [ht]; exact hP, va_K.moved hW.alike hK⟩⟩, hS.F ht⟩) hS.2.2 dX12_readLine_217
                · skip
                  have q_332 : vP (ar_327 54) (1200 + (fv_292 60).toInt.toNat) (1200 + (fv_325 60).toInt.toNat) := p_323.1
                  have q_333 : pK (1200 + (fv_292 60).toInt.toNat) (ar_294 54) (ar_327 54) := p_323.2.1
                  have q_334 : (fv_292 60).toInt ≤ (fv_325 60).toInt := p_323.2.2.1
                  have q_335 : (fv_325 60).toInt ≤ 2 * (fv_325 62).toInt := p_323.2.2.2.1
                  have q_336 : 0 ≤ (fv_325 63).toInt + (fv_325 62).toInt := p_323.2.2.2.2.1
                  have q_337 : ∃ k1 : Nat, rd_mt b9 n9 k1 (fv_325 37) (fv_325 38) (fv_325 39) (fv_325 40) (fv_325 42) (fv_325 41) wd_326 ∧ rd_m (rd_T b9 n9) 0 (k2 + 1) ((fv_292 62).toInt.toNat) [] = (0, k1, (fv_325 62).toInt.toNat) ∧ (fv_325 63).toInt = 0 ∧ fv_325 43 = fv_292 43 := p_323.2.2.2.2.2
                  have z_338 : (fv_325 59).toInt = (fv 59).toInt := congrArg Int32.toInt ((fr_328 59 rfl).trans ((fr_295 59 rfl).trans ((fr_188 59 rfl).trans ((fr_167 59 rfl).trans ((fr_68 59 rfl).trans ((fr_11 59 rfl)))))))
                  have z_339 : 0 ≤ (fv_325 59).toInt ∧ (fv_325 59).toInt ≤ 16 := hF_fv_325 59
                  have z_340 : 0 ≤ (fv_325 60).toInt ∧ (fv_325 60).toInt ≤ 120 := hF_fv_325 60
                  have z_341 : 0 ≤ (fv_325 62).toInt ∧ (fv_325 62).toInt ≤ 50 := hF_fv_325 62
                  have z_342 : (-100) ≤ (fv_325 63).toInt ∧ (fv_325 63).toInt ≤ 10 := hF_fv_325 63
                  have hp_343 : rL fv_325 ar_327 := rL_cond (rL_fr hp_171 (fM_call (fM_call (fM_rf [38, 39, 40, 41, 42] _) fr_188 (by decide)) fr_295 (by decide)) (fA_call (fA_call (fA_rf [] _) fa_189 (by decide)) fa_296 (by decide)) rfl rfl rfl rfl rfl) hA_ar_294 ((fM_call (fM_rf [38, 39, 40, 41, 42, 43, 44, 60, 61, 62, 63] _) fr_328 (by decide)) 59 rfl) (by omega) ((fA_call (fA_rf [54, 55, 56, 57] _) fa_329 (by decide)) 52 rfl) ((fA_call (fA_rf [54, 55, 56, 57] _) fa_329 (by decide)) 53 rfl) q_333
                  refine lv_if_ne (tgt := 218) hx hb dX12_readLine_213 (by decide) (fun c_344 => ?_) (fun c_344 => ?_)
                  · skip
                    obtain ⟨kc, mc9, ec9, wc9, fc9⟩ := q_337
                    have hk4c := rd_mt_k mc9
                    have z_345 : 0 ≤ (fv_325 62).toInt ∧ (fv_325 62).toInt ≤ 50 := hF_fv_325 62
                    have hC : rd_ln (rd_T b9 n9) (rd_N b9 n9) k9 ((fv 62).toInt.toNat) ((fv 59).toInt.toNat) (decide ((fv 45).toInt = 1)) = rd_l3 (rd_T b9 n9) (0, kc, (fv_325 62).toInt.toNat) := (by have : (fv_325 59).toInt = (fv 59).toInt := congrArg Int32.toInt ((fr_328 59 rfl).trans ((fr_295 59 rfl).trans ((fr_188 59 rfl).trans ((fr_167 59 rfl).trans ((fr_68 59 rfl).trans ((fr_11 59 rfl))))))); have : (fv_325 45).toInt = (fv 45).toInt := congrArg Int32.toInt ((fr_328 45 rfl).trans ((fr_295 45 rfl).trans ((fr_188 45 rfl).trans ((fr_167 45 rfl).trans ((fr_68 45 rfl).trans ((fr_11 45 rfl))))))); have : (fv_292 59).toInt = (fv 59).toInt := congrArg Int32.toInt ((fM_call (fM_call (fM_call (fM_call (fM_call (fM_rf [38, 39, 40, 41, 42] _) fr_11 (by decide)) fr_68 (by decide)) fr_167 (by decide)) fr_188 (by decide)) fr_295 (by decide)) 59 rfl); have : (fv_292 62).toInt = (fv 62).toInt := congrArg Int32.toInt ((fM_call (fM_call (fM_call (fM_call (fM_call (fM_rf [38, 39, 40, 41, 42] _) fr_11 (by decide)) fr_68 (by decide)) fr_167 (by decide)) fr_188 (by decide)) fr_295 (by decide)) 62 rfl); have : (fv_292 63).toInt = (fv 63).toInt := congrArg Int32.toInt ((fM_call (fM_call (fM_call (fM_call (fM_call (fM_rf [38, 39, 40, 41, 42] _) fr_11 (by decide)) fr_68 (by decide)) fr_167 (by decide)) fr_188 (by decide)) fr_295 (by decide)) 63 rfl); have : (fv_292 45).toInt = (fv 45).toInt := congrArg Int32.toInt ((fM_call (fM_call (fM_call (fM_call (fM_call (fM_rf [38, 39, 40, 41, 42] _) fr_11 (by decide)) fr_68 (by decide)) fr_167 (by decide)) fr_188 (by decide)) fr_295 (by decide)) 45 rfl); rw [hA, rd_l2_if (by omega) (by omega), show (fv 62).toInt.toNat = (fv_292 62).toInt.toNat from (by omega)]; exact congrArg (rd_l3 (rd_T b9 n9)) ec9)
                    have z_346 : (fv_325 59).toInt = (fv 59).toInt := congrArg Int32.toInt ((fr_328 59 rfl).trans ((fr_295 59 rfl).trans ((fr_188 59 rfl).trans ((fr_167 59 rfl).trans ((fr_68 59 rfl).trans ((fr_11 59 rfl)))))))
                    have z_347 : 0 ≤ (fv_325 59).toInt ∧ (fv_325 59).toInt ≤ 16 := hF_fv_325 59
                    have z_348 : 0 ≤ (fv_325 60).toInt ∧ (fv_325 60).toInt ≤ 120 := hF_fv_325 60
                    have z_349 : 0 ≤ (fv_325 62).toInt ∧ (fv_325 62).toInt ≤ 50 := hF_fv_325 62
                    have z_350 : (-100) ≤ (fv_325 63).toInt ∧ (fv_325 63).toInt ≤ 10 := hF_fv_325 63
                    have q_351 : vP (ar_327 54) (1200 + (fv 60).toInt.toNat) (1200 + (fv_325 60).toInt.toNat) := (by have h9 := q_332; rw [show (fv_292 60).toInt.toNat = (fv 60).toInt.toNat from by omega] at h9; exact h9)
                    have q_352 : (fv_325 60).toInt ≤ 2 * (fv_325 62).toInt := (by omega)
                    have q_353 : 0 ≤ (fv_325 63).toInt + (fv_325 62).toInt := (by omega)
                    refine lv_aload_n hx hb dX12_readLine_218 rfl (lv_at hl 0 rfl) ?_
                    refine gM_53 hx hb htg hown hK hP dX12_readLine_219 ?_
                    refine lv_iload_n hx hb dX12_readLine_222 rfl (lv_at hl 2 rfl) ?_
                    refine lv_aload_n hx hb dX12_readLine_223 rfl (lv_at hl 0 rfl) ?_
                    refine gM_60 hx hb htg hown hK hP dX12_readLine_224 ?_
                    have i_354 : 0 ≤ (fv_325 60).toInt ∧ (fv_325 60).toInt ≤ 120 := hF_fv_325 60
                    refine sM_53 hx hb hK hP hS hd (iv_in t_41.2 (by decide) (by decide)) dX12_readLine_227 (fun H locs ar_355 ear_355 hP hS => ?_)
                    have hA_ar_355 : rA ar_355 := rA_put hA_ar_327 ear_355 i_354
                    have hp_356 : vM fv_325 ar_355 := vM_53 p_324 hA_ar_327 ear_355 (by have h58 : (0 : Int) ≤ (fv_325 58).toInt ∧ (fv_325 58).toInt ≤ 10 := hF_fv_325 58; have h57 : (fv_325 58).toInt = (fv 58).toInt := congrArg Int32.toInt ((fr_328 58 rfl).trans ((fr_295 58 rfl).trans ((fr_188 58 rfl).trans ((fr_167 58 rfl).trans ((fr_68 58 rfl).trans ((fr_11 58 rfl))))))); show _ ≤ ((v_40.toInt.toNat : Nat) : Int); omega)
                    have hp_357 : rL fv_325 ar_355 := rL_53 hp_343 ear_355 (by have h57 : (fv_325 59).toInt = (fv 59).toInt := congrArg Int32.toInt ((fr_328 59 rfl).trans ((fr_295 59 rfl).trans ((fr_188 59 rfl).trans ((fr_167 59 rfl).trans ((fr_68 59 rfl).trans ((fr_11 59 rfl))))))); show ((v_40.toInt.toNat : Nat) : Int) < 160 ∨ _ ≤ ((v_40.toInt.toNat : Nat) : Int); omega)
                    refine lv_aload_n hx hb dX12_readLine_228 rfl (lv_at hl 0 rfl) ?_
                    refine lv_dup hx hb dX12_readLine_229 rfl ?_
                    refine gM_59 hx hb htg hown hK hP dX12_readLine_230 ?_
                    refine my_ti (y := fv 59) ((fr_328 59 rfl).trans ((fr_295 59 rfl).trans ((fr_188 59 rfl).trans ((fr_167 59 rfl).trans ((fr_68 59 rfl).trans ((fr_11 59 rfl))))))) ?_
                    refine lv_iconst (v := 1) hx hb dX12_readLine_233 (by decide) ?_
                    refine lv_iadd hx hb dX12_readLine_234 ?_
                    refine lv_topi (fun v_358 ev_358 => ?_)
                    have t_359 : v_358.toInt = (fv 59).toInt + 1 ∧ 1 ≤ v_358.toInt ∧ v_358.toInt ≤ 16 := iv_addc ev_358 i_35 (by decide) (by decide) (by decide)
                    refine pM_59 hx hb htg hown hK hP hS hd dX12_readLine_235 (fun H locs fv_361 efv_361 hP hS => ?_)
                    have hF_fv_361 : rF fv_361 := rF_put hF_fv_325 efv_361 (iv_w t_359.2 (by decide) (by decide))
                    have z_362 : (fv_361 59).toInt = v_358.toInt := congrArg Int32.toInt ((congrFun efv_361 59))
                    have z_363 : 0 ≤ (fv_361 59).toInt ∧ (fv_361 59).toInt ≤ 16 := hF_fv_361 59
                    have z_364 : (fv_361 60).toInt = (fv_325 60).toInt := congrArg Int32.toInt ((congrFun efv_361 60))
                    have z_365 : 0 ≤ (fv_361 60).toInt ∧ (fv_361 60).toInt ≤ 120 := hF_fv_361 60
                    have z_366 : (fv_361 62).toInt = (fv_325 62).toInt := congrArg Int32.toInt ((congrFun efv_361 62))
                    have z_367 : 0 ≤ (fv_361 62).toInt ∧ (fv_361 62).toInt ≤ 50 := hF_fv_361 62
                    have z_368 : (fv_361 63).toInt = (fv_325 63).toInt := congrArg Int32.toInt ((congrFun efv_361 63))
                    have z_369 : (-100) ≤ (fv_361 63).toInt ∧ (fv_361 63).toInt ≤ 10 := hF_fv_361 63
                    have g_370 : ar_355 53 = upd (ar_327 53) (v_40.toInt.toNat) (fv_325 60) := by rw [ear_355]; rfl
                    have g_371 : ar_327 52 (160 + (fv_325 59).toInt.toNat) = (fv 60) := by rw [((fA_call (fA_call (fA_call (fA_call (fA_call (fA_rf [51, 54, 55, 56, 57] _) fa_69 (by decide)) fa_169 (by decide)) fa_189 (by decide)) fa_296 (by decide)) fa_329 (by decide)) 52 rfl), ear_46]; show upd _ (v_40.toInt.toNat) _ _ = _; rw [show v_40.toInt.toNat = 160 + (fv_325 59).toInt.toNat from by omega]; exact up_eq
                    have hp_372 : rL fv_361 ar_355 := rL_add (i := v_40.toInt.toNat) (x := (fv_325 60)) hp_343 (by omega) (by omega) (by omega) ((fA_put (fA_rf [53] _) ear_355 (by decide)) 54 rfl) ((fA_put (fA_rf [53] _) ear_355 (by decide)) 52 rfl) (by rw [g_370]) (by omega) (by omega) (by rw [g_371]; exact q_351)
                    refine lv_aload_n hx hb dX12_readLine_238 rfl (lv_at hl 0 rfl) ?_
                    refine lv_bipush (v := 59) hx hb dX12_readLine_239 (by decide) ?_
                    have z_373 : (fv_361 40).toInt = (fv_325 40).toInt := congrArg Int32.toInt ((congrFun efv_361 40))
                    have z_374 : (fv_361 42).toInt = (fv_325 42).toInt := congrArg Int32.toInt ((congrFun efv_361 42))
                    refine va_calli (va_runV (As := [.int 59]) (rest := []) ⟨hx, hb, hml, hown, hts⟩ (m_isSignC l dC dI H.size h ad cA hd fv_361 wd_326 ar_355 hF_fv_361 hA_ar_355 59) (cwV 1 hts (gV kw_8_117 kw_8_119 kw_p_74 kw_1_15 kw_8_120) rfl rfl rfl (by decide +kernel) ⟨Nat.le_of_ble_eq_true rfl, Nat.le_of_ble_eq_true rfl⟩) ⟨fun a U g mk q => ⟨q.1, q.2.1, q.2.2.1, va_K.moved (u := U) (U := U.calling g mk a) (Vm.Alike.refl U.vm) q.2.2.2⟩, va_recv hK hP (ci := 12) (q0 := 0) rfl rfl, fun U hU hW => ⟨rfl, by rw [hU], by rw [hU]; exact hP, va_K.moved hW.alike hK⟩⟩ rfl rfl hl.1 rfl (lv_room (Nat.le_of_ble_eq_true rfl)) dX12_readLine_241 ⟨Nat.le_of_ble_eq_true rfl, Nat.le_of_ble_eq_true rfl⟩) hS (fun q _ h9 => aM_up hS q h9) (aM_up hS) (fun r_375 u t H1 locs ht _ hw hB _ hk1 hS => ?_)
                    obtain ⟨fv_379, wd_380, ar_381⟩ := u
                    obtain ⟨hF_fv_379, hA_ar_381, fr_382, fa_383, p_376, p_377, p_378, -⟩ := hw
                    have hP : va_P (dC, dI) vwCl (wsM h ad cA fv_379 wd_380 ar_381) H1 := by have h9 := hB.1; rw [ht] at h9; exact h9
                    have fr_382 : fM [] fv_361 fv_379 := fr_382
                    have fa_383 : fA [] ar_355 ar_381 := fa_383
                    have p_377 : wd_380 = wd_326 := p_377
                    have p_378 : (r_375 = 1 ∧ (fv_361 40).toInt = 4 ∧ (fv_361 42).toInt = (59 : Int32).toInt) ∨ (r_375 = 0 ∧ ¬ ((fv_361 40).toInt = 4 ∧ (fv_361 42).toInt = (59 : Int32).toInt)) := p_378
                    generalize H1 = H at hP hS ⊢
                    rw [p_377] at hP
                    have k_384 : (r_375.toInt = 1 ∧ rd_T b9 n9 kc = 26) ∨ (r_375.toInt = 0 ∧ ¬ rd_T b9 n9 kc = 26) := by have h7 : (0 : Int32).toInt = 0 := (by decide); have h6 : (1 : Int32).toInt = 1 := (by decide); have hk9 := rd_sgn (rd_rel_eq mc9.2.2.1 ((fM_put (fM_rf [59] _) efv_361 (by decide)) 40 rfl) ((fM_put (fM_rf [59] _) efv_361 (by decide)) 42 rfl) ((fM_put (fM_rf [59] _) efv_361 (by decide)) 41 rfl) rfl) (a := 59) (j := 26) (by decide) (by decide); rcases p_378 with ⟨a9, b9⟩ | ⟨a9, b9⟩; exact Or.inl ⟨by rw [a9]; exact h6, hk9.mp b9⟩; exact Or.inr ⟨by rw [a9]; exact h7, fun w => b9 (hk9.mpr w)⟩
                    clear p_378
                    refine lv_if_ne (tgt := 255) hx hb dX12_readLine_244 (by decide) (fun c_385 => ?_) (fun c_385 => ?_)
                    · skip
                      have i_386 : 1 ≤ r_375.toInt ∧ r_375.toInt ≤ 1 := iv_nel p_376 (by decide) c_385
                      have k_388 : rd_T b9 n9 kc = 26 := by omega
                      clear k_384
                      refine lv_iconst (v := 1) hx hb dX12_readLine_255 (by decide) ?_
                      refine lv_goto (tgt := 260) hx hb dX12_readLine_256 (by decide) ?_
                      have z_389 : (fv_379 59).toInt = v_358.toInt := congrArg Int32.toInt ((fr_382 59 rfl).trans ((congrFun efv_361 59)))
                      have z_390 : 0 ≤ (fv_379 59).toInt ∧ (fv_379 59).toInt ≤ 16 := hF_fv_379 59
                      have z_391 : (fv_379 60).toInt = (fv_325 60).toInt := congrArg Int32.toInt ((fr_382 60 rfl).trans ((congrFun efv_361 60)))
                      have z_392 : 0 ≤ (fv_379 60).toInt ∧ (fv_379 60).toInt ≤ 120 := hF_fv_379 60
                      have z_393 : (fv_379 62).toInt = (fv_325 62).toInt := congrArg Int32.toInt ((fr_382 62 rfl).trans ((congrFun efv_361 62)))
                      have z_394 : 0 ≤ (fv_379 62).toInt ∧ (fv_379 62).toInt ≤ 50 := hF_fv_379 62
                      have z_395 : (fv_379 63).toInt = (fv_325 63).toInt := congrArg Int32.toInt ((fr_382 63 rfl).trans ((congrFun efv_361 63)))
                      have z_396 : (-100) ≤ (fv_379 63).toInt ∧ (fv_379 63).toInt ≤ 10 := hF_fv_379 63
                      exact W.zret (v := 1) hx hb hr (by decide) (fun t ht hW => ⟨⟨1, (fv_379, wd_326, ar_381), rfl, ⟨hF_fv_379, hA_ar_381, (fM_call (fM_put (fM_call (fM_call (fM_call (fM_call (fM_call (fM_call (fM_rf [38, 39, 40, 41, 42, 43, 44, 45, 59, 60, 61, 62, 63] _) fr_11 (by decide)) fr_68 (by decide)) fr_167 (by decide)) fr_188 (by decide)) fr_295 (by decide)) fr_328 (by decide)) efv_361 (by decide)) fr_382 (by decide)), (fA_call (fA_put (fA_call (fA_call (fA_call (fA_call (fA_call (fA_put (fA_put (fA_put (fA_call (fA_rf [48, 50, 51, 52, 53, 54, 55, 56, 57] _) fa_12 (by decide)) ear_43 (by decide)) ear_44 (by decide)) ear_46 (by decide)) fa_69 (by decide)) fa_169 (by decide)) fa_189 (by decide)) fa_296 (by decide)) fa_329 (by decide)) ear_355 (by decide)) fa_383 (by decide)), (iv_w (⟨by decide, by decide⟩ : (1 : Int) ≤ (1 : Int32).toInt ∧ (1 : Int32).toInt ≤ 1) (by decide) (by decide)), (Or.inr (⟨rfl, (show (rL fv_379 ar_381) ∧ ((fv_379 60).toInt ≤ 2 * (fv_379 62).toInt) ∧ (0 ≤ (fv_379 63).toInt + (fv_379 62).toInt) ∧ ((fv_379 59).toInt = (fv 59).toInt + 1) ∧ (∃ k1 : Nat, rd_mt b9 n9 k1 (fv_379 37) (fv_379 38) (fv_379 39) (fv_379 40) (fv_379 42) (fv_379 41) wd_326 ∧ rd_T b9 n9 k1 = 26 ∧ rd_ln (rd_T b9 n9) (rd_N b9 n9) k9 ((fv 62).toInt.toNat) ((fv 59).toInt.toNat) (decide ((fv 45).toInt = 1)) = (0, k1 + 1, (fv_379 62).toInt.toNat) ∧ (fv_379 63).toInt = 0 ∧ ((fv_379 45).toInt = 1 ↔ ((fv 45).toInt = 1 ∨ rd_T b9 n9 k9 = 6)) ∧ ((fv_379 45).toInt = 0 ∨ (fv_379 45).toInt = 1) ∧ fv_379 43 = fv 43) from ⟨(rL_fr hp_372 (fM_call (fM_rf [] _) fr_382 (by decide)) (fA_call (fA_rf [] _) fa_383 (by decide)) rfl rfl rfl rfl rfl), show (fv_379 60).toInt ≤ 2 * (fv_379 62).toInt from by omega, show 0 ≤ (fv_379 63).toInt + (fv_379 62).toInt from by omega, show (fv_379 59).toInt = (fv 59).toInt + 1 from by omega, (by have : (fv_379 59).toInt = (v_358).toInt := congrArg Int32.toInt ((fr_382 59 rfl).trans ((congrFun efv_361 59))); have : (fv_379 62).toInt = (fv_325 62).toInt := congrArg Int32.toInt ((fr_382 62 rfl).trans ((congrFun efv_361 62))); have : (fv_379 63).toInt = (fv_325 63).toInt := congrArg Int32.toInt ((fr_382 63 rfl).trans ((congrFun efv_361 63))); have : (fv_379 45).toInt = (fv 45).toInt := congrArg Int32.toInt ((fr_382 45 rfl).trans ((congrFun efv_361 45).trans ((fr_328 45 rfl).trans ((fr_295 45 rfl).trans ((fr_188 45 rfl).trans ((fr_167 45 rfl).trans ((fr_68 45 rfl).trans ((fr_11 45 rfl))))))))); have : (fv_292 59).toInt = (fv 59).toInt := congrArg Int32.toInt ((fM_call (fM_call (fM_call (fM_call (fM_call (fM_rf [38, 39, 40, 41, 42] _) fr_11 (by decide)) fr_68 (by decide)) fr_167 (by decide)) fr_188 (by decide)) fr_295 (by decide)) 59 rfl); have : (fv_292 62).toInt = (fv 62).toInt := congrArg Int32.toInt ((fM_call (fM_call (fM_call (fM_call (fM_call (fM_rf [38, 39, 40, 41, 42] _) fr_11 (by decide)) fr_68 (by decide)) fr_167 (by decide)) fr_188 (by decide)) fr_295 (by decide)) 62 rfl); have : (fv_292 63).toInt = (fv 63).toInt := congrArg Int32.toInt ((fM_call (fM_call (fM_call (fM_call (fM_call (fM_rf [38, 39, 40, 41, 42] _) fr_11 (by decide)) fr_68 (by decide)) fr_167 (by decide)) fr_188 (by decide)) fr_295 (by decide)) 63 rfl); have : (fv_292 45).toInt = (fv 45).toInt := congrArg Int32.toInt ((fM_call (fM_call (fM_call (fM_call (fM_call (fM_rf [38, 39, 40, 41, 42] _) fr_11 (by decide)) fr_68 (by decide)) fr_167 (by decide)) fr_188 (by decide)) fr_295 (by decide)) 45 rfl); have hq9 : (fv_166 45).toInt = 1 ↔ ((fv 45).toInt = 1 ∨ rd_T b9 n9 k9 = 6) := q_174; have hq8 : (fv_166 45).toInt = 0 ∨ (fv_166 45).toInt = 1 := q_175; exact ⟨kc, (rd_mt_eq mc9 ((fM_call (fM_put (fM_rf [59] _) efv_361 (by decide)) fr_382 (by decide)) 37 rfl) ((fM_call (fM_put (fM_rf [59] _) efv_361 (by decide)) fr_382 (by decide)) 38 rfl) ((fM_call (fM_put (fM_rf [59] _) efv_361 (by decide)) fr_382 (by decide)) 39 rfl) ((fM_call (fM_put (fM_rf [59] _) efv_361 (by decide)) fr_382 (by decide)) 40 rfl) ((fM_call (fM_put (fM_rf [59] _) efv_361 (by decide)) fr_382 (by decide)) 42 rfl) ((fM_call (fM_put (fM_rf [59] _) efv_361 (by decide)) fr_382 (by decide)) 41 rfl) rfl), by omega, by rw [hC, rd_l3_ok (by omega), show (fv_325 62).toInt.toNat = (fv_379 62).toInt.toNat from (by omega)], by omega, by omega, by omega, (((fM_call (fM_put (fM_rf [59] _) efv_361 (by decide)) fr_382 (by decide)) 43 rfl)).trans (fc9.trans ((fM_call (fM_call (fM_call (fM_call (fM_call (fM_rf [38, 39, 40, 41, 42] _) fr_11 (by decide)) fr_68 (by decide)) fr_167 (by decide)) fr_188 (by decide)) fr_295 (by decide)) 43 rfl))⟩)⟩)⟩)), (vM_fr hp_356 (fM_call (fM_put (fM_rf [59] _) efv_361 (by decide)) fr_382 (by decide)) (fA_call (fA_rf [] _) fa_383 (by decide)) rfl rfl rfl rfl rfl), trivial⟩, ⟨by rw [ht]; exact hP, va_K.moved hW.alike hK⟩⟩, hS.F ht⟩) hS.2.2 dX12_readLine_260
                    · skip
                      have i_397 : 0 ≤ r_375.toInt ∧ r_375.toInt ≤ 0 := iv_eq1 (⟨by decide, by decide⟩ : (0 : Int) ≤ (0 : Int32).toInt ∧ (0 : Int32).toInt ≤ 0) c_385
                      have k_399 : ¬ rd_T b9 n9 kc = 26 := by omega
                      clear k_384
                      refine lv_aload_n hx hb dX12_readLine_247 rfl (lv_at hl 0 rfl) ?_
                      refine lv_iconst (v := 1) hx hb dX12_readLine_248 (by decide) ?_
                      have z_400 : (fv_379 39).toInt = (fv_325 39).toInt := congrArg Int32.toInt ((fr_382 39 rfl).trans ((congrFun efv_361 39)))
                      have z_401 : 0 ≤ (fv_379 39).toInt ∧ (fv_379 39).toInt ≤ 340 := hF_fv_379 39
                      have z_402 : (fv_379 40).toInt = (fv_325 40).toInt := congrArg Int32.toInt ((fr_382 40 rfl).trans ((congrFun efv_361 40)))
                      refine va_calli (va_runV (As := [.int 1]) (rest := []) ⟨hx, hb, hml, hown, hts⟩ (m_badC l dC dI H.size h ad cA hd fv_379 wd_326 ar_381 hF_fv_379 hA_ar_381 1) (cwV 1 hts (gV kw_8_94 kw_8_96 kw_p_69 kw_1_15 kw_8_97) rfl rfl rfl (by decide +kernel) ⟨Nat.le_of_ble_eq_true rfl, Nat.le_of_ble_eq_true rfl⟩) ⟨fun a U g mk q => ⟨q.1, q.2.1, q.2.2.1, va_K.moved (u := U) (U := U.calling g mk a) (Vm.Alike.refl U.vm) q.2.2.2⟩, va_recv hK hP (ci := 12) (q0 := 0) rfl rfl, fun U hU hW => ⟨rfl, by rw [hU], by rw [hU]; exact hP, va_K.moved hW.alike hK⟩⟩ rfl rfl hl.1 rfl (lv_room (Nat.le_of_ble_eq_true rfl)) dX12_readLine_249 ⟨Nat.le_of_ble_eq_true rfl, Nat.le_of_ble_eq_true rfl⟩) hS (fun q _ h9 => aM_up hS q h9) (aM_up hS) (fun r_403 u t H1 locs ht _ hw hB _ hk1 hS => ?_)
                      obtain ⟨fv_408, wd_409, ar_410⟩ := u
                      obtain ⟨hF_fv_408, hA_ar_410, fr_411, fa_412, p_404, p_405, p_406, p_407, -⟩ := hw
                      have hP : va_P (dC, dI) vwCl (wsM h ad cA fv_408 wd_409 ar_410) H1 := by have h9 := hB.1; rw [ht] at h9; exact h9
                      have fr_411 : fM [43, 44] fv_379 fv_408 := fr_411
                      have fa_412 : fA [] ar_381 ar_410 := fa_412
                      have p_406 : wd_409 = wd_326 := p_406
                      have p_407 : (fv_408 43 = 1 ∨ fv_408 43 = (1 : Int32)) ∧ ((fv_379 40).toInt = 1 → fv_408 43 = 1) ∧ (¬ (fv_379 40).toInt = 1 → fv_408 43 = (1 : Int32)) ∧ (fv_408 44).toInt = (fv_379 39).toInt := p_407
                      generalize H1 = H at hP hS ⊢
                      rw [p_406] at hP
                      rcases p_405 with ⟨rfl, p_405⟩
                      · skip
                        refine lv_if_eq (tgt := 259) hx hb dX12_readLine_252 (by decide) (fun c_413 => ?_) (fun c_413 => ?_)
                        · skip
                          refine lv_iconst (v := 0) hx hb dX12_readLine_259 (by decide) ?_
                          have z_414 : (fv_408 59).toInt = v_358.toInt := congrArg Int32.toInt ((fr_411 59 rfl).trans ((fr_382 59 rfl).trans ((congrFun efv_361 59))))
                          have z_415 : 0 ≤ (fv_408 59).toInt ∧ (fv_408 59).toInt ≤ 16 := hF_fv_408 59
                          have z_416 : (fv_408 60).toInt = (fv_325 60).toInt := congrArg Int32.toInt ((fr_411 60 rfl).trans ((fr_382 60 rfl).trans ((congrFun efv_361 60))))
                          have z_417 : 0 ≤ (fv_408 60).toInt ∧ (fv_408 60).toInt ≤ 120 := hF_fv_408 60
                          have z_418 : (fv_408 62).toInt = (fv_325 62).toInt := congrArg Int32.toInt ((fr_411 62 rfl).trans ((fr_382 62 rfl).trans ((congrFun efv_361 62))))
                          have z_419 : 0 ≤ (fv_408 62).toInt ∧ (fv_408 62).toInt ≤ 50 := hF_fv_408 62
                          have z_420 : (fv_408 63).toInt = (fv_325 63).toInt := congrArg Int32.toInt ((fr_411 63 rfl).trans ((fr_382 63 rfl).trans ((congrFun efv_361 63))))
                          have z_421 : (-100) ≤ (fv_408 63).toInt ∧ (fv_408 63).toInt ≤ 10 := hF_fv_408 63
                          exact W.zret (v := 0) hx hb hr (by decide) (fun t ht hW => ⟨⟨0, (fv_408, wd_326, ar_410), rfl, ⟨hF_fv_408, hA_ar_410, (fM_call (fM_call (fM_put (fM_call (fM_call (fM_call (fM_call (fM_call (fM_call (fM_rf [38, 39, 40, 41, 42, 43, 44, 45, 59, 60, 61, 62, 63] _) fr_11 (by decide)) fr_68 (by decide)) fr_167 (by decide)) fr_188 (by decide)) fr_295 (by decide)) fr_328 (by decide)) efv_361 (by decide)) fr_382 (by decide)) fr_411 (by decide)), (fA_call (fA_call (fA_put (fA_call (fA_call (fA_call (fA_call (fA_call (fA_put (fA_put (fA_put (fA_call (fA_rf [48, 50, 51, 52, 53, 54, 55, 56, 57] _) fa_12 (by decide)) ear_43 (by decide)) ear_44 (by decide)) ear_46 (by decide)) fa_69 (by decide)) fa_169 (by decide)) fa_189 (by decide)) fa_296 (by decide)) fa_329 (by decide)) ear_355 (by decide)) fa_383 (by decide)) fa_412 (by decide)), (iv_w (⟨by decide, by decide⟩ : (0 : Int) ≤ (0 : Int32).toInt ∧ (0 : Int32).toInt ≤ 0) (by decide) (by decide)), (Or.inl ⟨rfl, (show (0 < (fv_408 43).toInt ∧ (rd_ln (rd_T b9 n9) (rd_N b9 n9) k9 ((fv 62).toInt.toNat) ((fv 59).toInt.toNat) (decide ((fv 45).toInt = 1))).1 = (fv_408 43).toInt.toNat ∧ (fv_408 44).toInt = (rd_S b9 n9 (rd_ln (rd_T b9 n9) (rd_N b9 n9) k9 ((fv 62).toInt.toNat) ((fv 59).toInt.toNat) (decide ((fv 45).toInt = 1))).2.1 : Nat)) from (by have : (fv_408 59).toInt = (v_358).toInt := congrArg Int32.toInt ((fr_411 59 rfl).trans ((fr_382 59 rfl).trans ((congrFun efv_361 59)))); have : (fv_408 62).toInt = (fv_325 62).toInt := congrArg Int32.toInt ((fr_411 62 rfl).trans ((fr_382 62 rfl).trans ((congrFun efv_361 62)))); have : (fv_408 63).toInt = (fv_325 63).toInt := congrArg Int32.toInt ((fr_411 63 rfl).trans ((fr_382 63 rfl).trans ((congrFun efv_361 63)))); have : (fv_408 45).toInt = (fv 45).toInt := congrArg Int32.toInt ((fr_411 45 rfl).trans ((fr_382 45 rfl).trans ((congrFun efv_361 45).trans ((fr_328 45 rfl).trans ((fr_295 45 rfl).trans ((fr_188 45 rfl).trans ((fr_167 45 rfl).trans ((fr_68 45 rfl).trans ((fr_11 45 rfl)))))))))); have : (fv_292 59).toInt = (fv 59).toInt := congrArg Int32.toInt ((fM_call (fM_call (fM_call (fM_call (fM_call (fM_rf [38, 39, 40, 41, 42] _) fr_11 (by decide)) fr_68 (by decide)) fr_167 (by decide)) fr_188 (by decide)) fr_295 (by decide)) 59 rfl); have : (fv_292 62).toInt = (fv 62).toInt := congrArg Int32.toInt ((fM_call (fM_call (fM_call (fM_call (fM_call (fM_rf [38, 39, 40, 41, 42] _) fr_11 (by decide)) fr_68 (by decide)) fr_167 (by decide)) fr_188 (by decide)) fr_295 (by decide)) 62 rfl); have : (fv_292 63).toInt = (fv 63).toInt := congrArg Int32.toInt ((fM_call (fM_call (fM_call (fM_call (fM_call (fM_rf [38, 39, 40, 41, 42] _) fr_11 (by decide)) fr_68 (by decide)) fr_167 (by decide)) fr_188 (by decide)) fr_295 (by decide)) 63 rfl); have : (fv_292 45).toInt = (fv 45).toInt := congrArg Int32.toInt ((fM_call (fM_call (fM_call (fM_call (fM_call (fM_rf [38, 39, 40, 41, 42] _) fr_11 (by decide)) fr_68 (by decide)) fr_167 (by decide)) fr_188 (by decide)) fr_295 (by decide)) 45 rfl); have hE : rd_ln (rd_T b9 n9) (rd_N b9 n9) k9 ((fv 62).toInt.toNat) ((fv 59).toInt.toNat) (decide ((fv 45).toInt = 1)) = (1, kc, (fv_325 62).toInt.toNat) := (by rw [hC, rd_l3_bad (by omega)]); have hf9 : fv_408 43 = 1 := (p_407.1.elim id id); exact ⟨by rw [hf9]; decide, by rw [hE, hf9]; show 1 = (1 : Int32).toInt.toNat; decide, by rw [hE]; have h8 := (p_407).2.2.2; have h7 := ((rd_mt_eq mc9 ((fM_call (fM_put (fM_rf [59] _) efv_361 (by decide)) fr_382 (by decide)) 37 rfl) ((fM_call (fM_put (fM_rf [59] _) efv_361 (by decide)) fr_382 (by decide)) 38 rfl) ((fM_call (fM_put (fM_rf [59] _) efv_361 (by decide)) fr_382 (by decide)) 39 rfl) ((fM_call (fM_put (fM_rf [59] _) efv_361 (by decide)) fr_382 (by decide)) 40 rfl) ((fM_call (fM_put (fM_rf [59] _) efv_361 (by decide)) fr_382 (by decide)) 42 rfl) ((fM_call (fM_put (fM_rf [59] _) efv_361 (by decide)) fr_382 (by decide)) 41 rfl) rfl)).2.1; show (fv_408 44).toInt = (rd_S b9 n9 kc : Nat); rw [← h7]; exact h8⟩))⟩), (vM_fr hp_356 (fM_call (fM_call (fM_put (fM_rf [43, 44, 59] _) efv_361 (by decide)) fr_382 (by decide)) fr_411 (by decide)) (fA_call (fA_call (fA_rf [] _) fa_383 (by decide)) fa_412 (by decide)) rfl rfl rfl rfl rfl), trivial⟩, ⟨by rw [ht]; exact hP, va_K.moved hW.alike hK⟩⟩, hS.F ht⟩) hS.2.2 dX12_readLine_260
                        · skip
                          exact absurd c_413 (by decide)
                  · skip
                    exact absurd c_344 (by decide)
          · skip
            refine lv_icmp_ge (tgt := 121) hx hb dX12_readLine_97 (by decide) (fun c_72 => ?_) (fun c_72 => ?_)
            · skip
              have i_73 : 2 ≤ r_4.toInt ∧ r_4.toInt ≤ 5 := iv_le2 (⟨by decide, by decide⟩ : (2 : Int) ≤ (2 : Int32).toInt ∧ (2 : Int32).toInt ≤ 2) i_38 c_72
              refine lv_aload_n hx hb dX12_readLine_121 rfl (lv_at hl 2 rfl) ?_
              refine gM_40 hx hb htg hown hK hP dX12_readLine_122 ?_
              refine lv_iconst (v := 3) hx hb dX12_readLine_125 (by decide) ?_
              refine lv_icmp_eq (tgt := 135) hx hb dX12_readLine_126 (by decide) (fun c_74 => ?_) (fun c_74 => ?_)
              · skip
                have i_75 : 3 ≤ (fv_65 40).toInt ∧ (fv_65 40).toInt ≤ 3 := iv_eq1 (⟨by decide, by decide⟩ : (3 : Int) ≤ (3 : Int32).toInt ∧ (3 : Int32).toInt ≤ 3) c_74
                have k_77 : rd_T b9 n9 (k9 + 1) = 29 := (m_70.2.2.1).2.1.mp (by omega)
                refine lv_aload_n hx hb dX12_readLine_135 rfl (lv_at hl 2 rfl) ?_
                refine gM_41 hx hb htg hown hK hP dX12_readLine_136 ?_
                refine lv_sipush (v := 2000) hx hb dX12_readLine_139 (by decide) ?_
                refine lv_icmp_le (tgt := 151) hx hb dX12_readLine_142 (by decide) (fun c_78 => ?_) (fun c_78 => ?_)
                · skip
                  have i_79 : (-2147483648) ≤ (fv_65 41).toInt ∧ (fv_65 41).toInt ≤ 2000 := iv_le1 (iv_any (fv_65 41)) (⟨by decide, by decide⟩ : (2000 : Int) ≤ (2000 : Int32).toInt ∧ (2000 : Int32).toInt ≤ 2000) c_78
                  refine lv_aload_n hx hb dX12_readLine_151 rfl (lv_at hl 2 rfl) ?_
                  refine gM_51 hx hb htg hown hK hP dX12_readLine_152 ?_
                  refine lv_iload_n hx hb dX12_readLine_155 rfl (lv_at hl 0 rfl) ?_
                  refine lv_aload_n hx hb dX12_readLine_156 rfl (lv_at hl 2 rfl) ?_
                  refine gM_41 hx hb htg hown hK hP dX12_readLine_157 ?_
                  refine sM_51 hx hb hK hP hS hd (iv_in t_41.2 (by decide) (by decide)) dX12_readLine_160 (fun H locs ar_80 ear_80 hP hS => ?_)
                  have hA_ar_80 : rA ar_80 := rA_put hA_ar_67 ear_80 (iv_any _)
                  refine lv_iload_n hx hb dX12_readLine_161 rfl (lv_at hl 1 rfl) ?_
                  refine lv_bipush (v := 6) hx hb dX12_readLine_162 (by decide) ?_
                  refine lv_icmp_ne (tgt := 178) hx hb dX12_readLine_164 (by decide) (fun c_81 => ?_) (fun c_81 => ?_)
                  · skip
                    refine lv_aload_n hx hb dX12_readLine_178 rfl (lv_at hl 2 rfl) ?_
                    have z_83 : (fv_65 37).toInt = (fv 37).toInt := congrArg Int32.toInt ((fr_68 37 rfl).trans ((fr_11 37 rfl)))
                    have z_84 : 0 ≤ (fv_65 37).toInt ∧ (fv_65 37).toInt ≤ 340 := hF_fv_65 37
                    have z_85 : 0 ≤ (fv_65 38).toInt ∧ (fv_65 38).toInt ≤ 340 := hF_fv_65 38
                    have z_86 : (fv_65 37).toInt = (fv 37).toInt := congrArg Int32.toInt ((fr_68 37 rfl).trans ((fr_11 37 rfl)))
                    have z_87 : 0 ≤ (fv_65 37).toInt ∧ (fv_65 37).toInt ≤ 340 := hF_fv_65 37
                    have z_88 : 0 ≤ (fv_65 38).toInt ∧ (fv_65 38).toInt ≤ 340 := hF_fv_65 38
                    have z_89 : (fv_65 37).toInt = (fv 37).toInt := congrArg Int32.toInt ((fr_68 37 rfl).trans ((fr_11 37 rfl)))
                    have z_90 : 0 ≤ (fv_65 37).toInt ∧ (fv_65 37).toInt ≤ 340 := hF_fv_65 37
                    refine va_callv (va_runV (As := []) (rest := []) ⟨hx, hb, hml, hown, hts⟩ (m_goC l dC dI H.size h ad cA hd fv_65 wd_66 ar_80 hF_fv_65 hA_ar_80 ((k9 + 1) + 1) (rd_hto m_70 (by omega) (hb9.trans (congrArg rd_b (show ar_80 1 = ar 1 from ((fA_put (fA_call (fA_put (fA_put (fA_put (fA_call (fA_rf [50, 51, 52] _) fa_12 (by decide)) ear_43 (by decide)) ear_44 (by decide)) ear_46 (by decide)) fa_69 (by decide)) ear_80 (by decide)) 1 rfl)).symm))) (rd_mt_to m_70 (by omega)).2) (cwV 0 hts (gV kw_8_60 kw_8_62 kw_p_64 kw_1_15 kw_8_63) rfl rfl rfl (by decide +kernel) ⟨Nat.le_of_ble_eq_true rfl, Nat.le_of_ble_eq_true rfl⟩) ⟨fun a U g mk q => ⟨q.1, q.2.1, q.2.2.1, va_K.moved (u := U) (U := U.calling g mk a) (Vm.Alike.refl U.vm) q.2.2.2⟩, va_recv hK hP (ci := 12) (q0 := 0) rfl rfl, fun U hU hW => ⟨rfl, by rw [hU], by rw [hU]; exact hP, va_K.moved hW.alike hK⟩⟩ rfl rfl hl.1 rfl (lv_room (Nat.le_of_ble_eq_true rfl)) dX12_readLine_179 ⟨Nat.le_of_ble_eq_true rfl, Nat.le_of_ble_eq_true rfl⟩) hS (fun q _ h9 => aM_up hS q h9) (aM_up hS) (fun u t H1 locs ht _ hw hB _ hk1 hS => ?_)
                    obtain ⟨fv_95, wd_96, ar_97⟩ := u
                    obtain ⟨hF_fv_95, hA_ar_97, fr_98, fa_99, p_92, p_93, p_94, -⟩ := hw
                    have hP : va_P (dC, dI) vwCl (wsM h ad cA fv_95 wd_96 ar_97) H1 := by have h9 := hB.1; rw [ht] at h9; exact h9
                    have fr_98 : fM [38, 39, 40, 41, 42] fv_65 fv_95 := fr_98
                    have fa_99 : fA [] ar_80 ar_97 := fa_99
                    have p_92 : (fv_95 39).toInt = (rd_S (rd_b (ar_80 1)) (fv_65 37).toInt.toNat ((k9 + 1) + 1) : Nat) := p_92
                    have p_93 : rd_st (rd_b (ar_80 1)) (fv_65 37).toInt.toNat ((k9 + 1) + 1) < rd_lim ((fv_65 37).toInt.toNat) → (fv_95 38).toInt = (rd_en (rd_b (ar_80 1)) (fv_65 37).toInt.toNat (((k9 + 1) + 1) + 1) : Nat) := p_93
                    have p_94 : rd_rel (rd_T (rd_b (ar_80 1)) (fv_65 37).toInt.toNat ((k9 + 1) + 1)) (rd_N (rd_b (ar_80 1)) (fv_65 37).toInt.toNat ((k9 + 1) + 1)) (fv_95 40) (fv_95 42) (fv_95 41) wd_96 := p_94
                    generalize H1 = H at hP hS ⊢
                    have m_100 : rd_mt b9 n9 ((k9 + 1) + 1) (fv_95 37) (fv_95 38) (fv_95 39) (fv_95 40) (fv_95 42) (fv_95 41) wd_96 := rd_mt_go (k := (k9 + 1)) m_70 (by omega) (fr_98 37 rfl) (by have h9 := p_92; rw [← (hb9.trans (congrArg rd_b (show ar_80 1 = ar 1 from ((fA_put (fA_call (fA_put (fA_put (fA_put (fA_call (fA_rf [50, 51, 52] _) fa_12 (by decide)) ear_43 (by decide)) ear_44 (by decide)) ear_46 (by decide)) fa_69 (by decide)) ear_80 (by decide)) 1 rfl)).symm)), show (fv_65 37).toInt.toNat = n9 from (by have h8 := m_70.1; omega)] at h9; exact h9) (by have h9 := p_93; rw [← (hb9.trans (congrArg rd_b (show ar_80 1 = ar 1 from ((fA_put (fA_call (fA_put (fA_put (fA_put (fA_call (fA_rf [50, 51, 52] _) fa_12 (by decide)) ear_43 (by decide)) ear_44 (by decide)) ear_46 (by decide)) fa_69 (by decide)) ear_80 (by decide)) 1 rfl)).symm)), show (fv_65 37).toInt.toNat = n9 from (by have h8 := m_70.1; omega)] at h9; exact h9) (by have h9 := p_94; rw [← (hb9.trans (congrArg rd_b (show ar_80 1 = ar 1 from ((fA_put (fA_call (fA_put (fA_put (fA_put (fA_call (fA_rf [50, 51, 52] _) fa_12 (by decide)) ear_43 (by decide)) ear_44 (by decide)) ear_46 (by decide)) fa_69 (by decide)) ear_80 (by decide)) 1 rfl)).symm)), show (fv_65 37).toInt.toNat = n9 from (by have h8 := m_70.1; omega)] at h9; exact h9)
                    have k_101 := rd_mt_k m_100
                    exact hj_176 fv_95 ar_97 wd_96 _ _ ls hF_fv_95 (fM_call (fM_rf [38, 39, 40, 41, 42] _) fr_98 (by decide)) hA_ar_97 (fA_call (fA_put (fA_rf [51] _) ear_80 (by decide)) fa_99 (by decide)) (rL_fr hp_48 (fM_call (fM_call (fM_rf [38, 39, 40, 41, 42] _) fr_68 (by decide)) fr_98 (by decide)) (fA_call (fA_put (fA_call (fA_rf [51] _) fa_69 (by decide)) ear_80 (by decide)) fa_99 (by decide)) rfl rfl rfl rfl rfl) (vM_fr hp_47 (fM_call (fM_call (fM_rf [38, 39, 40, 41, 42] _) fr_68 (by decide)) fr_98 (by decide)) (fA_call (fA_put (fA_call (fA_rf [51] _) fa_69 (by decide)) ear_80 (by decide)) fa_99 (by decide)) rfl rfl rfl rfl rfl) ⟨((k9 + 1) + 1), m_100, (by have hA : rd_ln (rd_T b9 n9) (rd_N b9 n9) k9 ((fv 62).toInt.toNat) ((fv 59).toInt.toNat) (decide ((fv 45).toInt = 1)) = rd_l2 (rd_T b9 n9) (rd_T b9 n9 k9) ((k9 + 1) + 1) ((fv 62).toInt.toNat) := rd_ln_v (by omega) (fun w => w.elim (fun w => by omega) (fun w => by have h8 := of_decide_eq_true w.2; have h7 := w.1; omega)) (by have h8 := (m_70.2.2.1).2.1; omega) (by have h8 := (m_70.2.2.1).2.2.1 (by have h8 := (m_70.2.2.1).2.1; omega); omega); exact hA)⟩ (show (fv_95 45).toInt = 1 ↔ ((fv 45).toInt = 1 ∨ rd_T b9 n9 k9 = 6) from by have h6 : (fv_95 45).toInt = (fv 45).toInt := congrArg Int32.toInt ((fr_98 45 rfl).trans ((fr_68 45 rfl).trans ((fr_11 45 rfl)))); omega) (show (fv_95 45).toInt = 0 ∨ (fv_95 45).toInt = 1 from by have h6 : (fv_95 45).toInt = (fv 45).toInt := congrArg Int32.toInt ((fr_98 45 rfl).trans ((fr_68 45 rfl).trans ((fr_11 45 rfl)))); omega) hP hS (lv_sub hl [2, 1, 0] rfl)
                  · skip
                    exact absurd True.intro (by have h7 := i_73; have h8 := (⟨by decide, by decide⟩ : (6 : Int) ≤ (6 : Int32).toInt ∧ (6 : Int32).toInt ≤ 6); have h9 := congrArg Int32.toInt c_81; exfalso; omega)
                · skip
                  have i_102 : 2001 ≤ (fv_65 41).toInt ∧ (fv_65 41).toInt ≤ 2147483647 := iv_lt2 (⟨by decide, by decide⟩ : (2000 : Int) ≤ (2000 : Int32).toInt ∧ (2000 : Int32).toInt ≤ 2000) (iv_any (fv_65 41)) (Int32.not_le.mp c_78)
                  refine lv_aload_n hx hb dX12_readLine_145 rfl (lv_at hl 2 rfl) ?_
                  refine lv_iconst (v := 2) hx hb dX12_readLine_146 (by decide) ?_
                  have z_103 : 0 ≤ (fv_65 39).toInt ∧ (fv_65 39).toInt ≤ 340 := hF_fv_65 39
                  refine va_calli (va_runV (As := [.int 2]) (rest := []) ⟨hx, hb, hml, hown, hts⟩ (m_badC l dC dI H.size h ad cA hd fv_65 wd_66 ar_67 hF_fv_65 hA_ar_67 2) (cwV 1 hts (gV kw_8_94 kw_8_96 kw_p_69 kw_1_15 kw_8_97) rfl rfl rfl (by decide +kernel) ⟨Nat.le_of_ble_eq_true rfl, Nat.le_of_ble_eq_true rfl⟩) ⟨fun a U g mk q => ⟨q.1, q.2.1, q.2.2.1, va_K.moved (u := U) (U := U.calling g mk a) (Vm.Alike.refl U.vm) q.2.2.2⟩, va_recv hK hP (ci := 12) (q0 := 0) rfl rfl, fun U hU hW => ⟨rfl, by rw [hU], by rw [hU]; exact hP, va_K.moved hW.alike hK⟩⟩ rfl rfl hl.1 rfl (lv_room (Nat.le_of_ble_eq_true rfl)) dX12_readLine_147 ⟨Nat.le_of_ble_eq_true rfl, Nat.le_of_ble_eq_true rfl⟩) hS (fun q _ h9 => aM_up hS q h9) (aM_up hS) (fun r_104 u t H1 locs ht _ hw hB _ hk1 hS => ?_)
                  obtain ⟨fv_109, wd_110, ar_111⟩ := u
                  obtain ⟨hF_fv_109, hA_ar_111, fr_112, fa_113, p_105, p_106, p_107, p_108, -⟩ := hw
                  have hP : va_P (dC, dI) vwCl (wsM h ad cA fv_109 wd_110 ar_111) H1 := by have h9 := hB.1; rw [ht] at h9; exact h9
                  have fr_112 : fM [43, 44] fv_65 fv_109 := fr_112
                  have fa_113 : fA [] ar_67 ar_111 := fa_113
                  have p_107 : wd_110 = wd_66 := p_107
                  have p_108 : (fv_109 43 = 1 ∨ fv_109 43 = (2 : Int32)) ∧ ((fv_65 40).toInt = 1 → fv_109 43 = 1) ∧ (¬ (fv_65 40).toInt = 1 → fv_109 43 = (2 : Int32)) ∧ (fv_109 44).toInt = (fv_65 39).toInt := p_108
                  generalize H1 = H at hP hS ⊢
                  rw [p_107] at hP
                  rcases p_106 with ⟨rfl, p_106⟩
                  · skip
                    exact W.zret (v := 0) hx hb hr (by decide) (fun t ht hW => ⟨⟨0, (fv_109, wd_66, ar_111), rfl, ⟨hF_fv_109, hA_ar_111, (fM_call (fM_call (fM_call (fM_rf [38, 39, 40, 41, 42, 43, 44, 45, 59, 60, 61, 62, 63] _) fr_11 (by decide)) fr_68 (by decide)) fr_112 (by decide)), (fA_call (fA_call (fA_put (fA_put (fA_put (fA_call (fA_rf [48, 50, 51, 52, 53, 54, 55, 56, 57] _) fa_12 (by decide)) ear_43 (by decide)) ear_44 (by decide)) ear_46 (by decide)) fa_69 (by decide)) fa_113 (by decide)), (iv_w (⟨by decide, by decide⟩ : (0 : Int) ≤ (0 : Int32).toInt ∧ (0 : Int32).toInt ≤ 0) (by decide) (by decide)), (Or.inl ⟨rfl, (show (0 < (fv_109 43).toInt ∧ (rd_ln (rd_T b9 n9) (rd_N b9 n9) k9 ((fv 62).toInt.toNat) ((fv 59).toInt.toNat) (decide ((fv 45).toInt = 1))).1 = (fv_109 43).toInt.toNat ∧ (fv_109 44).toInt = (rd_S b9 n9 (rd_ln (rd_T b9 n9) (rd_N b9 n9) k9 ((fv 62).toInt.toNat) ((fv 59).toInt.toNat) (decide ((fv 45).toInt = 1))).2.1 : Nat)) from (by have : (fv_109 59).toInt = (fv 59).toInt := congrArg Int32.toInt ((fr_112 59 rfl).trans ((fr_68 59 rfl).trans ((fr_11 59 rfl)))); have : (fv_109 62).toInt = (fv 62).toInt := congrArg Int32.toInt ((fr_112 62 rfl).trans ((fr_68 62 rfl).trans ((fr_11 62 rfl)))); have : (fv_109 63).toInt = (fv 63).toInt := congrArg Int32.toInt ((fr_112 63 rfl).trans ((fr_68 63 rfl).trans ((fr_11 63 rfl)))); have : (fv_109 45).toInt = (fv 45).toInt := congrArg Int32.toInt ((fr_112 45 rfl).trans ((fr_68 45 rfl).trans ((fr_11 45 rfl)))); have hE : rd_ln (rd_T b9 n9) (rd_N b9 n9) k9 ((fv 62).toInt.toNat) ((fv 59).toInt.toNat) (decide ((fv 45).toInt = 1)) = (2, (k9 + 1), (fv 62).toInt.toNat) := rd_ln_v2 (by omega) (fun w => w.elim (fun w => by omega) (fun w => by have h8 := of_decide_eq_true w.2; have h7 := w.1; omega)) (by have h8 := (m_70.2.2.1).2.1; omega) (by have h8 := (m_70.2.2.1).2.2.1 (by have h8 := (m_70.2.2.1).2.1; omega); omega); have hf9 : fv_109 43 = 2 := (p_108.2.2.1 (rd_kd2 m_70.2.2.1 (by have h8 := (m_70.2.2.1).2.1; omega))); exact ⟨by rw [hf9]; decide, by rw [hE, hf9]; show 2 = (2 : Int32).toInt.toNat; decide, by rw [hE]; have h8 := (p_108).2.2.2; have h7 := (m_70).2.1; show (fv_109 44).toInt = (rd_S b9 n9 (k9 + 1) : Nat); rw [← h7]; exact h8⟩))⟩), (vM_fr hp_47 (fM_call (fM_call (fM_rf [38, 39, 40, 41, 42, 43, 44] _) fr_68 (by decide)) fr_112 (by decide)) (fA_call (fA_call (fA_rf [] _) fa_69 (by decide)) fa_113 (by decide)) rfl rfl rfl rfl rfl), trivial⟩, ⟨by rw [ht]; exact hP, va_K.moved hW.alike hK⟩⟩, hS.F ht⟩) hS.2.2 dX12_readLine_150
              · skip
                have k_114 : ¬ (fv_65 40).toInt = 3 := fun q => c_74 (Int32.toInt_inj.mp q)
                refine lv_aload_n hx hb dX12_readLine_129 rfl (lv_at hl 2 rfl) ?_
                refine lv_iconst (v := 1) hx hb dX12_readLine_130 (by decide) ?_
                have z_115 : 0 ≤ (fv_65 39).toInt ∧ (fv_65 39).toInt ≤ 340 := hF_fv_65 39
                refine va_calli (va_runV (As := [.int 1]) (rest := []) ⟨hx, hb, hml, hown, hts⟩ (m_badC l dC dI H.size h ad cA hd fv_65 wd_66 ar_67 hF_fv_65 hA_ar_67 1) (cwV 1 hts (gV kw_8_94 kw_8_96 kw_p_69 kw_1_15 kw_8_97) rfl rfl rfl (by decide +kernel) ⟨Nat.le_of_ble_eq_true rfl, Nat.le_of_ble_eq_true rfl⟩) ⟨fun a U g mk q => ⟨q.1, q.2.1, q.2.2.1, va_K.moved (u := U) (U := U.calling g mk a) (Vm.Alike.refl U.vm) q.2.2.2⟩, va_recv hK hP (ci := 12) (q0 := 0) rfl rfl, fun U hU hW => ⟨rfl, by rw [hU], by rw [hU]; exact hP, va_K.moved hW.alike hK⟩⟩ rfl rfl hl.1 rfl (lv_room (Nat.le_of_ble_eq_true rfl)) dX12_readLine_131 ⟨Nat.le_of_ble_eq_true rfl, Nat.le_of_ble_eq_true rfl⟩) hS (fun q _ h9 => aM_up hS q h9) (aM_up hS) (fun r_116 u t H1 locs ht _ hw hB _ hk1 hS => ?_)
                obtain ⟨fv_121, wd_122, ar_123⟩ := u
                obtain ⟨hF_fv_121, hA_ar_123, fr_124, fa_125, p_117, p_118, p_119, p_120, -⟩ := hw
                have hP : va_P (dC, dI) vwCl (wsM h ad cA fv_121 wd_122 ar_123) H1 := by have h9 := hB.1; rw [ht] at h9; exact h9
                have fr_124 : fM [43, 44] fv_65 fv_121 := fr_124
                have fa_125 : fA [] ar_67 ar_123 := fa_125
                have p_119 : wd_122 = wd_66 := p_119
                have p_120 : (fv_121 43 = 1 ∨ fv_121 43 = (1 : Int32)) ∧ ((fv_65 40).toInt = 1 → fv_121 43 = 1) ∧ (¬ (fv_65 40).toInt = 1 → fv_121 43 = (1 : Int32)) ∧ (fv_121 44).toInt = (fv_65 39).toInt := p_120
                generalize H1 = H at hP hS ⊢
                rw [p_119] at hP
                rcases p_118 with ⟨rfl, p_118⟩
                · skip
                  exact W.zret (v := 0) hx hb hr (by decide) (fun t ht hW => ⟨⟨0, (fv_121, wd_66, ar_123), rfl, ⟨hF_fv_121, hA_ar_123, (fM_call (fM_call (fM_call (fM_rf [38, 39, 40, 41, 42, 43, 44, 45, 59, 60, 61, 62, 63] _) fr_11 (by decide)) fr_68 (by decide)) fr_124 (by decide)), (fA_call (fA_call (fA_put (fA_put (fA_put (fA_call (fA_rf [48, 50, 51, 52, 53, 54, 55, 56, 57] _) fa_12 (by decide)) ear_43 (by decide)) ear_44 (by decide)) ear_46 (by decide)) fa_69 (by decide)) fa_125 (by decide)), (iv_w (⟨by decide, by decide⟩ : (0 : Int) ≤ (0 : Int32).toInt ∧ (0 : Int32).toInt ≤ 0) (by decide) (by decide)), (Or.inl ⟨rfl, (show (0 < (fv_121 43).toInt ∧ (rd_ln (rd_T b9 n9) (rd_N b9 n9) k9 ((fv 62).toInt.toNat) ((fv 59).toInt.toNat) (decide ((fv 45).toInt = 1))).1 = (fv_121 43).toInt.toNat ∧ (fv_121 44).toInt = (rd_S b9 n9 (rd_ln (rd_T b9 n9) (rd_N b9 n9) k9 ((fv 62).toInt.toNat) ((fv 59).toInt.toNat) (decide ((fv 45).toInt = 1))).2.1 : Nat)) from (by have : (fv_121 59).toInt = (fv 59).toInt := congrArg Int32.toInt ((fr_124 59 rfl).trans ((fr_68 59 rfl).trans ((fr_11 59 rfl)))); have : (fv_121 62).toInt = (fv 62).toInt := congrArg Int32.toInt ((fr_124 62 rfl).trans ((fr_68 62 rfl).trans ((fr_11 62 rfl)))); have : (fv_121 63).toInt = (fv 63).toInt := congrArg Int32.toInt ((fr_124 63 rfl).trans ((fr_68 63 rfl).trans ((fr_11 63 rfl)))); have : (fv_121 45).toInt = (fv 45).toInt := congrArg Int32.toInt ((fr_124 45 rfl).trans ((fr_68 45 rfl).trans ((fr_11 45 rfl)))); have hE : rd_ln (rd_T b9 n9) (rd_N b9 n9) k9 ((fv 62).toInt.toNat) ((fv 59).toInt.toNat) (decide ((fv 45).toInt = 1)) = (1, (k9 + 1), (fv 62).toInt.toNat) := rd_ln_v1 (by omega) (fun w => w.elim (fun w => by omega) (fun w => by have h8 := of_decide_eq_true w.2; have h7 := w.1; omega)) (by have h8 := (m_70.2.2.1).2.1; omega); have hf9 : fv_121 43 = 1 := (p_120.1.elim id id); exact ⟨by rw [hf9]; decide, by rw [hE, hf9]; show 1 = (1 : Int32).toInt.toNat; decide, by rw [hE]; have h8 := (p_120).2.2.2; have h7 := (m_70).2.1; show (fv_121 44).toInt = (rd_S b9 n9 (k9 + 1) : Nat); rw [← h7]; exact h8⟩))⟩), (vM_fr hp_47 (fM_call (fM_call (fM_rf [38, 39, 40, 41, 42, 43, 44] _) fr_68 (by decide)) fr_124 (by decide)) (fA_call (fA_call (fA_rf [] _) fa_69 (by decide)) fa_125 (by decide)) rfl rfl rfl rfl rfl), trivial⟩, ⟨by rw [ht]; exact hP, va_K.moved hW.alike hK⟩⟩, hS.F ht⟩) hS.2.2 dX12_readLine_134
            · skip
              have i_126 : 0 ≤ r_4.toInt ∧ r_4.toInt ≤ 1 := iv_lt1 i_38 (⟨by decide, by decide⟩ : (2 : Int) ≤ (2 : Int32).toInt ∧ (2 : Int32).toInt ≤ 2) (Int32.not_le.mp c_72)
              refine lv_aload_n hx hb dX12_readLine_100 rfl (lv_at hl 2 rfl) ?_
              refine va_calli (va_runV (As := []) (rest := []) ⟨hx, hb, hml, hown, hts⟩ (m_isNotC l dC dI H.size h ad cA hd fv_65 wd_66 ar_67 hF_fv_65 hA_ar_67 (rd_T b9 n9 (k9 + 1)) (rd_N b9 n9 (k9 + 1)) m_70.2.2.1) (cwV 0 hts (gV kw_8_98 kw_8_100 kw_p_70 kw_1_15 kw_8_101) rfl rfl rfl (by decide +kernel) ⟨Nat.le_of_ble_eq_true rfl, Nat.le_of_ble_eq_true rfl⟩) ⟨fun a U g mk q => ⟨q.1, q.2.1, q.2.2.1, va_K.moved (u := U) (U := U.calling g mk a) (Vm.Alike.refl U.vm) q.2.2.2⟩, va_recv hK hP (ci := 12) (q0 := 0) rfl rfl, fun U hU hW => ⟨rfl, by rw [hU], by rw [hU]; exact hP, va_K.moved hW.alike hK⟩⟩ rfl rfl hl.1 rfl (lv_room (Nat.le_of_ble_eq_true rfl)) dX12_readLine_101 ⟨Nat.le_of_ble_eq_true rfl, Nat.le_of_ble_eq_true rfl⟩) hS (fun q _ h9 => aM_up hS q h9) (aM_up hS) (fun r_127 u t H1 locs ht _ hw hB _ hk1 hS => ?_)
              obtain ⟨fv_131, wd_132, ar_133⟩ := u
              obtain ⟨hF_fv_131, hA_ar_133, fr_134, fa_135, p_128, p_129, p_130, -⟩ := hw
              have hP : va_P (dC, dI) vwCl (wsM h ad cA fv_131 wd_132 ar_133) H1 := by have h9 := hB.1; rw [ht] at h9; exact h9
              have fr_134 : fM [] fv_65 fv_131 := fr_134
              have fa_135 : fA [] ar_67 ar_133 := fa_135
              have p_129 : wd_132 = wd_66 := p_129
              have p_130 : (r_127 = 1 ∧ (rd_T b9 n9 (k9 + 1)) = 22) ∨ (r_127 = 0 ∧ ¬ (rd_T b9 n9 (k9 + 1)) = 22) := p_130
              generalize H1 = H at hP hS ⊢
              rw [p_129] at hP
              have k_136 : (r_127.toInt = 1 ∧ rd_T b9 n9 (k9 + 1) = 22) ∨ (r_127.toInt = 0 ∧ ¬ rd_T b9 n9 (k9 + 1) = 22) := by have h7 : (0 : Int32).toInt = 0 := (by decide); have h6 : (1 : Int32).toInt = 1 := (by decide); rcases p_130 with ⟨a9, b9⟩ | ⟨a9, b9⟩; exact Or.inl ⟨by rw [a9]; exact h6, b9⟩; exact Or.inr ⟨by rw [a9]; exact h7, b9⟩
              clear p_130
              refine lv_if_eq (tgt := 182) hx hb dX12_readLine_104 (by decide) (fun c_137 => ?_) (fun c_137 => ?_)
              · skip
                have i_138 : 0 ≤ r_127.toInt ∧ r_127.toInt ≤ 0 := iv_eq1 (⟨by decide, by decide⟩ : (0 : Int) ≤ (0 : Int32).toInt ∧ (0 : Int32).toInt ≤ 0) c_137
                have k_140 : ¬ rd_T b9 n9 (k9 + 1) = 22 := by omega
                clear k_136
                exact hj_176 fv_131 ar_133 wd_66 _ _ ls hF_fv_131 (fM_call (fM_rf [38, 39, 40, 41, 42] _) fr_134 (by decide)) hA_ar_133 (fA_call (fA_rf [51] _) fa_135 (by decide)) (rL_fr hp_48 (fM_call (fM_call (fM_rf [38, 39, 40, 41, 42] _) fr_68 (by decide)) fr_134 (by decide)) (fA_call (fA_call (fA_rf [] _) fa_69 (by decide)) fa_135 (by decide)) rfl rfl rfl rfl rfl) (vM_fr hp_47 (fM_call (fM_call (fM_rf [38, 39, 40, 41, 42] _) fr_68 (by decide)) fr_134 (by decide)) (fA_call (fA_call (fA_rf [] _) fa_69 (by decide)) fa_135 (by decide)) rfl rfl rfl rfl rfl) ⟨(k9 + 1), (rd_mt_eq m_70 ((fM_call (fM_rf [] _) fr_134 (by decide)) 37 rfl) ((fM_call (fM_rf [] _) fr_134 (by decide)) 38 rfl) ((fM_call (fM_rf [] _) fr_134 (by decide)) 39 rfl) ((fM_call (fM_rf [] _) fr_134 (by decide)) 40 rfl) ((fM_call (fM_rf [] _) fr_134 (by decide)) 42 rfl) ((fM_call (fM_rf [] _) fr_134 (by decide)) 41 rfl) rfl), (by have hA : rd_ln (rd_T b9 n9) (rd_N b9 n9) k9 ((fv 62).toInt.toNat) ((fv 59).toInt.toNat) (decide ((fv 45).toInt = 1)) = rd_l2 (rd_T b9 n9) (rd_T b9 n9 k9) (k9 + 1) ((fv 62).toInt.toNat) := rd_ln_s1 (by omega) (fun w => w.elim (fun w => by omega) (fun w => by have h8 := of_decide_eq_true w.2; have h7 := w.1; omega)) (by omega); exact hA)⟩ (show (fv_131 45).toInt = 1 ↔ ((fv 45).toInt = 1 ∨ rd_T b9 n9 k9 = 6) from by have h6 : (fv_131 45).toInt = (fv 45).toInt := congrArg Int32.toInt ((fr_134 45 rfl).trans ((fr_68 45 rfl).trans ((fr_11 45 rfl)))); omega) (show (fv_131 45).toInt = 0 ∨ (fv_131 45).toInt = 1 from by have h6 : (fv_131 45).toInt = (fv 45).toInt := congrArg Int32.toInt ((fr_134 45 rfl).trans ((fr_68 45 rfl).trans ((fr_11 45 rfl)))); omega) hP hS (lv_sub hl [2, 1, 0] rfl)
              · skip
                have i_141 : 1 ≤ r_127.toInt ∧ r_127.toInt ≤ 1 := iv_nel p_128 (by decide) c_137
                have k_143 : rd_T b9 n9 (k9 + 1) = 22 := by omega
                clear k_136
                refine lv_aload_n hx hb dX12_readLine_107 rfl (lv_at hl 2 rfl) ?_
                refine gM_51 hx hb htg hown hK hP dX12_readLine_108 ?_
                refine lv_iload_n hx hb dX12_readLine_111 rfl (lv_at hl 0 rfl) ?_
                refine lv_iconst (v := 0) hx hb dX12_readLine_112 (by decide) ?_
                refine sM_51 hx hb hK hP hS hd (iv_in t_41.2 (by decide) (by decide)) dX12_readLine_113 (fun H locs ar_144 ear_144 hP hS => ?_)
                have hA_ar_144 : rA ar_144 := rA_put hA_ar_133 ear_144 (iv_any _)
                refine lv_aload_n hx hb dX12_readLine_114 rfl (lv_at hl 2 rfl) ?_
                have z_145 : (fv_131 37).toInt = (fv 37).toInt := congrArg Int32.toInt ((fr_134 37 rfl).trans ((fr_68 37 rfl).trans ((fr_11 37 rfl))))
                have z_146 : 0 ≤ (fv_131 37).toInt ∧ (fv_131 37).toInt ≤ 340 := hF_fv_131 37
                have z_147 : (fv_131 38).toInt = (fv_65 38).toInt := congrArg Int32.toInt ((fr_134 38 rfl))
                have z_148 : 0 ≤ (fv_131 38).toInt ∧ (fv_131 38).toInt ≤ 340 := hF_fv_131 38
                have z_149 : (fv_131 37).toInt = (fv 37).toInt := congrArg Int32.toInt ((fr_134 37 rfl).trans ((fr_68 37 rfl).trans ((fr_11 37 rfl))))
                have z_150 : 0 ≤ (fv_131 37).toInt ∧ (fv_131 37).toInt ≤ 340 := hF_fv_131 37
                have z_151 : (fv_131 38).toInt = (fv_65 38).toInt := congrArg Int32.toInt ((fr_134 38 rfl))
                have z_152 : 0 ≤ (fv_131 38).toInt ∧ (fv_131 38).toInt ≤ 340 := hF_fv_131 38
                have z_153 : (fv_131 37).toInt = (fv 37).toInt := congrArg Int32.toInt ((fr_134 37 rfl).trans ((fr_68 37 rfl).trans ((fr_11 37 rfl))))
                have z_154 : 0 ≤ (fv_131 37).toInt ∧ (fv_131 37).toInt ≤ 340 := hF_fv_131 37
                refine va_callv (va_runV (As := []) (rest := []) ⟨hx, hb, hml, hown, hts⟩ (m_goC l dC dI H.size h ad cA hd fv_131 wd_66 ar_144 hF_fv_131 hA_ar_144 ((k9 + 1) + 1) (rd_hto (rd_mt_eq m_70 ((fM_call (fM_rf [] _) fr_134 (by decide)) 37 rfl) ((fM_call (fM_rf [] _) fr_134 (by decide)) 38 rfl) ((fM_call (fM_rf [] _) fr_134 (by decide)) 39 rfl) ((fM_call (fM_rf [] _) fr_134 (by decide)) 40 rfl) ((fM_call (fM_rf [] _) fr_134 (by decide)) 42 rfl) ((fM_call (fM_rf [] _) fr_134 (by decide)) 41 rfl) rfl) (by omega) (hb9.trans (congrArg rd_b (show ar_144 1 = ar 1 from ((fA_put (fA_call (fA_call (fA_put (fA_put (fA_put (fA_call (fA_rf [50, 51, 52] _) fa_12 (by decide)) ear_43 (by decide)) ear_44 (by decide)) ear_46 (by decide)) fa_69 (by decide)) fa_135 (by decide)) ear_144 (by decide)) 1 rfl)).symm))) (rd_mt_to (rd_mt_eq m_70 ((fM_call (fM_rf [] _) fr_134 (by decide)) 37 rfl) ((fM_call (fM_rf [] _) fr_134 (by decide)) 38 rfl) ((fM_call (fM_rf [] _) fr_134 (by decide)) 39 rfl) ((fM_call (fM_rf [] _) fr_134 (by decide)) 40 rfl) ((fM_call (fM_rf [] _) fr_134 (by decide)) 42 rfl) ((fM_call (fM_rf [] _) fr_134 (by decide)) 41 rfl) rfl) (by omega)).2) (cwV 0 hts (gV kw_8_60 kw_8_62 kw_p_64 kw_1_15 kw_8_63) rfl rfl rfl (by decide +kernel) ⟨Nat.le_of_ble_eq_true rfl, Nat.le_of_ble_eq_true rfl⟩) ⟨fun a U g mk q => ⟨q.1, q.2.1, q.2.2.1, va_K.moved (u := U) (U := U.calling g mk a) (Vm.Alike.refl U.vm) q.2.2.2⟩, va_recv hK hP (ci := 12) (q0 := 0) rfl rfl, fun U hU hW => ⟨rfl, by rw [hU], by rw [hU]; exact hP, va_K.moved hW.alike hK⟩⟩ rfl rfl hl.1 rfl (lv_room (Nat.le_of_ble_eq_true rfl)) dX12_readLine_115 ⟨Nat.le_of_ble_eq_true rfl, Nat.le_of_ble_eq_true rfl⟩) hS (fun q _ h9 => aM_up hS q h9) (aM_up hS) (fun u t H1 locs ht _ hw hB _ hk1 hS => ?_)
                obtain ⟨fv_159, wd_160, ar_161⟩ := u
                obtain ⟨hF_fv_159, hA_ar_161, fr_162, fa_163, p_156, p_157, p_158, -⟩ := hw
                have hP : va_P (dC, dI) vwCl (wsM h ad cA fv_159 wd_160 ar_161) H1 := by have h9 := hB.1; rw [ht] at h9; exact h9
                have fr_162 : fM [38, 39, 40, 41, 42] fv_131 fv_159 := fr_162
                have fa_163 : fA [] ar_144 ar_161 := fa_163
                have p_156 : (fv_159 39).toInt = (rd_S (rd_b (ar_144 1)) (fv_131 37).toInt.toNat ((k9 + 1) + 1) : Nat) := p_156
                have p_157 : rd_st (rd_b (ar_144 1)) (fv_131 37).toInt.toNat ((k9 + 1) + 1) < rd_lim ((fv_131 37).toInt.toNat) → (fv_159 38).toInt = (rd_en (rd_b (ar_144 1)) (fv_131 37).toInt.toNat (((k9 + 1) + 1) + 1) : Nat) := p_157
                have p_158 : rd_rel (rd_T (rd_b (ar_144 1)) (fv_131 37).toInt.toNat ((k9 + 1) + 1)) (rd_N (rd_b (ar_144 1)) (fv_131 37).toInt.toNat ((k9 + 1) + 1)) (fv_159 40) (fv_159 42) (fv_159 41) wd_160 := p_158
                generalize H1 = H at hP hS ⊢
                have m_164 : rd_mt b9 n9 ((k9 + 1) + 1) (fv_159 37) (fv_159 38) (fv_159 39) (fv_159 40) (fv_159 42) (fv_159 41) wd_160 := rd_mt_go (k := (k9 + 1)) (rd_mt_eq m_70 ((fM_call (fM_rf [] _) fr_134 (by decide)) 37 rfl) ((fM_call (fM_rf [] _) fr_134 (by decide)) 38 rfl) ((fM_call (fM_rf [] _) fr_134 (by decide)) 39 rfl) ((fM_call (fM_rf [] _) fr_134 (by decide)) 40 rfl) ((fM_call (fM_rf [] _) fr_134 (by decide)) 42 rfl) ((fM_call (fM_rf [] _) fr_134 (by decide)) 41 rfl) rfl) (by omega) (fr_162 37 rfl) (by have h9 := p_156; rw [← (hb9.trans (congrArg rd_b (show ar_144 1 = ar 1 from ((fA_put (fA_call (fA_call (fA_put (fA_put (fA_put (fA_call (fA_rf [50, 51, 52] _) fa_12 (by decide)) ear_43 (by decide)) ear_44 (by decide)) ear_46 (by decide)) fa_69 (by decide)) fa_135 (by decide)) ear_144 (by decide)) 1 rfl)).symm)), show (fv_131 37).toInt.toNat = n9 from (by have h8 := (rd_mt_eq m_70 ((fM_call (fM_rf [] _) fr_134 (by decide)) 37 rfl) ((fM_call (fM_rf [] _) fr_134 (by decide)) 38 rfl) ((fM_call (fM_rf [] _) fr_134 (by decide)) 39 rfl) ((fM_call (fM_rf [] _) fr_134 (by decide)) 40 rfl) ((fM_call (fM_rf [] _) fr_134 (by decide)) 42 rfl) ((fM_call (fM_rf [] _) fr_134 (by decide)) 41 rfl) rfl).1; omega)] at h9; exact h9) (by have h9 := p_157; rw [← (hb9.trans (congrArg rd_b (show ar_144 1 = ar 1 from ((fA_put (fA_call (fA_call (fA_put (fA_put (fA_put (fA_call (fA_rf [50, 51, 52] _) fa_12 (by decide)) ear_43 (by decide)) ear_44 (by decide)) ear_46 (by decide)) fa_69 (by decide)) fa_135 (by decide)) ear_144 (by decide)) 1 rfl)).symm)), show (fv_131 37).toInt.toNat = n9 from (by have h8 := (rd_mt_eq m_70 ((fM_call (fM_rf [] _) fr_134 (by decide)) 37 rfl) ((fM_call (fM_rf [] _) fr_134 (by decide)) 38 rfl) ((fM_call (fM_rf [] _) fr_134 (by decide)) 39 rfl) ((fM_call (fM_rf [] _) fr_134 (by decide)) 40 rfl) ((fM_call (fM_rf [] _) fr_134 (by decide)) 42 rfl) ((fM_call (fM_rf [] _) fr_134 (by decide)) 41 rfl) rfl).1; omega)] at h9; exact h9) (by have h9 := p_158; rw [← (hb9.trans (congrArg rd_b (show ar_144 1 = ar 1 from ((fA_put (fA_call (fA_call (fA_put (fA_put (fA_put (fA_call (fA_rf [50, 51, 52] _) fa_12 (by decide)) ear_43 (by decide)) ear_44 (by decide)) ear_46 (by decide)) fa_69 (by decide)) fa_135 (by decide)) ear_144 (by decide)) 1 rfl)).symm)), show (fv_131 37).toInt.toNat = n9 from (by have h8 := (rd_mt_eq m_70 ((fM_call (fM_rf [] _) fr_134 (by decide)) 37 rfl) ((fM_call (fM_rf [] _) fr_134 (by decide)) 38 rfl) ((fM_call (fM_rf [] _) fr_134 (by decide)) 39 rfl) ((fM_call (fM_rf [] _) fr_134 (by decide)) 40 rfl) ((fM_call (fM_rf [] _) fr_134 (by decide)) 42 rfl) ((fM_call (fM_rf [] _) fr_134 (by decide)) 41 rfl) rfl).1; omega)] at h9; exact h9)
                have k_165 := rd_mt_k m_164
                refine lv_goto (tgt := 182) hx hb dX12_readLine_118 (by decide) ?_
                exact hj_176 fv_159 ar_161 wd_160 _ _ ls hF_fv_159 (fM_call (fM_call (fM_rf [38, 39, 40, 41, 42] _) fr_134 (by decide)) fr_162 (by decide)) hA_ar_161 (fA_call (fA_put (fA_call (fA_rf [51] _) fa_135 (by decide)) ear_144 (by decide)) fa_163 (by decide)) (rL_fr hp_48 (fM_call (fM_call (fM_call (fM_rf [38, 39, 40, 41, 42] _) fr_68 (by decide)) fr_134 (by decide)) fr_162 (by decide)) (fA_call (fA_put (fA_call (fA_call (fA_rf [51] _) fa_69 (by decide)) fa_135 (by decide)) ear_144 (by decide)) fa_163 (by decide)) rfl rfl rfl rfl rfl) (vM_fr hp_47 (fM_call (fM_call (fM_call (fM_rf [38, 39, 40, 41, 42] _) fr_68 (by decide)) fr_134 (by decide)) fr_162 (by decide)) (fA_call (fA_put (fA_call (fA_call (fA_rf [51] _) fa_69 (by decide)) fa_135 (by decide)) ear_144 (by decide)) fa_163 (by decide)) rfl rfl rfl rfl rfl) ⟨((k9 + 1) + 1), m_164, (by have hA : rd_ln (rd_T b9 n9) (rd_N b9 n9) k9 ((fv 62).toInt.toNat) ((fv 59).toInt.toNat) (decide ((fv 45).toInt = 1)) = rd_l2 (rd_T b9 n9) (rd_T b9 n9 k9) ((k9 + 1) + 1) ((fv 62).toInt.toNat) := rd_ln_s2 (by omega) (fun w => w.elim (fun w => by omega) (fun w => by have h8 := of_decide_eq_true w.2; have h7 := w.1; omega)) (by omega); exact hA)⟩ (show (fv_159 45).toInt = 1 ↔ ((fv 45).toInt = 1 ∨ rd_T b9 n9 k9 = 6) from by have h6 : (fv_159 45).toInt = (fv 45).toInt := congrArg Int32.toInt ((fr_162 45 rfl).trans ((fr_134 45 rfl).trans ((fr_68 45 rfl).trans ((fr_11 45 rfl))))); omega) (show (fv_159 45).toInt = 0 ∨ (fv_159 45).toInt = 1 from by have h6 : (fv_159 45).toInt = (fv 45).toInt := congrArg Int32.toInt ((fr_162 45 rfl).trans ((fr_134 45 rfl).trans ((fr_68 45 rfl).trans ((fr_11 45 rfl))))); omega) hP hS (lv_sub hl [2, 1, 0] rfl)
        · skip
          exact absurd True.intro (by have h7 := i_38; have h8 := (⟨by decide, by decide⟩ : (6 : Int) ≤ (6 : Int32).toInt ∧ (6 : Int32).toInt ≤ 6); have h9 := congrArg Int32.toInt c_49; exfalso; omega)
      · skip
        have i_422 : 6 ≤ r_4.toInt ∧ r_4.toInt ≤ 6 := iv_eq1 (⟨by decide, by decide⟩ : (6 : Int) ≤ (6 : Int32).toInt ∧ (6 : Int32).toInt ≤ 6) c_37
        refine lv_aload_n hx hb dX12_readLine_31 rfl (lv_at hl 1 rfl) ?_
        refine gM_45 hx hb htg hown hK hP dX12_readLine_32 ?_
        refine my_ti (y := fv 45) ((fr_11 45 rfl)) ?_
        refine lv_iconst (v := 1) hx hb dX12_readLine_35 (by decide) ?_
        refine lv_iand hx hb dX12_readLine_36 ?_
        refine lv_topi (fun v_424 ev_424 => ?_)
        have i_425 : 0 ≤ v_424.toInt ∧ v_424.toInt ≤ 1 := iv_1 ev_424
        have k_426 := rd_and1 ev_424 htd
        refine lv_iconst (v := 1) hx hb dX12_readLine_37 (by decide) ?_
        refine lv_icmp_ne (tgt := 47) hx hb dX12_readLine_38 (by decide) (fun c_427 => ?_) (fun c_427 => ?_)
        · skip
          have i_428 : 0 ≤ v_424.toInt ∧ v_424.toInt ≤ 0 := iv_neh i_425 (by decide) c_427
          refine lv_sipush (v := 160) hx hb dX12_readLine_47 (by decide) ?_
          refine lv_aload_n hx hb dX12_readLine_50 rfl (lv_at hl 1 rfl) ?_
          refine gM_59 hx hb htg hown hK hP dX12_readLine_51 ?_
          refine my_ti (y := fv 59) ((fr_11 59 rfl)) ?_
          refine lv_iadd hx hb dX12_readLine_54 ?_
          refine lv_topi (fun v_430 ev_430 => ?_)
          have t_431 : v_430.toInt = (fv 59).toInt + 160 ∧ 160 ≤ v_430.toInt ∧ v_430.toInt ≤ 175 := iv_addc (by rw [ev_430, Int32.add_comm]) i_35 (by decide) (by decide) (by decide)
          refine lv_istore_n (lv' := [(2, .int v_430), (1, .int r_4), (0, .ref h)]) hx hb dX12_readLine_55 rfl hl (by decide) rfl (fun ls hl => ?_)
          refine lv_aload_n hx hb dX12_readLine_56 rfl (lv_at hl 2 rfl) ?_
          refine gM_50 hx hb htg hown hK hP dX12_readLine_57 ?_
          refine lv_iload_n hx hb dX12_readLine_60 rfl (lv_at hl 0 rfl) ?_
          refine lv_iload_n hx hb dX12_readLine_61 rfl (lv_at hl 1 rfl) ?_
          refine sM_50 hx hb hK hP hS hd (iv_in t_431.2 (by decide) (by decide)) dX12_readLine_62 (fun H locs ar_433 ear_433 hP hS => ?_)
          have hA_ar_433 : rA ar_433 := rA_put hA_ar_10 ear_433 (iv_any _)
          refine lv_aload_n hx hb dX12_readLine_63 rfl (lv_at hl 2 rfl) ?_
          refine gM_51 hx hb htg hown hK hP dX12_readLine_64 ?_
          refine lv_iload_n hx hb dX12_readLine_67 rfl (lv_at hl 0 rfl) ?_
          refine lv_iconst (v := 1) hx hb dX12_readLine_68 (by decide) ?_
          refine sM_51 hx hb hK hP hS hd (iv_in t_431.2 (by decide) (by decide)) dX12_readLine_69 (fun H locs ar_434 ear_434 hP hS => ?_)
          have hA_ar_434 : rA ar_434 := rA_put hA_ar_433 ear_434 (iv_any _)
          refine lv_aload_n hx hb dX12_readLine_70 rfl (lv_at hl 2 rfl) ?_
          refine gM_52 hx hb htg hown hK hP dX12_readLine_71 ?_
          refine lv_iload_n hx hb dX12_readLine_74 rfl (lv_at hl 0 rfl) ?_
          refine lv_aload_n hx hb dX12_readLine_75 rfl (lv_at hl 2 rfl) ?_
          refine gM_60 hx hb htg hown hK hP dX12_readLine_76 ?_
          refine my_ti (y := fv 60) ((fr_11 60 rfl)) ?_
          have i_435 : 0 ≤ (fv 60).toInt ∧ (fv 60).toInt ≤ 120 := hF_fv 60
          refine sM_52 hx hb hK hP hS hd (iv_in t_431.2 (by decide) (by decide)) dX12_readLine_79 (fun H locs ar_436 ear_436 hP hS => ?_)
          have hA_ar_436 : rA ar_436 := rA_put hA_ar_434 ear_436 i_435
          have hp_437 : vM fv_8 ar_436 := vM_52 (vM_fr hp_vM (fM_call (fM_rf [] _) fr_11 (by decide)) (fA_put (fA_put (fA_call (fA_rf [50, 51] _) fa_12 (by decide)) ear_433 (by decide)) ear_434 (by decide)) rfl rfl rfl rfl rfl) hA_ar_434 ear_436 (by have h58 : (0 : Int) ≤ (fv_8 58).toInt ∧ (fv_8 58).toInt ≤ 10 := hF_fv_8 58; have h57 : (fv_8 58).toInt = (fv 58).toInt := congrArg Int32.toInt ((fr_11 58 rfl)); show _ ≤ ((v_430.toInt.toNat : Nat) : Int); omega)
          have hp_438 : rL fv_8 ar_436 := rL_52 (rL_fr hp_rL (fM_call (fM_rf [] _) fr_11 (by decide)) (fA_put (fA_put (fA_call (fA_rf [50, 51] _) fa_12 (by decide)) ear_433 (by decide)) ear_434 (by decide)) rfl rfl rfl rfl rfl) ear_436 (by have h57 : (fv_8 59).toInt = (fv 59).toInt := congrArg Int32.toInt ((fr_11 59 rfl)); show ((v_430.toInt.toNat : Nat) : Int) < 160 ∨ _ ≤ ((v_430.toInt.toNat : Nat) : Int); omega)
          refine lv_iload_n hx hb dX12_readLine_80 rfl (lv_at hl 1 rfl) ?_
          refine lv_bipush (v := 6) hx hb dX12_readLine_81 (by decide) ?_
          refine lv_icmp_ne (tgt := 91) hx hb dX12_readLine_83 (by decide) (fun c_439 => ?_) (fun c_439 => ?_)
          · skip
            exact absurd True.intro (by have h7 := i_422; have h8 := (⟨by decide, by decide⟩ : (6 : Int) ≤ (6 : Int32).toInt ∧ (6 : Int32).toInt ≤ 6); have h9 : ¬ _ := fun q => c_439 (Int32.toInt_inj.mp q); exfalso; omega)
          · skip
            refine lv_aload_n hx hb dX12_readLine_86 rfl (lv_at hl 2 rfl) ?_
            refine lv_iconst (v := 1) hx hb dX12_readLine_87 (by decide) ?_
            refine pM_45 hx hb htg hown hK hP hS hd dX12_readLine_88 (fun H locs fv_441 efv_441 hP hS => ?_)
            have hF_fv_441 : rF fv_441 := rF_put hF_fv_8 efv_441 (iv_any _)
            refine lv_aload_n hx hb dX12_readLine_91 rfl (lv_at hl 2 rfl) ?_
            have z_442 : (fv_441 37).toInt = (fv 37).toInt := congrArg Int32.toInt ((congrFun efv_441 37).trans ((fr_11 37 rfl)))
            have z_443 : 0 ≤ (fv_441 37).toInt ∧ (fv_441 37).toInt ≤ 340 := hF_fv_441 37
            have z_444 : (fv_441 38).toInt = (fv 38).toInt := congrArg Int32.toInt ((congrFun efv_441 38).trans ((fr_11 38 rfl)))
            have z_445 : 0 ≤ (fv_441 38).toInt ∧ (fv_441 38).toInt ≤ 340 := hF_fv_441 38
            have z_446 : (fv_441 37).toInt = (fv 37).toInt := congrArg Int32.toInt ((congrFun efv_441 37).trans ((fr_11 37 rfl)))
            have z_447 : 0 ≤ (fv_441 37).toInt ∧ (fv_441 37).toInt ≤ 340 := hF_fv_441 37
            have z_448 : (fv_441 38).toInt = (fv 38).toInt := congrArg Int32.toInt ((congrFun efv_441 38).trans ((fr_11 38 rfl)))
            have z_449 : 0 ≤ (fv_441 38).toInt ∧ (fv_441 38).toInt ≤ 340 := hF_fv_441 38
            have z_450 : (fv_441 37).toInt = (fv 37).toInt := congrArg Int32.toInt ((congrFun efv_441 37).trans ((fr_11 37 rfl)))
            have z_451 : 0 ≤ (fv_441 37).toInt ∧ (fv_441 37).toInt ≤ 340 := hF_fv_441 37
            refine va_callv (va_runV (As := []) (rest := []) ⟨hx, hb, hml, hown, hts⟩ (m_goC l dC dI H.size h ad cA hd fv_441 wd ar_436 hF_fv_441 hA_ar_436 (k9 + 1) (rd_hto (rd_mt_eq hmt ((fM_put (fM_call (fM_rf [45] _) fr_11 (by decide)) efv_441 (by decide)) 37 rfl) ((fM_put (fM_call (fM_rf [45] _) fr_11 (by decide)) efv_441 (by decide)) 38 rfl) ((fM_put (fM_call (fM_rf [45] _) fr_11 (by decide)) efv_441 (by decide)) 39 rfl) ((fM_put (fM_call (fM_rf [45] _) fr_11 (by decide)) efv_441 (by decide)) 40 rfl) ((fM_put (fM_call (fM_rf [45] _) fr_11 (by decide)) efv_441 (by decide)) 42 rfl) ((fM_put (fM_call (fM_rf [45] _) fr_11 (by decide)) efv_441 (by decide)) 41 rfl) rfl) (by omega) (hb9.trans (congrArg rd_b (show ar_436 1 = ar 1 from ((fA_put (fA_put (fA_put (fA_call (fA_rf [50, 51, 52] _) fa_12 (by decide)) ear_433 (by decide)) ear_434 (by decide)) ear_436 (by decide)) 1 rfl)).symm))) (rd_mt_to (rd_mt_eq hmt ((fM_put (fM_call (fM_rf [45] _) fr_11 (by decide)) efv_441 (by decide)) 37 rfl) ((fM_put (fM_call (fM_rf [45] _) fr_11 (by decide)) efv_441 (by decide)) 38 rfl) ((fM_put (fM_call (fM_rf [45] _) fr_11 (by decide)) efv_441 (by decide)) 39 rfl) ((fM_put (fM_call (fM_rf [45] _) fr_11 (by decide)) efv_441 (by decide)) 40 rfl) ((fM_put (fM_call (fM_rf [45] _) fr_11 (by decide)) efv_441 (by decide)) 42 rfl) ((fM_put (fM_call (fM_rf [45] _) fr_11 (by decide)) efv_441 (by decide)) 41 rfl) rfl) (by omega)).2) (cwV 0 hts (gV kw_8_60 kw_8_62 kw_p_64 kw_1_15 kw_8_63) rfl rfl rfl (by decide +kernel) ⟨Nat.le_of_ble_eq_true rfl, Nat.le_of_ble_eq_true rfl⟩) ⟨fun a U g mk q => ⟨q.1, q.2.1, q.2.2.1, va_K.moved (u := U) (U := U.calling g mk a) (Vm.Alike.refl U.vm) q.2.2.2⟩, va_recv hK hP (ci := 12) (q0 := 0) rfl rfl, fun U hU hW => ⟨rfl, by rw [hU], by rw [hU]; exact hP, va_K.moved hW.alike hK⟩⟩ rfl rfl hl.1 rfl (lv_room (Nat.le_of_ble_eq_true rfl)) dX12_readLine_92 ⟨Nat.le_of_ble_eq_true rfl, Nat.le_of_ble_eq_true rfl⟩) hS (fun q _ h9 => aM_up hS q h9) (aM_up hS) (fun u t H1 locs ht _ hw hB _ hk1 hS => ?_)
            obtain ⟨fv_456, wd_457, ar_458⟩ := u
            obtain ⟨hF_fv_456, hA_ar_458, fr_459, fa_460, p_453, p_454, p_455, -⟩ := hw
            have hP : va_P (dC, dI) vwCl (wsM h ad cA fv_456 wd_457 ar_458) H1 := by have h9 := hB.1; rw [ht] at h9; exact h9
            have fr_459 : fM [38, 39, 40, 41, 42] fv_441 fv_456 := fr_459
            have fa_460 : fA [] ar_436 ar_458 := fa_460
            have p_453 : (fv_456 39).toInt = (rd_S (rd_b (ar_436 1)) (fv_441 37).toInt.toNat (k9 + 1) : Nat) := p_453
            have p_454 : rd_st (rd_b (ar_436 1)) (fv_441 37).toInt.toNat (k9 + 1) < rd_lim ((fv_441 37).toInt.toNat) → (fv_456 38).toInt = (rd_en (rd_b (ar_436 1)) (fv_441 37).toInt.toNat ((k9 + 1) + 1) : Nat) := p_454
            have p_455 : rd_rel (rd_T (rd_b (ar_436 1)) (fv_441 37).toInt.toNat (k9 + 1)) (rd_N (rd_b (ar_436 1)) (fv_441 37).toInt.toNat (k9 + 1)) (fv_456 40) (fv_456 42) (fv_456 41) wd_457 := p_455
            generalize H1 = H at hP hS ⊢
            have m_461 : rd_mt b9 n9 (k9 + 1) (fv_456 37) (fv_456 38) (fv_456 39) (fv_456 40) (fv_456 42) (fv_456 41) wd_457 := rd_mt_go (k := k9) (rd_mt_eq hmt ((fM_put (fM_call (fM_rf [45] _) fr_11 (by decide)) efv_441 (by decide)) 37 rfl) ((fM_put (fM_call (fM_rf [45] _) fr_11 (by decide)) efv_441 (by decide)) 38 rfl) ((fM_put (fM_call (fM_rf [45] _) fr_11 (by decide)) efv_441 (by decide)) 39 rfl) ((fM_put (fM_call (fM_rf [45] _) fr_11 (by decide)) efv_441 (by decide)) 40 rfl) ((fM_put (fM_call (fM_rf [45] _) fr_11 (by decide)) efv_441 (by decide)) 42 rfl) ((fM_put (fM_call (fM_rf [45] _) fr_11 (by decide)) efv_441 (by decide)) 41 rfl) rfl) (by omega) (fr_459 37 rfl) (by have h9 := p_453; rw [← (hb9.trans (congrArg rd_b (show ar_436 1 = ar 1 from ((fA_put (fA_put (fA_put (fA_call (fA_rf [50, 51, 52] _) fa_12 (by decide)) ear_433 (by decide)) ear_434 (by decide)) ear_436 (by decide)) 1 rfl)).symm)), show (fv_441 37).toInt.toNat = n9 from (by have h8 := (rd_mt_eq hmt ((fM_put (fM_call (fM_rf [45] _) fr_11 (by decide)) efv_441 (by decide)) 37 rfl) ((fM_put (fM_call (fM_rf [45] _) fr_11 (by decide)) efv_441 (by decide)) 38 rfl) ((fM_put (fM_call (fM_rf [45] _) fr_11 (by decide)) efv_441 (by decide)) 39 rfl) ((fM_put (fM_call (fM_rf [45] _) fr_11 (by decide)) efv_441 (by decide)) 40 rfl) ((fM_put (fM_call (fM_rf [45] _) fr_11 (by decide)) efv_441 (by decide)) 42 rfl) ((fM_put (fM_call (fM_rf [45] _) fr_11 (by decide)) efv_441 (by decide)) 41 rfl) rfl).1; omega)] at h9; exact h9) (by have h9 := p_454; rw [← (hb9.trans (congrArg rd_b (show ar_436 1 = ar 1 from ((fA_put (fA_put (fA_put (fA_call (fA_rf [50, 51, 52] _) fa_12 (by decide)) ear_433 (by decide)) ear_434 (by decide)) ear_436 (by decide)) 1 rfl)).symm)), show (fv_441 37).toInt.toNat = n9 from (by have h8 := (rd_mt_eq hmt ((fM_put (fM_call (fM_rf [45] _) fr_11 (by decide)) efv_441 (by decide)) 37 rfl) ((fM_put (fM_call (fM_rf [45] _) fr_11 (by decide)) efv_441 (by decide)) 38 rfl) ((fM_put (fM_call (fM_rf [45] _) fr_11 (by decide)) efv_441 (by decide)) 39 rfl) ((fM_put (fM_call (fM_rf [45] _) fr_11 (by decide)) efv_441 (by decide)) 40 rfl) ((fM_put (fM_call (fM_rf [45] _) fr_11 (by decide)) efv_441 (by decide)) 42 rfl) ((fM_put (fM_call (fM_rf [45] _) fr_11 (by decide)) efv_441 (by decide)) 41 rfl) rfl).1; omega)] at h9; exact h9) (by have h9 := p_455; rw [← (hb9.trans (congrArg rd_b (show ar_436 1 = ar 1 from ((fA_put (fA_put (fA_put (fA_call (fA_rf [50, 51, 52] _) fa_12 (by decide)) ear_433 (by decide)) ear_434 (by decide)) ear_436 (by decide)) 1 rfl)).symm)), show (fv_441 37).toInt.toNat = n9 from (by have h8 := (rd_mt_eq hmt ((fM_put (fM_call (fM_rf [45] _) fr_11 (by decide)) efv_441 (by decide)) 37 rfl) ((fM_put (fM_call (fM_rf [45] _) fr_11 (by decide)) efv_441 (by decide)) 38 rfl) ((fM_put (fM_call (fM_rf [45] _) fr_11 (by decide)) efv_441 (by decide)) 39 rfl) ((fM_put (fM_call (fM_rf [45] _) fr_11 (by decide)) efv_441 (by decide)) 40 rfl) ((fM_put (fM_call (fM_rf [45] _) fr_11 (by decide)) efv_441 (by decide)) 42 rfl) ((fM_put (fM_call (fM_rf [45] _) fr_11 (by decide)) efv_441 (by decide)) 41 rfl) rfl).1; omega)] at h9; exact h9)
            have k_462 := rd_mt_k m_461
            refine lv_iload_n hx hb dX12_readLine_95 rfl (lv_at hl 1 rfl) ?_
            refine lv_iconst (v := 2) hx hb dX12_readLine_96 (by decide) ?_
            refine lv_icmp_ge (tgt := 121) hx hb dX12_readLine_97 (by decide) (fun c_463 => ?_) (fun c_463 => ?_)
            · skip
              refine lv_aload_n hx hb dX12_readLine_121 rfl (lv_at hl 2 rfl) ?_
              refine gM_40 hx hb htg hown hK hP dX12_readLine_122 ?_
              refine lv_iconst (v := 3) hx hb dX12_readLine_125 (by decide) ?_
              refine lv_icmp_eq (tgt := 135) hx hb dX12_readLine_126 (by decide) (fun c_464 => ?_) (fun c_464 => ?_)
              · skip
                have i_465 : 3 ≤ (fv_456 40).toInt ∧ (fv_456 40).toInt ≤ 3 := iv_eq1 (⟨by decide, by decide⟩ : (3 : Int) ≤ (3 : Int32).toInt ∧ (3 : Int32).toInt ≤ 3) c_464
                have k_467 : rd_T b9 n9 (k9 + 1) = 29 := (m_461.2.2.1).2.1.mp (by omega)
                refine lv_aload_n hx hb dX12_readLine_135 rfl (lv_at hl 2 rfl) ?_
                refine gM_41 hx hb htg hown hK hP dX12_readLine_136 ?_
                refine lv_sipush (v := 2000) hx hb dX12_readLine_139 (by decide) ?_
                refine lv_icmp_le (tgt := 151) hx hb dX12_readLine_142 (by decide) (fun c_468 => ?_) (fun c_468 => ?_)
                · skip
                  have i_469 : (-2147483648) ≤ (fv_456 41).toInt ∧ (fv_456 41).toInt ≤ 2000 := iv_le1 (iv_any (fv_456 41)) (⟨by decide, by decide⟩ : (2000 : Int) ≤ (2000 : Int32).toInt ∧ (2000 : Int32).toInt ≤ 2000) c_468
                  refine lv_aload_n hx hb dX12_readLine_151 rfl (lv_at hl 2 rfl) ?_
                  refine gM_51 hx hb htg hown hK hP dX12_readLine_152 ?_
                  refine lv_iload_n hx hb dX12_readLine_155 rfl (lv_at hl 0 rfl) ?_
                  refine lv_aload_n hx hb dX12_readLine_156 rfl (lv_at hl 2 rfl) ?_
                  refine gM_41 hx hb htg hown hK hP dX12_readLine_157 ?_
                  refine sM_51 hx hb hK hP hS hd (iv_in t_431.2 (by decide) (by decide)) dX12_readLine_160 (fun H locs ar_470 ear_470 hP hS => ?_)
                  have hA_ar_470 : rA ar_470 := rA_put hA_ar_458 ear_470 (iv_any _)
                  refine lv_iload_n hx hb dX12_readLine_161 rfl (lv_at hl 1 rfl) ?_
                  refine lv_bipush (v := 6) hx hb dX12_readLine_162 (by decide) ?_
                  refine lv_icmp_ne (tgt := 178) hx hb dX12_readLine_164 (by decide) (fun c_471 => ?_) (fun c_471 => ?_)
                  · skip
                    exact absurd True.intro (by have h7 := i_422; have h8 := (⟨by decide, by decide⟩ : (6 : Int) ≤ (6 : Int32).toInt ∧ (6 : Int32).toInt ≤ 6); have h9 : ¬ _ := fun q => c_471 (Int32.toInt_inj.mp q); exfalso; omega)
                  · skip
                    refine lv_aload_n hx hb dX12_readLine_167 rfl (lv_at hl 2 rfl) ?_
                    refine gM_48 hx hb htg hown hK hP dX12_readLine_168 ?_
                    refine lv_bipush (v := 10) hx hb dX12_readLine_171 (by decide) ?_
                    refine lv_aload_n hx hb dX12_readLine_173 rfl (lv_at hl 2 rfl) ?_
                    refine gM_41 hx hb htg hown hK hP dX12_readLine_174 ?_
                    refine sM_48 hx hb hK hP hS hd (iv_in (⟨by decide, by decide⟩ : (10 : Int) ≤ (10 : Int32).toInt ∧ (10 : Int32).toInt ≤ 10) (by decide) (by decide)) dX12_readLine_177 (fun H locs ar_473 ear_473 hP hS => ?_)
                    have hA_ar_473 : rA ar_473 := rA_put hA_ar_470 ear_473 (iv_any _)
                    refine lv_aload_n hx hb dX12_readLine_178 rfl (lv_at hl 2 rfl) ?_
                    have z_474 : (fv_456 37).toInt = (fv 37).toInt := congrArg Int32.toInt ((fr_459 37 rfl).trans ((congrFun efv_441 37).trans ((fr_11 37 rfl))))
                    have z_475 : 0 ≤ (fv_456 37).toInt ∧ (fv_456 37).toInt ≤ 340 := hF_fv_456 37
                    have z_476 : 0 ≤ (fv_456 38).toInt ∧ (fv_456 38).toInt ≤ 340 := hF_fv_456 38
                    have z_477 : (fv_456 37).toInt = (fv 37).toInt := congrArg Int32.toInt ((fr_459 37 rfl).trans ((congrFun efv_441 37).trans ((fr_11 37 rfl))))
                    have z_478 : 0 ≤ (fv_456 37).toInt ∧ (fv_456 37).toInt ≤ 340 := hF_fv_456 37
                    have z_479 : 0 ≤ (fv_456 38).toInt ∧ (fv_456 38).toInt ≤ 340 := hF_fv_456 38
                    have z_480 : (fv_456 37).toInt = (fv 37).toInt := congrArg Int32.toInt ((fr_459 37 rfl).trans ((congrFun efv_441 37).trans ((fr_11 37 rfl))))
                    have z_481 : 0 ≤ (fv_456 37).toInt ∧ (fv_456 37).toInt ≤ 340 := hF_fv_456 37
                    refine va_callv (va_runV (As := []) (rest := []) ⟨hx, hb, hml, hown, hts⟩ (m_goC l dC dI H.size h ad cA hd fv_456 wd_457 ar_473 hF_fv_456 hA_ar_473 ((k9 + 1) + 1) (rd_hto m_461 (by omega) (hb9.trans (congrArg rd_b (show ar_473 1 = ar 1 from ((fA_put (fA_put (fA_call (fA_put (fA_put (fA_put (fA_call (fA_rf [48, 50, 51, 52] _) fa_12 (by decide)) ear_433 (by decide)) ear_434 (by decide)) ear_436 (by decide)) fa_460 (by decide)) ear_470 (by decide)) ear_473 (by decide)) 1 rfl)).symm))) (rd_mt_to m_461 (by omega)).2) (cwV 0 hts (gV kw_8_60 kw_8_62 kw_p_64 kw_1_15 kw_8_63) rfl rfl rfl (by decide +kernel) ⟨Nat.le_of_ble_eq_true rfl, Nat.le_of_ble_eq_true rfl⟩) ⟨fun a U g mk q => ⟨q.1, q.2.1, q.2.2.1, va_K.moved (u := U) (U := U.calling g mk a) (Vm.Alike.refl U.vm) q.2.2.2⟩, va_recv hK hP (ci := 12) (q0 := 0) rfl rfl, fun U hU hW => ⟨rfl, by rw [hU], by rw [hU]; exact hP, va_K.moved hW.alike hK⟩⟩ rfl rfl hl.1 rfl (lv_room (Nat.le_of_ble_eq_true rfl)) dX12_readLine_179 ⟨Nat.le_of_ble_eq_true rfl, Nat.le_of_ble_eq_true rfl⟩) hS (fun q _ h9 => aM_up hS q h9) (aM_up hS) (fun u t H1 locs ht _ hw hB _ hk1 hS => ?_)
                    obtain ⟨fv_486, wd_487, ar_488⟩ := u
                    obtain ⟨hF_fv_486, hA_ar_488, fr_489, fa_490, p_483, p_484, p_485, -⟩ := hw
                    have hP : va_P (dC, dI) vwCl (wsM h ad cA fv_486 wd_487 ar_488) H1 := by have h9 := hB.1; rw [ht] at h9; exact h9
                    have fr_489 : fM [38, 39, 40, 41, 42] fv_456 fv_486 := fr_489
                    have fa_490 : fA [] ar_473 ar_488 := fa_490
                    have p_483 : (fv_486 39).toInt = (rd_S (rd_b (ar_473 1)) (fv_456 37).toInt.toNat ((k9 + 1) + 1) : Nat) := p_483
                    have p_484 : rd_st (rd_b (ar_473 1)) (fv_456 37).toInt.toNat ((k9 + 1) + 1) < rd_lim ((fv_456 37).toInt.toNat) → (fv_486 38).toInt = (rd_en (rd_b (ar_473 1)) (fv_456 37).toInt.toNat (((k9 + 1) + 1) + 1) : Nat) := p_484
                    have p_485 : rd_rel (rd_T (rd_b (ar_473 1)) (fv_456 37).toInt.toNat ((k9 + 1) + 1)) (rd_N (rd_b (ar_473 1)) (fv_456 37).toInt.toNat ((k9 + 1) + 1)) (fv_486 40) (fv_486 42) (fv_486 41) wd_487 := p_485
                    generalize H1 = H at hP hS ⊢
                    have m_491 : rd_mt b9 n9 ((k9 + 1) + 1) (fv_486 37) (fv_486 38) (fv_486 39) (fv_486 40) (fv_486 42) (fv_486 41) wd_487 := rd_mt_go (k := (k9 + 1)) m_461 (by omega) (fr_489 37 rfl) (by have h9 := p_483; rw [← (hb9.trans (congrArg rd_b (show ar_473 1 = ar 1 from ((fA_put (fA_put (fA_call (fA_put (fA_put (fA_put (fA_call (fA_rf [48, 50, 51, 52] _) fa_12 (by decide)) ear_433 (by decide)) ear_434 (by decide)) ear_436 (by decide)) fa_460 (by decide)) ear_470 (by decide)) ear_473 (by decide)) 1 rfl)).symm)), show (fv_456 37).toInt.toNat = n9 from (by have h8 := m_461.1; omega)] at h9; exact h9) (by have h9 := p_484; rw [← (hb9.trans (congrArg rd_b (show ar_473 1 = ar 1 from ((fA_put (fA_put (fA_call (fA_put (fA_put (fA_put (fA_call (fA_rf [48, 50, 51, 52] _) fa_12 (by decide)) ear_433 (by decide)) ear_434 (by decide)) ear_436 (by decide)) fa_460 (by decide)) ear_470 (by decide)) ear_473 (by decide)) 1 rfl)).symm)), show (fv_456 37).toInt.toNat = n9 from (by have h8 := m_461.1; omega)] at h9; exact h9) (by have h9 := p_485; rw [← (hb9.trans (congrArg rd_b (show ar_473 1 = ar 1 from ((fA_put (fA_put (fA_call (fA_put (fA_put (fA_put (fA_call (fA_rf [48, 50, 51, 52] _) fa_12 (by decide)) ear_433 (by decide)) ear_434 (by decide)) ear_436 (by decide)) fa_460 (by decide)) ear_470 (by decide)) ear_473 (by decide)) 1 rfl)).symm)), show (fv_456 37).toInt.toNat = n9 from (by have h8 := m_461.1; omega)] at h9; exact h9)
                    have k_492 := rd_mt_k m_491
                    have hA : rd_ln (rd_T b9 n9) (rd_N b9 n9) k9 ((fv 62).toInt.toNat) ((fv 59).toInt.toNat) (decide ((fv 45).toInt = 1)) = rd_l2 (rd_T b9 n9) (rd_T b9 n9 k9) ((k9 + 1) + 1) ((fv 62).toInt.toNat) := rd_ln_v (by omega) (fun w => w.elim (fun w => by omega) (fun w => by have h8 := of_decide_eq_true w.2; have h7 := w.1; omega)) (by have h8 := (m_461.2.2.1).2.1; omega) (by have h8 := (m_461.2.2.1).2.2.1 (by have h8 := (m_461.2.2.1).2.1; omega); omega)
                    refine lv_iload_n hx hb dX12_readLine_182 rfl (lv_at hl 1 rfl) ?_
                    refine lv_bipush (v := 6) hx hb dX12_readLine_183 (by decide) ?_
                    refine lv_icmp_eq (tgt := 218) hx hb dX12_readLine_185 (by decide) (fun c_517 => ?_) (fun c_517 => ?_)
                    · skip
                      have z_519 : (fv_486 62).toInt = (fv 62).toInt := congrArg Int32.toInt ((fr_489 62 rfl).trans ((fr_459 62 rfl).trans ((congrFun efv_441 62).trans ((fr_11 62 rfl)))))
                      have z_520 : 0 ≤ (fv_486 62).toInt ∧ (fv_486 62).toInt ≤ 50 := hF_fv_486 62
                      have hC : rd_ln (rd_T b9 n9) (rd_N b9 n9) k9 ((fv 62).toInt.toNat) ((fv 59).toInt.toNat) (decide ((fv 45).toInt = 1)) = rd_l3 (rd_T b9 n9) (0, ((k9 + 1) + 1), (fv 62).toInt.toNat) := (by have : (fv_486 59).toInt = (fv 59).toInt := congrArg Int32.toInt ((fr_489 59 rfl).trans ((fr_459 59 rfl).trans ((congrFun efv_441 59).trans ((fr_11 59 rfl))))); have : (fv_486 62).toInt = (fv 62).toInt := congrArg Int32.toInt ((fr_489 62 rfl).trans ((fr_459 62 rfl).trans ((congrFun efv_441 62).trans ((fr_11 62 rfl))))); have : (fv_486 63).toInt = (fv 63).toInt := congrArg Int32.toInt ((fr_489 63 rfl).trans ((fr_459 63 rfl).trans ((congrFun efv_441 63).trans ((fr_11 63 rfl))))); have : (fv_486 45).toInt = 1 := (by rw [show fv_486 45 = (1 : Int32) from (fr_489 45 rfl).trans ((fr_459 45 rfl).trans ((congrFun efv_441 45)))]; decide); rw [hA, rd_l2_no (Or.inl (by omega))])
                      have z_521 : (fv_486 59).toInt = (fv 59).toInt := congrArg Int32.toInt ((fr_489 59 rfl).trans ((fr_459 59 rfl).trans ((congrFun efv_441 59).trans ((fr_11 59 rfl)))))
                      have z_522 : 0 ≤ (fv_486 59).toInt ∧ (fv_486 59).toInt ≤ 16 := hF_fv_486 59
                      have z_523 : (fv_486 60).toInt = (fv 60).toInt := congrArg Int32.toInt ((fr_489 60 rfl).trans ((fr_459 60 rfl).trans ((congrFun efv_441 60).trans ((fr_11 60 rfl)))))
                      have z_524 : 0 ≤ (fv_486 60).toInt ∧ (fv_486 60).toInt ≤ 120 := hF_fv_486 60
                      have z_525 : (fv_486 62).toInt = (fv 62).toInt := congrArg Int32.toInt ((fr_489 62 rfl).trans ((fr_459 62 rfl).trans ((congrFun efv_441 62).trans ((fr_11 62 rfl)))))
                      have z_526 : 0 ≤ (fv_486 62).toInt ∧ (fv_486 62).toInt ≤ 50 := hF_fv_486 62
                      have z_527 : (fv_486 63).toInt = (fv 63).toInt := congrArg Int32.toInt ((fr_489 63 rfl).trans ((fr_459 63 rfl).trans ((congrFun efv_441 63).trans ((fr_11 63 rfl)))))
                      have z_528 : (-100) ≤ (fv_486 63).toInt ∧ (fv_486 63).toInt ≤ 10 := hF_fv_486 63
                      have q_529 : vP (ar_488 54) (1200 + (fv 60).toInt.toNat) (1200 + (fv_486 60).toInt.toNat) := (by rw [show (fv_486 60).toInt.toNat = (fv 60).toInt.toNat from by omega]; exact vP_nil _ _)
                      have q_530 : (fv_486 60).toInt ≤ 2 * (fv_486 62).toInt := (by omega)
                      have q_531 : 0 ≤ (fv_486 63).toInt + (fv_486 62).toInt := (by omega)
                      refine lv_aload_n hx hb dX12_readLine_218 rfl (lv_at hl 2 rfl) ?_
                      refine gM_53 hx hb htg hown hK hP dX12_readLine_219 ?_
                      refine lv_iload_n hx hb dX12_readLine_222 rfl (lv_at hl 0 rfl) ?_
                      refine lv_aload_n hx hb dX12_readLine_223 rfl (lv_at hl 2 rfl) ?_
                      refine gM_60 hx hb htg hown hK hP dX12_readLine_224 ?_
                      refine my_ti (y := fv 60) ((fr_489 60 rfl).trans ((fr_459 60 rfl).trans ((congrFun efv_441 60).trans ((fr_11 60 rfl))))) ?_
                      refine sM_53 hx hb hK hP hS hd (iv_in t_431.2 (by decide) (by decide)) dX12_readLine_227 (fun H locs ar_532 ear_532 hP hS => ?_)
                      have hA_ar_532 : rA ar_532 := rA_put hA_ar_488 ear_532 i_435
                      have hp_533 : vM fv_486 ar_532 := vM_53 (vM_fr hp_437 (fM_call (fM_call (fM_put (fM_rf [38, 39, 40, 41, 42, 45] _) efv_441 (by decide)) fr_459 (by decide)) fr_489 (by decide)) (fA_call (fA_put (fA_put (fA_call (fA_rf [48, 51] _) fa_460 (by decide)) ear_470 (by decide)) ear_473 (by decide)) fa_490 (by decide)) rfl rfl rfl rfl rfl) hA_ar_488 ear_532 (by have h58 : (0 : Int) ≤ (fv_486 58).toInt ∧ (fv_486 58).toInt ≤ 10 := hF_fv_486 58; have h57 : (fv_486 58).toInt = (fv 58).toInt := congrArg Int32.toInt ((fr_489 58 rfl).trans ((fr_459 58 rfl).trans ((congrFun efv_441 58).trans ((fr_11 58 rfl))))); show _ ≤ ((v_430.toInt.toNat : Nat) : Int); omega)
                      have hp_534 : rL fv_486 ar_532 := rL_53 (rL_fr hp_438 (fM_call (fM_call (fM_put (fM_rf [38, 39, 40, 41, 42, 45] _) efv_441 (by decide)) fr_459 (by decide)) fr_489 (by decide)) (fA_call (fA_put (fA_put (fA_call (fA_rf [48, 51] _) fa_460 (by decide)) ear_470 (by decide)) ear_473 (by decide)) fa_490 (by decide)) rfl rfl rfl rfl rfl) ear_532 (by have h57 : (fv_486 59).toInt = (fv 59).toInt := congrArg Int32.toInt ((fr_489 59 rfl).trans ((fr_459 59 rfl).trans ((congrFun efv_441 59).trans ((fr_11 59 rfl))))); show ((v_430.toInt.toNat : Nat) : Int) < 160 ∨ _ ≤ ((v_430.toInt.toNat : Nat) : Int); omega)
                      refine lv_aload_n hx hb dX12_readLine_228 rfl (lv_at hl 2 rfl) ?_
                      refine lv_dup hx hb dX12_readLine_229 rfl ?_
                      refine gM_59 hx hb htg hown hK hP dX12_readLine_230 ?_
                      refine my_ti (y := fv 59) ((fr_489 59 rfl).trans ((fr_459 59 rfl).trans ((congrFun efv_441 59).trans ((fr_11 59 rfl))))) ?_
                      refine lv_iconst (v := 1) hx hb dX12_readLine_233 (by decide) ?_
                      refine lv_iadd hx hb dX12_readLine_234 ?_
                      refine lv_topi (fun v_535 ev_535 => ?_)
                      have t_536 : v_535.toInt = (fv 59).toInt + 1 ∧ 1 ≤ v_535.toInt ∧ v_535.toInt ≤ 16 := iv_addc ev_535 i_35 (by decide) (by decide) (by decide)
                      refine pM_59 hx hb htg hown hK hP hS hd dX12_readLine_235 (fun H locs fv_538 efv_538 hP hS => ?_)
                      have hF_fv_538 : rF fv_538 := rF_put hF_fv_486 efv_538 (iv_w t_536.2 (by decide) (by decide))
                      have z_539 : (fv_538 59).toInt = v_535.toInt := congrArg Int32.toInt ((congrFun efv_538 59))
                      have z_540 : 0 ≤ (fv_538 59).toInt ∧ (fv_538 59).toInt ≤ 16 := hF_fv_538 59
                      have z_541 : (fv_538 60).toInt = (fv 60).toInt := congrArg Int32.toInt ((congrFun efv_538 60).trans ((fr_489 60 rfl).trans ((fr_459 60 rfl).trans ((congrFun efv_441 60).trans ((fr_11 60 rfl))))))
                      have z_542 : 0 ≤ (fv_538 60).toInt ∧ (fv_538 60).toInt ≤ 120 := hF_fv_538 60
                      have z_543 : (fv_538 62).toInt = (fv 62).toInt := congrArg Int32.toInt ((congrFun efv_538 62).trans ((fr_489 62 rfl).trans ((fr_459 62 rfl).trans ((congrFun efv_441 62).trans ((fr_11 62 rfl))))))
                      have z_544 : 0 ≤ (fv_538 62).toInt ∧ (fv_538 62).toInt ≤ 50 := hF_fv_538 62
                      have z_545 : (fv_538 63).toInt = (fv 63).toInt := congrArg Int32.toInt ((congrFun efv_538 63).trans ((fr_489 63 rfl).trans ((fr_459 63 rfl).trans ((congrFun efv_441 63).trans ((fr_11 63 rfl))))))
                      have z_546 : (-100) ≤ (fv_538 63).toInt ∧ (fv_538 63).toInt ≤ 10 := hF_fv_538 63
                      have g_547 : ar_532 53 = upd (ar_488 53) (v_430.toInt.toNat) (fv 60) := by rw [ear_532]; rfl
                      have g_548 : ar_488 52 (160 + (fv_486 59).toInt.toNat) = (fv 60) := by rw [((fA_call (fA_put (fA_put (fA_call (fA_rf [48, 51] _) fa_460 (by decide)) ear_470 (by decide)) ear_473 (by decide)) fa_490 (by decide)) 52 rfl), ear_436]; show upd _ (v_430.toInt.toNat) _ _ = _; rw [show v_430.toInt.toNat = 160 + (fv_486 59).toInt.toNat from by omega]; exact up_eq
                      have hp_549 : rL fv_538 ar_532 := rL_add (i := v_430.toInt.toNat) (x := (fv 60)) (rL_fr hp_438 (fM_call (fM_call (fM_put (fM_rf [38, 39, 40, 41, 42, 45] _) efv_441 (by decide)) fr_459 (by decide)) fr_489 (by decide)) (fA_call (fA_put (fA_put (fA_call (fA_rf [48, 51] _) fa_460 (by decide)) ear_470 (by decide)) ear_473 (by decide)) fa_490 (by decide)) rfl rfl rfl rfl rfl) (by omega) (by omega) (by omega) ((fA_put (fA_rf [53] _) ear_532 (by decide)) 54 rfl) ((fA_put (fA_rf [53] _) ear_532 (by decide)) 52 rfl) (by rw [g_547]) (by omega) (by omega) (by rw [g_548]; exact q_529)
                      refine lv_aload_n hx hb dX12_readLine_238 rfl (lv_at hl 2 rfl) ?_
                      refine lv_bipush (v := 59) hx hb dX12_readLine_239 (by decide) ?_
                      have z_550 : (fv_538 40).toInt = (fv_486 40).toInt := congrArg Int32.toInt ((congrFun efv_538 40))
                      have z_551 : (fv_538 42).toInt = (fv_486 42).toInt := congrArg Int32.toInt ((congrFun efv_538 42))
                      refine va_calli (va_runV (As := [.int 59]) (rest := []) ⟨hx, hb, hml, hown, hts⟩ (m_isSignC l dC dI H.size h ad cA hd fv_538 wd_487 ar_532 hF_fv_538 hA_ar_532 59) (cwV 1 hts (gV kw_8_117 kw_8_119 kw_p_74 kw_1_15 kw_8_120) rfl rfl rfl (by decide +kernel) ⟨Nat.le_of_ble_eq_true rfl, Nat.le_of_ble_eq_true rfl⟩) ⟨fun a U g mk q => ⟨q.1, q.2.1, q.2.2.1, va_K.moved (u := U) (U := U.calling g mk a) (Vm.Alike.refl U.vm) q.2.2.2⟩, va_recv hK hP (ci := 12) (q0 := 0) rfl rfl, fun U hU hW => ⟨rfl, by rw [hU], by rw [hU]; exact hP, va_K.moved hW.alike hK⟩⟩ rfl rfl hl.1 rfl (lv_room (Nat.le_of_ble_eq_true rfl)) dX12_readLine_241 ⟨Nat.le_of_ble_eq_true rfl, Nat.le_of_ble_eq_true rfl⟩) hS (fun q _ h9 => aM_up hS q h9) (aM_up hS) (fun r_552 u t H1 locs ht _ hw hB _ hk1 hS => ?_)
                      obtain ⟨fv_556, wd_557, ar_558⟩ := u
                      obtain ⟨hF_fv_556, hA_ar_558, fr_559, fa_560, p_553, p_554, p_555, -⟩ := hw
                      have hP : va_P (dC, dI) vwCl (wsM h ad cA fv_556 wd_557 ar_558) H1 := by have h9 := hB.1; rw [ht] at h9; exact h9
                      have fr_559 : fM [] fv_538 fv_556 := fr_559
                      have fa_560 : fA [] ar_532 ar_558 := fa_560
                      have p_554 : wd_557 = wd_487 := p_554
                      have p_555 : (r_552 = 1 ∧ (fv_538 40).toInt = 4 ∧ (fv_538 42).toInt = (59 : Int32).toInt) ∨ (r_552 = 0 ∧ ¬ ((fv_538 40).toInt = 4 ∧ (fv_538 42).toInt = (59 : Int32).toInt)) := p_555
                      generalize H1 = H at hP hS ⊢
                      rw [p_554] at hP
                      have k_561 : (r_552.toInt = 1 ∧ rd_T b9 n9 ((k9 + 1) + 1) = 26) ∨ (r_552.toInt = 0 ∧ ¬ rd_T b9 n9 ((k9 + 1) + 1) = 26) := by have h7 : (0 : Int32).toInt = 0 := (by decide); have h6 : (1 : Int32).toInt = 1 := (by decide); have hk9 := rd_sgn (rd_rel_eq m_491.2.2.1 ((fM_put (fM_rf [59] _) efv_538 (by decide)) 40 rfl) ((fM_put (fM_rf [59] _) efv_538 (by decide)) 42 rfl) ((fM_put (fM_rf [59] _) efv_538 (by decide)) 41 rfl) rfl) (a := 59) (j := 26) (by decide) (by decide); rcases p_555 with ⟨a9, b9⟩ | ⟨a9, b9⟩; exact Or.inl ⟨by rw [a9]; exact h6, hk9.mp b9⟩; exact Or.inr ⟨by rw [a9]; exact h7, fun w => b9 (hk9.mpr w)⟩
                      clear p_555
                      refine lv_if_ne (tgt := 255) hx hb dX12_readLine_244 (by decide) (fun c_562 => ?_) (fun c_562 => ?_)
                      · skip
                        have i_563 : 1 ≤ r_552.toInt ∧ r_552.toInt ≤ 1 := iv_nel p_553 (by decide) c_562
                        have k_565 : rd_T b9 n9 ((k9 + 1) + 1) = 26 := by omega
                        clear k_561
                        refine lv_iconst (v := 1) hx hb dX12_readLine_255 (by decide) ?_
                        refine lv_goto (tgt := 260) hx hb dX12_readLine_256 (by decide) ?_
                        have z_566 : (fv_556 59).toInt = v_535.toInt := congrArg Int32.toInt ((fr_559 59 rfl).trans ((congrFun efv_538 59)))
                        have z_567 : 0 ≤ (fv_556 59).toInt ∧ (fv_556 59).toInt ≤ 16 := hF_fv_556 59
                        have z_568 : (fv_556 60).toInt = (fv 60).toInt := congrArg Int32.toInt ((fr_559 60 rfl).trans ((congrFun efv_538 60).trans ((fr_489 60 rfl).trans ((fr_459 60 rfl).trans ((congrFun efv_441 60).trans ((fr_11 60 rfl)))))))
                        have z_569 : 0 ≤ (fv_556 60).toInt ∧ (fv_556 60).toInt ≤ 120 := hF_fv_556 60
                        have z_570 : (fv_556 62).toInt = (fv 62).toInt := congrArg Int32.toInt ((fr_559 62 rfl).trans ((congrFun efv_538 62).trans ((fr_489 62 rfl).trans ((fr_459 62 rfl).trans ((congrFun efv_441 62).trans ((fr_11 62 rfl)))))))
                        have z_571 : 0 ≤ (fv_556 62).toInt ∧ (fv_556 62).toInt ≤ 50 := hF_fv_556 62
                        have z_572 : (fv_556 63).toInt = (fv 63).toInt := congrArg Int32.toInt ((fr_559 63 rfl).trans ((congrFun efv_538 63).trans ((fr_489 63 rfl).trans ((fr_459 63 rfl).trans ((congrFun efv_441 63).trans ((fr_11 63 rfl)))))))
                        have z_573 : (-100) ≤ (fv_556 63).toInt ∧ (fv_556 63).toInt ≤ 10 := hF_fv_556 63
                        exact W.zret (v := 1) hx hb hr (by decide) (fun t ht hW => ⟨⟨1, (fv_556, wd_487, ar_558), rfl, ⟨hF_fv_556, hA_ar_558, (fM_call (fM_put (fM_call (fM_call (fM_put (fM_call (fM_rf [38, 39, 40, 41, 42, 43, 44, 45, 59, 60, 61, 62, 63] _) fr_11 (by decide)) efv_441 (by decide)) fr_459 (by decide)) fr_489 (by decide)) efv_538 (by decide)) fr_559 (by decide)), (fA_call (fA_put (fA_call (fA_put (fA_put (fA_call (fA_put (fA_put (fA_put (fA_call (fA_rf [48, 50, 51, 52, 53, 54, 55, 56, 57] _) fa_12 (by decide)) ear_433 (by decide)) ear_434 (by decide)) ear_436 (by decide)) fa_460 (by decide)) ear_470 (by decide)) ear_473 (by decide)) fa_490 (by decide)) ear_532 (by decide)) fa_560 (by decide)), (iv_w (⟨by decide, by decide⟩ : (1 : Int) ≤ (1 : Int32).toInt ∧ (1 : Int32).toInt ≤ 1) (by decide) (by decide)), (Or.inr (⟨rfl, (show (rL fv_556 ar_558) ∧ ((fv_556 60).toInt ≤ 2 * (fv_556 62).toInt) ∧ (0 ≤ (fv_556 63).toInt + (fv_556 62).toInt) ∧ ((fv_556 59).toInt = (fv 59).toInt + 1) ∧ (∃ k1 : Nat, rd_mt b9 n9 k1 (fv_556 37) (fv_556 38) (fv_556 39) (fv_556 40) (fv_556 42) (fv_556 41) wd_487 ∧ rd_T b9 n9 k1 = 26 ∧ rd_ln (rd_T b9 n9) (rd_N b9 n9) k9 ((fv 62).toInt.toNat) ((fv 59).toInt.toNat) (decide ((fv 45).toInt = 1)) = (0, k1 + 1, (fv_556 62).toInt.toNat) ∧ (fv_556 63).toInt = 0 ∧ ((fv_556 45).toInt = 1 ↔ ((fv 45).toInt = 1 ∨ rd_T b9 n9 k9 = 6)) ∧ ((fv_556 45).toInt = 0 ∨ (fv_556 45).toInt = 1) ∧ fv_556 43 = fv 43) from ⟨(rL_fr hp_549 (fM_call (fM_rf [] _) fr_559 (by decide)) (fA_call (fA_rf [] _) fa_560 (by decide)) rfl rfl rfl rfl rfl), show (fv_556 60).toInt ≤ 2 * (fv_556 62).toInt from by omega, show 0 ≤ (fv_556 63).toInt + (fv_556 62).toInt from by omega, show (fv_556 59).toInt = (fv 59).toInt + 1 from by omega, (by have : (fv_556 59).toInt = (v_535).toInt := congrArg Int32.toInt ((fr_559 59 rfl).trans ((congrFun efv_538 59))); have : (fv_556 62).toInt = (fv 62).toInt := congrArg Int32.toInt ((fr_559 62 rfl).trans ((congrFun efv_538 62).trans ((fr_489 62 rfl).trans ((fr_459 62 rfl).trans ((congrFun efv_441 62).trans ((fr_11 62 rfl))))))); have : (fv_556 63).toInt = (fv 63).toInt := congrArg Int32.toInt ((fr_559 63 rfl).trans ((congrFun efv_538 63).trans ((fr_489 63 rfl).trans ((fr_459 63 rfl).trans ((congrFun efv_441 63).trans ((fr_11 63 rfl))))))); have : (fv_556 45).toInt = 1 := (by rw [show fv_556 45 = (1 : Int32) from (fr_559 45 rfl).trans ((congrFun efv_538 45).trans ((fr_489 45 rfl).trans ((fr_459 45 rfl).trans ((congrFun efv_441 45)))))]; decide); exact ⟨((k9 + 1) + 1), (rd_mt_eq m_491 ((fM_call (fM_put (fM_rf [59] _) efv_538 (by decide)) fr_559 (by decide)) 37 rfl) ((fM_call (fM_put (fM_rf [59] _) efv_538 (by decide)) fr_559 (by decide)) 38 rfl) ((fM_call (fM_put (fM_rf [59] _) efv_538 (by decide)) fr_559 (by decide)) 39 rfl) ((fM_call (fM_put (fM_rf [59] _) efv_538 (by decide)) fr_559 (by decide)) 40 rfl) ((fM_call (fM_put (fM_rf [59] _) efv_538 (by decide)) fr_559 (by decide)) 42 rfl) ((fM_call (fM_put (fM_rf [59] _) efv_538 (by decide)) fr_559 (by decide)) 41 rfl) rfl), by omega, by rw [hC, rd_l3_ok (by omega), show (fv 62).toInt.toNat = (fv_556 62).toInt.toNat from (by omega)], by omega, by omega, by omega, ((fM_call (fM_put (fM_call (fM_call (fM_put (fM_call (fM_rf [38, 39, 40, 41, 42, 45, 59] _) fr_11 (by decide)) efv_441 (by decide)) fr_459 (by decide)) fr_489 (by decide)) efv_538 (by decide)) fr_559 (by decide)) 43 rfl)⟩)⟩)⟩)), (vM_fr hp_533 (fM_call (fM_put (fM_rf [59] _) efv_538 (by decide)) fr_559 (by decide)) (fA_call (fA_rf [] _) fa_560 (by decide)) rfl rfl rfl rfl rfl), trivial⟩, ⟨by rw [ht]; exact hP, va_K.moved hW.alike hK⟩⟩, hS.F ht⟩) hS.2.2 dX12_readLine_260
                      · skip
                        have i_574 : 0 ≤ r_552.toInt ∧ r_552.toInt ≤ 0 := iv_eq1 (⟨by decide, by decide⟩ : (0 : Int) ≤ (0 : Int32).toInt ∧ (0 : Int32).toInt ≤ 0) c_562
                        have k_576 : ¬ rd_T b9 n9 ((k9 + 1) + 1) = 26 := by omega
                        clear k_561
                        refine lv_aload_n hx hb dX12_readLine_247 rfl (lv_at hl 2 rfl) ?_
                        refine lv_iconst (v := 1) hx hb dX12_readLine_248 (by decide) ?_
                        have z_577 : (fv_556 39).toInt = (fv_486 39).toInt := congrArg Int32.toInt ((fr_559 39 rfl).trans ((congrFun efv_538 39)))
                        have z_578 : 0 ≤ (fv_556 39).toInt ∧ (fv_556 39).toInt ≤ 340 := hF_fv_556 39
                        have z_579 : (fv_556 40).toInt = (fv_486 40).toInt := congrArg Int32.toInt ((fr_559 40 rfl).trans ((congrFun efv_538 40)))
                        refine va_calli (va_runV (As := [.int 1]) (rest := []) ⟨hx, hb, hml, hown, hts⟩ (m_badC l dC dI H.size h ad cA hd fv_556 wd_487 ar_558 hF_fv_556 hA_ar_558 1) (cwV 1 hts (gV kw_8_94 kw_8_96 kw_p_69 kw_1_15 kw_8_97) rfl rfl rfl (by decide +kernel) ⟨Nat.le_of_ble_eq_true rfl, Nat.le_of_ble_eq_true rfl⟩) ⟨fun a U g mk q => ⟨q.1, q.2.1, q.2.2.1, va_K.moved (u := U) (U := U.calling g mk a) (Vm.Alike.refl U.vm) q.2.2.2⟩, va_recv hK hP (ci := 12) (q0 := 0) rfl rfl, fun U hU hW => ⟨rfl, by rw [hU], by rw [hU]; exact hP, va_K.moved hW.alike hK⟩⟩ rfl rfl hl.1 rfl (lv_room (Nat.le_of_ble_eq_true rfl)) dX12_readLine_249 ⟨Nat.le_of_ble_eq_true rfl, Nat.le_of_ble_eq_true rfl⟩) hS (fun q _ h9 => aM_up hS q h9) (aM_up hS) (fun r_580 u t H1 locs ht _ hw hB _ hk1 hS => ?_)
                        obtain ⟨fv_585, wd_586, ar_587⟩ := u
                        obtain ⟨hF_fv_585, hA_ar_587, fr_588, fa_589, p_581, p_582, p_583, p_584, -⟩ := hw
                        have hP : va_P (dC, dI) vwCl (wsM h ad cA fv_585 wd_586 ar_587) H1 := by have h9 := hB.1; rw [ht] at h9; exact h9
                        have fr_588 : fM [43, 44] fv_556 fv_585 := fr_588
                        have fa_589 : fA [] ar_558 ar_587 := fa_589
                        have p_583 : wd_586 = wd_487 := p_583
                        have p_584 : (fv_585 43 = 1 ∨ fv_585 43 = (1 : Int32)) ∧ ((fv_556 40).toInt = 1 → fv_585 43 = 1) ∧ (¬ (fv_556 40).toInt = 1 → fv_585 43 = (1 : Int32)) ∧ (fv_585 44).toInt = (fv_556 39).toInt := p_584
                        generalize H1 = H at hP hS ⊢
                        rw [p_583] at hP
                        rcases p_582 with ⟨rfl, p_582⟩
                        · skip
                          refine lv_if_eq (tgt := 259) hx hb dX12_readLine_252 (by decide) (fun c_590 => ?_) (fun c_590 => ?_)
                          · skip
                            refine lv_iconst (v := 0) hx hb dX12_readLine_259 (by decide) ?_
                            have z_591 : (fv_585 59).toInt = v_535.toInt := congrArg Int32.toInt ((fr_588 59 rfl).trans ((fr_559 59 rfl).trans ((congrFun efv_538 59))))
                            have z_592 : 0 ≤ (fv_585 59).toInt ∧ (fv_585 59).toInt ≤ 16 := hF_fv_585 59
                            have z_593 : (fv_585 60).toInt = (fv 60).toInt := congrArg Int32.toInt ((fr_588 60 rfl).trans ((fr_559 60 rfl).trans ((congrFun efv_538 60).trans ((fr_489 60 rfl).trans ((fr_459 60 rfl).trans ((congrFun efv_441 60).trans ((fr_11 60 rfl))))))))
                            have z_594 : 0 ≤ (fv_585 60).toInt ∧ (fv_585 60).toInt ≤ 120 := hF_fv_585 60
                            have z_595 : (fv_585 62).toInt = (fv 62).toInt := congrArg Int32.toInt ((fr_588 62 rfl).trans ((fr_559 62 rfl).trans ((congrFun efv_538 62).trans ((fr_489 62 rfl).trans ((fr_459 62 rfl).trans ((congrFun efv_441 62).trans ((fr_11 62 rfl))))))))
                            have z_596 : 0 ≤ (fv_585 62).toInt ∧ (fv_585 62).toInt ≤ 50 := hF_fv_585 62
                            have z_597 : (fv_585 63).toInt = (fv 63).toInt := congrArg Int32.toInt ((fr_588 63 rfl).trans ((fr_559 63 rfl).trans ((congrFun efv_538 63).trans ((fr_489 63 rfl).trans ((fr_459 63 rfl).trans ((congrFun efv_441 63).trans ((fr_11 63 rfl))))))))
                            have z_598 : (-100) ≤ (fv_585 63).toInt ∧ (fv_585 63).toInt ≤ 10 := hF_fv_585 63
                            exact W.zret (v := 0) hx hb hr (by decide) (fun t ht hW => ⟨⟨0, (fv_585, wd_487, ar_587), rfl, ⟨hF_fv_585, hA_ar_587, (fM_call (fM_call (fM_put (fM_call (fM_call (fM_put (fM_call (fM_rf [38, 39, 40, 41, 42, 43, 44, 45, 59, 60, 61, 62, 63] _) fr_11 (by decide)) efv_441 (by decide)) fr_459 (by decide)) fr_489 (by decide)) efv_538 (by decide)) fr_559 (by decide)) fr_588 (by decide)), (fA_call (fA_call (fA_put (fA_call (fA_put (fA_put (fA_call (fA_put (fA_put (fA_put (fA_call (fA_rf [48, 50, 51, 52, 53, 54, 55, 56, 57] _) fa_12 (by decide)) ear_433 (by decide)) ear_434 (by decide)) ear_436 (by decide)) fa_460 (by decide)) ear_470 (by decide)) ear_473 (by decide)) fa_490 (by decide)) ear_532 (by decide)) fa_560 (by decide)) fa_589 (by decide)), (iv_w (⟨by decide, by decide⟩ : (0 : Int) ≤ (0 : Int32).toInt ∧ (0 : Int32).toInt ≤ 0) (by decide) (by decide)), (Or.inl ⟨rfl, (show (0 < (fv_585 43).toInt ∧ (rd_ln (rd_T b9 n9) (rd_N b9 n9) k9 ((fv 62).toInt.toNat) ((fv 59).toInt.toNat) (decide ((fv 45).toInt = 1))).1 = (fv_585 43).toInt.toNat ∧ (fv_585 44).toInt = (rd_S b9 n9 (rd_ln (rd_T b9 n9) (rd_N b9 n9) k9 ((fv 62).toInt.toNat) ((fv 59).toInt.toNat) (decide ((fv 45).toInt = 1))).2.1 : Nat)) from (by have : (fv_585 59).toInt = (v_535).toInt := congrArg Int32.toInt ((fr_588 59 rfl).trans ((fr_559 59 rfl).trans ((congrFun efv_538 59)))); have : (fv_585 62).toInt = (fv 62).toInt := congrArg Int32.toInt ((fr_588 62 rfl).trans ((fr_559 62 rfl).trans ((congrFun efv_538 62).trans ((fr_489 62 rfl).trans ((fr_459 62 rfl).trans ((congrFun efv_441 62).trans ((fr_11 62 rfl)))))))); have : (fv_585 63).toInt = (fv 63).toInt := congrArg Int32.toInt ((fr_588 63 rfl).trans ((fr_559 63 rfl).trans ((congrFun efv_538 63).trans ((fr_489 63 rfl).trans ((fr_459 63 rfl).trans ((congrFun efv_441 63).trans ((fr_11 63 rfl)))))))); have : (fv_585 45).toInt = 1 := (by rw [show fv_585 45 = (1 : Int32) from (fr_588 45 rfl).trans ((fr_559 45 rfl).trans ((congrFun efv_538 45).trans ((fr_489 45 rfl).trans ((fr_459 45 rfl).trans ((congrFun efv_441 45))))))]; decide); have hE : rd_ln (rd_T b9 n9) (rd_N b9 n9) k9 ((fv 62).toInt.toNat) ((fv 59).toInt.toNat) (decide ((fv 45).toInt = 1)) = (1, ((k9 + 1) + 1), (fv 62).toInt.toNat) := (by rw [hC, rd_l3_bad (by omega)]); have hf9 : fv_585 43 = 1 := (p_584.1.elim id id); exact ⟨by rw [hf9]; decide, by rw [hE, hf9]; show 1 = (1 : Int32).toInt.toNat; decide, by rw [hE]; have h8 := (p_584).2.2.2; have h7 := ((rd_mt_eq m_491 ((fM_call (fM_put (fM_rf [59] _) efv_538 (by decide)) fr_559 (by decide)) 37 rfl) ((fM_call (fM_put (fM_rf [59] _) efv_538 (by decide)) fr_559 (by decide)) 38 rfl) ((fM_call (fM_put (fM_rf [59] _) efv_538 (by decide)) fr_559 (by decide)) 39 rfl) ((fM_call (fM_put (fM_rf [59] _) efv_538 (by decide)) fr_559 (by decide)) 40 rfl) ((fM_call (fM_put (fM_rf [59] _) efv_538 (by decide)) fr_559 (by decide)) 42 rfl) ((fM_call (fM_put (fM_rf [59] _) efv_538 (by decide)) fr_559 (by decide)) 41 rfl) rfl)).2.1; show (fv_585 44).toInt = (rd_S b9 n9 ((k9 + 1) + 1) : Nat); rw [← h7]; exact h8⟩))⟩), (vM_fr hp_533 (fM_call (fM_call (fM_put (fM_rf [43, 44, 59] _) efv_538 (by decide)) fr_559 (by decide)) fr_588 (by decide)) (fA_call (fA_call (fA_rf [] _) fa_560 (by decide)) fa_589 (by decide)) rfl rfl rfl rfl rfl), trivial⟩, ⟨by rw [ht]; exact hP, va_K.moved hW.alike hK⟩⟩, hS.F ht⟩) hS.2.2 dX12_readLine_260
                          · skip
                            exact absurd c_590 (by decide)
                    · skip
                      exact absurd True.intro (by have h7 := i_422; have h8 := (⟨by decide, by decide⟩ : (6 : Int) ≤ (6 : Int32).toInt ∧ (6 : Int32).toInt ≤ 6); have h9 : ¬ _ := fun q => c_517 (Int32.toInt_inj.mp q); exfalso; omega)
                · skip
                  have i_493 : 2001 ≤ (fv_456 41).toInt ∧ (fv_456 41).toInt ≤ 2147483647 := iv_lt2 (⟨by decide, by decide⟩ : (2000 : Int) ≤ (2000 : Int32).toInt ∧ (2000 : Int32).toInt ≤ 2000) (iv_any (fv_456 41)) (Int32.not_le.mp c_468)
                  refine lv_aload_n hx hb dX12_readLine_145 rfl (lv_at hl 2 rfl) ?_
                  refine lv_iconst (v := 2) hx hb dX12_readLine_146 (by decide) ?_
                  have z_494 : 0 ≤ (fv_456 39).toInt ∧ (fv_456 39).toInt ≤ 340 := hF_fv_456 39
                  refine va_calli (va_runV (As := [.int 2]) (rest := []) ⟨hx, hb, hml, hown, hts⟩ (m_badC l dC dI H.size h ad cA hd fv_456 wd_457 ar_458 hF_fv_456 hA_ar_458 2) (cwV 1 hts (gV kw_8_94 kw_8_96 kw_p_69 kw_1_15 kw_8_97) rfl rfl rfl (by decide +kernel) ⟨Nat.le_of_ble_eq_true rfl, Nat.le_of_ble_eq_true rfl⟩) ⟨fun a U g mk q => ⟨q.1, q.2.1, q.2.2.1, va_K.moved (u := U) (U := U.calling g mk a) (Vm.Alike.refl U.vm) q.2.2.2⟩, va_recv hK hP (ci := 12) (q0 := 0) rfl rfl, fun U hU hW => ⟨rfl, by rw [hU], by rw [hU]; exact hP, va_K.moved hW.alike hK⟩⟩ rfl rfl hl.1 rfl (lv_room (Nat.le_of_ble_eq_true rfl)) dX12_readLine_147 ⟨Nat.le_of_ble_eq_true rfl, Nat.le_of_ble_eq_true rfl⟩) hS (fun q _ h9 => aM_up hS q h9) (aM_up hS) (fun r_495 u t H1 locs ht _ hw hB _ hk1 hS => ?_)
                  obtain ⟨fv_500, wd_501, ar_502⟩ := u
                  obtain ⟨hF_fv_500, hA_ar_502, fr_503, fa_504, p_496, p_497, p_498, p_499, -⟩ := hw
                  have hP : va_P (dC, dI) vwCl (wsM h ad cA fv_500 wd_501 ar_502) H1 := by have h9 := hB.1; rw [ht] at h9; exact h9
                  have fr_503 : fM [43, 44] fv_456 fv_500 := fr_503
                  have fa_504 : fA [] ar_458 ar_502 := fa_504
                  have p_498 : wd_501 = wd_457 := p_498
                  have p_499 : (fv_500 43 = 1 ∨ fv_500 43 = (2 : Int32)) ∧ ((fv_456 40).toInt = 1 → fv_500 43 = 1) ∧ (¬ (fv_456 40).toInt = 1 → fv_500 43 = (2 : Int32)) ∧ (fv_500 44).toInt = (fv_456 39).toInt := p_499
                  generalize H1 = H at hP hS ⊢
                  rw [p_498] at hP
                  rcases p_497 with ⟨rfl, p_497⟩
                  · skip
                    exact W.zret (v := 0) hx hb hr (by decide) (fun t ht hW => ⟨⟨0, (fv_500, wd_457, ar_502), rfl, ⟨hF_fv_500, hA_ar_502, (fM_call (fM_call (fM_put (fM_call (fM_rf [38, 39, 40, 41, 42, 43, 44, 45, 59, 60, 61, 62, 63] _) fr_11 (by decide)) efv_441 (by decide)) fr_459 (by decide)) fr_503 (by decide)), (fA_call (fA_call (fA_put (fA_put (fA_put (fA_call (fA_rf [48, 50, 51, 52, 53, 54, 55, 56, 57] _) fa_12 (by decide)) ear_433 (by decide)) ear_434 (by decide)) ear_436 (by decide)) fa_460 (by decide)) fa_504 (by decide)), (iv_w (⟨by decide, by decide⟩ : (0 : Int) ≤ (0 : Int32).toInt ∧ (0 : Int32).toInt ≤ 0) (by decide) (by decide)), (Or.inl ⟨rfl, (show (0 < (fv_500 43).toInt ∧ (rd_ln (rd_T b9 n9) (rd_N b9 n9) k9 ((fv 62).toInt.toNat) ((fv 59).toInt.toNat) (decide ((fv 45).toInt = 1))).1 = (fv_500 43).toInt.toNat ∧ (fv_500 44).toInt = (rd_S b9 n9 (rd_ln (rd_T b9 n9) (rd_N b9 n9) k9 ((fv 62).toInt.toNat) ((fv 59).toInt.toNat) (decide ((fv 45).toInt = 1))).2.1 : Nat)) from (by have : (fv_500 59).toInt = (fv 59).toInt := congrArg Int32.toInt ((fr_503 59 rfl).trans ((fr_459 59 rfl).trans ((congrFun efv_441 59).trans ((fr_11 59 rfl))))); have : (fv_500 62).toInt = (fv 62).toInt := congrArg Int32.toInt ((fr_503 62 rfl).trans ((fr_459 62 rfl).trans ((congrFun efv_441 62).trans ((fr_11 62 rfl))))); have : (fv_500 63).toInt = (fv 63).toInt := congrArg Int32.toInt ((fr_503 63 rfl).trans ((fr_459 63 rfl).trans ((congrFun efv_441 63).trans ((fr_11 63 rfl))))); have : (fv_500 45).toInt = 1 := (by rw [show fv_500 45 = (1 : Int32) from (fr_503 45 rfl).trans ((fr_459 45 rfl).trans ((congrFun efv_441 45)))]; decide); have hE : rd_ln (rd_T b9 n9) (rd_N b9 n9) k9 ((fv 62).toInt.toNat) ((fv 59).toInt.toNat) (decide ((fv 45).toInt = 1)) = (2, (k9 + 1), (fv 62).toInt.toNat) := rd_ln_v2 (by omega) (fun w => w.elim (fun w => by omega) (fun w => by have h8 := of_decide_eq_true w.2; have h7 := w.1; omega)) (by have h8 := (m_461.2.2.1).2.1; omega) (by have h8 := (m_461.2.2.1).2.2.1 (by have h8 := (m_461.2.2.1).2.1; omega); omega); have hf9 : fv_500 43 = 2 := (p_499.2.2.1 (rd_kd2 m_461.2.2.1 (by have h8 := (m_461.2.2.1).2.1; omega))); exact ⟨by rw [hf9]; decide, by rw [hE, hf9]; show 2 = (2 : Int32).toInt.toNat; decide, by rw [hE]; have h8 := (p_499).2.2.2; have h7 := (m_461).2.1; show (fv_500 44).toInt = (rd_S b9 n9 (k9 + 1) : Nat); rw [← h7]; exact h8⟩))⟩), (vM_fr hp_437 (fM_call (fM_call (fM_put (fM_rf [38, 39, 40, 41, 42, 43, 44, 45] _) efv_441 (by decide)) fr_459 (by decide)) fr_503 (by decide)) (fA_call (fA_call (fA_rf [] _) fa_460 (by decide)) fa_504 (by decide)) rfl rfl rfl rfl rfl), trivial⟩, ⟨by rw [ht]; exact hP, va_K.moved hW.alike hK⟩⟩, hS.F ht⟩) hS.2.2 dX12_readLine_150
              · skip
                have k_505 : ¬ (fv_456 40).toInt = 3 := fun q => c_464 (Int32.toInt_inj.mp q)
                refine lv_aload_n hx hb dX12_readLine_129 rfl (lv_at hl 2 rfl) ?_
                refine lv_iconst (v := 1) hx hb dX12_readLine_130 (by decide) ?_
                have z_506 : 0 ≤ (fv_456 39).toInt ∧ (fv_456 39).toInt ≤ 340 := hF_fv_456 39
                refine va_calli (va_runV (As := [.int 1]) (rest := []) ⟨hx, hb, hml, hown, hts⟩ (m_badC l dC dI H.size h ad cA hd fv_456 wd_457 ar_458 hF_fv_456 hA_ar_458 1) (cwV 1 hts (gV kw_8_94 kw_8_96 kw_p_69 kw_1_15 kw_8_97) rfl rfl rfl (by decide +kernel) ⟨Nat.le_of_ble_eq_true rfl, Nat.le_of_ble_eq_true rfl⟩) ⟨fun a U g mk q => ⟨q.1, q.2.1, q.2.2.1, va_K.moved (u := U) (U := U.calling g mk a) (Vm.Alike.refl U.vm) q.2.2.2⟩, va_recv hK hP (ci := 12) (q0 := 0) rfl rfl, fun U hU hW => ⟨rfl, by rw [hU], by rw [hU]; exact hP, va_K.moved hW.alike hK⟩⟩ rfl rfl hl.1 rfl (lv_room (Nat.le_of_ble_eq_true rfl)) dX12_readLine_131 ⟨Nat.le_of_ble_eq_true rfl, Nat.le_of_ble_eq_true rfl⟩) hS (fun q _ h9 => aM_up hS q h9) (aM_up hS) (fun r_507 u t H1 locs ht _ hw hB _ hk1 hS => ?_)
                obtain ⟨fv_512, wd_513, ar_514⟩ := u
                obtain ⟨hF_fv_512, hA_ar_514, fr_515, fa_516, p_508, p_509, p_510, p_511, -⟩ := hw
                have hP : va_P (dC, dI) vwCl (wsM h ad cA fv_512 wd_513 ar_514) H1 := by have h9 := hB.1; rw [ht] at h9; exact h9
                have fr_515 : fM [43, 44] fv_456 fv_512 := fr_515
                have fa_516 : fA [] ar_458 ar_514 := fa_516
                have p_510 : wd_513 = wd_457 := p_510
                have p_511 : (fv_512 43 = 1 ∨ fv_512 43 = (1 : Int32)) ∧ ((fv_456 40).toInt = 1 → fv_512 43 = 1) ∧ (¬ (fv_456 40).toInt = 1 → fv_512 43 = (1 : Int32)) ∧ (fv_512 44).toInt = (fv_456 39).toInt := p_511
                generalize H1 = H at hP hS ⊢
                rw [p_510] at hP
                rcases p_509 with ⟨rfl, p_509⟩
                · skip
                  exact W.zret (v := 0) hx hb hr (by decide) (fun t ht hW => ⟨⟨0, (fv_512, wd_457, ar_514), rfl, ⟨hF_fv_512, hA_ar_514, (fM_call (fM_call (fM_put (fM_call (fM_rf [38, 39, 40, 41, 42, 43, 44, 45, 59, 60, 61, 62, 63] _) fr_11 (by decide)) efv_441 (by decide)) fr_459 (by decide)) fr_515 (by decide)), (fA_call (fA_call (fA_put (fA_put (fA_put (fA_call (fA_rf [48, 50, 51, 52, 53, 54, 55, 56, 57] _) fa_12 (by decide)) ear_433 (by decide)) ear_434 (by decide)) ear_436 (by decide)) fa_460 (by decide)) fa_516 (by decide)), (iv_w (⟨by decide, by decide⟩ : (0 : Int) ≤ (0 : Int32).toInt ∧ (0 : Int32).toInt ≤ 0) (by decide) (by decide)), (Or.inl ⟨rfl, (show (0 < (fv_512 43).toInt ∧ (rd_ln (rd_T b9 n9) (rd_N b9 n9) k9 ((fv 62).toInt.toNat) ((fv 59).toInt.toNat) (decide ((fv 45).toInt = 1))).1 = (fv_512 43).toInt.toNat ∧ (fv_512 44).toInt = (rd_S b9 n9 (rd_ln (rd_T b9 n9) (rd_N b9 n9) k9 ((fv 62).toInt.toNat) ((fv 59).toInt.toNat) (decide ((fv 45).toInt = 1))).2.1 : Nat)) from (by have : (fv_512 59).toInt = (fv 59).toInt := congrArg Int32.toInt ((fr_515 59 rfl).trans ((fr_459 59 rfl).trans ((congrFun efv_441 59).trans ((fr_11 59 rfl))))); have : (fv_512 62).toInt = (fv 62).toInt := congrArg Int32.toInt ((fr_515 62 rfl).trans ((fr_459 62 rfl).trans ((congrFun efv_441 62).trans ((fr_11 62 rfl))))); have : (fv_512 63).toInt = (fv 63).toInt := congrArg Int32.toInt ((fr_515 63 rfl).trans ((fr_459 63 rfl).trans ((congrFun efv_441 63).trans ((fr_11 63 rfl))))); have : (fv_512 45).toInt = 1 := (by rw [show fv_512 45 = (1 : Int32) from (fr_515 45 rfl).trans ((fr_459 45 rfl).trans ((congrFun efv_441 45)))]; decide); have hE : rd_ln (rd_T b9 n9) (rd_N b9 n9) k9 ((fv 62).toInt.toNat) ((fv 59).toInt.toNat) (decide ((fv 45).toInt = 1)) = (1, (k9 + 1), (fv 62).toInt.toNat) := rd_ln_v1 (by omega) (fun w => w.elim (fun w => by omega) (fun w => by have h8 := of_decide_eq_true w.2; have h7 := w.1; omega)) (by have h8 := (m_461.2.2.1).2.1; omega); have hf9 : fv_512 43 = 1 := (p_511.1.elim id id); exact ⟨by rw [hf9]; decide, by rw [hE, hf9]; show 1 = (1 : Int32).toInt.toNat; decide, by rw [hE]; have h8 := (p_511).2.2.2; have h7 := (m_461).2.1; show (fv_512 44).toInt = (rd_S b9 n9 (k9 + 1) : Nat); rw [← h7]; exact h8⟩))⟩), (vM_fr hp_437 (fM_call (fM_call (fM_put (fM_rf [38, 39, 40, 41, 42, 43, 44, 45] _) efv_441 (by decide)) fr_459 (by decide)) fr_515 (by decide)) (fA_call (fA_call (fA_rf [] _) fa_460 (by decide)) fa_516 (by decide)) rfl rfl rfl rfl rfl), trivial⟩, ⟨by rw [ht]; exact hP, va_K.moved hW.alike hK⟩⟩, hS.F ht⟩) hS.2.2 dX12_readLine_134
            · skip
              exact absurd True.intro (by have h7 := i_422; have h8 := (⟨by decide, by decide⟩ : (2 : Int) ≤ (2 : Int32).toInt ∧ (2 : Int32).toInt ≤ 2); have h9 := Int32.lt_iff_toInt_lt.mp (Int32.not_le.mp c_463); exfalso; omega)
        · skip
          have i_599 : 1 ≤ v_424.toInt ∧ v_424.toInt ≤ 1 := iv_eq1 (⟨by decide, by decide⟩ : (1 : Int) ≤ (1 : Int32).toInt ∧ (1 : Int32).toInt ≤ 1) c_427
          refine lv_aload_n hx hb dX12_readLine_41 rfl (lv_at hl 1 rfl) ?_
          refine lv_iconst (v := 3) hx hb dX12_readLine_42 (by decide) ?_
          have z_601 : (fv_8 39).toInt = (fv 39).toInt := congrArg Int32.toInt ((fr_11 39 rfl))
          have z_602 : 0 ≤ (fv_8 39).toInt ∧ (fv_8 39).toInt ≤ 340 := hF_fv_8 39
          have z_603 : (fv_8 40).toInt = (fv 40).toInt := congrArg Int32.toInt ((fr_11 40 rfl))
          refine va_calli (va_runV (As := [.int 3]) (rest := []) ⟨hx, hb, hml, hown, hts⟩ (m_badC l dC dI H.size h ad cA hd fv_8 wd ar_10 hF_fv_8 hA_ar_10 3) (cwV 1 hts (gV kw_8_94 kw_8_96 kw_p_69 kw_1_15 kw_8_97) rfl rfl rfl (by decide +kernel) ⟨Nat.le_of_ble_eq_true rfl, Nat.le_of_ble_eq_true rfl⟩) ⟨fun a U g mk q => ⟨q.1, q.2.1, q.2.2.1, va_K.moved (u := U) (U := U.calling g mk a) (Vm.Alike.refl U.vm) q.2.2.2⟩, va_recv hK hP (ci := 12) (q0 := 0) rfl rfl, fun U hU hW => ⟨rfl, by rw [hU], by rw [hU]; exact hP, va_K.moved hW.alike hK⟩⟩ rfl rfl hl.1 rfl (lv_room (Nat.le_of_ble_eq_true rfl)) dX12_readLine_43 ⟨Nat.le_of_ble_eq_true rfl, Nat.le_of_ble_eq_true rfl⟩) hS (fun q _ h9 => aM_up hS q h9) (aM_up hS) (fun r_604 u t H1 locs ht _ hw hB _ hk1 hS => ?_)
          obtain ⟨fv_609, wd_610, ar_611⟩ := u
          obtain ⟨hF_fv_609, hA_ar_611, fr_612, fa_613, p_605, p_606, p_607, p_608, -⟩ := hw
          have hP : va_P (dC, dI) vwCl (wsM h ad cA fv_609 wd_610 ar_611) H1 := by have h9 := hB.1; rw [ht] at h9; exact h9
          have fr_612 : fM [43, 44] fv_8 fv_609 := fr_612
          have fa_613 : fA [] ar_10 ar_611 := fa_613
          have p_607 : wd_610 = wd := p_607
          have p_608 : (fv_609 43 = 1 ∨ fv_609 43 = (3 : Int32)) ∧ ((fv_8 40).toInt = 1 → fv_609 43 = 1) ∧ (¬ (fv_8 40).toInt = 1 → fv_609 43 = (3 : Int32)) ∧ (fv_609 44).toInt = (fv_8 39).toInt := p_608
          generalize H1 = H at hP hS ⊢
          rw [p_607] at hP
          rcases p_606 with ⟨rfl, p_606⟩
          · skip
            exact W.zret (v := 0) hx hb hr (by decide) (fun t ht hW => ⟨⟨0, (fv_609, wd, ar_611), rfl, ⟨hF_fv_609, hA_ar_611, (fM_call (fM_call (fM_rf [38, 39, 40, 41, 42, 43, 44, 45, 59, 60, 61, 62, 63] _) fr_11 (by decide)) fr_612 (by decide)), (fA_call (fA_call (fA_rf [48, 50, 51, 52, 53, 54, 55, 56, 57] _) fa_12 (by decide)) fa_613 (by decide)), (iv_w (⟨by decide, by decide⟩ : (0 : Int) ≤ (0 : Int32).toInt ∧ (0 : Int32).toInt ≤ 0) (by decide) (by decide)), (Or.inl ⟨rfl, (show (0 < (fv_609 43).toInt ∧ (rd_ln (rd_T b9 n9) (rd_N b9 n9) k9 ((fv 62).toInt.toNat) ((fv 59).toInt.toNat) (decide ((fv 45).toInt = 1))).1 = (fv_609 43).toInt.toNat ∧ (fv_609 44).toInt = (rd_S b9 n9 (rd_ln (rd_T b9 n9) (rd_N b9 n9) k9 ((fv 62).toInt.toNat) ((fv 59).toInt.toNat) (decide ((fv 45).toInt = 1))).2.1 : Nat)) from (by have : (fv_609 59).toInt = (fv 59).toInt := congrArg Int32.toInt ((fr_612 59 rfl).trans ((fr_11 59 rfl))); have : (fv_609 62).toInt = (fv 62).toInt := congrArg Int32.toInt ((fr_612 62 rfl).trans ((fr_11 62 rfl))); have : (fv_609 63).toInt = (fv 63).toInt := congrArg Int32.toInt ((fr_612 63 rfl).trans ((fr_11 63 rfl))); have : (fv_609 45).toInt = (fv 45).toInt := congrArg Int32.toInt ((fr_612 45 rfl).trans ((fr_11 45 rfl))); have hE : rd_ln (rd_T b9 n9) (rd_N b9 n9) k9 ((fv 62).toInt.toNat) ((fv 59).toInt.toNat) (decide ((fv 45).toInt = 1)) = (3, k9, (fv 62).toInt.toNat) := rd_ln_many (by omega) (Or.inr ⟨by omega, decide_eq_true (by omega)⟩); have hf9 : fv_609 43 = 3 := (p_608.2.2.1 (rd_kd2 (rd_rel_eq hmt.2.2.1 ((fM_call (fM_rf [] _) fr_11 (by decide)) 40 rfl) ((fM_call (fM_rf [] _) fr_11 (by decide)) 42 rfl) ((fM_call (fM_rf [] _) fr_11 (by decide)) 41 rfl) rfl) (by omega))); exact ⟨by rw [hf9]; decide, by rw [hE, hf9]; show 3 = (3 : Int32).toInt.toNat; decide, by rw [hE]; have h8 := (p_608).2.2.2; have h7 := ((rd_mt_eq hmt ((fM_call (fM_rf [] _) fr_11 (by decide)) 37 rfl) ((fM_call (fM_rf [] _) fr_11 (by decide)) 38 rfl) ((fM_call (fM_rf [] _) fr_11 (by decide)) 39 rfl) ((fM_call (fM_rf [] _) fr_11 (by decide)) 40 rfl) ((fM_call (fM_rf [] _) fr_11 (by decide)) 42 rfl) ((fM_call (fM_rf [] _) fr_11 (by decide)) 41 rfl) rfl)).2.1; show (fv_609 44).toInt = (rd_S b9 n9 k9 : Nat); rw [← h7]; exact h8⟩))⟩), (vM_fr hp_vM (fM_call (fM_call (fM_rf [43, 44] _) fr_11 (by decide)) fr_612 (by decide)) (fA_call (fA_call (fA_rf [] _) fa_12 (by decide)) fa_613 (by decide)) rfl rfl rfl rfl rfl), trivial⟩, ⟨by rw [ht]; exact hP, va_K.moved hW.alike hK⟩⟩, hS.F ht⟩) hS.2.2 dX12_readLine_46
  · skip
    have i_614 : (-1) ≤ r_4.toInt ∧ r_4.toInt ≤ (-1) := iv_eq1 (⟨by decide, by decide⟩ : (-1 : Int) ≤ ((-1) : Int32).toInt ∧ ((-1) : Int32).toInt ≤ -1) c_14
    have k_616 : ¬ rd_T b9 n9 k9 < 7 := by omega
    clear k_13
    refine lv_aload_n hx hb dX12_readLine_10 rfl (lv_at hl 1 rfl) ?_
    refine lv_iconst (v := 1) hx hb dX12_readLine_11 (by decide) ?_
    have z_617 : (fv_8 39).toInt = (fv 39).toInt := congrArg Int32.toInt ((fr_11 39 rfl))
    have z_618 : 0 ≤ (fv_8 39).toInt ∧ (fv_8 39).toInt ≤ 340 := hF_fv_8 39
    have z_619 : (fv_8 40).toInt = (fv 40).toInt := congrArg Int32.toInt ((fr_11 40 rfl))
    refine va_calli (va_runV (As := [.int 1]) (rest := []) ⟨hx, hb, hml, hown, hts⟩ (m_badC l dC dI H.size h ad cA hd fv_8 wd ar_10 hF_fv_8 hA_ar_10 1) (cwV 1 hts (gV kw_8_94 kw_8_96 kw_p_69 kw_1_15 kw_8_97) rfl rfl rfl (by decide +kernel) ⟨Nat.le_of_ble_eq_true rfl, Nat.le_of_ble_eq_true rfl⟩) ⟨fun a U g mk q => ⟨q.1, q.2.1, q.2.2.1, va_K.moved (u := U) (U := U.calling g mk a) (Vm.Alike.refl U.vm) q.2.2.2⟩, va_recv hK hP (ci := 12) (q0 := 0) rfl rfl, fun U hU hW => ⟨rfl, by rw [hU], by rw [hU]; exact hP, va_K.moved hW.alike hK⟩⟩ rfl rfl hl.1 rfl (lv_room (Nat.le_of_ble_eq_true rfl)) dX12_readLine_12 ⟨Nat.le_of_ble_eq_true rfl, Nat.le_of_ble_eq_true rfl⟩) hS (fun q _ h9 => aM_up hS q h9) (aM_up hS) (fun r_620 u t H1 locs ht _ hw hB _ hk1 hS => ?_)
    obtain ⟨fv_625, wd_626, ar_627⟩ := u
    obtain ⟨hF_fv_625, hA_ar_627, fr_628, fa_629, p_621, p_622, p_623, p_624, -⟩ := hw
    have hP : va_P (dC, dI) vwCl (wsM h ad cA fv_625 wd_626 ar_627) H1 := by have h9 := hB.1; rw [ht] at h9; exact h9
    have fr_628 : fM [43, 44] fv_8 fv_625 := fr_628
    have fa_629 : fA [] ar_10 ar_627 := fa_629
    have p_623 : wd_626 = wd := p_623
    have p_624 : (fv_625 43 = 1 ∨ fv_625 43 = (1 : Int32)) ∧ ((fv_8 40).toInt = 1 → fv_625 43 = 1) ∧ (¬ (fv_8 40).toInt = 1 → fv_625 43 = (1 : Int32)) ∧ (fv_625 44).toInt = (fv_8 39).toInt := p_624
    generalize H1 = H at hP hS ⊢
    rw [p_623] at hP
    rcases p_622 with ⟨rfl, p_622⟩
    · skip
      exact W.zret (v := 0) hx hb hr (by decide) (fun t ht hW => ⟨⟨0, (fv_625, wd, ar_627), rfl, ⟨hF_fv_625, hA_ar_627, (fM_call (fM_call (fM_rf [38, 39, 40, 41, 42, 43, 44, 45, 59, 60, 61, 62, 63] _) fr_11 (by decide)) fr_628 (by decide)), (fA_call (fA_call (fA_rf [48, 50, 51, 52, 53, 54, 55, 56, 57] _) fa_12 (by decide)) fa_629 (by decide)), (iv_w (⟨by decide, by decide⟩ : (0 : Int) ≤ (0 : Int32).toInt ∧ (0 : Int32).toInt ≤ 0) (by decide) (by decide)), (Or.inl ⟨rfl, (show (0 < (fv_625 43).toInt ∧ (rd_ln (rd_T b9 n9) (rd_N b9 n9) k9 ((fv 62).toInt.toNat) ((fv 59).toInt.toNat) (decide ((fv 45).toInt = 1))).1 = (fv_625 43).toInt.toNat ∧ (fv_625 44).toInt = (rd_S b9 n9 (rd_ln (rd_T b9 n9) (rd_N b9 n9) k9 ((fv 62).toInt.toNat) ((fv 59).toInt.toNat) (decide ((fv 45).toInt = 1))).2.1 : Nat)) from (by have : (fv_625 59).toInt = (fv 59).toInt := congrArg Int32.toInt ((fr_628 59 rfl).trans ((fr_11 59 rfl))); have : (fv_625 62).toInt = (fv 62).toInt := congrArg Int32.toInt ((fr_628 62 rfl).trans ((fr_11 62 rfl))); have : (fv_625 63).toInt = (fv 63).toInt := congrArg Int32.toInt ((fr_628 63 rfl).trans ((fr_11 63 rfl))); have : (fv_625 45).toInt = (fv 45).toInt := congrArg Int32.toInt ((fr_628 45 rfl).trans ((fr_11 45 rfl))); have hE : rd_ln (rd_T b9 n9) (rd_N b9 n9) k9 ((fv 62).toInt.toNat) ((fv 59).toInt.toNat) (decide ((fv 45).toInt = 1)) = (1, k9, (fv 62).toInt.toNat) := rd_ln_bad (by omega); have hf9 : fv_625 43 = 1 := (p_624.1.elim id id); exact ⟨by rw [hf9]; decide, by rw [hE, hf9]; show 1 = (1 : Int32).toInt.toNat; decide, by rw [hE]; have h8 := (p_624).2.2.2; have h7 := ((rd_mt_eq hmt ((fM_call (fM_rf [] _) fr_11 (by decide)) 37 rfl) ((fM_call (fM_rf [] _) fr_11 (by decide)) 38 rfl) ((fM_call (fM_rf [] _) fr_11 (by decide)) 39 rfl) ((fM_call (fM_rf [] _) fr_11 (by decide)) 40 rfl) ((fM_call (fM_rf [] _) fr_11 (by decide)) 42 rfl) ((fM_call (fM_rf [] _) fr_11 (by decide)) 41 rfl) rfl)).2.1; show (fv_625 44).toInt = (rd_S b9 n9 k9 : Nat); rw [← h7]; exact h8⟩))⟩), (vM_fr hp_vM (fM_call (fM_call (fM_rf [43, 44] _) fr_11 (by decide)) fr_628 (by decide)) (fA_call (fA_call (fA_rf [] _) fa_12 (by decide)) fa_629 (by decide)) rfl rfl rfl rfl rfl), trivial⟩, ⟨by rw [ht]; exact hP, va_K.moved hW.alike hK⟩⟩, hS.F ht⟩) hS.2.2 dX12_readLine_15

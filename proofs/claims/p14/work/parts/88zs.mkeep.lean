set_option maxHeartbeats 4000000 in
set_option maxRecDepth 100000 in
theorem m_keepE_15 (l : Launch) (dC : Nat → ClassId) (dI : Nat → Nat → Nat) (sz h : Nat) (ad : Nat → Nat) (cA : Nat → ClassId) (hd : dM h ad) (fv : Nat → Int32) (wd : Int64) (ar : Nat → Nat → Int32) (hF_fv : rF fv) (hA_ar : rA ar) (nn : Int32) (h_nn : 0 ≤ nn.toInt ∧ nn.toInt ≤ 40) (hk : (fv 89).toInt + nn.toInt ≤ 441) : Met l yX12_keep (.code yX12_keep cX12_keep 4 none :: lw_good) ({ frames := 2, cells := 0, slots := 0, locals := 40 }) (va_Pc [.ref h, .ref (ad 15), .int nn] (prM dC dI h ad cA fv wd ar sz)) (va_Qv (fun (u : mS) => rF u.1 ∧ rA u.2.2 ∧ fM [89] fv u.1 ∧ fA [88] ar u.2.2 ∧ ((u.1 89).toInt = (fv 89).toInt + nn.toInt) ∧ (mm_kp (ar 88) (ar 15) (u.2.2 88) ((fv 89).toInt.toNat) (nn.toInt.toNat)) ∧ True) (enM dC dI h ad cA) (aM h ad sz)) 0 0 (aM h ad sz) := by
  refine Met.ofW (cc := cX12_keep) (maxL := 4) (ret := none) (by decide) rfl ?_
  intro p e s m args below meth c s₁ B hml hv
  obtain ⟨rfl, hsz, hP, hK⟩ := hv
  have hx := B.exec
  have hb := B.bytes
  have hr := B.returns
  have hts := atoms_spec (ws := (.code yX12_keep cX12_keep 4 none :: lw_good)) B.pre
  have htg : ∀ w ∈ lw_good, w.before _ s = true := fun w hw => hts w (List.mem_cons_of_mem _ hw)
  have hown : s.vm.findClass RX12 = some m.cls := findClass_of_methodNamed B.named
  have hlocks := B.notSynchronized
  subst hsz
  have hS : va_S (aM h ad s.heap.size) s.heap s.heap [] := va_S.rf
  have hl := lv_entry ([.ref h, .ref (ad 15), .int nn]) (n := 4) (Nat.le_of_ble_eq_true rfl)
  rw [lg_entry_eq]
  generalize (lg_sl ([.ref h, .ref (ad 15), .int nn]) ++ List.replicate (4 - (lg_sl ([.ref h, .ref (ad 15), .int nn])).length) Slot.unset).toArray = ls at hl ⊢
  have hl : lv_has ls 4 [(0, .ref h), (1, .ref (ad 15)), (2, .int nn)] := hl
  refine lv_iconst (v := 0) hx hb dX12_keep_0 (by decide) ?_
  refine lv_istore_n (lv' := [(3, .int 0), (0, .ref h), (1, .ref (ad 15)), (2, .int nn)]) hx hb dX12_keep_1 rfl hl (by decide) rfl (fun ls hl => ?_)
  refine my_cut (P := fun R9 a9 Q9 => ∀ (n_9 : Nat) (x_1 : Int32) (fv_2 : Nat → Int32) (ar_4 : Nat → Nat → Int32) (H : Heap) (locs : List Loc) (ls : Array Slot), 40 - x_1.toInt < (n_9 : Int) → (0 ≤ x_1.toInt ∧ x_1.toInt ≤ 40) → rF fv_2 → fM [89] fv fv_2 → rA ar_4 → fA [88] ar ar_4 → ((fv_2 89).toInt = (fv 89).toInt + x_1.toInt) → (x_1.toInt ≤ nn.toInt) → (mm_kp (ar 88) (ar 15) (ar_4 88) ((fv 89).toInt.toNat) (x_1.toInt.toNat)) → va_P (dC, dI) vwCl (wsM h ad cA fv_2 wd ar_4) H → va_S (aM h ad s.heap.size) s.heap H locs → lv_has ls 4 [(0, .ref h), (1, .ref (ad 15)), (2, .int nn), (3, .int x_1)] → W p l e R9 s m a9 below meth c H locs 0 0 Q9 (F0 m 2 ls [])) ?_ (fun hj_11 => ?_)
  · intro n_9
    induction n_9 with
    | zero => intro x_1 fv_2 ar_4 H locs ls fu_10 i_x_1 hF_fv_2 fr_3 hA_ar_4 fa_5 q_6 q_7 q_8; exfalso; omega
    | succ n_9 ih_9 =>
      intro x_1 fv_2 ar_4 H locs ls fu_10 i_x_1 hF_fv_2 fr_3 hA_ar_4 fa_5 q_6 q_7 q_8 hP hS hl
      refine lv_iload_n hx hb dX12_keep_2 rfl (lv_at hl 3 rfl) ?_
      refine lv_iload_n hx hb dX12_keep_3 rfl (lv_at hl 2 rfl) ?_
      refine lv_icmp_ge (tgt := 35) hx hb dX12_keep_4 (by decide) (fun c_12 => ?_) (fun c_12 => ?_)
      · skip
        have k_13 := Int32.le_iff_toInt_le.mp c_12
        have z_14 : 0 ≤ (fv_2 89).toInt ∧ (fv_2 89).toInt ≤ 441 := hF_fv_2 89
        exact W.vret hx hb hr (fun t ht hW => ⟨⟨(fv_2, wd, ar_4), rfl, ⟨hF_fv_2, hA_ar_4, (fM_call (fM_rf [89] _) fr_3 (by decide)), (fA_call (fA_rf [88] _) fa_5 (by decide)), (show (fv_2 89).toInt = (fv 89).toInt + nn.toInt from by omega), (show mm_kp (ar 88) (ar 15) (ar_4 88) ((fv 89).toInt.toNat) (nn.toInt.toNat) from by have h9 := q_8; rw [show (x_1.toInt.toNat) = (nn.toInt.toNat) from by omega] at h9; exact h9), trivial⟩, ⟨by rw [ht]; exact hP, va_K.moved hW.alike hK⟩⟩, hS.F ht⟩) hS.2.2 dX12_keep_35
      · skip
        have i_15 : 0 ≤ x_1.toInt ∧ x_1.toInt ≤ 39 := iv_lt1 i_x_1 h_nn (Int32.not_le.mp c_12)
        have i_16 : 1 ≤ nn.toInt ∧ nn.toInt ≤ 40 := iv_lt2 i_x_1 h_nn (Int32.not_le.mp c_12)
        have k_17 := Int32.lt_iff_toInt_lt.mp (Int32.not_le.mp c_12)
        refine lv_aload_n hx hb dX12_keep_7 rfl (lv_at hl 0 rfl) ?_
        refine gM_88 hx hb htg hown hK hP dX12_keep_8 ?_
        refine lv_aload_n hx hb dX12_keep_11 rfl (lv_at hl 0 rfl) ?_
        refine gM_89 hx hb htg hown hK hP dX12_keep_12 ?_
        have i_18 : 0 ≤ (fv_2 89).toInt ∧ (fv_2 89).toInt ≤ 441 := hF_fv_2 89
        refine lv_aload_n hx hb dX12_keep_15 rfl (lv_at hl 1 rfl) ?_
        refine lv_iload_n hx hb dX12_keep_16 rfl (lv_at hl 3 rfl) ?_
        refine lM_15 hx hb hK hP (iv_in i_15 (by decide) (by decide)) dX12_keep_17 (fun v_19 ev_19 => ?_)
        refine sM_88 hx hb hK hP hS hd (vp_in_iff.mpr (by omega)) dX12_keep_18 (fun H locs ar_20 ear_20 hP hS => ?_)
        have hA_ar_20 : rA ar_20 := rA_put hA_ar_4 ear_20 (iv_any _)
        refine lv_aload_n hx hb dX12_keep_19 rfl (lv_at hl 0 rfl) ?_
        refine lv_dup hx hb dX12_keep_20 rfl ?_
        refine gM_89 hx hb htg hown hK hP dX12_keep_21 ?_
        refine lv_iconst (v := 1) hx hb dX12_keep_24 (by decide) ?_
        refine lv_iadd hx hb dX12_keep_25 ?_
        refine lv_topi (fun v_21 ev_21 => ?_)
        have t_22 : v_21.toInt = (fv_2 89).toInt + 1 ∧ 1 ≤ v_21.toInt ∧ v_21.toInt ≤ 442 := iv_addc ev_21 i_18 (by decide) (by decide) (by decide)
        have i_24 : 0 ≤ v_21.toInt ∧ v_21.toInt ≤ 441 := (by omega)
        refine pM_89 hx hb htg hown hK hP hS hd dX12_keep_26 (fun H locs fv_25 efv_25 hP hS => ?_)
        have hF_fv_25 : rF fv_25 := rF_put hF_fv_2 efv_25 i_24
        obtain ⟨v_26, ev_26⟩ : ∃ z : Int32, z = x_1 + 1 := ⟨_, rfl⟩
        refine lv_iinc (v := v_26) (lv' := [(3, .int v_26), (0, .ref h), (1, .ref (ad 15)), (2, .int nn)]) hx hb dX12_keep_29 hl (k := 3) rfl (by rw [ev_26]; rfl) (by decide) rfl (fun ls hl => ?_)
        have t_27 : v_26.toInt = x_1.toInt + 1 ∧ 1 ≤ v_26.toInt ∧ v_26.toInt ≤ 40 := iv_addc ev_26 i_15 (by decide) (by decide) (by decide)
        refine lv_goto (tgt := 2) hx hb dX12_keep_32 (by decide) ?_
        have z_29 : (fv_25 89).toInt = v_21.toInt := congrArg Int32.toInt ((congrFun efv_25 89))
        have z_30 : 0 ≤ (fv_25 89).toInt ∧ (fv_25 89).toInt ≤ 441 := hF_fv_25 89
        exact ih_9 v_26 fv_25 ar_20 _ _ ls (by omega) (iv_w t_27.2 (by decide) (by decide)) hF_fv_25 (fM_put (fM_call (fM_rf [89] _) fr_3 (by decide)) efv_25 (by decide)) hA_ar_20 (fA_put (fA_call (fA_rf [88] _) fa_5 (by decide)) ear_20 (by decide)) (by rw [show fv_25 89 = v_21 from (congrFun efv_25 89)]; omega) (by omega) (by have hq0 := q_6; have h89 := (show (0 : Int) ≤ (fv 89).toInt ∧ (fv 89).toInt ≤ 441 from hF_fv 89); rw [show v_26.toInt.toNat = (x_1.toInt.toNat) + 1 from by omega]; exact mm_kp_s q_8 (fun j9 => by rw [(show ∀ i9, ar_20 88 i9 = if i9 = ((fv_2 89).toInt.toNat) then v_19 else ar_4 88 i9 from (fun i9 => by rw [ear_20]; show (if i9 = Int32.toNatClampNeg (fv_2 89) then v_19 else ar_4 88 i9) = _; rfl)) j9, show ((fv_2 89).toInt.toNat) = ((fv 89).toInt.toNat) + (x_1.toInt.toNat) from by omega]) (show v_19 = ar 15 (x_1.toInt.toNat) from by rw [ev_19, show ar_4 15 = ar 15 from ((fA_call (fA_rf [88] _) fa_5 (by decide)) 15 rfl)]; exact congrArg (ar 15) (show x_1.toInt.toNat = (x_1.toInt.toNat) from by omega))) hP hS (lv_sub hl [1, 2, 3, 0] rfl)
  · skip
    have z_31 : (0 : Int32).toInt = 0 := by decide
    have z_32 : 0 ≤ (fv 89).toInt ∧ (fv 89).toInt ≤ 441 := hF_fv 89
    exact hj_11 41 0 fv ar _ _ ls (by first | decide | omega) (iv_w (⟨by decide, by decide⟩ : (0 : Int) ≤ (0 : Int32).toInt ∧ (0 : Int32).toInt ≤ 0) (by decide) (by decide)) hF_fv (fM_rf [89] _) hA_ar (fA_rf [88] _) (by rw [show (0 : Int32).toInt = 0 from by decide]; omega) (by omega) (by rw [show (0 : Int32).toInt.toNat = 0 from by decide]; exact mm_kp_0 _ _ _) hP hS (lv_sub hl [1, 2, 3, 0] rfl)
set_option maxHeartbeats 4000000 in
set_option maxRecDepth 100000 in
theorem m_putBackE_15 (l : Launch) (dC : Nat → ClassId) (dI : Nat → Nat → Nat) (sz h : Nat) (ad : Nat → Nat) (cA : Nat → ClassId) (hd : dM h ad) (fv : Nat → Int32) (wd : Int64) (ar : Nat → Nat → Int32) (hF_fv : rF fv) (hA_ar : rA ar) (nn : Int32) (h_nn : 0 ≤ nn.toInt ∧ nn.toInt ≤ 40) (hk : (fv 89).toInt + nn.toInt ≤ 441) : Met l yX12_putBack (.code yX12_putBack cX12_putBack 4 none :: lw_good) ({ frames := 2, cells := 0, slots := 0, locals := 40 }) (va_Pc [.ref h, .ref (ad 15), .int nn] (prM dC dI h ad cA fv wd ar sz)) (va_Qv (fun (u : mS) => rF u.1 ∧ rA u.2.2 ∧ fM [89] fv u.1 ∧ fA [15] ar u.2.2 ∧ ((u.1 89).toInt = (fv 89).toInt + nn.toInt) ∧ (mm_pb (ar 15) (ar 88) (u.2.2 15) ((fv 89).toInt.toNat) (nn.toInt.toNat)) ∧ True) (enM dC dI h ad cA) (aM h ad sz)) 0 0 (aM h ad sz) := by
  refine Met.ofW (cc := cX12_putBack) (maxL := 4) (ret := none) (by decide) rfl ?_
  intro p e s m args below meth c s₁ B hml hv
  obtain ⟨rfl, hsz, hP, hK⟩ := hv
  have hx := B.exec
  have hb := B.bytes
  have hr := B.returns
  have hts := atoms_spec (ws := (.code yX12_putBack cX12_putBack 4 none :: lw_good)) B.pre
  have htg : ∀ w ∈ lw_good, w.before _ s = true := fun w hw => hts w (List.mem_cons_of_mem _ hw)
  have hown : s.vm.findClass RX12 = some m.cls := findClass_of_methodNamed B.named
  have hlocks := B.notSynchronized
  subst hsz
  have hS : va_S (aM h ad s.heap.size) s.heap s.heap [] := va_S.rf
  have hl := lv_entry ([.ref h, .ref (ad 15), .int nn]) (n := 4) (Nat.le_of_ble_eq_true rfl)
  rw [lg_entry_eq]
  generalize (lg_sl ([.ref h, .ref (ad 15), .int nn]) ++ List.replicate (4 - (lg_sl ([.ref h, .ref (ad 15), .int nn])).length) Slot.unset).toArray = ls at hl ⊢
  have hl : lv_has ls 4 [(0, .ref h), (1, .ref (ad 15)), (2, .int nn)] := hl
  refine lv_iconst (v := 0) hx hb dX12_putBack_0 (by decide) ?_
  refine lv_istore_n (lv' := [(3, .int 0), (0, .ref h), (1, .ref (ad 15)), (2, .int nn)]) hx hb dX12_putBack_1 rfl hl (by decide) rfl (fun ls hl => ?_)
  refine my_cut (P := fun R9 a9 Q9 => ∀ (n_9 : Nat) (x_1 : Int32) (fv_2 : Nat → Int32) (ar_4 : Nat → Nat → Int32) (H : Heap) (locs : List Loc) (ls : Array Slot), 40 - x_1.toInt < (n_9 : Int) → (0 ≤ x_1.toInt ∧ x_1.toInt ≤ 40) → rF fv_2 → fM [89] fv fv_2 → rA ar_4 → fA [15] ar ar_4 → ((fv_2 89).toInt = (fv 89).toInt + x_1.toInt) → (x_1.toInt ≤ nn.toInt) → (mm_pb (ar 15) (ar 88) (ar_4 15) ((fv 89).toInt.toNat) (x_1.toInt.toNat)) → va_P (dC, dI) vwCl (wsM h ad cA fv_2 wd ar_4) H → va_S (aM h ad s.heap.size) s.heap H locs → lv_has ls 4 [(0, .ref h), (1, .ref (ad 15)), (2, .int nn), (3, .int x_1)] → W p l e R9 s m a9 below meth c H locs 0 0 Q9 (F0 m 2 ls [])) ?_ (fun hj_11 => ?_)
  · intro n_9
    induction n_9 with
    | zero => intro x_1 fv_2 ar_4 H locs ls fu_10 i_x_1 hF_fv_2 fr_3 hA_ar_4 fa_5 q_6 q_7 q_8; exfalso; omega
    | succ n_9 ih_9 =>
      intro x_1 fv_2 ar_4 H locs ls fu_10 i_x_1 hF_fv_2 fr_3 hA_ar_4 fa_5 q_6 q_7 q_8 hP hS hl
      refine lv_iload_n hx hb dX12_putBack_2 rfl (lv_at hl 3 rfl) ?_
      refine lv_iload_n hx hb dX12_putBack_3 rfl (lv_at hl 2 rfl) ?_
      refine lv_icmp_ge (tgt := 35) hx hb dX12_putBack_4 (by decide) (fun c_12 => ?_) (fun c_12 => ?_)
      · skip
        have k_13 := Int32.le_iff_toInt_le.mp c_12
        have z_14 : 0 ≤ (fv_2 89).toInt ∧ (fv_2 89).toInt ≤ 441 := hF_fv_2 89
        exact W.vret hx hb hr (fun t ht hW => ⟨⟨(fv_2, wd, ar_4), rfl, ⟨hF_fv_2, hA_ar_4, (fM_call (fM_rf [89] _) fr_3 (by decide)), (fA_call (fA_rf [15] _) fa_5 (by decide)), (show (fv_2 89).toInt = (fv 89).toInt + nn.toInt from by omega), (show mm_pb (ar 15) (ar 88) (ar_4 15) ((fv 89).toInt.toNat) (nn.toInt.toNat) from by have h9 := q_8; rw [show (x_1.toInt.toNat) = (nn.toInt.toNat) from by omega] at h9; exact h9), trivial⟩, ⟨by rw [ht]; exact hP, va_K.moved hW.alike hK⟩⟩, hS.F ht⟩) hS.2.2 dX12_putBack_35
      · skip
        have i_15 : 0 ≤ x_1.toInt ∧ x_1.toInt ≤ 39 := iv_lt1 i_x_1 h_nn (Int32.not_le.mp c_12)
        have i_16 : 1 ≤ nn.toInt ∧ nn.toInt ≤ 40 := iv_lt2 i_x_1 h_nn (Int32.not_le.mp c_12)
        have k_17 := Int32.lt_iff_toInt_lt.mp (Int32.not_le.mp c_12)
        refine lv_aload_n hx hb dX12_putBack_7 rfl (lv_at hl 1 rfl) ?_
        refine lv_iload_n hx hb dX12_putBack_8 rfl (lv_at hl 3 rfl) ?_
        refine lv_aload_n hx hb dX12_putBack_9 rfl (lv_at hl 0 rfl) ?_
        refine gM_88 hx hb htg hown hK hP dX12_putBack_10 ?_
        refine lv_aload_n hx hb dX12_putBack_13 rfl (lv_at hl 0 rfl) ?_
        refine gM_89 hx hb htg hown hK hP dX12_putBack_14 ?_
        have i_18 : 0 ≤ (fv_2 89).toInt ∧ (fv_2 89).toInt ≤ 441 := hF_fv_2 89
        refine lM_88 hx hb hK hP (vp_in_iff.mpr (by omega)) dX12_putBack_17 (fun v_19 ev_19 => ?_)
        refine sM_15 hx hb hK hP hS hd (iv_in i_15 (by decide) (by decide)) dX12_putBack_18 (fun H locs ar_20 ear_20 hP hS => ?_)
        have hA_ar_20 : rA ar_20 := rA_put hA_ar_4 ear_20 (iv_any _)
        refine lv_aload_n hx hb dX12_putBack_19 rfl (lv_at hl 0 rfl) ?_
        refine lv_dup hx hb dX12_putBack_20 rfl ?_
        refine gM_89 hx hb htg hown hK hP dX12_putBack_21 ?_
        refine lv_iconst (v := 1) hx hb dX12_putBack_24 (by decide) ?_
        refine lv_iadd hx hb dX12_putBack_25 ?_
        refine lv_topi (fun v_21 ev_21 => ?_)
        have t_22 : v_21.toInt = (fv_2 89).toInt + 1 ∧ 1 ≤ v_21.toInt ∧ v_21.toInt ≤ 442 := iv_addc ev_21 i_18 (by decide) (by decide) (by decide)
        have i_24 : 0 ≤ v_21.toInt ∧ v_21.toInt ≤ 441 := (by omega)
        refine pM_89 hx hb htg hown hK hP hS hd dX12_putBack_26 (fun H locs fv_25 efv_25 hP hS => ?_)
        have hF_fv_25 : rF fv_25 := rF_put hF_fv_2 efv_25 i_24
        obtain ⟨v_26, ev_26⟩ : ∃ z : Int32, z = x_1 + 1 := ⟨_, rfl⟩
        refine lv_iinc (v := v_26) (lv' := [(3, .int v_26), (0, .ref h), (1, .ref (ad 15)), (2, .int nn)]) hx hb dX12_putBack_29 hl (k := 3) rfl (by rw [ev_26]; rfl) (by decide) rfl (fun ls hl => ?_)
        have t_27 : v_26.toInt = x_1.toInt + 1 ∧ 1 ≤ v_26.toInt ∧ v_26.toInt ≤ 40 := iv_addc ev_26 i_15 (by decide) (by decide) (by decide)
        refine lv_goto (tgt := 2) hx hb dX12_putBack_32 (by decide) ?_
        have z_29 : (fv_25 89).toInt = v_21.toInt := congrArg Int32.toInt ((congrFun efv_25 89))
        have z_30 : 0 ≤ (fv_25 89).toInt ∧ (fv_25 89).toInt ≤ 441 := hF_fv_25 89
        exact ih_9 v_26 fv_25 ar_20 _ _ ls (by omega) (iv_w t_27.2 (by decide) (by decide)) hF_fv_25 (fM_put (fM_call (fM_rf [89] _) fr_3 (by decide)) efv_25 (by decide)) hA_ar_20 (fA_put (fA_call (fA_rf [15] _) fa_5 (by decide)) ear_20 (by decide)) (by rw [show fv_25 89 = v_21 from (congrFun efv_25 89)]; omega) (by omega) (by have hq0 := q_6; have h89 := (show (0 : Int) ≤ (fv 89).toInt ∧ (fv 89).toInt ≤ 441 from hF_fv 89); rw [show v_26.toInt.toNat = (x_1.toInt.toNat) + 1 from by omega]; exact mm_pb_s q_8 (fun j9 => by rw [(show ∀ i9, ar_20 15 i9 = if i9 = (x_1.toInt.toNat) then v_19 else ar_4 15 i9 from (fun i9 => by rw [ear_20]; show (if i9 = Int32.toNatClampNeg x_1 then v_19 else ar_4 15 i9) = _; rfl)) j9, show (x_1.toInt.toNat) = (x_1.toInt.toNat) from by omega]) (show v_19 = ar 88 (((fv 89).toInt.toNat) + (x_1.toInt.toNat)) from by rw [ev_19, show ar_4 88 = ar 88 from ((fA_call (fA_rf [15] _) fa_5 (by decide)) 88 rfl)]; exact congrArg (ar 88) (show (fv_2 89).toInt.toNat = (((fv 89).toInt.toNat) + (x_1.toInt.toNat)) from by omega))) hP hS (lv_sub hl [1, 2, 3, 0] rfl)
  · skip
    have z_31 : (0 : Int32).toInt = 0 := by decide
    have z_32 : 0 ≤ (fv 89).toInt ∧ (fv 89).toInt ≤ 441 := hF_fv 89
    exact hj_11 41 0 fv ar _ _ ls (by first | decide | omega) (iv_w (⟨by decide, by decide⟩ : (0 : Int) ≤ (0 : Int32).toInt ∧ (0 : Int32).toInt ≤ 0) (by decide) (by decide)) hF_fv (fM_rf [89] _) hA_ar (fA_rf [15] _) (by rw [show (0 : Int32).toInt = 0 from by decide]; omega) (by omega) (by rw [show (0 : Int32).toInt.toNat = 0 from by decide]; exact mm_pb_0 _ _ _) hP hS (lv_sub hl [1, 2, 3, 0] rfl)
set_option maxHeartbeats 4000000 in
set_option maxRecDepth 100000 in
theorem m_keepE_16 (l : Launch) (dC : Nat → ClassId) (dI : Nat → Nat → Nat) (sz h : Nat) (ad : Nat → Nat) (cA : Nat → ClassId) (hd : dM h ad) (fv : Nat → Int32) (wd : Int64) (ar : Nat → Nat → Int32) (hF_fv : rF fv) (hA_ar : rA ar) (nn : Int32) (h_nn : 0 ≤ nn.toInt ∧ nn.toInt ≤ 40) (hk : (fv 89).toInt + nn.toInt ≤ 441) : Met l yX12_keep (.code yX12_keep cX12_keep 4 none :: lw_good) ({ frames := 2, cells := 0, slots := 0, locals := 40 }) (va_Pc [.ref h, .ref (ad 16), .int nn] (prM dC dI h ad cA fv wd ar sz)) (va_Qv (fun (u : mS) => rF u.1 ∧ rA u.2.2 ∧ fM [89] fv u.1 ∧ fA [88] ar u.2.2 ∧ ((u.1 89).toInt = (fv 89).toInt + nn.toInt) ∧ (mm_kp (ar 88) (ar 16) (u.2.2 88) ((fv 89).toInt.toNat) (nn.toInt.toNat)) ∧ True) (enM dC dI h ad cA) (aM h ad sz)) 0 0 (aM h ad sz) := by
  refine Met.ofW (cc := cX12_keep) (maxL := 4) (ret := none) (by decide) rfl ?_
  intro p e s m args below meth c s₁ B hml hv
  obtain ⟨rfl, hsz, hP, hK⟩ := hv
  have hx := B.exec
  have hb := B.bytes
  have hr := B.returns
  have hts := atoms_spec (ws := (.code yX12_keep cX12_keep 4 none :: lw_good)) B.pre
  have htg : ∀ w ∈ lw_good, w.before _ s = true := fun w hw => hts w (List.mem_cons_of_mem _ hw)
  have hown : s.vm.findClass RX12 = some m.cls := findClass_of_methodNamed B.named
  have hlocks := B.notSynchronized
  subst hsz
  have hS : va_S (aM h ad s.heap.size) s.heap s.heap [] := va_S.rf
  have hl := lv_entry ([.ref h, .ref (ad 16), .int nn]) (n := 4) (Nat.le_of_ble_eq_true rfl)
  rw [lg_entry_eq]
  generalize (lg_sl ([.ref h, .ref (ad 16), .int nn]) ++ List.replicate (4 - (lg_sl ([.ref h, .ref (ad 16), .int nn])).length) Slot.unset).toArray = ls at hl ⊢
  have hl : lv_has ls 4 [(0, .ref h), (1, .ref (ad 16)), (2, .int nn)] := hl
  refine lv_iconst (v := 0) hx hb dX12_keep_0 (by decide) ?_
  refine lv_istore_n (lv' := [(3, .int 0), (0, .ref h), (1, .ref (ad 16)), (2, .int nn)]) hx hb dX12_keep_1 rfl hl (by decide) rfl (fun ls hl => ?_)
  refine my_cut (P := fun R9 a9 Q9 => ∀ (n_9 : Nat) (x_1 : Int32) (fv_2 : Nat → Int32) (ar_4 : Nat → Nat → Int32) (H : Heap) (locs : List Loc) (ls : Array Slot), 40 - x_1.toInt < (n_9 : Int) → (0 ≤ x_1.toInt ∧ x_1.toInt ≤ 40) → rF fv_2 → fM [89] fv fv_2 → rA ar_4 → fA [88] ar ar_4 → ((fv_2 89).toInt = (fv 89).toInt + x_1.toInt) → (x_1.toInt ≤ nn.toInt) → (mm_kp (ar 88) (ar 16) (ar_4 88) ((fv 89).toInt.toNat) (x_1.toInt.toNat)) → va_P (dC, dI) vwCl (wsM h ad cA fv_2 wd ar_4) H → va_S (aM h ad s.heap.size) s.heap H locs → lv_has ls 4 [(0, .ref h), (1, .ref (ad 16)), (2, .int nn), (3, .int x_1)] → W p l e R9 s m a9 below meth c H locs 0 0 Q9 (F0 m 2 ls [])) ?_ (fun hj_11 => ?_)
  · intro n_9
    induction n_9 with
    | zero => intro x_1 fv_2 ar_4 H locs ls fu_10 i_x_1 hF_fv_2 fr_3 hA_ar_4 fa_5 q_6 q_7 q_8; exfalso; omega
    | succ n_9 ih_9 =>
      intro x_1 fv_2 ar_4 H locs ls fu_10 i_x_1 hF_fv_2 fr_3 hA_ar_4 fa_5 q_6 q_7 q_8 hP hS hl
      refine lv_iload_n hx hb dX12_keep_2 rfl (lv_at hl 3 rfl) ?_
      refine lv_iload_n hx hb dX12_keep_3 rfl (lv_at hl 2 rfl) ?_
      refine lv_icmp_ge (tgt := 35) hx hb dX12_keep_4 (by decide) (fun c_12 => ?_) (fun c_12 => ?_)
      · skip
        have k_13 := Int32.le_iff_toInt_le.mp c_12
        have z_14 : 0 ≤ (fv_2 89).toInt ∧ (fv_2 89).toInt ≤ 441 := hF_fv_2 89
        exact W.vret hx hb hr (fun t ht hW => ⟨⟨(fv_2, wd, ar_4), rfl, ⟨hF_fv_2, hA_ar_4, (fM_call (fM_rf [89] _) fr_3 (by decide)), (fA_call (fA_rf [88] _) fa_5 (by decide)), (show (fv_2 89).toInt = (fv 89).toInt + nn.toInt from by omega), (show mm_kp (ar 88) (ar 16) (ar_4 88) ((fv 89).toInt.toNat) (nn.toInt.toNat) from by have h9 := q_8; rw [show (x_1.toInt.toNat) = (nn.toInt.toNat) from by omega] at h9; exact h9), trivial⟩, ⟨by rw [ht]; exact hP, va_K.moved hW.alike hK⟩⟩, hS.F ht⟩) hS.2.2 dX12_keep_35
      · skip
        have i_15 : 0 ≤ x_1.toInt ∧ x_1.toInt ≤ 39 := iv_lt1 i_x_1 h_nn (Int32.not_le.mp c_12)
        have i_16 : 1 ≤ nn.toInt ∧ nn.toInt ≤ 40 := iv_lt2 i_x_1 h_nn (Int32.not_le.mp c_12)
        have k_17 := Int32.lt_iff_toInt_lt.mp (Int32.not_le.mp c_12)
        refine lv_aload_n hx hb dX12_keep_7 rfl (lv_at hl 0 rfl) ?_
        refine gM_88 hx hb htg hown hK hP dX12_keep_8 ?_
        refine lv_aload_n hx hb dX12_keep_11 rfl (lv_at hl 0 rfl) ?_
        refine gM_89 hx hb htg hown hK hP dX12_keep_12 ?_
        have i_18 : 0 ≤ (fv_2 89).toInt ∧ (fv_2 89).toInt ≤ 441 := hF_fv_2 89
        refine lv_aload_n hx hb dX12_keep_15 rfl (lv_at hl 1 rfl) ?_
        refine lv_iload_n hx hb dX12_keep_16 rfl (lv_at hl 3 rfl) ?_
        refine lM_16 hx hb hK hP (iv_in i_15 (by decide) (by decide)) dX12_keep_17 (fun v_19 ev_19 => ?_)
        refine sM_88 hx hb hK hP hS hd (vp_in_iff.mpr (by omega)) dX12_keep_18 (fun H locs ar_20 ear_20 hP hS => ?_)
        have hA_ar_20 : rA ar_20 := rA_put hA_ar_4 ear_20 (iv_any _)
        refine lv_aload_n hx hb dX12_keep_19 rfl (lv_at hl 0 rfl) ?_
        refine lv_dup hx hb dX12_keep_20 rfl ?_
        refine gM_89 hx hb htg hown hK hP dX12_keep_21 ?_
        refine lv_iconst (v := 1) hx hb dX12_keep_24 (by decide) ?_
        refine lv_iadd hx hb dX12_keep_25 ?_
        refine lv_topi (fun v_21 ev_21 => ?_)
        have t_22 : v_21.toInt = (fv_2 89).toInt + 1 ∧ 1 ≤ v_21.toInt ∧ v_21.toInt ≤ 442 := iv_addc ev_21 i_18 (by decide) (by decide) (by decide)
        have i_24 : 0 ≤ v_21.toInt ∧ v_21.toInt ≤ 441 := (by omega)
        refine pM_89 hx hb htg hown hK hP hS hd dX12_keep_26 (fun H locs fv_25 efv_25 hP hS => ?_)
        have hF_fv_25 : rF fv_25 := rF_put hF_fv_2 efv_25 i_24
        obtain ⟨v_26, ev_26⟩ : ∃ z : Int32, z = x_1 + 1 := ⟨_, rfl⟩
        refine lv_iinc (v := v_26) (lv' := [(3, .int v_26), (0, .ref h), (1, .ref (ad 16)), (2, .int nn)]) hx hb dX12_keep_29 hl (k := 3) rfl (by rw [ev_26]; rfl) (by decide) rfl (fun ls hl => ?_)
        have t_27 : v_26.toInt = x_1.toInt + 1 ∧ 1 ≤ v_26.toInt ∧ v_26.toInt ≤ 40 := iv_addc ev_26 i_15 (by decide) (by decide) (by decide)
        refine lv_goto (tgt := 2) hx hb dX12_keep_32 (by decide) ?_
        have z_29 : (fv_25 89).toInt = v_21.toInt := congrArg Int32.toInt ((congrFun efv_25 89))
        have z_30 : 0 ≤ (fv_25 89).toInt ∧ (fv_25 89).toInt ≤ 441 := hF_fv_25 89
        exact ih_9 v_26 fv_25 ar_20 _ _ ls (by omega) (iv_w t_27.2 (by decide) (by decide)) hF_fv_25 (fM_put (fM_call (fM_rf [89] _) fr_3 (by decide)) efv_25 (by decide)) hA_ar_20 (fA_put (fA_call (fA_rf [88] _) fa_5 (by decide)) ear_20 (by decide)) (by rw [show fv_25 89 = v_21 from (congrFun efv_25 89)]; omega) (by omega) (by have hq0 := q_6; have h89 := (show (0 : Int) ≤ (fv 89).toInt ∧ (fv 89).toInt ≤ 441 from hF_fv 89); rw [show v_26.toInt.toNat = (x_1.toInt.toNat) + 1 from by omega]; exact mm_kp_s q_8 (fun j9 => by rw [(show ∀ i9, ar_20 88 i9 = if i9 = ((fv_2 89).toInt.toNat) then v_19 else ar_4 88 i9 from (fun i9 => by rw [ear_20]; show (if i9 = Int32.toNatClampNeg (fv_2 89) then v_19 else ar_4 88 i9) = _; rfl)) j9, show ((fv_2 89).toInt.toNat) = ((fv 89).toInt.toNat) + (x_1.toInt.toNat) from by omega]) (show v_19 = ar 16 (x_1.toInt.toNat) from by rw [ev_19, show ar_4 16 = ar 16 from ((fA_call (fA_rf [88] _) fa_5 (by decide)) 16 rfl)]; exact congrArg (ar 16) (show x_1.toInt.toNat = (x_1.toInt.toNat) from by omega))) hP hS (lv_sub hl [1, 2, 3, 0] rfl)
  · skip
    have z_31 : (0 : Int32).toInt = 0 := by decide
    have z_32 : 0 ≤ (fv 89).toInt ∧ (fv 89).toInt ≤ 441 := hF_fv 89
    exact hj_11 41 0 fv ar _ _ ls (by first | decide | omega) (iv_w (⟨by decide, by decide⟩ : (0 : Int) ≤ (0 : Int32).toInt ∧ (0 : Int32).toInt ≤ 0) (by decide) (by decide)) hF_fv (fM_rf [89] _) hA_ar (fA_rf [88] _) (by rw [show (0 : Int32).toInt = 0 from by decide]; omega) (by omega) (by rw [show (0 : Int32).toInt.toNat = 0 from by decide]; exact mm_kp_0 _ _ _) hP hS (lv_sub hl [1, 2, 3, 0] rfl)
set_option maxHeartbeats 4000000 in
set_option maxRecDepth 100000 in
theorem m_putBackE_16 (l : Launch) (dC : Nat → ClassId) (dI : Nat → Nat → Nat) (sz h : Nat) (ad : Nat → Nat) (cA : Nat → ClassId) (hd : dM h ad) (fv : Nat → Int32) (wd : Int64) (ar : Nat → Nat → Int32) (hF_fv : rF fv) (hA_ar : rA ar) (nn : Int32) (h_nn : 0 ≤ nn.toInt ∧ nn.toInt ≤ 40) (hk : (fv 89).toInt + nn.toInt ≤ 441) : Met l yX12_putBack (.code yX12_putBack cX12_putBack 4 none :: lw_good) ({ frames := 2, cells := 0, slots := 0, locals := 40 }) (va_Pc [.ref h, .ref (ad 16), .int nn] (prM dC dI h ad cA fv wd ar sz)) (va_Qv (fun (u : mS) => rF u.1 ∧ rA u.2.2 ∧ fM [89] fv u.1 ∧ fA [16] ar u.2.2 ∧ ((u.1 89).toInt = (fv 89).toInt + nn.toInt) ∧ (mm_pb (ar 16) (ar 88) (u.2.2 16) ((fv 89).toInt.toNat) (nn.toInt.toNat)) ∧ True) (enM dC dI h ad cA) (aM h ad sz)) 0 0 (aM h ad sz) := by
  refine Met.ofW (cc := cX12_putBack) (maxL := 4) (ret := none) (by decide) rfl ?_
  intro p e s m args below meth c s₁ B hml hv
  obtain ⟨rfl, hsz, hP, hK⟩ := hv
  have hx := B.exec
  have hb := B.bytes
  have hr := B.returns
  have hts := atoms_spec (ws := (.code yX12_putBack cX12_putBack 4 none :: lw_good)) B.pre
  have htg : ∀ w ∈ lw_good, w.before _ s = true := fun w hw => hts w (List.mem_cons_of_mem _ hw)
  have hown : s.vm.findClass RX12 = some m.cls := findClass_of_methodNamed B.named
  have hlocks := B.notSynchronized
  subst hsz
  have hS : va_S (aM h ad s.heap.size) s.heap s.heap [] := va_S.rf
  have hl := lv_entry ([.ref h, .ref (ad 16), .int nn]) (n := 4) (Nat.le_of_ble_eq_true rfl)
  rw [lg_entry_eq]
  generalize (lg_sl ([.ref h, .ref (ad 16), .int nn]) ++ List.replicate (4 - (lg_sl ([.ref h, .ref (ad 16), .int nn])).length) Slot.unset).toArray = ls at hl ⊢
  have hl : lv_has ls 4 [(0, .ref h), (1, .ref (ad 16)), (2, .int nn)] := hl
  refine lv_iconst (v := 0) hx hb dX12_putBack_0 (by decide) ?_
  refine lv_istore_n (lv' := [(3, .int 0), (0, .ref h), (1, .ref (ad 16)), (2, .int nn)]) hx hb dX12_putBack_1 rfl hl (by decide) rfl (fun ls hl => ?_)
  refine my_cut (P := fun R9 a9 Q9 => ∀ (n_9 : Nat) (x_1 : Int32) (fv_2 : Nat → Int32) (ar_4 : Nat → Nat → Int32) (H : Heap) (locs : List Loc) (ls : Array Slot), 40 - x_1.toInt < (n_9 : Int) → (0 ≤ x_1.toInt ∧ x_1.toInt ≤ 40) → rF fv_2 → fM [89] fv fv_2 → rA ar_4 → fA [16] ar ar_4 → ((fv_2 89).toInt = (fv 89).toInt + x_1.toInt) → (x_1.toInt ≤ nn.toInt) → (mm_pb (ar 16) (ar 88) (ar_4 16) ((fv 89).toInt.toNat) (x_1.toInt.toNat)) → va_P (dC, dI) vwCl (wsM h ad cA fv_2 wd ar_4) H → va_S (aM h ad s.heap.size) s.heap H locs → lv_has ls 4 [(0, .ref h), (1, .ref (ad 16)), (2, .int nn), (3, .int x_1)] → W p l e R9 s m a9 below meth c H locs 0 0 Q9 (F0 m 2 ls [])) ?_ (fun hj_11 => ?_)
  · intro n_9
    induction n_9 with
    | zero => intro x_1 fv_2 ar_4 H locs ls fu_10 i_x_1 hF_fv_2 fr_3 hA_ar_4 fa_5 q_6 q_7 q_8; exfalso; omega
    | succ n_9 ih_9 =>
      intro x_1 fv_2 ar_4 H locs ls fu_10 i_x_1 hF_fv_2 fr_3 hA_ar_4 fa_5 q_6 q_7 q_8 hP hS hl
      refine lv_iload_n hx hb dX12_putBack_2 rfl (lv_at hl 3 rfl) ?_
      refine lv_iload_n hx hb dX12_putBack_3 rfl (lv_at hl 2 rfl) ?_
      refine lv_icmp_ge (tgt := 35) hx hb dX12_putBack_4 (by decide) (fun c_12 => ?_) (fun c_12 => ?_)
      · skip
        have k_13 := Int32.le_iff_toInt_le.mp c_12
        have z_14 : 0 ≤ (fv_2 89).toInt ∧ (fv_2 89).toInt ≤ 441 := hF_fv_2 89
        exact W.vret hx hb hr (fun t ht hW => ⟨⟨(fv_2, wd, ar_4), rfl, ⟨hF_fv_2, hA_ar_4, (fM_call (fM_rf [89] _) fr_3 (by decide)), (fA_call (fA_rf [16] _) fa_5 (by decide)), (show (fv_2 89).toInt = (fv 89).toInt + nn.toInt from by omega), (show mm_pb (ar 16) (ar 88) (ar_4 16) ((fv 89).toInt.toNat) (nn.toInt.toNat) from by have h9 := q_8; rw [show (x_1.toInt.toNat) = (nn.toInt.toNat) from by omega] at h9; exact h9), trivial⟩, ⟨by rw [ht]; exact hP, va_K.moved hW.alike hK⟩⟩, hS.F ht⟩) hS.2.2 dX12_putBack_35
      · skip
        have i_15 : 0 ≤ x_1.toInt ∧ x_1.toInt ≤ 39 := iv_lt1 i_x_1 h_nn (Int32.not_le.mp c_12)
        have i_16 : 1 ≤ nn.toInt ∧ nn.toInt ≤ 40 := iv_lt2 i_x_1 h_nn (Int32.not_le.mp c_12)
        have k_17 := Int32.lt_iff_toInt_lt.mp (Int32.not_le.mp c_12)
        refine lv_aload_n hx hb dX12_putBack_7 rfl (lv_at hl 1 rfl) ?_
        refine lv_iload_n hx hb dX12_putBack_8 rfl (lv_at hl 3 rfl) ?_
        refine lv_aload_n hx hb dX12_putBack_9 rfl (lv_at hl 0 rfl) ?_
        refine gM_88 hx hb htg hown hK hP dX12_putBack_10 ?_
        refine lv_aload_n hx hb dX12_putBack_13 rfl (lv_at hl 0 rfl) ?_
        refine gM_89 hx hb htg hown hK hP dX12_putBack_14 ?_
        have i_18 : 0 ≤ (fv_2 89).toInt ∧ (fv_2 89).toInt ≤ 441 := hF_fv_2 89
        refine lM_88 hx hb hK hP (vp_in_iff.mpr (by omega)) dX12_putBack_17 (fun v_19 ev_19 => ?_)
        refine sM_16 hx hb hK hP hS hd (iv_in i_15 (by decide) (by decide)) dX12_putBack_18 (fun H locs ar_20 ear_20 hP hS => ?_)
        have hA_ar_20 : rA ar_20 := rA_put hA_ar_4 ear_20 (iv_any _)
        refine lv_aload_n hx hb dX12_putBack_19 rfl (lv_at hl 0 rfl) ?_
        refine lv_dup hx hb dX12_putBack_20 rfl ?_
        refine gM_89 hx hb htg hown hK hP dX12_putBack_21 ?_
        refine lv_iconst (v := 1) hx hb dX12_putBack_24 (by decide) ?_
        refine lv_iadd hx hb dX12_putBack_25 ?_
        refine lv_topi (fun v_21 ev_21 => ?_)
        have t_22 : v_21.toInt = (fv_2 89).toInt + 1 ∧ 1 ≤ v_21.toInt ∧ v_21.toInt ≤ 442 := iv_addc ev_21 i_18 (by decide) (by decide) (by decide)
        have i_24 : 0 ≤ v_21.toInt ∧ v_21.toInt ≤ 441 := (by omega)
        refine pM_89 hx hb htg hown hK hP hS hd dX12_putBack_26 (fun H locs fv_25 efv_25 hP hS => ?_)
        have hF_fv_25 : rF fv_25 := rF_put hF_fv_2 efv_25 i_24
        obtain ⟨v_26, ev_26⟩ : ∃ z : Int32, z = x_1 + 1 := ⟨_, rfl⟩
        refine lv_iinc (v := v_26) (lv' := [(3, .int v_26), (0, .ref h), (1, .ref (ad 16)), (2, .int nn)]) hx hb dX12_putBack_29 hl (k := 3) rfl (by rw [ev_26]; rfl) (by decide) rfl (fun ls hl => ?_)
        have t_27 : v_26.toInt = x_1.toInt + 1 ∧ 1 ≤ v_26.toInt ∧ v_26.toInt ≤ 40 := iv_addc ev_26 i_15 (by decide) (by decide) (by decide)
        refine lv_goto (tgt := 2) hx hb dX12_putBack_32 (by decide) ?_
        have z_29 : (fv_25 89).toInt = v_21.toInt := congrArg Int32.toInt ((congrFun efv_25 89))
        have z_30 : 0 ≤ (fv_25 89).toInt ∧ (fv_25 89).toInt ≤ 441 := hF_fv_25 89
        exact ih_9 v_26 fv_25 ar_20 _ _ ls (by omega) (iv_w t_27.2 (by decide) (by decide)) hF_fv_25 (fM_put (fM_call (fM_rf [89] _) fr_3 (by decide)) efv_25 (by decide)) hA_ar_20 (fA_put (fA_call (fA_rf [16] _) fa_5 (by decide)) ear_20 (by decide)) (by rw [show fv_25 89 = v_21 from (congrFun efv_25 89)]; omega) (by omega) (by have hq0 := q_6; have h89 := (show (0 : Int) ≤ (fv 89).toInt ∧ (fv 89).toInt ≤ 441 from hF_fv 89); rw [show v_26.toInt.toNat = (x_1.toInt.toNat) + 1 from by omega]; exact mm_pb_s q_8 (fun j9 => by rw [(show ∀ i9, ar_20 16 i9 = if i9 = (x_1.toInt.toNat) then v_19 else ar_4 16 i9 from (fun i9 => by rw [ear_20]; show (if i9 = Int32.toNatClampNeg x_1 then v_19 else ar_4 16 i9) = _; rfl)) j9, show (x_1.toInt.toNat) = (x_1.toInt.toNat) from by omega]) (show v_19 = ar 88 (((fv 89).toInt.toNat) + (x_1.toInt.toNat)) from by rw [ev_19, show ar_4 88 = ar 88 from ((fA_call (fA_rf [16] _) fa_5 (by decide)) 88 rfl)]; exact congrArg (ar 88) (show (fv_2 89).toInt.toNat = (((fv 89).toInt.toNat) + (x_1.toInt.toNat)) from by omega))) hP hS (lv_sub hl [1, 2, 3, 0] rfl)
  · skip
    have z_31 : (0 : Int32).toInt = 0 := by decide
    have z_32 : 0 ≤ (fv 89).toInt ∧ (fv 89).toInt ≤ 441 := hF_fv 89
    exact hj_11 41 0 fv ar _ _ ls (by first | decide | omega) (iv_w (⟨by decide, by decide⟩ : (0 : Int) ≤ (0 : Int32).toInt ∧ (0 : Int32).toInt ≤ 0) (by decide) (by decide)) hF_fv (fM_rf [89] _) hA_ar (fA_rf [16] _) (by rw [show (0 : Int32).toInt = 0 from by decide]; omega) (by omega) (by rw [show (0 : Int32).toInt.toNat = 0 from by decide]; exact mm_pb_0 _ _ _) hP hS (lv_sub hl [1, 2, 3, 0] rfl)
set_option maxHeartbeats 4000000 in
set_option maxRecDepth 100000 in
theorem m_keepE_18 (l : Launch) (dC : Nat → ClassId) (dI : Nat → Nat → Nat) (sz h : Nat) (ad : Nat → Nat) (cA : Nat → ClassId) (hd : dM h ad) (fv : Nat → Int32) (wd : Int64) (ar : Nat → Nat → Int32) (hF_fv : rF fv) (hA_ar : rA ar) (nn : Int32) (h_nn : 0 ≤ nn.toInt ∧ nn.toInt ≤ 40) (hk : (fv 89).toInt + nn.toInt ≤ 441) : Met l yX12_keep (.code yX12_keep cX12_keep 4 none :: lw_good) ({ frames := 2, cells := 0, slots := 0, locals := 40 }) (va_Pc [.ref h, .ref (ad 18), .int nn] (prM dC dI h ad cA fv wd ar sz)) (va_Qv (fun (u : mS) => rF u.1 ∧ rA u.2.2 ∧ fM [89] fv u.1 ∧ fA [88] ar u.2.2 ∧ ((u.1 89).toInt = (fv 89).toInt + nn.toInt) ∧ (mm_kp (ar 88) (ar 18) (u.2.2 88) ((fv 89).toInt.toNat) (nn.toInt.toNat)) ∧ True) (enM dC dI h ad cA) (aM h ad sz)) 0 0 (aM h ad sz) := by
  refine Met.ofW (cc := cX12_keep) (maxL := 4) (ret := none) (by decide) rfl ?_
  intro p e s m args below meth c s₁ B hml hv
  obtain ⟨rfl, hsz, hP, hK⟩ := hv
  have hx := B.exec
  have hb := B.bytes
  have hr := B.returns
  have hts := atoms_spec (ws := (.code yX12_keep cX12_keep 4 none :: lw_good)) B.pre
  have htg : ∀ w ∈ lw_good, w.before _ s = true := fun w hw => hts w (List.mem_cons_of_mem _ hw)
  have hown : s.vm.findClass RX12 = some m.cls := findClass_of_methodNamed B.named
  have hlocks := B.notSynchronized
  subst hsz
  have hS : va_S (aM h ad s.heap.size) s.heap s.heap [] := va_S.rf
  have hl := lv_entry ([.ref h, .ref (ad 18), .int nn]) (n := 4) (Nat.le_of_ble_eq_true rfl)
  rw [lg_entry_eq]
  generalize (lg_sl ([.ref h, .ref (ad 18), .int nn]) ++ List.replicate (4 - (lg_sl ([.ref h, .ref (ad 18), .int nn])).length) Slot.unset).toArray = ls at hl ⊢
  have hl : lv_has ls 4 [(0, .ref h), (1, .ref (ad 18)), (2, .int nn)] := hl
  refine lv_iconst (v := 0) hx hb dX12_keep_0 (by decide) ?_
  refine lv_istore_n (lv' := [(3, .int 0), (0, .ref h), (1, .ref (ad 18)), (2, .int nn)]) hx hb dX12_keep_1 rfl hl (by decide) rfl (fun ls hl => ?_)
  refine my_cut (P := fun R9 a9 Q9 => ∀ (n_9 : Nat) (x_1 : Int32) (fv_2 : Nat → Int32) (ar_4 : Nat → Nat → Int32) (H : Heap) (locs : List Loc) (ls : Array Slot), 40 - x_1.toInt < (n_9 : Int) → (0 ≤ x_1.toInt ∧ x_1.toInt ≤ 40) → rF fv_2 → fM [89] fv fv_2 → rA ar_4 → fA [88] ar ar_4 → ((fv_2 89).toInt = (fv 89).toInt + x_1.toInt) → (x_1.toInt ≤ nn.toInt) → (mm_kp (ar 88) (ar 18) (ar_4 88) ((fv 89).toInt.toNat) (x_1.toInt.toNat)) → va_P (dC, dI) vwCl (wsM h ad cA fv_2 wd ar_4) H → va_S (aM h ad s.heap.size) s.heap H locs → lv_has ls 4 [(0, .ref h), (1, .ref (ad 18)), (2, .int nn), (3, .int x_1)] → W p l e R9 s m a9 below meth c H locs 0 0 Q9 (F0 m 2 ls [])) ?_ (fun hj_11 => ?_)
  · intro n_9
    induction n_9 with
    | zero => intro x_1 fv_2 ar_4 H locs ls fu_10 i_x_1 hF_fv_2 fr_3 hA_ar_4 fa_5 q_6 q_7 q_8; exfalso; omega
    | succ n_9 ih_9 =>
      intro x_1 fv_2 ar_4 H locs ls fu_10 i_x_1 hF_fv_2 fr_3 hA_ar_4 fa_5 q_6 q_7 q_8 hP hS hl
      refine lv_iload_n hx hb dX12_keep_2 rfl (lv_at hl 3 rfl) ?_
      refine lv_iload_n hx hb dX12_keep_3 rfl (lv_at hl 2 rfl) ?_
      refine lv_icmp_ge (tgt := 35) hx hb dX12_keep_4 (by decide) (fun c_12 => ?_) (fun c_12 => ?_)
      · skip
        have k_13 := Int32.le_iff_toInt_le.mp c_12
        have z_14 : 0 ≤ (fv_2 89).toInt ∧ (fv_2 89).toInt ≤ 441 := hF_fv_2 89
        exact W.vret hx hb hr (fun t ht hW => ⟨⟨(fv_2, wd, ar_4), rfl, ⟨hF_fv_2, hA_ar_4, (fM_call (fM_rf [89] _) fr_3 (by decide)), (fA_call (fA_rf [88] _) fa_5 (by decide)), (show (fv_2 89).toInt = (fv 89).toInt + nn.toInt from by omega), (show mm_kp (ar 88) (ar 18) (ar_4 88) ((fv 89).toInt.toNat) (nn.toInt.toNat) from by have h9 := q_8; rw [show (x_1.toInt.toNat) = (nn.toInt.toNat) from by omega] at h9; exact h9), trivial⟩, ⟨by rw [ht]; exact hP, va_K.moved hW.alike hK⟩⟩, hS.F ht⟩) hS.2.2 dX12_keep_35
      · skip
        have i_15 : 0 ≤ x_1.toInt ∧ x_1.toInt ≤ 39 := iv_lt1 i_x_1 h_nn (Int32.not_le.mp c_12)
        have i_16 : 1 ≤ nn.toInt ∧ nn.toInt ≤ 40 := iv_lt2 i_x_1 h_nn (Int32.not_le.mp c_12)
        have k_17 := Int32.lt_iff_toInt_lt.mp (Int32.not_le.mp c_12)
        refine lv_aload_n hx hb dX12_keep_7 rfl (lv_at hl 0 rfl) ?_
        refine gM_88 hx hb htg hown hK hP dX12_keep_8 ?_
        refine lv_aload_n hx hb dX12_keep_11 rfl (lv_at hl 0 rfl) ?_
        refine gM_89 hx hb htg hown hK hP dX12_keep_12 ?_
        have i_18 : 0 ≤ (fv_2 89).toInt ∧ (fv_2 89).toInt ≤ 441 := hF_fv_2 89
        refine lv_aload_n hx hb dX12_keep_15 rfl (lv_at hl 1 rfl) ?_
        refine lv_iload_n hx hb dX12_keep_16 rfl (lv_at hl 3 rfl) ?_
        refine lM_18 hx hb hK hP (iv_in i_15 (by decide) (by decide)) dX12_keep_17 (fun v_19 ev_19 => ?_)
        refine sM_88 hx hb hK hP hS hd (vp_in_iff.mpr (by omega)) dX12_keep_18 (fun H locs ar_20 ear_20 hP hS => ?_)
        have hA_ar_20 : rA ar_20 := rA_put hA_ar_4 ear_20 (iv_any _)
        refine lv_aload_n hx hb dX12_keep_19 rfl (lv_at hl 0 rfl) ?_
        refine lv_dup hx hb dX12_keep_20 rfl ?_
        refine gM_89 hx hb htg hown hK hP dX12_keep_21 ?_
        refine lv_iconst (v := 1) hx hb dX12_keep_24 (by decide) ?_
        refine lv_iadd hx hb dX12_keep_25 ?_
        refine lv_topi (fun v_21 ev_21 => ?_)
        have t_22 : v_21.toInt = (fv_2 89).toInt + 1 ∧ 1 ≤ v_21.toInt ∧ v_21.toInt ≤ 442 := iv_addc ev_21 i_18 (by decide) (by decide) (by decide)
        have i_24 : 0 ≤ v_21.toInt ∧ v_21.toInt ≤ 441 := (by omega)
        refine pM_89 hx hb htg hown hK hP hS hd dX12_keep_26 (fun H locs fv_25 efv_25 hP hS => ?_)
        have hF_fv_25 : rF fv_25 := rF_put hF_fv_2 efv_25 i_24
        obtain ⟨v_26, ev_26⟩ : ∃ z : Int32, z = x_1 + 1 := ⟨_, rfl⟩
        refine lv_iinc (v := v_26) (lv' := [(3, .int v_26), (0, .ref h), (1, .ref (ad 18)), (2, .int nn)]) hx hb dX12_keep_29 hl (k := 3) rfl (by rw [ev_26]; rfl) (by decide) rfl (fun ls hl => ?_)
        have t_27 : v_26.toInt = x_1.toInt + 1 ∧ 1 ≤ v_26.toInt ∧ v_26.toInt ≤ 40 := iv_addc ev_26 i_15 (by decide) (by decide) (by decide)
        refine lv_goto (tgt := 2) hx hb dX12_keep_32 (by decide) ?_
        have z_29 : (fv_25 89).toInt = v_21.toInt := congrArg Int32.toInt ((congrFun efv_25 89))
        have z_30 : 0 ≤ (fv_25 89).toInt ∧ (fv_25 89).toInt ≤ 441 := hF_fv_25 89
        exact ih_9 v_26 fv_25 ar_20 _ _ ls (by omega) (iv_w t_27.2 (by decide) (by decide)) hF_fv_25 (fM_put (fM_call (fM_rf [89] _) fr_3 (by decide)) efv_25 (by decide)) hA_ar_20 (fA_put (fA_call (fA_rf [88] _) fa_5 (by decide)) ear_20 (by decide)) (by rw [show fv_25 89 = v_21 from (congrFun efv_25 89)]; omega) (by omega) (by have hq0 := q_6; have h89 := (show (0 : Int) ≤ (fv 89).toInt ∧ (fv 89).toInt ≤ 441 from hF_fv 89); rw [show v_26.toInt.toNat = (x_1.toInt.toNat) + 1 from by omega]; exact mm_kp_s q_8 (fun j9 => by rw [(show ∀ i9, ar_20 88 i9 = if i9 = ((fv_2 89).toInt.toNat) then v_19 else ar_4 88 i9 from (fun i9 => by rw [ear_20]; show (if i9 = Int32.toNatClampNeg (fv_2 89) then v_19 else ar_4 88 i9) = _; rfl)) j9, show ((fv_2 89).toInt.toNat) = ((fv 89).toInt.toNat) + (x_1.toInt.toNat) from by omega]) (show v_19 = ar 18 (x_1.toInt.toNat) from by rw [ev_19, show ar_4 18 = ar 18 from ((fA_call (fA_rf [88] _) fa_5 (by decide)) 18 rfl)]; exact congrArg (ar 18) (show x_1.toInt.toNat = (x_1.toInt.toNat) from by omega))) hP hS (lv_sub hl [1, 2, 3, 0] rfl)
  · skip
    have z_31 : (0 : Int32).toInt = 0 := by decide
    have z_32 : 0 ≤ (fv 89).toInt ∧ (fv 89).toInt ≤ 441 := hF_fv 89
    exact hj_11 41 0 fv ar _ _ ls (by first | decide | omega) (iv_w (⟨by decide, by decide⟩ : (0 : Int) ≤ (0 : Int32).toInt ∧ (0 : Int32).toInt ≤ 0) (by decide) (by decide)) hF_fv (fM_rf [89] _) hA_ar (fA_rf [88] _) (by rw [show (0 : Int32).toInt = 0 from by decide]; omega) (by omega) (by rw [show (0 : Int32).toInt.toNat = 0 from by decide]; exact mm_kp_0 _ _ _) hP hS (lv_sub hl [1, 2, 3, 0] rfl)
set_option maxHeartbeats 4000000 in
set_option maxRecDepth 100000 in
theorem m_putBackE_18 (l : Launch) (dC : Nat → ClassId) (dI : Nat → Nat → Nat) (sz h : Nat) (ad : Nat → Nat) (cA : Nat → ClassId) (hd : dM h ad) (fv : Nat → Int32) (wd : Int64) (ar : Nat → Nat → Int32) (hF_fv : rF fv) (hA_ar : rA ar) (nn : Int32) (h_nn : 0 ≤ nn.toInt ∧ nn.toInt ≤ 40) (hk : (fv 89).toInt + nn.toInt ≤ 441) : Met l yX12_putBack (.code yX12_putBack cX12_putBack 4 none :: lw_good) ({ frames := 2, cells := 0, slots := 0, locals := 40 }) (va_Pc [.ref h, .ref (ad 18), .int nn] (prM dC dI h ad cA fv wd ar sz)) (va_Qv (fun (u : mS) => rF u.1 ∧ rA u.2.2 ∧ fM [89] fv u.1 ∧ fA [18] ar u.2.2 ∧ ((u.1 89).toInt = (fv 89).toInt + nn.toInt) ∧ (mm_pb (ar 18) (ar 88) (u.2.2 18) ((fv 89).toInt.toNat) (nn.toInt.toNat)) ∧ True) (enM dC dI h ad cA) (aM h ad sz)) 0 0 (aM h ad sz) := by
  refine Met.ofW (cc := cX12_putBack) (maxL := 4) (ret := none) (by decide) rfl ?_
  intro p e s m args below meth c s₁ B hml hv
  obtain ⟨rfl, hsz, hP, hK⟩ := hv
  have hx := B.exec
  have hb := B.bytes
  have hr := B.returns
  have hts := atoms_spec (ws := (.code yX12_putBack cX12_putBack 4 none :: lw_good)) B.pre
  have htg : ∀ w ∈ lw_good, w.before _ s = true := fun w hw => hts w (List.mem_cons_of_mem _ hw)
  have hown : s.vm.findClass RX12 = some m.cls := findClass_of_methodNamed B.named
  have hlocks := B.notSynchronized
  subst hsz
  have hS : va_S (aM h ad s.heap.size) s.heap s.heap [] := va_S.rf
  have hl := lv_entry ([.ref h, .ref (ad 18), .int nn]) (n := 4) (Nat.le_of_ble_eq_true rfl)
  rw [lg_entry_eq]
  generalize (lg_sl ([.ref h, .ref (ad 18), .int nn]) ++ List.replicate (4 - (lg_sl ([.ref h, .ref (ad 18), .int nn])).length) Slot.unset).toArray = ls at hl ⊢
  have hl : lv_has ls 4 [(0, .ref h), (1, .ref (ad 18)), (2, .int nn)] := hl
  refine lv_iconst (v := 0) hx hb dX12_putBack_0 (by decide) ?_
  refine lv_istore_n (lv' := [(3, .int 0), (0, .ref h), (1, .ref (ad 18)), (2, .int nn)]) hx hb dX12_putBack_1 rfl hl (by decide) rfl (fun ls hl => ?_)
  refine my_cut (P := fun R9 a9 Q9 => ∀ (n_9 : Nat) (x_1 : Int32) (fv_2 : Nat → Int32) (ar_4 : Nat → Nat → Int32) (H : Heap) (locs : List Loc) (ls : Array Slot), 40 - x_1.toInt < (n_9 : Int) → (0 ≤ x_1.toInt ∧ x_1.toInt ≤ 40) → rF fv_2 → fM [89] fv fv_2 → rA ar_4 → fA [18] ar ar_4 → ((fv_2 89).toInt = (fv 89).toInt + x_1.toInt) → (x_1.toInt ≤ nn.toInt) → (mm_pb (ar 18) (ar 88) (ar_4 18) ((fv 89).toInt.toNat) (x_1.toInt.toNat)) → va_P (dC, dI) vwCl (wsM h ad cA fv_2 wd ar_4) H → va_S (aM h ad s.heap.size) s.heap H locs → lv_has ls 4 [(0, .ref h), (1, .ref (ad 18)), (2, .int nn), (3, .int x_1)] → W p l e R9 s m a9 below meth c H locs 0 0 Q9 (F0 m 2 ls [])) ?_ (fun hj_11 => ?_)
  · intro n_9
    induction n_9 with
    | zero => intro x_1 fv_2 ar_4 H locs ls fu_10 i_x_1 hF_fv_2 fr_3 hA_ar_4 fa_5 q_6 q_7 q_8; exfalso; omega
    | succ n_9 ih_9 =>
      intro x_1 fv_2 ar_4 H locs ls fu_10 i_x_1 hF_fv_2 fr_3 hA_ar_4 fa_5 q_6 q_7 q_8 hP hS hl
      refine lv_iload_n hx hb dX12_putBack_2 rfl (lv_at hl 3 rfl) ?_
      refine lv_iload_n hx hb dX12_putBack_3 rfl (lv_at hl 2 rfl) ?_
      refine lv_icmp_ge (tgt := 35) hx hb dX12_putBack_4 (by decide) (fun c_12 => ?_) (fun c_12 => ?_)
      · skip
        have k_13 := Int32.le_iff_toInt_le.mp c_12
        have z_14 : 0 ≤ (fv_2 89).toInt ∧ (fv_2 89).toInt ≤ 441 := hF_fv_2 89
        exact W.vret hx hb hr (fun t ht hW => ⟨⟨(fv_2, wd, ar_4), rfl, ⟨hF_fv_2, hA_ar_4, (fM_call (fM_rf [89] _) fr_3 (by decide)), (fA_call (fA_rf [18] _) fa_5 (by decide)), (show (fv_2 89).toInt = (fv 89).toInt + nn.toInt from by omega), (show mm_pb (ar 18) (ar 88) (ar_4 18) ((fv 89).toInt.toNat) (nn.toInt.toNat) from by have h9 := q_8; rw [show (x_1.toInt.toNat) = (nn.toInt.toNat) from by omega] at h9; exact h9), trivial⟩, ⟨by rw [ht]; exact hP, va_K.moved hW.alike hK⟩⟩, hS.F ht⟩) hS.2.2 dX12_putBack_35
      · skip
        have i_15 : 0 ≤ x_1.toInt ∧ x_1.toInt ≤ 39 := iv_lt1 i_x_1 h_nn (Int32.not_le.mp c_12)
        have i_16 : 1 ≤ nn.toInt ∧ nn.toInt ≤ 40 := iv_lt2 i_x_1 h_nn (Int32.not_le.mp c_12)
        have k_17 := Int32.lt_iff_toInt_lt.mp (Int32.not_le.mp c_12)
        refine lv_aload_n hx hb dX12_putBack_7 rfl (lv_at hl 1 rfl) ?_
        refine lv_iload_n hx hb dX12_putBack_8 rfl (lv_at hl 3 rfl) ?_
        refine lv_aload_n hx hb dX12_putBack_9 rfl (lv_at hl 0 rfl) ?_
        refine gM_88 hx hb htg hown hK hP dX12_putBack_10 ?_
        refine lv_aload_n hx hb dX12_putBack_13 rfl (lv_at hl 0 rfl) ?_
        refine gM_89 hx hb htg hown hK hP dX12_putBack_14 ?_
        have i_18 : 0 ≤ (fv_2 89).toInt ∧ (fv_2 89).toInt ≤ 441 := hF_fv_2 89
        refine lM_88 hx hb hK hP (vp_in_iff.mpr (by omega)) dX12_putBack_17 (fun v_19 ev_19 => ?_)
        refine sM_18 hx hb hK hP hS hd (iv_in i_15 (by decide) (by decide)) dX12_putBack_18 (fun H locs ar_20 ear_20 hP hS => ?_)
        have hA_ar_20 : rA ar_20 := rA_put hA_ar_4 ear_20 (iv_any _)
        refine lv_aload_n hx hb dX12_putBack_19 rfl (lv_at hl 0 rfl) ?_
        refine lv_dup hx hb dX12_putBack_20 rfl ?_
        refine gM_89 hx hb htg hown hK hP dX12_putBack_21 ?_
        refine lv_iconst (v := 1) hx hb dX12_putBack_24 (by decide) ?_
        refine lv_iadd hx hb dX12_putBack_25 ?_
        refine lv_topi (fun v_21 ev_21 => ?_)
        have t_22 : v_21.toInt = (fv_2 89).toInt + 1 ∧ 1 ≤ v_21.toInt ∧ v_21.toInt ≤ 442 := iv_addc ev_21 i_18 (by decide) (by decide) (by decide)
        have i_24 : 0 ≤ v_21.toInt ∧ v_21.toInt ≤ 441 := (by omega)
        refine pM_89 hx hb htg hown hK hP hS hd dX12_putBack_26 (fun H locs fv_25 efv_25 hP hS => ?_)
        have hF_fv_25 : rF fv_25 := rF_put hF_fv_2 efv_25 i_24
        obtain ⟨v_26, ev_26⟩ : ∃ z : Int32, z = x_1 + 1 := ⟨_, rfl⟩
        refine lv_iinc (v := v_26) (lv' := [(3, .int v_26), (0, .ref h), (1, .ref (ad 18)), (2, .int nn)]) hx hb dX12_putBack_29 hl (k := 3) rfl (by rw [ev_26]; rfl) (by decide) rfl (fun ls hl => ?_)
        have t_27 : v_26.toInt = x_1.toInt + 1 ∧ 1 ≤ v_26.toInt ∧ v_26.toInt ≤ 40 := iv_addc ev_26 i_15 (by decide) (by decide) (by decide)
        refine lv_goto (tgt := 2) hx hb dX12_putBack_32 (by decide) ?_
        have z_29 : (fv_25 89).toInt = v_21.toInt := congrArg Int32.toInt ((congrFun efv_25 89))
        have z_30 : 0 ≤ (fv_25 89).toInt ∧ (fv_25 89).toInt ≤ 441 := hF_fv_25 89
        exact ih_9 v_26 fv_25 ar_20 _ _ ls (by omega) (iv_w t_27.2 (by decide) (by decide)) hF_fv_25 (fM_put (fM_call (fM_rf [89] _) fr_3 (by decide)) efv_25 (by decide)) hA_ar_20 (fA_put (fA_call (fA_rf [18] _) fa_5 (by decide)) ear_20 (by decide)) (by rw [show fv_25 89 = v_21 from (congrFun efv_25 89)]; omega) (by omega) (by have hq0 := q_6; have h89 := (show (0 : Int) ≤ (fv 89).toInt ∧ (fv 89).toInt ≤ 441 from hF_fv 89); rw [show v_26.toInt.toNat = (x_1.toInt.toNat) + 1 from by omega]; exact mm_pb_s q_8 (fun j9 => by rw [(show ∀ i9, ar_20 18 i9 = if i9 = (x_1.toInt.toNat) then v_19 else ar_4 18 i9 from (fun i9 => by rw [ear_20]; show (if i9 = Int32.toNatClampNeg x_1 then v_19 else ar_4 18 i9) = _; rfl)) j9, show (x_1.toInt.toNat) = (x_1.toInt.toNat) from by omega]) (show v_19 = ar 88 (((fv 89).toInt.toNat) + (x_1.toInt.toNat)) from by rw [ev_19, show ar_4 88 = ar 88 from ((fA_call (fA_rf [18] _) fa_5 (by decide)) 88 rfl)]; exact congrArg (ar 88) (show (fv_2 89).toInt.toNat = (((fv 89).toInt.toNat) + (x_1.toInt.toNat)) from by omega))) hP hS (lv_sub hl [1, 2, 3, 0] rfl)
  · skip
    have z_31 : (0 : Int32).toInt = 0 := by decide
    have z_32 : 0 ≤ (fv 89).toInt ∧ (fv 89).toInt ≤ 441 := hF_fv 89
    exact hj_11 41 0 fv ar _ _ ls (by first | decide | omega) (iv_w (⟨by decide, by decide⟩ : (0 : Int) ≤ (0 : Int32).toInt ∧ (0 : Int32).toInt ≤ 0) (by decide) (by decide)) hF_fv (fM_rf [89] _) hA_ar (fA_rf [18] _) (by rw [show (0 : Int32).toInt = 0 from by decide]; omega) (by omega) (by rw [show (0 : Int32).toInt.toNat = 0 from by decide]; exact mm_pb_0 _ _ _) hP hS (lv_sub hl [1, 2, 3, 0] rfl)
set_option maxHeartbeats 4000000 in
set_option maxRecDepth 100000 in
theorem m_keepE_72 (l : Launch) (dC : Nat → ClassId) (dI : Nat → Nat → Nat) (sz h : Nat) (ad : Nat → Nat) (cA : Nat → ClassId) (hd : dM h ad) (fv : Nat → Int32) (wd : Int64) (ar : Nat → Nat → Int32) (hF_fv : rF fv) (hA_ar : rA ar) (nn : Int32) (h_nn : 0 ≤ nn.toInt ∧ nn.toInt ≤ 40) (hk : (fv 89).toInt + nn.toInt ≤ 441) : Met l yX12_keep (.code yX12_keep cX12_keep 4 none :: lw_good) ({ frames := 2, cells := 0, slots := 0, locals := 40 }) (va_Pc [.ref h, .ref (ad 72), .int nn] (prM dC dI h ad cA fv wd ar sz)) (va_Qv (fun (u : mS) => rF u.1 ∧ rA u.2.2 ∧ fM [89] fv u.1 ∧ fA [88] ar u.2.2 ∧ ((u.1 89).toInt = (fv 89).toInt + nn.toInt) ∧ (mm_kp (ar 88) (ar 72) (u.2.2 88) ((fv 89).toInt.toNat) (nn.toInt.toNat)) ∧ True) (enM dC dI h ad cA) (aM h ad sz)) 0 0 (aM h ad sz) := by
  refine Met.ofW (cc := cX12_keep) (maxL := 4) (ret := none) (by decide) rfl ?_
  intro p e s m args below meth c s₁ B hml hv
  obtain ⟨rfl, hsz, hP, hK⟩ := hv
  have hx := B.exec
  have hb := B.bytes
  have hr := B.returns
  have hts := atoms_spec (ws := (.code yX12_keep cX12_keep 4 none :: lw_good)) B.pre
  have htg : ∀ w ∈ lw_good, w.before _ s = true := fun w hw => hts w (List.mem_cons_of_mem _ hw)
  have hown : s.vm.findClass RX12 = some m.cls := findClass_of_methodNamed B.named
  have hlocks := B.notSynchronized
  subst hsz
  have hS : va_S (aM h ad s.heap.size) s.heap s.heap [] := va_S.rf
  have hl := lv_entry ([.ref h, .ref (ad 72), .int nn]) (n := 4) (Nat.le_of_ble_eq_true rfl)
  rw [lg_entry_eq]
  generalize (lg_sl ([.ref h, .ref (ad 72), .int nn]) ++ List.replicate (4 - (lg_sl ([.ref h, .ref (ad 72), .int nn])).length) Slot.unset).toArray = ls at hl ⊢
  have hl : lv_has ls 4 [(0, .ref h), (1, .ref (ad 72)), (2, .int nn)] := hl
  refine lv_iconst (v := 0) hx hb dX12_keep_0 (by decide) ?_
  refine lv_istore_n (lv' := [(3, .int 0), (0, .ref h), (1, .ref (ad 72)), (2, .int nn)]) hx hb dX12_keep_1 rfl hl (by decide) rfl (fun ls hl => ?_)
  refine my_cut (P := fun R9 a9 Q9 => ∀ (n_9 : Nat) (x_1 : Int32) (fv_2 : Nat → Int32) (ar_4 : Nat → Nat → Int32) (H : Heap) (locs : List Loc) (ls : Array Slot), 40 - x_1.toInt < (n_9 : Int) → (0 ≤ x_1.toInt ∧ x_1.toInt ≤ 40) → rF fv_2 → fM [89] fv fv_2 → rA ar_4 → fA [88] ar ar_4 → ((fv_2 89).toInt = (fv 89).toInt + x_1.toInt) → (x_1.toInt ≤ nn.toInt) → (mm_kp (ar 88) (ar 72) (ar_4 88) ((fv 89).toInt.toNat) (x_1.toInt.toNat)) → va_P (dC, dI) vwCl (wsM h ad cA fv_2 wd ar_4) H → va_S (aM h ad s.heap.size) s.heap H locs → lv_has ls 4 [(0, .ref h), (1, .ref (ad 72)), (2, .int nn), (3, .int x_1)] → W p l e R9 s m a9 below meth c H locs 0 0 Q9 (F0 m 2 ls [])) ?_ (fun hj_11 => ?_)
  · intro n_9
    induction n_9 with
    | zero => intro x_1 fv_2 ar_4 H locs ls fu_10 i_x_1 hF_fv_2 fr_3 hA_ar_4 fa_5 q_6 q_7 q_8; exfalso; omega
    | succ n_9 ih_9 =>
      intro x_1 fv_2 ar_4 H locs ls fu_10 i_x_1 hF_fv_2 fr_3 hA_ar_4 fa_5 q_6 q_7 q_8 hP hS hl
      refine lv_iload_n hx hb dX12_keep_2 rfl (lv_at hl 3 rfl) ?_
      refine lv_iload_n hx hb dX12_keep_3 rfl (lv_at hl 2 rfl) ?_
      refine lv_icmp_ge (tgt := 35) hx hb dX12_keep_4 (by decide) (fun c_12 => ?_) (fun c_12 => ?_)
      · skip
        have k_13 := Int32.le_iff_toInt_le.mp c_12
        have z_14 : 0 ≤ (fv_2 89).toInt ∧ (fv_2 89).toInt ≤ 441 := hF_fv_2 89
        exact W.vret hx hb hr (fun t ht hW => ⟨⟨(fv_2, wd, ar_4), rfl, ⟨hF_fv_2, hA_ar_4, (fM_call (fM_rf [89] _) fr_3 (by decide)), (fA_call (fA_rf [88] _) fa_5 (by decide)), (show (fv_2 89).toInt = (fv 89).toInt + nn.toInt from by omega), (show mm_kp (ar 88) (ar 72) (ar_4 88) ((fv 89).toInt.toNat) (nn.toInt.toNat) from by have h9 := q_8; rw [show (x_1.toInt.toNat) = (nn.toInt.toNat) from by omega] at h9; exact h9), trivial⟩, ⟨by rw [ht]; exact hP, va_K.moved hW.alike hK⟩⟩, hS.F ht⟩) hS.2.2 dX12_keep_35
      · skip
        have i_15 : 0 ≤ x_1.toInt ∧ x_1.toInt ≤ 39 := iv_lt1 i_x_1 h_nn (Int32.not_le.mp c_12)
        have i_16 : 1 ≤ nn.toInt ∧ nn.toInt ≤ 40 := iv_lt2 i_x_1 h_nn (Int32.not_le.mp c_12)
        have k_17 := Int32.lt_iff_toInt_lt.mp (Int32.not_le.mp c_12)
        refine lv_aload_n hx hb dX12_keep_7 rfl (lv_at hl 0 rfl) ?_
        refine gM_88 hx hb htg hown hK hP dX12_keep_8 ?_
        refine lv_aload_n hx hb dX12_keep_11 rfl (lv_at hl 0 rfl) ?_
        refine gM_89 hx hb htg hown hK hP dX12_keep_12 ?_
        have i_18 : 0 ≤ (fv_2 89).toInt ∧ (fv_2 89).toInt ≤ 441 := hF_fv_2 89
        refine lv_aload_n hx hb dX12_keep_15 rfl (lv_at hl 1 rfl) ?_
        refine lv_iload_n hx hb dX12_keep_16 rfl (lv_at hl 3 rfl) ?_
        refine lM_72 hx hb hK hP (iv_in i_15 (by decide) (by decide)) dX12_keep_17 (fun v_19 ev_19 => ?_)
        refine sM_88 hx hb hK hP hS hd (vp_in_iff.mpr (by omega)) dX12_keep_18 (fun H locs ar_20 ear_20 hP hS => ?_)
        have hA_ar_20 : rA ar_20 := rA_put hA_ar_4 ear_20 (iv_any _)
        refine lv_aload_n hx hb dX12_keep_19 rfl (lv_at hl 0 rfl) ?_
        refine lv_dup hx hb dX12_keep_20 rfl ?_
        refine gM_89 hx hb htg hown hK hP dX12_keep_21 ?_
        refine lv_iconst (v := 1) hx hb dX12_keep_24 (by decide) ?_
        refine lv_iadd hx hb dX12_keep_25 ?_
        refine lv_topi (fun v_21 ev_21 => ?_)
        have t_22 : v_21.toInt = (fv_2 89).toInt + 1 ∧ 1 ≤ v_21.toInt ∧ v_21.toInt ≤ 442 := iv_addc ev_21 i_18 (by decide) (by decide) (by decide)
        have i_24 : 0 ≤ v_21.toInt ∧ v_21.toInt ≤ 441 := (by omega)
        refine pM_89 hx hb htg hown hK hP hS hd dX12_keep_26 (fun H locs fv_25 efv_25 hP hS => ?_)
        have hF_fv_25 : rF fv_25 := rF_put hF_fv_2 efv_25 i_24
        obtain ⟨v_26, ev_26⟩ : ∃ z : Int32, z = x_1 + 1 := ⟨_, rfl⟩
        refine lv_iinc (v := v_26) (lv' := [(3, .int v_26), (0, .ref h), (1, .ref (ad 72)), (2, .int nn)]) hx hb dX12_keep_29 hl (k := 3) rfl (by rw [ev_26]; rfl) (by decide) rfl (fun ls hl => ?_)
        have t_27 : v_26.toInt = x_1.toInt + 1 ∧ 1 ≤ v_26.toInt ∧ v_26.toInt ≤ 40 := iv_addc ev_26 i_15 (by decide) (by decide) (by decide)
        refine lv_goto (tgt := 2) hx hb dX12_keep_32 (by decide) ?_
        have z_29 : (fv_25 89).toInt = v_21.toInt := congrArg Int32.toInt ((congrFun efv_25 89))
        have z_30 : 0 ≤ (fv_25 89).toInt ∧ (fv_25 89).toInt ≤ 441 := hF_fv_25 89
        exact ih_9 v_26 fv_25 ar_20 _ _ ls (by omega) (iv_w t_27.2 (by decide) (by decide)) hF_fv_25 (fM_put (fM_call (fM_rf [89] _) fr_3 (by decide)) efv_25 (by decide)) hA_ar_20 (fA_put (fA_call (fA_rf [88] _) fa_5 (by decide)) ear_20 (by decide)) (by rw [show fv_25 89 = v_21 from (congrFun efv_25 89)]; omega) (by omega) (by have hq0 := q_6; have h89 := (show (0 : Int) ≤ (fv 89).toInt ∧ (fv 89).toInt ≤ 441 from hF_fv 89); rw [show v_26.toInt.toNat = (x_1.toInt.toNat) + 1 from by omega]; exact mm_kp_s q_8 (fun j9 => by rw [(show ∀ i9, ar_20 88 i9 = if i9 = ((fv_2 89).toInt.toNat) then v_19 else ar_4 88 i9 from (fun i9 => by rw [ear_20]; show (if i9 = Int32.toNatClampNeg (fv_2 89) then v_19 else ar_4 88 i9) = _; rfl)) j9, show ((fv_2 89).toInt.toNat) = ((fv 89).toInt.toNat) + (x_1.toInt.toNat) from by omega]) (show v_19 = ar 72 (x_1.toInt.toNat) from by rw [ev_19, show ar_4 72 = ar 72 from ((fA_call (fA_rf [88] _) fa_5 (by decide)) 72 rfl)]; exact congrArg (ar 72) (show x_1.toInt.toNat = (x_1.toInt.toNat) from by omega))) hP hS (lv_sub hl [1, 2, 3, 0] rfl)
  · skip
    have z_31 : (0 : Int32).toInt = 0 := by decide
    have z_32 : 0 ≤ (fv 89).toInt ∧ (fv 89).toInt ≤ 441 := hF_fv 89
    exact hj_11 41 0 fv ar _ _ ls (by first | decide | omega) (iv_w (⟨by decide, by decide⟩ : (0 : Int) ≤ (0 : Int32).toInt ∧ (0 : Int32).toInt ≤ 0) (by decide) (by decide)) hF_fv (fM_rf [89] _) hA_ar (fA_rf [88] _) (by rw [show (0 : Int32).toInt = 0 from by decide]; omega) (by omega) (by rw [show (0 : Int32).toInt.toNat = 0 from by decide]; exact mm_kp_0 _ _ _) hP hS (lv_sub hl [1, 2, 3, 0] rfl)
set_option maxHeartbeats 4000000 in
set_option maxRecDepth 100000 in
theorem m_putBackE_72 (l : Launch) (dC : Nat → ClassId) (dI : Nat → Nat → Nat) (sz h : Nat) (ad : Nat → Nat) (cA : Nat → ClassId) (hd : dM h ad) (fv : Nat → Int32) (wd : Int64) (ar : Nat → Nat → Int32) (hF_fv : rF fv) (hA_ar : rA ar) (nn : Int32) (h_nn : 0 ≤ nn.toInt ∧ nn.toInt ≤ 40) (hk : (fv 89).toInt + nn.toInt ≤ 441) : Met l yX12_putBack (.code yX12_putBack cX12_putBack 4 none :: lw_good) ({ frames := 2, cells := 0, slots := 0, locals := 40 }) (va_Pc [.ref h, .ref (ad 72), .int nn] (prM dC dI h ad cA fv wd ar sz)) (va_Qv (fun (u : mS) => rF u.1 ∧ rA u.2.2 ∧ fM [89] fv u.1 ∧ fA [72] ar u.2.2 ∧ ((u.1 89).toInt = (fv 89).toInt + nn.toInt) ∧ (mm_pb (ar 72) (ar 88) (u.2.2 72) ((fv 89).toInt.toNat) (nn.toInt.toNat)) ∧ True) (enM dC dI h ad cA) (aM h ad sz)) 0 0 (aM h ad sz) := by
  refine Met.ofW (cc := cX12_putBack) (maxL := 4) (ret := none) (by decide) rfl ?_
  intro p e s m args below meth c s₁ B hml hv
  obtain ⟨rfl, hsz, hP, hK⟩ := hv
  have hx := B.exec
  have hb := B.bytes
  have hr := B.returns
  have hts := atoms_spec (ws := (.code yX12_putBack cX12_putBack 4 none :: lw_good)) B.pre
  have htg : ∀ w ∈ lw_good, w.before _ s = true := fun w hw => hts w (List.mem_cons_of_mem _ hw)
  have hown : s.vm.findClass RX12 = some m.cls := findClass_of_methodNamed B.named
  have hlocks := B.notSynchronized
  subst hsz
  have hS : va_S (aM h ad s.heap.size) s.heap s.heap [] := va_S.rf
  have hl := lv_entry ([.ref h, .ref (ad 72), .int nn]) (n := 4) (Nat.le_of_ble_eq_true rfl)
  rw [lg_entry_eq]
  generalize (lg_sl ([.ref h, .ref (ad 72), .int nn]) ++ List.replicate (4 - (lg_sl ([.ref h, .ref (ad 72), .int nn])).length) Slot.unset).toArray = ls at hl ⊢
  have hl : lv_has ls 4 [(0, .ref h), (1, .ref (ad 72)), (2, .int nn)] := hl
  refine lv_iconst (v := 0) hx hb dX12_putBack_0 (by decide) ?_
  refine lv_istore_n (lv' := [(3, .int 0), (0, .ref h), (1, .ref (ad 72)), (2, .int nn)]) hx hb dX12_putBack_1 rfl hl (by decide) rfl (fun ls hl => ?_)
  refine my_cut (P := fun R9 a9 Q9 => ∀ (n_9 : Nat) (x_1 : Int32) (fv_2 : Nat → Int32) (ar_4 : Nat → Nat → Int32) (H : Heap) (locs : List Loc) (ls : Array Slot), 40 - x_1.toInt < (n_9 : Int) → (0 ≤ x_1.toInt ∧ x_1.toInt ≤ 40) → rF fv_2 → fM [89] fv fv_2 → rA ar_4 → fA [72] ar ar_4 → ((fv_2 89).toInt = (fv 89).toInt + x_1.toInt) → (x_1.toInt ≤ nn.toInt) → (mm_pb (ar 72) (ar 88) (ar_4 72) ((fv 89).toInt.toNat) (x_1.toInt.toNat)) → va_P (dC, dI) vwCl (wsM h ad cA fv_2 wd ar_4) H → va_S (aM h ad s.heap.size) s.heap H locs → lv_has ls 4 [(0, .ref h), (1, .ref (ad 72)), (2, .int nn), (3, .int x_1)] → W p l e R9 s m a9 below meth c H locs 0 0 Q9 (F0 m 2 ls [])) ?_ (fun hj_11 => ?_)
  · intro n_9
    induction n_9 with
    | zero => intro x_1 fv_2 ar_4 H locs ls fu_10 i_x_1 hF_fv_2 fr_3 hA_ar_4 fa_5 q_6 q_7 q_8; exfalso; omega
    | succ n_9 ih_9 =>
      intro x_1 fv_2 ar_4 H locs ls fu_10 i_x_1 hF_fv_2 fr_3 hA_ar_4 fa_5 q_6 q_7 q_8 hP hS hl
      refine lv_iload_n hx hb dX12_putBack_2 rfl (lv_at hl 3 rfl) ?_
      refine lv_iload_n hx hb dX12_putBack_3 rfl (lv_at hl 2 rfl) ?_
      refine lv_icmp_ge (tgt := 35) hx hb dX12_putBack_4 (by decide) (fun c_12 => ?_) (fun c_12 => ?_)
      · skip
        have k_13 := Int32.le_iff_toInt_le.mp c_12
        have z_14 : 0 ≤ (fv_2 89).toInt ∧ (fv_2 89).toInt ≤ 441 := hF_fv_2 89
        exact W.vret hx hb hr (fun t ht hW => ⟨⟨(fv_2, wd, ar_4), rfl, ⟨hF_fv_2, hA_ar_4, (fM_call (fM_rf [89] _) fr_3 (by decide)), (fA_call (fA_rf [72] _) fa_5 (by decide)), (show (fv_2 89).toInt = (fv 89).toInt + nn.toInt from by omega), (show mm_pb (ar 72) (ar 88) (ar_4 72) ((fv 89).toInt.toNat) (nn.toInt.toNat) from by have h9 := q_8; rw [show (x_1.toInt.toNat) = (nn.toInt.toNat) from by omega] at h9; exact h9), trivial⟩, ⟨by rw [ht]; exact hP, va_K.moved hW.alike hK⟩⟩, hS.F ht⟩) hS.2.2 dX12_putBack_35
      · skip
        have i_15 : 0 ≤ x_1.toInt ∧ x_1.toInt ≤ 39 := iv_lt1 i_x_1 h_nn (Int32.not_le.mp c_12)
        have i_16 : 1 ≤ nn.toInt ∧ nn.toInt ≤ 40 := iv_lt2 i_x_1 h_nn (Int32.not_le.mp c_12)
        have k_17 := Int32.lt_iff_toInt_lt.mp (Int32.not_le.mp c_12)
        refine lv_aload_n hx hb dX12_putBack_7 rfl (lv_at hl 1 rfl) ?_
        refine lv_iload_n hx hb dX12_putBack_8 rfl (lv_at hl 3 rfl) ?_
        refine lv_aload_n hx hb dX12_putBack_9 rfl (lv_at hl 0 rfl) ?_
        refine gM_88 hx hb htg hown hK hP dX12_putBack_10 ?_
        refine lv_aload_n hx hb dX12_putBack_13 rfl (lv_at hl 0 rfl) ?_
        refine gM_89 hx hb htg hown hK hP dX12_putBack_14 ?_
        have i_18 : 0 ≤ (fv_2 89).toInt ∧ (fv_2 89).toInt ≤ 441 := hF_fv_2 89
        refine lM_88 hx hb hK hP (vp_in_iff.mpr (by omega)) dX12_putBack_17 (fun v_19 ev_19 => ?_)
        refine sM_72 hx hb hK hP hS hd (iv_in i_15 (by decide) (by decide)) dX12_putBack_18 (fun H locs ar_20 ear_20 hP hS => ?_)
        have hA_ar_20 : rA ar_20 := rA_put hA_ar_4 ear_20 (iv_any _)
        refine lv_aload_n hx hb dX12_putBack_19 rfl (lv_at hl 0 rfl) ?_
        refine lv_dup hx hb dX12_putBack_20 rfl ?_
        refine gM_89 hx hb htg hown hK hP dX12_putBack_21 ?_
        refine lv_iconst (v := 1) hx hb dX12_putBack_24 (by decide) ?_
        refine lv_iadd hx hb dX12_putBack_25 ?_
        refine lv_topi (fun v_21 ev_21 => ?_)
        have t_22 : v_21.toInt = (fv_2 89).toInt + 1 ∧ 1 ≤ v_21.toInt ∧ v_21.toInt ≤ 442 := iv_addc ev_21 i_18 (by decide) (by decide) (by decide)
        have i_24 : 0 ≤ v_21.toInt ∧ v_21.toInt ≤ 441 := (by omega)
        refine pM_89 hx hb htg hown hK hP hS hd dX12_putBack_26 (fun H locs fv_25 efv_25 hP hS => ?_)
        have hF_fv_25 : rF fv_25 := rF_put hF_fv_2 efv_25 i_24
        obtain ⟨v_26, ev_26⟩ : ∃ z : Int32, z = x_1 + 1 := ⟨_, rfl⟩
        refine lv_iinc (v := v_26) (lv' := [(3, .int v_26), (0, .ref h), (1, .ref (ad 72)), (2, .int nn)]) hx hb dX12_putBack_29 hl (k := 3) rfl (by rw [ev_26]; rfl) (by decide) rfl (fun ls hl => ?_)
        have t_27 : v_26.toInt = x_1.toInt + 1 ∧ 1 ≤ v_26.toInt ∧ v_26.toInt ≤ 40 := iv_addc ev_26 i_15 (by decide) (by decide) (by decide)
        refine lv_goto (tgt := 2) hx hb dX12_putBack_32 (by decide) ?_
        have z_29 : (fv_25 89).toInt = v_21.toInt := congrArg Int32.toInt ((congrFun efv_25 89))
        have z_30 : 0 ≤ (fv_25 89).toInt ∧ (fv_25 89).toInt ≤ 441 := hF_fv_25 89
        exact ih_9 v_26 fv_25 ar_20 _ _ ls (by omega) (iv_w t_27.2 (by decide) (by decide)) hF_fv_25 (fM_put (fM_call (fM_rf [89] _) fr_3 (by decide)) efv_25 (by decide)) hA_ar_20 (fA_put (fA_call (fA_rf [72] _) fa_5 (by decide)) ear_20 (by decide)) (by rw [show fv_25 89 = v_21 from (congrFun efv_25 89)]; omega) (by omega) (by have hq0 := q_6; have h89 := (show (0 : Int) ≤ (fv 89).toInt ∧ (fv 89).toInt ≤ 441 from hF_fv 89); rw [show v_26.toInt.toNat = (x_1.toInt.toNat) + 1 from by omega]; exact mm_pb_s q_8 (fun j9 => by rw [(show ∀ i9, ar_20 72 i9 = if i9 = (x_1.toInt.toNat) then v_19 else ar_4 72 i9 from (fun i9 => by rw [ear_20]; show (if i9 = Int32.toNatClampNeg x_1 then v_19 else ar_4 72 i9) = _; rfl)) j9, show (x_1.toInt.toNat) = (x_1.toInt.toNat) from by omega]) (show v_19 = ar 88 (((fv 89).toInt.toNat) + (x_1.toInt.toNat)) from by rw [ev_19, show ar_4 88 = ar 88 from ((fA_call (fA_rf [72] _) fa_5 (by decide)) 88 rfl)]; exact congrArg (ar 88) (show (fv_2 89).toInt.toNat = (((fv 89).toInt.toNat) + (x_1.toInt.toNat)) from by omega))) hP hS (lv_sub hl [1, 2, 3, 0] rfl)
  · skip
    have z_31 : (0 : Int32).toInt = 0 := by decide
    have z_32 : 0 ≤ (fv 89).toInt ∧ (fv 89).toInt ≤ 441 := hF_fv 89
    exact hj_11 41 0 fv ar _ _ ls (by first | decide | omega) (iv_w (⟨by decide, by decide⟩ : (0 : Int) ≤ (0 : Int32).toInt ∧ (0 : Int32).toInt ≤ 0) (by decide) (by decide)) hF_fv (fM_rf [89] _) hA_ar (fA_rf [72] _) (by rw [show (0 : Int32).toInt = 0 from by decide]; omega) (by omega) (by rw [show (0 : Int32).toInt.toNat = 0 from by decide]; exact mm_pb_0 _ _ _) hP hS (lv_sub hl [1, 2, 3, 0] rfl)
set_option maxHeartbeats 4000000 in
set_option maxRecDepth 100000 in
theorem m_keepE_73 (l : Launch) (dC : Nat → ClassId) (dI : Nat → Nat → Nat) (sz h : Nat) (ad : Nat → Nat) (cA : Nat → ClassId) (hd : dM h ad) (fv : Nat → Int32) (wd : Int64) (ar : Nat → Nat → Int32) (hF_fv : rF fv) (hA_ar : rA ar) (nn : Int32) (h_nn : 0 ≤ nn.toInt ∧ nn.toInt ≤ 40) (hk : (fv 89).toInt + nn.toInt ≤ 441) : Met l yX12_keep (.code yX12_keep cX12_keep 4 none :: lw_good) ({ frames := 2, cells := 0, slots := 0, locals := 40 }) (va_Pc [.ref h, .ref (ad 73), .int nn] (prM dC dI h ad cA fv wd ar sz)) (va_Qv (fun (u : mS) => rF u.1 ∧ rA u.2.2 ∧ fM [89] fv u.1 ∧ fA [88] ar u.2.2 ∧ ((u.1 89).toInt = (fv 89).toInt + nn.toInt) ∧ (mm_kp (ar 88) (ar 73) (u.2.2 88) ((fv 89).toInt.toNat) (nn.toInt.toNat)) ∧ True) (enM dC dI h ad cA) (aM h ad sz)) 0 0 (aM h ad sz) := by
  refine Met.ofW (cc := cX12_keep) (maxL := 4) (ret := none) (by decide) rfl ?_
  intro p e s m args below meth c s₁ B hml hv
  obtain ⟨rfl, hsz, hP, hK⟩ := hv
  have hx := B.exec
  have hb := B.bytes
  have hr := B.returns
  have hts := atoms_spec (ws := (.code yX12_keep cX12_keep 4 none :: lw_good)) B.pre
  have htg : ∀ w ∈ lw_good, w.before _ s = true := fun w hw => hts w (List.mem_cons_of_mem _ hw)
  have hown : s.vm.findClass RX12 = some m.cls := findClass_of_methodNamed B.named
  have hlocks := B.notSynchronized
  subst hsz
  have hS : va_S (aM h ad s.heap.size) s.heap s.heap [] := va_S.rf
  have hl := lv_entry ([.ref h, .ref (ad 73), .int nn]) (n := 4) (Nat.le_of_ble_eq_true rfl)
  rw [lg_entry_eq]
  generalize (lg_sl ([.ref h, .ref (ad 73), .int nn]) ++ List.replicate (4 - (lg_sl ([.ref h, .ref (ad 73), .int nn])).length) Slot.unset).toArray = ls at hl ⊢
  have hl : lv_has ls 4 [(0, .ref h), (1, .ref (ad 73)), (2, .int nn)] := hl
  refine lv_iconst (v := 0) hx hb dX12_keep_0 (by decide) ?_
  refine lv_istore_n (lv' := [(3, .int 0), (0, .ref h), (1, .ref (ad 73)), (2, .int nn)]) hx hb dX12_keep_1 rfl hl (by decide) rfl (fun ls hl => ?_)
  refine my_cut (P := fun R9 a9 Q9 => ∀ (n_9 : Nat) (x_1 : Int32) (fv_2 : Nat → Int32) (ar_4 : Nat → Nat → Int32) (H : Heap) (locs : List Loc) (ls : Array Slot), 40 - x_1.toInt < (n_9 : Int) → (0 ≤ x_1.toInt ∧ x_1.toInt ≤ 40) → rF fv_2 → fM [89] fv fv_2 → rA ar_4 → fA [88] ar ar_4 → ((fv_2 89).toInt = (fv 89).toInt + x_1.toInt) → (x_1.toInt ≤ nn.toInt) → (mm_kp (ar 88) (ar 73) (ar_4 88) ((fv 89).toInt.toNat) (x_1.toInt.toNat)) → va_P (dC, dI) vwCl (wsM h ad cA fv_2 wd ar_4) H → va_S (aM h ad s.heap.size) s.heap H locs → lv_has ls 4 [(0, .ref h), (1, .ref (ad 73)), (2, .int nn), (3, .int x_1)] → W p l e R9 s m a9 below meth c H locs 0 0 Q9 (F0 m 2 ls [])) ?_ (fun hj_11 => ?_)
  · intro n_9
    induction n_9 with
    | zero => intro x_1 fv_2 ar_4 H locs ls fu_10 i_x_1 hF_fv_2 fr_3 hA_ar_4 fa_5 q_6 q_7 q_8; exfalso; omega
    | succ n_9 ih_9 =>
      intro x_1 fv_2 ar_4 H locs ls fu_10 i_x_1 hF_fv_2 fr_3 hA_ar_4 fa_5 q_6 q_7 q_8 hP hS hl
      refine lv_iload_n hx hb dX12_keep_2 rfl (lv_at hl 3 rfl) ?_
      refine lv_iload_n hx hb dX12_keep_3 rfl (lv_at hl 2 rfl) ?_
      refine lv_icmp_ge (tgt := 35) hx hb dX12_keep_4 (by decide) (fun c_12 => ?_) (fun c_12 => ?_)
      · skip
        have k_13 := Int32.le_iff_toInt_le.mp c_12
        have z_14 : 0 ≤ (fv_2 89).toInt ∧ (fv_2 89).toInt ≤ 441 := hF_fv_2 89
        exact W.vret hx hb hr (fun t ht hW => ⟨⟨(fv_2, wd, ar_4), rfl, ⟨hF_fv_2, hA_ar_4, (fM_call (fM_rf [89] _) fr_3 (by decide)), (fA_call (fA_rf [88] _) fa_5 (by decide)), (show (fv_2 89).toInt = (fv 89).toInt + nn.toInt from by omega), (show mm_kp (ar 88) (ar 73) (ar_4 88) ((fv 89).toInt.toNat) (nn.toInt.toNat) from by have h9 := q_8; rw [show (x_1.toInt.toNat) = (nn.toInt.toNat) from by omega] at h9; exact h9), trivial⟩, ⟨by rw [ht]; exact hP, va_K.moved hW.alike hK⟩⟩, hS.F ht⟩) hS.2.2 dX12_keep_35
      · skip
        have i_15 : 0 ≤ x_1.toInt ∧ x_1.toInt ≤ 39 := iv_lt1 i_x_1 h_nn (Int32.not_le.mp c_12)
        have i_16 : 1 ≤ nn.toInt ∧ nn.toInt ≤ 40 := iv_lt2 i_x_1 h_nn (Int32.not_le.mp c_12)
        have k_17 := Int32.lt_iff_toInt_lt.mp (Int32.not_le.mp c_12)
        refine lv_aload_n hx hb dX12_keep_7 rfl (lv_at hl 0 rfl) ?_
        refine gM_88 hx hb htg hown hK hP dX12_keep_8 ?_
        refine lv_aload_n hx hb dX12_keep_11 rfl (lv_at hl 0 rfl) ?_
        refine gM_89 hx hb htg hown hK hP dX12_keep_12 ?_
        have i_18 : 0 ≤ (fv_2 89).toInt ∧ (fv_2 89).toInt ≤ 441 := hF_fv_2 89
        refine lv_aload_n hx hb dX12_keep_15 rfl (lv_at hl 1 rfl) ?_
        refine lv_iload_n hx hb dX12_keep_16 rfl (lv_at hl 3 rfl) ?_
        refine lM_73 hx hb hK hP (iv_in i_15 (by decide) (by decide)) dX12_keep_17 (fun v_19 ev_19 => ?_)
        refine sM_88 hx hb hK hP hS hd (vp_in_iff.mpr (by omega)) dX12_keep_18 (fun H locs ar_20 ear_20 hP hS => ?_)
        have hA_ar_20 : rA ar_20 := rA_put hA_ar_4 ear_20 (iv_any _)
        refine lv_aload_n hx hb dX12_keep_19 rfl (lv_at hl 0 rfl) ?_
        refine lv_dup hx hb dX12_keep_20 rfl ?_
        refine gM_89 hx hb htg hown hK hP dX12_keep_21 ?_
        refine lv_iconst (v := 1) hx hb dX12_keep_24 (by decide) ?_
        refine lv_iadd hx hb dX12_keep_25 ?_
        refine lv_topi (fun v_21 ev_21 => ?_)
        have t_22 : v_21.toInt = (fv_2 89).toInt + 1 ∧ 1 ≤ v_21.toInt ∧ v_21.toInt ≤ 442 := iv_addc ev_21 i_18 (by decide) (by decide) (by decide)
        have i_24 : 0 ≤ v_21.toInt ∧ v_21.toInt ≤ 441 := (by omega)
        refine pM_89 hx hb htg hown hK hP hS hd dX12_keep_26 (fun H locs fv_25 efv_25 hP hS => ?_)
        have hF_fv_25 : rF fv_25 := rF_put hF_fv_2 efv_25 i_24
        obtain ⟨v_26, ev_26⟩ : ∃ z : Int32, z = x_1 + 1 := ⟨_, rfl⟩
        refine lv_iinc (v := v_26) (lv' := [(3, .int v_26), (0, .ref h), (1, .ref (ad 73)), (2, .int nn)]) hx hb dX12_keep_29 hl (k := 3) rfl (by rw [ev_26]; rfl) (by decide) rfl (fun ls hl => ?_)
        have t_27 : v_26.toInt = x_1.toInt + 1 ∧ 1 ≤ v_26.toInt ∧ v_26.toInt ≤ 40 := iv_addc ev_26 i_15 (by decide) (by decide) (by decide)
        refine lv_goto (tgt := 2) hx hb dX12_keep_32 (by decide) ?_
        have z_29 : (fv_25 89).toInt = v_21.toInt := congrArg Int32.toInt ((congrFun efv_25 89))
        have z_30 : 0 ≤ (fv_25 89).toInt ∧ (fv_25 89).toInt ≤ 441 := hF_fv_25 89
        exact ih_9 v_26 fv_25 ar_20 _ _ ls (by omega) (iv_w t_27.2 (by decide) (by decide)) hF_fv_25 (fM_put (fM_call (fM_rf [89] _) fr_3 (by decide)) efv_25 (by decide)) hA_ar_20 (fA_put (fA_call (fA_rf [88] _) fa_5 (by decide)) ear_20 (by decide)) (by rw [show fv_25 89 = v_21 from (congrFun efv_25 89)]; omega) (by omega) (by have hq0 := q_6; have h89 := (show (0 : Int) ≤ (fv 89).toInt ∧ (fv 89).toInt ≤ 441 from hF_fv 89); rw [show v_26.toInt.toNat = (x_1.toInt.toNat) + 1 from by omega]; exact mm_kp_s q_8 (fun j9 => by rw [(show ∀ i9, ar_20 88 i9 = if i9 = ((fv_2 89).toInt.toNat) then v_19 else ar_4 88 i9 from (fun i9 => by rw [ear_20]; show (if i9 = Int32.toNatClampNeg (fv_2 89) then v_19 else ar_4 88 i9) = _; rfl)) j9, show ((fv_2 89).toInt.toNat) = ((fv 89).toInt.toNat) + (x_1.toInt.toNat) from by omega]) (show v_19 = ar 73 (x_1.toInt.toNat) from by rw [ev_19, show ar_4 73 = ar 73 from ((fA_call (fA_rf [88] _) fa_5 (by decide)) 73 rfl)]; exact congrArg (ar 73) (show x_1.toInt.toNat = (x_1.toInt.toNat) from by omega))) hP hS (lv_sub hl [1, 2, 3, 0] rfl)
  · skip
    have z_31 : (0 : Int32).toInt = 0 := by decide
    have z_32 : 0 ≤ (fv 89).toInt ∧ (fv 89).toInt ≤ 441 := hF_fv 89
    exact hj_11 41 0 fv ar _ _ ls (by first | decide | omega) (iv_w (⟨by decide, by decide⟩ : (0 : Int) ≤ (0 : Int32).toInt ∧ (0 : Int32).toInt ≤ 0) (by decide) (by decide)) hF_fv (fM_rf [89] _) hA_ar (fA_rf [88] _) (by rw [show (0 : Int32).toInt = 0 from by decide]; omega) (by omega) (by rw [show (0 : Int32).toInt.toNat = 0 from by decide]; exact mm_kp_0 _ _ _) hP hS (lv_sub hl [1, 2, 3, 0] rfl)
set_option maxHeartbeats 4000000 in
set_option maxRecDepth 100000 in
theorem m_putBackE_73 (l : Launch) (dC : Nat → ClassId) (dI : Nat → Nat → Nat) (sz h : Nat) (ad : Nat → Nat) (cA : Nat → ClassId) (hd : dM h ad) (fv : Nat → Int32) (wd : Int64) (ar : Nat → Nat → Int32) (hF_fv : rF fv) (hA_ar : rA ar) (nn : Int32) (h_nn : 0 ≤ nn.toInt ∧ nn.toInt ≤ 40) (hk : (fv 89).toInt + nn.toInt ≤ 441) : Met l yX12_putBack (.code yX12_putBack cX12_putBack 4 none :: lw_good) ({ frames := 2, cells := 0, slots := 0, locals := 40 }) (va_Pc [.ref h, .ref (ad 73), .int nn] (prM dC dI h ad cA fv wd ar sz)) (va_Qv (fun (u : mS) => rF u.1 ∧ rA u.2.2 ∧ fM [89] fv u.1 ∧ fA [73] ar u.2.2 ∧ ((u.1 89).toInt = (fv 89).toInt + nn.toInt) ∧ (mm_pb (ar 73) (ar 88) (u.2.2 73) ((fv 89).toInt.toNat) (nn.toInt.toNat)) ∧ True) (enM dC dI h ad cA) (aM h ad sz)) 0 0 (aM h ad sz) := by
  refine Met.ofW (cc := cX12_putBack) (maxL := 4) (ret := none) (by decide) rfl ?_
  intro p e s m args below meth c s₁ B hml hv
  obtain ⟨rfl, hsz, hP, hK⟩ := hv
  have hx := B.exec
  have hb := B.bytes
  have hr := B.returns
  have hts := atoms_spec (ws := (.code yX12_putBack cX12_putBack 4 none :: lw_good)) B.pre
  have htg : ∀ w ∈ lw_good, w.before _ s = true := fun w hw => hts w (List.mem_cons_of_mem _ hw)
  have hown : s.vm.findClass RX12 = some m.cls := findClass_of_methodNamed B.named
  have hlocks := B.notSynchronized
  subst hsz
  have hS : va_S (aM h ad s.heap.size) s.heap s.heap [] := va_S.rf
  have hl := lv_entry ([.ref h, .ref (ad 73), .int nn]) (n := 4) (Nat.le_of_ble_eq_true rfl)
  rw [lg_entry_eq]
  generalize (lg_sl ([.ref h, .ref (ad 73), .int nn]) ++ List.replicate (4 - (lg_sl ([.ref h, .ref (ad 73), .int nn])).length) Slot.unset).toArray = ls at hl ⊢
  have hl : lv_has ls 4 [(0, .ref h), (1, .ref (ad 73)), (2, .int nn)] := hl
  refine lv_iconst (v := 0) hx hb dX12_putBack_0 (by decide) ?_
  refine lv_istore_n (lv' := [(3, .int 0), (0, .ref h), (1, .ref (ad 73)), (2, .int nn)]) hx hb dX12_putBack_1 rfl hl (by decide) rfl (fun ls hl => ?_)
  refine my_cut (P := fun R9 a9 Q9 => ∀ (n_9 : Nat) (x_1 : Int32) (fv_2 : Nat → Int32) (ar_4 : Nat → Nat → Int32) (H : Heap) (locs : List Loc) (ls : Array Slot), 40 - x_1.toInt < (n_9 : Int) → (0 ≤ x_1.toInt ∧ x_1.toInt ≤ 40) → rF fv_2 → fM [89] fv fv_2 → rA ar_4 → fA [73] ar ar_4 → ((fv_2 89).toInt = (fv 89).toInt + x_1.toInt) → (x_1.toInt ≤ nn.toInt) → (mm_pb (ar 73) (ar 88) (ar_4 73) ((fv 89).toInt.toNat) (x_1.toInt.toNat)) → va_P (dC, dI) vwCl (wsM h ad cA fv_2 wd ar_4) H → va_S (aM h ad s.heap.size) s.heap H locs → lv_has ls 4 [(0, .ref h), (1, .ref (ad 73)), (2, .int nn), (3, .int x_1)] → W p l e R9 s m a9 below meth c H locs 0 0 Q9 (F0 m 2 ls [])) ?_ (fun hj_11 => ?_)
  · intro n_9
    induction n_9 with
    | zero => intro x_1 fv_2 ar_4 H locs ls fu_10 i_x_1 hF_fv_2 fr_3 hA_ar_4 fa_5 q_6 q_7 q_8; exfalso; omega
    | succ n_9 ih_9 =>
      intro x_1 fv_2 ar_4 H locs ls fu_10 i_x_1 hF_fv_2 fr_3 hA_ar_4 fa_5 q_6 q_7 q_8 hP hS hl
      refine lv_iload_n hx hb dX12_putBack_2 rfl (lv_at hl 3 rfl) ?_
      refine lv_iload_n hx hb dX12_putBack_3 rfl (lv_at hl 2 rfl) ?_
      refine lv_icmp_ge (tgt := 35) hx hb dX12_putBack_4 (by decide) (fun c_12 => ?_) (fun c_12 => ?_)
      · skip
        have k_13 := Int32.le_iff_toInt_le.mp c_12
        have z_14 : 0 ≤ (fv_2 89).toInt ∧ (fv_2 89).toInt ≤ 441 := hF_fv_2 89
        exact W.vret hx hb hr (fun t ht hW => ⟨⟨(fv_2, wd, ar_4), rfl, ⟨hF_fv_2, hA_ar_4, (fM_call (fM_rf [89] _) fr_3 (by decide)), (fA_call (fA_rf [73] _) fa_5 (by decide)), (show (fv_2 89).toInt = (fv 89).toInt + nn.toInt from by omega), (show mm_pb (ar 73) (ar 88) (ar_4 73) ((fv 89).toInt.toNat) (nn.toInt.toNat) from by have h9 := q_8; rw [show (x_1.toInt.toNat) = (nn.toInt.toNat) from by omega] at h9; exact h9), trivial⟩, ⟨by rw [ht]; exact hP, va_K.moved hW.alike hK⟩⟩, hS.F ht⟩) hS.2.2 dX12_putBack_35
      · skip
        have i_15 : 0 ≤ x_1.toInt ∧ x_1.toInt ≤ 39 := iv_lt1 i_x_1 h_nn (Int32.not_le.mp c_12)
        have i_16 : 1 ≤ nn.toInt ∧ nn.toInt ≤ 40 := iv_lt2 i_x_1 h_nn (Int32.not_le.mp c_12)
        have k_17 := Int32.lt_iff_toInt_lt.mp (Int32.not_le.mp c_12)
        refine lv_aload_n hx hb dX12_putBack_7 rfl (lv_at hl 1 rfl) ?_
        refine lv_iload_n hx hb dX12_putBack_8 rfl (lv_at hl 3 rfl) ?_
        refine lv_aload_n hx hb dX12_putBack_9 rfl (lv_at hl 0 rfl) ?_
        refine gM_88 hx hb htg hown hK hP dX12_putBack_10 ?_
        refine lv_aload_n hx hb dX12_putBack_13 rfl (lv_at hl 0 rfl) ?_
        refine gM_89 hx hb htg hown hK hP dX12_putBack_14 ?_
        have i_18 : 0 ≤ (fv_2 89).toInt ∧ (fv_2 89).toInt ≤ 441 := hF_fv_2 89
        refine lM_88 hx hb hK hP (vp_in_iff.mpr (by omega)) dX12_putBack_17 (fun v_19 ev_19 => ?_)
        refine sM_73 hx hb hK hP hS hd (iv_in i_15 (by decide) (by decide)) dX12_putBack_18 (fun H locs ar_20 ear_20 hP hS => ?_)
        have hA_ar_20 : rA ar_20 := rA_put hA_ar_4 ear_20 (iv_any _)
        refine lv_aload_n hx hb dX12_putBack_19 rfl (lv_at hl 0 rfl) ?_
        refine lv_dup hx hb dX12_putBack_20 rfl ?_
        refine gM_89 hx hb htg hown hK hP dX12_putBack_21 ?_
        refine lv_iconst (v := 1) hx hb dX12_putBack_24 (by decide) ?_
        refine lv_iadd hx hb dX12_putBack_25 ?_
        refine lv_topi (fun v_21 ev_21 => ?_)
        have t_22 : v_21.toInt = (fv_2 89).toInt + 1 ∧ 1 ≤ v_21.toInt ∧ v_21.toInt ≤ 442 := iv_addc ev_21 i_18 (by decide) (by decide) (by decide)
        have i_24 : 0 ≤ v_21.toInt ∧ v_21.toInt ≤ 441 := (by omega)
        refine pM_89 hx hb htg hown hK hP hS hd dX12_putBack_26 (fun H locs fv_25 efv_25 hP hS => ?_)
        have hF_fv_25 : rF fv_25 := rF_put hF_fv_2 efv_25 i_24
        obtain ⟨v_26, ev_26⟩ : ∃ z : Int32, z = x_1 + 1 := ⟨_, rfl⟩
        refine lv_iinc (v := v_26) (lv' := [(3, .int v_26), (0, .ref h), (1, .ref (ad 73)), (2, .int nn)]) hx hb dX12_putBack_29 hl (k := 3) rfl (by rw [ev_26]; rfl) (by decide) rfl (fun ls hl => ?_)
        have t_27 : v_26.toInt = x_1.toInt + 1 ∧ 1 ≤ v_26.toInt ∧ v_26.toInt ≤ 40 := iv_addc ev_26 i_15 (by decide) (by decide) (by decide)
        refine lv_goto (tgt := 2) hx hb dX12_putBack_32 (by decide) ?_
        have z_29 : (fv_25 89).toInt = v_21.toInt := congrArg Int32.toInt ((congrFun efv_25 89))
        have z_30 : 0 ≤ (fv_25 89).toInt ∧ (fv_25 89).toInt ≤ 441 := hF_fv_25 89
        exact ih_9 v_26 fv_25 ar_20 _ _ ls (by omega) (iv_w t_27.2 (by decide) (by decide)) hF_fv_25 (fM_put (fM_call (fM_rf [89] _) fr_3 (by decide)) efv_25 (by decide)) hA_ar_20 (fA_put (fA_call (fA_rf [73] _) fa_5 (by decide)) ear_20 (by decide)) (by rw [show fv_25 89 = v_21 from (congrFun efv_25 89)]; omega) (by omega) (by have hq0 := q_6; have h89 := (show (0 : Int) ≤ (fv 89).toInt ∧ (fv 89).toInt ≤ 441 from hF_fv 89); rw [show v_26.toInt.toNat = (x_1.toInt.toNat) + 1 from by omega]; exact mm_pb_s q_8 (fun j9 => by rw [(show ∀ i9, ar_20 73 i9 = if i9 = (x_1.toInt.toNat) then v_19 else ar_4 73 i9 from (fun i9 => by rw [ear_20]; show (if i9 = Int32.toNatClampNeg x_1 then v_19 else ar_4 73 i9) = _; rfl)) j9, show (x_1.toInt.toNat) = (x_1.toInt.toNat) from by omega]) (show v_19 = ar 88 (((fv 89).toInt.toNat) + (x_1.toInt.toNat)) from by rw [ev_19, show ar_4 88 = ar 88 from ((fA_call (fA_rf [73] _) fa_5 (by decide)) 88 rfl)]; exact congrArg (ar 88) (show (fv_2 89).toInt.toNat = (((fv 89).toInt.toNat) + (x_1.toInt.toNat)) from by omega))) hP hS (lv_sub hl [1, 2, 3, 0] rfl)
  · skip
    have z_31 : (0 : Int32).toInt = 0 := by decide
    have z_32 : 0 ≤ (fv 89).toInt ∧ (fv 89).toInt ≤ 441 := hF_fv 89
    exact hj_11 41 0 fv ar _ _ ls (by first | decide | omega) (iv_w (⟨by decide, by decide⟩ : (0 : Int) ≤ (0 : Int32).toInt ∧ (0 : Int32).toInt ≤ 0) (by decide) (by decide)) hF_fv (fM_rf [89] _) hA_ar (fA_rf [73] _) (by rw [show (0 : Int32).toInt = 0 from by decide]; omega) (by omega) (by rw [show (0 : Int32).toInt.toNat = 0 from by decide]; exact mm_pb_0 _ _ _) hP hS (lv_sub hl [1, 2, 3, 0] rfl)
set_option maxHeartbeats 4000000 in
set_option maxRecDepth 100000 in
theorem m_keepE_74 (l : Launch) (dC : Nat → ClassId) (dI : Nat → Nat → Nat) (sz h : Nat) (ad : Nat → Nat) (cA : Nat → ClassId) (hd : dM h ad) (fv : Nat → Int32) (wd : Int64) (ar : Nat → Nat → Int32) (hF_fv : rF fv) (hA_ar : rA ar) (nn : Int32) (h_nn : 0 ≤ nn.toInt ∧ nn.toInt ≤ 40) (hk : (fv 89).toInt + nn.toInt ≤ 441) : Met l yX12_keep (.code yX12_keep cX12_keep 4 none :: lw_good) ({ frames := 2, cells := 0, slots := 0, locals := 40 }) (va_Pc [.ref h, .ref (ad 74), .int nn] (prM dC dI h ad cA fv wd ar sz)) (va_Qv (fun (u : mS) => rF u.1 ∧ rA u.2.2 ∧ fM [89] fv u.1 ∧ fA [88] ar u.2.2 ∧ ((u.1 89).toInt = (fv 89).toInt + nn.toInt) ∧ (mm_kp (ar 88) (ar 74) (u.2.2 88) ((fv 89).toInt.toNat) (nn.toInt.toNat)) ∧ True) (enM dC dI h ad cA) (aM h ad sz)) 0 0 (aM h ad sz) := by
  refine Met.ofW (cc := cX12_keep) (maxL := 4) (ret := none) (by decide) rfl ?_
  intro p e s m args below meth c s₁ B hml hv
  obtain ⟨rfl, hsz, hP, hK⟩ := hv
  have hx := B.exec
  have hb := B.bytes
  have hr := B.returns
  have hts := atoms_spec (ws := (.code yX12_keep cX12_keep 4 none :: lw_good)) B.pre
  have htg : ∀ w ∈ lw_good, w.before _ s = true := fun w hw => hts w (List.mem_cons_of_mem _ hw)
  have hown : s.vm.findClass RX12 = some m.cls := findClass_of_methodNamed B.named
  have hlocks := B.notSynchronized
  subst hsz
  have hS : va_S (aM h ad s.heap.size) s.heap s.heap [] := va_S.rf
  have hl := lv_entry ([.ref h, .ref (ad 74), .int nn]) (n := 4) (Nat.le_of_ble_eq_true rfl)
  rw [lg_entry_eq]
  generalize (lg_sl ([.ref h, .ref (ad 74), .int nn]) ++ List.replicate (4 - (lg_sl ([.ref h, .ref (ad 74), .int nn])).length) Slot.unset).toArray = ls at hl ⊢
  have hl : lv_has ls 4 [(0, .ref h), (1, .ref (ad 74)), (2, .int nn)] := hl
  refine lv_iconst (v := 0) hx hb dX12_keep_0 (by decide) ?_
  refine lv_istore_n (lv' := [(3, .int 0), (0, .ref h), (1, .ref (ad 74)), (2, .int nn)]) hx hb dX12_keep_1 rfl hl (by decide) rfl (fun ls hl => ?_)
  refine my_cut (P := fun R9 a9 Q9 => ∀ (n_9 : Nat) (x_1 : Int32) (fv_2 : Nat → Int32) (ar_4 : Nat → Nat → Int32) (H : Heap) (locs : List Loc) (ls : Array Slot), 40 - x_1.toInt < (n_9 : Int) → (0 ≤ x_1.toInt ∧ x_1.toInt ≤ 40) → rF fv_2 → fM [89] fv fv_2 → rA ar_4 → fA [88] ar ar_4 → ((fv_2 89).toInt = (fv 89).toInt + x_1.toInt) → (x_1.toInt ≤ nn.toInt) → (mm_kp (ar 88) (ar 74) (ar_4 88) ((fv 89).toInt.toNat) (x_1.toInt.toNat)) → va_P (dC, dI) vwCl (wsM h ad cA fv_2 wd ar_4) H → va_S (aM h ad s.heap.size) s.heap H locs → lv_has ls 4 [(0, .ref h), (1, .ref (ad 74)), (2, .int nn), (3, .int x_1)] → W p l e R9 s m a9 below meth c H locs 0 0 Q9 (F0 m 2 ls [])) ?_ (fun hj_11 => ?_)
  · intro n_9
    induction n_9 with
    | zero => intro x_1 fv_2 ar_4 H locs ls fu_10 i_x_1 hF_fv_2 fr_3 hA_ar_4 fa_5 q_6 q_7 q_8; exfalso; omega
    | succ n_9 ih_9 =>
      intro x_1 fv_2 ar_4 H locs ls fu_10 i_x_1 hF_fv_2 fr_3 hA_ar_4 fa_5 q_6 q_7 q_8 hP hS hl
      refine lv_iload_n hx hb dX12_keep_2 rfl (lv_at hl 3 rfl) ?_
      refine lv_iload_n hx hb dX12_keep_3 rfl (lv_at hl 2 rfl) ?_
      refine lv_icmp_ge (tgt := 35) hx hb dX12_keep_4 (by decide) (fun c_12 => ?_) (fun c_12 => ?_)
      · skip
        have k_13 := Int32.le_iff_toInt_le.mp c_12
        have z_14 : 0 ≤ (fv_2 89).toInt ∧ (fv_2 89).toInt ≤ 441 := hF_fv_2 89
        exact W.vret hx hb hr (fun t ht hW => ⟨⟨(fv_2, wd, ar_4), rfl, ⟨hF_fv_2, hA_ar_4, (fM_call (fM_rf [89] _) fr_3 (by decide)), (fA_call (fA_rf [88] _) fa_5 (by decide)), (show (fv_2 89).toInt = (fv 89).toInt + nn.toInt from by omega), (show mm_kp (ar 88) (ar 74) (ar_4 88) ((fv 89).toInt.toNat) (nn.toInt.toNat) from by have h9 := q_8; rw [show (x_1.toInt.toNat) = (nn.toInt.toNat) from by omega] at h9; exact h9), trivial⟩, ⟨by rw [ht]; exact hP, va_K.moved hW.alike hK⟩⟩, hS.F ht⟩) hS.2.2 dX12_keep_35
      · skip
        have i_15 : 0 ≤ x_1.toInt ∧ x_1.toInt ≤ 39 := iv_lt1 i_x_1 h_nn (Int32.not_le.mp c_12)
        have i_16 : 1 ≤ nn.toInt ∧ nn.toInt ≤ 40 := iv_lt2 i_x_1 h_nn (Int32.not_le.mp c_12)
        have k_17 := Int32.lt_iff_toInt_lt.mp (Int32.not_le.mp c_12)
        refine lv_aload_n hx hb dX12_keep_7 rfl (lv_at hl 0 rfl) ?_
        refine gM_88 hx hb htg hown hK hP dX12_keep_8 ?_
        refine lv_aload_n hx hb dX12_keep_11 rfl (lv_at hl 0 rfl) ?_
        refine gM_89 hx hb htg hown hK hP dX12_keep_12 ?_
        have i_18 : 0 ≤ (fv_2 89).toInt ∧ (fv_2 89).toInt ≤ 441 := hF_fv_2 89
        refine lv_aload_n hx hb dX12_keep_15 rfl (lv_at hl 1 rfl) ?_
        refine lv_iload_n hx hb dX12_keep_16 rfl (lv_at hl 3 rfl) ?_
        refine lM_74 hx hb hK hP (iv_in i_15 (by decide) (by decide)) dX12_keep_17 (fun v_19 ev_19 => ?_)
        refine sM_88 hx hb hK hP hS hd (vp_in_iff.mpr (by omega)) dX12_keep_18 (fun H locs ar_20 ear_20 hP hS => ?_)
        have hA_ar_20 : rA ar_20 := rA_put hA_ar_4 ear_20 (iv_any _)
        refine lv_aload_n hx hb dX12_keep_19 rfl (lv_at hl 0 rfl) ?_
        refine lv_dup hx hb dX12_keep_20 rfl ?_
        refine gM_89 hx hb htg hown hK hP dX12_keep_21 ?_
        refine lv_iconst (v := 1) hx hb dX12_keep_24 (by decide) ?_
        refine lv_iadd hx hb dX12_keep_25 ?_
        refine lv_topi (fun v_21 ev_21 => ?_)
        have t_22 : v_21.toInt = (fv_2 89).toInt + 1 ∧ 1 ≤ v_21.toInt ∧ v_21.toInt ≤ 442 := iv_addc ev_21 i_18 (by decide) (by decide) (by decide)
        have i_24 : 0 ≤ v_21.toInt ∧ v_21.toInt ≤ 441 := (by omega)
        refine pM_89 hx hb htg hown hK hP hS hd dX12_keep_26 (fun H locs fv_25 efv_25 hP hS => ?_)
        have hF_fv_25 : rF fv_25 := rF_put hF_fv_2 efv_25 i_24
        obtain ⟨v_26, ev_26⟩ : ∃ z : Int32, z = x_1 + 1 := ⟨_, rfl⟩
        refine lv_iinc (v := v_26) (lv' := [(3, .int v_26), (0, .ref h), (1, .ref (ad 74)), (2, .int nn)]) hx hb dX12_keep_29 hl (k := 3) rfl (by rw [ev_26]; rfl) (by decide) rfl (fun ls hl => ?_)
        have t_27 : v_26.toInt = x_1.toInt + 1 ∧ 1 ≤ v_26.toInt ∧ v_26.toInt ≤ 40 := iv_addc ev_26 i_15 (by decide) (by decide) (by decide)
        refine lv_goto (tgt := 2) hx hb dX12_keep_32 (by decide) ?_
        have z_29 : (fv_25 89).toInt = v_21.toInt := congrArg Int32.toInt ((congrFun efv_25 89))
        have z_30 : 0 ≤ (fv_25 89).toInt ∧ (fv_25 89).toInt ≤ 441 := hF_fv_25 89
        exact ih_9 v_26 fv_25 ar_20 _ _ ls (by omega) (iv_w t_27.2 (by decide) (by decide)) hF_fv_25 (fM_put (fM_call (fM_rf [89] _) fr_3 (by decide)) efv_25 (by decide)) hA_ar_20 (fA_put (fA_call (fA_rf [88] _) fa_5 (by decide)) ear_20 (by decide)) (by rw [show fv_25 89 = v_21 from (congrFun efv_25 89)]; omega) (by omega) (by have hq0 := q_6; have h89 := (show (0 : Int) ≤ (fv 89).toInt ∧ (fv 89).toInt ≤ 441 from hF_fv 89); rw [show v_26.toInt.toNat = (x_1.toInt.toNat) + 1 from by omega]; exact mm_kp_s q_8 (fun j9 => by rw [(show ∀ i9, ar_20 88 i9 = if i9 = ((fv_2 89).toInt.toNat) then v_19 else ar_4 88 i9 from (fun i9 => by rw [ear_20]; show (if i9 = Int32.toNatClampNeg (fv_2 89) then v_19 else ar_4 88 i9) = _; rfl)) j9, show ((fv_2 89).toInt.toNat) = ((fv 89).toInt.toNat) + (x_1.toInt.toNat) from by omega]) (show v_19 = ar 74 (x_1.toInt.toNat) from by rw [ev_19, show ar_4 74 = ar 74 from ((fA_call (fA_rf [88] _) fa_5 (by decide)) 74 rfl)]; exact congrArg (ar 74) (show x_1.toInt.toNat = (x_1.toInt.toNat) from by omega))) hP hS (lv_sub hl [1, 2, 3, 0] rfl)
  · skip
    have z_31 : (0 : Int32).toInt = 0 := by decide
    have z_32 : 0 ≤ (fv 89).toInt ∧ (fv 89).toInt ≤ 441 := hF_fv 89
    exact hj_11 41 0 fv ar _ _ ls (by first | decide | omega) (iv_w (⟨by decide, by decide⟩ : (0 : Int) ≤ (0 : Int32).toInt ∧ (0 : Int32).toInt ≤ 0) (by decide) (by decide)) hF_fv (fM_rf [89] _) hA_ar (fA_rf [88] _) (by rw [show (0 : Int32).toInt = 0 from by decide]; omega) (by omega) (by rw [show (0 : Int32).toInt.toNat = 0 from by decide]; exact mm_kp_0 _ _ _) hP hS (lv_sub hl [1, 2, 3, 0] rfl)
set_option maxHeartbeats 4000000 in
set_option maxRecDepth 100000 in
theorem m_putBackE_74 (l : Launch) (dC : Nat → ClassId) (dI : Nat → Nat → Nat) (sz h : Nat) (ad : Nat → Nat) (cA : Nat → ClassId) (hd : dM h ad) (fv : Nat → Int32) (wd : Int64) (ar : Nat → Nat → Int32) (hF_fv : rF fv) (hA_ar : rA ar) (nn : Int32) (h_nn : 0 ≤ nn.toInt ∧ nn.toInt ≤ 40) (hk : (fv 89).toInt + nn.toInt ≤ 441) : Met l yX12_putBack (.code yX12_putBack cX12_putBack 4 none :: lw_good) ({ frames := 2, cells := 0, slots := 0, locals := 40 }) (va_Pc [.ref h, .ref (ad 74), .int nn] (prM dC dI h ad cA fv wd ar sz)) (va_Qv (fun (u : mS) => rF u.1 ∧ rA u.2.2 ∧ fM [89] fv u.1 ∧ fA [74] ar u.2.2 ∧ ((u.1 89).toInt = (fv 89).toInt + nn.toInt) ∧ (mm_pb (ar 74) (ar 88) (u.2.2 74) ((fv 89).toInt.toNat) (nn.toInt.toNat)) ∧ True) (enM dC dI h ad cA) (aM h ad sz)) 0 0 (aM h ad sz) := by
  refine Met.ofW (cc := cX12_putBack) (maxL := 4) (ret := none) (by decide) rfl ?_
  intro p e s m args below meth c s₁ B hml hv
  obtain ⟨rfl, hsz, hP, hK⟩ := hv
  have hx := B.exec
  have hb := B.bytes
  have hr := B.returns
  have hts := atoms_spec (ws := (.code yX12_putBack cX12_putBack 4 none :: lw_good)) B.pre
  have htg : ∀ w ∈ lw_good, w.before _ s = true := fun w hw => hts w (List.mem_cons_of_mem _ hw)
  have hown : s.vm.findClass RX12 = some m.cls := findClass_of_methodNamed B.named
  have hlocks := B.notSynchronized
  subst hsz
  have hS : va_S (aM h ad s.heap.size) s.heap s.heap [] := va_S.rf
  have hl := lv_entry ([.ref h, .ref (ad 74), .int nn]) (n := 4) (Nat.le_of_ble_eq_true rfl)
  rw [lg_entry_eq]
  generalize (lg_sl ([.ref h, .ref (ad 74), .int nn]) ++ List.replicate (4 - (lg_sl ([.ref h, .ref (ad 74), .int nn])).length) Slot.unset).toArray = ls at hl ⊢
  have hl : lv_has ls 4 [(0, .ref h), (1, .ref (ad 74)), (2, .int nn)] := hl
  refine lv_iconst (v := 0) hx hb dX12_putBack_0 (by decide) ?_
  refine lv_istore_n (lv' := [(3, .int 0), (0, .ref h), (1, .ref (ad 74)), (2, .int nn)]) hx hb dX12_putBack_1 rfl hl (by decide) rfl (fun ls hl => ?_)
  refine my_cut (P := fun R9 a9 Q9 => ∀ (n_9 : Nat) (x_1 : Int32) (fv_2 : Nat → Int32) (ar_4 : Nat → Nat → Int32) (H : Heap) (locs : List Loc) (ls : Array Slot), 40 - x_1.toInt < (n_9 : Int) → (0 ≤ x_1.toInt ∧ x_1.toInt ≤ 40) → rF fv_2 → fM [89] fv fv_2 → rA ar_4 → fA [74] ar ar_4 → ((fv_2 89).toInt = (fv 89).toInt + x_1.toInt) → (x_1.toInt ≤ nn.toInt) → (mm_pb (ar 74) (ar 88) (ar_4 74) ((fv 89).toInt.toNat) (x_1.toInt.toNat)) → va_P (dC, dI) vwCl (wsM h ad cA fv_2 wd ar_4) H → va_S (aM h ad s.heap.size) s.heap H locs → lv_has ls 4 [(0, .ref h), (1, .ref (ad 74)), (2, .int nn), (3, .int x_1)] → W p l e R9 s m a9 below meth c H locs 0 0 Q9 (F0 m 2 ls [])) ?_ (fun hj_11 => ?_)
  · intro n_9
    induction n_9 with
    | zero => intro x_1 fv_2 ar_4 H locs ls fu_10 i_x_1 hF_fv_2 fr_3 hA_ar_4 fa_5 q_6 q_7 q_8; exfalso; omega
    | succ n_9 ih_9 =>
      intro x_1 fv_2 ar_4 H locs ls fu_10 i_x_1 hF_fv_2 fr_3 hA_ar_4 fa_5 q_6 q_7 q_8 hP hS hl
      refine lv_iload_n hx hb dX12_putBack_2 rfl (lv_at hl 3 rfl) ?_
      refine lv_iload_n hx hb dX12_putBack_3 rfl (lv_at hl 2 rfl) ?_
      refine lv_icmp_ge (tgt := 35) hx hb dX12_putBack_4 (by decide) (fun c_12 => ?_) (fun c_12 => ?_)
      · skip
        have k_13 := Int32.le_iff_toInt_le.mp c_12
        have z_14 : 0 ≤ (fv_2 89).toInt ∧ (fv_2 89).toInt ≤ 441 := hF_fv_2 89
        exact W.vret hx hb hr (fun t ht hW => ⟨⟨(fv_2, wd, ar_4), rfl, ⟨hF_fv_2, hA_ar_4, (fM_call (fM_rf [89] _) fr_3 (by decide)), (fA_call (fA_rf [74] _) fa_5 (by decide)), (show (fv_2 89).toInt = (fv 89).toInt + nn.toInt from by omega), (show mm_pb (ar 74) (ar 88) (ar_4 74) ((fv 89).toInt.toNat) (nn.toInt.toNat) from by have h9 := q_8; rw [show (x_1.toInt.toNat) = (nn.toInt.toNat) from by omega] at h9; exact h9), trivial⟩, ⟨by rw [ht]; exact hP, va_K.moved hW.alike hK⟩⟩, hS.F ht⟩) hS.2.2 dX12_putBack_35
      · skip
        have i_15 : 0 ≤ x_1.toInt ∧ x_1.toInt ≤ 39 := iv_lt1 i_x_1 h_nn (Int32.not_le.mp c_12)
        have i_16 : 1 ≤ nn.toInt ∧ nn.toInt ≤ 40 := iv_lt2 i_x_1 h_nn (Int32.not_le.mp c_12)
        have k_17 := Int32.lt_iff_toInt_lt.mp (Int32.not_le.mp c_12)
        refine lv_aload_n hx hb dX12_putBack_7 rfl (lv_at hl 1 rfl) ?_
        refine lv_iload_n hx hb dX12_putBack_8 rfl (lv_at hl 3 rfl) ?_
        refine lv_aload_n hx hb dX12_putBack_9 rfl (lv_at hl 0 rfl) ?_
        refine gM_88 hx hb htg hown hK hP dX12_putBack_10 ?_
        refine lv_aload_n hx hb dX12_putBack_13 rfl (lv_at hl 0 rfl) ?_
        refine gM_89 hx hb htg hown hK hP dX12_putBack_14 ?_
        have i_18 : 0 ≤ (fv_2 89).toInt ∧ (fv_2 89).toInt ≤ 441 := hF_fv_2 89
        refine lM_88 hx hb hK hP (vp_in_iff.mpr (by omega)) dX12_putBack_17 (fun v_19 ev_19 => ?_)
        refine sM_74 hx hb hK hP hS hd (iv_in i_15 (by decide) (by decide)) dX12_putBack_18 (fun H locs ar_20 ear_20 hP hS => ?_)
        have hA_ar_20 : rA ar_20 := rA_put hA_ar_4 ear_20 (iv_any _)
        refine lv_aload_n hx hb dX12_putBack_19 rfl (lv_at hl 0 rfl) ?_
        refine lv_dup hx hb dX12_putBack_20 rfl ?_
        refine gM_89 hx hb htg hown hK hP dX12_putBack_21 ?_
        refine lv_iconst (v := 1) hx hb dX12_putBack_24 (by decide) ?_
        refine lv_iadd hx hb dX12_putBack_25 ?_
        refine lv_topi (fun v_21 ev_21 => ?_)
        have t_22 : v_21.toInt = (fv_2 89).toInt + 1 ∧ 1 ≤ v_21.toInt ∧ v_21.toInt ≤ 442 := iv_addc ev_21 i_18 (by decide) (by decide) (by decide)
        have i_24 : 0 ≤ v_21.toInt ∧ v_21.toInt ≤ 441 := (by omega)
        refine pM_89 hx hb htg hown hK hP hS hd dX12_putBack_26 (fun H locs fv_25 efv_25 hP hS => ?_)
        have hF_fv_25 : rF fv_25 := rF_put hF_fv_2 efv_25 i_24
        obtain ⟨v_26, ev_26⟩ : ∃ z : Int32, z = x_1 + 1 := ⟨_, rfl⟩
        refine lv_iinc (v := v_26) (lv' := [(3, .int v_26), (0, .ref h), (1, .ref (ad 74)), (2, .int nn)]) hx hb dX12_putBack_29 hl (k := 3) rfl (by rw [ev_26]; rfl) (by decide) rfl (fun ls hl => ?_)
        have t_27 : v_26.toInt = x_1.toInt + 1 ∧ 1 ≤ v_26.toInt ∧ v_26.toInt ≤ 40 := iv_addc ev_26 i_15 (by decide) (by decide) (by decide)
        refine lv_goto (tgt := 2) hx hb dX12_putBack_32 (by decide) ?_
        have z_29 : (fv_25 89).toInt = v_21.toInt := congrArg Int32.toInt ((congrFun efv_25 89))
        have z_30 : 0 ≤ (fv_25 89).toInt ∧ (fv_25 89).toInt ≤ 441 := hF_fv_25 89
        exact ih_9 v_26 fv_25 ar_20 _ _ ls (by omega) (iv_w t_27.2 (by decide) (by decide)) hF_fv_25 (fM_put (fM_call (fM_rf [89] _) fr_3 (by decide)) efv_25 (by decide)) hA_ar_20 (fA_put (fA_call (fA_rf [74] _) fa_5 (by decide)) ear_20 (by decide)) (by rw [show fv_25 89 = v_21 from (congrFun efv_25 89)]; omega) (by omega) (by have hq0 := q_6; have h89 := (show (0 : Int) ≤ (fv 89).toInt ∧ (fv 89).toInt ≤ 441 from hF_fv 89); rw [show v_26.toInt.toNat = (x_1.toInt.toNat) + 1 from by omega]; exact mm_pb_s q_8 (fun j9 => by rw [(show ∀ i9, ar_20 74 i9 = if i9 = (x_1.toInt.toNat) then v_19 else ar_4 74 i9 from (fun i9 => by rw [ear_20]; show (if i9 = Int32.toNatClampNeg x_1 then v_19 else ar_4 74 i9) = _; rfl)) j9, show (x_1.toInt.toNat) = (x_1.toInt.toNat) from by omega]) (show v_19 = ar 88 (((fv 89).toInt.toNat) + (x_1.toInt.toNat)) from by rw [ev_19, show ar_4 88 = ar 88 from ((fA_call (fA_rf [74] _) fa_5 (by decide)) 88 rfl)]; exact congrArg (ar 88) (show (fv_2 89).toInt.toNat = (((fv 89).toInt.toNat) + (x_1.toInt.toNat)) from by omega))) hP hS (lv_sub hl [1, 2, 3, 0] rfl)
  · skip
    have z_31 : (0 : Int32).toInt = 0 := by decide
    have z_32 : 0 ≤ (fv 89).toInt ∧ (fv 89).toInt ≤ 441 := hF_fv 89
    exact hj_11 41 0 fv ar _ _ ls (by first | decide | omega) (iv_w (⟨by decide, by decide⟩ : (0 : Int) ≤ (0 : Int32).toInt ∧ (0 : Int32).toInt ≤ 0) (by decide) (by decide)) hF_fv (fM_rf [89] _) hA_ar (fA_rf [74] _) (by rw [show (0 : Int32).toInt = 0 from by decide]; omega) (by omega) (by rw [show (0 : Int32).toInt.toNat = 0 from by decide]; exact mm_pb_0 _ _ _) hP hS (lv_sub hl [1, 2, 3, 0] rfl)
set_option maxHeartbeats 4000000 in
set_option maxRecDepth 100000 in
theorem m_keepE_75 (l : Launch) (dC : Nat → ClassId) (dI : Nat → Nat → Nat) (sz h : Nat) (ad : Nat → Nat) (cA : Nat → ClassId) (hd : dM h ad) (fv : Nat → Int32) (wd : Int64) (ar : Nat → Nat → Int32) (hF_fv : rF fv) (hA_ar : rA ar) (nn : Int32) (h_nn : 0 ≤ nn.toInt ∧ nn.toInt ≤ 40) (hk : (fv 89).toInt + nn.toInt ≤ 441) : Met l yX12_keep (.code yX12_keep cX12_keep 4 none :: lw_good) ({ frames := 2, cells := 0, slots := 0, locals := 40 }) (va_Pc [.ref h, .ref (ad 75), .int nn] (prM dC dI h ad cA fv wd ar sz)) (va_Qv (fun (u : mS) => rF u.1 ∧ rA u.2.2 ∧ fM [89] fv u.1 ∧ fA [88] ar u.2.2 ∧ ((u.1 89).toInt = (fv 89).toInt + nn.toInt) ∧ (mm_kp (ar 88) (ar 75) (u.2.2 88) ((fv 89).toInt.toNat) (nn.toInt.toNat)) ∧ True) (enM dC dI h ad cA) (aM h ad sz)) 0 0 (aM h ad sz) := by
  refine Met.ofW (cc := cX12_keep) (maxL := 4) (ret := none) (by decide) rfl ?_
  intro p e s m args below meth c s₁ B hml hv
  obtain ⟨rfl, hsz, hP, hK⟩ := hv
  have hx := B.exec
  have hb := B.bytes
  have hr := B.returns
  have hts := atoms_spec (ws := (.code yX12_keep cX12_keep 4 none :: lw_good)) B.pre
  have htg : ∀ w ∈ lw_good, w.before _ s = true := fun w hw => hts w (List.mem_cons_of_mem _ hw)
  have hown : s.vm.findClass RX12 = some m.cls := findClass_of_methodNamed B.named
  have hlocks := B.notSynchronized
  subst hsz
  have hS : va_S (aM h ad s.heap.size) s.heap s.heap [] := va_S.rf
  have hl := lv_entry ([.ref h, .ref (ad 75), .int nn]) (n := 4) (Nat.le_of_ble_eq_true rfl)
  rw [lg_entry_eq]
  generalize (lg_sl ([.ref h, .ref (ad 75), .int nn]) ++ List.replicate (4 - (lg_sl ([.ref h, .ref (ad 75), .int nn])).length) Slot.unset).toArray = ls at hl ⊢
  have hl : lv_has ls 4 [(0, .ref h), (1, .ref (ad 75)), (2, .int nn)] := hl
  refine lv_iconst (v := 0) hx hb dX12_keep_0 (by decide) ?_
  refine lv_istore_n (lv' := [(3, .int 0), (0, .ref h), (1, .ref (ad 75)), (2, .int nn)]) hx hb dX12_keep_1 rfl hl (by decide) rfl (fun ls hl => ?_)
  refine my_cut (P := fun R9 a9 Q9 => ∀ (n_9 : Nat) (x_1 : Int32) (fv_2 : Nat → Int32) (ar_4 : Nat → Nat → Int32) (H : Heap) (locs : List Loc) (ls : Array Slot), 40 - x_1.toInt < (n_9 : Int) → (0 ≤ x_1.toInt ∧ x_1.toInt ≤ 40) → rF fv_2 → fM [89] fv fv_2 → rA ar_4 → fA [88] ar ar_4 → ((fv_2 89).toInt = (fv 89).toInt + x_1.toInt) → (x_1.toInt ≤ nn.toInt) → (mm_kp (ar 88) (ar 75) (ar_4 88) ((fv 89).toInt.toNat) (x_1.toInt.toNat)) → va_P (dC, dI) vwCl (wsM h ad cA fv_2 wd ar_4) H → va_S (aM h ad s.heap.size) s.heap H locs → lv_has ls 4 [(0, .ref h), (1, .ref (ad 75)), (2, .int nn), (3, .int x_1)] → W p l e R9 s m a9 below meth c H locs 0 0 Q9 (F0 m 2 ls [])) ?_ (fun hj_11 => ?_)
  · intro n_9
    induction n_9 with
    | zero => intro x_1 fv_2 ar_4 H locs ls fu_10 i_x_1 hF_fv_2 fr_3 hA_ar_4 fa_5 q_6 q_7 q_8; exfalso; omega
    | succ n_9 ih_9 =>
      intro x_1 fv_2 ar_4 H locs ls fu_10 i_x_1 hF_fv_2 fr_3 hA_ar_4 fa_5 q_6 q_7 q_8 hP hS hl
      refine lv_iload_n hx hb dX12_keep_2 rfl (lv_at hl 3 rfl) ?_
      refine lv_iload_n hx hb dX12_keep_3 rfl (lv_at hl 2 rfl) ?_
      refine lv_icmp_ge (tgt := 35) hx hb dX12_keep_4 (by decide) (fun c_12 => ?_) (fun c_12 => ?_)
      · skip
        have k_13 := Int32.le_iff_toInt_le.mp c_12
        have z_14 : 0 ≤ (fv_2 89).toInt ∧ (fv_2 89).toInt ≤ 441 := hF_fv_2 89
        exact W.vret hx hb hr (fun t ht hW => ⟨⟨(fv_2, wd, ar_4), rfl, ⟨hF_fv_2, hA_ar_4, (fM_call (fM_rf [89] _) fr_3 (by decide)), (fA_call (fA_rf [88] _) fa_5 (by decide)), (show (fv_2 89).toInt = (fv 89).toInt + nn.toInt from by omega), (show mm_kp (ar 88) (ar 75) (ar_4 88) ((fv 89).toInt.toNat) (nn.toInt.toNat) from by have h9 := q_8; rw [show (x_1.toInt.toNat) = (nn.toInt.toNat) from by omega] at h9; exact h9), trivial⟩, ⟨by rw [ht]; exact hP, va_K.moved hW.alike hK⟩⟩, hS.F ht⟩) hS.2.2 dX12_keep_35
      · skip
        have i_15 : 0 ≤ x_1.toInt ∧ x_1.toInt ≤ 39 := iv_lt1 i_x_1 h_nn (Int32.not_le.mp c_12)
        have i_16 : 1 ≤ nn.toInt ∧ nn.toInt ≤ 40 := iv_lt2 i_x_1 h_nn (Int32.not_le.mp c_12)
        have k_17 := Int32.lt_iff_toInt_lt.mp (Int32.not_le.mp c_12)
        refine lv_aload_n hx hb dX12_keep_7 rfl (lv_at hl 0 rfl) ?_
        refine gM_88 hx hb htg hown hK hP dX12_keep_8 ?_
        refine lv_aload_n hx hb dX12_keep_11 rfl (lv_at hl 0 rfl) ?_
        refine gM_89 hx hb htg hown hK hP dX12_keep_12 ?_
        have i_18 : 0 ≤ (fv_2 89).toInt ∧ (fv_2 89).toInt ≤ 441 := hF_fv_2 89
        refine lv_aload_n hx hb dX12_keep_15 rfl (lv_at hl 1 rfl) ?_
        refine lv_iload_n hx hb dX12_keep_16 rfl (lv_at hl 3 rfl) ?_
        refine lM_75 hx hb hK hP (iv_in i_15 (by decide) (by decide)) dX12_keep_17 (fun v_19 ev_19 => ?_)
        refine sM_88 hx hb hK hP hS hd (vp_in_iff.mpr (by omega)) dX12_keep_18 (fun H locs ar_20 ear_20 hP hS => ?_)
        have hA_ar_20 : rA ar_20 := rA_put hA_ar_4 ear_20 (iv_any _)
        refine lv_aload_n hx hb dX12_keep_19 rfl (lv_at hl 0 rfl) ?_
        refine lv_dup hx hb dX12_keep_20 rfl ?_
        refine gM_89 hx hb htg hown hK hP dX12_keep_21 ?_
        refine lv_iconst (v := 1) hx hb dX12_keep_24 (by decide) ?_
        refine lv_iadd hx hb dX12_keep_25 ?_
        refine lv_topi (fun v_21 ev_21 => ?_)
        have t_22 : v_21.toInt = (fv_2 89).toInt + 1 ∧ 1 ≤ v_21.toInt ∧ v_21.toInt ≤ 442 := iv_addc ev_21 i_18 (by decide) (by decide) (by decide)
        have i_24 : 0 ≤ v_21.toInt ∧ v_21.toInt ≤ 441 := (by omega)
        refine pM_89 hx hb htg hown hK hP hS hd dX12_keep_26 (fun H locs fv_25 efv_25 hP hS => ?_)
        have hF_fv_25 : rF fv_25 := rF_put hF_fv_2 efv_25 i_24
        obtain ⟨v_26, ev_26⟩ : ∃ z : Int32, z = x_1 + 1 := ⟨_, rfl⟩
        refine lv_iinc (v := v_26) (lv' := [(3, .int v_26), (0, .ref h), (1, .ref (ad 75)), (2, .int nn)]) hx hb dX12_keep_29 hl (k := 3) rfl (by rw [ev_26]; rfl) (by decide) rfl (fun ls hl => ?_)
        have t_27 : v_26.toInt = x_1.toInt + 1 ∧ 1 ≤ v_26.toInt ∧ v_26.toInt ≤ 40 := iv_addc ev_26 i_15 (by decide) (by decide) (by decide)
        refine lv_goto (tgt := 2) hx hb dX12_keep_32 (by decide) ?_
        have z_29 : (fv_25 89).toInt = v_21.toInt := congrArg Int32.toInt ((congrFun efv_25 89))
        have z_30 : 0 ≤ (fv_25 89).toInt ∧ (fv_25 89).toInt ≤ 441 := hF_fv_25 89
        exact ih_9 v_26 fv_25 ar_20 _ _ ls (by omega) (iv_w t_27.2 (by decide) (by decide)) hF_fv_25 (fM_put (fM_call (fM_rf [89] _) fr_3 (by decide)) efv_25 (by decide)) hA_ar_20 (fA_put (fA_call (fA_rf [88] _) fa_5 (by decide)) ear_20 (by decide)) (by rw [show fv_25 89 = v_21 from (congrFun efv_25 89)]; omega) (by omega) (by have hq0 := q_6; have h89 := (show (0 : Int) ≤ (fv 89).toInt ∧ (fv 89).toInt ≤ 441 from hF_fv 89); rw [show v_26.toInt.toNat = (x_1.toInt.toNat) + 1 from by omega]; exact mm_kp_s q_8 (fun j9 => by rw [(show ∀ i9, ar_20 88 i9 = if i9 = ((fv_2 89).toInt.toNat) then v_19 else ar_4 88 i9 from (fun i9 => by rw [ear_20]; show (if i9 = Int32.toNatClampNeg (fv_2 89) then v_19 else ar_4 88 i9) = _; rfl)) j9, show ((fv_2 89).toInt.toNat) = ((fv 89).toInt.toNat) + (x_1.toInt.toNat) from by omega]) (show v_19 = ar 75 (x_1.toInt.toNat) from by rw [ev_19, show ar_4 75 = ar 75 from ((fA_call (fA_rf [88] _) fa_5 (by decide)) 75 rfl)]; exact congrArg (ar 75) (show x_1.toInt.toNat = (x_1.toInt.toNat) from by omega))) hP hS (lv_sub hl [1, 2, 3, 0] rfl)
  · skip
    have z_31 : (0 : Int32).toInt = 0 := by decide
    have z_32 : 0 ≤ (fv 89).toInt ∧ (fv 89).toInt ≤ 441 := hF_fv 89
    exact hj_11 41 0 fv ar _ _ ls (by first | decide | omega) (iv_w (⟨by decide, by decide⟩ : (0 : Int) ≤ (0 : Int32).toInt ∧ (0 : Int32).toInt ≤ 0) (by decide) (by decide)) hF_fv (fM_rf [89] _) hA_ar (fA_rf [88] _) (by rw [show (0 : Int32).toInt = 0 from by decide]; omega) (by omega) (by rw [show (0 : Int32).toInt.toNat = 0 from by decide]; exact mm_kp_0 _ _ _) hP hS (lv_sub hl [1, 2, 3, 0] rfl)
set_option maxHeartbeats 4000000 in
set_option maxRecDepth 100000 in
theorem m_putBackE_75 (l : Launch) (dC : Nat → ClassId) (dI : Nat → Nat → Nat) (sz h : Nat) (ad : Nat → Nat) (cA : Nat → ClassId) (hd : dM h ad) (fv : Nat → Int32) (wd : Int64) (ar : Nat → Nat → Int32) (hF_fv : rF fv) (hA_ar : rA ar) (nn : Int32) (h_nn : 0 ≤ nn.toInt ∧ nn.toInt ≤ 40) (hk : (fv 89).toInt + nn.toInt ≤ 441) : Met l yX12_putBack (.code yX12_putBack cX12_putBack 4 none :: lw_good) ({ frames := 2, cells := 0, slots := 0, locals := 40 }) (va_Pc [.ref h, .ref (ad 75), .int nn] (prM dC dI h ad cA fv wd ar sz)) (va_Qv (fun (u : mS) => rF u.1 ∧ rA u.2.2 ∧ fM [89] fv u.1 ∧ fA [75] ar u.2.2 ∧ ((u.1 89).toInt = (fv 89).toInt + nn.toInt) ∧ (mm_pb (ar 75) (ar 88) (u.2.2 75) ((fv 89).toInt.toNat) (nn.toInt.toNat)) ∧ True) (enM dC dI h ad cA) (aM h ad sz)) 0 0 (aM h ad sz) := by
  refine Met.ofW (cc := cX12_putBack) (maxL := 4) (ret := none) (by decide) rfl ?_
  intro p e s m args below meth c s₁ B hml hv
  obtain ⟨rfl, hsz, hP, hK⟩ := hv
  have hx := B.exec
  have hb := B.bytes
  have hr := B.returns
  have hts := atoms_spec (ws := (.code yX12_putBack cX12_putBack 4 none :: lw_good)) B.pre
  have htg : ∀ w ∈ lw_good, w.before _ s = true := fun w hw => hts w (List.mem_cons_of_mem _ hw)
  have hown : s.vm.findClass RX12 = some m.cls := findClass_of_methodNamed B.named
  have hlocks := B.notSynchronized
  subst hsz
  have hS : va_S (aM h ad s.heap.size) s.heap s.heap [] := va_S.rf
  have hl := lv_entry ([.ref h, .ref (ad 75), .int nn]) (n := 4) (Nat.le_of_ble_eq_true rfl)
  rw [lg_entry_eq]
  generalize (lg_sl ([.ref h, .ref (ad 75), .int nn]) ++ List.replicate (4 - (lg_sl ([.ref h, .ref (ad 75), .int nn])).length) Slot.unset).toArray = ls at hl ⊢
  have hl : lv_has ls 4 [(0, .ref h), (1, .ref (ad 75)), (2, .int nn)] := hl
  refine lv_iconst (v := 0) hx hb dX12_putBack_0 (by decide) ?_
  refine lv_istore_n (lv' := [(3, .int 0), (0, .ref h), (1, .ref (ad 75)), (2, .int nn)]) hx hb dX12_putBack_1 rfl hl (by decide) rfl (fun ls hl => ?_)
  refine my_cut (P := fun R9 a9 Q9 => ∀ (n_9 : Nat) (x_1 : Int32) (fv_2 : Nat → Int32) (ar_4 : Nat → Nat → Int32) (H : Heap) (locs : List Loc) (ls : Array Slot), 40 - x_1.toInt < (n_9 : Int) → (0 ≤ x_1.toInt ∧ x_1.toInt ≤ 40) → rF fv_2 → fM [89] fv fv_2 → rA ar_4 → fA [75] ar ar_4 → ((fv_2 89).toInt = (fv 89).toInt + x_1.toInt) → (x_1.toInt ≤ nn.toInt) → (mm_pb (ar 75) (ar 88) (ar_4 75) ((fv 89).toInt.toNat) (x_1.toInt.toNat)) → va_P (dC, dI) vwCl (wsM h ad cA fv_2 wd ar_4) H → va_S (aM h ad s.heap.size) s.heap H locs → lv_has ls 4 [(0, .ref h), (1, .ref (ad 75)), (2, .int nn), (3, .int x_1)] → W p l e R9 s m a9 below meth c H locs 0 0 Q9 (F0 m 2 ls [])) ?_ (fun hj_11 => ?_)
  · intro n_9
    induction n_9 with
    | zero => intro x_1 fv_2 ar_4 H locs ls fu_10 i_x_1 hF_fv_2 fr_3 hA_ar_4 fa_5 q_6 q_7 q_8; exfalso; omega
    | succ n_9 ih_9 =>
      intro x_1 fv_2 ar_4 H locs ls fu_10 i_x_1 hF_fv_2 fr_3 hA_ar_4 fa_5 q_6 q_7 q_8 hP hS hl
      refine lv_iload_n hx hb dX12_putBack_2 rfl (lv_at hl 3 rfl) ?_
      refine lv_iload_n hx hb dX12_putBack_3 rfl (lv_at hl 2 rfl) ?_
      refine lv_icmp_ge (tgt := 35) hx hb dX12_putBack_4 (by decide) (fun c_12 => ?_) (fun c_12 => ?_)
      · skip
        have k_13 := Int32.le_iff_toInt_le.mp c_12
        have z_14 : 0 ≤ (fv_2 89).toInt ∧ (fv_2 89).toInt ≤ 441 := hF_fv_2 89
        exact W.vret hx hb hr (fun t ht hW => ⟨⟨(fv_2, wd, ar_4), rfl, ⟨hF_fv_2, hA_ar_4, (fM_call (fM_rf [89] _) fr_3 (by decide)), (fA_call (fA_rf [75] _) fa_5 (by decide)), (show (fv_2 89).toInt = (fv 89).toInt + nn.toInt from by omega), (show mm_pb (ar 75) (ar 88) (ar_4 75) ((fv 89).toInt.toNat) (nn.toInt.toNat) from by have h9 := q_8; rw [show (x_1.toInt.toNat) = (nn.toInt.toNat) from by omega] at h9; exact h9), trivial⟩, ⟨by rw [ht]; exact hP, va_K.moved hW.alike hK⟩⟩, hS.F ht⟩) hS.2.2 dX12_putBack_35
      · skip
        have i_15 : 0 ≤ x_1.toInt ∧ x_1.toInt ≤ 39 := iv_lt1 i_x_1 h_nn (Int32.not_le.mp c_12)
        have i_16 : 1 ≤ nn.toInt ∧ nn.toInt ≤ 40 := iv_lt2 i_x_1 h_nn (Int32.not_le.mp c_12)
        have k_17 := Int32.lt_iff_toInt_lt.mp (Int32.not_le.mp c_12)
        refine lv_aload_n hx hb dX12_putBack_7 rfl (lv_at hl 1 rfl) ?_
        refine lv_iload_n hx hb dX12_putBack_8 rfl (lv_at hl 3 rfl) ?_
        refine lv_aload_n hx hb dX12_putBack_9 rfl (lv_at hl 0 rfl) ?_
        refine gM_88 hx hb htg hown hK hP dX12_putBack_10 ?_
        refine lv_aload_n hx hb dX12_putBack_13 rfl (lv_at hl 0 rfl) ?_
        refine gM_89 hx hb htg hown hK hP dX12_putBack_14 ?_
        have i_18 : 0 ≤ (fv_2 89).toInt ∧ (fv_2 89).toInt ≤ 441 := hF_fv_2 89
        refine lM_88 hx hb hK hP (vp_in_iff.mpr (by omega)) dX12_putBack_17 (fun v_19 ev_19 => ?_)
        refine sM_75 hx hb hK hP hS hd (iv_in i_15 (by decide) (by decide)) dX12_putBack_18 (fun H locs ar_20 ear_20 hP hS => ?_)
        have hA_ar_20 : rA ar_20 := rA_put hA_ar_4 ear_20 (iv_any _)
        refine lv_aload_n hx hb dX12_putBack_19 rfl (lv_at hl 0 rfl) ?_
        refine lv_dup hx hb dX12_putBack_20 rfl ?_
        refine gM_89 hx hb htg hown hK hP dX12_putBack_21 ?_
        refine lv_iconst (v := 1) hx hb dX12_putBack_24 (by decide) ?_
        refine lv_iadd hx hb dX12_putBack_25 ?_
        refine lv_topi (fun v_21 ev_21 => ?_)
        have t_22 : v_21.toInt = (fv_2 89).toInt + 1 ∧ 1 ≤ v_21.toInt ∧ v_21.toInt ≤ 442 := iv_addc ev_21 i_18 (by decide) (by decide) (by decide)
        have i_24 : 0 ≤ v_21.toInt ∧ v_21.toInt ≤ 441 := (by omega)
        refine pM_89 hx hb htg hown hK hP hS hd dX12_putBack_26 (fun H locs fv_25 efv_25 hP hS => ?_)
        have hF_fv_25 : rF fv_25 := rF_put hF_fv_2 efv_25 i_24
        obtain ⟨v_26, ev_26⟩ : ∃ z : Int32, z = x_1 + 1 := ⟨_, rfl⟩
        refine lv_iinc (v := v_26) (lv' := [(3, .int v_26), (0, .ref h), (1, .ref (ad 75)), (2, .int nn)]) hx hb dX12_putBack_29 hl (k := 3) rfl (by rw [ev_26]; rfl) (by decide) rfl (fun ls hl => ?_)
        have t_27 : v_26.toInt = x_1.toInt + 1 ∧ 1 ≤ v_26.toInt ∧ v_26.toInt ≤ 40 := iv_addc ev_26 i_15 (by decide) (by decide) (by decide)
        refine lv_goto (tgt := 2) hx hb dX12_putBack_32 (by decide) ?_
        have z_29 : (fv_25 89).toInt = v_21.toInt := congrArg Int32.toInt ((congrFun efv_25 89))
        have z_30 : 0 ≤ (fv_25 89).toInt ∧ (fv_25 89).toInt ≤ 441 := hF_fv_25 89
        exact ih_9 v_26 fv_25 ar_20 _ _ ls (by omega) (iv_w t_27.2 (by decide) (by decide)) hF_fv_25 (fM_put (fM_call (fM_rf [89] _) fr_3 (by decide)) efv_25 (by decide)) hA_ar_20 (fA_put (fA_call (fA_rf [75] _) fa_5 (by decide)) ear_20 (by decide)) (by rw [show fv_25 89 = v_21 from (congrFun efv_25 89)]; omega) (by omega) (by have hq0 := q_6; have h89 := (show (0 : Int) ≤ (fv 89).toInt ∧ (fv 89).toInt ≤ 441 from hF_fv 89); rw [show v_26.toInt.toNat = (x_1.toInt.toNat) + 1 from by omega]; exact mm_pb_s q_8 (fun j9 => by rw [(show ∀ i9, ar_20 75 i9 = if i9 = (x_1.toInt.toNat) then v_19 else ar_4 75 i9 from (fun i9 => by rw [ear_20]; show (if i9 = Int32.toNatClampNeg x_1 then v_19 else ar_4 75 i9) = _; rfl)) j9, show (x_1.toInt.toNat) = (x_1.toInt.toNat) from by omega]) (show v_19 = ar 88 (((fv 89).toInt.toNat) + (x_1.toInt.toNat)) from by rw [ev_19, show ar_4 88 = ar 88 from ((fA_call (fA_rf [75] _) fa_5 (by decide)) 88 rfl)]; exact congrArg (ar 88) (show (fv_2 89).toInt.toNat = (((fv 89).toInt.toNat) + (x_1.toInt.toNat)) from by omega))) hP hS (lv_sub hl [1, 2, 3, 0] rfl)
  · skip
    have z_31 : (0 : Int32).toInt = 0 := by decide
    have z_32 : 0 ≤ (fv 89).toInt ∧ (fv 89).toInt ≤ 441 := hF_fv 89
    exact hj_11 41 0 fv ar _ _ ls (by first | decide | omega) (iv_w (⟨by decide, by decide⟩ : (0 : Int) ≤ (0 : Int32).toInt ∧ (0 : Int32).toInt ≤ 0) (by decide) (by decide)) hF_fv (fM_rf [89] _) hA_ar (fA_rf [75] _) (by rw [show (0 : Int32).toInt = 0 from by decide]; omega) (by omega) (by rw [show (0 : Int32).toInt.toNat = 0 from by decide]; exact mm_pb_0 _ _ _) hP hS (lv_sub hl [1, 2, 3, 0] rfl)
set_option maxHeartbeats 4000000 in
set_option maxRecDepth 100000 in
theorem m_keepE_24 (l : Launch) (dC : Nat → ClassId) (dI : Nat → Nat → Nat) (sz h : Nat) (ad : Nat → Nat) (cA : Nat → ClassId) (hd : dM h ad) (fv : Nat → Int32) (wd : Int64) (ar : Nat → Nat → Int32) (hF_fv : rF fv) (hA_ar : rA ar) (nn : Int32) (h_nn : 0 ≤ nn.toInt ∧ nn.toInt ≤ 20) (hk : (fv 89).toInt + nn.toInt ≤ 441) : Met l yX12_keep (.code yX12_keep cX12_keep 4 none :: lw_good) ({ frames := 2, cells := 0, slots := 0, locals := 40 }) (va_Pc [.ref h, .ref (ad 24), .int nn] (prM dC dI h ad cA fv wd ar sz)) (va_Qv (fun (u : mS) => rF u.1 ∧ rA u.2.2 ∧ fM [89] fv u.1 ∧ fA [88] ar u.2.2 ∧ ((u.1 89).toInt = (fv 89).toInt + nn.toInt) ∧ (mm_kp (ar 88) (ar 24) (u.2.2 88) ((fv 89).toInt.toNat) (nn.toInt.toNat)) ∧ True) (enM dC dI h ad cA) (aM h ad sz)) 0 0 (aM h ad sz) := by
  refine Met.ofW (cc := cX12_keep) (maxL := 4) (ret := none) (by decide) rfl ?_
  intro p e s m args below meth c s₁ B hml hv
  obtain ⟨rfl, hsz, hP, hK⟩ := hv
  have hx := B.exec
  have hb := B.bytes
  have hr := B.returns
  have hts := atoms_spec (ws := (.code yX12_keep cX12_keep 4 none :: lw_good)) B.pre
  have htg : ∀ w ∈ lw_good, w.before _ s = true := fun w hw => hts w (List.mem_cons_of_mem _ hw)
  have hown : s.vm.findClass RX12 = some m.cls := findClass_of_methodNamed B.named
  have hlocks := B.notSynchronized
  subst hsz
  have hS : va_S (aM h ad s.heap.size) s.heap s.heap [] := va_S.rf
  have hl := lv_entry ([.ref h, .ref (ad 24), .int nn]) (n := 4) (Nat.le_of_ble_eq_true rfl)
  rw [lg_entry_eq]
  generalize (lg_sl ([.ref h, .ref (ad 24), .int nn]) ++ List.replicate (4 - (lg_sl ([.ref h, .ref (ad 24), .int nn])).length) Slot.unset).toArray = ls at hl ⊢
  have hl : lv_has ls 4 [(0, .ref h), (1, .ref (ad 24)), (2, .int nn)] := hl
  refine lv_iconst (v := 0) hx hb dX12_keep_0 (by decide) ?_
  refine lv_istore_n (lv' := [(3, .int 0), (0, .ref h), (1, .ref (ad 24)), (2, .int nn)]) hx hb dX12_keep_1 rfl hl (by decide) rfl (fun ls hl => ?_)
  refine my_cut (P := fun R9 a9 Q9 => ∀ (n_9 : Nat) (x_1 : Int32) (fv_2 : Nat → Int32) (ar_4 : Nat → Nat → Int32) (H : Heap) (locs : List Loc) (ls : Array Slot), 20 - x_1.toInt < (n_9 : Int) → (0 ≤ x_1.toInt ∧ x_1.toInt ≤ 20) → rF fv_2 → fM [89] fv fv_2 → rA ar_4 → fA [88] ar ar_4 → ((fv_2 89).toInt = (fv 89).toInt + x_1.toInt) → (x_1.toInt ≤ nn.toInt) → (mm_kp (ar 88) (ar 24) (ar_4 88) ((fv 89).toInt.toNat) (x_1.toInt.toNat)) → va_P (dC, dI) vwCl (wsM h ad cA fv_2 wd ar_4) H → va_S (aM h ad s.heap.size) s.heap H locs → lv_has ls 4 [(0, .ref h), (1, .ref (ad 24)), (2, .int nn), (3, .int x_1)] → W p l e R9 s m a9 below meth c H locs 0 0 Q9 (F0 m 2 ls [])) ?_ (fun hj_11 => ?_)
  · intro n_9
    induction n_9 with
    | zero => intro x_1 fv_2 ar_4 H locs ls fu_10 i_x_1 hF_fv_2 fr_3 hA_ar_4 fa_5 q_6 q_7 q_8; exfalso; omega
    | succ n_9 ih_9 =>
      intro x_1 fv_2 ar_4 H locs ls fu_10 i_x_1 hF_fv_2 fr_3 hA_ar_4 fa_5 q_6 q_7 q_8 hP hS hl
      refine lv_iload_n hx hb dX12_keep_2 rfl (lv_at hl 3 rfl) ?_
      refine lv_iload_n hx hb dX12_keep_3 rfl (lv_at hl 2 rfl) ?_
      refine lv_icmp_ge (tgt := 35) hx hb dX12_keep_4 (by decide) (fun c_12 => ?_) (fun c_12 => ?_)
      · skip
        have k_13 := Int32.le_iff_toInt_le.mp c_12
        have z_14 : 0 ≤ (fv_2 89).toInt ∧ (fv_2 89).toInt ≤ 441 := hF_fv_2 89
        exact W.vret hx hb hr (fun t ht hW => ⟨⟨(fv_2, wd, ar_4), rfl, ⟨hF_fv_2, hA_ar_4, (fM_call (fM_rf [89] _) fr_3 (by decide)), (fA_call (fA_rf [88] _) fa_5 (by decide)), (show (fv_2 89).toInt = (fv 89).toInt + nn.toInt from by omega), (show mm_kp (ar 88) (ar 24) (ar_4 88) ((fv 89).toInt.toNat) (nn.toInt.toNat) from by have h9 := q_8; rw [show (x_1.toInt.toNat) = (nn.toInt.toNat) from by omega] at h9; exact h9), trivial⟩, ⟨by rw [ht]; exact hP, va_K.moved hW.alike hK⟩⟩, hS.F ht⟩) hS.2.2 dX12_keep_35
      · skip
        have i_15 : 0 ≤ x_1.toInt ∧ x_1.toInt ≤ 19 := iv_lt1 i_x_1 h_nn (Int32.not_le.mp c_12)
        have i_16 : 1 ≤ nn.toInt ∧ nn.toInt ≤ 20 := iv_lt2 i_x_1 h_nn (Int32.not_le.mp c_12)
        have k_17 := Int32.lt_iff_toInt_lt.mp (Int32.not_le.mp c_12)
        refine lv_aload_n hx hb dX12_keep_7 rfl (lv_at hl 0 rfl) ?_
        refine gM_88 hx hb htg hown hK hP dX12_keep_8 ?_
        refine lv_aload_n hx hb dX12_keep_11 rfl (lv_at hl 0 rfl) ?_
        refine gM_89 hx hb htg hown hK hP dX12_keep_12 ?_
        have i_18 : 0 ≤ (fv_2 89).toInt ∧ (fv_2 89).toInt ≤ 441 := hF_fv_2 89
        refine lv_aload_n hx hb dX12_keep_15 rfl (lv_at hl 1 rfl) ?_
        refine lv_iload_n hx hb dX12_keep_16 rfl (lv_at hl 3 rfl) ?_
        refine lM_24 hx hb hK hP (iv_in i_15 (by decide) (by decide)) dX12_keep_17 (fun v_19 ev_19 => ?_)
        refine sM_88 hx hb hK hP hS hd (vp_in_iff.mpr (by omega)) dX12_keep_18 (fun H locs ar_20 ear_20 hP hS => ?_)
        have hA_ar_20 : rA ar_20 := rA_put hA_ar_4 ear_20 (iv_any _)
        refine lv_aload_n hx hb dX12_keep_19 rfl (lv_at hl 0 rfl) ?_
        refine lv_dup hx hb dX12_keep_20 rfl ?_
        refine gM_89 hx hb htg hown hK hP dX12_keep_21 ?_
        refine lv_iconst (v := 1) hx hb dX12_keep_24 (by decide) ?_
        refine lv_iadd hx hb dX12_keep_25 ?_
        refine lv_topi (fun v_21 ev_21 => ?_)
        have t_22 : v_21.toInt = (fv_2 89).toInt + 1 ∧ 1 ≤ v_21.toInt ∧ v_21.toInt ≤ 442 := iv_addc ev_21 i_18 (by decide) (by decide) (by decide)
        have i_24 : 0 ≤ v_21.toInt ∧ v_21.toInt ≤ 441 := (by omega)
        refine pM_89 hx hb htg hown hK hP hS hd dX12_keep_26 (fun H locs fv_25 efv_25 hP hS => ?_)
        have hF_fv_25 : rF fv_25 := rF_put hF_fv_2 efv_25 i_24
        obtain ⟨v_26, ev_26⟩ : ∃ z : Int32, z = x_1 + 1 := ⟨_, rfl⟩
        refine lv_iinc (v := v_26) (lv' := [(3, .int v_26), (0, .ref h), (1, .ref (ad 24)), (2, .int nn)]) hx hb dX12_keep_29 hl (k := 3) rfl (by rw [ev_26]; rfl) (by decide) rfl (fun ls hl => ?_)
        have t_27 : v_26.toInt = x_1.toInt + 1 ∧ 1 ≤ v_26.toInt ∧ v_26.toInt ≤ 20 := iv_addc ev_26 i_15 (by decide) (by decide) (by decide)
        refine lv_goto (tgt := 2) hx hb dX12_keep_32 (by decide) ?_
        have z_29 : (fv_25 89).toInt = v_21.toInt := congrArg Int32.toInt ((congrFun efv_25 89))
        have z_30 : 0 ≤ (fv_25 89).toInt ∧ (fv_25 89).toInt ≤ 441 := hF_fv_25 89
        exact ih_9 v_26 fv_25 ar_20 _ _ ls (by omega) (iv_w t_27.2 (by decide) (by decide)) hF_fv_25 (fM_put (fM_call (fM_rf [89] _) fr_3 (by decide)) efv_25 (by decide)) hA_ar_20 (fA_put (fA_call (fA_rf [88] _) fa_5 (by decide)) ear_20 (by decide)) (by rw [show fv_25 89 = v_21 from (congrFun efv_25 89)]; omega) (by omega) (by have hq0 := q_6; have h89 := (show (0 : Int) ≤ (fv 89).toInt ∧ (fv 89).toInt ≤ 441 from hF_fv 89); rw [show v_26.toInt.toNat = (x_1.toInt.toNat) + 1 from by omega]; exact mm_kp_s q_8 (fun j9 => by rw [(show ∀ i9, ar_20 88 i9 = if i9 = ((fv_2 89).toInt.toNat) then v_19 else ar_4 88 i9 from (fun i9 => by rw [ear_20]; show (if i9 = Int32.toNatClampNeg (fv_2 89) then v_19 else ar_4 88 i9) = _; rfl)) j9, show ((fv_2 89).toInt.toNat) = ((fv 89).toInt.toNat) + (x_1.toInt.toNat) from by omega]) (show v_19 = ar 24 (x_1.toInt.toNat) from by rw [ev_19, show ar_4 24 = ar 24 from ((fA_call (fA_rf [88] _) fa_5 (by decide)) 24 rfl)]; exact congrArg (ar 24) (show x_1.toInt.toNat = (x_1.toInt.toNat) from by omega))) hP hS (lv_sub hl [1, 2, 3, 0] rfl)
  · skip
    have z_31 : (0 : Int32).toInt = 0 := by decide
    have z_32 : 0 ≤ (fv 89).toInt ∧ (fv 89).toInt ≤ 441 := hF_fv 89
    exact hj_11 21 0 fv ar _ _ ls (by first | decide | omega) (iv_w (⟨by decide, by decide⟩ : (0 : Int) ≤ (0 : Int32).toInt ∧ (0 : Int32).toInt ≤ 0) (by decide) (by decide)) hF_fv (fM_rf [89] _) hA_ar (fA_rf [88] _) (by rw [show (0 : Int32).toInt = 0 from by decide]; omega) (by omega) (by rw [show (0 : Int32).toInt.toNat = 0 from by decide]; exact mm_kp_0 _ _ _) hP hS (lv_sub hl [1, 2, 3, 0] rfl)
set_option maxHeartbeats 4000000 in
set_option maxRecDepth 100000 in
theorem m_putBackE_24 (l : Launch) (dC : Nat → ClassId) (dI : Nat → Nat → Nat) (sz h : Nat) (ad : Nat → Nat) (cA : Nat → ClassId) (hd : dM h ad) (fv : Nat → Int32) (wd : Int64) (ar : Nat → Nat → Int32) (hF_fv : rF fv) (hA_ar : rA ar) (nn : Int32) (h_nn : 0 ≤ nn.toInt ∧ nn.toInt ≤ 20) (hk : (fv 89).toInt + nn.toInt ≤ 441) : Met l yX12_putBack (.code yX12_putBack cX12_putBack 4 none :: lw_good) ({ frames := 2, cells := 0, slots := 0, locals := 40 }) (va_Pc [.ref h, .ref (ad 24), .int nn] (prM dC dI h ad cA fv wd ar sz)) (va_Qv (fun (u : mS) => rF u.1 ∧ rA u.2.2 ∧ fM [89] fv u.1 ∧ fA [24] ar u.2.2 ∧ ((u.1 89).toInt = (fv 89).toInt + nn.toInt) ∧ (mm_pb (ar 24) (ar 88) (u.2.2 24) ((fv 89).toInt.toNat) (nn.toInt.toNat)) ∧ True) (enM dC dI h ad cA) (aM h ad sz)) 0 0 (aM h ad sz) := by
  refine Met.ofW (cc := cX12_putBack) (maxL := 4) (ret := none) (by decide) rfl ?_
  intro p e s m args below meth c s₁ B hml hv
  obtain ⟨rfl, hsz, hP, hK⟩ := hv
  have hx := B.exec
  have hb := B.bytes
  have hr := B.returns
  have hts := atoms_spec (ws := (.code yX12_putBack cX12_putBack 4 none :: lw_good)) B.pre
  have htg : ∀ w ∈ lw_good, w.before _ s = true := fun w hw => hts w (List.mem_cons_of_mem _ hw)
  have hown : s.vm.findClass RX12 = some m.cls := findClass_of_methodNamed B.named
  have hlocks := B.notSynchronized
  subst hsz
  have hS : va_S (aM h ad s.heap.size) s.heap s.heap [] := va_S.rf
  have hl := lv_entry ([.ref h, .ref (ad 24), .int nn]) (n := 4) (Nat.le_of_ble_eq_true rfl)
  rw [lg_entry_eq]
  generalize (lg_sl ([.ref h, .ref (ad 24), .int nn]) ++ List.replicate (4 - (lg_sl ([.ref h, .ref (ad 24), .int nn])).length) Slot.unset).toArray = ls at hl ⊢
  have hl : lv_has ls 4 [(0, .ref h), (1, .ref (ad 24)), (2, .int nn)] := hl
  refine lv_iconst (v := 0) hx hb dX12_putBack_0 (by decide) ?_
  refine lv_istore_n (lv' := [(3, .int 0), (0, .ref h), (1, .ref (ad 24)), (2, .int nn)]) hx hb dX12_putBack_1 rfl hl (by decide) rfl (fun ls hl => ?_)
  refine my_cut (P := fun R9 a9 Q9 => ∀ (n_9 : Nat) (x_1 : Int32) (fv_2 : Nat → Int32) (ar_4 : Nat → Nat → Int32) (H : Heap) (locs : List Loc) (ls : Array Slot), 20 - x_1.toInt < (n_9 : Int) → (0 ≤ x_1.toInt ∧ x_1.toInt ≤ 20) → rF fv_2 → fM [89] fv fv_2 → rA ar_4 → fA [24] ar ar_4 → ((fv_2 89).toInt = (fv 89).toInt + x_1.toInt) → (x_1.toInt ≤ nn.toInt) → (mm_pb (ar 24) (ar 88) (ar_4 24) ((fv 89).toInt.toNat) (x_1.toInt.toNat)) → va_P (dC, dI) vwCl (wsM h ad cA fv_2 wd ar_4) H → va_S (aM h ad s.heap.size) s.heap H locs → lv_has ls 4 [(0, .ref h), (1, .ref (ad 24)), (2, .int nn), (3, .int x_1)] → W p l e R9 s m a9 below meth c H locs 0 0 Q9 (F0 m 2 ls [])) ?_ (fun hj_11 => ?_)
  · intro n_9
    induction n_9 with
    | zero => intro x_1 fv_2 ar_4 H locs ls fu_10 i_x_1 hF_fv_2 fr_3 hA_ar_4 fa_5 q_6 q_7 q_8; exfalso; omega
    | succ n_9 ih_9 =>
      intro x_1 fv_2 ar_4 H locs ls fu_10 i_x_1 hF_fv_2 fr_3 hA_ar_4 fa_5 q_6 q_7 q_8 hP hS hl
      refine lv_iload_n hx hb dX12_putBack_2 rfl (lv_at hl 3 rfl) ?_
      refine lv_iload_n hx hb dX12_putBack_3 rfl (lv_at hl 2 rfl) ?_
      refine lv_icmp_ge (tgt := 35) hx hb dX12_putBack_4 (by decide) (fun c_12 => ?_) (fun c_12 => ?_)
      · skip
        have k_13 := Int32.le_iff_toInt_le.mp c_12
        have z_14 : 0 ≤ (fv_2 89).toInt ∧ (fv_2 89).toInt ≤ 441 := hF_fv_2 89
        exact W.vret hx hb hr (fun t ht hW => ⟨⟨(fv_2, wd, ar_4), rfl, ⟨hF_fv_2, hA_ar_4, (fM_call (fM_rf [89] _) fr_3 (by decide)), (fA_call (fA_rf [24] _) fa_5 (by decide)), (show (fv_2 89).toInt = (fv 89).toInt + nn.toInt from by omega), (show mm_pb (ar 24) (ar 88) (ar_4 24) ((fv 89).toInt.toNat) (nn.toInt.toNat) from by have h9 := q_8; rw [show (x_1.toInt.toNat) = (nn.toInt.toNat) from by omega] at h9; exact h9), trivial⟩, ⟨by rw [ht]; exact hP, va_K.moved hW.alike hK⟩⟩, hS.F ht⟩) hS.2.2 dX12_putBack_35
      · skip
        have i_15 : 0 ≤ x_1.toInt ∧ x_1.toInt ≤ 19 := iv_lt1 i_x_1 h_nn (Int32.not_le.mp c_12)
        have i_16 : 1 ≤ nn.toInt ∧ nn.toInt ≤ 20 := iv_lt2 i_x_1 h_nn (Int32.not_le.mp c_12)
        have k_17 := Int32.lt_iff_toInt_lt.mp (Int32.not_le.mp c_12)
        refine lv_aload_n hx hb dX12_putBack_7 rfl (lv_at hl 1 rfl) ?_
        refine lv_iload_n hx hb dX12_putBack_8 rfl (lv_at hl 3 rfl) ?_
        refine lv_aload_n hx hb dX12_putBack_9 rfl (lv_at hl 0 rfl) ?_
        refine gM_88 hx hb htg hown hK hP dX12_putBack_10 ?_
        refine lv_aload_n hx hb dX12_putBack_13 rfl (lv_at hl 0 rfl) ?_
        refine gM_89 hx hb htg hown hK hP dX12_putBack_14 ?_
        have i_18 : 0 ≤ (fv_2 89).toInt ∧ (fv_2 89).toInt ≤ 441 := hF_fv_2 89
        refine lM_88 hx hb hK hP (vp_in_iff.mpr (by omega)) dX12_putBack_17 (fun v_19 ev_19 => ?_)
        refine sM_24 hx hb hK hP hS hd (iv_in i_15 (by decide) (by decide)) dX12_putBack_18 (fun H locs ar_20 ear_20 hP hS => ?_)
        have hA_ar_20 : rA ar_20 := rA_put hA_ar_4 ear_20 (iv_any _)
        refine lv_aload_n hx hb dX12_putBack_19 rfl (lv_at hl 0 rfl) ?_
        refine lv_dup hx hb dX12_putBack_20 rfl ?_
        refine gM_89 hx hb htg hown hK hP dX12_putBack_21 ?_
        refine lv_iconst (v := 1) hx hb dX12_putBack_24 (by decide) ?_
        refine lv_iadd hx hb dX12_putBack_25 ?_
        refine lv_topi (fun v_21 ev_21 => ?_)
        have t_22 : v_21.toInt = (fv_2 89).toInt + 1 ∧ 1 ≤ v_21.toInt ∧ v_21.toInt ≤ 442 := iv_addc ev_21 i_18 (by decide) (by decide) (by decide)
        have i_24 : 0 ≤ v_21.toInt ∧ v_21.toInt ≤ 441 := (by omega)
        refine pM_89 hx hb htg hown hK hP hS hd dX12_putBack_26 (fun H locs fv_25 efv_25 hP hS => ?_)
        have hF_fv_25 : rF fv_25 := rF_put hF_fv_2 efv_25 i_24
        obtain ⟨v_26, ev_26⟩ : ∃ z : Int32, z = x_1 + 1 := ⟨_, rfl⟩
        refine lv_iinc (v := v_26) (lv' := [(3, .int v_26), (0, .ref h), (1, .ref (ad 24)), (2, .int nn)]) hx hb dX12_putBack_29 hl (k := 3) rfl (by rw [ev_26]; rfl) (by decide) rfl (fun ls hl => ?_)
        have t_27 : v_26.toInt = x_1.toInt + 1 ∧ 1 ≤ v_26.toInt ∧ v_26.toInt ≤ 20 := iv_addc ev_26 i_15 (by decide) (by decide) (by decide)
        refine lv_goto (tgt := 2) hx hb dX12_putBack_32 (by decide) ?_
        have z_29 : (fv_25 89).toInt = v_21.toInt := congrArg Int32.toInt ((congrFun efv_25 89))
        have z_30 : 0 ≤ (fv_25 89).toInt ∧ (fv_25 89).toInt ≤ 441 := hF_fv_25 89
        exact ih_9 v_26 fv_25 ar_20 _ _ ls (by omega) (iv_w t_27.2 (by decide) (by decide)) hF_fv_25 (fM_put (fM_call (fM_rf [89] _) fr_3 (by decide)) efv_25 (by decide)) hA_ar_20 (fA_put (fA_call (fA_rf [24] _) fa_5 (by decide)) ear_20 (by decide)) (by rw [show fv_25 89 = v_21 from (congrFun efv_25 89)]; omega) (by omega) (by have hq0 := q_6; have h89 := (show (0 : Int) ≤ (fv 89).toInt ∧ (fv 89).toInt ≤ 441 from hF_fv 89); rw [show v_26.toInt.toNat = (x_1.toInt.toNat) + 1 from by omega]; exact mm_pb_s q_8 (fun j9 => by rw [(show ∀ i9, ar_20 24 i9 = if i9 = (x_1.toInt.toNat) then v_19 else ar_4 24 i9 from (fun i9 => by rw [ear_20]; show (if i9 = Int32.toNatClampNeg x_1 then v_19 else ar_4 24 i9) = _; rfl)) j9, show (x_1.toInt.toNat) = (x_1.toInt.toNat) from by omega]) (show v_19 = ar 88 (((fv 89).toInt.toNat) + (x_1.toInt.toNat)) from by rw [ev_19, show ar_4 88 = ar 88 from ((fA_call (fA_rf [24] _) fa_5 (by decide)) 88 rfl)]; exact congrArg (ar 88) (show (fv_2 89).toInt.toNat = (((fv 89).toInt.toNat) + (x_1.toInt.toNat)) from by omega))) hP hS (lv_sub hl [1, 2, 3, 0] rfl)
  · skip
    have z_31 : (0 : Int32).toInt = 0 := by decide
    have z_32 : 0 ≤ (fv 89).toInt ∧ (fv 89).toInt ≤ 441 := hF_fv 89
    exact hj_11 21 0 fv ar _ _ ls (by first | decide | omega) (iv_w (⟨by decide, by decide⟩ : (0 : Int) ≤ (0 : Int32).toInt ∧ (0 : Int32).toInt ≤ 0) (by decide) (by decide)) hF_fv (fM_rf [89] _) hA_ar (fA_rf [24] _) (by rw [show (0 : Int32).toInt = 0 from by decide]; omega) (by omega) (by rw [show (0 : Int32).toInt.toNat = 0 from by decide]; exact mm_pb_0 _ _ _) hP hS (lv_sub hl [1, 2, 3, 0] rfl)
set_option maxHeartbeats 4000000 in
set_option maxRecDepth 100000 in
theorem m_keepE_76 (l : Launch) (dC : Nat → ClassId) (dI : Nat → Nat → Nat) (sz h : Nat) (ad : Nat → Nat) (cA : Nat → ClassId) (hd : dM h ad) (fv : Nat → Int32) (wd : Int64) (ar : Nat → Nat → Int32) (hF_fv : rF fv) (hA_ar : rA ar) (nn : Int32) (h_nn : 0 ≤ nn.toInt ∧ nn.toInt ≤ 20) (hk : (fv 89).toInt + nn.toInt ≤ 441) : Met l yX12_keep (.code yX12_keep cX12_keep 4 none :: lw_good) ({ frames := 2, cells := 0, slots := 0, locals := 40 }) (va_Pc [.ref h, .ref (ad 76), .int nn] (prM dC dI h ad cA fv wd ar sz)) (va_Qv (fun (u : mS) => rF u.1 ∧ rA u.2.2 ∧ fM [89] fv u.1 ∧ fA [88] ar u.2.2 ∧ ((u.1 89).toInt = (fv 89).toInt + nn.toInt) ∧ (mm_kp (ar 88) (ar 76) (u.2.2 88) ((fv 89).toInt.toNat) (nn.toInt.toNat)) ∧ True) (enM dC dI h ad cA) (aM h ad sz)) 0 0 (aM h ad sz) := by
  refine Met.ofW (cc := cX12_keep) (maxL := 4) (ret := none) (by decide) rfl ?_
  intro p e s m args below meth c s₁ B hml hv
  obtain ⟨rfl, hsz, hP, hK⟩ := hv
  have hx := B.exec
  have hb := B.bytes
  have hr := B.returns
  have hts := atoms_spec (ws := (.code yX12_keep cX12_keep 4 none :: lw_good)) B.pre
  have htg : ∀ w ∈ lw_good, w.before _ s = true := fun w hw => hts w (List.mem_cons_of_mem _ hw)
  have hown : s.vm.findClass RX12 = some m.cls := findClass_of_methodNamed B.named
  have hlocks := B.notSynchronized
  subst hsz
  have hS : va_S (aM h ad s.heap.size) s.heap s.heap [] := va_S.rf
  have hl := lv_entry ([.ref h, .ref (ad 76), .int nn]) (n := 4) (Nat.le_of_ble_eq_true rfl)
  rw [lg_entry_eq]
  generalize (lg_sl ([.ref h, .ref (ad 76), .int nn]) ++ List.replicate (4 - (lg_sl ([.ref h, .ref (ad 76), .int nn])).length) Slot.unset).toArray = ls at hl ⊢
  have hl : lv_has ls 4 [(0, .ref h), (1, .ref (ad 76)), (2, .int nn)] := hl
  refine lv_iconst (v := 0) hx hb dX12_keep_0 (by decide) ?_
  refine lv_istore_n (lv' := [(3, .int 0), (0, .ref h), (1, .ref (ad 76)), (2, .int nn)]) hx hb dX12_keep_1 rfl hl (by decide) rfl (fun ls hl => ?_)
  refine my_cut (P := fun R9 a9 Q9 => ∀ (n_9 : Nat) (x_1 : Int32) (fv_2 : Nat → Int32) (ar_4 : Nat → Nat → Int32) (H : Heap) (locs : List Loc) (ls : Array Slot), 20 - x_1.toInt < (n_9 : Int) → (0 ≤ x_1.toInt ∧ x_1.toInt ≤ 20) → rF fv_2 → fM [89] fv fv_2 → rA ar_4 → fA [88] ar ar_4 → ((fv_2 89).toInt = (fv 89).toInt + x_1.toInt) → (x_1.toInt ≤ nn.toInt) → (mm_kp (ar 88) (ar 76) (ar_4 88) ((fv 89).toInt.toNat) (x_1.toInt.toNat)) → va_P (dC, dI) vwCl (wsM h ad cA fv_2 wd ar_4) H → va_S (aM h ad s.heap.size) s.heap H locs → lv_has ls 4 [(0, .ref h), (1, .ref (ad 76)), (2, .int nn), (3, .int x_1)] → W p l e R9 s m a9 below meth c H locs 0 0 Q9 (F0 m 2 ls [])) ?_ (fun hj_11 => ?_)
  · intro n_9
    induction n_9 with
    | zero => intro x_1 fv_2 ar_4 H locs ls fu_10 i_x_1 hF_fv_2 fr_3 hA_ar_4 fa_5 q_6 q_7 q_8; exfalso; omega
    | succ n_9 ih_9 =>
      intro x_1 fv_2 ar_4 H locs ls fu_10 i_x_1 hF_fv_2 fr_3 hA_ar_4 fa_5 q_6 q_7 q_8 hP hS hl
      refine lv_iload_n hx hb dX12_keep_2 rfl (lv_at hl 3 rfl) ?_
      refine lv_iload_n hx hb dX12_keep_3 rfl (lv_at hl 2 rfl) ?_
      refine lv_icmp_ge (tgt := 35) hx hb dX12_keep_4 (by decide) (fun c_12 => ?_) (fun c_12 => ?_)
      · skip
        have k_13 := Int32.le_iff_toInt_le.mp c_12
        have z_14 : 0 ≤ (fv_2 89).toInt ∧ (fv_2 89).toInt ≤ 441 := hF_fv_2 89
        exact W.vret hx hb hr (fun t ht hW => ⟨⟨(fv_2, wd, ar_4), rfl, ⟨hF_fv_2, hA_ar_4, (fM_call (fM_rf [89] _) fr_3 (by decide)), (fA_call (fA_rf [88] _) fa_5 (by decide)), (show (fv_2 89).toInt = (fv 89).toInt + nn.toInt from by omega), (show mm_kp (ar 88) (ar 76) (ar_4 88) ((fv 89).toInt.toNat) (nn.toInt.toNat) from by have h9 := q_8; rw [show (x_1.toInt.toNat) = (nn.toInt.toNat) from by omega] at h9; exact h9), trivial⟩, ⟨by rw [ht]; exact hP, va_K.moved hW.alike hK⟩⟩, hS.F ht⟩) hS.2.2 dX12_keep_35
      · skip
        have i_15 : 0 ≤ x_1.toInt ∧ x_1.toInt ≤ 19 := iv_lt1 i_x_1 h_nn (Int32.not_le.mp c_12)
        have i_16 : 1 ≤ nn.toInt ∧ nn.toInt ≤ 20 := iv_lt2 i_x_1 h_nn (Int32.not_le.mp c_12)
        have k_17 := Int32.lt_iff_toInt_lt.mp (Int32.not_le.mp c_12)
        refine lv_aload_n hx hb dX12_keep_7 rfl (lv_at hl 0 rfl) ?_
        refine gM_88 hx hb htg hown hK hP dX12_keep_8 ?_
        refine lv_aload_n hx hb dX12_keep_11 rfl (lv_at hl 0 rfl) ?_
        refine gM_89 hx hb htg hown hK hP dX12_keep_12 ?_
        have i_18 : 0 ≤ (fv_2 89).toInt ∧ (fv_2 89).toInt ≤ 441 := hF_fv_2 89
        refine lv_aload_n hx hb dX12_keep_15 rfl (lv_at hl 1 rfl) ?_
        refine lv_iload_n hx hb dX12_keep_16 rfl (lv_at hl 3 rfl) ?_
        refine lM_76 hx hb hK hP (iv_in i_15 (by decide) (by decide)) dX12_keep_17 (fun v_19 ev_19 => ?_)
        refine sM_88 hx hb hK hP hS hd (vp_in_iff.mpr (by omega)) dX12_keep_18 (fun H locs ar_20 ear_20 hP hS => ?_)
        have hA_ar_20 : rA ar_20 := rA_put hA_ar_4 ear_20 (iv_any _)
        refine lv_aload_n hx hb dX12_keep_19 rfl (lv_at hl 0 rfl) ?_
        refine lv_dup hx hb dX12_keep_20 rfl ?_
        refine gM_89 hx hb htg hown hK hP dX12_keep_21 ?_
        refine lv_iconst (v := 1) hx hb dX12_keep_24 (by decide) ?_
        refine lv_iadd hx hb dX12_keep_25 ?_
        refine lv_topi (fun v_21 ev_21 => ?_)
        have t_22 : v_21.toInt = (fv_2 89).toInt + 1 ∧ 1 ≤ v_21.toInt ∧ v_21.toInt ≤ 442 := iv_addc ev_21 i_18 (by decide) (by decide) (by decide)
        have i_24 : 0 ≤ v_21.toInt ∧ v_21.toInt ≤ 441 := (by omega)
        refine pM_89 hx hb htg hown hK hP hS hd dX12_keep_26 (fun H locs fv_25 efv_25 hP hS => ?_)
        have hF_fv_25 : rF fv_25 := rF_put hF_fv_2 efv_25 i_24
        obtain ⟨v_26, ev_26⟩ : ∃ z : Int32, z = x_1 + 1 := ⟨_, rfl⟩
        refine lv_iinc (v := v_26) (lv' := [(3, .int v_26), (0, .ref h), (1, .ref (ad 76)), (2, .int nn)]) hx hb dX12_keep_29 hl (k := 3) rfl (by rw [ev_26]; rfl) (by decide) rfl (fun ls hl => ?_)
        have t_27 : v_26.toInt = x_1.toInt + 1 ∧ 1 ≤ v_26.toInt ∧ v_26.toInt ≤ 20 := iv_addc ev_26 i_15 (by decide) (by decide) (by decide)
        refine lv_goto (tgt := 2) hx hb dX12_keep_32 (by decide) ?_
        have z_29 : (fv_25 89).toInt = v_21.toInt := congrArg Int32.toInt ((congrFun efv_25 89))
        have z_30 : 0 ≤ (fv_25 89).toInt ∧ (fv_25 89).toInt ≤ 441 := hF_fv_25 89
        exact ih_9 v_26 fv_25 ar_20 _ _ ls (by omega) (iv_w t_27.2 (by decide) (by decide)) hF_fv_25 (fM_put (fM_call (fM_rf [89] _) fr_3 (by decide)) efv_25 (by decide)) hA_ar_20 (fA_put (fA_call (fA_rf [88] _) fa_5 (by decide)) ear_20 (by decide)) (by rw [show fv_25 89 = v_21 from (congrFun efv_25 89)]; omega) (by omega) (by have hq0 := q_6; have h89 := (show (0 : Int) ≤ (fv 89).toInt ∧ (fv 89).toInt ≤ 441 from hF_fv 89); rw [show v_26.toInt.toNat = (x_1.toInt.toNat) + 1 from by omega]; exact mm_kp_s q_8 (fun j9 => by rw [(show ∀ i9, ar_20 88 i9 = if i9 = ((fv_2 89).toInt.toNat) then v_19 else ar_4 88 i9 from (fun i9 => by rw [ear_20]; show (if i9 = Int32.toNatClampNeg (fv_2 89) then v_19 else ar_4 88 i9) = _; rfl)) j9, show ((fv_2 89).toInt.toNat) = ((fv 89).toInt.toNat) + (x_1.toInt.toNat) from by omega]) (show v_19 = ar 76 (x_1.toInt.toNat) from by rw [ev_19, show ar_4 76 = ar 76 from ((fA_call (fA_rf [88] _) fa_5 (by decide)) 76 rfl)]; exact congrArg (ar 76) (show x_1.toInt.toNat = (x_1.toInt.toNat) from by omega))) hP hS (lv_sub hl [1, 2, 3, 0] rfl)
  · skip
    have z_31 : (0 : Int32).toInt = 0 := by decide
    have z_32 : 0 ≤ (fv 89).toInt ∧ (fv 89).toInt ≤ 441 := hF_fv 89
    exact hj_11 21 0 fv ar _ _ ls (by first | decide | omega) (iv_w (⟨by decide, by decide⟩ : (0 : Int) ≤ (0 : Int32).toInt ∧ (0 : Int32).toInt ≤ 0) (by decide) (by decide)) hF_fv (fM_rf [89] _) hA_ar (fA_rf [88] _) (by rw [show (0 : Int32).toInt = 0 from by decide]; omega) (by omega) (by rw [show (0 : Int32).toInt.toNat = 0 from by decide]; exact mm_kp_0 _ _ _) hP hS (lv_sub hl [1, 2, 3, 0] rfl)
set_option maxHeartbeats 4000000 in
set_option maxRecDepth 100000 in
theorem m_putBackE_76 (l : Launch) (dC : Nat → ClassId) (dI : Nat → Nat → Nat) (sz h : Nat) (ad : Nat → Nat) (cA : Nat → ClassId) (hd : dM h ad) (fv : Nat → Int32) (wd : Int64) (ar : Nat → Nat → Int32) (hF_fv : rF fv) (hA_ar : rA ar) (nn : Int32) (h_nn : 0 ≤ nn.toInt ∧ nn.toInt ≤ 20) (hk : (fv 89).toInt + nn.toInt ≤ 441) : Met l yX12_putBack (.code yX12_putBack cX12_putBack 4 none :: lw_good) ({ frames := 2, cells := 0, slots := 0, locals := 40 }) (va_Pc [.ref h, .ref (ad 76), .int nn] (prM dC dI h ad cA fv wd ar sz)) (va_Qv (fun (u : mS) => rF u.1 ∧ rA u.2.2 ∧ fM [89] fv u.1 ∧ fA [76] ar u.2.2 ∧ ((u.1 89).toInt = (fv 89).toInt + nn.toInt) ∧ (mm_pb (ar 76) (ar 88) (u.2.2 76) ((fv 89).toInt.toNat) (nn.toInt.toNat)) ∧ True) (enM dC dI h ad cA) (aM h ad sz)) 0 0 (aM h ad sz) := by
  refine Met.ofW (cc := cX12_putBack) (maxL := 4) (ret := none) (by decide) rfl ?_
  intro p e s m args below meth c s₁ B hml hv
  obtain ⟨rfl, hsz, hP, hK⟩ := hv
  have hx := B.exec
  have hb := B.bytes
  have hr := B.returns
  have hts := atoms_spec (ws := (.code yX12_putBack cX12_putBack 4 none :: lw_good)) B.pre
  have htg : ∀ w ∈ lw_good, w.before _ s = true := fun w hw => hts w (List.mem_cons_of_mem _ hw)
  have hown : s.vm.findClass RX12 = some m.cls := findClass_of_methodNamed B.named
  have hlocks := B.notSynchronized
  subst hsz
  have hS : va_S (aM h ad s.heap.size) s.heap s.heap [] := va_S.rf
  have hl := lv_entry ([.ref h, .ref (ad 76), .int nn]) (n := 4) (Nat.le_of_ble_eq_true rfl)
  rw [lg_entry_eq]
  generalize (lg_sl ([.ref h, .ref (ad 76), .int nn]) ++ List.replicate (4 - (lg_sl ([.ref h, .ref (ad 76), .int nn])).length) Slot.unset).toArray = ls at hl ⊢
  have hl : lv_has ls 4 [(0, .ref h), (1, .ref (ad 76)), (2, .int nn)] := hl
  refine lv_iconst (v := 0) hx hb dX12_putBack_0 (by decide) ?_
  refine lv_istore_n (lv' := [(3, .int 0), (0, .ref h), (1, .ref (ad 76)), (2, .int nn)]) hx hb dX12_putBack_1 rfl hl (by decide) rfl (fun ls hl => ?_)
  refine my_cut (P := fun R9 a9 Q9 => ∀ (n_9 : Nat) (x_1 : Int32) (fv_2 : Nat → Int32) (ar_4 : Nat → Nat → Int32) (H : Heap) (locs : List Loc) (ls : Array Slot), 20 - x_1.toInt < (n_9 : Int) → (0 ≤ x_1.toInt ∧ x_1.toInt ≤ 20) → rF fv_2 → fM [89] fv fv_2 → rA ar_4 → fA [76] ar ar_4 → ((fv_2 89).toInt = (fv 89).toInt + x_1.toInt) → (x_1.toInt ≤ nn.toInt) → (mm_pb (ar 76) (ar 88) (ar_4 76) ((fv 89).toInt.toNat) (x_1.toInt.toNat)) → va_P (dC, dI) vwCl (wsM h ad cA fv_2 wd ar_4) H → va_S (aM h ad s.heap.size) s.heap H locs → lv_has ls 4 [(0, .ref h), (1, .ref (ad 76)), (2, .int nn), (3, .int x_1)] → W p l e R9 s m a9 below meth c H locs 0 0 Q9 (F0 m 2 ls [])) ?_ (fun hj_11 => ?_)
  · intro n_9
    induction n_9 with
    | zero => intro x_1 fv_2 ar_4 H locs ls fu_10 i_x_1 hF_fv_2 fr_3 hA_ar_4 fa_5 q_6 q_7 q_8; exfalso; omega
    | succ n_9 ih_9 =>
      intro x_1 fv_2 ar_4 H locs ls fu_10 i_x_1 hF_fv_2 fr_3 hA_ar_4 fa_5 q_6 q_7 q_8 hP hS hl
      refine lv_iload_n hx hb dX12_putBack_2 rfl (lv_at hl 3 rfl) ?_
      refine lv_iload_n hx hb dX12_putBack_3 rfl (lv_at hl 2 rfl) ?_
      refine lv_icmp_ge (tgt := 35) hx hb dX12_putBack_4 (by decide) (fun c_12 => ?_) (fun c_12 => ?_)
      · skip
        have k_13 := Int32.le_iff_toInt_le.mp c_12
        have z_14 : 0 ≤ (fv_2 89).toInt ∧ (fv_2 89).toInt ≤ 441 := hF_fv_2 89
        exact W.vret hx hb hr (fun t ht hW => ⟨⟨(fv_2, wd, ar_4), rfl, ⟨hF_fv_2, hA_ar_4, (fM_call (fM_rf [89] _) fr_3 (by decide)), (fA_call (fA_rf [76] _) fa_5 (by decide)), (show (fv_2 89).toInt = (fv 89).toInt + nn.toInt from by omega), (show mm_pb (ar 76) (ar 88) (ar_4 76) ((fv 89).toInt.toNat) (nn.toInt.toNat) from by have h9 := q_8; rw [show (x_1.toInt.toNat) = (nn.toInt.toNat) from by omega] at h9; exact h9), trivial⟩, ⟨by rw [ht]; exact hP, va_K.moved hW.alike hK⟩⟩, hS.F ht⟩) hS.2.2 dX12_putBack_35
      · skip
        have i_15 : 0 ≤ x_1.toInt ∧ x_1.toInt ≤ 19 := iv_lt1 i_x_1 h_nn (Int32.not_le.mp c_12)
        have i_16 : 1 ≤ nn.toInt ∧ nn.toInt ≤ 20 := iv_lt2 i_x_1 h_nn (Int32.not_le.mp c_12)
        have k_17 := Int32.lt_iff_toInt_lt.mp (Int32.not_le.mp c_12)
        refine lv_aload_n hx hb dX12_putBack_7 rfl (lv_at hl 1 rfl) ?_
        refine lv_iload_n hx hb dX12_putBack_8 rfl (lv_at hl 3 rfl) ?_
        refine lv_aload_n hx hb dX12_putBack_9 rfl (lv_at hl 0 rfl) ?_
        refine gM_88 hx hb htg hown hK hP dX12_putBack_10 ?_
        refine lv_aload_n hx hb dX12_putBack_13 rfl (lv_at hl 0 rfl) ?_
        refine gM_89 hx hb htg hown hK hP dX12_putBack_14 ?_
        have i_18 : 0 ≤ (fv_2 89).toInt ∧ (fv_2 89).toInt ≤ 441 := hF_fv_2 89
        refine lM_88 hx hb hK hP (vp_in_iff.mpr (by omega)) dX12_putBack_17 (fun v_19 ev_19 => ?_)
        refine sM_76 hx hb hK hP hS hd (iv_in i_15 (by decide) (by decide)) dX12_putBack_18 (fun H locs ar_20 ear_20 hP hS => ?_)
        have hA_ar_20 : rA ar_20 := rA_put hA_ar_4 ear_20 (iv_any _)
        refine lv_aload_n hx hb dX12_putBack_19 rfl (lv_at hl 0 rfl) ?_
        refine lv_dup hx hb dX12_putBack_20 rfl ?_
        refine gM_89 hx hb htg hown hK hP dX12_putBack_21 ?_
        refine lv_iconst (v := 1) hx hb dX12_putBack_24 (by decide) ?_
        refine lv_iadd hx hb dX12_putBack_25 ?_
        refine lv_topi (fun v_21 ev_21 => ?_)
        have t_22 : v_21.toInt = (fv_2 89).toInt + 1 ∧ 1 ≤ v_21.toInt ∧ v_21.toInt ≤ 442 := iv_addc ev_21 i_18 (by decide) (by decide) (by decide)
        have i_24 : 0 ≤ v_21.toInt ∧ v_21.toInt ≤ 441 := (by omega)
        refine pM_89 hx hb htg hown hK hP hS hd dX12_putBack_26 (fun H locs fv_25 efv_25 hP hS => ?_)
        have hF_fv_25 : rF fv_25 := rF_put hF_fv_2 efv_25 i_24
        obtain ⟨v_26, ev_26⟩ : ∃ z : Int32, z = x_1 + 1 := ⟨_, rfl⟩
        refine lv_iinc (v := v_26) (lv' := [(3, .int v_26), (0, .ref h), (1, .ref (ad 76)), (2, .int nn)]) hx hb dX12_putBack_29 hl (k := 3) rfl (by rw [ev_26]; rfl) (by decide) rfl (fun ls hl => ?_)
        have t_27 : v_26.toInt = x_1.toInt + 1 ∧ 1 ≤ v_26.toInt ∧ v_26.toInt ≤ 20 := iv_addc ev_26 i_15 (by decide) (by decide) (by decide)
        refine lv_goto (tgt := 2) hx hb dX12_putBack_32 (by decide) ?_
        have z_29 : (fv_25 89).toInt = v_21.toInt := congrArg Int32.toInt ((congrFun efv_25 89))
        have z_30 : 0 ≤ (fv_25 89).toInt ∧ (fv_25 89).toInt ≤ 441 := hF_fv_25 89
        exact ih_9 v_26 fv_25 ar_20 _ _ ls (by omega) (iv_w t_27.2 (by decide) (by decide)) hF_fv_25 (fM_put (fM_call (fM_rf [89] _) fr_3 (by decide)) efv_25 (by decide)) hA_ar_20 (fA_put (fA_call (fA_rf [76] _) fa_5 (by decide)) ear_20 (by decide)) (by rw [show fv_25 89 = v_21 from (congrFun efv_25 89)]; omega) (by omega) (by have hq0 := q_6; have h89 := (show (0 : Int) ≤ (fv 89).toInt ∧ (fv 89).toInt ≤ 441 from hF_fv 89); rw [show v_26.toInt.toNat = (x_1.toInt.toNat) + 1 from by omega]; exact mm_pb_s q_8 (fun j9 => by rw [(show ∀ i9, ar_20 76 i9 = if i9 = (x_1.toInt.toNat) then v_19 else ar_4 76 i9 from (fun i9 => by rw [ear_20]; show (if i9 = Int32.toNatClampNeg x_1 then v_19 else ar_4 76 i9) = _; rfl)) j9, show (x_1.toInt.toNat) = (x_1.toInt.toNat) from by omega]) (show v_19 = ar 88 (((fv 89).toInt.toNat) + (x_1.toInt.toNat)) from by rw [ev_19, show ar_4 88 = ar 88 from ((fA_call (fA_rf [76] _) fa_5 (by decide)) 88 rfl)]; exact congrArg (ar 88) (show (fv_2 89).toInt.toNat = (((fv 89).toInt.toNat) + (x_1.toInt.toNat)) from by omega))) hP hS (lv_sub hl [1, 2, 3, 0] rfl)
  · skip
    have z_31 : (0 : Int32).toInt = 0 := by decide
    have z_32 : 0 ≤ (fv 89).toInt ∧ (fv 89).toInt ≤ 441 := hF_fv 89
    exact hj_11 21 0 fv ar _ _ ls (by first | decide | omega) (iv_w (⟨by decide, by decide⟩ : (0 : Int) ≤ (0 : Int32).toInt ∧ (0 : Int32).toInt ≤ 0) (by decide) (by decide)) hF_fv (fM_rf [89] _) hA_ar (fA_rf [76] _) (by rw [show (0 : Int32).toInt = 0 from by decide]; omega) (by omega) (by rw [show (0 : Int32).toInt.toNat = 0 from by decide]; exact mm_pb_0 _ _ _) hP hS (lv_sub hl [1, 2, 3, 0] rfl)
set_option maxHeartbeats 4000000 in
set_option maxRecDepth 100000 in
theorem m_keepE_78 (l : Launch) (dC : Nat → ClassId) (dI : Nat → Nat → Nat) (sz h : Nat) (ad : Nat → Nat) (cA : Nat → ClassId) (hd : dM h ad) (fv : Nat → Int32) (wd : Int64) (ar : Nat → Nat → Int32) (hF_fv : rF fv) (hA_ar : rA ar) (nn : Int32) (h_nn : 0 ≤ nn.toInt ∧ nn.toInt ≤ 20) (hk : (fv 89).toInt + nn.toInt ≤ 441) : Met l yX12_keep (.code yX12_keep cX12_keep 4 none :: lw_good) ({ frames := 2, cells := 0, slots := 0, locals := 40 }) (va_Pc [.ref h, .ref (ad 78), .int nn] (prM dC dI h ad cA fv wd ar sz)) (va_Qv (fun (u : mS) => rF u.1 ∧ rA u.2.2 ∧ fM [89] fv u.1 ∧ fA [88] ar u.2.2 ∧ ((u.1 89).toInt = (fv 89).toInt + nn.toInt) ∧ (mm_kp (ar 88) (ar 78) (u.2.2 88) ((fv 89).toInt.toNat) (nn.toInt.toNat)) ∧ True) (enM dC dI h ad cA) (aM h ad sz)) 0 0 (aM h ad sz) := by
  refine Met.ofW (cc := cX12_keep) (maxL := 4) (ret := none) (by decide) rfl ?_
  intro p e s m args below meth c s₁ B hml hv
  obtain ⟨rfl, hsz, hP, hK⟩ := hv
  have hx := B.exec
  have hb := B.bytes
  have hr := B.returns
  have hts := atoms_spec (ws := (.code yX12_keep cX12_keep 4 none :: lw_good)) B.pre
  have htg : ∀ w ∈ lw_good, w.before _ s = true := fun w hw => hts w (List.mem_cons_of_mem _ hw)
  have hown : s.vm.findClass RX12 = some m.cls := findClass_of_methodNamed B.named
  have hlocks := B.notSynchronized
  subst hsz
  have hS : va_S (aM h ad s.heap.size) s.heap s.heap [] := va_S.rf
  have hl := lv_entry ([.ref h, .ref (ad 78), .int nn]) (n := 4) (Nat.le_of_ble_eq_true rfl)
  rw [lg_entry_eq]
  generalize (lg_sl ([.ref h, .ref (ad 78), .int nn]) ++ List.replicate (4 - (lg_sl ([.ref h, .ref (ad 78), .int nn])).length) Slot.unset).toArray = ls at hl ⊢
  have hl : lv_has ls 4 [(0, .ref h), (1, .ref (ad 78)), (2, .int nn)] := hl
  refine lv_iconst (v := 0) hx hb dX12_keep_0 (by decide) ?_
  refine lv_istore_n (lv' := [(3, .int 0), (0, .ref h), (1, .ref (ad 78)), (2, .int nn)]) hx hb dX12_keep_1 rfl hl (by decide) rfl (fun ls hl => ?_)
  refine my_cut (P := fun R9 a9 Q9 => ∀ (n_9 : Nat) (x_1 : Int32) (fv_2 : Nat → Int32) (ar_4 : Nat → Nat → Int32) (H : Heap) (locs : List Loc) (ls : Array Slot), 20 - x_1.toInt < (n_9 : Int) → (0 ≤ x_1.toInt ∧ x_1.toInt ≤ 20) → rF fv_2 → fM [89] fv fv_2 → rA ar_4 → fA [88] ar ar_4 → ((fv_2 89).toInt = (fv 89).toInt + x_1.toInt) → (x_1.toInt ≤ nn.toInt) → (mm_kp (ar 88) (ar 78) (ar_4 88) ((fv 89).toInt.toNat) (x_1.toInt.toNat)) → va_P (dC, dI) vwCl (wsM h ad cA fv_2 wd ar_4) H → va_S (aM h ad s.heap.size) s.heap H locs → lv_has ls 4 [(0, .ref h), (1, .ref (ad 78)), (2, .int nn), (3, .int x_1)] → W p l e R9 s m a9 below meth c H locs 0 0 Q9 (F0 m 2 ls [])) ?_ (fun hj_11 => ?_)
  · intro n_9
    induction n_9 with
    | zero => intro x_1 fv_2 ar_4 H locs ls fu_10 i_x_1 hF_fv_2 fr_3 hA_ar_4 fa_5 q_6 q_7 q_8; exfalso; omega
    | succ n_9 ih_9 =>
      intro x_1 fv_2 ar_4 H locs ls fu_10 i_x_1 hF_fv_2 fr_3 hA_ar_4 fa_5 q_6 q_7 q_8 hP hS hl
      refine lv_iload_n hx hb dX12_keep_2 rfl (lv_at hl 3 rfl) ?_
      refine lv_iload_n hx hb dX12_keep_3 rfl (lv_at hl 2 rfl) ?_
      refine lv_icmp_ge (tgt := 35) hx hb dX12_keep_4 (by decide) (fun c_12 => ?_) (fun c_12 => ?_)
      · skip
        have k_13 := Int32.le_iff_toInt_le.mp c_12
        have z_14 : 0 ≤ (fv_2 89).toInt ∧ (fv_2 89).toInt ≤ 441 := hF_fv_2 89
        exact W.vret hx hb hr (fun t ht hW => ⟨⟨(fv_2, wd, ar_4), rfl, ⟨hF_fv_2, hA_ar_4, (fM_call (fM_rf [89] _) fr_3 (by decide)), (fA_call (fA_rf [88] _) fa_5 (by decide)), (show (fv_2 89).toInt = (fv 89).toInt + nn.toInt from by omega), (show mm_kp (ar 88) (ar 78) (ar_4 88) ((fv 89).toInt.toNat) (nn.toInt.toNat) from by have h9 := q_8; rw [show (x_1.toInt.toNat) = (nn.toInt.toNat) from by omega] at h9; exact h9), trivial⟩, ⟨by rw [ht]; exact hP, va_K.moved hW.alike hK⟩⟩, hS.F ht⟩) hS.2.2 dX12_keep_35
      · skip
        have i_15 : 0 ≤ x_1.toInt ∧ x_1.toInt ≤ 19 := iv_lt1 i_x_1 h_nn (Int32.not_le.mp c_12)
        have i_16 : 1 ≤ nn.toInt ∧ nn.toInt ≤ 20 := iv_lt2 i_x_1 h_nn (Int32.not_le.mp c_12)
        have k_17 := Int32.lt_iff_toInt_lt.mp (Int32.not_le.mp c_12)
        refine lv_aload_n hx hb dX12_keep_7 rfl (lv_at hl 0 rfl) ?_
        refine gM_88 hx hb htg hown hK hP dX12_keep_8 ?_
        refine lv_aload_n hx hb dX12_keep_11 rfl (lv_at hl 0 rfl) ?_
        refine gM_89 hx hb htg hown hK hP dX12_keep_12 ?_
        have i_18 : 0 ≤ (fv_2 89).toInt ∧ (fv_2 89).toInt ≤ 441 := hF_fv_2 89
        refine lv_aload_n hx hb dX12_keep_15 rfl (lv_at hl 1 rfl) ?_
        refine lv_iload_n hx hb dX12_keep_16 rfl (lv_at hl 3 rfl) ?_
        refine lM_78 hx hb hK hP (iv_in i_15 (by decide) (by decide)) dX12_keep_17 (fun v_19 ev_19 => ?_)
        refine sM_88 hx hb hK hP hS hd (vp_in_iff.mpr (by omega)) dX12_keep_18 (fun H locs ar_20 ear_20 hP hS => ?_)
        have hA_ar_20 : rA ar_20 := rA_put hA_ar_4 ear_20 (iv_any _)
        refine lv_aload_n hx hb dX12_keep_19 rfl (lv_at hl 0 rfl) ?_
        refine lv_dup hx hb dX12_keep_20 rfl ?_
        refine gM_89 hx hb htg hown hK hP dX12_keep_21 ?_
        refine lv_iconst (v := 1) hx hb dX12_keep_24 (by decide) ?_
        refine lv_iadd hx hb dX12_keep_25 ?_
        refine lv_topi (fun v_21 ev_21 => ?_)
        have t_22 : v_21.toInt = (fv_2 89).toInt + 1 ∧ 1 ≤ v_21.toInt ∧ v_21.toInt ≤ 442 := iv_addc ev_21 i_18 (by decide) (by decide) (by decide)
        have i_24 : 0 ≤ v_21.toInt ∧ v_21.toInt ≤ 441 := (by omega)
        refine pM_89 hx hb htg hown hK hP hS hd dX12_keep_26 (fun H locs fv_25 efv_25 hP hS => ?_)
        have hF_fv_25 : rF fv_25 := rF_put hF_fv_2 efv_25 i_24
        obtain ⟨v_26, ev_26⟩ : ∃ z : Int32, z = x_1 + 1 := ⟨_, rfl⟩
        refine lv_iinc (v := v_26) (lv' := [(3, .int v_26), (0, .ref h), (1, .ref (ad 78)), (2, .int nn)]) hx hb dX12_keep_29 hl (k := 3) rfl (by rw [ev_26]; rfl) (by decide) rfl (fun ls hl => ?_)
        have t_27 : v_26.toInt = x_1.toInt + 1 ∧ 1 ≤ v_26.toInt ∧ v_26.toInt ≤ 20 := iv_addc ev_26 i_15 (by decide) (by decide) (by decide)
        refine lv_goto (tgt := 2) hx hb dX12_keep_32 (by decide) ?_
        have z_29 : (fv_25 89).toInt = v_21.toInt := congrArg Int32.toInt ((congrFun efv_25 89))
        have z_30 : 0 ≤ (fv_25 89).toInt ∧ (fv_25 89).toInt ≤ 441 := hF_fv_25 89
        exact ih_9 v_26 fv_25 ar_20 _ _ ls (by omega) (iv_w t_27.2 (by decide) (by decide)) hF_fv_25 (fM_put (fM_call (fM_rf [89] _) fr_3 (by decide)) efv_25 (by decide)) hA_ar_20 (fA_put (fA_call (fA_rf [88] _) fa_5 (by decide)) ear_20 (by decide)) (by rw [show fv_25 89 = v_21 from (congrFun efv_25 89)]; omega) (by omega) (by have hq0 := q_6; have h89 := (show (0 : Int) ≤ (fv 89).toInt ∧ (fv 89).toInt ≤ 441 from hF_fv 89); rw [show v_26.toInt.toNat = (x_1.toInt.toNat) + 1 from by omega]; exact mm_kp_s q_8 (fun j9 => by rw [(show ∀ i9, ar_20 88 i9 = if i9 = ((fv_2 89).toInt.toNat) then v_19 else ar_4 88 i9 from (fun i9 => by rw [ear_20]; show (if i9 = Int32.toNatClampNeg (fv_2 89) then v_19 else ar_4 88 i9) = _; rfl)) j9, show ((fv_2 89).toInt.toNat) = ((fv 89).toInt.toNat) + (x_1.toInt.toNat) from by omega]) (show v_19 = ar 78 (x_1.toInt.toNat) from by rw [ev_19, show ar_4 78 = ar 78 from ((fA_call (fA_rf [88] _) fa_5 (by decide)) 78 rfl)]; exact congrArg (ar 78) (show x_1.toInt.toNat = (x_1.toInt.toNat) from by omega))) hP hS (lv_sub hl [1, 2, 3, 0] rfl)
  · skip
    have z_31 : (0 : Int32).toInt = 0 := by decide
    have z_32 : 0 ≤ (fv 89).toInt ∧ (fv 89).toInt ≤ 441 := hF_fv 89
    exact hj_11 21 0 fv ar _ _ ls (by first | decide | omega) (iv_w (⟨by decide, by decide⟩ : (0 : Int) ≤ (0 : Int32).toInt ∧ (0 : Int32).toInt ≤ 0) (by decide) (by decide)) hF_fv (fM_rf [89] _) hA_ar (fA_rf [88] _) (by rw [show (0 : Int32).toInt = 0 from by decide]; omega) (by omega) (by rw [show (0 : Int32).toInt.toNat = 0 from by decide]; exact mm_kp_0 _ _ _) hP hS (lv_sub hl [1, 2, 3, 0] rfl)
set_option maxHeartbeats 4000000 in
set_option maxRecDepth 100000 in
theorem m_putBackE_78 (l : Launch) (dC : Nat → ClassId) (dI : Nat → Nat → Nat) (sz h : Nat) (ad : Nat → Nat) (cA : Nat → ClassId) (hd : dM h ad) (fv : Nat → Int32) (wd : Int64) (ar : Nat → Nat → Int32) (hF_fv : rF fv) (hA_ar : rA ar) (nn : Int32) (h_nn : 0 ≤ nn.toInt ∧ nn.toInt ≤ 20) (hk : (fv 89).toInt + nn.toInt ≤ 441) : Met l yX12_putBack (.code yX12_putBack cX12_putBack 4 none :: lw_good) ({ frames := 2, cells := 0, slots := 0, locals := 40 }) (va_Pc [.ref h, .ref (ad 78), .int nn] (prM dC dI h ad cA fv wd ar sz)) (va_Qv (fun (u : mS) => rF u.1 ∧ rA u.2.2 ∧ fM [89] fv u.1 ∧ fA [78] ar u.2.2 ∧ ((u.1 89).toInt = (fv 89).toInt + nn.toInt) ∧ (mm_pb (ar 78) (ar 88) (u.2.2 78) ((fv 89).toInt.toNat) (nn.toInt.toNat)) ∧ True) (enM dC dI h ad cA) (aM h ad sz)) 0 0 (aM h ad sz) := by
  refine Met.ofW (cc := cX12_putBack) (maxL := 4) (ret := none) (by decide) rfl ?_
  intro p e s m args below meth c s₁ B hml hv
  obtain ⟨rfl, hsz, hP, hK⟩ := hv
  have hx := B.exec
  have hb := B.bytes
  have hr := B.returns
  have hts := atoms_spec (ws := (.code yX12_putBack cX12_putBack 4 none :: lw_good)) B.pre
  have htg : ∀ w ∈ lw_good, w.before _ s = true := fun w hw => hts w (List.mem_cons_of_mem _ hw)
  have hown : s.vm.findClass RX12 = some m.cls := findClass_of_methodNamed B.named
  have hlocks := B.notSynchronized
  subst hsz
  have hS : va_S (aM h ad s.heap.size) s.heap s.heap [] := va_S.rf
  have hl := lv_entry ([.ref h, .ref (ad 78), .int nn]) (n := 4) (Nat.le_of_ble_eq_true rfl)
  rw [lg_entry_eq]
  generalize (lg_sl ([.ref h, .ref (ad 78), .int nn]) ++ List.replicate (4 - (lg_sl ([.ref h, .ref (ad 78), .int nn])).length) Slot.unset).toArray = ls at hl ⊢
  have hl : lv_has ls 4 [(0, .ref h), (1, .ref (ad 78)), (2, .int nn)] := hl
  refine lv_iconst (v := 0) hx hb dX12_putBack_0 (by decide) ?_
  refine lv_istore_n (lv' := [(3, .int 0), (0, .ref h), (1, .ref (ad 78)), (2, .int nn)]) hx hb dX12_putBack_1 rfl hl (by decide) rfl (fun ls hl => ?_)
  refine my_cut (P := fun R9 a9 Q9 => ∀ (n_9 : Nat) (x_1 : Int32) (fv_2 : Nat → Int32) (ar_4 : Nat → Nat → Int32) (H : Heap) (locs : List Loc) (ls : Array Slot), 20 - x_1.toInt < (n_9 : Int) → (0 ≤ x_1.toInt ∧ x_1.toInt ≤ 20) → rF fv_2 → fM [89] fv fv_2 → rA ar_4 → fA [78] ar ar_4 → ((fv_2 89).toInt = (fv 89).toInt + x_1.toInt) → (x_1.toInt ≤ nn.toInt) → (mm_pb (ar 78) (ar 88) (ar_4 78) ((fv 89).toInt.toNat) (x_1.toInt.toNat)) → va_P (dC, dI) vwCl (wsM h ad cA fv_2 wd ar_4) H → va_S (aM h ad s.heap.size) s.heap H locs → lv_has ls 4 [(0, .ref h), (1, .ref (ad 78)), (2, .int nn), (3, .int x_1)] → W p l e R9 s m a9 below meth c H locs 0 0 Q9 (F0 m 2 ls [])) ?_ (fun hj_11 => ?_)
  · intro n_9
    induction n_9 with
    | zero => intro x_1 fv_2 ar_4 H locs ls fu_10 i_x_1 hF_fv_2 fr_3 hA_ar_4 fa_5 q_6 q_7 q_8; exfalso; omega
    | succ n_9 ih_9 =>
      intro x_1 fv_2 ar_4 H locs ls fu_10 i_x_1 hF_fv_2 fr_3 hA_ar_4 fa_5 q_6 q_7 q_8 hP hS hl
      refine lv_iload_n hx hb dX12_putBack_2 rfl (lv_at hl 3 rfl) ?_
      refine lv_iload_n hx hb dX12_putBack_3 rfl (lv_at hl 2 rfl) ?_
      refine lv_icmp_ge (tgt := 35) hx hb dX12_putBack_4 (by decide) (fun c_12 => ?_) (fun c_12 => ?_)
      · skip
        have k_13 := Int32.le_iff_toInt_le.mp c_12
        have z_14 : 0 ≤ (fv_2 89).toInt ∧ (fv_2 89).toInt ≤ 441 := hF_fv_2 89
        exact W.vret hx hb hr (fun t ht hW => ⟨⟨(fv_2, wd, ar_4), rfl, ⟨hF_fv_2, hA_ar_4, (fM_call (fM_rf [89] _) fr_3 (by decide)), (fA_call (fA_rf [78] _) fa_5 (by decide)), (show (fv_2 89).toInt = (fv 89).toInt + nn.toInt from by omega), (show mm_pb (ar 78) (ar 88) (ar_4 78) ((fv 89).toInt.toNat) (nn.toInt.toNat) from by have h9 := q_8; rw [show (x_1.toInt.toNat) = (nn.toInt.toNat) from by omega] at h9; exact h9), trivial⟩, ⟨by rw [ht]; exact hP, va_K.moved hW.alike hK⟩⟩, hS.F ht⟩) hS.2.2 dX12_putBack_35
      · skip
        have i_15 : 0 ≤ x_1.toInt ∧ x_1.toInt ≤ 19 := iv_lt1 i_x_1 h_nn (Int32.not_le.mp c_12)
        have i_16 : 1 ≤ nn.toInt ∧ nn.toInt ≤ 20 := iv_lt2 i_x_1 h_nn (Int32.not_le.mp c_12)
        have k_17 := Int32.lt_iff_toInt_lt.mp (Int32.not_le.mp c_12)
        refine lv_aload_n hx hb dX12_putBack_7 rfl (lv_at hl 1 rfl) ?_
        refine lv_iload_n hx hb dX12_putBack_8 rfl (lv_at hl 3 rfl) ?_
        refine lv_aload_n hx hb dX12_putBack_9 rfl (lv_at hl 0 rfl) ?_
        refine gM_88 hx hb htg hown hK hP dX12_putBack_10 ?_
        refine lv_aload_n hx hb dX12_putBack_13 rfl (lv_at hl 0 rfl) ?_
        refine gM_89 hx hb htg hown hK hP dX12_putBack_14 ?_
        have i_18 : 0 ≤ (fv_2 89).toInt ∧ (fv_2 89).toInt ≤ 441 := hF_fv_2 89
        refine lM_88 hx hb hK hP (vp_in_iff.mpr (by omega)) dX12_putBack_17 (fun v_19 ev_19 => ?_)
        refine sM_78 hx hb hK hP hS hd (iv_in i_15 (by decide) (by decide)) dX12_putBack_18 (fun H locs ar_20 ear_20 hP hS => ?_)
        have hA_ar_20 : rA ar_20 := rA_put hA_ar_4 ear_20 (iv_any _)
        refine lv_aload_n hx hb dX12_putBack_19 rfl (lv_at hl 0 rfl) ?_
        refine lv_dup hx hb dX12_putBack_20 rfl ?_
        refine gM_89 hx hb htg hown hK hP dX12_putBack_21 ?_
        refine lv_iconst (v := 1) hx hb dX12_putBack_24 (by decide) ?_
        refine lv_iadd hx hb dX12_putBack_25 ?_
        refine lv_topi (fun v_21 ev_21 => ?_)
        have t_22 : v_21.toInt = (fv_2 89).toInt + 1 ∧ 1 ≤ v_21.toInt ∧ v_21.toInt ≤ 442 := iv_addc ev_21 i_18 (by decide) (by decide) (by decide)
        have i_24 : 0 ≤ v_21.toInt ∧ v_21.toInt ≤ 441 := (by omega)
        refine pM_89 hx hb htg hown hK hP hS hd dX12_putBack_26 (fun H locs fv_25 efv_25 hP hS => ?_)
        have hF_fv_25 : rF fv_25 := rF_put hF_fv_2 efv_25 i_24
        obtain ⟨v_26, ev_26⟩ : ∃ z : Int32, z = x_1 + 1 := ⟨_, rfl⟩
        refine lv_iinc (v := v_26) (lv' := [(3, .int v_26), (0, .ref h), (1, .ref (ad 78)), (2, .int nn)]) hx hb dX12_putBack_29 hl (k := 3) rfl (by rw [ev_26]; rfl) (by decide) rfl (fun ls hl => ?_)
        have t_27 : v_26.toInt = x_1.toInt + 1 ∧ 1 ≤ v_26.toInt ∧ v_26.toInt ≤ 20 := iv_addc ev_26 i_15 (by decide) (by decide) (by decide)
        refine lv_goto (tgt := 2) hx hb dX12_putBack_32 (by decide) ?_
        have z_29 : (fv_25 89).toInt = v_21.toInt := congrArg Int32.toInt ((congrFun efv_25 89))
        have z_30 : 0 ≤ (fv_25 89).toInt ∧ (fv_25 89).toInt ≤ 441 := hF_fv_25 89
        exact ih_9 v_26 fv_25 ar_20 _ _ ls (by omega) (iv_w t_27.2 (by decide) (by decide)) hF_fv_25 (fM_put (fM_call (fM_rf [89] _) fr_3 (by decide)) efv_25 (by decide)) hA_ar_20 (fA_put (fA_call (fA_rf [78] _) fa_5 (by decide)) ear_20 (by decide)) (by rw [show fv_25 89 = v_21 from (congrFun efv_25 89)]; omega) (by omega) (by have hq0 := q_6; have h89 := (show (0 : Int) ≤ (fv 89).toInt ∧ (fv 89).toInt ≤ 441 from hF_fv 89); rw [show v_26.toInt.toNat = (x_1.toInt.toNat) + 1 from by omega]; exact mm_pb_s q_8 (fun j9 => by rw [(show ∀ i9, ar_20 78 i9 = if i9 = (x_1.toInt.toNat) then v_19 else ar_4 78 i9 from (fun i9 => by rw [ear_20]; show (if i9 = Int32.toNatClampNeg x_1 then v_19 else ar_4 78 i9) = _; rfl)) j9, show (x_1.toInt.toNat) = (x_1.toInt.toNat) from by omega]) (show v_19 = ar 88 (((fv 89).toInt.toNat) + (x_1.toInt.toNat)) from by rw [ev_19, show ar_4 88 = ar 88 from ((fA_call (fA_rf [78] _) fa_5 (by decide)) 88 rfl)]; exact congrArg (ar 88) (show (fv_2 89).toInt.toNat = (((fv 89).toInt.toNat) + (x_1.toInt.toNat)) from by omega))) hP hS (lv_sub hl [1, 2, 3, 0] rfl)
  · skip
    have z_31 : (0 : Int32).toInt = 0 := by decide
    have z_32 : 0 ≤ (fv 89).toInt ∧ (fv 89).toInt ≤ 441 := hF_fv 89
    exact hj_11 21 0 fv ar _ _ ls (by first | decide | omega) (iv_w (⟨by decide, by decide⟩ : (0 : Int) ≤ (0 : Int32).toInt ∧ (0 : Int32).toInt ≤ 0) (by decide) (by decide)) hF_fv (fM_rf [89] _) hA_ar (fA_rf [78] _) (by rw [show (0 : Int32).toInt = 0 from by decide]; omega) (by omega) (by rw [show (0 : Int32).toInt.toNat = 0 from by decide]; exact mm_pb_0 _ _ _) hP hS (lv_sub hl [1, 2, 3, 0] rfl)
set_option maxHeartbeats 4000000 in
set_option maxRecDepth 100000 in
theorem m_keepE_79 (l : Launch) (dC : Nat → ClassId) (dI : Nat → Nat → Nat) (sz h : Nat) (ad : Nat → Nat) (cA : Nat → ClassId) (hd : dM h ad) (fv : Nat → Int32) (wd : Int64) (ar : Nat → Nat → Int32) (hF_fv : rF fv) (hA_ar : rA ar) (nn : Int32) (h_nn : 0 ≤ nn.toInt ∧ nn.toInt ≤ 20) (hk : (fv 89).toInt + nn.toInt ≤ 441) : Met l yX12_keep (.code yX12_keep cX12_keep 4 none :: lw_good) ({ frames := 2, cells := 0, slots := 0, locals := 40 }) (va_Pc [.ref h, .ref (ad 79), .int nn] (prM dC dI h ad cA fv wd ar sz)) (va_Qv (fun (u : mS) => rF u.1 ∧ rA u.2.2 ∧ fM [89] fv u.1 ∧ fA [88] ar u.2.2 ∧ ((u.1 89).toInt = (fv 89).toInt + nn.toInt) ∧ (mm_kp (ar 88) (ar 79) (u.2.2 88) ((fv 89).toInt.toNat) (nn.toInt.toNat)) ∧ True) (enM dC dI h ad cA) (aM h ad sz)) 0 0 (aM h ad sz) := by
  refine Met.ofW (cc := cX12_keep) (maxL := 4) (ret := none) (by decide) rfl ?_
  intro p e s m args below meth c s₁ B hml hv
  obtain ⟨rfl, hsz, hP, hK⟩ := hv
  have hx := B.exec
  have hb := B.bytes
  have hr := B.returns
  have hts := atoms_spec (ws := (.code yX12_keep cX12_keep 4 none :: lw_good)) B.pre
  have htg : ∀ w ∈ lw_good, w.before _ s = true := fun w hw => hts w (List.mem_cons_of_mem _ hw)
  have hown : s.vm.findClass RX12 = some m.cls := findClass_of_methodNamed B.named
  have hlocks := B.notSynchronized
  subst hsz
  have hS : va_S (aM h ad s.heap.size) s.heap s.heap [] := va_S.rf
  have hl := lv_entry ([.ref h, .ref (ad 79), .int nn]) (n := 4) (Nat.le_of_ble_eq_true rfl)
  rw [lg_entry_eq]
  generalize (lg_sl ([.ref h, .ref (ad 79), .int nn]) ++ List.replicate (4 - (lg_sl ([.ref h, .ref (ad 79), .int nn])).length) Slot.unset).toArray = ls at hl ⊢
  have hl : lv_has ls 4 [(0, .ref h), (1, .ref (ad 79)), (2, .int nn)] := hl
  refine lv_iconst (v := 0) hx hb dX12_keep_0 (by decide) ?_
  refine lv_istore_n (lv' := [(3, .int 0), (0, .ref h), (1, .ref (ad 79)), (2, .int nn)]) hx hb dX12_keep_1 rfl hl (by decide) rfl (fun ls hl => ?_)
  refine my_cut (P := fun R9 a9 Q9 => ∀ (n_9 : Nat) (x_1 : Int32) (fv_2 : Nat → Int32) (ar_4 : Nat → Nat → Int32) (H : Heap) (locs : List Loc) (ls : Array Slot), 20 - x_1.toInt < (n_9 : Int) → (0 ≤ x_1.toInt ∧ x_1.toInt ≤ 20) → rF fv_2 → fM [89] fv fv_2 → rA ar_4 → fA [88] ar ar_4 → ((fv_2 89).toInt = (fv 89).toInt + x_1.toInt) → (x_1.toInt ≤ nn.toInt) → (mm_kp (ar 88) (ar 79) (ar_4 88) ((fv 89).toInt.toNat) (x_1.toInt.toNat)) → va_P (dC, dI) vwCl (wsM h ad cA fv_2 wd ar_4) H → va_S (aM h ad s.heap.size) s.heap H locs → lv_has ls 4 [(0, .ref h), (1, .ref (ad 79)), (2, .int nn), (3, .int x_1)] → W p l e R9 s m a9 below meth c H locs 0 0 Q9 (F0 m 2 ls [])) ?_ (fun hj_11 => ?_)
  · intro n_9
    induction n_9 with
    | zero => intro x_1 fv_2 ar_4 H locs ls fu_10 i_x_1 hF_fv_2 fr_3 hA_ar_4 fa_5 q_6 q_7 q_8; exfalso; omega
    | succ n_9 ih_9 =>
      intro x_1 fv_2 ar_4 H locs ls fu_10 i_x_1 hF_fv_2 fr_3 hA_ar_4 fa_5 q_6 q_7 q_8 hP hS hl
      refine lv_iload_n hx hb dX12_keep_2 rfl (lv_at hl 3 rfl) ?_
      refine lv_iload_n hx hb dX12_keep_3 rfl (lv_at hl 2 rfl) ?_
      refine lv_icmp_ge (tgt := 35) hx hb dX12_keep_4 (by decide) (fun c_12 => ?_) (fun c_12 => ?_)
      · skip
        have k_13 := Int32.le_iff_toInt_le.mp c_12
        have z_14 : 0 ≤ (fv_2 89).toInt ∧ (fv_2 89).toInt ≤ 441 := hF_fv_2 89
        exact W.vret hx hb hr (fun t ht hW => ⟨⟨(fv_2, wd, ar_4), rfl, ⟨hF_fv_2, hA_ar_4, (fM_call (fM_rf [89] _) fr_3 (by decide)), (fA_call (fA_rf [88] _) fa_5 (by decide)), (show (fv_2 89).toInt = (fv 89).toInt + nn.toInt from by omega), (show mm_kp (ar 88) (ar 79) (ar_4 88) ((fv 89).toInt.toNat) (nn.toInt.toNat) from by have h9 := q_8; rw [show (x_1.toInt.toNat) = (nn.toInt.toNat) from by omega] at h9; exact h9), trivial⟩, ⟨by rw [ht]; exact hP, va_K.moved hW.alike hK⟩⟩, hS.F ht⟩) hS.2.2 dX12_keep_35
      · skip
        have i_15 : 0 ≤ x_1.toInt ∧ x_1.toInt ≤ 19 := iv_lt1 i_x_1 h_nn (Int32.not_le.mp c_12)
        have i_16 : 1 ≤ nn.toInt ∧ nn.toInt ≤ 20 := iv_lt2 i_x_1 h_nn (Int32.not_le.mp c_12)
        have k_17 := Int32.lt_iff_toInt_lt.mp (Int32.not_le.mp c_12)
        refine lv_aload_n hx hb dX12_keep_7 rfl (lv_at hl 0 rfl) ?_
        refine gM_88 hx hb htg hown hK hP dX12_keep_8 ?_
        refine lv_aload_n hx hb dX12_keep_11 rfl (lv_at hl 0 rfl) ?_
        refine gM_89 hx hb htg hown hK hP dX12_keep_12 ?_
        have i_18 : 0 ≤ (fv_2 89).toInt ∧ (fv_2 89).toInt ≤ 441 := hF_fv_2 89
        refine lv_aload_n hx hb dX12_keep_15 rfl (lv_at hl 1 rfl) ?_
        refine lv_iload_n hx hb dX12_keep_16 rfl (lv_at hl 3 rfl) ?_
        refine lM_79 hx hb hK hP (iv_in i_15 (by decide) (by decide)) dX12_keep_17 (fun v_19 ev_19 => ?_)
        refine sM_88 hx hb hK hP hS hd (vp_in_iff.mpr (by omega)) dX12_keep_18 (fun H locs ar_20 ear_20 hP hS => ?_)
        have hA_ar_20 : rA ar_20 := rA_put hA_ar_4 ear_20 (iv_any _)
        refine lv_aload_n hx hb dX12_keep_19 rfl (lv_at hl 0 rfl) ?_
        refine lv_dup hx hb dX12_keep_20 rfl ?_
        refine gM_89 hx hb htg hown hK hP dX12_keep_21 ?_
        refine lv_iconst (v := 1) hx hb dX12_keep_24 (by decide) ?_
        refine lv_iadd hx hb dX12_keep_25 ?_
        refine lv_topi (fun v_21 ev_21 => ?_)
        have t_22 : v_21.toInt = (fv_2 89).toInt + 1 ∧ 1 ≤ v_21.toInt ∧ v_21.toInt ≤ 442 := iv_addc ev_21 i_18 (by decide) (by decide) (by decide)
        have i_24 : 0 ≤ v_21.toInt ∧ v_21.toInt ≤ 441 := (by omega)
        refine pM_89 hx hb htg hown hK hP hS hd dX12_keep_26 (fun H locs fv_25 efv_25 hP hS => ?_)
        have hF_fv_25 : rF fv_25 := rF_put hF_fv_2 efv_25 i_24
        obtain ⟨v_26, ev_26⟩ : ∃ z : Int32, z = x_1 + 1 := ⟨_, rfl⟩
        refine lv_iinc (v := v_26) (lv' := [(3, .int v_26), (0, .ref h), (1, .ref (ad 79)), (2, .int nn)]) hx hb dX12_keep_29 hl (k := 3) rfl (by rw [ev_26]; rfl) (by decide) rfl (fun ls hl => ?_)
        have t_27 : v_26.toInt = x_1.toInt + 1 ∧ 1 ≤ v_26.toInt ∧ v_26.toInt ≤ 20 := iv_addc ev_26 i_15 (by decide) (by decide) (by decide)
        refine lv_goto (tgt := 2) hx hb dX12_keep_32 (by decide) ?_
        have z_29 : (fv_25 89).toInt = v_21.toInt := congrArg Int32.toInt ((congrFun efv_25 89))
        have z_30 : 0 ≤ (fv_25 89).toInt ∧ (fv_25 89).toInt ≤ 441 := hF_fv_25 89
        exact ih_9 v_26 fv_25 ar_20 _ _ ls (by omega) (iv_w t_27.2 (by decide) (by decide)) hF_fv_25 (fM_put (fM_call (fM_rf [89] _) fr_3 (by decide)) efv_25 (by decide)) hA_ar_20 (fA_put (fA_call (fA_rf [88] _) fa_5 (by decide)) ear_20 (by decide)) (by rw [show fv_25 89 = v_21 from (congrFun efv_25 89)]; omega) (by omega) (by have hq0 := q_6; have h89 := (show (0 : Int) ≤ (fv 89).toInt ∧ (fv 89).toInt ≤ 441 from hF_fv 89); rw [show v_26.toInt.toNat = (x_1.toInt.toNat) + 1 from by omega]; exact mm_kp_s q_8 (fun j9 => by rw [(show ∀ i9, ar_20 88 i9 = if i9 = ((fv_2 89).toInt.toNat) then v_19 else ar_4 88 i9 from (fun i9 => by rw [ear_20]; show (if i9 = Int32.toNatClampNeg (fv_2 89) then v_19 else ar_4 88 i9) = _; rfl)) j9, show ((fv_2 89).toInt.toNat) = ((fv 89).toInt.toNat) + (x_1.toInt.toNat) from by omega]) (show v_19 = ar 79 (x_1.toInt.toNat) from by rw [ev_19, show ar_4 79 = ar 79 from ((fA_call (fA_rf [88] _) fa_5 (by decide)) 79 rfl)]; exact congrArg (ar 79) (show x_1.toInt.toNat = (x_1.toInt.toNat) from by omega))) hP hS (lv_sub hl [1, 2, 3, 0] rfl)
  · skip
    have z_31 : (0 : Int32).toInt = 0 := by decide
    have z_32 : 0 ≤ (fv 89).toInt ∧ (fv 89).toInt ≤ 441 := hF_fv 89
    exact hj_11 21 0 fv ar _ _ ls (by first | decide | omega) (iv_w (⟨by decide, by decide⟩ : (0 : Int) ≤ (0 : Int32).toInt ∧ (0 : Int32).toInt ≤ 0) (by decide) (by decide)) hF_fv (fM_rf [89] _) hA_ar (fA_rf [88] _) (by rw [show (0 : Int32).toInt = 0 from by decide]; omega) (by omega) (by rw [show (0 : Int32).toInt.toNat = 0 from by decide]; exact mm_kp_0 _ _ _) hP hS (lv_sub hl [1, 2, 3, 0] rfl)
set_option maxHeartbeats 4000000 in
set_option maxRecDepth 100000 in
theorem m_putBackE_79 (l : Launch) (dC : Nat → ClassId) (dI : Nat → Nat → Nat) (sz h : Nat) (ad : Nat → Nat) (cA : Nat → ClassId) (hd : dM h ad) (fv : Nat → Int32) (wd : Int64) (ar : Nat → Nat → Int32) (hF_fv : rF fv) (hA_ar : rA ar) (nn : Int32) (h_nn : 0 ≤ nn.toInt ∧ nn.toInt ≤ 20) (hk : (fv 89).toInt + nn.toInt ≤ 441) : Met l yX12_putBack (.code yX12_putBack cX12_putBack 4 none :: lw_good) ({ frames := 2, cells := 0, slots := 0, locals := 40 }) (va_Pc [.ref h, .ref (ad 79), .int nn] (prM dC dI h ad cA fv wd ar sz)) (va_Qv (fun (u : mS) => rF u.1 ∧ rA u.2.2 ∧ fM [89] fv u.1 ∧ fA [79] ar u.2.2 ∧ ((u.1 89).toInt = (fv 89).toInt + nn.toInt) ∧ (mm_pb (ar 79) (ar 88) (u.2.2 79) ((fv 89).toInt.toNat) (nn.toInt.toNat)) ∧ True) (enM dC dI h ad cA) (aM h ad sz)) 0 0 (aM h ad sz) := by
  refine Met.ofW (cc := cX12_putBack) (maxL := 4) (ret := none) (by decide) rfl ?_
  intro p e s m args below meth c s₁ B hml hv
  obtain ⟨rfl, hsz, hP, hK⟩ := hv
  have hx := B.exec
  have hb := B.bytes
  have hr := B.returns
  have hts := atoms_spec (ws := (.code yX12_putBack cX12_putBack 4 none :: lw_good)) B.pre
  have htg : ∀ w ∈ lw_good, w.before _ s = true := fun w hw => hts w (List.mem_cons_of_mem _ hw)
  have hown : s.vm.findClass RX12 = some m.cls := findClass_of_methodNamed B.named
  have hlocks := B.notSynchronized
  subst hsz
  have hS : va_S (aM h ad s.heap.size) s.heap s.heap [] := va_S.rf
  have hl := lv_entry ([.ref h, .ref (ad 79), .int nn]) (n := 4) (Nat.le_of_ble_eq_true rfl)
  rw [lg_entry_eq]
  generalize (lg_sl ([.ref h, .ref (ad 79), .int nn]) ++ List.replicate (4 - (lg_sl ([.ref h, .ref (ad 79), .int nn])).length) Slot.unset).toArray = ls at hl ⊢
  have hl : lv_has ls 4 [(0, .ref h), (1, .ref (ad 79)), (2, .int nn)] := hl
  refine lv_iconst (v := 0) hx hb dX12_putBack_0 (by decide) ?_
  refine lv_istore_n (lv' := [(3, .int 0), (0, .ref h), (1, .ref (ad 79)), (2, .int nn)]) hx hb dX12_putBack_1 rfl hl (by decide) rfl (fun ls hl => ?_)
  refine my_cut (P := fun R9 a9 Q9 => ∀ (n_9 : Nat) (x_1 : Int32) (fv_2 : Nat → Int32) (ar_4 : Nat → Nat → Int32) (H : Heap) (locs : List Loc) (ls : Array Slot), 20 - x_1.toInt < (n_9 : Int) → (0 ≤ x_1.toInt ∧ x_1.toInt ≤ 20) → rF fv_2 → fM [89] fv fv_2 → rA ar_4 → fA [79] ar ar_4 → ((fv_2 89).toInt = (fv 89).toInt + x_1.toInt) → (x_1.toInt ≤ nn.toInt) → (mm_pb (ar 79) (ar 88) (ar_4 79) ((fv 89).toInt.toNat) (x_1.toInt.toNat)) → va_P (dC, dI) vwCl (wsM h ad cA fv_2 wd ar_4) H → va_S (aM h ad s.heap.size) s.heap H locs → lv_has ls 4 [(0, .ref h), (1, .ref (ad 79)), (2, .int nn), (3, .int x_1)] → W p l e R9 s m a9 below meth c H locs 0 0 Q9 (F0 m 2 ls [])) ?_ (fun hj_11 => ?_)
  · intro n_9
    induction n_9 with
    | zero => intro x_1 fv_2 ar_4 H locs ls fu_10 i_x_1 hF_fv_2 fr_3 hA_ar_4 fa_5 q_6 q_7 q_8; exfalso; omega
    | succ n_9 ih_9 =>
      intro x_1 fv_2 ar_4 H locs ls fu_10 i_x_1 hF_fv_2 fr_3 hA_ar_4 fa_5 q_6 q_7 q_8 hP hS hl
      refine lv_iload_n hx hb dX12_putBack_2 rfl (lv_at hl 3 rfl) ?_
      refine lv_iload_n hx hb dX12_putBack_3 rfl (lv_at hl 2 rfl) ?_
      refine lv_icmp_ge (tgt := 35) hx hb dX12_putBack_4 (by decide) (fun c_12 => ?_) (fun c_12 => ?_)
      · skip
        have k_13 := Int32.le_iff_toInt_le.mp c_12
        have z_14 : 0 ≤ (fv_2 89).toInt ∧ (fv_2 89).toInt ≤ 441 := hF_fv_2 89
        exact W.vret hx hb hr (fun t ht hW => ⟨⟨(fv_2, wd, ar_4), rfl, ⟨hF_fv_2, hA_ar_4, (fM_call (fM_rf [89] _) fr_3 (by decide)), (fA_call (fA_rf [79] _) fa_5 (by decide)), (show (fv_2 89).toInt = (fv 89).toInt + nn.toInt from by omega), (show mm_pb (ar 79) (ar 88) (ar_4 79) ((fv 89).toInt.toNat) (nn.toInt.toNat) from by have h9 := q_8; rw [show (x_1.toInt.toNat) = (nn.toInt.toNat) from by omega] at h9; exact h9), trivial⟩, ⟨by rw [ht]; exact hP, va_K.moved hW.alike hK⟩⟩, hS.F ht⟩) hS.2.2 dX12_putBack_35
      · skip
        have i_15 : 0 ≤ x_1.toInt ∧ x_1.toInt ≤ 19 := iv_lt1 i_x_1 h_nn (Int32.not_le.mp c_12)
        have i_16 : 1 ≤ nn.toInt ∧ nn.toInt ≤ 20 := iv_lt2 i_x_1 h_nn (Int32.not_le.mp c_12)
        have k_17 := Int32.lt_iff_toInt_lt.mp (Int32.not_le.mp c_12)
        refine lv_aload_n hx hb dX12_putBack_7 rfl (lv_at hl 1 rfl) ?_
        refine lv_iload_n hx hb dX12_putBack_8 rfl (lv_at hl 3 rfl) ?_
        refine lv_aload_n hx hb dX12_putBack_9 rfl (lv_at hl 0 rfl) ?_
        refine gM_88 hx hb htg hown hK hP dX12_putBack_10 ?_
        refine lv_aload_n hx hb dX12_putBack_13 rfl (lv_at hl 0 rfl) ?_
        refine gM_89 hx hb htg hown hK hP dX12_putBack_14 ?_
        have i_18 : 0 ≤ (fv_2 89).toInt ∧ (fv_2 89).toInt ≤ 441 := hF_fv_2 89
        refine lM_88 hx hb hK hP (vp_in_iff.mpr (by omega)) dX12_putBack_17 (fun v_19 ev_19 => ?_)
        refine sM_79 hx hb hK hP hS hd (iv_in i_15 (by decide) (by decide)) dX12_putBack_18 (fun H locs ar_20 ear_20 hP hS => ?_)
        have hA_ar_20 : rA ar_20 := rA_put hA_ar_4 ear_20 (iv_any _)
        refine lv_aload_n hx hb dX12_putBack_19 rfl (lv_at hl 0 rfl) ?_
        refine lv_dup hx hb dX12_putBack_20 rfl ?_
        refine gM_89 hx hb htg hown hK hP dX12_putBack_21 ?_
        refine lv_iconst (v := 1) hx hb dX12_putBack_24 (by decide) ?_
        refine lv_iadd hx hb dX12_putBack_25 ?_
        refine lv_topi (fun v_21 ev_21 => ?_)
        have t_22 : v_21.toInt = (fv_2 89).toInt + 1 ∧ 1 ≤ v_21.toInt ∧ v_21.toInt ≤ 442 := iv_addc ev_21 i_18 (by decide) (by decide) (by decide)
        have i_24 : 0 ≤ v_21.toInt ∧ v_21.toInt ≤ 441 := (by omega)
        refine pM_89 hx hb htg hown hK hP hS hd dX12_putBack_26 (fun H locs fv_25 efv_25 hP hS => ?_)
        have hF_fv_25 : rF fv_25 := rF_put hF_fv_2 efv_25 i_24
        obtain ⟨v_26, ev_26⟩ : ∃ z : Int32, z = x_1 + 1 := ⟨_, rfl⟩
        refine lv_iinc (v := v_26) (lv' := [(3, .int v_26), (0, .ref h), (1, .ref (ad 79)), (2, .int nn)]) hx hb dX12_putBack_29 hl (k := 3) rfl (by rw [ev_26]; rfl) (by decide) rfl (fun ls hl => ?_)
        have t_27 : v_26.toInt = x_1.toInt + 1 ∧ 1 ≤ v_26.toInt ∧ v_26.toInt ≤ 20 := iv_addc ev_26 i_15 (by decide) (by decide) (by decide)
        refine lv_goto (tgt := 2) hx hb dX12_putBack_32 (by decide) ?_
        have z_29 : (fv_25 89).toInt = v_21.toInt := congrArg Int32.toInt ((congrFun efv_25 89))
        have z_30 : 0 ≤ (fv_25 89).toInt ∧ (fv_25 89).toInt ≤ 441 := hF_fv_25 89
        exact ih_9 v_26 fv_25 ar_20 _ _ ls (by omega) (iv_w t_27.2 (by decide) (by decide)) hF_fv_25 (fM_put (fM_call (fM_rf [89] _) fr_3 (by decide)) efv_25 (by decide)) hA_ar_20 (fA_put (fA_call (fA_rf [79] _) fa_5 (by decide)) ear_20 (by decide)) (by rw [show fv_25 89 = v_21 from (congrFun efv_25 89)]; omega) (by omega) (by have hq0 := q_6; have h89 := (show (0 : Int) ≤ (fv 89).toInt ∧ (fv 89).toInt ≤ 441 from hF_fv 89); rw [show v_26.toInt.toNat = (x_1.toInt.toNat) + 1 from by omega]; exact mm_pb_s q_8 (fun j9 => by rw [(show ∀ i9, ar_20 79 i9 = if i9 = (x_1.toInt.toNat) then v_19 else ar_4 79 i9 from (fun i9 => by rw [ear_20]; show (if i9 = Int32.toNatClampNeg x_1 then v_19 else ar_4 79 i9) = _; rfl)) j9, show (x_1.toInt.toNat) = (x_1.toInt.toNat) from by omega]) (show v_19 = ar 88 (((fv 89).toInt.toNat) + (x_1.toInt.toNat)) from by rw [ev_19, show ar_4 88 = ar 88 from ((fA_call (fA_rf [79] _) fa_5 (by decide)) 88 rfl)]; exact congrArg (ar 88) (show (fv_2 89).toInt.toNat = (((fv 89).toInt.toNat) + (x_1.toInt.toNat)) from by omega))) hP hS (lv_sub hl [1, 2, 3, 0] rfl)
  · skip
    have z_31 : (0 : Int32).toInt = 0 := by decide
    have z_32 : 0 ≤ (fv 89).toInt ∧ (fv 89).toInt ≤ 441 := hF_fv 89
    exact hj_11 21 0 fv ar _ _ ls (by first | decide | omega) (iv_w (⟨by decide, by decide⟩ : (0 : Int) ≤ (0 : Int32).toInt ∧ (0 : Int32).toInt ≤ 0) (by decide) (by decide)) hF_fv (fM_rf [89] _) hA_ar (fA_rf [79] _) (by rw [show (0 : Int32).toInt = 0 from by decide]; omega) (by omega) (by rw [show (0 : Int32).toInt.toNat = 0 from by decide]; exact mm_pb_0 _ _ _) hP hS (lv_sub hl [1, 2, 3, 0] rfl)

theorem dX12_emit_0 : decode cX12_emit 0 = .ok (.sipush 1200, 3) := by decide +kernel
theorem dX12_emit_3 : decode cX12_emit 3 = .ok (.aload_n 0, 1) := by decide +kernel
theorem dX12_emit_4 : decode cX12_emit 4 = .ok (.getfield 337, 3) := by decide +kernel
theorem dX12_emit_7 : decode cX12_emit 7 = .ok (.iadd, 1) := by decide +kernel
theorem dX12_emit_8 : decode cX12_emit 8 = .ok (.istore 4, 2) := by decide +kernel
theorem dX12_emit_10 : decode cX12_emit 10 = .ok (.aload_n 0, 1) := by decide +kernel
theorem dX12_emit_11 : decode cX12_emit 11 = .ok (.getfield 109, 3) := by decide +kernel
theorem dX12_emit_14 : decode cX12_emit 14 = .ok (.iload 4, 2) := by decide +kernel
theorem dX12_emit_16 : decode cX12_emit 16 = .ok (.iload_n 1, 1) := by decide +kernel
theorem dX12_emit_17 : decode cX12_emit 17 = .ok (.iastore, 1) := by decide +kernel
theorem dX12_emit_18 : decode cX12_emit 18 = .ok (.aload_n 0, 1) := by decide +kernel
theorem dX12_emit_19 : decode cX12_emit 19 = .ok (.getfield 112, 3) := by decide +kernel
theorem dX12_emit_22 : decode cX12_emit 22 = .ok (.iload 4, 2) := by decide +kernel
theorem dX12_emit_24 : decode cX12_emit 24 = .ok (.iload_n 2, 1) := by decide +kernel
theorem dX12_emit_25 : decode cX12_emit 25 = .ok (.iastore, 1) := by decide +kernel
theorem dX12_emit_26 : decode cX12_emit 26 = .ok (.aload_n 0, 1) := by decide +kernel
theorem dX12_emit_27 : decode cX12_emit 27 = .ok (.getfield 115, 3) := by decide +kernel
theorem dX12_emit_30 : decode cX12_emit 30 = .ok (.iload 4, 2) := by decide +kernel
theorem dX12_emit_32 : decode cX12_emit 32 = .ok (.iload_n 3, 1) := by decide +kernel
theorem dX12_emit_33 : decode cX12_emit 33 = .ok (.iastore, 1) := by decide +kernel
theorem dX12_emit_34 : decode cX12_emit 34 = .ok (.aload_n 0, 1) := by decide +kernel
theorem dX12_emit_35 : decode cX12_emit 35 = .ok (.dup, 1) := by decide +kernel
theorem dX12_emit_36 : decode cX12_emit 36 = .ok (.getfield 337, 3) := by decide +kernel
theorem dX12_emit_39 : decode cX12_emit 39 = .ok (.iconst 1, 1) := by decide +kernel
theorem dX12_emit_40 : decode cX12_emit 40 = .ok (.iadd, 1) := by decide +kernel
theorem dX12_emit_41 : decode cX12_emit 41 = .ok (.putfield 337, 3) := by decide +kernel
theorem dX12_emit_44 : decode cX12_emit 44 = .ok (.return_, 1) := by decide +kernel
theorem dX12_isOpen_0 : decode cX12_isOpen 0 = .ok (.iconst 0, 1) := by decide +kernel
theorem dX12_isOpen_1 : decode cX12_isOpen 1 = .ok (.istore_n 1, 1) := by decide +kernel
theorem dX12_isOpen_2 : decode cX12_isOpen 2 = .ok (.iload_n 1, 1) := by decide +kernel
theorem dX12_isOpen_3 : decode cX12_isOpen 3 = .ok (.aload_n 0, 1) := by decide +kernel
theorem dX12_isOpen_4 : decode cX12_isOpen 4 = .ok (.getfield 340, 3) := by decide +kernel
theorem dX12_isOpen_7 : decode cX12_isOpen 7 = .ok (.if_icmp .ge 22, 3) := by decide +kernel
theorem dX12_isOpen_10 : decode cX12_isOpen 10 = .ok (.aload_n 0, 1) := by decide +kernel
theorem dX12_isOpen_11 : decode cX12_isOpen 11 = .ok (.getfield 118, 3) := by decide +kernel
theorem dX12_isOpen_14 : decode cX12_isOpen 14 = .ok (.iload_n 1, 1) := by decide +kernel
theorem dX12_isOpen_15 : decode cX12_isOpen 15 = .ok (.iaload, 1) := by decide +kernel
theorem dX12_isOpen_16 : decode cX12_isOpen 16 = .ok (.bipush 15, 2) := by decide +kernel
theorem dX12_isOpen_18 : decode cX12_isOpen 18 = .ok (.if_icmp .ne 5, 3) := by decide +kernel
theorem dX12_isOpen_21 : decode cX12_isOpen 21 = .ok (.iconst 1, 1) := by decide +kernel
theorem dX12_isOpen_22 : decode cX12_isOpen 22 = .ok (.ireturn, 1) := by decide +kernel
theorem dX12_isOpen_23 : decode cX12_isOpen 23 = .ok (.iinc 1 1, 3) := by decide +kernel
theorem dX12_isOpen_26 : decode cX12_isOpen 26 = .ok (.goto (-24), 3) := by decide +kernel
theorem dX12_isOpen_29 : decode cX12_isOpen 29 = .ok (.iconst 0, 1) := by decide +kernel
theorem dX12_isOpen_30 : decode cX12_isOpen 30 = .ok (.ireturn, 1) := by decide +kernel
theorem vM_54 {fv : Nat → Int32} {ar ar1 : Nat → Nat → Int32} {n : Nat} {x : Int32} (h : vM fv ar) (hr : rA ar) (e : ar1 = upM ar 54 (upd (ar 54) n x)) (hn : 120 * (fv 58).toInt ≤ (n : Int)) : vM fv ar1 := by
  subst e
  intro b k hb hk
  have h2 : (0 : Int) ≤ (ar 53 (16 * b + k)).toInt ∧ (ar 53 (16 * b + k)).toInt ≤ 120 := hr 53 _
  show vP (upd (ar 54) n x) (120 * b + (ar 52 (16 * b + k)).toInt.toNat) (120 * b + (ar 53 (16 * b + k)).toInt.toNat)
  exact vP_K (h b k hb hk) (fun i hi => up_ne (by omega))
theorem vM_52 {fv : Nat → Int32} {ar ar1 : Nat → Nat → Int32} {n : Nat} {x : Int32} (h : vM fv ar) (hr : rA ar) (e : ar1 = upM ar 52 (upd (ar 52) n x)) (hn : 16 * (fv 58).toInt ≤ (n : Int)) : vM fv ar1 := by
  subst e
  intro b k hb hk
  have h2 : (0 : Int) ≤ (ar 47 b).toInt ∧ (ar 47 b).toInt ≤ 16 := hr 47 _
  have hk2 : (k : Int) < (ar 47 b).toInt := hk
  show vP (ar 54) (120 * b + (upd (ar 52) n x (16 * b + k)).toInt.toNat) _
  rw [up_ne (by omega)]
  exact h b k hb hk
theorem vM_53 {fv : Nat → Int32} {ar ar1 : Nat → Nat → Int32} {n : Nat} {x : Int32} (h : vM fv ar) (hr : rA ar) (e : ar1 = upM ar 53 (upd (ar 53) n x)) (hn : 16 * (fv 58).toInt ≤ (n : Int)) : vM fv ar1 := by
  subst e
  intro b k hb hk
  have h2 : (0 : Int) ≤ (ar 47 b).toInt ∧ (ar 47 b).toInt ≤ 16 := hr 47 _
  have hk2 : (k : Int) < (ar 47 b).toInt := hk
  show vP (ar 54) _ (120 * b + (upd (ar 53) n x (16 * b + k)).toInt.toNat)
  rw [up_ne (by omega)]
  exact h b k hb hk
theorem vM_47 {fv : Nat → Int32} {ar ar1 : Nat → Nat → Int32} {n : Nat} {x : Int32} (h : vM fv ar) (hr : rA ar) (e : ar1 = upM ar 47 (upd (ar 47) n x)) (hn : (fv 58).toInt ≤ (n : Int)) : vM fv ar1 := by
  subst e
  intro b k hb hk
  have hk2 : (k : Int) < (upd (ar 47) n x b).toInt := hk
  rw [up_ne (by omega)] at hk2
  exact h b k hb hk2
theorem cX_fr {M N : List Nat} {FF : Nat} {g0 : Nat → Int32} {e : Int} {f f1 : Nat → Int32} {a a1 : Nat → Nat → Int32} (h : cX FF g0 e (f 60).toInt (f 61).toInt (f 62).toInt (f 63).toInt (a 54) (a 57)) (hf : fM M f f1) (ha : fA N a a1) (h0 : M.contains 60 = false) (h1 : M.contains 61 = false) (h2 : M.contains 62 = false) (h3 : M.contains 63 = false) (h4 : N.contains 54 = false) (h5 : N.contains 57 = false) : cX FF g0 e (f1 60).toInt (f1 61).toInt (f1 62).toInt (f1 63).toInt (a1 54) (a1 57) := by
  rw [hf 60 h0, hf 61 h1, hf 62 h2, hf 63 h3, ha 54 h4, ha 57 h5]; exact h
def rL (fv : Nat → Int32) (ar : Nat → Nat → Int32) : Prop := ∀ k : Nat, (k : Int) < (fv 59).toInt → (ar 53 (160 + k)).toInt ≤ (fv 60).toInt ∧ vP (ar 54) (1200 + (ar 52 (160 + k)).toInt.toNat) (1200 + (ar 53 (160 + k)).toInt.toNat)
theorem rL_fr {M N : List Nat} {f f1 : Nat → Int32} {a a1 : Nat → Nat → Int32} (h : rL f a) (hf : fM M f f1) (ha : fA N a a1) (h0 : M.contains 59 = false) (h1 : M.contains 60 = false) (h2 : N.contains 52 = false) (h3 : N.contains 53 = false) (h4 : N.contains 54 = false) : rL f1 a1 := by
  intro k; rw [hf 59 h0, hf 60 h1, ha 52 h2, ha 53 h3, ha 54 h4]; exact h k
set_option maxHeartbeats 4000000 in
set_option maxRecDepth 100000 in
theorem m_emit (l : Launch) (dC : Nat → ClassId) (dI : Nat → Nat → Nat) (sz h : Nat) (ad : Nat → Nat) (cA : Nat → ClassId) (hd : dM h ad) (fv : Nat → Int32) (wd : Int64) (ar : Nat → Nat → Int32) (hF_fv : rF fv) (hA_ar : rA ar) (aa : Int32) (ab : Int32) (ac : Int32) (h_aa : 0 ≤ aa.toInt ∧ aa.toInt ≤ 15) (he : (fv 60).toInt ≤ 119) (hp_vM : vM fv ar) : Met l yX12_emit (.code yX12_emit cX12_emit 5 none :: lw_good) ({ frames := 2, cells := 0, slots := 0, locals := 40 }) (va_Pc [.ref h, .int aa, .int ab, .int ac] (prM dC dI h ad cA fv wd ar sz)) (va_Qv (fun (u : mS) => rF u.1 ∧ rA u.2.2 ∧ fM [60] fv u.1 ∧ fA [54, 55, 56] ar u.2.2 ∧ ((u.1 60).toInt = (fv 60).toInt + 1) ∧ (u.2.2 54 = upd (ar 54) (1200 + (fv 60).toInt.toNat) aa) ∧ (vM u.1 u.2.2) ∧ True) (enM dC dI h ad cA) (aM h ad sz)) 0 0 (aM h ad sz) := by
  refine Met.ofW (cc := cX12_emit) (maxL := 5) (ret := none) (by decide) rfl ?_
  intro p e s m args below meth c s₁ B hml hv
  obtain ⟨rfl, hsz, hP, hK⟩ := hv
  have hx := B.exec
  have hb := B.bytes
  have hr := B.returns
  have hts := atoms_spec (ws := (.code yX12_emit cX12_emit 5 none :: lw_good)) B.pre
  have htg : ∀ w ∈ lw_good, w.before _ s = true := fun w hw => hts w (List.mem_cons_of_mem _ hw)
  have hown : s.vm.findClass RX12 = some m.cls := findClass_of_methodNamed B.named
  have hlocks := B.notSynchronized
  subst hsz
  have hS : va_S (aM h ad s.heap.size) s.heap s.heap [] := va_S.rf
  have hl := lv_entry ([.ref h, .int aa, .int ab, .int ac]) (n := 5) (Nat.le_of_ble_eq_true rfl)
  rw [lg_entry_eq]
  generalize (lg_sl ([.ref h, .int aa, .int ab, .int ac]) ++ List.replicate (5 - (lg_sl ([.ref h, .int aa, .int ab, .int ac])).length) Slot.unset).toArray = ls at hl ⊢
  have hl : lv_has ls 5 [(0, .ref h), (1, .int aa), (2, .int ab), (3, .int ac)] := hl
  refine lv_sipush (v := 1200) hx hb dX12_emit_0 (by decide) ?_
  refine lv_aload_n hx hb dX12_emit_3 rfl (lv_at hl 0 rfl) ?_
  refine gM_60 hx hb htg hown hK hP dX12_emit_4 ?_
  have i_1 : 0 ≤ (fv 60).toInt ∧ (fv 60).toInt ≤ 120 := hF_fv 60
  refine lv_iadd hx hb dX12_emit_7 ?_
  refine lv_topi (fun v_2 ev_2 => ?_)
  have t_3 : v_2.toInt = (fv 60).toInt + 1200 ∧ 1200 ≤ v_2.toInt ∧ v_2.toInt ≤ 1320 := iv_addc (by rw [ev_2, Int32.add_comm]) i_1 (by decide) (by decide) (by decide)
  have i_5 : 1200 ≤ v_2.toInt ∧ v_2.toInt ≤ 1319 := (by omega)
  refine lv_istore (lv' := [(4, .int v_2), (0, .ref h), (1, .int aa), (2, .int ab), (3, .int ac)]) hx hb dX12_emit_8 hl (by decide) rfl (fun ls hl => ?_)
  refine lv_aload_n hx hb dX12_emit_10 rfl (lv_at hl 1 rfl) ?_
  refine gM_54 hx hb htg hown hK hP dX12_emit_11 ?_
  refine lv_iload hx hb dX12_emit_14 (lv_at hl 0 rfl) ?_
  refine lv_iload_n hx hb dX12_emit_16 rfl (lv_at hl 2 rfl) ?_
  refine sM_54 hx hb hK hP hS hd (iv_in i_5 (by decide) (by decide)) dX12_emit_17 (fun H locs ar_6 ear_6 hP hS => ?_)
  have hA_ar_6 : rA ar_6 := rA_put hA_ar ear_6 h_aa
  have hp_7 : vM fv ar_6 := vM_54 hp_vM hA_ar ear_6 (by have h58 : (0 : Int) ≤ (fv 58).toInt ∧ (fv 58).toInt ≤ 10 := hF_fv 58; show _ ≤ ((v_2.toInt.toNat : Nat) : Int); omega)
  refine lv_aload_n hx hb dX12_emit_18 rfl (lv_at hl 1 rfl) ?_
  refine gM_55 hx hb htg hown hK hP dX12_emit_19 ?_
  refine lv_iload hx hb dX12_emit_22 (lv_at hl 0 rfl) ?_
  refine lv_iload_n hx hb dX12_emit_24 rfl (lv_at hl 3 rfl) ?_
  refine sM_55 hx hb hK hP hS hd (iv_in i_5 (by decide) (by decide)) dX12_emit_25 (fun H locs ar_8 ear_8 hP hS => ?_)
  have hA_ar_8 : rA ar_8 := rA_put hA_ar_6 ear_8 (iv_any _)
  refine lv_aload_n hx hb dX12_emit_26 rfl (lv_at hl 1 rfl) ?_
  refine gM_56 hx hb htg hown hK hP dX12_emit_27 ?_
  refine lv_iload hx hb dX12_emit_30 (lv_at hl 0 rfl) ?_
  refine lv_iload_n hx hb dX12_emit_32 rfl (lv_at hl 4 rfl) ?_
  refine sM_56 hx hb hK hP hS hd (iv_in i_5 (by decide) (by decide)) dX12_emit_33 (fun H locs ar_9 ear_9 hP hS => ?_)
  have hA_ar_9 : rA ar_9 := rA_put hA_ar_8 ear_9 (iv_any _)
  refine lv_aload_n hx hb dX12_emit_34 rfl (lv_at hl 1 rfl) ?_
  refine lv_dup hx hb dX12_emit_35 rfl ?_
  refine gM_60 hx hb htg hown hK hP dX12_emit_36 ?_
  refine lv_iconst (v := 1) hx hb dX12_emit_39 (by decide) ?_
  refine lv_iadd hx hb dX12_emit_40 ?_
  refine lv_topi (fun v_10 ev_10 => ?_)
  have t_11 : v_10.toInt = (fv 60).toInt + 1 ∧ 1 ≤ v_10.toInt ∧ v_10.toInt ≤ 121 := iv_addc ev_10 i_1 (by decide) (by decide) (by decide)
  have i_13 : 1 ≤ v_10.toInt ∧ v_10.toInt ≤ 120 := (by omega)
  refine pM_60 hx hb htg hown hK hP hS hd dX12_emit_41 (fun H locs fv_14 efv_14 hP hS => ?_)
  have hF_fv_14 : rF fv_14 := rF_put hF_fv efv_14 (iv_w i_13 (by decide) (by decide))
  have z_15 : (fv_14 60).toInt = v_10.toInt := congrArg Int32.toInt ((congrFun efv_14 60))
  have z_16 : 0 ≤ (fv_14 60).toInt ∧ (fv_14 60).toInt ≤ 120 := hF_fv_14 60
  exact W.vret hx hb hr (fun t ht hW => ⟨⟨(fv_14, wd, ar_9), rfl, ⟨hF_fv_14, hA_ar_9, (fM_put (fM_rf [60] _) efv_14 (by decide)), (fA_put (fA_put (fA_put (fA_rf [54, 55, 56] _) ear_6 (by decide)) ear_8 (by decide)) ear_9 (by decide)), (show (fv_14 60).toInt = (fv 60).toInt + 1 from by omega), (show ar_9 54 = _ from by rw [((fA_put (fA_put (fA_rf [55, 56] _) ear_8 (by decide)) ear_9 (by decide)) 54 rfl), ear_6]; show upd (ar 54) (Int32.toNatClampNeg v_2) aa = _; congr 1; show v_2.toInt.toNat = _; omega), (vM_fr hp_7 (fM_put (fM_rf [60] _) efv_14 (by decide)) (fA_put (fA_put (fA_rf [55, 56] _) ear_8 (by decide)) ear_9 (by decide)) rfl rfl rfl rfl rfl), trivial⟩, ⟨by rw [ht]; exact hP, va_K.moved hW.alike hK⟩⟩, hS.F ht⟩) hS.2.2 dX12_emit_44
set_option maxHeartbeats 4000000 in
set_option maxRecDepth 100000 in
theorem m_isOpen (l : Launch) (dC : Nat → ClassId) (dI : Nat → Nat → Nat) (sz h : Nat) (ad : Nat → Nat) (cA : Nat → ClassId) (hd : dM h ad) (fv : Nat → Int32) (wd : Int64) (ar : Nat → Nat → Int32) (hF_fv : rF fv) (hA_ar : rA ar) : Met l yX12_isOpen (.code yX12_isOpen cX12_isOpen 2 (some .boolean) :: lw_good) ({ frames := 2, cells := 0, slots := 0, locals := 40 }) (va_Pc [.ref h] (prM dC dI h ad cA fv wd ar sz)) (va_Qi (fun (r : Int32) (u : mS) => rF u.1 ∧ rA u.2.2 ∧ fM [] fv u.1 ∧ fA [] ar u.2.2 ∧ (0 ≤ r.toInt ∧ r.toInt ≤ 1) ∧ ((r = 0 ∧ True) ∨ (r = 1 ∧ (∃ j : Nat, (j : Int) < (fv 61).toInt ∧ (ar 57 j).toInt = 15))) ∧ True) (enM dC dI h ad cA) (aM h ad sz)) 0 0 (aM h ad sz) := by
  refine Met.ofW (cc := cX12_isOpen) (maxL := 2) (ret := (some .boolean)) (by decide) rfl ?_
  intro p e s m args below meth c s₁ B hml hv
  obtain ⟨rfl, hsz, hP, hK⟩ := hv
  have hx := B.exec
  have hb := B.bytes
  have hr := B.returns
  have hts := atoms_spec (ws := (.code yX12_isOpen cX12_isOpen 2 (some .boolean) :: lw_good)) B.pre
  have htg : ∀ w ∈ lw_good, w.before _ s = true := fun w hw => hts w (List.mem_cons_of_mem _ hw)
  have hown : s.vm.findClass RX12 = some m.cls := findClass_of_methodNamed B.named
  have hlocks := B.notSynchronized
  subst hsz
  have hS : va_S (aM h ad s.heap.size) s.heap s.heap [] := va_S.rf
  have hl := lv_entry ([.ref h]) (n := 2) (Nat.le_of_ble_eq_true rfl)
  rw [lg_entry_eq]
  generalize (lg_sl ([.ref h]) ++ List.replicate (2 - (lg_sl ([.ref h])).length) Slot.unset).toArray = ls at hl ⊢
  have hl : lv_has ls 2 [(0, .ref h)] := hl
  refine lv_iconst (v := 0) hx hb dX12_isOpen_0 (by decide) ?_
  refine lv_istore_n (lv' := [(1, .int 0), (0, .ref h)]) hx hb dX12_isOpen_1 rfl hl (by decide) rfl (fun ls hl => ?_)
  refine my_cut (P := fun R9 a9 Q9 => ∀ (n_2 : Nat) (x_1 : Int32) (H : Heap) (locs : List Loc) (ls : Array Slot), 64 - x_1.toInt < (n_2 : Int) → (0 ≤ x_1.toInt ∧ x_1.toInt ≤ 64) → va_P (dC, dI) vwCl (wsM h ad cA fv wd ar) H → va_S (aM h ad s.heap.size) s.heap H locs → lv_has ls 2 [(0, .ref h), (1, .int x_1)] → W p l e R9 s m a9 below meth c H locs 0 0 Q9 (F0 m 2 ls [])) ?_ (fun hj_4 => ?_)
  · intro n_2
    induction n_2 with
    | zero => intro x_1 H locs ls fu_3 i_x_1; exfalso; omega
    | succ n_2 ih_2 =>
      intro x_1 H locs ls fu_3 i_x_1 hP hS hl
      refine lv_iload_n hx hb dX12_isOpen_2 rfl (lv_at hl 1 rfl) ?_
      refine lv_aload_n hx hb dX12_isOpen_3 rfl (lv_at hl 0 rfl) ?_
      refine gM_61 hx hb htg hown hK hP dX12_isOpen_4 ?_
      have i_5 : 0 ≤ (fv 61).toInt ∧ (fv 61).toInt ≤ 64 := hF_fv 61
      refine lv_icmp_ge (tgt := 29) hx hb dX12_isOpen_7 (by decide) (fun c_6 => ?_) (fun c_6 => ?_)
      · skip
        have k_7 := Int32.le_iff_toInt_le.mp c_6
        refine lv_iconst (v := 0) hx hb dX12_isOpen_29 (by decide) ?_
        exact W.zret (v := 0) hx hb hr (by decide) (fun t ht hW => ⟨⟨0, (fv, wd, ar), rfl, ⟨hF_fv, hA_ar, (fM_rf [] _), (fA_rf [] _), (iv_w (⟨by decide, by decide⟩ : (0 : Int) ≤ (0 : Int32).toInt ∧ (0 : Int32).toInt ≤ 0) (by decide) (by decide)), (Or.inl ⟨rfl, trivial⟩), trivial⟩, ⟨by rw [ht]; exact hP, va_K.moved hW.alike hK⟩⟩, hS.F ht⟩) hS.2.2 dX12_isOpen_30
      · skip
        have i_8 : 0 ≤ x_1.toInt ∧ x_1.toInt ≤ 63 := iv_lt1 i_x_1 i_5 (Int32.not_le.mp c_6)
        have i_9 : 1 ≤ (fv 61).toInt ∧ (fv 61).toInt ≤ 64 := iv_lt2 i_x_1 i_5 (Int32.not_le.mp c_6)
        have k_10 := Int32.lt_iff_toInt_lt.mp (Int32.not_le.mp c_6)
        refine lv_aload_n hx hb dX12_isOpen_10 rfl (lv_at hl 0 rfl) ?_
        refine gM_57 hx hb htg hown hK hP dX12_isOpen_11 ?_
        refine lv_iload_n hx hb dX12_isOpen_14 rfl (lv_at hl 1 rfl) ?_
        refine lM_57 hx hb hK hP (iv_in i_8 (by decide) (by decide)) dX12_isOpen_15 (fun v_11 ev_11 => ?_)
        have i_12 : 0 ≤ v_11.toInt ∧ v_11.toInt ≤ 15 := ev_11 ▸ hA_ar 57 _
        refine lv_bipush (v := 15) hx hb dX12_isOpen_16 (by decide) ?_
        refine lv_icmp_ne (tgt := 23) hx hb dX12_isOpen_18 (by decide) (fun c_13 => ?_) (fun c_13 => ?_)
        · skip
          have i_14 : 0 ≤ v_11.toInt ∧ v_11.toInt ≤ 14 := iv_neh i_12 (by decide) c_13
          have k_15 : ¬ v_11.toInt = 15 := fun q => c_13 (Int32.toInt_inj.mp q)
          obtain ⟨v_16, ev_16⟩ : ∃ z : Int32, z = x_1 + 1 := ⟨_, rfl⟩
          refine lv_iinc (v := v_16) (lv' := [(1, .int v_16), (0, .ref h)]) hx hb dX12_isOpen_23 hl (k := 1) rfl (by rw [ev_16]; rfl) (by decide) rfl (fun ls hl => ?_)
          have t_17 : v_16.toInt = x_1.toInt + 1 ∧ 1 ≤ v_16.toInt ∧ v_16.toInt ≤ 64 := iv_addc ev_16 i_8 (by decide) (by decide) (by decide)
          refine lv_goto (tgt := 2) hx hb dX12_isOpen_26 (by decide) ?_
          exact ih_2 v_16 _ _ ls (by omega) (iv_w t_17.2 (by decide) (by decide)) hP hS (lv_sub hl [1, 0] rfl)
        · skip
          have i_19 : 15 ≤ v_11.toInt ∧ v_11.toInt ≤ 15 := iv_eq1 (⟨by decide, by decide⟩ : (15 : Int) ≤ (15 : Int32).toInt ∧ (15 : Int32).toInt ≤ 15) c_13
          refine lv_iconst (v := 1) hx hb dX12_isOpen_21 (by decide) ?_
          exact W.zret (v := 1) hx hb hr (by decide) (fun t ht hW => ⟨⟨1, (fv, wd, ar), rfl, ⟨hF_fv, hA_ar, (fM_rf [] _), (fA_rf [] _), (iv_w (⟨by decide, by decide⟩ : (1 : Int) ≤ (1 : Int32).toInt ∧ (1 : Int32).toInt ≤ 1) (by decide) (by decide)), (Or.inr (⟨rfl, ⟨x_1.toInt.toNat, by omega, by show (ar 57 (Int32.toNatClampNeg x_1)).toInt = 15; rw [← ev_11]; omega⟩⟩)), trivial⟩, ⟨by rw [ht]; exact hP, va_K.moved hW.alike hK⟩⟩, hS.F ht⟩) hS.2.2 dX12_isOpen_22
  · skip
    have z_21 : (0 : Int32).toInt = 0 := by decide
    exact hj_4 65 0 _ _ ls (by first | decide | omega) (iv_w (⟨by decide, by decide⟩ : (0 : Int) ≤ (0 : Int32).toInt ∧ (0 : Int32).toInt ≤ 0) (by decide) (by decide)) hP hS (lv_sub hl [1, 0] rfl)

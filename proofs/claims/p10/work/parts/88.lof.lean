theorem dL_of_0 : decode cL_of 0 = .ok (.aload_n 3, 1) := by decide +kernel
theorem dL_of_1 : decode cL_of 1 = .ok (.iconst 0, 1) := by decide +kernel
theorem dL_of_2 : decode cL_of 2 = .ok (.aload_n 0, 1) := by decide +kernel
theorem dL_of_3 : decode cL_of 3 = .ok (.iload_n 1, 1) := by decide +kernel
theorem dL_of_4 : decode cL_of 4 = .ok (.iload_n 2, 1) := by decide +kernel
theorem dL_of_5 : decode cL_of 5 = .ok (.invokevirtual 7, 3) := by decide +kernel
theorem dL_of_8 : decode cL_of 8 = .ok (.i2l, 1) := by decide +kernel
theorem dL_of_9 : decode cL_of 9 = .ok (.lastore, 1) := by decide +kernel
theorem dL_of_10 : decode cL_of 10 = .ok (.goto 7, 3) := by decide +kernel
theorem dL_of_13 : decode cL_of 13 = .ok (.astore 4, 2) := by decide +kernel
theorem dL_of_15 : decode cL_of 15 = .ok (.iconst 1, 1) := by decide +kernel
theorem dL_of_16 : decode cL_of 16 = .ok (.ireturn, 1) := by decide +kernel
theorem dL_of_17 : decode cL_of 17 = .ok (.iconst 0, 1) := by decide +kernel
theorem dL_of_18 : decode cL_of 18 = .ok (.ireturn, 1) := by decide +kernel
theorem kw_of : (.codeWith yL_of cL_of 5 (some .int) [(0, 10, 13, 13)] : Cond) ∈ lw_good := lwg (lwT6 (List.mem_of_getElem? (i := 66) rfl)) rfl
set_option maxHeartbeats 4000000 in
set_option maxRecDepth 100000 in
theorem l_of (l : Launch) (dC : Nat → ClassId) (dI : Nat → Nat → Nat) (sz : Nat) (ob ad : Nat → Nat) (cA : Nat → ClassId) (hd : dX ob ad) (fv : Nat → Int32) (wd : xT) (ar : Nat → Nat → Int32) (hF_fv : rX fv) (hA_ar : rB ar) (sN : Nat) (a b : Int32) (yO : Nat) (kO : ClassId) (fO : Nat → Int64) (hyO : ¬ aX ob ad sz yO) (hl0 : l.stackTraces = false) : Met l yL_of (.codeWith yL_of cL_of 5 (some .int) [(0, 10, 13, 13)] :: lw_good) ({ frames := 14, cells := 1, slots := 6, locals := 400 }) (va_Pc [.ref (ob 0), .int a, .int b, .ref yO] (fun U => prX dC dI ob ad cA fv wd ar sz U ∧ va_P (dC, dI) vwCl [(yO, .inl (kO, 1, .inr (.inl fO)))] U.heap ∧ va_K (dC, dI) vwCl [(kO, .long)] U ∧ vx_Zq Bundle.tN "UNASSIGNED_STACK" Bundle.steD (fun q => aX ob ad sz q ∨ q = yO) U U.heap ∧ vx_Zq Bundle.tN "SUPPRESSED_SENTINEL" Bundle.listD (fun q => aX ob ad sz q ∨ q = yO) U U.heap ∧ vk_R RX11 209 "no such person, or nothing such is told" sN U ∧ va_Nw (.castable ne_N ne_N) U ∧ va_Nw (.declares (Bundle.initS "java/lang/RuntimeException")) U ∧ va_Nw (.declares (Bundle.initS "java/lang/Exception")) U ∧ va_Nw (.declares (Bundle.initS "java/lang/Throwable")) U)) (va_Qi (fun (r : Int32) (u : xS) => rX u.1 ∧ rB u.2.2 ∧ fM [] fv u.1 ∧ fA [] ar u.2.2 ∧ u.2.1.2 = wd.2) (fun (u : xS) (t : State) => enX dC dI ob ad cA u t ∧ ∃ f9 : Nat → Int64, va_P (dC, dI) vwCl [(yO, .inl (kO, 1, .inr (.inl f9)))] t.heap ∧ va_K (dC, dI) vwCl [(kO, .long)] t) (fun q => aX ob ad sz q ∨ q = yO)) 1 6 (fun q => aX ob ad sz q ∨ q = yO) := by
  refine va_MetW (hh := [(0, 10, 13, 13)]) (cc := cL_of) (maxL := 5) (ret := (some .int)) (by decide) rfl ?_
  intro p e s m args below meth c s₁ B hml hv
  obtain ⟨rfl, ⟨hsz, hP, hK⟩, hPo, hKo, hZ_U, hZ_N, hR_N, hN_N, hN_d0, hN_d1, hN_d2⟩ := hv
  have hx := B.exec
  have hb := B.bytes
  have hr := B.returns
  have hts := atoms_spec (ws := (.codeWith yL_of cL_of 5 (some .int) [(0, 10, 13, 13)] :: lw_good)) B.pre
  have hown : s.vm.findClass RL = some m.cls := findClass_of_methodNamed B.named
  have hlocks := B.notSynchronized
  subst hsz
  have hS : va_S (fun q => aX ob ad s.heap.size q ∨ q = yO) s.heap s.heap [] := va_S.rf
  have hFc : ∀ q, aX ob ad s.heap.size q → (fun q => aX ob ad s.heap.size q ∨ q = yO) q := fun q h => Or.inl h
  have hl := lv_entry ([.ref (ob 0), .int a, .int b, .ref yO]) (n := 5) (Nat.le_of_ble_eq_true rfl)
  rw [lg_entry_eq]
  generalize (lg_sl ([.ref (ob 0), .int a, .int b, .ref yO]) ++ List.replicate (5 - (lg_sl ([.ref (ob 0), .int a, .int b, .ref yO])).length) Slot.unset).toArray = ls at hl ⊢
  have hl : lv_has ls 5 [(0, .ref (ob 0)), (1, .int a), (2, .int b), (3, .ref yO)] := hl
  refine lv_aload_n hx hb dL_of_0 rfl (lv_at hl 3 rfl) ?_
  refine lv_iconst (v := 0) hx hb dL_of_1 (by decide) ?_
  refine lv_aload_n hx hb dL_of_2 rfl (lv_at hl 0 rfl) ?_
  refine lv_iload_n hx hb dL_of_3 rfl (lv_at hl 1 rfl) ?_
  refine lv_iload_n hx hb dL_of_4 rfl (lv_at hl 2 rfl) ?_
  have htab : c.exceptionTable.toList = [⟨0, 10, 13, 13⟩] := vx_table (x := yL_of) B (hts (.codeWith yL_of cL_of 5 (some .int) [(0, 10, 13, 13)]) List.mem_cons_self)
  refine vx_calli (vx_runV (As := [.int a, .int b]) (rest := [.int 0, .ref yO]) ⟨hx, hb, hml, hown, hts⟩ (x_ofE l dC dI s.heap.size ob ad cA hd fv wd ar hF_fv hA_ar sN a b hl0) (cwV 2 hts (gV kw_6_68 kw_6_69 kw_6_70 kw_1_1 kw_6_71) rfl rfl rfl (by decide +kernel) ⟨Nat.le_of_ble_eq_true rfl, Nat.le_of_ble_eq_true rfl⟩) ⟨fun a U g mk q => by obtain ⟨q0, ⟨q1, qP, qK⟩, qZ0, qZ1, qZ2, qZ3, qZ4, qZ5, qZ6⟩ := q; exact ⟨q0, ⟨q1, qP, va_K.moved (u := U) (U := U.calling g mk a) (Vm.Alike.refl U.vm) qK⟩, vx_Zq.moved (u := U) (U := U.calling g mk a) (Vm.Alike.refl U.vm) qZ0, vx_Zq.moved (u := U) (U := U.calling g mk a) (Vm.Alike.refl U.vm) qZ1, vk_R.same (u := U) (U := U.calling g mk a) rfl qZ2, va_Nw.same (u := U) (U := U.calling g mk a) rfl rfl qZ3, va_Nw.same (u := U) (U := U.calling g mk a) rfl rfl qZ4, va_Nw.same (u := U) (U := U.calling g mk a) rfl rfl qZ5, va_Nw.same (u := U) (U := U.calling g mk a) rfl rfl qZ6⟩, va_recv hK hP (ci := 11) (q0 := 0) rfl rfl, fun U hU hW => ⟨rfl, ⟨by rw [hU], by rw [hU]; exact hP, va_K.moved hW.alike hK⟩, by rw [hU]; exact ((hZ_U.kept hS.2.1).narrow hFc).moved hW.alike, by rw [hU]; exact ((hZ_N.kept hS.2.1).narrow hFc).moved hW.alike, vk_R.warm hW hR_N, va_Nw.warmC hW hN_N, va_Nw.warmD hW hN_d0, va_Nw.warmD hW hN_d1, va_Nw.warmD hW hN_d2⟩⟩ rfl rfl hl.1 rfl (lv_room (Nat.le_of_ble_eq_true rfl)) dL_of_5 ⟨Nat.le_of_ble_eq_true rfl, Nat.le_of_ble_eq_true rfl⟩) hS (fun q _ h => hFc q h) hFc (fun q _ h => hFc q h) (fun E ce q9 u t H1 locs ht hvm hpx hBX hz1 hk1 hS hce hcv hcl => ?_) (fun r u t H1 locs ht hvm hw hB hz1 hk1 hS => ?_)
  · obtain ⟨f1, w1, a1⟩ := u
    obtain ⟨hE, hB1, hB2⟩ := hBX
    rw [hE] at hcl
    have hP : va_P (dC, dI) vwCl (wsX ob ad cA f1 w1 a1) H1 := by have h9 := hB1; rw [ht] at h9; exact h9
    have hPo : va_P (dC, dI) vwCl [(yO, .inl (kO, 1, .inr (.inl fO)))] H1 := ls_one hPo (hk1 _ (ls_lt hPo) hyO)
    refine ne_catch (name := ne_N) hown ⟨0, 10, 13, 13⟩ htab (by decide) (by decide) (hts (.classLink RL 13 "java/util/NoSuchElementException") (List.mem_cons_of_mem _ kw_6_67)) (va_Nw.use rfl hN_N) hce hcv hcl ?_
    refine W.widen (k := 1) (n := 6) (Nat.le_of_ble_eq_true rfl) (Nat.le_of_ble_eq_true rfl) ?_
    refine lv_astore (lv' := [(4, .ref q9), (0, .ref (ob 0)), (1, .int a), (2, .int b), (3, .ref yO)]) hx hb dL_of_13 hl (by decide) rfl (fun ls hl => ?_)
    refine lv_iconst (v := 1) hx hb dL_of_15 (by decide) ?_
    exact W.iret (v := 1) hx hb hr (fun t ht hW => ⟨⟨1, (f1, w1, a1), rfl, hpx, ⟨⟨by rw [ht]; exact hP, va_K.moved hW.alike hK⟩, ⟨fO, by rw [ht]; exact hPo, va_K.moved hW.alike hKo⟩⟩⟩, hS.F ht⟩) hS.2.2 dL_of_16
  · obtain ⟨f1, w1, a1⟩ := u
    have hP : va_P (dC, dI) vwCl (wsX ob ad cA f1 w1 a1) H1 := by have h9 := hB.1; rw [ht] at h9; exact h9
    have hPo : va_P (dC, dI) vwCl [(yO, .inl (kO, 1, .inr (.inl fO)))] H1 := ls_one hPo (hk1 _ (ls_lt hPo) hyO)
    have hpx : rX f1 ∧ rB a1 ∧ fM [] fv f1 ∧ fA [] ar a1 ∧ w1.2 = wd.2 := ⟨hw.1, hw.2.1, hw.2.2.1, hw.2.2.2.1, hw.2.2.2.2.1⟩
    refine W.widen (k := 1) (n := 6) (Nat.le_of_ble_eq_true rfl) (Nat.le_of_ble_eq_true rfl) ?_
    refine lv_i2l hx hb dL_of_8 rfl ?_
    refine lv_topl (fun w9 _ => ?_)
    have hDA := va_D.app (A := (fun q => aX ob ad s.heap.size q ∨ q = yO)) ((wsX_D hd s.heap.size cA f1 w1 a1).weaken (fun _ _ _ h => Or.inl h)) (my_D1 (a := yO) (x := .inl (kO, 1, .inr (.inl fO))) (Or.inr rfl)) (fun i j p q hi hj e => my_ne1 hj e (fun w => hyO (Or.inl ⟨i, w ▸ adX_at hi⟩)))
    refine va_last hx hb (va_K.app hK hKo) (va_P.app hP hPo) hDA hS 86 74 rfl rfl (by unfold vp_in; decide) dL_of_9 (fun H2 locs hP2 _ hS => ?_)
    have hP2 : va_P (dC, dI) vwCl (wsX ob ad cA f1 w1 a1 ++ [(yO, .inl (kO, 1, .inr (.inl (vp_updL fO (0 : Int32).toNatClampNeg w9))))]) H2 := hP2
    refine lv_goto (tgt := 17) hx hb dL_of_10 (by decide) ?_
    refine lv_iconst (v := 0) hx hb dL_of_17 (by decide) ?_
    exact W.iret (v := 0) hx hb hr (fun t ht hW => ⟨⟨0, (f1, w1, a1), rfl, hpx, ⟨⟨by rw [ht]; exact my_left hP2, va_K.moved hW.alike hK⟩, ⟨_, by rw [ht]; exact my_right hP2, va_K.moved hW.alike hKo⟩⟩⟩, hS.F ht⟩) hS.2.2 dL_of_18

theorem dL_law_812 : decode cL_law 812 = .ok (.aload_n 1, 1) := by decide +kernel
theorem dL_law_813 : decode cL_law 813 = .ok (.aload_n 0, 1) := by decide +kernel
theorem dL_law_814 : decode cL_law 814 = .ok (.iload 4, 2) := by decide +kernel
theorem dL_law_816 : decode cL_law 816 = .ok (.iconst 1, 1) := by decide +kernel
theorem dL_law_817 : decode cL_law 817 = .ok (.iadd, 1) := by decide +kernel
theorem dL_law_818 : decode cL_law 818 = .ok (.iaload, 1) := by decide +kernel
theorem dL_law_819 : decode cL_law 819 = .ok (.aload_n 0, 1) := by decide +kernel
theorem dL_law_820 : decode cL_law 820 = .ok (.iload 4, 2) := by decide +kernel
theorem dL_law_822 : decode cL_law 822 = .ok (.iconst 2, 1) := by decide +kernel
theorem dL_law_823 : decode cL_law 823 = .ok (.iadd, 1) := by decide +kernel
theorem dL_law_824 : decode cL_law 824 = .ok (.iaload, 1) := by decide +kernel
theorem dL_law_825 : decode cL_law 825 = .ok (.aload_n 3, 1) := by decide +kernel
theorem dL_law_826 : decode cL_law 826 = .ok (.invokestatic 101, 3) := by decide +kernel
theorem dL_law_829 : decode cL_law 829 = .ok (.istore 5, 2) := by decide +kernel
theorem dL_law_831 : decode cL_law 831 = .ok (.aload_n 2, 1) := by decide +kernel
theorem dL_law_832 : decode cL_law 832 = .ok (.aload_n 0, 1) := by decide +kernel
theorem dL_law_833 : decode cL_law 833 = .ok (.iload 4, 2) := by decide +kernel
theorem dL_law_835 : decode cL_law 835 = .ok (.iconst 1, 1) := by decide +kernel
theorem dL_law_836 : decode cL_law 836 = .ok (.iadd, 1) := by decide +kernel
theorem dL_law_837 : decode cL_law 837 = .ok (.iaload, 1) := by decide +kernel
theorem dL_law_838 : decode cL_law 838 = .ok (.aload_n 0, 1) := by decide +kernel
theorem dL_law_839 : decode cL_law 839 = .ok (.iload 4, 2) := by decide +kernel
theorem dL_law_841 : decode cL_law 841 = .ok (.iconst 2, 1) := by decide +kernel
theorem dL_law_842 : decode cL_law 842 = .ok (.iadd, 1) := by decide +kernel
theorem dL_law_843 : decode cL_law 843 = .ok (.iaload, 1) := by decide +kernel
theorem dL_law_844 : decode cL_law 844 = .ok (.invokevirtual 106, 3) := by decide +kernel
theorem dL_law_847 : decode cL_law 847 = .ok (.istore 6, 2) := by decide +kernel
theorem dL_law_849 : decode cL_law 849 = .ok (.aload_n 2, 1) := by decide +kernel
theorem dL_law_850 : decode cL_law 850 = .ok (.invokevirtual 107, 3) := by decide +kernel
theorem dL_law_853 : decode cL_law 853 = .ok (.iload 5, 2) := by decide +kernel
theorem dL_law_855 : decode cL_law 855 = .ok (.if_icmp .eq 5, 3) := by decide +kernel
theorem dL_law_860 : decode cL_law 860 = .ok (.iload 5, 2) := by decide +kernel
theorem dL_law_862 : decode cL_law 862 = .ok (.ifCond .ne 15, 3) := by decide +kernel
theorem dL_law_877 : decode cL_law 877 = .ok (.goto 165, 3) := by decide +kernel
set_option maxHeartbeats 4000000 in
set_option maxRecDepth 100000 in
theorem law_18 {p : Program} {e : Env} {s : State} {m : MethodId} {below : List Frame} {meth : Method} {c : Code} (l : Launch) {b L : Nat} {xs : Nat → Int32} (hL7 : L = 7) (C0 : lw_At p s m meth c b L xs) (dC : Nat → ClassId) (dI : Nat → Nat → Nat) (A : Nat → Prop) (hAe : A = fun q => s.heap.size ≤ q) (yO : Nat) (xX : Nat) (xT : Nat) (xW : Nat) (xR : Nat) (xM : Nat) (xS : Nat) (xRo : Nat) (xPe : Nat) (xWh : Nat) (xTr : Nat) (xCo : Nat) (xAl : Nat) (xNl : Nat) (xDr : Nat) (xFa : Nat) (vp1 : Value) (vp2 : Value) (vp3 : Value) (vp4 : Value) (vp5 : Value) (vp6 : Value) (vp7 : Value) (vp8 : Value) (vp9 : Value) (vp10 : Value) (vp11 : Value) (vp12 : Value) (vp13 : Value) (vp14 : Value) (yM : Nat) (yT : Nat) (yF : Nat) (vq5 : Value) (vq9 : Value) (vq10 : Value) (vq11 : Value) (vq12 : Value) (vq13 : Value) (vq14 : Value) (vq15 : Value) (vq16 : Value) (vq17 : Value) (vq18 : Value) (yC : Nat) (vq20 : Value) (vq21 : Value) (vq22 : Value) (vq23 : Value) (vq24 : Value) (vq25 : Value) (vq26 : Value) (vq27 : Value) (vq28 : Value) (vq29 : Value) (vq30 : Value) (vq31 : Value) (yL : Nat) (yD : Nat) (yB : Nat) (vq50 : Value) (vq51 : Value) (vq52 : Value) (vq53 : Value) (vq54 : Value) (vq55 : Value) (vq56 : Value) (vq57 : Value) (vq64 : Value) (vq65 : Value) (vq68 : Value) (vq69 : Value) (vq70 : Value) (vq71 : Value) (vq72 : Value) (vq73 : Value) (vq74 : Value) (vq75 : Value) (vq76 : Value) (vq77 : Value) (vq78 : Value) (vq79 : Value) (vq80 : Value) (vq81 : Value) (vq82 : Value) (vq83 : Value) (vq88 : Value) (vq90 : Value) (vq91 : Value) (vq92 : Value) (vq93 : Value) (vq94 : Value) (sN : Nat) (hl0 : l.stackTraces = false) (hZ_U : vx_Zq Bundle.tN "UNASSIGNED_STACK" Bundle.steD A s s.heap) (hZ_N : vx_Zq Bundle.tN "SUPPRESSED_SENTINEL" Bundle.listD A s s.heap) (hR_N : vk_R RX11 209 "no such person, or nothing such is told" sN s) (hN_N : va_Nw (.castable ne_N ne_N) s) (hN_d0 : va_Nw (.declares (Bundle.initS "java/lang/RuntimeException")) s) (hN_d1 : va_Nw (.declares (Bundle.initS "java/lang/Exception")) s) (hN_d2 : va_Nw (.declares (Bundle.initS "java/lang/Throwable")) s) (H : Heap) (locs : List Loc) (hK : va_K (dC, dI) vwCl [] s) (hP : va_P (dC, dI) vwCl [(xX, .inr (11, [.ref xT, .int 0, .ref xW, .ref xR, .ref xM, .ref xS, .int (-1), .int 0, .int (-1)])), (xW, .inr (7, [.ref xRo, .ref xPe, .ref xWh, .ref xTr, .ref xCo, .int 0, .ref xAl, .ref xNl, .ref xDr, .int 0, .ref xFa, .int 0, .int 0, .int 0])), (xPe, .inr (3, [.int 0, vp1, vp2, vp3, vp4, vp5, vp6, vp7, vp8, vp9, vp10, vp11, vp12, vp13, vp14])), (yM, .inr (12, [.int 0, .ref yT, .int 0, .int 0, .ref yF, vq5, .int 0, .int 0, .int 0, vq9, vq10, vq11, vq12, vq13, vq14, vq15, vq16, vq17, vq18, .ref yC, vq20, vq21, vq22, vq23, vq24, vq25, vq26, vq27, vq28, vq29, vq30, vq31, .int 0, .int 0, .int 0, .int 0, .int 0, .int 0, .int 0, .int 0, .int 0, .int 0, .int 0, .int 0, .int 0, .int 0, .long 0, .ref yL, .ref yD, .ref yB, vq50, vq51, vq52, vq53, vq54, vq55, vq56, vq57, .int 0, .int 0, .int 0, .int 0, .int 0, .int 0, vq64, vq65, .int (-1), .int (-1), vq68, vq69, vq70, vq71, vq72, vq73, vq74, vq75, vq76, vq77, vq78, vq79, vq80, vq81, vq82, vq83, .int 0, .int 0, .int (-1), .int 0, vq88, .int 0, vq90, vq91, vq92, vq93, vq94, .int 0]))] H) (hD : va_D A [(xX, .inr (11, [.ref xT, .int 0, .ref xW, .ref xR, .ref xM, .ref xS, .int (-1), .int 0, .int (-1)])), (xW, .inr (7, [.ref xRo, .ref xPe, .ref xWh, .ref xTr, .ref xCo, .int 0, .ref xAl, .ref xNl, .ref xDr, .int 0, .ref xFa, .int 0, .int 0, .int 0])), (xPe, .inr (3, [.int 0, vp1, vp2, vp3, vp4, vp5, vp6, vp7, vp8, vp9, vp10, vp11, vp12, vp13, vp14])), (yM, .inr (12, [.int 0, .ref yT, .int 0, .int 0, .ref yF, vq5, .int 0, .int 0, .int 0, vq9, vq10, vq11, vq12, vq13, vq14, vq15, vq16, vq17, vq18, .ref yC, vq20, vq21, vq22, vq23, vq24, vq25, vq26, vq27, vq28, vq29, vq30, vq31, .int 0, .int 0, .int 0, .int 0, .int 0, .int 0, .int 0, .int 0, .int 0, .int 0, .int 0, .int 0, .int 0, .int 0, .long 0, .ref yL, .ref yD, .ref yB, vq50, vq51, vq52, vq53, vq54, vq55, vq56, vq57, .int 0, .int 0, .int 0, .int 0, .int 0, .int 0, vq64, vq65, .int (-1), .int (-1), vq68, vq69, vq70, vq71, vq72, vq73, vq74, vq75, vq76, vq77, vq78, vq79, vq80, vq81, vq82, vq83, .int 0, .int 0, .int (-1), .int 0, vq88, .int 0, vq90, vq91, vq92, vq93, vq94, .int 0]))]) (hS : va_S A s.heap H locs) (ls : Array Slot) (hl : lv_has ls 7 [(0, .ref b), (1, .ref xX), (2, .ref yM), (3, .ref yO), (4, .int 0)]) : W p l e room_1 s m #[Value.ref b] below meth c H locs 156 13846 (lw_Z below #[Value.ref b] s) (F0 m 812 ls []) := by
  obtain ⟨hx, hb, hr, hml, hown, hts0, hX, hbl, hlocks, hgv⟩ := id C0
  have hb : c.code = cL_law := hb
  have hown : s.vm.findClass RL = some m.cls := hown
  have hts : ∀ w ∈ (.initialized RL :: lw_good : List Cond), w.before #[Value.ref b] s = true := fun w h => (List.mem_cons.mp h).elim (fun q => by rw [q]; exact hts0 _ (lwgT kw_1_0)) (fun q => hts0 w (lwgT q))
  have hA : ∀ q : Nat, s.heap.size ≤ q → A q := fun q h => by rw [hAe]; exact h
  have hbA : ¬ A b := by rw [hAe]; exact Nat.not_le.mpr hbl
  refine lv_aload_n hx hb dL_law_812 rfl (lv_at hl 1 rfl) ?_
  refine lv_aload_n hx hb dL_law_813 rfl (lv_at hl 0 rfl) ?_
  refine lv_iload hx hb dL_law_814 (lv_at hl 4 rfl) ?_
  refine lv_iconst (v := 1) hx hb dL_law_816 (by decide) ?_
  refine lv_iadd hx hb dL_law_817 ?_
  refine my_ti (y := 1) (by decide) ?_
  refine va_sld hx hb hX hbl hbA hS (by rw [hL7]; unfold vp_in; decide) dL_law_818 ?_
  refine lv_topi (fun v_1 ev_1 => ?_)
  refine lv_aload_n hx hb dL_law_819 rfl (lv_at hl 0 rfl) ?_
  refine lv_iload hx hb dL_law_820 (lv_at hl 4 rfl) ?_
  refine lv_iconst (v := 2) hx hb dL_law_822 (by decide) ?_
  refine lv_iadd hx hb dL_law_823 ?_
  refine my_ti (y := 2) (by decide) ?_
  refine va_sld hx hb hX hbl hbA hS (by rw [hL7]; unfold vp_in; decide) dL_law_824 ?_
  refine lv_topi (fun v_2 ev_2 => ?_)
  refine lv_aload_n hx hb dL_law_825 rfl (lv_at hl 3 rfl) ?_
  have hPc := hP.sub (ws' := [(xX, .inr (11, [.ref xT, .int 0, .ref xW, .ref xR, .ref xM, .ref xS, .int (-1), .int 0, .int (-1)])), (xW, .inr (7, [.ref xRo, .ref xPe, .ref xWh, .ref xTr, .ref xCo, .int 0, .ref xAl, .ref xNl, .ref xDr, .int 0, .ref xFa, .int 0, .int 0, .int 0])), (xPe, .inr (3, [.int 0, vp1, vp2, vp3, vp4, vp5, vp6, vp7, vp8, vp9, vp10, vp11, vp12, vp13, vp14]))]) [0, 1, 2] rfl
  have hDc := hD.sub (ws' := [(xX, .inr (11, [.ref xT, .int 0, .ref xW, .ref xR, .ref xM, .ref xS, .int (-1), .int 0, .int (-1)])), (xW, .inr (7, [.ref xRo, .ref xPe, .ref xWh, .ref xTr, .ref xCo, .int 0, .ref xAl, .ref xNl, .ref xDr, .int 0, .ref xFa, .int 0, .int 0, .int 0])), (xPe, .inr (3, [.int 0, vp1, vp2, vp3, vp4, vp5, vp6, vp7, vp8, vp9, vp10, vp11, vp12, vp13, vp14]))]) [0, 1, 2] (by decide) rfl
  have hKc := hK.sub (tys' := []) [] rfl
  have hFc := va_free (wc := [(xX, .inr (11, [.ref xT, .int 0, .ref xW, .ref xR, .ref xM, .ref xS, .int (-1), .int 0, .int (-1)])), (xW, .inr (7, [.ref xRo, .ref xPe, .ref xWh, .ref xTr, .ref xCo, .int 0, .ref xAl, .ref xNl, .ref xDr, .int 0, .ref xFa, .int 0, .int 0, .int 0])), (xPe, .inr (3, [.int 0, vp1, vp2, vp3, vp4, vp5, vp6, vp7, vp8, vp9, vp10, vp11, vp12, vp13, vp14]))]) hD hS hA [0, 1, 2] rfl
  refine va_calli (vx_runSW (hh := [(0, 10, 13, 13)]) (As := [.ref xX, .int v_1, .int v_2, .ref yO]) (rest := []) ⟨hx, hb, hml, hown, hts⟩ (c_Lof l dC dI H.size sN v_1 v_2 yO xX xT xW xR xM xS xRo xPe xWh xTr xCo xAl xNl xDr xFa (vp1 : Value) (vp2 : Value) (vp3 : Value) (vp4 : Value) (vp5 : Value) (vp6 : Value) (vp7 : Value) (vp8 : Value) (vp9 : Value) (vp10 : Value) (vp11 : Value) (vp12 : Value) (vp13 : Value) (vp14 : Value) hl0) (vx_cwSW (hh := [(0, 10, 13, 13)]) 4 hts (gS kw_6_61 kw_6_62 kw_1_0 kw_of) rfl rfl rfl (by decide +kernel) ⟨Nat.le_of_ble_eq_true rfl, Nat.le_of_ble_eq_true rfl⟩) ⟨fun a U g mk q => by obtain ⟨q0, q1, qP, qK, qD, qZ0, qZ1, qZ2, qZ3, qZ4, qZ5, qZ6⟩ := q; exact ⟨q0, q1, qP, va_K.moved (u := U) (U := U.calling g mk a) (Vm.Alike.refl U.vm) qK, qD, vx_Zq.moved (u := U) (U := U.calling g mk a) (Vm.Alike.refl U.vm) qZ0, vx_Zq.moved (u := U) (U := U.calling g mk a) (Vm.Alike.refl U.vm) qZ1, vk_R.same (u := U) (U := U.calling g mk a) rfl qZ2, va_Nw.same (u := U) (U := U.calling g mk a) rfl rfl qZ3, va_Nw.same (u := U) (U := U.calling g mk a) rfl rfl qZ4, va_Nw.same (u := U) (U := U.calling g mk a) rfl rfl qZ5, va_Nw.same (u := U) (U := U.calling g mk a) rfl rfl qZ6⟩, fun U hU hW => ⟨rfl, by rw [hU], by rw [hU]; exact hPc, va_K.moved hW.alike hKc, hDc.weaken (fun _ _ _ _ => trivial), by rw [hU]; exact ((hZ_U.kept hS.2.1).narrow hFc).moved hW.alike, by rw [hU]; exact ((hZ_N.kept hS.2.1).narrow hFc).moved hW.alike, vk_R.warm hW hR_N, va_Nw.warmC hW hN_N, va_Nw.warmD hW hN_d0, va_Nw.warmD hW hN_d1, va_Nw.warmD hW hN_d2⟩⟩ rfl rfl hl.1 rfl (lv_room (Nat.le_of_ble_eq_true rfl)) dL_law_826 ⟨Nat.le_of_ble_eq_true rfl, Nat.le_of_ble_eq_true rfl⟩) hS (fun q _ h => hFc q h) hFc (fun r_3 u t H1 locs ht hvm hw hB hz1 hk1 hS => ?_)
  obtain ⟨hP, hD⟩ := va_join (wr := [(yM, .inr (12, [.int 0, .ref yT, .int 0, .int 0, .ref yF, vq5, .int 0, .int 0, .int 0, vq9, vq10, vq11, vq12, vq13, vq14, vq15, vq16, vq17, vq18, .ref yC, vq20, vq21, vq22, vq23, vq24, vq25, vq26, vq27, vq28, vq29, vq30, vq31, .int 0, .int 0, .int 0, .int 0, .int 0, .int 0, .int 0, .int 0, .int 0, .int 0, .int 0, .int 0, .int 0, .int 0, .long 0, .ref yL, .ref yD, .ref yB, vq50, vq51, vq52, vq53, vq54, vq55, vq56, vq57, .int 0, .int 0, .int 0, .int 0, .int 0, .int 0, vq64, vq65, .int (-1), .int (-1), vq68, vq69, vq70, vq71, vq72, vq73, vq74, vq75, vq76, vq77, vq78, vq79, vq80, vq81, vq82, vq83, .int 0, .int 0, .int (-1), .int 0, vq88, .int 0, vq90, vq91, vq92, vq93, vq94, .int 0]))]) (w1 := []) hP hD [0, 1, 2] [3] rfl rfl (by decide) (by decide) hk1 hFc (fun k q h => by simp at h) ⟨fun i j p q h => by simp at h, fun k q h => by simp at h⟩
  have hK := hK.sub (tys' := []) [] rfl
  generalize H1 = H at hP hS ⊢
  have hP : va_P (dC, dI) vwCl [(yM, .inr (12, [.int 0, .ref yT, .int 0, .int 0, .ref yF, vq5, .int 0, .int 0, .int 0, vq9, vq10, vq11, vq12, vq13, vq14, vq15, vq16, vq17, vq18, .ref yC, vq20, vq21, vq22, vq23, vq24, vq25, vq26, vq27, vq28, vq29, vq30, vq31, .int 0, .int 0, .int 0, .int 0, .int 0, .int 0, .int 0, .int 0, .int 0, .int 0, .int 0, .int 0, .int 0, .int 0, .long 0, .ref yL, .ref yD, .ref yB, vq50, vq51, vq52, vq53, vq54, vq55, vq56, vq57, .int 0, .int 0, .int 0, .int 0, .int 0, .int 0, vq64, vq65, .int (-1), .int (-1), vq68, vq69, vq70, vq71, vq72, vq73, vq74, vq75, vq76, vq77, vq78, vq79, vq80, vq81, vq82, vq83, .int 0, .int 0, .int (-1), .int 0, vq88, .int 0, vq90, vq91, vq92, vq93, vq94, .int 0]))] H := hP
  have hD : va_D A [(yM, .inr (12, [.int 0, .ref yT, .int 0, .int 0, .ref yF, vq5, .int 0, .int 0, .int 0, vq9, vq10, vq11, vq12, vq13, vq14, vq15, vq16, vq17, vq18, .ref yC, vq20, vq21, vq22, vq23, vq24, vq25, vq26, vq27, vq28, vq29, vq30, vq31, .int 0, .int 0, .int 0, .int 0, .int 0, .int 0, .int 0, .int 0, .int 0, .int 0, .int 0, .int 0, .int 0, .int 0, .long 0, .ref yL, .ref yD, .ref yB, vq50, vq51, vq52, vq53, vq54, vq55, vq56, vq57, .int 0, .int 0, .int 0, .int 0, .int 0, .int 0, vq64, vq65, .int (-1), .int (-1), vq68, vq69, vq70, vq71, vq72, vq73, vq74, vq75, vq76, vq77, vq78, vq79, vq80, vq81, vq82, vq83, .int 0, .int 0, .int (-1), .int 0, vq88, .int 0, vq90, vq91, vq92, vq93, vq94, .int 0]))] := hD
  have hK : va_K (dC, dI) vwCl [] s := hK
  refine W.widen (k := 157) (n := 13852) (Nat.le_of_ble_eq_true rfl) (Nat.le_of_ble_eq_true rfl) ?_
  subst hw
  refine lv_istore (lv' := [(5, .int 1), (0, .ref b), (1, .ref xX), (2, .ref yM), (3, .ref yO), (4, .int 0)]) hx hb dL_law_829 hl (by decide) rfl (fun ls hl => ?_)
  refine lv_aload_n hx hb dL_law_831 rfl (lv_at hl 3 rfl) ?_
  refine lv_aload_n hx hb dL_law_832 rfl (lv_at hl 1 rfl) ?_
  refine lv_iload hx hb dL_law_833 (lv_at hl 5 rfl) ?_
  refine lv_iconst (v := 1) hx hb dL_law_835 (by decide) ?_
  refine lv_iadd hx hb dL_law_836 ?_
  refine my_ti (y := 1) (by decide) ?_
  refine va_sld hx hb hX hbl hbA hS (by rw [hL7]; unfold vp_in; decide) dL_law_837 ?_
  refine lv_topi (fun v_5 ev_5 => ?_)
  refine lv_aload_n hx hb dL_law_838 rfl (lv_at hl 1 rfl) ?_
  refine lv_iload hx hb dL_law_839 (lv_at hl 5 rfl) ?_
  refine lv_iconst (v := 2) hx hb dL_law_841 (by decide) ?_
  refine lv_iadd hx hb dL_law_842 ?_
  refine my_ti (y := 2) (by decide) ?_
  refine va_sld hx hb hX hbl hbA hS (by rw [hL7]; unfold vp_in; decide) dL_law_843 ?_
  refine lv_topi (fun v_6 ev_6 => ?_)
  have hPc := hP.sub (ws' := [(yM, .inr (12, [.int 0, .ref yT, .int 0, .int 0, .ref yF, vq5, .int 0, .int 0, .int 0, vq9, vq10, vq11, vq12, vq13, vq14, vq15, vq16, vq17, vq18, .ref yC, vq20, vq21, vq22, vq23, vq24, vq25, vq26, vq27, vq28, vq29, vq30, vq31, .int 0, .int 0, .int 0, .int 0, .int 0, .int 0, .int 0, .int 0, .int 0, .int 0, .int 0, .int 0, .int 0, .int 0, .long 0, .ref yL, .ref yD, .ref yB, vq50, vq51, vq52, vq53, vq54, vq55, vq56, vq57, .int 0, .int 0, .int 0, .int 0, .int 0, .int 0, vq64, vq65, .int (-1), .int (-1), vq68, vq69, vq70, vq71, vq72, vq73, vq74, vq75, vq76, vq77, vq78, vq79, vq80, vq81, vq82, vq83, .int 0, .int 0, .int (-1), .int 0, vq88, .int 0, vq90, vq91, vq92, vq93, vq94, .int 0]))]) [0] rfl
  have hDc := hD.sub (ws' := [(yM, .inr (12, [.int 0, .ref yT, .int 0, .int 0, .ref yF, vq5, .int 0, .int 0, .int 0, vq9, vq10, vq11, vq12, vq13, vq14, vq15, vq16, vq17, vq18, .ref yC, vq20, vq21, vq22, vq23, vq24, vq25, vq26, vq27, vq28, vq29, vq30, vq31, .int 0, .int 0, .int 0, .int 0, .int 0, .int 0, .int 0, .int 0, .int 0, .int 0, .int 0, .int 0, .int 0, .int 0, .long 0, .ref yL, .ref yD, .ref yB, vq50, vq51, vq52, vq53, vq54, vq55, vq56, vq57, .int 0, .int 0, .int 0, .int 0, .int 0, .int 0, vq64, vq65, .int (-1), .int (-1), vq68, vq69, vq70, vq71, vq72, vq73, vq74, vq75, vq76, vq77, vq78, vq79, vq80, vq81, vq82, vq83, .int 0, .int 0, .int (-1), .int 0, vq88, .int 0, vq90, vq91, vq92, vq93, vq94, .int 0]))]) [0] (by decide) rfl
  have hKc := hK.sub (tys' := []) [] rfl
  have hFc := va_free (wc := [(yM, .inr (12, [.int 0, .ref yT, .int 0, .int 0, .ref yF, vq5, .int 0, .int 0, .int 0, vq9, vq10, vq11, vq12, vq13, vq14, vq15, vq16, vq17, vq18, .ref yC, vq20, vq21, vq22, vq23, vq24, vq25, vq26, vq27, vq28, vq29, vq30, vq31, .int 0, .int 0, .int 0, .int 0, .int 0, .int 0, .int 0, .int 0, .int 0, .int 0, .int 0, .int 0, .int 0, .int 0, .long 0, .ref yL, .ref yD, .ref yB, vq50, vq51, vq52, vq53, vq54, vq55, vq56, vq57, .int 0, .int 0, .int 0, .int 0, .int 0, .int 0, vq64, vq65, .int (-1), .int (-1), vq68, vq69, vq70, vq71, vq72, vq73, vq74, vq75, vq76, vq77, vq78, vq79, vq80, vq81, vq82, vq83, .int 0, .int 0, .int (-1), .int 0, vq88, .int 0, vq90, vq91, vq92, vq93, vq94, .int 0]))]) hD hS hA [0] rfl
  refine va_calli (va_runV (As := [.int v_5, .int v_6]) (rest := []) ⟨hx, hb, hml, hown, hts⟩ (m_of l dC dI H.size v_5 v_6 yM yT yF (vq5 : Value) (vq9 : Value) (vq10 : Value) (vq11 : Value) (vq12 : Value) (vq13 : Value) (vq14 : Value) (vq15 : Value) (vq16 : Value) (vq17 : Value) (vq18 : Value) yC (vq20 : Value) (vq21 : Value) (vq22 : Value) (vq23 : Value) (vq24 : Value) (vq25 : Value) (vq26 : Value) (vq27 : Value) (vq28 : Value) (vq29 : Value) (vq30 : Value) (vq31 : Value) yL yD yB (vq50 : Value) (vq51 : Value) (vq52 : Value) (vq53 : Value) (vq54 : Value) (vq55 : Value) (vq56 : Value) (vq57 : Value) (vq64 : Value) (vq65 : Value) (vq68 : Value) (vq69 : Value) (vq70 : Value) (vq71 : Value) (vq72 : Value) (vq73 : Value) (vq74 : Value) (vq75 : Value) (vq76 : Value) (vq77 : Value) (vq78 : Value) (vq79 : Value) (vq80 : Value) (vq81 : Value) (vq82 : Value) (vq83 : Value) (vq88 : Value) (vq90 : Value) (vq91 : Value) (vq92 : Value) (vq93 : Value) (vq94 : Value)) (cwV 2 hts (gV kw_9_5 kw_9_6 kw_9_7 kw_1_15 kw_9_8) rfl rfl rfl (by decide +kernel) ⟨Nat.le_of_ble_eq_true rfl, Nat.le_of_ble_eq_true rfl⟩) ⟨fun a U g mk q => by obtain ⟨q0, q1, qP, qK, qD⟩ := q; exact ⟨q0, q1, qP, va_K.moved (u := U) (U := U.calling g mk a) (Vm.Alike.refl U.vm) qK, qD⟩, va_recv hKc hPc (ci := 12) (q0 := 0) rfl rfl, fun U hU hW => ⟨rfl, by rw [hU], by rw [hU]; exact hPc, va_K.moved hW.alike hKc, hDc.weaken (fun _ _ _ _ => trivial)⟩⟩ rfl rfl hl.1 rfl (lv_room (Nat.le_of_ble_eq_true rfl)) dL_law_844 ⟨Nat.le_of_ble_eq_true rfl, Nat.le_of_ble_eq_true rfl⟩) hS (fun q _ h => hFc q h) hFc (fun r_7 u t H1 locs ht hvm hw hB hz1 hk1 hS => ?_)
  obtain ⟨hP1, hK1, hD1⟩ := hB
  rw [ht] at hP1
  have hK1 := va_K.moved hvm.symm hK1
  obtain ⟨hP, hD⟩ := va_join (wr := []) (w1 := [(yM, .inr (12, [.int 1, .ref yT, .int 0, .int 0, .ref yF, vq5, .int 0, .int 0, .int 0, vq9, vq10, vq11, vq12, vq13, vq14, vq15, vq16, vq17, vq18, .ref yC, vq20, vq21, vq22, vq23, vq24, vq25, vq26, vq27, vq28, vq29, vq30, vq31, .int 0, .int 0, .int 0, .int 0, .int 0, .int 0, .int 0, .int 0, .int 0, .int 0, .int 0, .int 0, .int 0, .int 0, .long 0, .ref yL, .ref yD, .ref yB, vq50, vq51, vq52, vq53, vq54, vq55, vq56, vq57, .int 0, .int 0, .int 0, .int 0, .int 0, .int 0, vq64, vq65, .int (-1), .int (-1), vq68, vq69, vq70, vq71, vq72, vq73, vq74, vq75, vq76, vq77, vq78, vq79, vq80, vq81, vq82, vq83, .int 0, .int 0, .int (-1), .int 0, vq88, .int 0, vq90, vq91, vq92, vq93, vq94, .int 0]))]) hP hD [0] [] rfl rfl (by decide) (by decide) hk1 hFc hP1 hD1
  have hK := (hK.sub (tys' := []) [] rfl).app hK1
  generalize H1 = H at hP hS ⊢
  have hP : va_P (dC, dI) vwCl [(yM, .inr (12, [.int 1, .ref yT, .int 0, .int 0, .ref yF, vq5, .int 0, .int 0, .int 0, vq9, vq10, vq11, vq12, vq13, vq14, vq15, vq16, vq17, vq18, .ref yC, vq20, vq21, vq22, vq23, vq24, vq25, vq26, vq27, vq28, vq29, vq30, vq31, .int 0, .int 0, .int 0, .int 0, .int 0, .int 0, .int 0, .int 0, .int 0, .int 0, .int 0, .int 0, .int 0, .int 0, .long 0, .ref yL, .ref yD, .ref yB, vq50, vq51, vq52, vq53, vq54, vq55, vq56, vq57, .int 0, .int 0, .int 0, .int 0, .int 0, .int 0, vq64, vq65, .int (-1), .int (-1), vq68, vq69, vq70, vq71, vq72, vq73, vq74, vq75, vq76, vq77, vq78, vq79, vq80, vq81, vq82, vq83, .int 0, .int 0, .int (-1), .int 0, vq88, .int 0, vq90, vq91, vq92, vq93, vq94, .int 0]))] H := hP
  have hD : va_D A [(yM, .inr (12, [.int 1, .ref yT, .int 0, .int 0, .ref yF, vq5, .int 0, .int 0, .int 0, vq9, vq10, vq11, vq12, vq13, vq14, vq15, vq16, vq17, vq18, .ref yC, vq20, vq21, vq22, vq23, vq24, vq25, vq26, vq27, vq28, vq29, vq30, vq31, .int 0, .int 0, .int 0, .int 0, .int 0, .int 0, .int 0, .int 0, .int 0, .int 0, .int 0, .int 0, .int 0, .int 0, .long 0, .ref yL, .ref yD, .ref yB, vq50, vq51, vq52, vq53, vq54, vq55, vq56, vq57, .int 0, .int 0, .int 0, .int 0, .int 0, .int 0, vq64, vq65, .int (-1), .int (-1), vq68, vq69, vq70, vq71, vq72, vq73, vq74, vq75, vq76, vq77, vq78, vq79, vq80, vq81, vq82, vq83, .int 0, .int 0, .int (-1), .int 0, vq88, .int 0, vq90, vq91, vq92, vq93, vq94, .int 0]))] := hD
  have hK : va_K (dC, dI) vwCl [] s := hK
  subst hw
  refine lv_istore (lv' := [(6, .int 0), (5, .int 1), (0, .ref b), (1, .ref xX), (2, .ref yM), (3, .ref yO), (4, .int 0)]) hx hb dL_law_847 hl (by decide) rfl (fun ls hl => ?_)
  refine lv_aload_n hx hb dL_law_849 rfl (lv_at hl 4 rfl) ?_
  have hPc := hP.sub (ws' := [(yM, .inr (12, [.int 1, .ref yT, .int 0, .int 0, .ref yF, vq5, .int 0, .int 0, .int 0, vq9, vq10, vq11, vq12, vq13, vq14, vq15, vq16, vq17, vq18, .ref yC, vq20, vq21, vq22, vq23, vq24, vq25, vq26, vq27, vq28, vq29, vq30, vq31, .int 0, .int 0, .int 0, .int 0, .int 0, .int 0, .int 0, .int 0, .int 0, .int 0, .int 0, .int 0, .int 0, .int 0, .long 0, .ref yL, .ref yD, .ref yB, vq50, vq51, vq52, vq53, vq54, vq55, vq56, vq57, .int 0, .int 0, .int 0, .int 0, .int 0, .int 0, vq64, vq65, .int (-1), .int (-1), vq68, vq69, vq70, vq71, vq72, vq73, vq74, vq75, vq76, vq77, vq78, vq79, vq80, vq81, vq82, vq83, .int 0, .int 0, .int (-1), .int 0, vq88, .int 0, vq90, vq91, vq92, vq93, vq94, .int 0]))]) [0] rfl
  have hDc := hD.sub (ws' := [(yM, .inr (12, [.int 1, .ref yT, .int 0, .int 0, .ref yF, vq5, .int 0, .int 0, .int 0, vq9, vq10, vq11, vq12, vq13, vq14, vq15, vq16, vq17, vq18, .ref yC, vq20, vq21, vq22, vq23, vq24, vq25, vq26, vq27, vq28, vq29, vq30, vq31, .int 0, .int 0, .int 0, .int 0, .int 0, .int 0, .int 0, .int 0, .int 0, .int 0, .int 0, .int 0, .int 0, .int 0, .long 0, .ref yL, .ref yD, .ref yB, vq50, vq51, vq52, vq53, vq54, vq55, vq56, vq57, .int 0, .int 0, .int 0, .int 0, .int 0, .int 0, vq64, vq65, .int (-1), .int (-1), vq68, vq69, vq70, vq71, vq72, vq73, vq74, vq75, vq76, vq77, vq78, vq79, vq80, vq81, vq82, vq83, .int 0, .int 0, .int (-1), .int 0, vq88, .int 0, vq90, vq91, vq92, vq93, vq94, .int 0]))]) [0] (by decide) rfl
  have hKc := hK.sub (tys' := []) [] rfl
  have hFc := va_free (wc := [(yM, .inr (12, [.int 1, .ref yT, .int 0, .int 0, .ref yF, vq5, .int 0, .int 0, .int 0, vq9, vq10, vq11, vq12, vq13, vq14, vq15, vq16, vq17, vq18, .ref yC, vq20, vq21, vq22, vq23, vq24, vq25, vq26, vq27, vq28, vq29, vq30, vq31, .int 0, .int 0, .int 0, .int 0, .int 0, .int 0, .int 0, .int 0, .int 0, .int 0, .int 0, .int 0, .int 0, .int 0, .long 0, .ref yL, .ref yD, .ref yB, vq50, vq51, vq52, vq53, vq54, vq55, vq56, vq57, .int 0, .int 0, .int 0, .int 0, .int 0, .int 0, vq64, vq65, .int (-1), .int (-1), vq68, vq69, vq70, vq71, vq72, vq73, vq74, vq75, vq76, vq77, vq78, vq79, vq80, vq81, vq82, vq83, .int 0, .int 0, .int (-1), .int 0, vq88, .int 0, vq90, vq91, vq92, vq93, vq94, .int 0]))]) hD hS hA [0] rfl
  refine va_calli (va_runV (As := []) (rest := []) ⟨hx, hb, hml, hown, hts⟩ (m_thrown l dC dI H.size yM yT yF (vq5 : Value) (vq9 : Value) (vq10 : Value) (vq11 : Value) (vq12 : Value) (vq13 : Value) (vq14 : Value) (vq15 : Value) (vq16 : Value) (vq17 : Value) (vq18 : Value) yC (vq20 : Value) (vq21 : Value) (vq22 : Value) (vq23 : Value) (vq24 : Value) (vq25 : Value) (vq26 : Value) (vq27 : Value) (vq28 : Value) (vq29 : Value) (vq30 : Value) (vq31 : Value) yL yD yB (vq50 : Value) (vq51 : Value) (vq52 : Value) (vq53 : Value) (vq54 : Value) (vq55 : Value) (vq56 : Value) (vq57 : Value) (vq64 : Value) (vq65 : Value) (vq68 : Value) (vq69 : Value) (vq70 : Value) (vq71 : Value) (vq72 : Value) (vq73 : Value) (vq74 : Value) (vq75 : Value) (vq76 : Value) (vq77 : Value) (vq78 : Value) (vq79 : Value) (vq80 : Value) (vq81 : Value) (vq82 : Value) (vq83 : Value) (vq88 : Value) (vq90 : Value) (vq91 : Value) (vq92 : Value) (vq93 : Value) (vq94 : Value)) (cwV 0 hts (gV kw_7_199 kw_7_200 kw_7_201 kw_1_15 kw_7_202) rfl rfl rfl (by decide +kernel) ⟨Nat.le_of_ble_eq_true rfl, Nat.le_of_ble_eq_true rfl⟩) ⟨fun a U g mk q => by obtain ⟨q0, q1, qP, qK, qD⟩ := q; exact ⟨q0, q1, qP, va_K.moved (u := U) (U := U.calling g mk a) (Vm.Alike.refl U.vm) qK, qD⟩, va_recv hKc hPc (ci := 12) (q0 := 0) rfl rfl, fun U hU hW => ⟨rfl, by rw [hU], by rw [hU]; exact hPc, va_K.moved hW.alike hKc, hDc.weaken (fun _ _ _ _ => trivial)⟩⟩ rfl rfl hl.1 rfl (lv_room (Nat.le_of_ble_eq_true rfl)) dL_law_850 ⟨Nat.le_of_ble_eq_true rfl, Nat.le_of_ble_eq_true rfl⟩) hS (fun q _ h => hFc q h) hFc (fun r_9 u t H1 locs ht hvm hw hB hz1 hk1 hS => ?_)
  obtain ⟨hP, hD⟩ := va_join (wr := []) (w1 := []) hP hD [0] [] rfl rfl (by decide) (by decide) hk1 hFc (fun k q h => by simp at h) ⟨fun i j p q h => by simp at h, fun k q h => by simp at h⟩
  have hK := hK.sub (tys' := []) [] rfl
  generalize H1 = H at hP hS ⊢
  have hP : va_P (dC, dI) vwCl [] H := hP
  have hD : va_D A [] := hD
  have hK : va_K (dC, dI) vwCl [] s := hK
  subst hw
  refine lv_iload hx hb dL_law_853 (lv_at hl 1 rfl) ?_
  refine lv_icmp_eq (tgt := 860) hx hb dL_law_855 (by decide) (fun c_11 => ?_) (fun c_11 => ?_)
  rotate_left
  · exact (c_11 (by decide)).elim
  refine lv_iload hx hb dL_law_860 (lv_at hl 1 rfl) ?_
  refine lv_if_ne (tgt := 877) hx hb dL_law_862 (by decide) (fun c_12 => ?_) (fun c_12 => ?_)
  rotate_left
  · exact absurd c_12 (by decide)
  refine lv_goto (tgt := 1042) hx hb dL_law_877 (by decide) ?_
  refine lv_iinc (v := 7) (lv' := [(4, .int 7), (6, .int 0), (5, .int 1), (0, .ref b), (1, .ref xX), (2, .ref yM), (3, .ref yO)]) hx hb dL_law_1042 hl (k := 6) rfl (by decide) (by decide) rfl (fun ls hl => ?_)
  refine lv_goto (tgt := 23) hx hb dL_law_1045 (by decide) ?_
  refine lv_iload hx hb dL_law_23 (lv_at hl 0 rfl) ?_
  refine lv_aload_n hx hb dL_law_25 rfl (lv_at hl 3 rfl) ?_
  refine va_slen hx hb hX hbl hbA hS dL_law_26 ?_
  refine my_ti (y := 7) (by rw [hL7]; rfl) ?_
  refine lv_bipush (v := 7) hx hb dL_law_27 (by decide) ?_
  refine lv_isub hx hb dL_law_29 ?_
  refine my_ti (y := 0) (by decide) ?_
  refine lv_icmp_gt (tgt := 1048) hx hb dL_law_30 (by decide) (fun c_13 => ?_) (fun c_13 => ?_)
  rotate_left
  · exact (c_13 (by decide)).elim
  refine lv_iconst (v := 1) hx hb dL_law_1048 (by decide) ?_
  refine va_forget (fun q hq => by have h9 := hS.2.2 q hq; rw [hAe] at h9; exact h9) ?_
  refine W.widen (k := 600002) (n := 7302232) (Nat.le_of_ble_eq_true rfl) (Nat.le_of_ble_eq_true rfl) ?_
  exact lw_ret hx hb hr hlocks dL_law_1049

theorem dX11_of_0 : decode cX11_of 0 = .ok (.aload_n 0, 1) := by decide +kernel
theorem dX11_of_1 : decode cX11_of 1 = .ok (.getfield 16, 3) := by decide +kernel
theorem dX11_of_4 : decode cX11_of 4 = .ok (.getfield 79, 3) := by decide +kernel
theorem dX11_of_7 : decode cX11_of 7 = .ok (.iload_n 1, 1) := by decide +kernel
theorem dX11_of_8 : decode cX11_of 8 = .ok (.invokevirtual 206, 3) := by decide +kernel
theorem dX11_of_11 : decode cX11_of 11 = .ok (.ifCond .eq 13, 3) := by decide +kernel
theorem dX11_of_14 : decode cX11_of 14 = .ok (.iload_n 2, 1) := by decide +kernel
theorem dX11_of_15 : decode cX11_of 15 = .ok (.ifCond .lt 9, 3) := by decide +kernel
theorem dX11_of_18 : decode cX11_of 18 = .ok (.iload_n 2, 1) := by decide +kernel
theorem dX11_of_19 : decode cX11_of 19 = .ok (.bipush 6, 2) := by decide +kernel
theorem dX11_of_21 : decode cX11_of 21 = .ok (.if_icmp .le 13, 3) := by decide +kernel
theorem dX11_of_24 : decode cX11_of 24 = .ok (.new 207, 3) := by decide +kernel
theorem dX11_of_27 : decode cX11_of 27 = .ok (.dup, 1) := by decide +kernel
theorem dX11_of_28 : decode cX11_of 28 = .ok (.ldc 209, 2) := by decide +kernel
theorem dX11_of_30 : decode cX11_of 30 = .ok (.invokespecial 211, 3) := by decide +kernel
theorem dX11_of_33 : decode cX11_of 33 = .ok (.athrow, 1) := by decide +kernel
theorem dX11_of_34 : decode cX11_of 34 = .ok (.aload_n 0, 1) := by decide +kernel
theorem dX11_of_35 : decode cX11_of 35 = .ok (.getfield 16, 3) := by decide +kernel
theorem dX11_of_38 : decode cX11_of 38 = .ok (.getfield 79, 3) := by decide +kernel
theorem dX11_of_41 : decode cX11_of 41 = .ok (.iload_n 1, 1) := by decide +kernel
theorem dX11_of_42 : decode cX11_of 42 = .ok (.iload_n 2, 1) := by decide +kernel
theorem dX11_of_43 : decode cX11_of 43 = .ok (.invokevirtual 214, 3) := by decide +kernel
theorem dX11_of_46 : decode cX11_of 46 = .ok (.ireturn, 1) := by decide +kernel
theorem atS_tbl : ∀ w ∈ (ne_at.filter vx_no).filter goodWord, w ∈ lw_tbl := by decide +kernel
theorem atS_in {a : Cond} : ∀ w ∈ (ne_at.filter vx_no).filter goodWord, w ∈ a :: lw_good := fun w h => List.mem_cons_of_mem _ (lwg (atS_tbl w h) (List.mem_filter.mp h).2)
theorem atS_no : ∀ w ∈ (ne_at.filter vx_no).filter (fun w => !goodWord w), w ∈ ([.castable ne_N ne_N, .declares (Bundle.initS "java/lang/RuntimeException"), .declares (Bundle.initS "java/lang/Exception"), .declares (Bundle.initS "java/lang/Throwable")] : List Cond) := by decide +kernel
theorem atS_ot : ∀ w ∈ Cond.classLink RX11 207 ne_N :: Cond.initialized ne_N :: ne_at.filter vx_no, vx_ot w = true := List.all_eq_true.mp (by decide +kernel)
set_option maxHeartbeats 4000000 in
set_option maxRecDepth 100000 in
theorem x_ofE (l : Launch) (dC : Nat → ClassId) (dI : Nat → Nat → Nat) (sz : Nat) (ob ad : Nat → Nat) (cA : Nat → ClassId) (hd : dX ob ad) (fv : Nat → Int32) (wd : xT) (ar : Nat → Nat → Int32) (hF_fv : rX fv) (hA_ar : rB ar) (sN : Nat) (a : Int32) (b : Int32) (hl0 : l.stackTraces = false) : vx_Met l yX11_of (.code yX11_of cX11_of 3 (some .int) :: lw_good) ({ frames := 10, cells := 1, slots := 6, locals := 200 }) (va_Pc [.ref (ob 0), .int a, .int b] (fun U => prX dC dI ob ad cA fv wd ar sz U ∧ vx_Zq Bundle.tN "UNASSIGNED_STACK" Bundle.steD (aX ob ad sz) U U.heap ∧ vx_Zq Bundle.tN "SUPPRESSED_SENTINEL" Bundle.listD (aX ob ad sz) U U.heap ∧ vk_R RX11 209 "no such person, or nothing such is told" sN U ∧ va_Nw (.castable ne_N ne_N) U ∧ va_Nw (.declares (Bundle.initS "java/lang/RuntimeException")) U ∧ va_Nw (.declares (Bundle.initS "java/lang/Exception")) U ∧ va_Nw (.declares (Bundle.initS "java/lang/Throwable")) U)) (va_Qi (fun (r : Int32) (u : xS) => rX u.1 ∧ rB u.2.2 ∧ fM [] fv u.1 ∧ fA [] ar u.2.2 ∧ u.2.1.2 = wd.2 ∧ True) (enX dC dI ob ad cA) (aX ob ad sz)) (vx_X (fun (u : xS) => rX u.1 ∧ rB u.2.2 ∧ fM [] fv u.1 ∧ fA [] ar u.2.2 ∧ u.2.1.2 = wd.2) (fun (E : String) (u : xS) (t : State) => E = ne_N ∧ enX dC dI ob ad cA u t) (aX ob ad sz)) 1 6 (aX ob ad sz) := by
  refine vx_ofW (cc := cX11_of) (maxL := 3) (ret := (some .int)) (by decide) rfl ?_
  intro p e s m args below meth c s₁ B hml hnt hv
  obtain ⟨rfl, ⟨hsz, hP, hK⟩, hZ_U, hZ_N, hR_N, hN_N, hN_d0, hN_d1, hN_d2⟩ := hv
  have hx := B.exec
  have hb := B.bytes
  have hr := B.returns
  have hts := atoms_spec (ws := (.code yX11_of cX11_of 3 (some .int) :: lw_good)) B.pre
  have htg : ∀ w ∈ lw_good, w.before _ s = true := fun w hw => hts w (List.mem_cons_of_mem _ hw)
  have hown : s.vm.findClass RX11 = some m.cls := findClass_of_methodNamed B.named
  have hlocks := B.notSynchronized
  subst hsz
  have hS : va_S (aX ob ad s.heap.size) s.heap s.heap [] := va_S.rf
  have hl := lv_entry ([.ref (ob 0), .int a, .int b]) (n := 3) (Nat.le_of_ble_eq_true rfl)
  rw [lg_entry_eq]
  generalize (lg_sl ([.ref (ob 0), .int a, .int b]) ++ List.replicate (3 - (lg_sl ([.ref (ob 0), .int a, .int b])).length) Slot.unset).toArray = ls at hl ⊢
  have hl : lv_has ls 3 [(0, .ref (ob 0)), (1, .int a), (2, .int b)] := hl
  refine lv_aload_n hx hb dX11_of_0 rfl (lv_at hl 0 rfl) ?_
  refine gX_X11_16 hx hb htg hown hK hP dX11_of_1 ?_
  refine gX_X11_79 hx hb htg hown hK hP dX11_of_4 ?_
  refine lv_iload_n hx hb dX11_of_7 rfl (lv_at hl 1 rfl) ?_
  refine va_calli (va_runV (As := [.int a]) (rest := []) ⟨hx, hb, hml, hown, hts⟩ (x_people_has l dC dI s.heap.size ob ad cA hd fv wd ar hF_fv hA_ar a) (cwV 1 hts (gV kw_6_72 kw_6_73 kw_6_74 kw_1_4 kw_6_75) rfl rfl rfl (by decide +kernel) ⟨Nat.le_of_ble_eq_true rfl, Nat.le_of_ble_eq_true rfl⟩) ⟨fun a U g mk q => ⟨q.1, q.2.1, q.2.2.1, va_K.moved (u := U) (U := U.calling g mk a) (Vm.Alike.refl U.vm) q.2.2.2⟩, va_recv hK hP (ci := 3) (q0 := 3) rfl rfl, fun U hU hW => ⟨rfl, by rw [hU], by rw [hU]; exact hP, va_K.moved hW.alike hK⟩⟩ rfl rfl hl.1 rfl (lv_room (Nat.le_of_ble_eq_true rfl)) dX11_of_8 ⟨Nat.le_of_ble_eq_true rfl, Nat.le_of_ble_eq_true rfl⟩) hS (fun q _ h9 => aX_up hS q h9) (aX_up hS) (fun r_1 u t H1 locs ht _ hw hB _ hk1 hS => ?_)
  obtain ⟨fv_4, wd_5, ar_6⟩ := u
  obtain ⟨hF_fv_4, hA_ar_6, fr_7, fa_8, wf_9, p_2, p_3, -⟩ := hw
  have wf_9 : wd_5.2 = wd.2 := wf_9
  have hP : va_P (dC, dI) vwCl (wsX ob ad cA fv_4 wd_5 ar_6) H1 := by have h9 := hB.1; rw [ht] at h9; exact h9
  have fr_7 : fM [] fv fv_4 := fr_7
  have fa_8 : fA [] ar ar_6 := fa_8
  generalize H1 = H at hP hS ⊢
  rcases p_3 with ⟨rfl, p_3⟩ | ⟨rfl, p_3⟩
  · skip
    refine lv_if_eq (tgt := 24) hx hb dX11_of_11 (by decide) (fun c_10 => ?_) (fun c_10 => ?_)
    · skip
      exact ne_throw (sa := sN) hx hb hl0 (text := "no such person, or nothing such is told") hown (htg (.classLink RX11 207 "java/util/NoSuchElementException") kw_6_76) (htg (.initialized "java/util/NoSuchElementException") kw_1_30) hR_N (vx_hat (fun w h => hts w (atS_in w h)) atS_no (vx_c (va_Nw.use rfl hN_N) (vx_c (va_Nw.use rfl hN_d0) (vx_c (va_Nw.use rfl hN_d1) (vx_c (va_Nw.use rfl hN_d2) vx_n))))) atS_ot hZ_U hZ_N hS (by rw [hml]; exact hl.1) dX11_of_24 dX11_of_27 dX11_of_28 dX11_of_30 dX11_of_33 (fun x h => (hnt x h).elim) (Nat.le_of_ble_eq_true rfl) (Nat.le_of_ble_eq_true rfl) (Nat.le_of_ble_eq_true rfl) (Nat.le_of_ble_eq_true rfl) hlocks (fun t hal hz hkk => ⟨(fv_4, wd_5, ar_6), ⟨hF_fv_4, hA_ar_6, (fM_call (fM_rf [] _) fr_7 (by decide)), (fA_call (fA_rf [] _) fa_8 (by decide)), wf_9⟩, ⟨rfl, hP.kept (fun k q hk => hkk q.1 (hP k q hk).lt), va_K.moved hal hK⟩, Nat.le_trans hS.1 hz, fun q h1 h2 => (hkk q (Nat.lt_of_lt_of_le h1 hS.1)).trans (hS.2.1 q h1 h2)⟩) hS.2.2 (Nat.le_of_ble_eq_true rfl) (Nat.le_of_ble_eq_true rfl)
    · skip
      exact absurd c_10 (by decide)
  · skip
    have i_11 : 0 ≤ a.toInt ∧ a.toInt ≤ 2147483647 := ⟨p_3.1, (iv_any a).2⟩
    have i_12 : 0 ≤ a.toInt ∧ a.toInt ≤ 39 := ⟨i_11.1, p_3.2⟩
    refine lv_if_eq (tgt := 24) hx hb dX11_of_11 (by decide) (fun c_13 => ?_) (fun c_13 => ?_)
    · skip
      exact absurd c_13 (by decide)
    · skip
      refine lv_iload_n hx hb dX11_of_14 rfl (lv_at hl 2 rfl) ?_
      refine lv_if_lt (tgt := 24) hx hb dX11_of_15 (by decide) (fun c_14 => ?_) (fun c_14 => ?_)
      · skip
        have i_15 : (-2147483648) ≤ b.toInt ∧ b.toInt ≤ (-1) := iv_lt1 (iv_any b) (⟨by decide, by decide⟩ : (0 : Int) ≤ (0 : Int32).toInt ∧ (0 : Int32).toInt ≤ 0) c_14
        exact ne_throw (sa := sN) hx hb hl0 (text := "no such person, or nothing such is told") hown (htg (.classLink RX11 207 "java/util/NoSuchElementException") kw_6_76) (htg (.initialized "java/util/NoSuchElementException") kw_1_30) hR_N (vx_hat (fun w h => hts w (atS_in w h)) atS_no (vx_c (va_Nw.use rfl hN_N) (vx_c (va_Nw.use rfl hN_d0) (vx_c (va_Nw.use rfl hN_d1) (vx_c (va_Nw.use rfl hN_d2) vx_n))))) atS_ot hZ_U hZ_N hS (by rw [hml]; exact hl.1) dX11_of_24 dX11_of_27 dX11_of_28 dX11_of_30 dX11_of_33 (fun x h => (hnt x h).elim) (Nat.le_of_ble_eq_true rfl) (Nat.le_of_ble_eq_true rfl) (Nat.le_of_ble_eq_true rfl) (Nat.le_of_ble_eq_true rfl) hlocks (fun t hal hz hkk => ⟨(fv_4, wd_5, ar_6), ⟨hF_fv_4, hA_ar_6, (fM_call (fM_rf [] _) fr_7 (by decide)), (fA_call (fA_rf [] _) fa_8 (by decide)), wf_9⟩, ⟨rfl, hP.kept (fun k q hk => hkk q.1 (hP k q hk).lt), va_K.moved hal hK⟩, Nat.le_trans hS.1 hz, fun q h1 h2 => (hkk q (Nat.lt_of_lt_of_le h1 hS.1)).trans (hS.2.1 q h1 h2)⟩) hS.2.2 (Nat.le_of_ble_eq_true rfl) (Nat.le_of_ble_eq_true rfl)
      · skip
        have i_16 : 0 ≤ b.toInt ∧ b.toInt ≤ 2147483647 := iv_le2 (⟨by decide, by decide⟩ : (0 : Int) ≤ (0 : Int32).toInt ∧ (0 : Int32).toInt ≤ 0) (iv_any b) (Int32.not_lt.mp c_14)
        refine lv_iload_n hx hb dX11_of_18 rfl (lv_at hl 2 rfl) ?_
        refine lv_bipush (v := 6) hx hb dX11_of_19 (by decide) ?_
        refine lv_icmp_le (tgt := 34) hx hb dX11_of_21 (by decide) (fun c_17 => ?_) (fun c_17 => ?_)
        · skip
          have i_18 : 0 ≤ b.toInt ∧ b.toInt ≤ 6 := iv_le1 i_16 (⟨by decide, by decide⟩ : (6 : Int) ≤ (6 : Int32).toInt ∧ (6 : Int32).toInt ≤ 6) c_17
          refine lv_aload_n hx hb dX11_of_34 rfl (lv_at hl 0 rfl) ?_
          refine gX_X11_16 hx hb htg hown hK hP dX11_of_35 ?_
          refine gX_X11_79 hx hb htg hown hK hP dX11_of_38 ?_
          refine lv_iload_n hx hb dX11_of_41 rfl (lv_at hl 1 rfl) ?_
          refine lv_iload_n hx hb dX11_of_42 rfl (lv_at hl 2 rfl) ?_
          refine va_calli (va_runV (As := [.int a, .int b]) (rest := []) ⟨hx, hb, hml, hown, hts⟩ (x_ptell l dC dI H.size ob ad cA hd fv_4 wd_5 ar_6 hF_fv_4 hA_ar_6 a b i_12) (cwV 2 hts (gV kw_6_142 kw_6_143 kw_6_144 kw_1_4 kw_6_145) rfl rfl rfl (by decide +kernel) ⟨Nat.le_of_ble_eq_true rfl, Nat.le_of_ble_eq_true rfl⟩) ⟨fun a U g mk q => ⟨q.1, q.2.1, q.2.2.1, va_K.moved (u := U) (U := U.calling g mk a) (Vm.Alike.refl U.vm) q.2.2.2⟩, va_recv hK hP (ci := 3) (q0 := 3) rfl rfl, fun U hU hW => ⟨rfl, by rw [hU], by rw [hU]; exact hP, va_K.moved hW.alike hK⟩⟩ rfl rfl hl.1 rfl (lv_room (Nat.le_of_ble_eq_true rfl)) dX11_of_43 ⟨Nat.le_of_ble_eq_true rfl, Nat.le_of_ble_eq_true rfl⟩) hS (fun q _ h9 => aX_up hS q h9) (aX_up hS) (fun r_19 u t H1 locs ht _ hw hB _ hk1 hS => ?_)
          obtain ⟨fv_20, wd_21, ar_22⟩ := u
          obtain ⟨hF_fv_20, hA_ar_22, fr_23, fa_24, wf_25, -⟩ := hw
          have wf_25 : wd_21.2 = wd_5.2 := wf_25
          have hP : va_P (dC, dI) vwCl (wsX ob ad cA fv_20 wd_21 ar_22) H1 := by have h9 := hB.1; rw [ht] at h9; exact h9
          have fr_23 : fM [] fv_4 fv_20 := fr_23
          have fa_24 : fA [] ar_6 ar_22 := fa_24
          generalize H1 = H at hP hS ⊢
          refine W.widen (k := 1) (n := 6) (Nat.le_of_ble_eq_true rfl) (Nat.le_of_ble_eq_true rfl) ?_
          exact vx_ret (W.iret (v := r_19) hx hb hr (fun t ht hW => ⟨⟨r_19, (fv_20, wd_21, ar_22), rfl, ⟨hF_fv_20, hA_ar_22, (fM_call (fM_call (fM_rf [] _) fr_7 (by decide)) fr_23 (by decide)), (fA_call (fA_call (fA_rf [] _) fa_8 (by decide)) fa_24 (by decide)), (wf_25.trans wf_9), trivial⟩, ⟨by rw [ht]; exact hP, va_K.moved hW.alike hK⟩⟩, hS.F ht⟩) hS.2.2 dX11_of_46)
        · skip
          have i_26 : 7 ≤ b.toInt ∧ b.toInt ≤ 2147483647 := iv_lt2 (⟨by decide, by decide⟩ : (6 : Int) ≤ (6 : Int32).toInt ∧ (6 : Int32).toInt ≤ 6) i_16 (Int32.not_le.mp c_17)
          exact ne_throw (sa := sN) hx hb hl0 (text := "no such person, or nothing such is told") hown (htg (.classLink RX11 207 "java/util/NoSuchElementException") kw_6_76) (htg (.initialized "java/util/NoSuchElementException") kw_1_30) hR_N (vx_hat (fun w h => hts w (atS_in w h)) atS_no (vx_c (va_Nw.use rfl hN_N) (vx_c (va_Nw.use rfl hN_d0) (vx_c (va_Nw.use rfl hN_d1) (vx_c (va_Nw.use rfl hN_d2) vx_n))))) atS_ot hZ_U hZ_N hS (by rw [hml]; exact hl.1) dX11_of_24 dX11_of_27 dX11_of_28 dX11_of_30 dX11_of_33 (fun x h => (hnt x h).elim) (Nat.le_of_ble_eq_true rfl) (Nat.le_of_ble_eq_true rfl) (Nat.le_of_ble_eq_true rfl) (Nat.le_of_ble_eq_true rfl) hlocks (fun t hal hz hkk => ⟨(fv_4, wd_5, ar_6), ⟨hF_fv_4, hA_ar_6, (fM_call (fM_rf [] _) fr_7 (by decide)), (fA_call (fA_rf [] _) fa_8 (by decide)), wf_9⟩, ⟨rfl, hP.kept (fun k q hk => hkk q.1 (hP k q hk).lt), va_K.moved hal hK⟩, Nat.le_trans hS.1 hz, fun q h1 h2 => (hkk q (Nat.lt_of_lt_of_le h1 hS.1)).trans (hS.2.1 q h1 h2)⟩) hS.2.2 (Nat.le_of_ble_eq_true rfl) (Nat.le_of_ble_eq_true rfl)

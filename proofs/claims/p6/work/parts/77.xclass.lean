theorem dX3_classify_0 : decode cX3_classify 0 = .ok (.iconst 0, 1) := by decide +kernel
theorem dX3_classify_1 : decode cX3_classify 1 = .ok (.istore_n 3, 1) := by decide +kernel
theorem dX3_classify_2 : decode cX3_classify 2 = .ok (.iload_n 1, 1) := by decide +kernel
theorem dX3_classify_3 : decode cX3_classify 3 = .ok (.istore 4, 2) := by decide +kernel
theorem dX3_classify_5 : decode cX3_classify 5 = .ok (.iload 4, 2) := by decide +kernel
theorem dX3_classify_7 : decode cX3_classify 7 = .ok (.iload_n 2, 1) := by decide +kernel
theorem dX3_classify_8 : decode cX3_classify 8 = .ok (.if_icmp .ge 22, 3) := by decide +kernel
theorem dX3_classify_11 : decode cX3_classify 11 = .ok (.aload_n 0, 1) := by decide +kernel
theorem dX3_classify_12 : decode cX3_classify 12 = .ok (.iload 4, 2) := by decide +kernel
theorem dX3_classify_14 : decode cX3_classify 14 = .ok (.iaload, 1) := by decide +kernel
theorem dX3_classify_15 : decode cX3_classify 15 = .ok (.invokestatic 126, 3) := by decide +kernel
theorem dX3_classify_18 : decode cX3_classify 18 = .ok (.ifCond .eq 6, 3) := by decide +kernel
theorem dX3_classify_21 : decode cX3_classify 21 = .ok (.iinc 3 1, 3) := by decide +kernel
theorem dX3_classify_24 : decode cX3_classify 24 = .ok (.iinc 4 1, 3) := by decide +kernel
theorem dX3_classify_27 : decode cX3_classify 27 = .ok (.goto (-22), 3) := by decide +kernel
theorem dX3_classify_30 : decode cX3_classify 30 = .ok (.iload_n 2, 1) := by decide +kernel
theorem dX3_classify_31 : decode cX3_classify 31 = .ok (.iload_n 1, 1) := by decide +kernel
theorem dX3_classify_32 : decode cX3_classify 32 = .ok (.isub, 1) := by decide +kernel
theorem dX3_classify_33 : decode cX3_classify 33 = .ok (.istore 4, 2) := by decide +kernel
theorem dX3_classify_35 : decode cX3_classify 35 = .ok (.iload_n 3, 1) := by decide +kernel
theorem dX3_classify_36 : decode cX3_classify 36 = .ok (.iload 4, 2) := by decide +kernel
theorem dX3_classify_38 : decode cX3_classify 38 = .ok (.if_icmp .ne 19, 3) := by decide +kernel
theorem dX3_classify_41 : decode cX3_classify 41 = .ok (.iload 4, 2) := by decide +kernel
theorem dX3_classify_43 : decode cX3_classify 43 = .ok (.iconst 4, 1) := by decide +kernel
theorem dX3_classify_44 : decode cX3_classify 44 = .ok (.if_icmp .gt 9, 3) := by decide +kernel
theorem dX3_classify_47 : decode cX3_classify 47 = .ok (.getstatic 129, 3) := by decide +kernel
theorem dX3_classify_50 : decode cX3_classify 50 = .ok (.goto 6, 3) := by decide +kernel
theorem dX3_classify_53 : decode cX3_classify 53 = .ok (.getstatic 119, 3) := by decide +kernel
theorem dX3_classify_56 : decode cX3_classify 56 = .ok (.areturn, 1) := by decide +kernel
theorem dX3_classify_57 : decode cX3_classify 57 = .ok (.iload_n 3, 1) := by decide +kernel
theorem dX3_classify_58 : decode cX3_classify 58 = .ok (.ifCond .gt 10, 3) := by decide +kernel
theorem dX3_classify_61 : decode cX3_classify 61 = .ok (.iload 4, 2) := by decide +kernel
theorem dX3_classify_63 : decode cX3_classify 63 = .ok (.bipush 8, 2) := by decide +kernel
theorem dX3_classify_65 : decode cX3_classify 65 = .ok (.if_icmp .le 9, 3) := by decide +kernel
theorem dX3_classify_68 : decode cX3_classify 68 = .ok (.getstatic 119, 3) := by decide +kernel
theorem dX3_classify_71 : decode cX3_classify 71 = .ok (.goto 10, 3) := by decide +kernel
theorem dX3_classify_74 : decode cX3_classify 74 = .ok (.aload_n 0, 1) := by decide +kernel
theorem dX3_classify_75 : decode cX3_classify 75 = .ok (.iload_n 1, 1) := by decide +kernel
theorem dX3_classify_76 : decode cX3_classify 76 = .ok (.iload 4, 2) := by decide +kernel
theorem dX3_classify_78 : decode cX3_classify 78 = .ok (.invokestatic 132, 3) := by decide +kernel
theorem dX3_classify_81 : decode cX3_classify 81 = .ok (.areturn, 1) := by decide +kernel
set_option maxHeartbeats 4000000 in
set_option maxRecDepth 100000 in
theorem x_classify (l : Launch) (dC : Nat → ClassId) (dI : Nat → Nat → Nat) (sz : Nat) (ob ad : Nat → Nat) (cA : Nat → ClassId) (hd : dX ob ad) (fv : Nat → Int32) (wd : xT) (ar : Nat → Nat → Int32) (hF_fv : rX fv) (hA_ar : rB ar) (tkK tkV tkL : Nat → Nat) (tkB : Nat → Nat → Int32) (tkT : Nat) (tA : Nat → Nat) (hto : tO tA wd.2.1) (at_ : Int32) (bh : Int32) (h_at_ : 0 ≤ at_.toInt ∧ at_.toInt ≤ 299) (h_bh : 0 ≤ bh.toInt ∧ bh.toInt ≤ 340) : Met l yX3_classify (.code yX3_classify cX3_classify 5 (some (.object "WalkingTown$Token")) :: lw_good) ({ frames := 8, cells := 0, slots := 0, locals := 174 }) (va_Pc [.ref (ad 1), .int at_, .int bh] (fun U => prX dC dI ob ad cA fv wd ar sz U ∧ tkA ob ad tA sz U ∧ txA ob ad tA tkK tkV tkL tkB tkT sz U)) (va_Qr (fun (u : xS) => rX u.1 ∧ rB u.2.2 ∧ fM [] fv u.1 ∧ fA [] ar u.2.2 ∧ u.2.1.2 = wd.2 ∧ True) (fun (u : xS) (ra : Nat) (t : State) => enX dC dI ob ad cA u t ∧ ∃ j : Nat, j < 32 ∧ ra = tA j) (aX ob ad sz)) 0 0 (aX ob ad sz) := by
  refine Met.ofW (cc := cX3_classify) (maxL := 5) (ret := (some (.object "WalkingTown$Token"))) (by decide) rfl ?_
  intro p e s m args below meth c s₁ B hml hv
  obtain ⟨rfl, ⟨hsz, hP, hK⟩, hE, hX⟩ := hv
  have hx := B.exec
  have hb := B.bytes
  have hr := B.returns
  have hts := atoms_spec (ws := (.code yX3_classify cX3_classify 5 (some (.object "WalkingTown$Token")) :: lw_good)) B.pre
  have htg : ∀ w ∈ lw_good, w.before _ s = true := fun w hw => hts w (List.mem_cons_of_mem _ hw)
  have hown : s.vm.findClass RX3 = some m.cls := findClass_of_methodNamed B.named
  have hlocks := B.notSynchronized
  subst hsz
  have hS : va_S (aX ob ad s.heap.size) s.heap s.heap [] := va_S.rf
  have hl := lv_entry ([.ref (ad 1), .int at_, .int bh]) (n := 5) (Nat.le_of_ble_eq_true rfl)
  rw [lg_entry_eq]
  generalize (lg_sl ([.ref (ad 1), .int at_, .int bh]) ++ List.replicate (5 - (lg_sl ([.ref (ad 1), .int at_, .int bh])).length) Slot.unset).toArray = ls at hl ⊢
  have hl : lv_has ls 5 [(0, .ref (ad 1)), (1, .int at_), (2, .int bh)] := hl
  refine lv_iconst (v := 0) hx hb dX3_classify_0 (by decide) ?_
  refine lv_istore_n (lv' := [(3, .int 0), (0, .ref (ad 1)), (1, .int at_), (2, .int bh)]) hx hb dX3_classify_1 rfl hl (by decide) rfl (fun ls hl => ?_)
  refine lv_iload_n hx hb dX3_classify_2 rfl (lv_at hl 2 rfl) ?_
  refine lv_istore (lv' := [(4, .int at_), (3, .int 0), (0, .ref (ad 1)), (1, .int at_), (2, .int bh)]) hx hb dX3_classify_3 hl (by decide) rfl (fun ls hl => ?_)
  refine my_cut (P := fun R9 a9 Q9 => ∀ (n_3 : Nat) (x_1 : Int32) (x_2 : Int32) (H : Heap) (locs : List Loc) (ls : Array Slot), 340 - x_2.toInt < (n_3 : Int) → (0 ≤ x_2.toInt ∧ x_2.toInt ≤ 340) → va_P (dC, dI) vwCl (wsX ob ad cA fv wd ar) H → va_S (aX ob ad s.heap.size) s.heap H locs → lv_has ls 5 [(0, .ref (ad 1)), (1, .int at_), (2, .int bh), (3, .int x_1), (4, .int x_2)] → W p l e R9 s m a9 below meth c H locs 0 0 Q9 (F0 m 5 ls [])) ?_ (fun hj_5 => ?_)
  · intro n_3
    induction n_3 with
    | zero => intro x_1 x_2 H locs ls fu_4 i_x_2; exfalso; omega
    | succ n_3 ih_3 =>
      intro x_1 x_2 H locs ls fu_4 i_x_2 hP hS hl
      refine lv_iload hx hb dX3_classify_5 (lv_at hl 4 rfl) ?_
      refine lv_iload_n hx hb dX3_classify_7 rfl (lv_at hl 2 rfl) ?_
      refine lv_icmp_ge (tgt := 30) hx hb dX3_classify_8 (by decide) (fun c_6 => ?_) (fun c_6 => ?_)
      · skip
        refine lv_iload_n hx hb dX3_classify_30 rfl (lv_at hl 2 rfl) ?_
        refine lv_iload_n hx hb dX3_classify_31 rfl (lv_at hl 1 rfl) ?_
        refine lv_isub hx hb dX3_classify_32 ?_
        refine lv_topi (fun v_22 ev_22 => ?_)
        have t_23 : v_22.toInt = bh.toInt - at_.toInt ∧ (-299) ≤ v_22.toInt ∧ v_22.toInt ≤ 340 := iv_sub ev_22 h_bh h_at_ (by decide) (by decide)
        refine lv_istore (lv' := [(4, .int v_22), (0, .ref (ad 1)), (1, .int at_), (2, .int bh), (3, .int x_1)]) hx hb dX3_classify_33 hl (by decide) rfl (fun ls hl => ?_)
        refine lv_iload_n hx hb dX3_classify_35 rfl (lv_at hl 4 rfl) ?_
        refine lv_iload hx hb dX3_classify_36 (lv_at hl 0 rfl) ?_
        refine lv_icmp_ne (tgt := 57) hx hb dX3_classify_38 (by decide) (fun c_25 => ?_) (fun c_25 => ?_)
        · skip
          refine lv_iload_n hx hb dX3_classify_57 rfl (lv_at hl 4 rfl) ?_
          refine lv_if_gt (tgt := 68) hx hb dX3_classify_58 (by decide) (fun c_26 => ?_) (fun c_26 => ?_)
          · skip
            have i_27 : 1 ≤ x_1.toInt ∧ x_1.toInt ≤ 2147483647 := iv_lt2 (⟨by decide, by decide⟩ : (0 : Int) ≤ (0 : Int32).toInt ∧ (0 : Int32).toInt ≤ 0) (iv_any x_1) c_26
            refine va_gets hx hb (hE.1 31 (by decide)).1 hS hown (htg (.fieldLink RX3 119 "WalkingTown$Token" "WRONG" "LWalkingTown$Token;") kw_4_35) (fun _ h9 => h9) dX3_classify_68 ?_
            refine lv_goto (tgt := 81) hx hb dX3_classify_71 (by decide) ?_
            exact W.aret (v := .ref (tA 31)) hx hb hr (Or.inl ⟨_, rfl⟩) (Or.inr ⟨_, rfl⟩) (fun t ht hW => ⟨⟨(fv, wd, ar), tA 31, rfl, ⟨hF_fv, hA_ar, (fM_rf [] _), (fA_rf [] _), rfl, trivial⟩, ⟨⟨by rw [ht]; exact hP, va_K.moved hW.alike hK⟩, ⟨31, by decide, rfl⟩⟩⟩, hS.F ht⟩) hS.2.2 dX3_classify_81
          · skip
            have i_28 : (-2147483648) ≤ x_1.toInt ∧ x_1.toInt ≤ 0 := iv_le1 (iv_any x_1) (⟨by decide, by decide⟩ : (0 : Int) ≤ (0 : Int32).toInt ∧ (0 : Int32).toInt ≤ 0) (Int32.not_lt.mp c_26)
            refine lv_iload hx hb dX3_classify_61 (lv_at hl 0 rfl) ?_
            refine lv_bipush (v := 8) hx hb dX3_classify_63 (by decide) ?_
            refine lv_icmp_le (tgt := 74) hx hb dX3_classify_65 (by decide) (fun c_29 => ?_) (fun c_29 => ?_)
            · skip
              have i_30 : (-299) ≤ v_22.toInt ∧ v_22.toInt ≤ 8 := iv_le1 t_23.2 (⟨by decide, by decide⟩ : (8 : Int) ≤ (8 : Int32).toInt ∧ (8 : Int32).toInt ≤ 8) c_29
              refine lv_aload_n hx hb dX3_classify_74 rfl (lv_at hl 1 rfl) ?_
              refine lv_iload_n hx hb dX3_classify_75 rfl (lv_at hl 2 rfl) ?_
              refine lv_iload hx hb dX3_classify_76 (lv_at hl 0 rfl) ?_
              refine va_callr (va_runS (As := [.ref (ad 1), .int at_, .int v_22]) (rest := []) ⟨hx, hb, hml, hown, hts⟩ (x_lookUp l dC dI H.size ob ad cA hd fv wd ar hF_fv hA_ar tkK tkV tkL tkB tkT tA hto at_ v_22 h_at_) (va_cwS 3 hts (gS kw_4_37 kw_4_38 kw_1_11 kw_4_39) rfl rfl rfl (by decide +kernel) ⟨Nat.le_of_ble_eq_true rfl, Nat.le_of_ble_eq_true rfl⟩) ⟨fun a U g mk q => ⟨q.1, ⟨q.2.1.1, q.2.1.2.1, va_K.moved (u := U) (U := U.calling g mk a) (Vm.Alike.refl U.vm) q.2.1.2.2⟩, tk_mv (U := U.calling g mk a) rfl (Vm.Alike.refl U.vm) q.2.2.1, tx_mv (U := U.calling g mk a) rfl (Vm.Alike.refl U.vm) q.2.2.2⟩, fun U hU hW => ⟨rfl, ⟨by rw [hU], by rw [hU]; exact hP, va_K.moved hW.alike hK⟩, tk_pass hE hS hU hW.alike, tx_pass hX hS hU hW.alike⟩⟩ rfl rfl hl.1 rfl (lv_room (Nat.le_of_ble_eq_true rfl)) dX3_classify_78 ⟨Nat.le_of_ble_eq_true rfl, Nat.le_of_ble_eq_true rfl⟩) hS (fun q _ h9 => aX_up hS q h9) (aX_up hS) (fun u r_31 t H1 locs ht _ hw hB _ hk1 hS => ?_)
              obtain ⟨fv_32, wd_33, ar_34⟩ := u
              obtain ⟨hF_fv_32, hA_ar_34, fr_35, fa_36, wf_37, -⟩ := hw
              have wf_37 : wd_33.2 = wd.2 := wf_37
              have hP : va_P (dC, dI) vwCl (wsX ob ad cA fv_32 wd_33 ar_34) H1 := by have h9 := hB.1.1; rw [ht] at h9; exact h9
              have fr_35 : fM [] fv fv_32 := fr_35
              have fa_36 : fA [] ar ar_34 := fa_36
              generalize H1 = H at hP hS ⊢
              obtain ⟨j_38, lj_38, rj_38⟩ := hB.2
              subst rj_38
              exact W.aret (v := .ref (tA j_38)) hx hb hr (Or.inl ⟨_, rfl⟩) (Or.inr ⟨_, rfl⟩) (fun t ht hW => ⟨⟨(fv_32, wd_33, ar_34), tA j_38, rfl, ⟨hF_fv_32, hA_ar_34, (fM_call (fM_rf [] _) fr_35 (by decide)), (fA_call (fA_rf [] _) fa_36 (by decide)), wf_37, trivial⟩, ⟨⟨by rw [ht]; exact hP, va_K.moved hW.alike hK⟩, ⟨j_38, lj_38, rfl⟩⟩⟩, hS.F ht⟩) hS.2.2 dX3_classify_81
            · skip
              have i_39 : 9 ≤ v_22.toInt ∧ v_22.toInt ≤ 340 := iv_lt2 (⟨by decide, by decide⟩ : (8 : Int) ≤ (8 : Int32).toInt ∧ (8 : Int32).toInt ≤ 8) t_23.2 (Int32.not_le.mp c_29)
              refine va_gets hx hb (hE.1 31 (by decide)).1 hS hown (htg (.fieldLink RX3 119 "WalkingTown$Token" "WRONG" "LWalkingTown$Token;") kw_4_35) (fun _ h9 => h9) dX3_classify_68 ?_
              refine lv_goto (tgt := 81) hx hb dX3_classify_71 (by decide) ?_
              exact W.aret (v := .ref (tA 31)) hx hb hr (Or.inl ⟨_, rfl⟩) (Or.inr ⟨_, rfl⟩) (fun t ht hW => ⟨⟨(fv, wd, ar), tA 31, rfl, ⟨hF_fv, hA_ar, (fM_rf [] _), (fA_rf [] _), rfl, trivial⟩, ⟨⟨by rw [ht]; exact hP, va_K.moved hW.alike hK⟩, ⟨31, by decide, rfl⟩⟩⟩, hS.F ht⟩) hS.2.2 dX3_classify_81
        · skip
          have i_40 : (-299) ≤ x_1.toInt ∧ x_1.toInt ≤ 340 := iv_eq1 t_23.2 c_25
          refine lv_iload hx hb dX3_classify_41 (lv_at hl 0 rfl) ?_
          refine lv_iconst (v := 4) hx hb dX3_classify_43 (by decide) ?_
          refine lv_icmp_gt (tgt := 53) hx hb dX3_classify_44 (by decide) (fun c_41 => ?_) (fun c_41 => ?_)
          · skip
            have i_42 : 5 ≤ v_22.toInt ∧ v_22.toInt ≤ 340 := iv_lt2 (⟨by decide, by decide⟩ : (4 : Int) ≤ (4 : Int32).toInt ∧ (4 : Int32).toInt ≤ 4) t_23.2 c_41
            refine va_gets hx hb (hE.1 31 (by decide)).1 hS hown (htg (.fieldLink RX3 119 "WalkingTown$Token" "WRONG" "LWalkingTown$Token;") kw_4_35) (fun _ h9 => h9) dX3_classify_53 ?_
            exact W.aret (v := .ref (tA 31)) hx hb hr (Or.inl ⟨_, rfl⟩) (Or.inr ⟨_, rfl⟩) (fun t ht hW => ⟨⟨(fv, wd, ar), tA 31, rfl, ⟨hF_fv, hA_ar, (fM_rf [] _), (fA_rf [] _), rfl, trivial⟩, ⟨⟨by rw [ht]; exact hP, va_K.moved hW.alike hK⟩, ⟨31, by decide, rfl⟩⟩⟩, hS.F ht⟩) hS.2.2 dX3_classify_56
          · skip
            have i_43 : (-299) ≤ v_22.toInt ∧ v_22.toInt ≤ 4 := iv_le1 t_23.2 (⟨by decide, by decide⟩ : (4 : Int) ≤ (4 : Int32).toInt ∧ (4 : Int32).toInt ≤ 4) (Int32.not_lt.mp c_41)
            refine va_gets hx hb (hE.1 29 (by decide)).1 hS hown (htg (.fieldLink RX3 129 "WalkingTown$Token" "NUMBER" "LWalkingTown$Token;") kw_4_33) (fun _ h9 => h9) dX3_classify_47 ?_
            refine lv_goto (tgt := 56) hx hb dX3_classify_50 (by decide) ?_
            exact W.aret (v := .ref (tA 29)) hx hb hr (Or.inl ⟨_, rfl⟩) (Or.inr ⟨_, rfl⟩) (fun t ht hW => ⟨⟨(fv, wd, ar), tA 29, rfl, ⟨hF_fv, hA_ar, (fM_rf [] _), (fA_rf [] _), rfl, trivial⟩, ⟨⟨by rw [ht]; exact hP, va_K.moved hW.alike hK⟩, ⟨29, by decide, rfl⟩⟩⟩, hS.F ht⟩) hS.2.2 dX3_classify_56
      · skip
        have i_7 : 0 ≤ x_2.toInt ∧ x_2.toInt ≤ 339 := iv_lt1 i_x_2 h_bh (Int32.not_le.mp c_6)
        have i_8 : 1 ≤ bh.toInt ∧ bh.toInt ≤ 340 := iv_lt2 i_x_2 h_bh (Int32.not_le.mp c_6)
        refine lv_aload_n hx hb dX3_classify_11 rfl (lv_at hl 0 rfl) ?_
        refine lv_iload hx hb dX3_classify_12 (lv_at hl 4 rfl) ?_
        refine lX_1 hx hb hK hP (iv_in i_7 (by decide) (by decide)) dX3_classify_14 (fun v_9 ev_9 => ?_)
        have i_10 : 0 ≤ v_9.toInt ∧ v_9.toInt ≤ 255 := ev_9 ▸ hA_ar 1 _
        refine va_calli (va_runS (As := [.int v_9]) (rest := []) ⟨hx, hb, hml, hown, hts⟩ (x_isDigit l H.size v_9) (va_cwS 1 hts (gS kw_4_24 kw_4_25 kw_1_11 kw_4_26) rfl rfl rfl (by decide +kernel) ⟨Nat.le_of_ble_eq_true rfl, Nat.le_of_ble_eq_true rfl⟩) ⟨fun a U g mk q => ⟨q.1, q.2⟩, fun U hU hW => ⟨rfl, congrArg Array.size hU⟩⟩ rfl rfl hl.1 rfl (lv_room (Nat.le_of_ble_eq_true rfl)) dX3_classify_15 ⟨Nat.le_of_ble_eq_true rfl, Nat.le_of_ble_eq_true rfl⟩) hS (fun q _ h9 => nX_up hS q h9) (nX_up hS) (fun r_11 u t H1 locs ht _ hw hB _ hk1 hS => ?_)
        obtain ⟨p_12, -⟩ := hw
        have hP := my_keepM hP hk1
        generalize H1 = H at hP hS ⊢
        refine my_cut (P := fun R9 a9 Q9 => ∀ (x_17 : Int32) (H : Heap) (locs : List Loc) (ls : Array Slot), va_P (dC, dI) vwCl (wsX ob ad cA fv wd ar) H → va_S (aX ob ad s.heap.size) s.heap H locs → lv_has ls 5 [(0, .ref (ad 1)), (1, .int at_), (2, .int bh), (3, .int x_17), (4, .int x_2)] → W p l e R9 s m a9 below meth c H locs 0 0 Q9 (F0 m 24 ls [])) ?_ (fun hj_18 => ?_)
        · intro x_17 H locs ls  hP hS hl
          obtain ⟨v_19, ev_19⟩ : ∃ z : Int32, z = x_2 + 1 := ⟨_, rfl⟩
          refine lv_iinc (v := v_19) (lv' := [(4, .int v_19), (0, .ref (ad 1)), (1, .int at_), (2, .int bh), (3, .int x_17)]) hx hb dX3_classify_24 hl (k := 4) rfl (by rw [ev_19]; rfl) (by decide) rfl (fun ls hl => ?_)
          have t_20 : v_19.toInt = x_2.toInt + 1 ∧ 1 ≤ v_19.toInt ∧ v_19.toInt ≤ 340 := iv_addc ev_19 i_7 (by decide) (by decide) (by decide)
          refine lv_goto (tgt := 5) hx hb dX3_classify_27 (by decide) ?_
          exact ih_3 x_17 v_19 _ _ ls (by omega) (iv_w t_20.2 (by decide) (by decide)) hP hS (lv_sub hl [1, 2, 3, 4, 0] rfl)
        · skip
          refine lv_if_eq (tgt := 24) hx hb dX3_classify_18 (by decide) (fun c_13 => ?_) (fun c_13 => ?_)
          · skip
            have i_14 : 0 ≤ r_11.toInt ∧ r_11.toInt ≤ 0 := iv_eq1 (⟨by decide, by decide⟩ : (0 : Int) ≤ (0 : Int32).toInt ∧ (0 : Int32).toInt ≤ 0) c_13
            exact hj_18 x_1 _ _ ls  hP hS (lv_sub hl [0, 1, 2, 3, 4] rfl)
          · skip
            have i_15 : 1 ≤ r_11.toInt ∧ r_11.toInt ≤ 1 := iv_nel p_12 (by decide) c_13
            obtain ⟨v_16, ev_16⟩ : ∃ z : Int32, z = x_1 + 1 := ⟨_, rfl⟩
            refine lv_iinc (v := v_16) (lv' := [(3, .int v_16), (0, .ref (ad 1)), (1, .int at_), (2, .int bh), (4, .int x_2)]) hx hb dX3_classify_21 hl (k := 3) rfl (by rw [ev_16]; rfl) (by decide) rfl (fun ls hl => ?_)
            exact hj_18 v_16 _ _ ls  hP hS (lv_sub hl [1, 2, 3, 0, 4] rfl)
  · skip
    have z_44 : (0 : Int32).toInt = 0 := by decide
    exact hj_5 341 0 at_ _ _ ls (by first | decide | omega) (iv_w h_at_ (by decide) (by decide)) hP hS (lv_sub hl [2, 3, 4, 1, 0] rfl)

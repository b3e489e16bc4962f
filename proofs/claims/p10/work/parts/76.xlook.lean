theorem dX3_lookUp_0 : decode cX3_lookUp 0 = .ok (.getstatic 135, 3) := by decide +kernel
theorem dX3_lookUp_3 : decode cX3_lookUp 3 = .ok (.astore_n 3, 1) := by decide +kernel
theorem dX3_lookUp_4 : decode cX3_lookUp 4 = .ok (.aload_n 3, 1) := by decide +kernel
theorem dX3_lookUp_5 : decode cX3_lookUp 5 = .ok (.arraylength, 1) := by decide +kernel
theorem dX3_lookUp_6 : decode cX3_lookUp 6 = .ok (.istore 4, 2) := by decide +kernel
theorem dX3_lookUp_8 : decode cX3_lookUp 8 = .ok (.iconst 0, 1) := by decide +kernel
theorem dX3_lookUp_9 : decode cX3_lookUp 9 = .ok (.istore 5, 2) := by decide +kernel
theorem dX3_lookUp_11 : decode cX3_lookUp 11 = .ok (.iload 5, 2) := by decide +kernel
theorem dX3_lookUp_13 : decode cX3_lookUp 13 = .ok (.iload 4, 2) := by decide +kernel
theorem dX3_lookUp_15 : decode cX3_lookUp 15 = .ok (.if_icmp .ge 43, 3) := by decide +kernel
theorem dX3_lookUp_18 : decode cX3_lookUp 18 = .ok (.aload_n 3, 1) := by decide +kernel
theorem dX3_lookUp_19 : decode cX3_lookUp 19 = .ok (.iload 5, 2) := by decide +kernel
theorem dX3_lookUp_21 : decode cX3_lookUp 21 = .ok (.aaload, 1) := by decide +kernel
theorem dX3_lookUp_22 : decode cX3_lookUp 22 = .ok (.astore 6, 2) := by decide +kernel
theorem dX3_lookUp_24 : decode cX3_lookUp 24 = .ok (.aload 6, 2) := by decide +kernel
theorem dX3_lookUp_26 : decode cX3_lookUp 26 = .ok (.getfield 138, 3) := by decide +kernel
theorem dX3_lookUp_29 : decode cX3_lookUp 29 = .ok (.invokevirtual 142, 3) := by decide +kernel
theorem dX3_lookUp_32 : decode cX3_lookUp 32 = .ok (.iload_n 2, 1) := by decide +kernel
theorem dX3_lookUp_33 : decode cX3_lookUp 33 = .ok (.if_icmp .ne 19, 3) := by decide +kernel
theorem dX3_lookUp_36 : decode cX3_lookUp 36 = .ok (.aload 6, 2) := by decide +kernel
theorem dX3_lookUp_38 : decode cX3_lookUp 38 = .ok (.getfield 138, 3) := by decide +kernel
theorem dX3_lookUp_41 : decode cX3_lookUp 41 = .ok (.aload_n 0, 1) := by decide +kernel
theorem dX3_lookUp_42 : decode cX3_lookUp 42 = .ok (.iload_n 1, 1) := by decide +kernel
theorem dX3_lookUp_43 : decode cX3_lookUp 43 = .ok (.invokestatic 148, 3) := by decide +kernel
theorem dX3_lookUp_46 : decode cX3_lookUp 46 = .ok (.ifCond .eq 6, 3) := by decide +kernel
theorem dX3_lookUp_49 : decode cX3_lookUp 49 = .ok (.aload 6, 2) := by decide +kernel
theorem dX3_lookUp_51 : decode cX3_lookUp 51 = .ok (.areturn, 1) := by decide +kernel
theorem dX3_lookUp_52 : decode cX3_lookUp 52 = .ok (.iinc 5 1, 3) := by decide +kernel
theorem dX3_lookUp_55 : decode cX3_lookUp 55 = .ok (.goto (-44), 3) := by decide +kernel
theorem dX3_lookUp_58 : decode cX3_lookUp 58 = .ok (.getstatic 119, 3) := by decide +kernel
theorem dX3_lookUp_61 : decode cX3_lookUp 61 = .ok (.areturn, 1) := by decide +kernel
def txA (ob ad tA tkK tkV tkL : Nat → Nat) (tkB : Nat → Nat → Int32) (tkT sz : Nat) (U : State) : Prop := va_Z "WalkingTown$Reader" "TOKENS" "[LWalkingTown$Token;" (.ref tkT) (aX ob ad sz) U U.heap ∧ va_T (.object "WalkingTown$Token") tkT 32 (fun j => .ref (tA j)) (aX ob ad sz) U U.heap ∧ ∀ j, j < 32 → va_OF "WalkingTown$Token" "text" "Ljava/lang/String;" (.ref (tkK j)) (tA j) (aX ob ad sz) U U.heap ∧ stA (tkK j) (tkV j) (tkL j) (tkB j) (aX ob ad sz) U
theorem tx_mv {ob ad tA tkK tkV tkL : Nat → Nat} {tkB : Nat → Nat → Int32} {tkT sz : Nat} {u U : State} (hU : U.heap = u.heap) (hv : u.vm.Alike U.vm) (h : txA ob ad tA tkK tkV tkL tkB tkT sz u) : txA ob ad tA tkK tkV tkL tkB tkT sz U := by
  refine ⟨?_, ?_, fun j hj => ⟨?_, st_mv hU hv (h.2.2 j hj).2⟩⟩
  · rw [hU]; exact va_Z.moved hv h.1
  · rw [hU]; exact va_T.moved hv h.2.1
  · rw [hU]; exact va_OF.moved hv (h.2.2 j hj).1
theorem tx_pass {ob ad tA tkK tkV tkL : Nat → Nat} {tkB : Nat → Nat → Int32} {tkT : Nat} {s U : State} {H : Heap} {locs : List Loc} (h : txA ob ad tA tkK tkV tkL tkB tkT s.heap.size s) (hS : va_S (aX ob ad s.heap.size) s.heap H locs) (hU : U.heap = H) (hv : s.vm.Alike U.vm) : txA ob ad tA tkK tkV tkL tkB tkT H.size U := by
  refine ⟨?_, ?_, fun j hj => ⟨?_, st_pass (h.2.2 j hj).2 hS hU hv (aX_up hS)⟩⟩
  · rw [hU]; exact va_Z.moved hv ((h.1.kept hS.2.1).narrow (aX_up hS))
  · rw [hU]; exact va_T.moved hv ((h.2.1.kept hS.2.1).narrow (aX_up hS))
  · rw [hU]; exact va_OF.moved hv (((h.2.2 j hj).1.kept hS.2.1).narrow (aX_up hS))
set_option maxHeartbeats 4000000 in
set_option maxRecDepth 100000 in
theorem x_lookUp (l : Launch) (dC : Nat → ClassId) (dI : Nat → Nat → Nat) (sz : Nat) (ob ad : Nat → Nat) (cA : Nat → ClassId) (hd : dX ob ad) (fv : Nat → Int32) (wd : xT) (ar : Nat → Nat → Int32) (hF_fv : rX fv) (hA_ar : rB ar) (tkK tkV tkL : Nat → Nat) (tkB : Nat → Nat → Int32) (tkT : Nat) (tA : Nat → Nat) (hto : tO tA wd.2.1) (at_ : Int32) (lm : Int32) (h_at_ : 0 ≤ at_.toInt ∧ at_.toInt ≤ 299) : Met l yX3_lookUp (.code yX3_lookUp cX3_lookUp 7 (some (.object "WalkingTown$Token")) :: lw_good) ({ frames := 7, cells := 0, slots := 0, locals := 148 }) (va_Pc [.ref (ad 1), .int at_, .int lm] (fun U => prX dC dI ob ad cA fv wd ar sz U ∧ tkA ob ad tA sz U ∧ txA ob ad tA tkK tkV tkL tkB tkT sz U)) (va_Qr (fun (u : xS) => rX u.1 ∧ rB u.2.2 ∧ fM [] fv u.1 ∧ fA [] ar u.2.2 ∧ u.2.1.2 = wd.2 ∧ True) (fun (u : xS) (ra : Nat) (t : State) => enX dC dI ob ad cA u t ∧ ∃ j : Nat, j < 32 ∧ ra = tA j) (aX ob ad sz)) 0 0 (aX ob ad sz) := by
  refine Met.ofW (cc := cX3_lookUp) (maxL := 7) (ret := (some (.object "WalkingTown$Token"))) (by decide) rfl ?_
  intro p e s m args below meth c s₁ B hml hv
  obtain ⟨rfl, ⟨hsz, hP, hK⟩, hE, hX⟩ := hv
  have hx := B.exec
  have hb := B.bytes
  have hr := B.returns
  have hts := atoms_spec (ws := (.code yX3_lookUp cX3_lookUp 7 (some (.object "WalkingTown$Token")) :: lw_good)) B.pre
  have htg : ∀ w ∈ lw_good, w.before _ s = true := fun w hw => hts w (List.mem_cons_of_mem _ hw)
  have hown : s.vm.findClass RX3 = some m.cls := findClass_of_methodNamed B.named
  have hlocks := B.notSynchronized
  subst hsz
  have hS : va_S (aX ob ad s.heap.size) s.heap s.heap [] := va_S.rf
  have hl := lv_entry ([.ref (ad 1), .int at_, .int lm]) (n := 7) (Nat.le_of_ble_eq_true rfl)
  rw [lg_entry_eq]
  generalize (lg_sl ([.ref (ad 1), .int at_, .int lm]) ++ List.replicate (7 - (lg_sl ([.ref (ad 1), .int at_, .int lm])).length) Slot.unset).toArray = ls at hl ⊢
  have hl : lv_has ls 7 [(0, .ref (ad 1)), (1, .int at_), (2, .int lm)] := hl
  refine va_gets hx hb hX.1 hS hown (htg (.fieldLink RX3 135 "WalkingTown$Reader" "TOKENS" "[LWalkingTown$Token;") kw_4_40) (fun _ h9 => h9) dX3_lookUp_0 ?_
  refine lv_astore_n (lv' := [(3, .ref tkT), (0, .ref (ad 1)), (1, .int at_), (2, .int lm)]) hx hb dX3_lookUp_3 rfl hl (by decide) rfl (fun ls hl => ?_)
  refine lv_aload_n hx hb dX3_lookUp_4 rfl (lv_at hl 0 rfl) ?_
  refine va_tlen hx hb hX.2.1 hS (v := 32) rfl dX3_lookUp_5 ?_
  refine lv_istore (lv' := [(4, .int 32), (3, .ref tkT), (0, .ref (ad 1)), (1, .int at_), (2, .int lm)]) hx hb dX3_lookUp_6 hl (by decide) rfl (fun ls hl => ?_)
  refine lv_iconst (v := 0) hx hb dX3_lookUp_8 (by decide) ?_
  refine lv_istore (lv' := [(5, .int 0), (4, .int 32), (3, .ref tkT), (0, .ref (ad 1)), (1, .int at_), (2, .int lm)]) hx hb dX3_lookUp_9 hl (by decide) rfl (fun ls hl => ?_)
  refine my_cut (P := fun R9 a9 Q9 => ∀ (n_8 : Nat) (x_1 : Int32) (fv_2 : Nat → Int32) (ar_4 : Nat → Nat → Int32) (wd_6 : xT) (H : Heap) (locs : List Loc) (ls : Array Slot), 32 - x_1.toInt < (n_8 : Int) → (0 ≤ x_1.toInt ∧ x_1.toInt ≤ 32) → rX fv_2 → fM [] fv fv_2 → rB ar_4 → fA [] ar ar_4 → wd_6.2 = wd.2 → va_P (dC, dI) vwCl (wsX ob ad cA fv_2 wd_6 ar_4) H → va_S (aX ob ad s.heap.size) s.heap H locs → lv_has ls 7 [(0, .ref (ad 1)), (1, .int at_), (2, .int lm), (3, .ref tkT), (4, .int 32), (5, .int x_1)] → W p l e R9 s m a9 below meth c H locs 0 0 Q9 (F0 m 11 ls [])) ?_ (fun hj_10 => ?_)
  · intro n_8
    induction n_8 with
    | zero => intro x_1 fv_2 ar_4 wd_6 H locs ls fu_9 i_x_1 hF_fv_2 fr_3 hA_ar_4 fa_5 wf_7; exfalso; omega
    | succ n_8 ih_8 =>
      intro x_1 fv_2 ar_4 wd_6 H locs ls fu_9 i_x_1 hF_fv_2 fr_3 hA_ar_4 fa_5 wf_7 hP hS hl
      refine lv_iload hx hb dX3_lookUp_11 (lv_at hl 5 rfl) ?_
      refine lv_iload hx hb dX3_lookUp_13 (lv_at hl 4 rfl) ?_
      refine lv_icmp_ge (tgt := 58) hx hb dX3_lookUp_15 (by decide) (fun c_11 => ?_) (fun c_11 => ?_)
      · skip
        have i_12 : 32 ≤ x_1.toInt ∧ x_1.toInt ≤ 32 := iv_le2 (⟨by decide, by decide⟩ : (32 : Int) ≤ (32 : Int32).toInt ∧ (32 : Int32).toInt ≤ 32) i_x_1 c_11
        refine va_gets hx hb (hE.1 31 (by decide)).1 hS hown (htg (.fieldLink RX3 119 "WalkingTown$Token" "WRONG" "LWalkingTown$Token;") kw_4_35) (fun _ h9 => h9) dX3_lookUp_58 ?_
        exact W.aret (v := .ref (tA 31)) hx hb hr (Or.inl ⟨_, rfl⟩) (Or.inr ⟨_, rfl⟩) (fun t ht hW => ⟨⟨(fv_2, wd_6, ar_4), tA 31, rfl, ⟨hF_fv_2, hA_ar_4, (fM_call (fM_rf [] _) fr_3 (by decide)), (fA_call (fA_rf [] _) fa_5 (by decide)), wf_7, trivial⟩, ⟨⟨by rw [ht]; exact hP, va_K.moved hW.alike hK⟩, ⟨31, by decide, rfl⟩⟩⟩, hS.F ht⟩) hS.2.2 dX3_lookUp_61
      · skip
        have i_13 : 0 ≤ x_1.toInt ∧ x_1.toInt ≤ 31 := iv_lt1 i_x_1 (⟨by decide, by decide⟩ : (32 : Int) ≤ (32 : Int32).toInt ∧ (32 : Int32).toInt ≤ 32) (Int32.not_le.mp c_11)
        refine lv_aload_n hx hb dX3_lookUp_18 rfl (lv_at hl 3 rfl) ?_
        refine lv_iload hx hb dX3_lookUp_19 (lv_at hl 5 rfl) ?_
        obtain ⟨j_14, ej_14⟩ : ∃ z : Nat, z = x_1.toInt.toNat := ⟨_, rfl⟩
        have lj_14 : j_14 < 32 := by have h9 := i_13; omega
        refine vb_tq hx hb hX.2.1 hS (iv_in i_13 (by decide) (by decide)) (v := .ref (tA j_14)) (by rw [ej_14]; rfl) dX3_lookUp_21 ?_
        refine lv_astore (lv' := [(6, .ref (tA j_14)), (0, .ref (ad 1)), (1, .int at_), (2, .int lm), (3, .ref tkT), (4, .int 32), (5, .int x_1)]) hx hb dX3_lookUp_22 hl (by decide) rfl (fun ls hl => ?_)
        refine lv_aload hx hb dX3_lookUp_24 (lv_at hl 0 rfl) ?_
        refine vk_getf hx hb (hX.2.2 j_14 lj_14).1 hS hown (htg (.fieldLink RX3 138 "WalkingTown$Token" "text" "Ljava/lang/String;") kw_9_63) (fun _ h9 => h9) dX3_lookUp_26 ?_
        refine va_calli (va_runV (As := []) (rest := []) ⟨hx, hb, hml, hown, hts⟩ (x_slen l H.size (tkK j_14) (tkV j_14) (tkL j_14) (tkB j_14)) (cwV 0 hts (gV kw_4_42 kw_4_43 kw_4_44 kw_1_19 kw_4_45) rfl rfl rfl (by decide +kernel) ⟨Nat.le_of_ble_eq_true rfl, Nat.le_of_ble_eq_true rfl⟩) ⟨fun a U g mk q => ⟨q.1, q.2.1, st_mv (U := U.calling g mk a) rfl (Vm.Alike.refl U.vm) q.2.2⟩, st_recv (hX.2.2 j_14 lj_14).2 hS, fun U hU hW => ⟨rfl, congrArg Array.size hU, st_pass (hX.2.2 j_14 lj_14).2 hS hU hW.alike (nX_up hS)⟩⟩ rfl rfl hl.1 rfl (lv_room (Nat.le_of_ble_eq_true rfl)) dX3_lookUp_29 ⟨Nat.le_of_ble_eq_true rfl, Nat.le_of_ble_eq_true rfl⟩) hS (fun q _ h9 => nX_up hS q h9) (nX_up hS) (fun r_15 u t H1 locs ht _ hw hB _ hk1 hS => ?_)
        obtain ⟨p_16, p_17, -⟩ := hw
        have hP := my_keepM hP hk1
        generalize H1 = H at hP hS ⊢
        refine lv_iload_n hx hb dX3_lookUp_32 rfl (lv_at hl 3 rfl) ?_
        refine lv_icmp_ne (tgt := 52) hx hb dX3_lookUp_33 (by decide) (fun c_18 => ?_) (fun c_18 => ?_)
        · skip
          obtain ⟨v_19, ev_19⟩ : ∃ z : Int32, z = x_1 + 1 := ⟨_, rfl⟩
          refine lv_iinc (v := v_19) (lv' := [(5, .int v_19), (6, .ref (tA j_14)), (0, .ref (ad 1)), (1, .int at_), (2, .int lm), (3, .ref tkT), (4, .int 32)]) hx hb dX3_lookUp_52 hl (k := 6) rfl (by rw [ev_19]; rfl) (by decide) rfl (fun ls hl => ?_)
          have t_20 : v_19.toInt = x_1.toInt + 1 ∧ 1 ≤ v_19.toInt ∧ v_19.toInt ≤ 32 := iv_addc ev_19 i_13 (by decide) (by decide) (by decide)
          refine lv_goto (tgt := 11) hx hb dX3_lookUp_55 (by decide) ?_
          exact ih_8 v_19 fv_2 ar_4 wd_6 _ _ ls (by omega) (iv_w t_20.2 (by decide) (by decide)) hF_fv_2 (fM_call (fM_rf [] _) fr_3 (by decide)) hA_ar_4 (fA_call (fA_rf [] _) fa_5 (by decide)) wf_7 hP hS (lv_sub hl [2, 3, 4, 5, 6, 0] rfl)
        · skip
          have i_22 : 0 ≤ lm.toInt ∧ lm.toInt ≤ 8 := iv_eq1 p_16 c_18.symm
          have k_23 := congrArg Int32.toInt c_18
          refine lv_aload hx hb dX3_lookUp_36 (lv_at hl 0 rfl) ?_
          refine vk_getf hx hb (hX.2.2 j_14 lj_14).1 hS hown (htg (.fieldLink RX3 138 "WalkingTown$Token" "text" "Ljava/lang/String;") kw_9_63) (fun _ h9 => h9) dX3_lookUp_38 ?_
          refine lv_aload_n hx hb dX3_lookUp_41 rfl (lv_at hl 1 rfl) ?_
          refine lv_iload_n hx hb dX3_lookUp_42 rfl (lv_at hl 2 rfl) ?_
          refine va_calli (va_runS (As := [.ref (tkK j_14), .ref (ad 1), .int at_]) (rest := []) ⟨hx, hb, hml, hown, hts⟩ (x_matches l dC dI H.size ob ad cA hd fv_2 wd_6 ar_4 hF_fv_2 hA_ar_4 (tkK j_14) (tkV j_14) (tkL j_14) (tkB j_14) at_ h_at_) (va_cwS 3 hts (gS kw_4_52 kw_4_53 kw_1_11 kw_4_54) rfl rfl rfl (by decide +kernel) ⟨Nat.le_of_ble_eq_true rfl, Nat.le_of_ble_eq_true rfl⟩) ⟨fun a U g mk q => ⟨q.1, ⟨q.2.1.1, q.2.1.2.1, va_K.moved (u := U) (U := U.calling g mk a) (Vm.Alike.refl U.vm) q.2.1.2.2⟩, st_mv (U := U.calling g mk a) rfl (Vm.Alike.refl U.vm) q.2.2⟩, fun U hU hW => ⟨rfl, ⟨by rw [hU], by rw [hU]; exact hP, va_K.moved hW.alike hK⟩, st_pass (hX.2.2 j_14 lj_14).2 hS hU hW.alike (aX_up hS)⟩⟩ rfl rfl hl.1 rfl (lv_room (Nat.le_of_ble_eq_true rfl)) dX3_lookUp_43 ⟨Nat.le_of_ble_eq_true rfl, Nat.le_of_ble_eq_true rfl⟩) hS (fun q _ h9 => aX_up hS q h9) (aX_up hS) (fun r_24 u t H1 locs ht _ hw hB _ hk1 hS => ?_)
          obtain ⟨fv_26, wd_27, ar_28⟩ := u
          obtain ⟨hF_fv_26, hA_ar_28, fr_29, fa_30, wf_31, p_25, -⟩ := hw
          have wf_31 : wd_27.2 = wd_6.2 := wf_31
          have hP : va_P (dC, dI) vwCl (wsX ob ad cA fv_26 wd_27 ar_28) H1 := by have h9 := hB.1; rw [ht] at h9; exact h9
          have fr_29 : fM [] fv_2 fv_26 := fr_29
          have fa_30 : fA [] ar_4 ar_28 := fa_30
          generalize H1 = H at hP hS ⊢
          refine lv_if_eq (tgt := 52) hx hb dX3_lookUp_46 (by decide) (fun c_32 => ?_) (fun c_32 => ?_)
          · skip
            have i_33 : 0 ≤ r_24.toInt ∧ r_24.toInt ≤ 0 := iv_eq1 (⟨by decide, by decide⟩ : (0 : Int) ≤ (0 : Int32).toInt ∧ (0 : Int32).toInt ≤ 0) c_32
            obtain ⟨v_35, ev_35⟩ : ∃ z : Int32, z = x_1 + 1 := ⟨_, rfl⟩
            refine lv_iinc (v := v_35) (lv' := [(5, .int v_35), (6, .ref (tA j_14)), (0, .ref (ad 1)), (1, .int at_), (2, .int lm), (3, .ref tkT), (4, .int 32)]) hx hb dX3_lookUp_52 hl (k := 6) rfl (by rw [ev_35]; rfl) (by decide) rfl (fun ls hl => ?_)
            have t_36 : v_35.toInt = x_1.toInt + 1 ∧ 1 ≤ v_35.toInt ∧ v_35.toInt ≤ 32 := iv_addc ev_35 i_13 (by decide) (by decide) (by decide)
            refine lv_goto (tgt := 11) hx hb dX3_lookUp_55 (by decide) ?_
            exact ih_8 v_35 fv_26 ar_28 wd_27 _ _ ls (by omega) (iv_w t_36.2 (by decide) (by decide)) hF_fv_26 (fM_call (fM_call (fM_rf [] _) fr_3 (by decide)) fr_29 (by decide)) hA_ar_28 (fA_call (fA_call (fA_rf [] _) fa_5 (by decide)) fa_30 (by decide)) (wf_31.trans wf_7) hP hS (lv_sub hl [2, 3, 4, 5, 6, 0] rfl)
          · skip
            have i_38 : 1 ≤ r_24.toInt ∧ r_24.toInt ≤ 1 := iv_nel p_25 (by decide) c_32
            have k_39 : ¬ r_24.toInt = 0 := fun q => c_32 (Int32.toInt_inj.mp q)
            refine lv_aload hx hb dX3_lookUp_49 (lv_at hl 0 rfl) ?_
            exact W.aret (v := .ref (tA j_14)) hx hb hr (Or.inl ⟨_, rfl⟩) (Or.inr ⟨_, rfl⟩) (fun t ht hW => ⟨⟨(fv_26, wd_27, ar_28), tA j_14, rfl, ⟨hF_fv_26, hA_ar_28, (fM_call (fM_call (fM_rf [] _) fr_3 (by decide)) fr_29 (by decide)), (fA_call (fA_call (fA_rf [] _) fa_5 (by decide)) fa_30 (by decide)), (wf_31.trans wf_7), trivial⟩, ⟨⟨by rw [ht]; exact hP, va_K.moved hW.alike hK⟩, ⟨j_14, lj_14, rfl⟩⟩⟩, hS.F ht⟩) hS.2.2 dX3_lookUp_51
  · skip
    have z_40 : (0 : Int32).toInt = 0 := by decide
    exact hj_10 33 0 fv ar wd _ _ ls (by first | decide | omega) (iv_w (⟨by decide, by decide⟩ : (0 : Int) ≤ (0 : Int32).toInt ∧ (0 : Int32).toInt ≤ 0) (by decide) (by decide)) hF_fv (fM_rf [] _) hA_ar (fA_rf [] _) rfl hP hS (lv_sub hl [3, 4, 5, 2, 1, 0] rfl)

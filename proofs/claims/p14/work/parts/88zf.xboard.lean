set_option maxHeartbeats 4000000 in
set_option maxRecDepth 100000 in
theorem x_boardE (l : Launch) (dC : Nat → ClassId) (dI : Nat → Nat → Nat) (sz : Nat) (ob ad : Nat → Nat) (cA : Nat → ClassId) (hd : dX ob ad) (fv : Nat → Int32) (wd : xT) (ar : Nat → Nat → Int32) (hF_fv : rX fv) (hA_ar : rB ar) (kk : Int32) (b : Int32) (h_kk : 0 ≤ kk.toInt ∧ kk.toInt ≤ 79) : Met l yX1_board (.code yX1_board cX1_board 7 (some .int) :: lw_good) ({ frames := 3, cells := 0, slots := 0, locals := 64 }) (va_Pc [.ref (ob 8), .int kk, .int b] (prX dC dI ob ad cA fv wd ar sz)) (va_Qi (fun (r : Int32) (u : xS) => rX u.1 ∧ rB u.2.2 ∧ fM [23] fv u.1 ∧ fA [44, 49, 50, 51] ar u.2.2 ∧ u.2.1.2 = wd.2 ∧ (0 ≤ r.toInt ∧ r.toInt ≤ 9) ∧ (mx_S u.1 u.2.2 = mo_xs (mx_D fv ar) (kk.toInt.toNat) b ((fv 10).toInt.toNat) (mx_S fv ar) (mo_seats (mx_D fv ar) (kk.toInt.toNat))) ∧ (r.toInt = mo_xn (mx_D fv ar) (kk.toInt.toNat) b ((fv 10).toInt.toNat) (mx_S fv ar) (mo_seats (mx_D fv ar) (kk.toInt.toNat))) ∧ True) (enX dC dI ob ad cA) (aX ob ad sz)) 0 0 (aX ob ad sz) := by
  refine Met.ofW (cc := cX1_board) (maxL := 7) (ret := (some .int)) (by decide) rfl ?_
  intro p e s m args below meth c s₁ B hml hv
  obtain ⟨rfl, hsz, hP, hK⟩ := hv
  have hx := B.exec
  have hb := B.bytes
  have hr := B.returns
  have hts := atoms_spec (ws := (.code yX1_board cX1_board 7 (some .int) :: lw_good)) B.pre
  have htg : ∀ w ∈ lw_good, w.before _ s = true := fun w hw => hts w (List.mem_cons_of_mem _ hw)
  have hown : s.vm.findClass RX1 = some m.cls := findClass_of_methodNamed B.named
  have hlocks := B.notSynchronized
  subst hsz
  have hS : va_S (aX ob ad s.heap.size) s.heap s.heap [] := va_S.rf
  have hl := lv_entry ([.ref (ob 8), .int kk, .int b]) (n := 7) (Nat.le_of_ble_eq_true rfl)
  rw [lg_entry_eq]
  generalize (lg_sl ([.ref (ob 8), .int kk, .int b]) ++ List.replicate (7 - (lg_sl ([.ref (ob 8), .int kk, .int b])).length) Slot.unset).toArray = ls at hl ⊢
  have hl : lv_has ls 7 [(0, .ref (ob 8)), (1, .int kk), (2, .int b)] := hl
  refine lv_aload_n hx hb dX1_board_0 rfl (lv_at hl 0 rfl) ?_
  refine gX_X1_9 hx hb htg hown hK hP dX1_board_1 ?_
  refine gX_X1_157 hx hb htg hown hK hP dX1_board_4 ?_
  refine gX_X1_176 hx hb htg hown hK hP dX1_board_7 ?_
  refine lv_iload_n hx hb dX1_board_10 rfl (lv_at hl 1 rfl) ?_
  refine lX_28 hx hb hK hP (iv_in h_kk (by decide) (by decide)) dX1_board_11 (fun v_1 ev_1 => ?_)
  have i_2 : 0 ≤ v_1.toInt ∧ v_1.toInt ≤ 19 := ev_1 ▸ hA_ar 28 _
  refine lv_istore_n (lv' := [(3, .int v_1), (0, .ref (ob 8)), (1, .int kk), (2, .int b)]) hx hb dX1_board_12 rfl hl (by decide) rfl (fun ls hl => ?_)
  refine lv_iconst (v := 0) hx hb dX1_board_13 (by decide) ?_
  refine lv_istore (lv' := [(4, .int 0), (3, .int v_1), (0, .ref (ob 8)), (1, .int kk), (2, .int b)]) hx hb dX1_board_14 hl (by decide) rfl (fun ls hl => ?_)
  refine lv_iconst (v := 0) hx hb dX1_board_16 (by decide) ?_
  refine lv_istore (lv' := [(5, .int 0), (4, .int 0), (3, .int v_1), (0, .ref (ob 8)), (1, .int kk), (2, .int b)]) hx hb dX1_board_17 hl (by decide) rfl (fun ls hl => ?_)
  refine my_cut (P := fun R9 a9 Q9 => ∀ (n_15 : Nat) (x_3 : Int32) (x_4 : Int32) (fv_5 : Nat → Int32) (ar_7 : Nat → Nat → Int32) (wd_9 : xT) (H : Heap) (locs : List Loc) (ls : Array Slot), 9 - x_4.toInt < (n_15 : Int) → (0 ≤ x_3.toInt ∧ x_3.toInt ≤ 9) → (0 ≤ x_4.toInt ∧ x_4.toInt ≤ 9) → rX fv_5 → fM [23] fv fv_5 → rB ar_7 → fA [44, 49, 50, 51] ar ar_7 → wd_9.2 = wd.2 → (mx_S fv_5 ar_7 = mo_xs (mx_D fv ar) (kk.toInt.toNat) b ((fv 10).toInt.toNat) (mx_S fv ar) (x_4.toInt.toNat)) → (x_3.toInt = mo_xn (mx_D fv ar) (kk.toInt.toNat) b ((fv 10).toInt.toNat) (mx_S fv ar) (x_4.toInt.toNat)) → (x_4.toInt ≤ (ar 22 ((ar 28 (kk.toInt.toNat)).toInt.toNat)).toInt) → (0 ≤ x_3.toInt ∧ x_3.toInt ≤ x_4.toInt) → va_P (dC, dI) vwCl (wsX ob ad cA fv_5 wd_9 ar_7) H → va_S (aX ob ad s.heap.size) s.heap H locs → lv_has ls 7 [(0, .ref (ob 8)), (1, .int kk), (2, .int b), (3, .int v_1), (4, .int x_3), (5, .int x_4)] → W p l e R9 s m a9 below meth c H locs 0 0 Q9 (F0 m 19 ls [])) ?_ (fun hj_17 => ?_)
  · intro n_15
    induction n_15 with
    | zero => intro x_3 x_4 fv_5 ar_7 wd_9 H locs ls fu_16 i_x_3 i_x_4 hF_fv_5 fr_6 hA_ar_7 fa_8 wf_10 q_11 q_12 q_13 q_14; exfalso; omega
    | succ n_15 ih_15 =>
      intro x_3 x_4 fv_5 ar_7 wd_9 H locs ls fu_16 i_x_3 i_x_4 hF_fv_5 fr_6 hA_ar_7 fa_8 wf_10 q_11 q_12 q_13 q_14 hP hS hl
      refine lv_iload hx hb dX1_board_19 (lv_at hl 5 rfl) ?_
      refine lv_aload_n hx hb dX1_board_21 rfl (lv_at hl 0 rfl) ?_
      refine gX_X1_9 hx hb htg hown hK hP dX1_board_22 ?_
      refine gX_X1_148 hx hb htg hown hK hP dX1_board_25 ?_
      refine gX_X1_250 hx hb htg hown hK hP dX1_board_28 ?_
      refine lv_iload_n hx hb dX1_board_31 rfl (lv_at hl 3 rfl) ?_
      refine lX_22 hx hb hK hP (iv_in i_2 (by decide) (by decide)) dX1_board_32 (fun v_18 ev_18 => ?_)
      have i_19 : 0 ≤ v_18.toInt ∧ v_18.toInt ≤ 9 := ev_18 ▸ hA_ar_7 22 _
      have k_20 := (show v_18.toInt = (ar 22 ((ar 28 (kk.toInt.toNat)).toInt.toNat)).toInt from by rw [show ar 28 (kk.toInt.toNat) = v_1 from ((show v_1 = ar 28 (kk.toInt.toNat) from by rw [ev_1]; exact congrArg (ar 28) (show kk.toInt.toNat = (kk.toInt.toNat) from by omega))).symm]; exact congrArg Int32.toInt (show v_18 = ar 22 (v_1.toInt.toNat) from by rw [ev_18, show ar_7 22 = ar 22 from ((fA_call (fA_rf [44, 49, 50, 51] _) fa_8 (by decide)) 22 rfl)]; exact congrArg (ar 22) (show v_1.toInt.toNat = (v_1.toInt.toNat) from by omega)))
      refine lv_icmp_ge (tgt := 92) hx hb dX1_board_33 (by decide) (fun c_21 => ?_) (fun c_21 => ?_)
      · skip
        have k_22 := Int32.le_iff_toInt_le.mp c_21
        refine lv_iload hx hb dX1_board_92 (lv_at hl 4 rfl) ?_
        exact W.iret (v := x_3) hx hb hr (fun t ht hW => ⟨⟨x_3, (fv_5, wd_9, ar_7), rfl, ⟨hF_fv_5, hA_ar_7, (fM_call (fM_rf [23] _) fr_6 (by decide)), (fA_call (fA_rf [44, 49, 50, 51] _) fa_8 (by decide)), wf_10, i_x_3, (show mx_S fv_5 ar_7 = mo_xs (mx_D fv ar) (kk.toInt.toNat) b ((fv 10).toInt.toNat) (mx_S fv ar) (mo_seats (mx_D fv ar) (kk.toInt.toNat)) from by have h9 := q_11; rw [show x_4.toInt.toNat = mo_seats (mx_D fv ar) (kk.toInt.toNat) from (by show _ = (ar 22 ((ar 28 (kk.toInt.toNat)).toInt.toNat)).toInt.toNat; have h8 := q_13; have h7 := (show v_18.toInt = (ar 22 ((ar 28 (kk.toInt.toNat)).toInt.toNat)).toInt from by rw [show ar 28 (kk.toInt.toNat) = v_1 from ((show v_1 = ar 28 (kk.toInt.toNat) from by rw [ev_1]; exact congrArg (ar 28) (show kk.toInt.toNat = (kk.toInt.toNat) from by omega))).symm]; exact congrArg Int32.toInt (show v_18 = ar 22 (v_1.toInt.toNat) from by rw [ev_18, show ar_7 22 = ar 22 from ((fA_call (fA_rf [44, 49, 50, 51] _) fa_8 (by decide)) 22 rfl)]; exact congrArg (ar 22) (show v_1.toInt.toNat = (v_1.toInt.toNat) from by omega))); omega)] at h9; exact h9), (show x_3.toInt = mo_xn (mx_D fv ar) (kk.toInt.toNat) b ((fv 10).toInt.toNat) (mx_S fv ar) (mo_seats (mx_D fv ar) (kk.toInt.toNat)) from by have h9 := q_12; rw [show x_4.toInt.toNat = mo_seats (mx_D fv ar) (kk.toInt.toNat) from (by show _ = (ar 22 ((ar 28 (kk.toInt.toNat)).toInt.toNat)).toInt.toNat; have h8 := q_13; have h7 := (show v_18.toInt = (ar 22 ((ar 28 (kk.toInt.toNat)).toInt.toNat)).toInt from by rw [show ar 28 (kk.toInt.toNat) = v_1 from ((show v_1 = ar 28 (kk.toInt.toNat) from by rw [ev_1]; exact congrArg (ar 28) (show kk.toInt.toNat = (kk.toInt.toNat) from by omega))).symm]; exact congrArg Int32.toInt (show v_18 = ar 22 (v_1.toInt.toNat) from by rw [ev_18, show ar_7 22 = ar 22 from ((fA_call (fA_rf [44, 49, 50, 51] _) fa_8 (by decide)) 22 rfl)]; exact congrArg (ar 22) (show v_1.toInt.toNat = (v_1.toInt.toNat) from by omega))); omega)] at h9; exact h9), trivial⟩, ⟨by rw [ht]; exact hP, va_K.moved hW.alike hK⟩⟩, hS.F ht⟩) hS.2.2 dX1_board_94
      · skip
        have i_23 : 0 ≤ x_4.toInt ∧ x_4.toInt ≤ 8 := iv_lt1 i_x_4 i_19 (Int32.not_le.mp c_21)
        have i_24 : 1 ≤ v_18.toInt ∧ v_18.toInt ≤ 9 := iv_lt2 i_x_4 i_19 (Int32.not_le.mp c_21)
        have k_25 := Int32.lt_iff_toInt_lt.mp (Int32.not_le.mp c_21)
        refine lv_aload_n hx hb dX1_board_36 rfl (lv_at hl 0 rfl) ?_
        refine lv_iload_n hx hb dX1_board_37 rfl (lv_at hl 1 rfl) ?_
        refine lv_iload_n hx hb dX1_board_38 rfl (lv_at hl 2 rfl) ?_
        have z_26 : (fv_5 10).toInt = (fv 10).toInt := congrArg Int32.toInt ((fr_6 10 rfl))
        have z_27 : 0 ≤ (fv_5 10).toInt ∧ (fv_5 10).toInt ≤ 40 := hF_fv_5 10
        refine va_calli (va_runV (As := [.int kk, .int b]) (rest := []) ⟨hx, hb, hml, hown, hts⟩ (x_firstInLineE l dC dI H.size ob ad cA hd fv_5 wd_9 ar_7 hF_fv_5 hA_ar_7 kk b h_kk) (cwV 2 hts (gV kw_5_179 kw_5_181 kw_p_39 kw_1_12 kw_5_182) rfl rfl rfl (by decide +kernel) ⟨Nat.le_of_ble_eq_true rfl, Nat.le_of_ble_eq_true rfl⟩) ⟨fun a U g mk q => ⟨q.1, q.2.1, q.2.2.1, va_K.moved (u := U) (U := U.calling g mk a) (Vm.Alike.refl U.vm) q.2.2.2⟩, va_recv hK hP (ci := 2) (q0 := 8) rfl rfl, fun U hU hW => ⟨rfl, by rw [hU], by rw [hU]; exact hP, va_K.moved hW.alike hK⟩⟩ rfl rfl hl.1 rfl (lv_room (Nat.le_of_ble_eq_true rfl)) dX1_board_39 ⟨Nat.le_of_ble_eq_true rfl, Nat.le_of_ble_eq_true rfl⟩) hS (fun q _ h9 => aX_up hS q h9) (aX_up hS) (fun r_28 u t H1 locs ht _ hw hB _ hk1 hS => ?_)
        obtain ⟨fv_31, wd_32, ar_33⟩ := u
        obtain ⟨hF_fv_31, hA_ar_33, fr_34, fa_35, wf_36, p_29, p_30, -⟩ := hw
        have wf_36 : wd_32.2 = wd_9.2 := wf_36
        have hP : va_P (dC, dI) vwCl (wsX ob ad cA fv_31 wd_32 ar_33) H1 := by have h9 := hB.1; rw [ht] at h9; exact h9
        have fr_34 : fM [] fv_5 fv_31 := fr_34
        have fa_35 : fA [] ar_7 ar_33 := fa_35
        have p_30 : r_28.toInt = mo_fi (mx_D fv_5 ar_7) (mx_S fv_5 ar_7) (kk.toInt.toNat) b ((fv_5 10).toInt.toNat) := p_30
        generalize H1 = H at hP hS ⊢
        have k_37 : r_28.toInt = mo_fi (mx_D fv ar) (mx_S fv_5 ar_7) (kk.toInt.toNat) b ((fv 10).toInt.toNat) := by have h9 := p_30; (try rw [show mx_D fv_5 ar_7 = mx_D fv ar from (mx_D_fr (fM_call (fM_rf [23] _) fr_6 (by decide)) (fA_call (fA_rf [44, 49, 50, 51] _) fa_8 (by decide)) rfl rfl), show fv_5 10 = fv 10 from ((fM_call (fM_rf [23] _) fr_6 (by decide)) 10 rfl)] at h9); exact h9
        refine lv_istore (lv' := [(6, .int r_28), (0, .ref (ob 8)), (1, .int kk), (2, .int b), (3, .int v_1), (4, .int x_3), (5, .int x_4)]) hx hb dX1_board_42 hl (by decide) rfl (fun ls hl => ?_)
        refine lv_iload hx hb dX1_board_44 (lv_at hl 0 rfl) ?_
        refine lv_iconst (v := (-1)) hx hb dX1_board_46 (by decide) ?_
        refine lv_icmp_eq (tgt := 86) hx hb dX1_board_47 (by decide) (fun c_38 => ?_) (fun c_38 => ?_)
        · skip
          have i_39 : (-1) ≤ r_28.toInt ∧ r_28.toInt ≤ (-1) := iv_eq1 (⟨by decide, by decide⟩ : (-1 : Int) ≤ ((-1) : Int32).toInt ∧ ((-1) : Int32).toInt ≤ -1) c_38
          obtain ⟨v_41, ev_41⟩ : ∃ z : Int32, z = x_4 + 1 := ⟨_, rfl⟩
          refine lv_iinc (v := v_41) (lv' := [(5, .int v_41), (6, .int r_28), (0, .ref (ob 8)), (1, .int kk), (2, .int b), (3, .int v_1), (4, .int x_3)]) hx hb dX1_board_86 hl (k := 6) rfl (by rw [ev_41]; rfl) (by decide) rfl (fun ls hl => ?_)
          have t_42 : v_41.toInt = x_4.toInt + 1 ∧ 1 ≤ v_41.toInt ∧ v_41.toInt ≤ 9 := iv_addc ev_41 i_23 (by decide) (by decide) (by decide)
          refine lv_goto (tgt := 19) hx hb dX1_board_89 (by decide) ?_
          exact ih_15 x_3 v_41 fv_31 ar_33 wd_32 _ _ ls (by omega) i_x_3 (iv_w t_42.2 (by decide) (by decide)) hF_fv_31 (fM_call (fM_call (fM_rf [23] _) fr_6 (by decide)) fr_34 (by decide)) hA_ar_33 (fA_call (fA_call (fA_rf [44, 49, 50, 51] _) fa_8 (by decide)) fa_35 (by decide)) (wf_36.trans wf_10) (by have hfi : mo_fi (mx_D fv ar) (mo_xs (mx_D fv ar) (kk.toInt.toNat) b ((fv 10).toInt.toNat) (mx_S fv ar) ((x_4.toInt.toNat))) (kk.toInt.toNat) b ((fv 10).toInt.toNat) = r_28.toInt := (by rw [← q_11]; exact (k_37).symm); rw [show v_41.toInt.toNat = (x_4.toInt.toNat) + 1 from by omega]; show _ = (if mo_fi (mx_D fv ar) (mo_xs (mx_D fv ar) (kk.toInt.toNat) b ((fv 10).toInt.toNat) (mx_S fv ar) ((x_4.toInt.toNat))) (kk.toInt.toNat) b ((fv 10).toInt.toNat) = -1 then mo_xs (mx_D fv ar) (kk.toInt.toNat) b ((fv 10).toInt.toNat) (mx_S fv ar) ((x_4.toInt.toNat)) else _); rw [hfi, if_pos (by omega)]; exact (mx_S_eq (fA_all (fA_call (fA_rf [] _) fa_35 (by decide)) rfl) ((fM_call (fM_rf [] _) fr_34 (by decide)) 23 rfl)).trans q_11) (by have hfi : mo_fi (mx_D fv ar) (mo_xs (mx_D fv ar) (kk.toInt.toNat) b ((fv 10).toInt.toNat) (mx_S fv ar) ((x_4.toInt.toNat))) (kk.toInt.toNat) b ((fv 10).toInt.toNat) = r_28.toInt := (by rw [← q_11]; exact (k_37).symm); rw [show v_41.toInt.toNat = (x_4.toInt.toNat) + 1 from by omega]; show _ = (if mo_fi (mx_D fv ar) (mo_xs (mx_D fv ar) (kk.toInt.toNat) b ((fv 10).toInt.toNat) (mx_S fv ar) ((x_4.toInt.toNat))) (kk.toInt.toNat) b ((fv 10).toInt.toNat) = -1 then mo_xn (mx_D fv ar) (kk.toInt.toNat) b ((fv 10).toInt.toNat) (mx_S fv ar) ((x_4.toInt.toNat)) else _); rw [hfi, if_pos (by omega)]; exact q_12) (by omega) (by omega) hP hS (lv_sub hl [2, 3, 4, 5, 6, 0] rfl)
        · skip
          have i_44 : 0 ≤ r_28.toInt ∧ r_28.toInt ≤ 39 := iv_nel p_29 (by decide) c_38
          have k_45 : ¬ r_28.toInt = (-1) := fun q => c_38 (Int32.toInt_inj.mp q)
          refine lv_aload_n hx hb dX1_board_50 rfl (lv_at hl 1 rfl) ?_
          refine gX_X1_51 hx hb htg hown hK hP dX1_board_51 ?_
          refine lv_iload hx hb dX1_board_54 (lv_at hl 0 rfl) ?_
          refine lv_iconst (v := (-1)) hx hb dX1_board_56 (by decide) ?_
          refine sX_49 hx hb hK hP hS hd (iv_in i_44 (by decide) (by decide)) dX1_board_57 (fun H locs ar_46 ear_46 hP hS => ?_)
          have hA_ar_46 : rB ar_46 := rB_put hA_ar_33 ear_46 (iv_w (⟨by decide, by decide⟩ : (-1 : Int) ≤ ((-1) : Int32).toInt ∧ ((-1) : Int32).toInt ≤ -1) (by decide) (by decide))
          refine lv_aload_n hx hb dX1_board_58 rfl (lv_at hl 1 rfl) ?_
          refine gX_X1_54 hx hb htg hown hK hP dX1_board_59 ?_
          refine lv_iload hx hb dX1_board_62 (lv_at hl 0 rfl) ?_
          refine lv_iload_n hx hb dX1_board_64 rfl (lv_at hl 4 rfl) ?_
          refine sX_50 hx hb hK hP hS hd (iv_in i_44 (by decide) (by decide)) dX1_board_65 (fun H locs ar_47 ear_47 hP hS => ?_)
          have hA_ar_47 : rB ar_47 := rB_put hA_ar_46 ear_47 (iv_w i_2 (by decide) (by decide))
          refine lv_aload_n hx hb dX1_board_66 rfl (lv_at hl 1 rfl) ?_
          refine gX_X1_35 hx hb htg hown hK hP dX1_board_67 ?_
          refine lv_iload hx hb dX1_board_70 (lv_at hl 0 rfl) ?_
          refine lv_dup2_11 hx hb dX1_board_72 rfl rfl ?_
          refine lX_44 hx hb hK hP (iv_in i_44 (by decide) (by decide)) dX1_board_73 (fun v_48 ev_48 => ?_)
          refine lv_iload_n hx hb dX1_board_74 rfl (lv_at hl 3 rfl) ?_
          refine lv_isub hx hb dX1_board_75 ?_
          refine lv_topi (fun v_49 ev_49 => ?_)
          refine sX_44 hx hb hK hP hS hd (iv_in i_44 (by decide) (by decide)) dX1_board_76 (fun H locs ar_50 ear_50 hP hS => ?_)
          have hA_ar_50 : rB ar_50 := rB_put hA_ar_47 ear_50 (iv_any _)
          refine lv_aload_n hx hb dX1_board_77 rfl (lv_at hl 1 rfl) ?_
          refine lv_iload_n hx hb dX1_board_78 rfl (lv_at hl 4 rfl) ?_
          refine lv_iload_n hx hb dX1_board_79 rfl (lv_at hl 3 rfl) ?_
          refine va_callv (va_runV (As := [.int v_1, .int b]) (rest := []) ⟨hx, hb, hml, hown, hts⟩ (x_earnE l dC dI H.size ob ad cA hd fv_31 wd_32 ar_50 hF_fv_31 hA_ar_50 v_1 b i_2) (cwV 2 hts (gV kw_5_183 kw_5_185 kw_p_40 kw_1_12 kw_5_186) rfl rfl rfl (by decide +kernel) ⟨Nat.le_of_ble_eq_true rfl, Nat.le_of_ble_eq_true rfl⟩) ⟨fun a U g mk q => ⟨q.1, q.2.1, q.2.2.1, va_K.moved (u := U) (U := U.calling g mk a) (Vm.Alike.refl U.vm) q.2.2.2⟩, va_recv hK hP (ci := 2) (q0 := 8) rfl rfl, fun U hU hW => ⟨rfl, by rw [hU], by rw [hU]; exact hP, va_K.moved hW.alike hK⟩⟩ rfl rfl hl.1 rfl (lv_room (Nat.le_of_ble_eq_true rfl)) dX1_board_80 ⟨Nat.le_of_ble_eq_true rfl, Nat.le_of_ble_eq_true rfl⟩) hS (fun q _ h9 => aX_up hS q h9) (aX_up hS) (fun u t H1 locs ht _ hw hB _ hk1 hS => ?_)
          obtain ⟨fv_53, wd_54, ar_55⟩ := u
          obtain ⟨hF_fv_53, hA_ar_55, fr_56, fa_57, wf_58, p_52, -⟩ := hw
          have wf_58 : wd_54.2 = wd_32.2 := wf_58
          have hP : va_P (dC, dI) vwCl (wsX ob ad cA fv_53 wd_54 ar_55) H1 := by have h9 := hB.1; rw [ht] at h9; exact h9
          have fr_56 : fM [23] fv_31 fv_53 := fr_56
          have fa_57 : fA [51] ar_50 ar_55 := fa_57
          have p_52 : mx_S fv_53 ar_55 = mo_ea (mx_D fv_31 ar_50) (mx_S fv_31 ar_50) (v_1.toInt.toNat) b := p_52
          generalize H1 = H at hP hS ⊢
          have k_59 : mx_S fv_53 ar_55 = mo_ea (mx_D fv ar) (mx_S fv_31 ar_50) (v_1.toInt.toNat) b := by have h9 := p_52; (try rw [show mx_D fv_31 ar_50 = mx_D fv ar from (mx_D_fr (fM_call (fM_call (fM_rf [23] _) fr_6 (by decide)) fr_34 (by decide)) (fA_put (fA_put (fA_put (fA_call (fA_call (fA_rf [44, 49, 50, 51] _) fa_8 (by decide)) fa_35 (by decide)) ear_46 (by decide)) ear_47 (by decide)) ear_50 (by decide)) rfl rfl)] at h9); exact h9
          have i_60 : 0 ≤ x_3.toInt ∧ x_3.toInt ≤ 8 := (by omega)
          obtain ⟨v_61, ev_61⟩ : ∃ z : Int32, z = x_3 + 1 := ⟨_, rfl⟩
          refine lv_iinc (v := v_61) (lv' := [(4, .int v_61), (6, .int r_28), (0, .ref (ob 8)), (1, .int kk), (2, .int b), (3, .int v_1), (5, .int x_4)]) hx hb dX1_board_83 hl (k := 5) rfl (by rw [ev_61]; rfl) (by decide) rfl (fun ls hl => ?_)
          have t_62 : v_61.toInt = x_3.toInt + 1 ∧ 1 ≤ v_61.toInt ∧ v_61.toInt ≤ 9 := iv_addc ev_61 i_60 (by decide) (by decide) (by decide)
          obtain ⟨v_64, ev_64⟩ : ∃ z : Int32, z = x_4 + 1 := ⟨_, rfl⟩
          refine lv_iinc (v := v_64) (lv' := [(5, .int v_64), (4, .int v_61), (6, .int r_28), (0, .ref (ob 8)), (1, .int kk), (2, .int b), (3, .int v_1)]) hx hb dX1_board_86 hl (k := 6) rfl (by rw [ev_64]; rfl) (by decide) rfl (fun ls hl => ?_)
          have t_65 : v_64.toInt = x_4.toInt + 1 ∧ 1 ≤ v_64.toInt ∧ v_64.toInt ≤ 9 := iv_addc ev_64 i_23 (by decide) (by decide) (by decide)
          refine lv_goto (tgt := 19) hx hb dX1_board_89 (by decide) ?_
          exact ih_15 v_61 v_64 fv_53 ar_55 wd_54 _ _ ls (by omega) (iv_w t_62.2 (by decide) (by decide)) (iv_w t_65.2 (by decide) (by decide)) hF_fv_53 (fM_call (fM_call (fM_call (fM_rf [23] _) fr_6 (by decide)) fr_34 (by decide)) fr_56 (by decide)) hA_ar_55 (fA_call (fA_put (fA_put (fA_put (fA_call (fA_call (fA_rf [44, 49, 50, 51] _) fa_8 (by decide)) fa_35 (by decide)) ear_46 (by decide)) ear_47 (by decide)) ear_50 (by decide)) fa_57 (by decide)) (wf_58.trans (wf_36.trans wf_10)) (by have hfi : mo_fi (mx_D fv ar) (mo_xs (mx_D fv ar) (kk.toInt.toNat) b ((fv 10).toInt.toNat) (mx_S fv ar) ((x_4.toInt.toNat))) (kk.toInt.toNat) b ((fv 10).toInt.toNat) = r_28.toInt := (by rw [← q_11]; exact (k_37).symm); have s1 : mx_S fv_31 ar_46 = mo_se (mx_S fv_31 ar_33) 5 (r_28.toInt.toNat) (-1) := mx_S_put (r := 5) (by decide) ear_46; have s2 : mx_S fv_31 ar_47 = mo_se (mx_S fv_31 ar_46) 6 (r_28.toInt.toNat) v_1 := mx_S_put (r := 6) (by decide) ear_47; have s3 : mx_S fv_31 ar_50 = mo_se (mx_S fv_31 ar_47) 0 (r_28.toInt.toNat) v_49 := mx_S_put (r := 0) (by decide) ear_50; have hp0 : mx_S fv_31 ar_47 0 (r_28.toInt.toNat) = v_48 := (by show ar_47 44 (r_28.toInt.toNat) = _; rw [ev_48]; rfl); rw [show v_64.toInt.toNat = (x_4.toInt.toNat) + 1 from by omega]; show _ = (if mo_fi (mx_D fv ar) (mo_xs (mx_D fv ar) (kk.toInt.toNat) b ((fv 10).toInt.toNat) (mx_S fv ar) ((x_4.toInt.toNat))) (kk.toInt.toNat) b ((fv 10).toInt.toNat) = -1 then _ else mo_xb1 (mx_D fv ar) (kk.toInt.toNat) b (mo_xs (mx_D fv ar) (kk.toInt.toNat) b ((fv 10).toInt.toNat) (mx_S fv ar) ((x_4.toInt.toNat))) (mo_fi (mx_D fv ar) (mo_xs (mx_D fv ar) (kk.toInt.toNat) b ((fv 10).toInt.toNat) (mx_S fv ar) ((x_4.toInt.toNat))) (kk.toInt.toNat) b ((fv 10).toInt.toNat)).toNat); rw [hfi, if_neg (by omega)]; show _ = mo_ea (mx_D fv ar) (mo_se (mo_se (mo_se (mo_xs (mx_D fv ar) (kk.toInt.toNat) b ((fv 10).toInt.toNat) (mx_S fv ar) ((x_4.toInt.toNat))) 5 (r_28.toInt.toNat) (-1)) 6 (r_28.toInt.toNat) (ar 28 (kk.toInt.toNat))) 0 (r_28.toInt.toNat) ((mo_xs (mx_D fv ar) (kk.toInt.toNat) b ((fv 10).toInt.toNat) (mx_S fv ar) ((x_4.toInt.toNat))) 0 (r_28.toInt.toNat) - b)) ((ar 28 (kk.toInt.toNat)).toInt.toNat) b; rw [show ar 28 (kk.toInt.toNat) = v_1 from ((show v_1 = ar 28 (kk.toInt.toNat) from by rw [ev_1]; exact congrArg (ar 28) (show kk.toInt.toNat = (kk.toInt.toNat) from by omega))).symm, ← q_11, ← (show mx_S fv_31 ar_33 = mx_S fv_5 ar_7 from mx_S_eq (fA_all (fA_call (fA_rf [] _) fa_35 (by decide)) rfl) ((fM_call (fM_rf [] _) fr_34 (by decide)) 23 rfl)), ← s1, ← s2, show mx_S fv_31 ar_33 0 (r_28.toInt.toNat) - b = v_49 from by rw [show mx_S fv_31 ar_33 0 (r_28.toInt.toNat) = mx_S fv_31 ar_47 0 (r_28.toInt.toNat) from by show ar_33 44 _ = ar_47 44 _; rw [show ar_47 44 = ar_33 44 from ((fA_put (fA_put (fA_rf [49, 50] _) ear_46 (by decide)) ear_47 (by decide)) 44 rfl)], hp0]; exact ev_49.symm, ← s3]; exact k_59) (by have hfi : mo_fi (mx_D fv ar) (mo_xs (mx_D fv ar) (kk.toInt.toNat) b ((fv 10).toInt.toNat) (mx_S fv ar) ((x_4.toInt.toNat))) (kk.toInt.toNat) b ((fv 10).toInt.toNat) = r_28.toInt := (by rw [← q_11]; exact (k_37).symm); rw [show v_64.toInt.toNat = (x_4.toInt.toNat) + 1 from by omega]; show _ = (if mo_fi (mx_D fv ar) (mo_xs (mx_D fv ar) (kk.toInt.toNat) b ((fv 10).toInt.toNat) (mx_S fv ar) ((x_4.toInt.toNat))) (kk.toInt.toNat) b ((fv 10).toInt.toNat) = -1 then _ else mo_xn (mx_D fv ar) (kk.toInt.toNat) b ((fv 10).toInt.toNat) (mx_S fv ar) ((x_4.toInt.toNat)) + 1); rw [hfi, if_neg (by omega)]; omega) (by omega) (by omega) hP hS (lv_sub hl [3, 4, 5, 6, 1, 0] rfl)
  · skip
    have z_67 : (0 : Int32).toInt = 0 := by decide
    exact hj_17 10 0 0 fv ar wd _ _ ls (by first | decide | omega) (iv_w (⟨by decide, by decide⟩ : (0 : Int) ≤ (0 : Int32).toInt ∧ (0 : Int32).toInt ≤ 0) (by decide) (by decide)) (iv_w (⟨by decide, by decide⟩ : (0 : Int) ≤ (0 : Int32).toInt ∧ (0 : Int32).toInt ≤ 0) (by decide) (by decide)) hF_fv (fM_rf [23] _) hA_ar (fA_rf [44, 49, 50, 51] _) rfl (by rw [show (0 : Int32).toInt.toNat = 0 from by decide]; rfl) (by rw [show (0 : Int32).toInt.toNat = 0 from by decide]; show (0 : Int32).toInt = 0; decide) (by have h9 := hA_ar 22 ((ar 28 (kk.toInt.toNat)).toInt.toNat); have h8 : loB 22 = 0 := rfl; omega) (by omega) hP hS (lv_sub hl [3, 4, 5, 2, 1, 0] rfl)
set_option maxHeartbeats 4000000 in
set_option maxRecDepth 100000 in
theorem x_setOutE (l : Launch) (dC : Nat → ClassId) (dI : Nat → Nat → Nat) (sz : Nat) (ob ad : Nat → Nat) (cA : Nat → ClassId) (hd : dX ob ad) (fv : Nat → Int32) (wd : xT) (ar : Nat → Nat → Int32) (hF_fv : rX fv) (hA_ar : rB ar) (kk : Int32) (b : Int32) (h_kk : 0 ≤ kk.toInt ∧ kk.toInt ≤ 79) (hp_mR : mx_R fv ar) : Met l yX1_setOut (.code yX1_setOut cX1_setOut 5 none :: lw_good) ({ frames := 5, cells := 0, slots := 0, locals := 107 }) (va_Pc [.ref (ob 8), .int kk, .int b] (prX dC dI ob ad cA fv wd ar sz)) (va_Qv (fun (u : xS) => rX u.1 ∧ rB u.2.2 ∧ fM [] fv u.1 ∧ fA [48, 54, 55, 57] ar u.2.2 ∧ u.2.1.2 = wd.2 ∧ (mx_S u.1 u.2.2 = mo_fo (mo_xr1 (mx_D fv ar) (kk.toInt.toNat)) (mo_mk (mo_se (mo_se (mx_S fv ar) 10 (mo_w (mx_D fv ar) (kk.toInt.toNat)) ((mx_D fv ar) 13 (kk.toInt.toNat))) 11 (mo_w (mx_D fv ar) (kk.toInt.toNat)) (b + Int32.ofInt (mo_dr (mx_D fv ar) (mx_G ar) (kk.toInt.toNat)))) (b + Int32.ofInt (mo_dr (mx_D fv ar) (mx_G ar) (kk.toInt.toNat)))) (((fv 10).toInt.toNat))) ∧ True) (enX dC dI ob ad cA) (aX ob ad sz)) 0 0 (aX ob ad sz) := by
  refine Met.ofW (cc := cX1_setOut) (maxL := 5) (ret := none) (by decide) rfl ?_
  intro p e s m args below meth c s₁ B hml hv
  obtain ⟨rfl, hsz, hP, hK⟩ := hv
  have hx := B.exec
  have hb := B.bytes
  have hr := B.returns
  have hts := atoms_spec (ws := (.code yX1_setOut cX1_setOut 5 none :: lw_good)) B.pre
  have htg : ∀ w ∈ lw_good, w.before _ s = true := fun w hw => hts w (List.mem_cons_of_mem _ hw)
  have hown : s.vm.findClass RX1 = some m.cls := findClass_of_methodNamed B.named
  have hlocks := B.notSynchronized
  subst hsz
  have hS : va_S (aX ob ad s.heap.size) s.heap s.heap [] := va_S.rf
  have hl := lv_entry ([.ref (ob 8), .int kk, .int b]) (n := 5) (Nat.le_of_ble_eq_true rfl)
  rw [lg_entry_eq]
  generalize (lg_sl ([.ref (ob 8), .int kk, .int b]) ++ List.replicate (5 - (lg_sl ([.ref (ob 8), .int kk, .int b])).length) Slot.unset).toArray = ls at hl ⊢
  have hl : lv_has ls 5 [(0, .ref (ob 8)), (1, .int kk), (2, .int b)] := hl
  refine lv_aload_n hx hb dX1_setOut_0 rfl (lv_at hl 0 rfl) ?_
  refine gX_X1_9 hx hb htg hown hK hP dX1_setOut_1 ?_
  refine gX_X1_157 hx hb htg hown hK hP dX1_setOut_4 ?_
  refine gX_X1_176 hx hb htg hown hK hP dX1_setOut_7 ?_
  refine lv_iload_n hx hb dX1_setOut_10 rfl (lv_at hl 1 rfl) ?_
  refine lX_28 hx hb hK hP (iv_in h_kk (by decide) (by decide)) dX1_setOut_11 (fun v_1 ev_1 => ?_)
  have i_2 : 0 ≤ v_1.toInt ∧ v_1.toInt ≤ 19 := ev_1 ▸ hA_ar 28 _
  refine lv_istore_n (lv' := [(3, .int v_1), (0, .ref (ob 8)), (1, .int kk), (2, .int b)]) hx hb dX1_setOut_12 rfl hl (by decide) rfl (fun ls hl => ?_)
  refine lv_aload_n hx hb dX1_setOut_13 rfl (lv_at hl 1 rfl) ?_
  refine gX_X1_68 hx hb htg hown hK hP dX1_setOut_14 ?_
  refine lv_iload_n hx hb dX1_setOut_17 rfl (lv_at hl 0 rfl) ?_
  refine lv_aload_n hx hb dX1_setOut_18 rfl (lv_at hl 1 rfl) ?_
  refine gX_X1_9 hx hb htg hown hK hP dX1_setOut_19 ?_
  refine gX_X1_157 hx hb htg hown hK hP dX1_setOut_22 ?_
  refine gX_X1_272 hx hb htg hown hK hP dX1_setOut_25 ?_
  refine lv_iload_n hx hb dX1_setOut_28 rfl (lv_at hl 2 rfl) ?_
  refine lX_30 hx hb hK hP (iv_in h_kk (by decide) (by decide)) dX1_setOut_29 (fun v_3 ev_3 => ?_)
  have i_4 : 0 ≤ v_3.toInt ∧ v_3.toInt ≤ 7 := ev_3 ▸ hA_ar 30 _
  refine sX_54 hx hb hK hP hS hd (iv_in i_2 (by decide) (by decide)) dX1_setOut_30 (fun H locs ar_5 ear_5 hP hS => ?_)
  have hA_ar_5 : rB ar_5 := rB_put hA_ar ear_5 i_4
  refine lv_aload_n hx hb dX1_setOut_31 rfl (lv_at hl 1 rfl) ?_
  refine gX_X1_71 hx hb htg hown hK hP dX1_setOut_32 ?_
  refine lv_iload_n hx hb dX1_setOut_35 rfl (lv_at hl 0 rfl) ?_
  refine lv_iload_n hx hb dX1_setOut_36 rfl (lv_at hl 3 rfl) ?_
  refine lv_aload_n hx hb dX1_setOut_37 rfl (lv_at hl 1 rfl) ?_
  refine gX_X1_9 hx hb htg hown hK hP dX1_setOut_38 ?_
  refine lv_iload_n hx hb dX1_setOut_41 rfl (lv_at hl 2 rfl) ?_
  refine lv_aload_n hx hb dX1_setOut_42 rfl (lv_at hl 1 rfl) ?_
  refine gX_X1_9 hx hb htg hown hK hP dX1_setOut_43 ?_
  refine lv_aload_n hx hb dX1_setOut_46 rfl (lv_at hl 1 rfl) ?_
  refine gX_X1_9 hx hb htg hown hK hP dX1_setOut_47 ?_
  refine gX_X1_169 hx hb htg hown hK hP dX1_setOut_50 ?_
  have i_6 : 0 ≤ (fv 7).toInt ∧ (fv 7).toInt ≤ 199 := hF_fv 7
  have z_7 : 0 ≤ (fv 5).toInt ∧ (fv 5).toInt ≤ 200 := hF_fv 5
  refine va_calli (va_runV (As := [.int (fv 7)]) (rest := [.int kk, .ref (ob 1), .int b, .int v_1, .ref (ad 55)]) ⟨hx, hb, hml, hown, hts⟩ (x_rainOnC l dC dI H.size ob ad cA hd fv wd ar_5 hF_fv hA_ar_5 (fv 7) i_6) (cwV 1 hts (gV kw_5_201 kw_3_231 kw_3_232 kw_1_2 kw_3_233) rfl rfl rfl (by decide +kernel) ⟨Nat.le_of_ble_eq_true rfl, Nat.le_of_ble_eq_true rfl⟩) ⟨fun a U g mk q => ⟨q.1, q.2.1, q.2.2.1, va_K.moved (u := U) (U := U.calling g mk a) (Vm.Alike.refl U.vm) q.2.2.2⟩, va_recv hK hP (ci := 7) (q0 := 1) rfl rfl, fun U hU hW => ⟨rfl, by rw [hU], by rw [hU]; exact hP, va_K.moved hW.alike hK⟩⟩ rfl rfl hl.1 rfl (lv_room (Nat.le_of_ble_eq_true rfl)) dX1_setOut_53 ⟨Nat.le_of_ble_eq_true rfl, Nat.le_of_ble_eq_true rfl⟩) hS (fun q _ h9 => aX_up hS q h9) (aX_up hS) (fun r_8 u t H1 locs ht _ hw hB _ hk1 hS => ?_)
  obtain ⟨fv_10, wd_11, ar_12⟩ := u
  obtain ⟨hF_fv_10, hA_ar_12, fr_13, fa_14, wf_15, p_9, -⟩ := hw
  have wf_15 : wd_11.2 = wd.2 := wf_15
  have hP : va_P (dC, dI) vwCl (wsX ob ad cA fv_10 wd_11 ar_12) H1 := by have h9 := hB.1; rw [ht] at h9; exact h9
  have fr_13 : fM [] fv fv_10 := fr_13
  have fa_14 : fA [] ar_5 ar_12 := fa_14
  have p_9 : wt_on r_8 (fv 7) (fv 5) (ar_5 3) := p_9
  generalize H1 = H at hP hS ⊢
  have rn_16 : r_8 = mx_rn fv ar := by have h9 := p_9; rw [show ar_5 3 = ar 3 from ((fA_put (fA_rf [54] _) ear_5 (by decide)) 3 rfl)] at h9; exact mo_rnI h9
  have i_17 : 0 ≤ r_8.toInt ∧ r_8.toInt ≤ 9 := (by rw [rn_16]; exact hp_mR.1.2.2.2.2.2.2)
  refine va_calli (va_runV (As := [.int kk, .int r_8]) (rest := [.int b, .int v_1, .ref (ad 55)]) ⟨hx, hb, hml, hown, hts⟩ (x_driveMinutesE l dC dI H.size ob ad cA hd fv_10 wd_11 ar_12 hF_fv_10 hA_ar_12 kk r_8 h_kk i_17 (by show r_8 = mx_rn fv_10 ar_12; have h9 : mx_rn fv_10 ar_12 = mx_rn fv ar := (congrFun (congrFun (show mx_D fv_10 ar_12 = mx_D fv ar from (mx_D_fr (fM_call (fM_rf [] _) fr_13 (by decide)) (fA_call (fA_put (fA_rf [54] _) ear_5 (by decide)) fa_14 (by decide)) rfl rfl)) 19) 4); rw [h9]; exact rn_16) (mx_R_fr hp_mR (fM_call (fM_rf [] _) fr_13 (by decide)) (fA_call (fA_put (fA_rf [54] _) ear_5 (by decide)) fa_14 (by decide)) rfl rfl rfl rfl rfl rfl rfl rfl rfl rfl rfl rfl rfl rfl rfl rfl rfl rfl rfl rfl rfl rfl rfl rfl rfl rfl rfl)) (cwV 2 hts (gV kw_5_202 kw_5_105 kw_5_106 kw_1_2 kw_5_107) rfl rfl rfl (by decide +kernel) ⟨Nat.le_of_ble_eq_true rfl, Nat.le_of_ble_eq_true rfl⟩) ⟨fun a U g mk q => ⟨q.1, q.2.1, q.2.2.1, va_K.moved (u := U) (U := U.calling g mk a) (Vm.Alike.refl U.vm) q.2.2.2⟩, va_recv hK hP (ci := 7) (q0 := 1) rfl rfl, fun U hU hW => ⟨rfl, by rw [hU], by rw [hU]; exact hP, va_K.moved hW.alike hK⟩⟩ rfl rfl hl.1 rfl (lv_room (Nat.le_of_ble_eq_true rfl)) dX1_setOut_56 ⟨Nat.le_of_ble_eq_true rfl, Nat.le_of_ble_eq_true rfl⟩) hS (fun q _ h9 => aX_up hS q h9) (aX_up hS) (fun r_18 u t H1 locs ht _ hw hB _ hk1 hS => ?_)
  obtain ⟨fv_21, wd_22, ar_23⟩ := u
  obtain ⟨hF_fv_21, hA_ar_23, fr_24, fa_25, wf_26, p_19, p_20, -⟩ := hw
  have wf_26 : wd_22.2 = wd_11.2 := wf_26
  have hP : va_P (dC, dI) vwCl (wsX ob ad cA fv_21 wd_22 ar_23) H1 := by have h9 := hB.1; rw [ht] at h9; exact h9
  have fr_24 : fM [] fv_10 fv_21 := fr_24
  have fa_25 : fA [] ar_12 ar_23 := fa_25
  have p_20 : r_18.toInt = mo_dr (mx_D fv_10 ar_12) (mx_G ar_12) (kk.toInt.toNat) := p_20
  generalize H1 = H at hP hS ⊢
  have dr_27 : r_18.toInt = mo_dr (mx_D fv ar) (mx_G ar) (kk.toInt.toNat) := by have h9 := p_20; rw [show mx_D fv_10 ar_12 = mx_D fv ar from (mx_D_fr (fM_call (fM_rf [] _) fr_13 (by decide)) (fA_call (fA_put (fA_rf [54] _) ear_5 (by decide)) fa_14 (by decide)) rfl rfl), show mx_G ar_12 = mx_G ar from by unfold mx_G; rw [show ar_12 5 = ar 5 from ((fA_call (fA_put (fA_rf [54] _) ear_5 (by decide)) fa_14 (by decide)) 5 rfl)]] at h9; exact h9
  refine lv_iadd hx hb dX1_setOut_59 ?_
  refine lv_topi (fun v_28 ev_28 => ?_)
  refine sX_55 hx hb hK hP hS hd (iv_in i_2 (by decide) (by decide)) dX1_setOut_60 (fun H locs ar_29 ear_29 hP hS => ?_)
  have hA_ar_29 : rB ar_29 := rB_put hA_ar_23 ear_29 (iv_any _)
  refine lv_aload_n hx hb dX1_setOut_61 rfl (lv_at hl 1 rfl) ?_
  refine lv_aload_n hx hb dX1_setOut_62 rfl (lv_at hl 1 rfl) ?_
  refine gX_X1_71 hx hb htg hown hK hP dX1_setOut_63 ?_
  refine lv_iload_n hx hb dX1_setOut_66 rfl (lv_at hl 0 rfl) ?_
  refine lX_55 hx hb hK hP (iv_in i_2 (by decide) (by decide)) dX1_setOut_67 (fun v_30 ev_30 => ?_)
  refine va_callv (va_runV (As := [.int v_30]) (rest := []) ⟨hx, hb, hml, hown, hts⟩ (x_markBusyE l dC dI H.size ob ad cA hd fv_21 wd_22 ar_29 hF_fv_21 hA_ar_29 v_30) (cwV 1 hts (gV kw_5_69 kw_5_71 kw_p_22 kw_1_12 kw_5_72) rfl rfl rfl (by decide +kernel) ⟨Nat.le_of_ble_eq_true rfl, Nat.le_of_ble_eq_true rfl⟩) ⟨fun a U g mk q => ⟨q.1, q.2.1, q.2.2.1, va_K.moved (u := U) (U := U.calling g mk a) (Vm.Alike.refl U.vm) q.2.2.2⟩, va_recv hK hP (ci := 2) (q0 := 8) rfl rfl, fun U hU hW => ⟨rfl, by rw [hU], by rw [hU]; exact hP, va_K.moved hW.alike hK⟩⟩ rfl rfl hl.1 rfl (lv_room (Nat.le_of_ble_eq_true rfl)) dX1_setOut_68 ⟨Nat.le_of_ble_eq_true rfl, Nat.le_of_ble_eq_true rfl⟩) hS (fun q _ h9 => aX_up hS q h9) (aX_up hS) (fun u t H1 locs ht _ hw hB _ hk1 hS => ?_)
  obtain ⟨fv_33, wd_34, ar_35⟩ := u
  obtain ⟨hF_fv_33, hA_ar_35, fr_36, fa_37, wf_38, p_32, -⟩ := hw
  have wf_38 : wd_34.2 = wd_22.2 := wf_38
  have hP : va_P (dC, dI) vwCl (wsX ob ad cA fv_33 wd_34 ar_35) H1 := by have h9 := hB.1; rw [ht] at h9; exact h9
  have fr_36 : fM [] fv_21 fv_33 := fr_36
  have fa_37 : fA [57] ar_29 ar_35 := fa_37
  have p_32 : mx_S fv_33 ar_35 = mo_mk (mx_S fv_21 ar_29) v_30 := p_32
  generalize H1 = H at hP hS ⊢
  have k_39 : mx_S fv_33 ar_35 = mo_mk (mx_S fv_21 ar_29) v_30 := by have h9 := p_32; (try rw [show mx_D fv_21 ar_29 = mx_D fv ar from (mx_D_fr (fM_call (fM_call (fM_rf [] _) fr_13 (by decide)) fr_24 (by decide)) (fA_put (fA_call (fA_call (fA_put (fA_rf [54, 55] _) ear_5 (by decide)) fa_14 (by decide)) fa_25 (by decide)) ear_29 (by decide)) rfl rfl)] at h9); exact h9
  refine lv_iconst (v := 0) hx hb dX1_setOut_71 (by decide) ?_
  refine lv_istore (lv' := [(4, .int 0), (3, .int v_1), (0, .ref (ob 8)), (1, .int kk), (2, .int b)]) hx hb dX1_setOut_72 hl (by decide) rfl (fun ls hl => ?_)
  refine my_cut (P := fun R9 a9 Q9 => ∀ (n_46 : Nat) (x_40 : Int32) (ar_41 : Nat → Nat → Int32) (H : Heap) (locs : List Loc) (ls : Array Slot), 40 - x_40.toInt < (n_46 : Int) → (0 ≤ x_40.toInt ∧ x_40.toInt ≤ 40) → rB ar_41 → fA [48] ar_35 ar_41 → mx_R fv_33 ar_41 → (mx_S fv_33 ar_41 = mo_fo (mo_xr1 (mx_D fv ar) (kk.toInt.toNat)) (mo_mk (mo_se (mo_se (mx_S fv ar) 10 (mo_w (mx_D fv ar) (kk.toInt.toNat)) ((mx_D fv ar) 13 (kk.toInt.toNat))) 11 (mo_w (mx_D fv ar) (kk.toInt.toNat)) (b + Int32.ofInt (mo_dr (mx_D fv ar) (mx_G ar) (kk.toInt.toNat)))) (b + Int32.ofInt (mo_dr (mx_D fv ar) (mx_G ar) (kk.toInt.toNat)))) (x_40.toInt.toNat)) → (x_40.toInt ≤ (fv 10).toInt) → va_P (dC, dI) vwCl (wsX ob ad cA fv_33 wd_34 ar_41) H → va_S (aX ob ad s.heap.size) s.heap H locs → lv_has ls 5 [(0, .ref (ob 8)), (3, .int v_1), (4, .int x_40)] → W p l e R9 s m a9 below meth c H locs 0 0 Q9 (F0 m 74 ls [])) ?_ (fun hj_48 => ?_)
  · intro n_46
    induction n_46 with
    | zero => intro x_40 ar_41 H locs ls fu_47 i_x_40 hA_ar_41 fa_42 hp_43 q_44 q_45; exfalso; omega
    | succ n_46 ih_46 =>
      intro x_40 ar_41 H locs ls fu_47 i_x_40 hA_ar_41 fa_42 hp_43 q_44 q_45 hP hS hl
      refine lv_iload hx hb dX1_setOut_74 (lv_at hl 2 rfl) ?_
      refine lv_aload_n hx hb dX1_setOut_76 rfl (lv_at hl 0 rfl) ?_
      refine gX_X1_9 hx hb htg hown hK hP dX1_setOut_77 ?_
      refine gX_X1_129 hx hb htg hown hK hP dX1_setOut_80 ?_
      refine gX_X1_133 hx hb htg hown hK hP dX1_setOut_83 ?_
      refine my_ti (y := fv 10) ((fr_36 10 rfl).trans ((fr_24 10 rfl).trans ((fr_13 10 rfl)))) ?_
      have i_49 : 0 ≤ (fv 10).toInt ∧ (fv 10).toInt ≤ 40 := hF_fv 10
      refine lv_icmp_ge (tgt := 117) hx hb dX1_setOut_86 (by decide) (fun c_50 => ?_) (fun c_50 => ?_)
      · skip
        have k_51 := Int32.le_iff_toInt_le.mp c_50
        exact W.vret hx hb hr (fun t ht hW => ⟨⟨(fv_33, wd_34, ar_41), rfl, ⟨hF_fv_33, hA_ar_41, (fM_call (fM_call (fM_call (fM_rf [] _) fr_13 (by decide)) fr_24 (by decide)) fr_36 (by decide)), (fA_call (fA_call (fA_put (fA_call (fA_call (fA_put (fA_rf [48, 54, 55, 57] _) ear_5 (by decide)) fa_14 (by decide)) fa_25 (by decide)) ear_29 (by decide)) fa_37 (by decide)) fa_42 (by decide)), (wf_38.trans (wf_26.trans wf_15)), (show mx_S fv_33 ar_41 = mo_fo (mo_xr1 (mx_D fv ar) (kk.toInt.toNat)) (mo_mk (mo_se (mo_se (mx_S fv ar) 10 (mo_w (mx_D fv ar) (kk.toInt.toNat)) ((mx_D fv ar) 13 (kk.toInt.toNat))) 11 (mo_w (mx_D fv ar) (kk.toInt.toNat)) (b + Int32.ofInt (mo_dr (mx_D fv ar) (mx_G ar) (kk.toInt.toNat)))) (b + Int32.ofInt (mo_dr (mx_D fv ar) (mx_G ar) (kk.toInt.toNat)))) (((fv 10).toInt.toNat)) from by have h9 := q_44; rw [show x_40.toInt.toNat = (fv 10).toInt.toNat from by omega] at h9; exact h9), trivial⟩, ⟨by rw [ht]; exact hP, va_K.moved hW.alike hK⟩⟩, hS.F ht⟩) hS.2.2 dX1_setOut_117
      · skip
        have i_52 : 0 ≤ x_40.toInt ∧ x_40.toInt ≤ 39 := iv_lt1 i_x_40 i_49 (Int32.not_le.mp c_50)
        have i_53 : 1 ≤ (fv 10).toInt ∧ (fv 10).toInt ≤ 40 := iv_lt2 i_x_40 i_49 (Int32.not_le.mp c_50)
        have k_54 := Int32.lt_iff_toInt_lt.mp (Int32.not_le.mp c_50)
        refine lv_aload_n hx hb dX1_setOut_89 rfl (lv_at hl 0 rfl) ?_
        refine gX_X1_54 hx hb htg hown hK hP dX1_setOut_90 ?_
        refine lv_iload hx hb dX1_setOut_93 (lv_at hl 2 rfl) ?_
        refine lX_50 hx hb hK hP (iv_in i_52 (by decide) (by decide)) dX1_setOut_95 (fun v_55 ev_55 => ?_)
        have i_56 : (-1) ≤ v_55.toInt ∧ v_55.toInt ≤ 19 := ev_55 ▸ hA_ar_41 50 _
        refine lv_iload_n hx hb dX1_setOut_96 rfl (lv_at hl 1 rfl) ?_
        refine lv_icmp_ne (tgt := 111) hx hb dX1_setOut_97 (by decide) (fun c_57 => ?_) (fun c_57 => ?_)
        · skip
          have k_58 : ¬ v_55.toInt = v_1.toInt := fun q => c_57 (Int32.toInt_inj.mp q)
          obtain ⟨v_59, ev_59⟩ : ∃ z : Int32, z = x_40 + 1 := ⟨_, rfl⟩
          refine lv_iinc (v := v_59) (lv' := [(4, .int v_59), (0, .ref (ob 8)), (3, .int v_1)]) hx hb dX1_setOut_111 hl (k := 2) rfl (by rw [ev_59]; rfl) (by decide) rfl (fun ls hl => ?_)
          have t_60 : v_59.toInt = x_40.toInt + 1 ∧ 1 ≤ v_59.toInt ∧ v_59.toInt ≤ 40 := iv_addc ev_59 i_52 (by decide) (by decide) (by decide)
          refine lv_goto (tgt := 74) hx hb dX1_setOut_114 (by decide) ?_
          have z_70 : (fv_33 10).toInt = (fv 10).toInt := congrArg Int32.toInt ((fr_36 10 rfl).trans ((fr_24 10 rfl).trans ((fr_13 10 rfl))))
          have z_71 : 0 ≤ (fv_33 10).toInt ∧ (fv_33 10).toInt ≤ 40 := hF_fv_33 10
          exact ih_46 v_59 ar_41 _ _ ls (by omega) (iv_w t_60.2 (by decide) (by decide)) hA_ar_41 (fA_call (fA_rf [48] _) fa_42 (by decide)) hp_43 (by rw [show v_59.toInt.toNat = (x_40.toInt.toNat) + 1 from by omega]; show _ = mo_xr1 (mx_D fv ar) (kk.toInt.toNat) (mo_fo (mo_xr1 (mx_D fv ar) (kk.toInt.toNat)) (mo_mk (mo_se (mo_se (mx_S fv ar) 10 (mo_w (mx_D fv ar) (kk.toInt.toNat)) ((mx_D fv ar) 13 (kk.toInt.toNat))) 11 (mo_w (mx_D fv ar) (kk.toInt.toNat)) (b + Int32.ofInt (mo_dr (mx_D fv ar) (mx_G ar) (kk.toInt.toNat)))) (b + Int32.ofInt (mo_dr (mx_D fv ar) (mx_G ar) (kk.toInt.toNat)))) ((x_40.toInt.toNat))) (x_40.toInt.toNat); rw [← q_44]; have hs6 : mx_S fv_33 ar_41 6 (x_40.toInt.toNat) = v_55 := (by show ar_41 50 (x_40.toInt.toNat) = _; exact ((show v_55 = ar_41 50 (x_40.toInt.toNat) from by rw [ev_55]; exact congrArg (ar_41 50) (show x_40.toInt.toNat = (x_40.toInt.toNat) from by omega))).symm); have hd11 : (mx_D fv ar) 11 (kk.toInt.toNat) = v_1 := (by show ar 28 _ = _; exact ((show v_1 = ar 28 (kk.toInt.toNat) from by rw [ev_1]; exact congrArg (ar 28) (show kk.toInt.toNat = (kk.toInt.toNat) from by omega))).symm); unfold mo_xr1; rw [hs6, hd11, if_neg (by omega)]) (by omega) hP hS (lv_sub hl [1, 2, 0] rfl)
        · skip
          have i_62 : 0 ≤ v_55.toInt ∧ v_55.toInt ≤ 19 := iv_eq1 i_2 c_57
          have k_63 := congrArg Int32.toInt c_57
          refine lv_aload_n hx hb dX1_setOut_100 rfl (lv_at hl 0 rfl) ?_
          refine gX_X1_48 hx hb htg hown hK hP dX1_setOut_101 ?_
          refine lv_iload hx hb dX1_setOut_104 (lv_at hl 2 rfl) ?_
          refine lv_dup2_11 hx hb dX1_setOut_106 rfl rfl ?_
          refine lX_48 hx hb hK hP (iv_in i_52 (by decide) (by decide)) dX1_setOut_107 (fun v_64 ev_64 => ?_)
          refine lv_iconst (v := 1) hx hb dX1_setOut_108 (by decide) ?_
          refine lv_iadd hx hb dX1_setOut_109 ?_
          refine lv_topi (fun v_65 ev_65 => ?_)
          refine sX_48 hx hb hK hP hS hd (iv_in i_52 (by decide) (by decide)) dX1_setOut_110 (fun H locs ar_66 ear_66 hP hS => ?_)
          have hA_ar_66 : rB ar_66 := rB_put hA_ar_41 ear_66 (iv_any _)
          obtain ⟨v_67, ev_67⟩ : ∃ z : Int32, z = x_40 + 1 := ⟨_, rfl⟩
          refine lv_iinc (v := v_67) (lv' := [(4, .int v_67), (0, .ref (ob 8)), (3, .int v_1)]) hx hb dX1_setOut_111 hl (k := 2) rfl (by rw [ev_67]; rfl) (by decide) rfl (fun ls hl => ?_)
          have t_68 : v_67.toInt = x_40.toInt + 1 ∧ 1 ≤ v_67.toInt ∧ v_67.toInt ≤ 40 := iv_addc ev_67 i_52 (by decide) (by decide) (by decide)
          refine lv_goto (tgt := 74) hx hb dX1_setOut_114 (by decide) ?_
          have z_72 : (fv_33 10).toInt = (fv 10).toInt := congrArg Int32.toInt ((fr_36 10 rfl).trans ((fr_24 10 rfl).trans ((fr_13 10 rfl))))
          have z_73 : 0 ≤ (fv_33 10).toInt ∧ (fv_33 10).toInt ≤ 40 := hF_fv_33 10
          exact ih_46 v_67 ar_66 _ _ ls (by omega) (iv_w t_68.2 (by decide) (by decide)) hA_ar_66 (fA_put (fA_call (fA_rf [48] _) fa_42 (by decide)) ear_66 (by decide)) (mx_R_fr hp_43 (fM_rf [] _) (fA_put (fA_rf [48] _) ear_66 (by decide)) rfl rfl rfl rfl rfl rfl rfl rfl rfl rfl rfl rfl rfl rfl rfl rfl rfl rfl rfl rfl rfl rfl rfl rfl rfl rfl rfl) (by rw [show v_67.toInt.toNat = (x_40.toInt.toNat) + 1 from by omega]; show _ = mo_xr1 (mx_D fv ar) (kk.toInt.toNat) (mo_fo (mo_xr1 (mx_D fv ar) (kk.toInt.toNat)) (mo_mk (mo_se (mo_se (mx_S fv ar) 10 (mo_w (mx_D fv ar) (kk.toInt.toNat)) ((mx_D fv ar) 13 (kk.toInt.toNat))) 11 (mo_w (mx_D fv ar) (kk.toInt.toNat)) (b + Int32.ofInt (mo_dr (mx_D fv ar) (mx_G ar) (kk.toInt.toNat)))) (b + Int32.ofInt (mo_dr (mx_D fv ar) (mx_G ar) (kk.toInt.toNat)))) ((x_40.toInt.toNat))) (x_40.toInt.toNat); rw [← q_44]; have hs6 : mx_S fv_33 ar_41 6 (x_40.toInt.toNat) = v_55 := (by show ar_41 50 (x_40.toInt.toNat) = _; exact ((show v_55 = ar_41 50 (x_40.toInt.toNat) from by rw [ev_55]; exact congrArg (ar_41 50) (show x_40.toInt.toNat = (x_40.toInt.toNat) from by omega))).symm); have hd11 : (mx_D fv ar) 11 (kk.toInt.toNat) = v_1 := (by show ar 28 _ = _; exact ((show v_1 = ar 28 (kk.toInt.toNat) from by rw [ev_1]; exact congrArg (ar 28) (show kk.toInt.toNat = (kk.toInt.toNat) from by omega))).symm); unfold mo_xr1; rw [hs6, hd11, if_pos (by omega), show mx_S fv_33 ar_41 4 (x_40.toInt.toNat) + 1 = v_65 from by show ar_41 48 (x_40.toInt.toNat) + 1 = _; rw [show ar_41 48 (x_40.toInt.toNat) = v_64 from ((show v_64 = ar_41 48 (x_40.toInt.toNat) from by rw [ev_64]; exact congrArg (ar_41 48) (show x_40.toInt.toNat = (x_40.toInt.toNat) from by omega))).symm]; exact ev_65.symm]; exact mx_S_put (r := 4) (by decide) ear_66) (by omega) hP hS (lv_sub hl [1, 2, 0] rfl)
  · skip
    have z_74 : (0 : Int32).toInt = 0 := by decide
    have z_75 : (fv_33 10).toInt = (fv 10).toInt := congrArg Int32.toInt ((fr_36 10 rfl).trans ((fr_24 10 rfl).trans ((fr_13 10 rfl))))
    have z_76 : 0 ≤ (fv_33 10).toInt ∧ (fv_33 10).toInt ≤ 40 := hF_fv_33 10
    exact hj_48 41 0 ar_35 _ _ ls (by first | decide | omega) (iv_w (⟨by decide, by decide⟩ : (0 : Int) ≤ (0 : Int32).toInt ∧ (0 : Int32).toInt ≤ 0) (by decide) (by decide)) hA_ar_35 (fA_rf [48] _) (mx_R_fr hp_mR (fM_call (fM_call (fM_call (fM_rf [] _) fr_13 (by decide)) fr_24 (by decide)) fr_36 (by decide)) (fA_call (fA_put (fA_call (fA_call (fA_put (fA_rf [54, 55, 57] _) ear_5 (by decide)) fa_14 (by decide)) fa_25 (by decide)) ear_29 (by decide)) fa_37 (by decide)) rfl rfl rfl rfl rfl rfl rfl rfl rfl rfl rfl rfl rfl rfl rfl rfl rfl rfl rfl rfl rfl rfl rfl rfl rfl rfl rfl) (by rw [show (0 : Int32).toInt.toNat = 0 from by decide]; show _ = (mo_mk (mo_se (mo_se (mx_S fv ar) 10 (mo_w (mx_D fv ar) (kk.toInt.toNat)) ((mx_D fv ar) 13 (kk.toInt.toNat))) 11 (mo_w (mx_D fv ar) (kk.toInt.toNat)) (b + Int32.ofInt (mo_dr (mx_D fv ar) (mx_G ar) (kk.toInt.toNat)))) (b + Int32.ofInt (mo_dr (mx_D fv ar) (mx_G ar) (kk.toInt.toNat)))); have hw9 : mo_w (mx_D fv ar) (kk.toInt.toNat) = (v_1.toInt.toNat) := (by show (ar 28 (kk.toInt.toNat)).toInt.toNat = _; rw [show ar 28 (kk.toInt.toNat) = v_1 from ((show v_1 = ar 28 (kk.toInt.toNat) from by rw [ev_1]; exact congrArg (ar 28) (show kk.toInt.toNat = (kk.toInt.toNat) from by omega))).symm]); have hd9 : (mx_D fv ar) 13 (kk.toInt.toNat) = v_3 := (by show ar 30 _ = _; exact ((show v_3 = ar 30 (kk.toInt.toNat) from by rw [ev_3]; exact congrArg (ar 30) (show kk.toInt.toNat = (kk.toInt.toNat) from by omega))).symm); have hv9 : (b + Int32.ofInt (mo_dr (mx_D fv ar) (mx_G ar) (kk.toInt.toNat))) = v_28 := (by rw [← dr_27, mo_i32i]; exact ev_28.symm); have s1 : mx_S fv ar_5 = mo_se (mx_S fv ar) 10 (v_1.toInt.toNat) v_3 := mx_S_put (r := 10) (by decide) ear_5; have s2 : mx_S fv_21 ar_29 = mo_se (mx_S fv_21 ar_23) 11 (v_1.toInt.toNat) v_28 := mx_S_put (r := 11) (by decide) ear_29; rw [k_39, (mx_S_eq (fA_all (fA_rf [] _) rfl) rfl), s2, (mx_S_eq (fA_all (fA_call (fA_call (fA_rf [] _) fa_14 (by decide)) fa_25 (by decide)) rfl) ((fM_call (fM_call (fM_rf [] _) fr_13 (by decide)) fr_24 (by decide)) 23 rfl)), s1, (mx_S_eq (fA_all (fA_rf [] _) rfl) rfl), hw9, hd9, hv9, (show v_30 = v_28 from by rw [ev_30, show ar_29 55 = ar_29 55 from rfl, ear_29]; show (if _ = _ then _ else _) = _; exact if_pos rfl)]) (by omega) hP hS (lv_sub hl [2, 1, 0] rfl)

set_option maxHeartbeats 4000000 in
set_option maxRecDepth 100000 in
theorem x_layF (l : Launch) (dC : Nat → ClassId) (dI : Nat → Nat → Nat) (sz : Nat) (ob ad : Nat → Nat) (cA : Nat → ClassId) (hd : dX ob ad) (fv : Nat → Int32) (wd : xT) (ar : Nat → Nat → Int32) (hF_fv : rX fv) (hA_ar : rB ar) (a : Int32) (b : Int32) (v : Int32) : Met l yX4_lay (.code yX4_lay cX4_lay 9 (some .boolean) :: lw_good) ({ frames := 3, cells := 0, slots := 0, locals := 62 }) (va_Pc [.ref (ob 2), .int a, .int b, .int v] (prX dC dI ob ad cA fv wd ar sz)) (va_Qi (fun (r : Int32) (u : xS) => rX u.1 ∧ rB u.2.2 ∧ fM [9] fv u.1 ∧ fA [5] ar u.2.2 ∧ u.2.1.2 = wd.2 ∧ (0 ≤ r.toInt ∧ r.toInt ≤ 1) ∧ (ps_street r (u.1 9) (fv 9) a b v) ∧ (wt_sx r (u.2.2 5) (ar 5) a b v) ∧ True) (enX dC dI ob ad cA) (aX ob ad sz)) 0 0 (aX ob ad sz) := by
  refine Met.ofW (cc := cX4_lay) (maxL := 9) (ret := (some .boolean)) (by decide) rfl ?_
  intro p e s m args below meth c s₁ B hml hv
  obtain ⟨rfl, hsz, hP, hK⟩ := hv
  have hx := B.exec
  have hb := B.bytes
  have hr := B.returns
  have hts := atoms_spec (ws := (.code yX4_lay cX4_lay 9 (some .boolean) :: lw_good)) B.pre
  have htg : ∀ w ∈ lw_good, w.before _ s = true := fun w hw => hts w (List.mem_cons_of_mem _ hw)
  have hown : s.vm.findClass RX4 = some m.cls := findClass_of_methodNamed B.named
  have hlocks := B.notSynchronized
  subst hsz
  have hS : va_S (aX ob ad s.heap.size) s.heap s.heap [] := va_S.rf
  have hl := lv_entry ([.ref (ob 2), .int a, .int b, .int v]) (n := 9) (Nat.le_of_ble_eq_true rfl)
  rw [lg_entry_eq]
  generalize (lg_sl ([.ref (ob 2), .int a, .int b, .int v]) ++ List.replicate (9 - (lg_sl ([.ref (ob 2), .int a, .int b, .int v])).length) Slot.unset).toArray = ls at hl ⊢
  have hl : lv_has ls 9 [(0, .ref (ob 2)), (1, .int a), (2, .int b), (3, .int v)] := hl
  refine lv_aload_n hx hb dX4_lay_0 rfl (lv_at hl 0 rfl) ?_
  refine gX_X4_16 hx hb htg hown hK hP dX4_lay_1 ?_
  have i_1 : 0 ≤ (fv 9).toInt ∧ (fv 9).toInt ≤ 30 := hF_fv 9
  refine lv_bipush (v := 30) hx hb dX4_lay_4 (by decide) ?_
  refine lv_icmp_ge (tgt := 28) hx hb dX4_lay_6 (by decide) (fun c_2 => ?_) (fun c_2 => ?_)
  · skip
    have i_3 : 30 ≤ (fv 9).toInt ∧ (fv 9).toInt ≤ 30 := iv_le2 (⟨by decide, by decide⟩ : (30 : Int) ≤ (30 : Int32).toInt ∧ (30 : Int32).toInt ≤ 30) i_1 c_2
    refine lv_iconst (v := 0) hx hb dX4_lay_28 (by decide) ?_
    have z_4 : (0 : Int32).toInt = 0 := by decide
    exact W.zret (v := 0) hx hb hr (by decide) (fun t ht hW => ⟨⟨0, (fv, wd, ar), rfl, ⟨hF_fv, hA_ar, (fM_rf [9] _), (fA_rf [5] _), rfl, (iv_w (⟨by decide, by decide⟩ : (0 : Int) ≤ (0 : Int32).toInt ∧ (0 : Int32).toInt ≤ 0) (by decide) (by decide)), (show ps_street (0 : Int32) (fv 9) (fv 9) a b v from Or.inl ⟨rfl, rfl, by omega⟩), (show wt_sx (0 : Int32) (ar 5) (ar 5) a b v from Or.inl ⟨rfl, rfl⟩), trivial⟩, ⟨by rw [ht]; exact hP, va_K.moved hW.alike hK⟩⟩, hS.F ht⟩) hS.2.2 dX4_lay_29
  · skip
    have i_5 : 0 ≤ (fv 9).toInt ∧ (fv 9).toInt ≤ 29 := iv_lt1 i_1 (⟨by decide, by decide⟩ : (30 : Int) ≤ (30 : Int32).toInt ∧ (30 : Int32).toInt ≤ 30) (Int32.not_le.mp c_2)
    refine lv_iload_n hx hb dX4_lay_9 rfl (lv_at hl 1 rfl) ?_
    refine va_calli (va_runS (As := [.int a]) (rest := []) ⟨hx, hb, hml, hown, hts⟩ (x_isCorner l s.heap.size a) (va_cwS 1 hts (gS kw_3_143 kw_3_144 kw_1_3 kw_3_145) rfl rfl rfl (by decide +kernel) ⟨Nat.le_of_ble_eq_true rfl, Nat.le_of_ble_eq_true rfl⟩) ⟨fun a U g mk q => ⟨q.1, q.2⟩, fun U hU hW => ⟨rfl, congrArg Array.size hU⟩⟩ rfl rfl hl.1 rfl (lv_room (Nat.le_of_ble_eq_true rfl)) dX4_lay_10 ⟨Nat.le_of_ble_eq_true rfl, Nat.le_of_ble_eq_true rfl⟩) hS (fun q _ h9 => nX_up hS q h9) (nX_up hS) (fun r_6 u t H1 locs ht _ hw hB _ hk1 hS => ?_)
    obtain ⟨p_7, p_8, -⟩ := hw
    have hP := my_keepM hP hk1
    generalize H1 = H at hP hS ⊢
    rcases p_8 with ⟨rfl, p_8⟩ | ⟨rfl, p_8⟩
    · skip
      refine lv_if_eq (tgt := 28) hx hb dX4_lay_13 (by decide) (fun c_9 => ?_) (fun c_9 => ?_)
      · skip
        refine lv_iconst (v := 0) hx hb dX4_lay_28 (by decide) ?_
        have z_10 : (0 : Int32).toInt = 0 := by decide
        exact W.zret (v := 0) hx hb hr (by decide) (fun t ht hW => ⟨⟨0, (fv, wd, ar), rfl, ⟨hF_fv, hA_ar, (fM_rf [9] _), (fA_rf [5] _), rfl, (iv_w (⟨by decide, by decide⟩ : (0 : Int) ≤ (0 : Int32).toInt ∧ (0 : Int32).toInt ≤ 0) (by decide) (by decide)), (show ps_street (0 : Int32) (fv 9) (fv 9) a b v from Or.inl ⟨rfl, rfl, by omega⟩), (show wt_sx (0 : Int32) (ar 5) (ar 5) a b v from Or.inl ⟨rfl, rfl⟩), trivial⟩, ⟨by rw [ht]; exact hP, va_K.moved hW.alike hK⟩⟩, hS.F ht⟩) hS.2.2 dX4_lay_29
      · skip
        exact absurd c_9 (by decide)
    · skip
      have i_11 : 0 ≤ a.toInt ∧ a.toInt ≤ 2147483647 := ⟨p_8.1, (iv_any a).2⟩
      have i_12 : 0 ≤ a.toInt ∧ a.toInt ≤ 11 := ⟨i_11.1, p_8.2⟩
      refine lv_if_eq (tgt := 28) hx hb dX4_lay_13 (by decide) (fun c_13 => ?_) (fun c_13 => ?_)
      · skip
        exact absurd c_13 (by decide)
      · skip
        refine lv_iload_n hx hb dX4_lay_16 rfl (lv_at hl 2 rfl) ?_
        refine va_calli (va_runS (As := [.int b]) (rest := []) ⟨hx, hb, hml, hown, hts⟩ (x_isCorner l H.size b) (va_cwS 1 hts (gS kw_3_143 kw_3_144 kw_1_3 kw_3_145) rfl rfl rfl (by decide +kernel) ⟨Nat.le_of_ble_eq_true rfl, Nat.le_of_ble_eq_true rfl⟩) ⟨fun a U g mk q => ⟨q.1, q.2⟩, fun U hU hW => ⟨rfl, congrArg Array.size hU⟩⟩ rfl rfl hl.1 rfl (lv_room (Nat.le_of_ble_eq_true rfl)) dX4_lay_17 ⟨Nat.le_of_ble_eq_true rfl, Nat.le_of_ble_eq_true rfl⟩) hS (fun q _ h9 => nX_up hS q h9) (nX_up hS) (fun r_14 u t H1 locs ht _ hw hB _ hk1 hS => ?_)
        obtain ⟨p_15, p_16, -⟩ := hw
        have hP := my_keepM hP hk1
        generalize H1 = H at hP hS ⊢
        rcases p_16 with ⟨rfl, p_16⟩ | ⟨rfl, p_16⟩
        · skip
          refine lv_if_eq (tgt := 28) hx hb dX4_lay_20 (by decide) (fun c_17 => ?_) (fun c_17 => ?_)
          · skip
            refine lv_iconst (v := 0) hx hb dX4_lay_28 (by decide) ?_
            have z_18 : (0 : Int32).toInt = 0 := by decide
            exact W.zret (v := 0) hx hb hr (by decide) (fun t ht hW => ⟨⟨0, (fv, wd, ar), rfl, ⟨hF_fv, hA_ar, (fM_rf [9] _), (fA_rf [5] _), rfl, (iv_w (⟨by decide, by decide⟩ : (0 : Int) ≤ (0 : Int32).toInt ∧ (0 : Int32).toInt ≤ 0) (by decide) (by decide)), (show ps_street (0 : Int32) (fv 9) (fv 9) a b v from Or.inl ⟨rfl, rfl, by omega⟩), (show wt_sx (0 : Int32) (ar 5) (ar 5) a b v from Or.inl ⟨rfl, rfl⟩), trivial⟩, ⟨by rw [ht]; exact hP, va_K.moved hW.alike hK⟩⟩, hS.F ht⟩) hS.2.2 dX4_lay_29
          · skip
            exact absurd c_17 (by decide)
        · skip
          have i_19 : 0 ≤ b.toInt ∧ b.toInt ≤ 2147483647 := ⟨p_16.1, (iv_any b).2⟩
          have i_20 : 0 ≤ b.toInt ∧ b.toInt ≤ 11 := ⟨i_19.1, p_16.2⟩
          refine lv_if_eq (tgt := 28) hx hb dX4_lay_20 (by decide) (fun c_21 => ?_) (fun c_21 => ?_)
          · skip
            exact absurd c_21 (by decide)
          · skip
            refine lv_iload_n hx hb dX4_lay_23 rfl (lv_at hl 1 rfl) ?_
            refine lv_iload_n hx hb dX4_lay_24 rfl (lv_at hl 2 rfl) ?_
            refine lv_icmp_ne (tgt := 30) hx hb dX4_lay_25 (by decide) (fun c_22 => ?_) (fun c_22 => ?_)
            · skip
              have k_23 : ¬ a.toInt = b.toInt := fun q => c_22 (Int32.toInt_inj.mp q)
              refine lv_iload_n hx hb dX4_lay_30 rfl (lv_at hl 3 rfl) ?_
              refine lv_iconst (v := 1) hx hb dX4_lay_31 (by decide) ?_
              refine lv_icmp_lt (tgt := 41) hx hb dX4_lay_32 (by decide) (fun c_24 => ?_) (fun c_24 => ?_)
              · skip
                have i_25 : (-2147483648) ≤ v.toInt ∧ v.toInt ≤ 0 := iv_lt1 (iv_any v) (⟨by decide, by decide⟩ : (1 : Int) ≤ (1 : Int32).toInt ∧ (1 : Int32).toInt ≤ 1) c_24
                refine lv_iconst (v := 0) hx hb dX4_lay_41 (by decide) ?_
                have z_26 : (0 : Int32).toInt = 0 := by decide
                exact W.zret (v := 0) hx hb hr (by decide) (fun t ht hW => ⟨⟨0, (fv, wd, ar), rfl, ⟨hF_fv, hA_ar, (fM_rf [9] _), (fA_rf [5] _), rfl, (iv_w (⟨by decide, by decide⟩ : (0 : Int) ≤ (0 : Int32).toInt ∧ (0 : Int32).toInt ≤ 0) (by decide) (by decide)), (show ps_street (0 : Int32) (fv 9) (fv 9) a b v from Or.inl ⟨rfl, rfl, by omega⟩), (show wt_sx (0 : Int32) (ar 5) (ar 5) a b v from Or.inl ⟨rfl, rfl⟩), trivial⟩, ⟨by rw [ht]; exact hP, va_K.moved hW.alike hK⟩⟩, hS.F ht⟩) hS.2.2 dX4_lay_42
              · skip
                have i_27 : 1 ≤ v.toInt ∧ v.toInt ≤ 2147483647 := iv_le2 (⟨by decide, by decide⟩ : (1 : Int) ≤ (1 : Int32).toInt ∧ (1 : Int32).toInt ≤ 1) (iv_any v) (Int32.not_lt.mp c_24)
                refine lv_iload_n hx hb dX4_lay_35 rfl (lv_at hl 3 rfl) ?_
                refine lv_bipush (v := 99) hx hb dX4_lay_36 (by decide) ?_
                refine lv_icmp_le (tgt := 43) hx hb dX4_lay_38 (by decide) (fun c_28 => ?_) (fun c_28 => ?_)
                · skip
                  have i_29 : 1 ≤ v.toInt ∧ v.toInt ≤ 99 := iv_le1 i_27 (⟨by decide, by decide⟩ : (99 : Int) ≤ (99 : Int32).toInt ∧ (99 : Int32).toInt ≤ 99) c_28
                  refine lv_aload_n hx hb dX4_lay_43 rfl (lv_at hl 0 rfl) ?_
                  refine lv_dup hx hb dX4_lay_44 rfl ?_
                  refine gX_X4_16 hx hb htg hown hK hP dX4_lay_45 ?_
                  refine lv_iconst (v := 1) hx hb dX4_lay_48 (by decide) ?_
                  refine lv_iadd hx hb dX4_lay_49 ?_
                  refine lv_topi (fun v_30 ev_30 => ?_)
                  have t_31 : v_30.toInt = (fv 9).toInt + 1 ∧ 1 ≤ v_30.toInt ∧ v_30.toInt ≤ 30 := iv_addc ev_30 i_5 (by decide) (by decide) (by decide)
                  refine pX_X4_16 hx hb htg hown hK hP hS hd dX4_lay_50 (fun H locs fv_33 efv_33 hP hS => ?_)
                  have hF_fv_33 : rX fv_33 := rX_put hF_fv efv_33 (iv_w t_31.2 (by decide) (by decide))
                  refine lv_iconst (v := 0) hx hb dX4_lay_53 (by decide) ?_
                  refine lv_istore (lv' := [(4, .int 0), (0, .ref (ob 2)), (1, .int a), (2, .int b), (3, .int v)]) hx hb dX4_lay_54 hl (by decide) rfl (fun ls hl => ?_)
                  refine my_cut (P := fun R9 a9 Q9 => ∀ (n_42 : Nat) (x_34 : Int32) (fv_35 : Nat → Int32) (ar_37 : Nat → Nat → Int32) (wd_39 : xT) (H : Heap) (locs : List Loc) (ls : Array Slot), 144 - x_34.toInt < (n_42 : Int) → (0 ≤ x_34.toInt ∧ x_34.toInt ≤ 144) → rX fv_35 → fM [] fv_33 fv_35 → rB ar_37 → fA [5] ar ar_37 → wd_39.2 = wd.2 → ((fun i => (ar_37 5 i).toInt) = wt_L a.toInt.toNat b.toInt.toNat v.toInt (fun i => (ar 5 i).toInt) (x_34.toInt.toNat)) → va_P (dC, dI) vwCl (wsX ob ad cA fv_35 wd_39 ar_37) H → va_S (aX ob ad s.heap.size) s.heap H locs → lv_has ls 9 [(0, .ref (ob 2)), (1, .int a), (2, .int b), (3, .int v), (4, .int x_34)] → W p l e R9 s m a9 below meth c H locs 0 0 Q9 (F0 m 56 ls [])) ?_ (fun hj_44 => ?_)
                  · intro n_42
                    induction n_42 with
                    | zero => intro x_34 fv_35 ar_37 wd_39 H locs ls fu_43 i_x_34 hF_fv_35 fr_36 hA_ar_37 fa_38 wf_40 q_41; exfalso; omega
                    | succ n_42 ih_42 =>
                      intro x_34 fv_35 ar_37 wd_39 H locs ls fu_43 i_x_34 hF_fv_35 fr_36 hA_ar_37 fa_38 wf_40 q_41 hP hS hl
                      refine lv_iload hx hb dX4_lay_56 (lv_at hl 4 rfl) ?_
                      refine lv_aload_n hx hb dX4_lay_58 rfl (lv_at hl 0 rfl) ?_
                      refine gX_X4_9 hx hb htg hown hK hP dX4_lay_59 ?_
                      refine nX_5 hx hb hK hP dX4_lay_62 ?_
                      refine lv_icmp_ge (tgt := 148) hx hb dX4_lay_63 (by decide) (fun c_45 => ?_) (fun c_45 => ?_)
                      · skip
                        have i_46 : 144 ≤ x_34.toInt ∧ x_34.toInt ≤ 144 := iv_le2 (⟨by decide, by decide⟩ : (144 : Int) ≤ (144 : Int32).toInt ∧ (144 : Int32).toInt ≤ 144) i_x_34 c_45
                        refine lv_iconst (v := 1) hx hb dX4_lay_148 (by decide) ?_
                        have z_47 : (1 : Int32).toInt = 1 := by decide
                        exact W.zret (v := 1) hx hb hr (by decide) (fun t ht hW => ⟨⟨1, (fv_35, wd_39, ar_37), rfl, ⟨hF_fv_35, hA_ar_37, (fM_call (fM_put (fM_rf [9] _) efv_33 (by decide)) fr_36 (by decide)), (fA_call (fA_rf [5] _) fa_38 (by decide)), wf_40, (iv_w (⟨by decide, by decide⟩ : (1 : Int) ≤ (1 : Int32).toInt ∧ (1 : Int32).toInt ≤ 1) (by decide) (by decide)), (show ps_street (1 : Int32) (fv_35 9) (fv 9) a b v from Or.inr ⟨rfl, by rw [show fv_35 9 = v_30 from (fr_36 9 rfl).trans ((congrFun efv_33 9))]; omega, by omega⟩), (show wt_sx (1 : Int32) (ar_37 5) (ar 5) a b v from Or.inr ⟨rfl, by rw [q_41, show x_34.toInt.toNat = 144 from (by omega)]⟩), trivial⟩, ⟨by rw [ht]; exact hP, va_K.moved hW.alike hK⟩⟩, hS.F ht⟩) hS.2.2 dX4_lay_149
                      · skip
                        have i_48 : 0 ≤ x_34.toInt ∧ x_34.toInt ≤ 143 := iv_lt1 i_x_34 (⟨by decide, by decide⟩ : (144 : Int) ≤ (144 : Int32).toInt ∧ (144 : Int32).toInt ≤ 144) (Int32.not_le.mp c_45)
                        refine lv_iload hx hb dX4_lay_66 (lv_at hl 4 rfl) ?_
                        refine lv_bipush (v := 12) hx hb dX4_lay_68 (by decide) ?_
                        refine lv_idiv hx hb dX4_lay_70 (by decide) ?_
                        refine lv_topi (fun v_49 ev_49 => ?_)
                        have t_50 : v_49.toInt = x_34.toInt / 12 ∧ 0 ≤ v_49.toInt ∧ v_49.toInt ≤ 11 := wt_dv ev_49 (by omega)
                        refine lv_istore (lv' := [(5, .int v_49), (0, .ref (ob 2)), (1, .int a), (2, .int b), (3, .int v), (4, .int x_34)]) hx hb dX4_lay_71 hl (by decide) rfl (fun ls hl => ?_)
                        refine lv_iload hx hb dX4_lay_73 (lv_at hl 5 rfl) ?_
                        refine lv_bipush (v := 12) hx hb dX4_lay_75 (by decide) ?_
                        refine lv_irem hx hb dX4_lay_77 (by decide) ?_
                        refine lv_topi (fun v_51 ev_51 => ?_)
                        have t_52 : v_51.toInt = x_34.toInt % 12 ∧ 0 ≤ v_51.toInt ∧ v_51.toInt ≤ 11 := wt_rm ev_51 (by omega)
                        refine lv_istore (lv' := [(6, .int v_51), (5, .int v_49), (0, .ref (ob 2)), (1, .int a), (2, .int b), (3, .int v), (4, .int x_34)]) hx hb dX4_lay_78 hl (by decide) rfl (fun ls hl => ?_)
                        refine lv_aload_n hx hb dX4_lay_80 rfl (lv_at hl 2 rfl) ?_
                        refine lv_iload hx hb dX4_lay_81 (lv_at hl 1 rfl) ?_
                        refine lv_iload_n hx hb dX4_lay_83 rfl (lv_at hl 3 rfl) ?_
                        refine va_calli (va_runV (As := [.int v_49, .int a]) (rest := []) ⟨hx, hb, hml, hown, hts⟩ (x_between l dC dI H.size ob ad cA hd fv_35 wd_39 ar_37 hF_fv_35 hA_ar_37 v_49 a) (cwV 2 hts (gV kw_3_146 kw_3_147 kw_3_148 kw_1_3 kw_3_149) rfl rfl rfl (by decide +kernel) ⟨Nat.le_of_ble_eq_true rfl, Nat.le_of_ble_eq_true rfl⟩) ⟨fun a U g mk q => ⟨q.1, q.2.1, q.2.2.1, va_K.moved (u := U) (U := U.calling g mk a) (Vm.Alike.refl U.vm) q.2.2.2⟩, va_recv hK hP (ci := 5) (q0 := 2) rfl rfl, fun U hU hW => ⟨rfl, by rw [hU], by rw [hU]; exact hP, va_K.moved hW.alike hK⟩⟩ rfl rfl hl.1 rfl (lv_room (Nat.le_of_ble_eq_true rfl)) dX4_lay_84 ⟨Nat.le_of_ble_eq_true rfl, Nat.le_of_ble_eq_true rfl⟩) hS (fun q _ h9 => aX_up hS q h9) (aX_up hS) (fun r_53 u t H1 locs ht _ hw hB _ hk1 hS => ?_)
                        obtain ⟨fv_56, wd_57, ar_58⟩ := u
                        obtain ⟨hF_fv_56, hA_ar_58, fr_59, fa_60, wf_61, p_54, p_55, -⟩ := hw
                        have wf_61 : wd_57.2 = wd_39.2 := wf_61
                        have hP : va_P (dC, dI) vwCl (wsX ob ad cA fv_56 wd_57 ar_58) H1 := by have h9 := hB.1; rw [ht] at h9; exact h9
                        have fr_59 : fM [] fv_35 fv_56 := fr_59
                        have fa_60 : fA [] ar_37 ar_58 := fa_60
                        have p_55 : wt_bt r_53 v_49 a (ar_37 5) := p_55
                        generalize H1 = H at hP hS ⊢
                        have k_62 : r_53.toInt = (ar_37 5 (12 * v_49.toInt.toNat + a.toInt.toNat)).toInt := by have h9 := wt_btv p_55 t_50.2 i_12; rw [h9]
                        refine lv_iload_n hx hb dX4_lay_87 rfl (lv_at hl 5 rfl) ?_
                        refine lv_iadd hx hb dX4_lay_88 ?_
                        refine lv_topi (fun v_63 ev_63 => ?_)
                        have t_64 : v_63.toInt = r_53.toInt + v.toInt ∧ 1 ≤ v_63.toInt ∧ v_63.toInt ≤ 10000099 := iv_add ev_63 p_54 i_29 (by decide) (by decide)
                        refine lv_aload_n hx hb dX4_lay_89 rfl (lv_at hl 2 rfl) ?_
                        refine lv_iload_n hx hb dX4_lay_90 rfl (lv_at hl 4 rfl) ?_
                        refine lv_iload hx hb dX4_lay_91 (lv_at hl 0 rfl) ?_
                        refine va_calli (va_runV (As := [.int b, .int v_51]) (rest := [.int v_63]) ⟨hx, hb, hml, hown, hts⟩ (x_between l dC dI H.size ob ad cA hd fv_56 wd_57 ar_58 hF_fv_56 hA_ar_58 b v_51) (cwV 2 hts (gV kw_3_146 kw_3_147 kw_3_148 kw_1_3 kw_3_149) rfl rfl rfl (by decide +kernel) ⟨Nat.le_of_ble_eq_true rfl, Nat.le_of_ble_eq_true rfl⟩) ⟨fun a U g mk q => ⟨q.1, q.2.1, q.2.2.1, va_K.moved (u := U) (U := U.calling g mk a) (Vm.Alike.refl U.vm) q.2.2.2⟩, va_recv hK hP (ci := 5) (q0 := 2) rfl rfl, fun U hU hW => ⟨rfl, by rw [hU], by rw [hU]; exact hP, va_K.moved hW.alike hK⟩⟩ rfl rfl hl.1 rfl (lv_room (Nat.le_of_ble_eq_true rfl)) dX4_lay_93 ⟨Nat.le_of_ble_eq_true rfl, Nat.le_of_ble_eq_true rfl⟩) hS (fun q _ h9 => aX_up hS q h9) (aX_up hS) (fun r_66 u t H1 locs ht _ hw hB _ hk1 hS => ?_)
                        obtain ⟨fv_69, wd_70, ar_71⟩ := u
                        obtain ⟨hF_fv_69, hA_ar_71, fr_72, fa_73, wf_74, p_67, p_68, -⟩ := hw
                        have wf_74 : wd_70.2 = wd_57.2 := wf_74
                        have hP : va_P (dC, dI) vwCl (wsX ob ad cA fv_69 wd_70 ar_71) H1 := by have h9 := hB.1; rw [ht] at h9; exact h9
                        have fr_72 : fM [] fv_56 fv_69 := fr_72
                        have fa_73 : fA [] ar_58 ar_71 := fa_73
                        have p_68 : wt_bt r_66 b v_51 (ar_58 5) := p_68
                        generalize H1 = H at hP hS ⊢
                        have k_75 : r_66.toInt = (ar_37 5 (12 * b.toInt.toNat + v_51.toInt.toNat)).toInt := by have h9 := wt_btv p_68 i_20 t_52.2; rw [show ar_58 5 = ar_37 5 from ((fA_call (fA_rf [] _) fa_60 (by decide)) 5 rfl)] at h9; rw [h9]
                        refine lv_iadd hx hb dX4_lay_96 ?_
                        refine lv_topi (fun v_76 ev_76 => ?_)
                        have t_77 : v_76.toInt = v_63.toInt + r_66.toInt ∧ 1 ≤ v_76.toInt ∧ v_76.toInt ≤ 20000099 := iv_add ev_76 t_64.2 p_67 (by decide) (by decide)
                        refine lv_istore (lv' := [(7, .int v_76), (6, .int v_51), (5, .int v_49), (0, .ref (ob 2)), (1, .int a), (2, .int b), (3, .int v), (4, .int x_34)]) hx hb dX4_lay_97 hl (by decide) rfl (fun ls hl => ?_)
                        refine lv_aload_n hx hb dX4_lay_99 rfl (lv_at hl 3 rfl) ?_
                        refine lv_iload hx hb dX4_lay_100 (lv_at hl 2 rfl) ?_
                        refine lv_iload_n hx hb dX4_lay_102 rfl (lv_at hl 5 rfl) ?_
                        refine va_calli (va_runV (As := [.int v_49, .int b]) (rest := []) ⟨hx, hb, hml, hown, hts⟩ (x_between l dC dI H.size ob ad cA hd fv_69 wd_70 ar_71 hF_fv_69 hA_ar_71 v_49 b) (cwV 2 hts (gV kw_3_146 kw_3_147 kw_3_148 kw_1_3 kw_3_149) rfl rfl rfl (by decide +kernel) ⟨Nat.le_of_ble_eq_true rfl, Nat.le_of_ble_eq_true rfl⟩) ⟨fun a U g mk q => ⟨q.1, q.2.1, q.2.2.1, va_K.moved (u := U) (U := U.calling g mk a) (Vm.Alike.refl U.vm) q.2.2.2⟩, va_recv hK hP (ci := 5) (q0 := 2) rfl rfl, fun U hU hW => ⟨rfl, by rw [hU], by rw [hU]; exact hP, va_K.moved hW.alike hK⟩⟩ rfl rfl hl.1 rfl (lv_room (Nat.le_of_ble_eq_true rfl)) dX4_lay_103 ⟨Nat.le_of_ble_eq_true rfl, Nat.le_of_ble_eq_true rfl⟩) hS (fun q _ h9 => aX_up hS q h9) (aX_up hS) (fun r_79 u t H1 locs ht _ hw hB _ hk1 hS => ?_)
                        obtain ⟨fv_82, wd_83, ar_84⟩ := u
                        obtain ⟨hF_fv_82, hA_ar_84, fr_85, fa_86, wf_87, p_80, p_81, -⟩ := hw
                        have wf_87 : wd_83.2 = wd_70.2 := wf_87
                        have hP : va_P (dC, dI) vwCl (wsX ob ad cA fv_82 wd_83 ar_84) H1 := by have h9 := hB.1; rw [ht] at h9; exact h9
                        have fr_85 : fM [] fv_69 fv_82 := fr_85
                        have fa_86 : fA [] ar_71 ar_84 := fa_86
                        have p_81 : wt_bt r_79 v_49 b (ar_71 5) := p_81
                        generalize H1 = H at hP hS ⊢
                        have k_88 : r_79.toInt = (ar_37 5 (12 * v_49.toInt.toNat + b.toInt.toNat)).toInt := by have h9 := wt_btv p_81 t_50.2 i_20; rw [show ar_71 5 = ar_37 5 from ((fA_call (fA_call (fA_rf [] _) fa_60 (by decide)) fa_73 (by decide)) 5 rfl)] at h9; rw [h9]
                        refine lv_iload_n hx hb dX4_lay_106 rfl (lv_at hl 6 rfl) ?_
                        refine lv_iadd hx hb dX4_lay_107 ?_
                        refine lv_topi (fun v_89 ev_89 => ?_)
                        have t_90 : v_89.toInt = r_79.toInt + v.toInt ∧ 1 ≤ v_89.toInt ∧ v_89.toInt ≤ 10000099 := iv_add ev_89 p_80 i_29 (by decide) (by decide)
                        refine lv_aload_n hx hb dX4_lay_108 rfl (lv_at hl 3 rfl) ?_
                        refine lv_iload_n hx hb dX4_lay_109 rfl (lv_at hl 4 rfl) ?_
                        refine lv_iload hx hb dX4_lay_110 (lv_at hl 1 rfl) ?_
                        refine va_calli (va_runV (As := [.int a, .int v_51]) (rest := [.int v_89]) ⟨hx, hb, hml, hown, hts⟩ (x_between l dC dI H.size ob ad cA hd fv_82 wd_83 ar_84 hF_fv_82 hA_ar_84 a v_51) (cwV 2 hts (gV kw_3_146 kw_3_147 kw_3_148 kw_1_3 kw_3_149) rfl rfl rfl (by decide +kernel) ⟨Nat.le_of_ble_eq_true rfl, Nat.le_of_ble_eq_true rfl⟩) ⟨fun a U g mk q => ⟨q.1, q.2.1, q.2.2.1, va_K.moved (u := U) (U := U.calling g mk a) (Vm.Alike.refl U.vm) q.2.2.2⟩, va_recv hK hP (ci := 5) (q0 := 2) rfl rfl, fun U hU hW => ⟨rfl, by rw [hU], by rw [hU]; exact hP, va_K.moved hW.alike hK⟩⟩ rfl rfl hl.1 rfl (lv_room (Nat.le_of_ble_eq_true rfl)) dX4_lay_112 ⟨Nat.le_of_ble_eq_true rfl, Nat.le_of_ble_eq_true rfl⟩) hS (fun q _ h9 => aX_up hS q h9) (aX_up hS) (fun r_92 u t H1 locs ht _ hw hB _ hk1 hS => ?_)
                        obtain ⟨fv_95, wd_96, ar_97⟩ := u
                        obtain ⟨hF_fv_95, hA_ar_97, fr_98, fa_99, wf_100, p_93, p_94, -⟩ := hw
                        have wf_100 : wd_96.2 = wd_83.2 := wf_100
                        have hP : va_P (dC, dI) vwCl (wsX ob ad cA fv_95 wd_96 ar_97) H1 := by have h9 := hB.1; rw [ht] at h9; exact h9
                        have fr_98 : fM [] fv_82 fv_95 := fr_98
                        have fa_99 : fA [] ar_84 ar_97 := fa_99
                        have p_94 : wt_bt r_92 a v_51 (ar_84 5) := p_94
                        generalize H1 = H at hP hS ⊢
                        have k_101 : r_92.toInt = (ar_37 5 (12 * a.toInt.toNat + v_51.toInt.toNat)).toInt := by have h9 := wt_btv p_94 i_12 t_52.2; rw [show ar_84 5 = ar_37 5 from ((fA_call (fA_call (fA_call (fA_rf [] _) fa_60 (by decide)) fa_73 (by decide)) fa_86 (by decide)) 5 rfl)] at h9; rw [h9]
                        refine lv_iadd hx hb dX4_lay_115 ?_
                        refine lv_topi (fun v_102 ev_102 => ?_)
                        have t_103 : v_102.toInt = v_89.toInt + r_92.toInt ∧ 1 ≤ v_102.toInt ∧ v_102.toInt ≤ 20000099 := iv_add ev_102 t_90.2 p_93 (by decide) (by decide)
                        refine lv_istore (lv' := [(8, .int v_102), (7, .int v_76), (6, .int v_51), (5, .int v_49), (0, .ref (ob 2)), (1, .int a), (2, .int b), (3, .int v), (4, .int x_34)]) hx hb dX4_lay_116 hl (by decide) rfl (fun ls hl => ?_)
                        refine lv_aload_n hx hb dX4_lay_118 rfl (lv_at hl 4 rfl) ?_
                        refine gX_X4_9 hx hb htg hown hK hP dX4_lay_119 ?_
                        refine lv_iload hx hb dX4_lay_122 (lv_at hl 8 rfl) ?_
                        refine lv_aload_n hx hb dX4_lay_124 rfl (lv_at hl 4 rfl) ?_
                        refine gX_X4_9 hx hb htg hown hK hP dX4_lay_125 ?_
                        refine lv_iload hx hb dX4_lay_128 (lv_at hl 8 rfl) ?_
                        refine lX_5 hx hb hK hP (iv_in i_48 (by decide) (by decide)) dX4_lay_130 (fun v_105 ev_105 => ?_)
                        have i_106 : 0 ≤ v_105.toInt ∧ v_105.toInt ≤ 10000000 := ev_105 ▸ hA_ar_97 5 _
                        refine lv_iload hx hb dX4_lay_131 (lv_at hl 1 rfl) ?_
                        refine lv_iload hx hb dX4_lay_133 (lv_at hl 0 rfl) ?_
                        refine va_mmin hx hb (hml.trans hl.1.symm) hown (htg (.methodLink RX4 28 Lib.Math.min.name) kw_3_150) (htg (.static Lib.Math.min.name) kw_3_151) (htg (.initialized RJ9) kw_1_16) (htg (.code Lib.Math.min.name Lib.Math.min.code 2 (some .int)) kw_3_152) (Nat.le_of_ble_eq_true rfl) (Nat.le_of_ble_eq_true rfl) (Nat.le_of_ble_eq_true rfl) (Nat.le_of_ble_eq_true rfl) dX4_lay_135 ?_
                        refine lv_topi (fun v_107 ev_107 => ?_)
                        have i_108 : 1 ≤ v_107.toInt ∧ v_107.toInt ≤ 20000099 := ix_min ev_107 t_77.2 t_103.2 (by decide) (by decide)
                        refine va_mmin hx hb (hml.trans hl.1.symm) hown (htg (.methodLink RX4 28 Lib.Math.min.name) kw_3_150) (htg (.static Lib.Math.min.name) kw_3_151) (htg (.initialized RJ9) kw_1_16) (htg (.code Lib.Math.min.name Lib.Math.min.code 2 (some .int)) kw_3_152) (Nat.le_of_ble_eq_true rfl) (Nat.le_of_ble_eq_true rfl) (Nat.le_of_ble_eq_true rfl) (Nat.le_of_ble_eq_true rfl) dX4_lay_138 ?_
                        refine lv_topi (fun v_109 ev_109 => ?_)
                        have i_110 : 0 ≤ v_109.toInt ∧ v_109.toInt ≤ 10000000 := ix_min ev_109 i_106 i_108 (by decide) (by decide)
                        refine sX_5 hx hb hK hP hS hd (iv_in i_48 (by decide) (by decide)) dX4_lay_141 (fun H locs ar_111 ear_111 hP hS => ?_)
                        have hA_ar_111 : rB ar_111 := rB_put hA_ar_97 ear_111 i_110
                        obtain ⟨v_112, ev_112⟩ : ∃ z : Int32, z = x_34 + 1 := ⟨_, rfl⟩
                        refine lv_iinc (v := v_112) (lv' := [(4, .int v_112), (8, .int v_102), (7, .int v_76), (6, .int v_51), (5, .int v_49), (0, .ref (ob 2)), (1, .int a), (2, .int b), (3, .int v)]) hx hb dX4_lay_142 hl (k := 8) rfl (by rw [ev_112]; rfl) (by decide) rfl (fun ls hl => ?_)
                        have t_113 : v_112.toInt = x_34.toInt + 1 ∧ 1 ≤ v_112.toInt ∧ v_112.toInt ≤ 144 := iv_addc ev_112 i_48 (by decide) (by decide) (by decide)
                        refine lv_goto (tgt := 56) hx hb dX4_lay_145 (by decide) ?_
                        exact ih_42 v_112 fv_95 ar_111 wd_96 _ _ ls (by omega) (iv_w t_113.2 (by decide) (by decide)) hF_fv_95 (fM_call (fM_call (fM_call (fM_call (fM_call (fM_rf [] _) fr_36 (by decide)) fr_59 (by decide)) fr_72 (by decide)) fr_85 (by decide)) fr_98 (by decide)) hA_ar_111 (fA_put (fA_call (fA_call (fA_call (fA_call (fA_call (fA_rf [5] _) fa_38 (by decide)) fa_60 (by decide)) fa_73 (by decide)) fa_86 (by decide)) fa_99 (by decide)) ear_111 (by decide)) (wf_100.trans (wf_87.trans (wf_74.trans (wf_61.trans wf_40)))) (by have d1 : v_49.toInt.toNat = x_34.toInt.toNat / 12 := (by omega); have d2 : v_51.toInt.toNat = x_34.toInt.toNat % 12 := (by omega); have g0 := k_62; rw [d1] at g0; have g1 := k_75; rw [d2] at g1; have g2 := k_88; rw [d1] at g2; have g3 := k_101; rw [d2] at g3; have w1 : v_76.toInt = (ar_37 5 (12 * (x_34.toInt.toNat / 12) + a.toInt.toNat)).toInt + v.toInt + (ar_37 5 (12 * b.toInt.toNat + x_34.toInt.toNat % 12)).toInt := (by omega); have w2 : v_102.toInt = (ar_37 5 (12 * (x_34.toInt.toNat / 12) + b.toInt.toNat)).toInt + v.toInt + (ar_37 5 (12 * a.toInt.toNat + x_34.toInt.toNat % 12)).toInt := (by omega); have w0 : v_105.toInt = (ar_37 5 (x_34.toInt.toNat)).toInt := (by rw [ev_105, show ar_97 5 = ar_37 5 from ((fA_call (fA_call (fA_call (fA_call (fA_rf [] _) fa_60 (by decide)) fa_73 (by decide)) fa_86 (by decide)) fa_99 (by decide)) 5 rfl)]; rfl); have e1 := wt_mnI ev_109; have e2 := wt_mnI ev_107; rw [show v_112.toInt.toNat = x_34.toInt.toNat + 1 from (by omega)]; exact wt_Lg q_41 (show ar_111 5 = upd (ar_37 5) (x_34.toInt.toNat) v_109 from by rw [ear_111]; show upd (ar_97 5) (x_34.toInt.toNat) v_109 = _; rw [show ar_97 5 = ar_37 5 from ((fA_call (fA_call (fA_call (fA_call (fA_rf [] _) fa_60 (by decide)) fa_73 (by decide)) fa_86 (by decide)) fa_99 (by decide)) 5 rfl)]) (show v_109.toInt = wt_mn (wt_mn ((ar_37 5 (12 * (x_34.toInt.toNat / 12) + a.toInt.toNat)).toInt + v.toInt + (ar_37 5 (12 * b.toInt.toNat + x_34.toInt.toNat % 12)).toInt) ((ar_37 5 (12 * (x_34.toInt.toNat / 12) + b.toInt.toNat)).toInt + v.toInt + (ar_37 5 (12 * a.toInt.toNat + x_34.toInt.toNat % 12)).toInt)) (ar_37 5 (x_34.toInt.toNat)).toInt from by rw [← w1, ← w2, ← w0, e1, e2, wt_mn_comm v_102.toInt v_76.toInt])) hP hS (lv_sub hl [5, 6, 7, 8, 0] rfl)
                  · skip
                    have z_115 : (0 : Int32).toInt = 0 := by decide
                    exact hj_44 145 0 fv_33 ar wd _ _ ls (by first | decide | omega) (iv_w (⟨by decide, by decide⟩ : (0 : Int) ≤ (0 : Int32).toInt ∧ (0 : Int32).toInt ≤ 0) (by decide) (by decide)) hF_fv_33 (fM_rf [] _) hA_ar (fA_rf [5] _) rfl (by rw [show (0 : Int32).toInt.toNat = 0 from (by decide)]; rfl) hP hS (lv_sub hl [1, 2, 3, 4, 0] rfl)
                · skip
                  have i_116 : 100 ≤ v.toInt ∧ v.toInt ≤ 2147483647 := iv_lt2 (⟨by decide, by decide⟩ : (99 : Int) ≤ (99 : Int32).toInt ∧ (99 : Int32).toInt ≤ 99) i_27 (Int32.not_le.mp c_28)
                  refine lv_iconst (v := 0) hx hb dX4_lay_41 (by decide) ?_
                  have z_117 : (0 : Int32).toInt = 0 := by decide
                  exact W.zret (v := 0) hx hb hr (by decide) (fun t ht hW => ⟨⟨0, (fv, wd, ar), rfl, ⟨hF_fv, hA_ar, (fM_rf [9] _), (fA_rf [5] _), rfl, (iv_w (⟨by decide, by decide⟩ : (0 : Int) ≤ (0 : Int32).toInt ∧ (0 : Int32).toInt ≤ 0) (by decide) (by decide)), (show ps_street (0 : Int32) (fv 9) (fv 9) a b v from Or.inl ⟨rfl, rfl, by omega⟩), (show wt_sx (0 : Int32) (ar 5) (ar 5) a b v from Or.inl ⟨rfl, rfl⟩), trivial⟩, ⟨by rw [ht]; exact hP, va_K.moved hW.alike hK⟩⟩, hS.F ht⟩) hS.2.2 dX4_lay_42
            · skip
              have k_118 := congrArg Int32.toInt c_22
              refine lv_iconst (v := 0) hx hb dX4_lay_28 (by decide) ?_
              have z_119 : (0 : Int32).toInt = 0 := by decide
              exact W.zret (v := 0) hx hb hr (by decide) (fun t ht hW => ⟨⟨0, (fv, wd, ar), rfl, ⟨hF_fv, hA_ar, (fM_rf [9] _), (fA_rf [5] _), rfl, (iv_w (⟨by decide, by decide⟩ : (0 : Int) ≤ (0 : Int32).toInt ∧ (0 : Int32).toInt ≤ 0) (by decide) (by decide)), (show ps_street (0 : Int32) (fv 9) (fv 9) a b v from Or.inl ⟨rfl, rfl, by omega⟩), (show wt_sx (0 : Int32) (ar 5) (ar 5) a b v from Or.inl ⟨rfl, rfl⟩), trivial⟩, ⟨by rw [ht]; exact hP, va_K.moved hW.alike hK⟩⟩, hS.F ht⟩) hS.2.2 dX4_lay_29
set_option maxHeartbeats 4000000 in
set_option maxRecDepth 100000 in
theorem x_streetF (l : Launch) (dC : Nat → ClassId) (dI : Nat → Nat → Nat) (sz : Nat) (ob ad : Nat → Nat) (cA : Nat → ClassId) (hd : dX ob ad) (fv : Nat → Int32) (wd : xT) (ar : Nat → Nat → Int32) (hF_fv : rX fv) (hA_ar : rB ar) (a : Int32) (b : Int32) (v : Int32) : Met l yX11_street (.code yX11_street cX11_street 4 (some .boolean) :: lw_good) ({ frames := 4, cells := 0, slots := 0, locals := 90 }) (va_Pc [.ref (ob 0), .int a, .int b, .int v] (prX dC dI ob ad cA fv wd ar sz)) (va_Qi (fun (r : Int32) (u : xS) => rX u.1 ∧ rB u.2.2 ∧ fM [9] fv u.1 ∧ fA [5] ar u.2.2 ∧ u.2.1.2 = wd.2 ∧ (0 ≤ r.toInt ∧ r.toInt ≤ 1) ∧ (ps_street r (u.1 9) (fv 9) a b v) ∧ (wt_sx r (u.2.2 5) (ar 5) a b v) ∧ True) (enX dC dI ob ad cA) (aX ob ad sz)) 0 0 (aX ob ad sz) := by
  refine Met.ofW (cc := cX11_street) (maxL := 4) (ret := (some .boolean)) (by decide) rfl ?_
  intro p e s m args below meth c s₁ B hml hv
  obtain ⟨rfl, hsz, hP, hK⟩ := hv
  have hx := B.exec
  have hb := B.bytes
  have hr := B.returns
  have hts := atoms_spec (ws := (.code yX11_street cX11_street 4 (some .boolean) :: lw_good)) B.pre
  have htg : ∀ w ∈ lw_good, w.before _ s = true := fun w hw => hts w (List.mem_cons_of_mem _ hw)
  have hown : s.vm.findClass RX11 = some m.cls := findClass_of_methodNamed B.named
  have hlocks := B.notSynchronized
  subst hsz
  have hS : va_S (aX ob ad s.heap.size) s.heap s.heap [] := va_S.rf
  have hl := lv_entry ([.ref (ob 0), .int a, .int b, .int v]) (n := 4) (Nat.le_of_ble_eq_true rfl)
  rw [lg_entry_eq]
  generalize (lg_sl ([.ref (ob 0), .int a, .int b, .int v]) ++ List.replicate (4 - (lg_sl ([.ref (ob 0), .int a, .int b, .int v])).length) Slot.unset).toArray = ls at hl ⊢
  have hl : lv_has ls 4 [(0, .ref (ob 0)), (1, .int a), (2, .int b), (3, .int v)] := hl
  refine lv_aload_n hx hb dX11_street_0 rfl (lv_at hl 0 rfl) ?_
  refine gX_X11_16 hx hb htg hown hK hP dX11_street_1 ?_
  refine gX_X11_60 hx hb htg hown hK hP dX11_street_4 ?_
  refine lv_iload_n hx hb dX11_street_7 rfl (lv_at hl 1 rfl) ?_
  refine lv_iload_n hx hb dX11_street_8 rfl (lv_at hl 2 rfl) ?_
  refine lv_iload_n hx hb dX11_street_9 rfl (lv_at hl 3 rfl) ?_
  have z_1 : 0 ≤ (fv 9).toInt ∧ (fv 9).toInt ≤ 30 := hF_fv 9
  refine va_calli (va_runV (As := [.int a, .int b, .int v]) (rest := []) ⟨hx, hb, hml, hown, hts⟩ (x_layF l dC dI s.heap.size ob ad cA hd fv wd ar hF_fv hA_ar a b v) (cwV 3 hts (gV kw_3_139 kw_3_140 kw_3_141 kw_1_3 kw_3_142) rfl rfl rfl (by decide +kernel) ⟨Nat.le_of_ble_eq_true rfl, Nat.le_of_ble_eq_true rfl⟩) ⟨fun a U g mk q => ⟨q.1, q.2.1, q.2.2.1, va_K.moved (u := U) (U := U.calling g mk a) (Vm.Alike.refl U.vm) q.2.2.2⟩, va_recv hK hP (ci := 5) (q0 := 2) rfl rfl, fun U hU hW => ⟨rfl, by rw [hU], by rw [hU]; exact hP, va_K.moved hW.alike hK⟩⟩ rfl rfl hl.1 rfl (lv_room (Nat.le_of_ble_eq_true rfl)) dX11_street_10 ⟨Nat.le_of_ble_eq_true rfl, Nat.le_of_ble_eq_true rfl⟩) hS (fun q _ h9 => aX_up hS q h9) (aX_up hS) (fun r_2 u t H1 locs ht _ hw hB _ hk1 hS => ?_)
  obtain ⟨fv_6, wd_7, ar_8⟩ := u
  obtain ⟨hF_fv_6, hA_ar_8, fr_9, fa_10, wf_11, p_3, p_4, p_5, -⟩ := hw
  have wf_11 : wd_7.2 = wd.2 := wf_11
  have hP : va_P (dC, dI) vwCl (wsX ob ad cA fv_6 wd_7 ar_8) H1 := by have h9 := hB.1; rw [ht] at h9; exact h9
  have fr_9 : fM [9] fv fv_6 := fr_9
  have fa_10 : fA [5] ar ar_8 := fa_10
  have p_4 : ps_street r_2 (fv_6 9) (fv 9) a b v := p_4
  have p_5 : wt_sx r_2 (ar_8 5) (ar 5) a b v := p_5
  generalize H1 = H at hP hS ⊢
  exact W.zret (v := r_2) hx hb hr (iv_nar p_3) (fun t ht hW => ⟨⟨r_2, (fv_6, wd_7, ar_8), rfl, ⟨hF_fv_6, hA_ar_8, (fM_call (fM_rf [9] _) fr_9 (by decide)), (fA_call (fA_rf [5] _) fa_10 (by decide)), wf_11, p_3, (show ps_street r_2 (fv_6 9) (fv 9) a b v from p_4), (show wt_sx r_2 (ar_8 5) (ar 5) a b v from p_5), trivial⟩, ⟨by rw [ht]; exact hP, va_K.moved hW.alike hK⟩⟩, hS.F ht⟩) hS.2.2 dX11_street_13
set_option maxHeartbeats 4000000 in
set_option maxRecDepth 100000 in
theorem x_farF (l : Launch) (dC : Nat → ClassId) (dI : Nat → Nat → Nat) (sz : Nat) (ob ad : Nat → Nat) (cA : Nat → ClassId) (hd : dX ob ad) (fv : Nat → Int32) (wd : xT) (ar : Nat → Nat → Int32) (hF_fv : rX fv) (hA_ar : rB ar) (a : Int32) (b : Int32) : Met l yX11_far (.code yX11_far cX11_far 4 (some .int) :: lw_good) ({ frames := 3, cells := 0, slots := 0, locals := 62 }) (va_Pc [.ref (ob 0), .int a, .int b] (prX dC dI ob ad cA fv wd ar sz)) (va_Qi (fun (r : Int32) (u : xS) => rX u.1 ∧ rB u.2.2 ∧ fM [] fv u.1 ∧ fA [] ar u.2.2 ∧ u.2.1.2 = wd.2 ∧ (wt_far r a b (fun i => (ar 5 i).toInt)) ∧ True) (enX dC dI ob ad cA) (aX ob ad sz)) 0 0 (aX ob ad sz) := by
  refine Met.ofW (cc := cX11_far) (maxL := 4) (ret := (some .int)) (by decide) rfl ?_
  intro p e s m args below meth c s₁ B hml hv
  obtain ⟨rfl, hsz, hP, hK⟩ := hv
  have hx := B.exec
  have hb := B.bytes
  have hr := B.returns
  have hts := atoms_spec (ws := (.code yX11_far cX11_far 4 (some .int) :: lw_good)) B.pre
  have htg : ∀ w ∈ lw_good, w.before _ s = true := fun w hw => hts w (List.mem_cons_of_mem _ hw)
  have hown : s.vm.findClass RX11 = some m.cls := findClass_of_methodNamed B.named
  have hlocks := B.notSynchronized
  subst hsz
  have hS : va_S (aX ob ad s.heap.size) s.heap s.heap [] := va_S.rf
  have hl := lv_entry ([.ref (ob 0), .int a, .int b]) (n := 4) (Nat.le_of_ble_eq_true rfl)
  rw [lg_entry_eq]
  generalize (lg_sl ([.ref (ob 0), .int a, .int b]) ++ List.replicate (4 - (lg_sl ([.ref (ob 0), .int a, .int b])).length) Slot.unset).toArray = ls at hl ⊢
  have hl : lv_has ls 4 [(0, .ref (ob 0)), (1, .int a), (2, .int b)] := hl
  refine lv_iload_n hx hb dX11_far_0 rfl (lv_at hl 1 rfl) ?_
  refine va_calli (va_runS (As := [.int a]) (rest := []) ⟨hx, hb, hml, hown, hts⟩ (x_isCorner l s.heap.size a) (va_cwS 1 hts (gS kw_3_157 kw_3_144 kw_1_3 kw_3_145) rfl rfl rfl (by decide +kernel) ⟨Nat.le_of_ble_eq_true rfl, Nat.le_of_ble_eq_true rfl⟩) ⟨fun a U g mk q => ⟨q.1, q.2⟩, fun U hU hW => ⟨rfl, congrArg Array.size hU⟩⟩ rfl rfl hl.1 rfl (lv_room (Nat.le_of_ble_eq_true rfl)) dX11_far_1 ⟨Nat.le_of_ble_eq_true rfl, Nat.le_of_ble_eq_true rfl⟩) hS (fun q _ h9 => nX_up hS q h9) (nX_up hS) (fun r_1 u t H1 locs ht _ hw hB _ hk1 hS => ?_)
  obtain ⟨p_2, p_3, -⟩ := hw
  have hP := my_keepM hP hk1
  generalize H1 = H at hP hS ⊢
  rcases p_3 with ⟨rfl, p_3⟩ | ⟨rfl, p_3⟩
  · skip
    refine lv_if_eq (tgt := 14) hx hb dX11_far_4 (by decide) (fun c_4 => ?_) (fun c_4 => ?_)
    · skip
      refine lv_iconst (v := (-1)) hx hb dX11_far_14 (by decide) ?_
      have z_5 : ((-1) : Int32).toInt = (-1) := by decide
      exact W.iret (v := (-1)) hx hb hr (fun t ht hW => ⟨⟨(-1), (fv, wd, ar), rfl, ⟨hF_fv, hA_ar, (fM_rf [] _), (fA_rf [] _), rfl, (show wt_far ((-1) : Int32) a b (fun i => (ar 5 i).toInt) from Or.inl ⟨by omega, rfl⟩), trivial⟩, ⟨by rw [ht]; exact hP, va_K.moved hW.alike hK⟩⟩, hS.F ht⟩) hS.2.2 dX11_far_15
    · skip
      exact absurd c_4 (by decide)
  · skip
    have i_6 : 0 ≤ a.toInt ∧ a.toInt ≤ 2147483647 := ⟨p_3.1, (iv_any a).2⟩
    have i_7 : 0 ≤ a.toInt ∧ a.toInt ≤ 11 := ⟨i_6.1, p_3.2⟩
    refine lv_if_eq (tgt := 14) hx hb dX11_far_4 (by decide) (fun c_8 => ?_) (fun c_8 => ?_)
    · skip
      exact absurd c_8 (by decide)
    · skip
      refine lv_iload_n hx hb dX11_far_7 rfl (lv_at hl 2 rfl) ?_
      refine va_calli (va_runS (As := [.int b]) (rest := []) ⟨hx, hb, hml, hown, hts⟩ (x_isCorner l H.size b) (va_cwS 1 hts (gS kw_3_157 kw_3_144 kw_1_3 kw_3_145) rfl rfl rfl (by decide +kernel) ⟨Nat.le_of_ble_eq_true rfl, Nat.le_of_ble_eq_true rfl⟩) ⟨fun a U g mk q => ⟨q.1, q.2⟩, fun U hU hW => ⟨rfl, congrArg Array.size hU⟩⟩ rfl rfl hl.1 rfl (lv_room (Nat.le_of_ble_eq_true rfl)) dX11_far_8 ⟨Nat.le_of_ble_eq_true rfl, Nat.le_of_ble_eq_true rfl⟩) hS (fun q _ h9 => nX_up hS q h9) (nX_up hS) (fun r_9 u t H1 locs ht _ hw hB _ hk1 hS => ?_)
      obtain ⟨p_10, p_11, -⟩ := hw
      have hP := my_keepM hP hk1
      generalize H1 = H at hP hS ⊢
      rcases p_11 with ⟨rfl, p_11⟩ | ⟨rfl, p_11⟩
      · skip
        refine lv_if_ne (tgt := 16) hx hb dX11_far_11 (by decide) (fun c_12 => ?_) (fun c_12 => ?_)
        · skip
          exact absurd c_12 (by decide)
        · skip
          refine lv_iconst (v := (-1)) hx hb dX11_far_14 (by decide) ?_
          have z_13 : ((-1) : Int32).toInt = (-1) := by decide
          exact W.iret (v := (-1)) hx hb hr (fun t ht hW => ⟨⟨(-1), (fv, wd, ar), rfl, ⟨hF_fv, hA_ar, (fM_rf [] _), (fA_rf [] _), rfl, (show wt_far ((-1) : Int32) a b (fun i => (ar 5 i).toInt) from Or.inl ⟨by omega, rfl⟩), trivial⟩, ⟨by rw [ht]; exact hP, va_K.moved hW.alike hK⟩⟩, hS.F ht⟩) hS.2.2 dX11_far_15
      · skip
        have i_14 : 0 ≤ b.toInt ∧ b.toInt ≤ 2147483647 := ⟨p_11.1, (iv_any b).2⟩
        have i_15 : 0 ≤ b.toInt ∧ b.toInt ≤ 11 := ⟨i_14.1, p_11.2⟩
        refine lv_if_ne (tgt := 16) hx hb dX11_far_11 (by decide) (fun c_16 => ?_) (fun c_16 => ?_)
        · skip
          refine lv_aload_n hx hb dX11_far_16 rfl (lv_at hl 0 rfl) ?_
          refine gX_X11_16 hx hb htg hown hK hP dX11_far_17 ?_
          refine gX_X11_60 hx hb htg hown hK hP dX11_far_20 ?_
          refine lv_iload_n hx hb dX11_far_23 rfl (lv_at hl 1 rfl) ?_
          refine lv_iload_n hx hb dX11_far_24 rfl (lv_at hl 2 rfl) ?_
          refine va_calli (va_runV (As := [.int a, .int b]) (rest := []) ⟨hx, hb, hml, hown, hts⟩ (x_between l dC dI H.size ob ad cA hd fv wd ar hF_fv hA_ar a b) (cwV 2 hts (gV kw_3_158 kw_3_147 kw_3_148 kw_1_3 kw_3_149) rfl rfl rfl (by decide +kernel) ⟨Nat.le_of_ble_eq_true rfl, Nat.le_of_ble_eq_true rfl⟩) ⟨fun a U g mk q => ⟨q.1, q.2.1, q.2.2.1, va_K.moved (u := U) (U := U.calling g mk a) (Vm.Alike.refl U.vm) q.2.2.2⟩, va_recv hK hP (ci := 5) (q0 := 2) rfl rfl, fun U hU hW => ⟨rfl, by rw [hU], by rw [hU]; exact hP, va_K.moved hW.alike hK⟩⟩ rfl rfl hl.1 rfl (lv_room (Nat.le_of_ble_eq_true rfl)) dX11_far_25 ⟨Nat.le_of_ble_eq_true rfl, Nat.le_of_ble_eq_true rfl⟩) hS (fun q _ h9 => aX_up hS q h9) (aX_up hS) (fun r_17 u t H1 locs ht _ hw hB _ hk1 hS => ?_)
          obtain ⟨fv_20, wd_21, ar_22⟩ := u
          obtain ⟨hF_fv_20, hA_ar_22, fr_23, fa_24, wf_25, p_18, p_19, -⟩ := hw
          have wf_25 : wd_21.2 = wd.2 := wf_25
          have hP : va_P (dC, dI) vwCl (wsX ob ad cA fv_20 wd_21 ar_22) H1 := by have h9 := hB.1; rw [ht] at h9; exact h9
          have fr_23 : fM [] fv fv_20 := fr_23
          have fa_24 : fA [] ar ar_22 := fa_24
          have p_19 : wt_bt r_17 a b (ar 5) := p_19
          generalize H1 = H at hP hS ⊢
          have k_26 : r_17.toInt = (ar 5 (12 * a.toInt.toNat + b.toInt.toNat)).toInt := by have h9 := wt_btv p_19 i_7 i_15; rw [h9]
          refine lv_istore_n (lv' := [(3, .int r_17), (0, .ref (ob 0)), (1, .int a), (2, .int b)]) hx hb dX11_far_28 rfl hl (by decide) rfl (fun ls hl => ?_)
          refine lv_iload_n hx hb dX11_far_29 rfl (lv_at hl 0 rfl) ?_
          refine lv_ldc hx hb hown (htg (.constant RX11 78 10000000) kw_3_159) dX11_far_30 ?_
          refine lv_icmp_lt (tgt := 40) hx hb dX11_far_32 (by decide) (fun c_27 => ?_) (fun c_27 => ?_)
          · skip
            have i_28 : 0 ≤ r_17.toInt ∧ r_17.toInt ≤ 9999999 := iv_lt1 p_18 (⟨by decide, by decide⟩ : (10000000 : Int) ≤ (10000000 : Int32).toInt ∧ (10000000 : Int32).toInt ≤ 10000000) c_27
            refine lv_iload_n hx hb dX11_far_40 rfl (lv_at hl 0 rfl) ?_
            exact W.iret (v := r_17) hx hb hr (fun t ht hW => ⟨⟨r_17, (fv_20, wd_21, ar_22), rfl, ⟨hF_fv_20, hA_ar_22, (fM_call (fM_rf [] _) fr_23 (by decide)), (fA_call (fA_rf [] _) fa_24 (by decide)), wf_25, (show wt_far r_17 a b (fun i => (ar 5 i).toInt) from Or.inr ⟨by omega, Or.inl ⟨by show (ar 5 (12 * a.toInt.toNat + b.toInt.toNat)).toInt < 10000000; omega, by show r_17.toInt = (ar 5 (12 * a.toInt.toNat + b.toInt.toNat)).toInt; omega⟩⟩), trivial⟩, ⟨by rw [ht]; exact hP, va_K.moved hW.alike hK⟩⟩, hS.F ht⟩) hS.2.2 dX11_far_41
          · skip
            have i_29 : 10000000 ≤ r_17.toInt ∧ r_17.toInt ≤ 10000000 := iv_le2 (⟨by decide, by decide⟩ : (10000000 : Int) ≤ (10000000 : Int32).toInt ∧ (10000000 : Int32).toInt ≤ 10000000) p_18 (Int32.not_lt.mp c_27)
            refine lv_bipush (v := (-2)) hx hb dX11_far_35 (by decide) ?_
            refine lv_goto (tgt := 41) hx hb dX11_far_37 (by decide) ?_
            have z_30 : ((-2) : Int32).toInt = (-2) := by decide
            exact W.iret (v := (-2)) hx hb hr (fun t ht hW => ⟨⟨(-2), (fv_20, wd_21, ar_22), rfl, ⟨hF_fv_20, hA_ar_22, (fM_call (fM_rf [] _) fr_23 (by decide)), (fA_call (fA_rf [] _) fa_24 (by decide)), wf_25, (show wt_far ((-2) : Int32) a b (fun i => (ar 5 i).toInt) from Or.inr ⟨by omega, Or.inr ⟨by show 10000000 ≤ (ar 5 (12 * a.toInt.toNat + b.toInt.toNat)).toInt; omega, rfl⟩⟩), trivial⟩, ⟨by rw [ht]; exact hP, va_K.moved hW.alike hK⟩⟩, hS.F ht⟩) hS.2.2 dX11_far_41
        · skip
          exact absurd c_16 (by decide)

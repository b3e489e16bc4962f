set_option maxHeartbeats 4000000 in
set_option maxRecDepth 100000 in
theorem x_lawTodayE (l : Launch) (dC : Nat → ClassId) (dI : Nat → Nat → Nat) (sz : Nat) (ob ad : Nat → Nat) (cA : Nat → ClassId) (hd : dX ob ad) (fv : Nat → Int32) (wd : xT) (ar : Nat → Nat → Int32) (hF_fv : rX fv) (hA_ar : rB ar) (gla : Nat → Nat) (gfr : Nat → Int32) (gra : Nat → Nat → Nat) (grc : Nat → Nat → ClassId) (gln gcn : Nat → Nat) (glr : Nat → Nat → Nat → Int32) (ce : ClassId) (ef : Nat → Option Nat) : Met l yX7_lawToday (.code yX7_lawToday cX7_lawToday 5 (some (.object "WalkingTown$Law")) :: lw_good) ({ frames := 5, cells := 0, slots := 0, locals := 104 }) (va_Pc [.ref (ob 1)] (fun U => prX dC dI ob ad cA fv wd ar sz U ∧ lsA dC dI ob ad gla gfr gra grc gln gcn glr ce ef (fv 30).toInt wd.2.2.2 sz U)) (va_Qr (fun (u : xS) => rX u.1 ∧ rB u.2.2 ∧ fM [] fv u.1 ∧ fA [] ar u.2.2 ∧ u.2.1.2 = wd.2 ∧ True) (fun (u : xS) (ra : Nat) (t : State) => enX dC dI ob ad cA u t ∧ ∃ z : Nat, (z : Int) ≤ (fv 30).toInt ∧ ra = gla z ∧ z = (cd_nw (fun i => (gfr i).toInt) (fv 7).toInt ((fv 30).toInt.toNat)).1) (aX ob ad sz)) 0 0 (aX ob ad sz) := by
  refine Met.ofW (cc := cX7_lawToday) (maxL := 5) (ret := (some (.object "WalkingTown$Law"))) (by decide) rfl ?_
  intro p e s m args below meth c s₁ B hml hv
  obtain ⟨rfl, ⟨hsz, hP, hK⟩, hG⟩ := hv
  have hx := B.exec
  have hb := B.bytes
  have hr := B.returns
  have hts := atoms_spec (ws := (.code yX7_lawToday cX7_lawToday 5 (some (.object "WalkingTown$Law")) :: lw_good)) B.pre
  have htg : ∀ w ∈ lw_good, w.before _ s = true := fun w hw => hts w (List.mem_cons_of_mem _ hw)
  have hown : s.vm.findClass RX7 = some m.cls := findClass_of_methodNamed B.named
  have hlocks := B.notSynchronized
  subst hsz
  have hS : va_S (aX ob ad s.heap.size) s.heap s.heap [] := va_S.rf
  have hl := lv_entry ([.ref (ob 1)]) (n := 5) (Nat.le_of_ble_eq_true rfl)
  rw [lg_entry_eq]
  generalize (lg_sl ([.ref (ob 1)]) ++ List.replicate (5 - (lg_sl ([.ref (ob 1)])).length) Slot.unset).toArray = ls at hl ⊢
  have hl : lv_has ls 5 [(0, .ref (ob 1))] := hl
  have nZ : (0 : Int) ≤ (fv 30).toInt ∧ (fv 30).toInt ≤ 10 := hF_fv 30
  refine lv_aload_n hx hb dX7_lawToday_0 rfl (lv_at hl 0 rfl) ?_
  refine gX_X7_55 hx hb htg hown hK hP dX7_lawToday_1 ?_
  refine lv_astore_n (lv' := [(1, .ref (ob 12)), (0, .ref (ob 1))]) hx hb dX7_lawToday_4 rfl hl (by decide) rfl (fun ls hl => ?_)
  refine lv_iconst (v := (-1)) hx hb dX7_lawToday_5 (by decide) ?_
  refine lv_istore_n (lv' := [(2, .int (-1)), (1, .ref (ob 12)), (0, .ref (ob 1))]) hx hb dX7_lawToday_6 rfl hl (by decide) rfl (fun ls hl => ?_)
  refine lv_iconst (v := 0) hx hb dX7_lawToday_7 (by decide) ?_
  refine lv_istore_n (lv' := [(3, .int 0), (2, .int (-1)), (1, .ref (ob 12)), (0, .ref (ob 1))]) hx hb dX7_lawToday_8 rfl hl (by decide) rfl (fun ls hl => ?_)
  refine my_cut (P := fun R9 a9 Q9 => ∀ (n_12 : Nat) (a_1 : Nat) (x_2 : Int32) (x_3 : Int32) (fv_4 : Nat → Int32) (ar_6 : Nat → Nat → Int32) (wd_8 : xT) (H : Heap) (locs : List Loc) (ls : Array Slot), 10 - x_3.toInt < (n_12 : Int) → ((-1) ≤ x_2.toInt ∧ x_2.toInt ≤ 199) → (0 ≤ x_3.toInt ∧ x_3.toInt ≤ 10) → rX fv_4 → fM [] fv fv_4 → rB ar_6 → fA [] ar ar_6 → wd_8.2 = wd.2 → (∃ z : Nat, (z : Int) ≤ (fv 30).toInt ∧ a_1 = gla z ∧ z = (cd_nw (fun i => (gfr i).toInt) (fv 7).toInt (x_3.toInt.toNat)).1 ∧ x_2.toInt = (cd_nw (fun i => (gfr i).toInt) (fv 7).toInt (x_3.toInt.toNat)).2) → (x_3.toInt ≤ (fv 30).toInt) → va_P (dC, dI) vwCl (wsX ob ad cA fv_4 wd_8 ar_6) H → va_S (aX ob ad s.heap.size) s.heap H locs → lv_has ls 5 [(0, .ref (ob 1)), (1, .ref a_1), (2, .int x_2), (3, .int x_3)] → W p l e R9 s m a9 below meth c H locs 0 0 Q9 (F0 m 9 ls [])) ?_ (fun hj_14 => ?_)
  · intro n_12
    induction n_12 with
    | zero => intro a_1 x_2 x_3 fv_4 ar_6 wd_8 H locs ls fu_13 i_x_2 i_x_3 hF_fv_4 fr_5 hA_ar_6 fa_7 wf_9 q_10 q_11; exfalso; omega
    | succ n_12 ih_12 =>
      intro a_1 x_2 x_3 fv_4 ar_6 wd_8 H locs ls fu_13 i_x_2 i_x_3 hF_fv_4 fr_5 hA_ar_6 fa_7 wf_9 q_10 q_11 hP hS hl
      have z_15 : (fv_4 30).toInt = (fv 30).toInt := congrArg Int32.toInt ((fr_5 30 rfl))
      have z_16 : 0 ≤ (fv_4 30).toInt ∧ (fv_4 30).toInt ≤ 10 := hF_fv_4 30
      refine lv_iload_n hx hb dX7_lawToday_9 rfl (lv_at hl 3 rfl) ?_
      refine lv_aload_n hx hb dX7_lawToday_10 rfl (lv_at hl 0 rfl) ?_
      refine gX_X7_46 hx hb htg hown hK hP dX7_lawToday_11 ?_
      have z_17 : (fv_4 30).toInt = (fv 30).toInt := congrArg Int32.toInt ((fr_5 30 rfl))
      have z_18 : 0 ≤ (fv_4 30).toInt ∧ (fv_4 30).toInt ≤ 10 := hF_fv_4 30
      refine va_calli (va_runV (As := []) (rest := [.int x_3]) ⟨hx, hb, hml, hown, hts⟩ (x_alsize l dC dI H.size ob ad cA hd fv_4 wd_8 ar_6 hF_fv_4 hA_ar_6) (cwV 0 hts (gV kw_5_5 kw_4_6 kw_4_7 kw_1_9 kw_4_8) rfl rfl rfl (by decide +kernel) ⟨Nat.le_of_ble_eq_true rfl, Nat.le_of_ble_eq_true rfl⟩) ⟨fun a U g mk q => ⟨q.1, q.2.1, q.2.2.1, va_K.moved (u := U) (U := U.calling g mk a) (Vm.Alike.refl U.vm) q.2.2.2⟩, va_recv hK hP (ci := 0) (q0 := 11) rfl rfl, fun U hU hW => ⟨rfl, by rw [hU], by rw [hU]; exact hP, va_K.moved hW.alike hK⟩⟩ rfl rfl hl.1 rfl (lv_room (Nat.le_of_ble_eq_true rfl)) dX7_lawToday_14 ⟨Nat.le_of_ble_eq_true rfl, Nat.le_of_ble_eq_true rfl⟩) hS (fun q _ h9 => aX_up hS q h9) (aX_up hS) (fun r_19 u t H1 locs ht _ hw hB _ hk1 hS => ?_)
      obtain ⟨fv_22, wd_23, ar_24⟩ := u
      obtain ⟨hF_fv_22, hA_ar_24, fr_25, fa_26, wf_27, p_20, p_21, -⟩ := hw
      have wf_27 : wd_23.2 = wd_8.2 := wf_27
      have hP : va_P (dC, dI) vwCl (wsX ob ad cA fv_22 wd_23 ar_24) H1 := by have h9 := hB.1; rw [ht] at h9; exact h9
      have fr_25 : fM [] fv_4 fv_22 := fr_25
      have fa_26 : fA [] ar_6 ar_24 := fa_26
      have p_21 : r_19.toInt = (fv_4 30).toInt := p_21
      generalize H1 = H at hP hS ⊢
      refine lv_icmp_ge (tgt := 74) hx hb dX7_lawToday_17 (by decide) (fun c_28 => ?_) (fun c_28 => ?_)
      · skip
        have k_29 := Int32.le_iff_toInt_le.mp c_28
        refine lv_aload_n hx hb dX7_lawToday_74 rfl (lv_at hl 1 rfl) ?_
        exact W.aret (v := .ref a_1) hx hb hr (Or.inl ⟨_, rfl⟩) (Or.inr ⟨_, rfl⟩) (fun t ht hW => ⟨⟨(fv_22, wd_23, ar_24), a_1, rfl, ⟨hF_fv_22, hA_ar_24, (fM_call (fM_call (fM_rf [] _) fr_5 (by decide)) fr_25 (by decide)), (fA_call (fA_call (fA_rf [] _) fa_7 (by decide)) fa_26 (by decide)), (wf_27.trans wf_9), trivial⟩, ⟨⟨by rw [ht]; exact hP, va_K.moved hW.alike hK⟩, (by obtain ⟨z7, y7, w7, x7, v7⟩ := q_10; exact ⟨z7, y7, w7, by rw [x7, show x_3.toInt.toNat = (fv 30).toInt.toNat from by omega]⟩)⟩⟩, hS.F ht⟩) hS.2.2 dX7_lawToday_75
      · skip
        have i_30 : 0 ≤ x_3.toInt ∧ x_3.toInt ≤ 9 := iv_lt1 i_x_3 p_20 (Int32.not_le.mp c_28)
        have i_31 : 1 ≤ r_19.toInt ∧ r_19.toInt ≤ 10 := iv_lt2 i_x_3 p_20 (Int32.not_le.mp c_28)
        have k_32 := Int32.lt_iff_toInt_lt.mp (Int32.not_le.mp c_28)
        refine lv_aload_n hx hb dX7_lawToday_20 rfl (lv_at hl 0 rfl) ?_
        refine gX_X7_46 hx hb htg hown hK hP dX7_lawToday_21 ?_
        refine lv_iload_n hx hb dX7_lawToday_24 rfl (lv_at hl 3 rfl) ?_
        have z_33 : (fv_22 30).toInt = (fv 30).toInt := congrArg Int32.toInt ((fr_25 30 rfl).trans ((fr_5 30 rfl)))
        have z_34 : 0 ≤ (fv_22 30).toInt ∧ (fv_22 30).toInt ≤ 10 := hF_fv_22 30
        refine va_callr (va_runV (As := [.int x_3]) (rest := []) ⟨hx, hb, hml, hown, hts⟩ (x_alget l dC dI H.size ob ad cA hd fv_22 wd_23 ar_24 hF_fv_22 hA_ar_24 gla gfr gra grc gln gcn glr ce ef x_3 i_30 (by omega)) (cwV 1 hts (gV kw_5_6 kw_5_7 kw_5_8 kw_1_9 kw_5_9) rfl rfl rfl (by decide +kernel) ⟨Nat.le_of_ble_eq_true rfl, Nat.le_of_ble_eq_true rfl⟩) ⟨fun a U g mk q => ⟨q.1, ⟨q.2.1.1, q.2.1.2.1, va_K.moved (u := U) (U := U.calling g mk a) (Vm.Alike.refl U.vm) q.2.1.2.2⟩, ls_mv (U := U.calling g mk a) rfl (Vm.Alike.refl U.vm) q.2.2⟩, va_recv hK hP (ci := 0) (q0 := 11) rfl rfl, fun U hU hW => ⟨rfl, ⟨by rw [hU], by rw [hU]; exact hP, va_K.moved hW.alike hK⟩, ls_eq (ls_pass hG hS hU hW.alike) (congrArg Int32.toInt ((fr_25 30 rfl).trans ((fr_5 30 rfl)))) (congrArg (fun z => z.2.2) (wf_27.trans wf_9))⟩⟩ rfl rfl hl.1 rfl (lv_room (Nat.le_of_ble_eq_true rfl)) dX7_lawToday_25 ⟨Nat.le_of_ble_eq_true rfl, Nat.le_of_ble_eq_true rfl⟩) hS (fun q _ h9 => aX_up hS q h9) (aX_up hS) (fun u r_35 t H1 locs ht _ hw hB _ hk1 hS => ?_)
        obtain ⟨fv_36, wd_37, ar_38⟩ := u
        obtain ⟨hF_fv_36, hA_ar_38, fr_39, fa_40, wf_41, -⟩ := hw
        have wf_41 : wd_37.2 = wd_23.2 := wf_41
        have hP : va_P (dC, dI) vwCl (wsX ob ad cA fv_36 wd_37 ar_38) H1 := by have h9 := hB.1.1; rw [ht] at h9; exact h9
        have fr_39 : fM [] fv_22 fv_36 := fr_39
        have fa_40 : fA [] ar_24 ar_38 := fa_40
        generalize H1 = H at hP hS ⊢
        obtain ⟨j_42, ej_42⟩ : ∃ z : Nat, z = x_3.toInt.toNat + 1 := ⟨_, rfl⟩
        have hr9 : r_35 = gla j_42 := by rw [ej_42]; exact hB.2
        subst hr9
        have lj_42 : (j_42 : Int) ≤ (fv 30).toInt := by omega
        have hg_43 := (hG.2.1 j_42 lj_42).2
        refine va_castS hx hb hown (htg (.classLink RX7 50 RX0) kw_2_20) (hK.1 1 _ rfl).2 (va_recv (lw_K hg_43) (lw_now hg_43 hS) (ci := 1) (q0 := 0) rfl rfl) dX7_lawToday_28 ?_
        refine lv_astore (lv' := [(4, .ref (gla j_42)), (0, .ref (ob 1)), (1, .ref a_1), (2, .int x_2), (3, .int x_3)]) hx hb dX7_lawToday_31 hl (by decide) rfl (fun ls hl => ?_)
        refine lv_aload hx hb dX7_lawToday_33 (lv_at hl 0 rfl) ?_
        refine lv_ifnull hx hb dX7_lawToday_35 ?_
        refine lv_aload hx hb dX7_lawToday_38 (lv_at hl 0 rfl) ?_
        refine gL_X7_109 hx hb htg hown (lw_K hg_43) (lw_now hg_43 hS) dX7_lawToday_40 ?_
        refine lv_aload_n hx hb dX7_lawToday_43 rfl (lv_at hl 1 rfl) ?_
        refine gX_X7_111 hx hb htg hown hK hP dX7_lawToday_44 ?_
        refine my_ti (y := fv 7) ((fr_39 7 rfl).trans ((fr_25 7 rfl).trans ((fr_5 7 rfl)))) ?_
        have i_44 : 0 ≤ (fv 7).toInt ∧ (fv 7).toInt ≤ 199 := hF_fv 7
        have td43 : (fv 7).toInt = (fv 7).toInt := congrArg Int32.toInt (show fv 7 = fv 7 from rfl)
        refine lv_icmp_gt (tgt := 68) hx hb dX7_lawToday_47 (by decide) (fun c_45 => ?_) (fun c_45 => ?_)
        · skip
          have i_46 : 1 ≤ (gfr j_42).toInt ∧ (gfr j_42).toInt ≤ 2147483647 := iv_lt2 i_44 (iv_any (gfr j_42)) c_45
          have k_47 := Int32.lt_iff_toInt_lt.mp c_45
          obtain ⟨v_48, ev_48⟩ : ∃ z : Int32, z = x_3 + 1 := ⟨_, rfl⟩
          refine lv_iinc (v := v_48) (lv' := [(3, .int v_48), (4, .ref (gla j_42)), (0, .ref (ob 1)), (1, .ref a_1), (2, .int x_2)]) hx hb dX7_lawToday_68 hl (k := 4) rfl (by rw [ev_48]; rfl) (by decide) rfl (fun ls hl => ?_)
          have t_49 : v_48.toInt = x_3.toInt + 1 ∧ 1 ≤ v_48.toInt ∧ v_48.toInt ≤ 10 := iv_addc ev_48 i_30 (by decide) (by decide) (by decide)
          refine lv_goto (tgt := 9) hx hb dX7_lawToday_71 (by decide) ?_
          exact ih_12 a_1 x_2 v_48 fv_36 ar_38 wd_37 _ _ ls (by omega) i_x_2 (iv_w t_49.2 (by decide) (by decide)) hF_fv_36 (fM_call (fM_call (fM_call (fM_rf [] _) fr_5 (by decide)) fr_25 (by decide)) fr_39 (by decide)) hA_ar_38 (fA_call (fA_call (fA_call (fA_rf [] _) fa_7 (by decide)) fa_26 (by decide)) fa_40 (by decide)) (wf_41.trans (wf_27.trans wf_9)) (by obtain ⟨z7, y7, w7, x7, v7⟩ := q_10; have ej9 : j_42 = x_3.toInt.toNat + 1 := (by rw [ej_42]); have hy9 : ¬ ((gfr (x_3.toInt.toNat + 1)).toInt ≤ (fv 7).toInt ∧ (cd_nw (fun i => (gfr i).toInt) (fv 7).toInt (x_3.toInt.toNat)).2 ≤ (gfr (x_3.toInt.toNat + 1)).toInt) := (by rw [show x_3.toInt.toNat + 1 = j_42 from by omega]; omega); exact ⟨z7, y7, w7, by rw [show v_48.toInt.toNat = x_3.toInt.toNat + 1 from by omega, cd_nw_n hy9]; exact x7, by rw [show v_48.toInt.toNat = x_3.toInt.toNat + 1 from by omega, cd_nw_n hy9]; exact v7⟩) (by omega) hP hS (lv_sub hl [2, 3, 4, 0] rfl)
        · skip
          have i_51 : (-2147483648) ≤ (gfr j_42).toInt ∧ (gfr j_42).toInt ≤ 199 := iv_le1 (iv_any (gfr j_42)) i_44 (Int32.not_lt.mp c_45)
          have k_52 := Int32.le_iff_toInt_le.mp (Int32.not_lt.mp c_45)
          refine lv_aload hx hb dX7_lawToday_50 (lv_at hl 0 rfl) ?_
          refine gL_X7_109 hx hb htg hown (lw_K hg_43) (lw_now hg_43 hS) dX7_lawToday_52 ?_
          refine lv_iload_n hx hb dX7_lawToday_55 rfl (lv_at hl 3 rfl) ?_
          refine lv_icmp_lt (tgt := 68) hx hb dX7_lawToday_56 (by decide) (fun c_53 => ?_) (fun c_53 => ?_)
          · skip
            have i_54 : (-2147483648) ≤ (gfr j_42).toInt ∧ (gfr j_42).toInt ≤ 198 := iv_lt1 i_51 i_x_2 c_53
            have k_55 := Int32.lt_iff_toInt_lt.mp c_53
            obtain ⟨v_56, ev_56⟩ : ∃ z : Int32, z = x_3 + 1 := ⟨_, rfl⟩
            refine lv_iinc (v := v_56) (lv' := [(3, .int v_56), (4, .ref (gla j_42)), (0, .ref (ob 1)), (1, .ref a_1), (2, .int x_2)]) hx hb dX7_lawToday_68 hl (k := 4) rfl (by rw [ev_56]; rfl) (by decide) rfl (fun ls hl => ?_)
            have t_57 : v_56.toInt = x_3.toInt + 1 ∧ 1 ≤ v_56.toInt ∧ v_56.toInt ≤ 10 := iv_addc ev_56 i_30 (by decide) (by decide) (by decide)
            refine lv_goto (tgt := 9) hx hb dX7_lawToday_71 (by decide) ?_
            exact ih_12 a_1 x_2 v_56 fv_36 ar_38 wd_37 _ _ ls (by omega) i_x_2 (iv_w t_57.2 (by decide) (by decide)) hF_fv_36 (fM_call (fM_call (fM_call (fM_rf [] _) fr_5 (by decide)) fr_25 (by decide)) fr_39 (by decide)) hA_ar_38 (fA_call (fA_call (fA_call (fA_rf [] _) fa_7 (by decide)) fa_26 (by decide)) fa_40 (by decide)) (wf_41.trans (wf_27.trans wf_9)) (by obtain ⟨z7, y7, w7, x7, v7⟩ := q_10; have ej9 : j_42 = x_3.toInt.toNat + 1 := (by rw [ej_42]); have hy9 : ¬ ((gfr (x_3.toInt.toNat + 1)).toInt ≤ (fv 7).toInt ∧ (cd_nw (fun i => (gfr i).toInt) (fv 7).toInt (x_3.toInt.toNat)).2 ≤ (gfr (x_3.toInt.toNat + 1)).toInt) := (by rw [show x_3.toInt.toNat + 1 = j_42 from by omega]; omega); exact ⟨z7, y7, w7, by rw [show v_56.toInt.toNat = x_3.toInt.toNat + 1 from by omega, cd_nw_n hy9]; exact x7, by rw [show v_56.toInt.toNat = x_3.toInt.toNat + 1 from by omega, cd_nw_n hy9]; exact v7⟩) (by omega) hP hS (lv_sub hl [2, 3, 4, 0] rfl)
          · skip
            have i_59 : (-1) ≤ (gfr j_42).toInt ∧ (gfr j_42).toInt ≤ 199 := iv_le2 i_x_2 i_51 (Int32.not_lt.mp c_53)
            have k_60 := Int32.le_iff_toInt_le.mp (Int32.not_lt.mp c_53)
            refine lv_aload hx hb dX7_lawToday_59 (lv_at hl 0 rfl) ?_
            refine lv_astore_n (lv' := [(1, .ref (gla j_42)), (4, .ref (gla j_42)), (0, .ref (ob 1)), (2, .int x_2), (3, .int x_3)]) hx hb dX7_lawToday_61 rfl hl (by decide) rfl (fun ls hl => ?_)
            refine lv_aload hx hb dX7_lawToday_62 (lv_at hl 1 rfl) ?_
            refine gL_X7_109 hx hb htg hown (lw_K hg_43) (lw_now hg_43 hS) dX7_lawToday_64 ?_
            refine lv_istore_n (lv' := [(2, .int (gfr j_42)), (1, .ref (gla j_42)), (4, .ref (gla j_42)), (0, .ref (ob 1)), (3, .int x_3)]) hx hb dX7_lawToday_67 rfl hl (by decide) rfl (fun ls hl => ?_)
            obtain ⟨v_61, ev_61⟩ : ∃ z : Int32, z = x_3 + 1 := ⟨_, rfl⟩
            refine lv_iinc (v := v_61) (lv' := [(3, .int v_61), (2, .int (gfr j_42)), (1, .ref (gla j_42)), (4, .ref (gla j_42)), (0, .ref (ob 1))]) hx hb dX7_lawToday_68 hl (k := 4) rfl (by rw [ev_61]; rfl) (by decide) rfl (fun ls hl => ?_)
            have t_62 : v_61.toInt = x_3.toInt + 1 ∧ 1 ≤ v_61.toInt ∧ v_61.toInt ≤ 10 := iv_addc ev_61 i_30 (by decide) (by decide) (by decide)
            refine lv_goto (tgt := 9) hx hb dX7_lawToday_71 (by decide) ?_
            exact ih_12 (gla j_42) (gfr j_42) v_61 fv_36 ar_38 wd_37 _ _ ls (by omega) i_59 (iv_w t_62.2 (by decide) (by decide)) hF_fv_36 (fM_call (fM_call (fM_call (fM_rf [] _) fr_5 (by decide)) fr_25 (by decide)) fr_39 (by decide)) hA_ar_38 (fA_call (fA_call (fA_call (fA_rf [] _) fa_7 (by decide)) fa_26 (by decide)) fa_40 (by decide)) (wf_41.trans (wf_27.trans wf_9)) (by obtain ⟨z7, y7, w7, x7, v7⟩ := q_10; have ej9 : j_42 = x_3.toInt.toNat + 1 := (by rw [ej_42]); have hy9 : (fun i => (gfr i).toInt) j_42 ≤ (fv 7).toInt ∧ (cd_nw (fun i => (gfr i).toInt) (fv 7).toInt (x_3.toInt.toNat)).2 ≤ (fun i => (gfr i).toInt) j_42 := ⟨(by show (gfr j_42).toInt ≤ _; omega), (by show _ ≤ (gfr j_42).toInt; omega)⟩; rw [ej9, show x_3.toInt.toNat = x_3.toInt.toNat from by omega] at hy9; exact ⟨j_42, lj_42, rfl, by rw [show v_61.toInt.toNat = x_3.toInt.toNat + 1 from by omega, cd_nw_y hy9]; omega, by rw [show v_61.toInt.toNat = x_3.toInt.toNat + 1 from by omega, cd_nw_y hy9]; show _ = (gfr (x_3.toInt.toNat + 1)).toInt; rw [← show j_42 = x_3.toInt.toNat + 1 from by omega]⟩) (by omega) hP hS (lv_sub hl [4, 2, 1, 0] rfl)
  · skip
    have z_64 : ((-1) : Int32).toInt = (-1) := by decide
    have z_65 : (0 : Int32).toInt = 0 := by decide
    exact hj_14 11 (ob 12) (-1) 0 fv ar wd _ _ ls (by first | decide | omega) (iv_w (⟨by decide, by decide⟩ : (-1 : Int) ≤ ((-1) : Int32).toInt ∧ ((-1) : Int32).toInt ≤ -1) (by decide) (by decide)) (iv_w (⟨by decide, by decide⟩ : (0 : Int) ≤ (0 : Int32).toInt ∧ (0 : Int32).toInt ≤ 0) (by decide) (by decide)) hF_fv (fM_rf [] _) hA_ar (fA_rf [] _) rfl ⟨0, by omega, hG.1.symm, (by rw [show (0 : Int32).toInt.toNat = 0 from by decide]; rfl), (by rw [show (0 : Int32).toInt.toNat = 0 from by decide]; exact (show ((-1) : Int32).toInt = -1 from by decide))⟩ (by have h9 : 0 ≤ (fv 30).toInt ∧ (fv 30).toInt ≤ 10 := hF_fv 30; rw [show (0 : Int32).toInt = 0 from by decide]; exact h9.1) hP hS (lv_sub hl [3, 2, 1, 0] rfl)
set_option maxHeartbeats 4000000 in
set_option maxRecDepth 100000 in
theorem x_trips_hasE (l : Launch) (dC : Nat → ClassId) (dI : Nat → Nat → Nat) (sz : Nat) (ob ad : Nat → Nat) (cA : Nat → ClassId) (hd : dX ob ad) (fv : Nat → Int32) (wd : xT) (ar : Nat → Nat → Int32) (hF_fv : rX fv) (hA_ar : rB ar) (v : Int32) : Met l yX8_has (.code yX8_has cX8_has 2 (some .boolean) :: lw_good) ({ frames := 2, cells := 0, slots := 0, locals := 40 }) (va_Pc [.ref (ob 5), .int v] (prX dC dI ob ad cA fv wd ar sz)) (va_Qi (fun (r : Int32) (u : xS) => rX u.1 ∧ rB u.2.2 ∧ fM [] fv u.1 ∧ fA [] ar u.2.2 ∧ u.2.1.2 = wd.2 ∧ (0 ≤ r.toInt ∧ r.toInt ≤ 1) ∧ ((r = 0 ∧ (v.toInt < 0 ∨ (fv 12).toInt ≤ v.toInt)) ∨ (r = 1 ∧ (0 ≤ v.toInt) ∧ (v.toInt ≤ 79) ∧ (v.toInt < (fv 12).toInt))) ∧ True) (enX dC dI ob ad cA) (aX ob ad sz)) 0 0 (aX ob ad sz) := by
  refine Met.ofW (cc := cX8_has) (maxL := 2) (ret := (some .boolean)) (by decide) rfl ?_
  intro p e s m args below meth c s₁ B hml hv
  obtain ⟨rfl, hsz, hP, hK⟩ := hv
  have hx := B.exec
  have hb := B.bytes
  have hr := B.returns
  have hts := atoms_spec (ws := (.code yX8_has cX8_has 2 (some .boolean) :: lw_good)) B.pre
  have htg : ∀ w ∈ lw_good, w.before _ s = true := fun w hw => hts w (List.mem_cons_of_mem _ hw)
  have hown : s.vm.findClass RX8 = some m.cls := findClass_of_methodNamed B.named
  have hlocks := B.notSynchronized
  subst hsz
  have hS : va_S (aX ob ad s.heap.size) s.heap s.heap [] := va_S.rf
  have hl := lv_entry ([.ref (ob 5), .int v]) (n := 2) (Nat.le_of_ble_eq_true rfl)
  rw [lg_entry_eq]
  generalize (lg_sl ([.ref (ob 5), .int v]) ++ List.replicate (2 - (lg_sl ([.ref (ob 5), .int v])).length) Slot.unset).toArray = ls at hl ⊢
  have hl : lv_has ls 2 [(0, .ref (ob 5)), (1, .int v)] := hl
  refine lv_iload_n hx hb dX8_has_0 rfl (lv_at hl 1 rfl) ?_
  refine lv_if_lt (tgt := 16) hx hb dX8_has_1 (by decide) (fun c_1 => ?_) (fun c_1 => ?_)
  · skip
    have i_2 : (-2147483648) ≤ v.toInt ∧ v.toInt ≤ (-1) := iv_lt1 (iv_any v) (⟨by decide, by decide⟩ : (0 : Int) ≤ (0 : Int32).toInt ∧ (0 : Int32).toInt ≤ 0) c_1
    refine lv_iconst (v := 0) hx hb dX8_has_16 (by decide) ?_
    exact W.zret (v := 0) hx hb hr (by decide) (fun t ht hW => ⟨⟨0, (fv, wd, ar), rfl, ⟨hF_fv, hA_ar, (fM_rf [] _), (fA_rf [] _), rfl, (iv_w (⟨by decide, by decide⟩ : (0 : Int) ≤ (0 : Int32).toInt ∧ (0 : Int32).toInt ≤ 0) (by decide) (by decide)), (Or.inl ⟨rfl, by omega⟩), trivial⟩, ⟨by rw [ht]; exact hP, va_K.moved hW.alike hK⟩⟩, hS.F ht⟩) hS.2.2 dX8_has_17
  · skip
    have i_3 : 0 ≤ v.toInt ∧ v.toInt ≤ 2147483647 := iv_le2 (⟨by decide, by decide⟩ : (0 : Int) ≤ (0 : Int32).toInt ∧ (0 : Int32).toInt ≤ 0) (iv_any v) (Int32.not_lt.mp c_1)
    refine lv_iload_n hx hb dX8_has_4 rfl (lv_at hl 1 rfl) ?_
    refine lv_aload_n hx hb dX8_has_5 rfl (lv_at hl 0 rfl) ?_
    refine gX_X8_36 hx hb htg hown hK hP dX8_has_6 ?_
    have i_4 : 0 ≤ (fv 12).toInt ∧ (fv 12).toInt ≤ 80 := hF_fv 12
    refine lv_icmp_ge (tgt := 16) hx hb dX8_has_9 (by decide) (fun c_5 => ?_) (fun c_5 => ?_)
    · skip
      have k_6 := Int32.le_iff_toInt_le.mp c_5
      refine lv_iconst (v := 0) hx hb dX8_has_16 (by decide) ?_
      exact W.zret (v := 0) hx hb hr (by decide) (fun t ht hW => ⟨⟨0, (fv, wd, ar), rfl, ⟨hF_fv, hA_ar, (fM_rf [] _), (fA_rf [] _), rfl, (iv_w (⟨by decide, by decide⟩ : (0 : Int) ≤ (0 : Int32).toInt ∧ (0 : Int32).toInt ≤ 0) (by decide) (by decide)), (Or.inl ⟨rfl, by omega⟩), trivial⟩, ⟨by rw [ht]; exact hP, va_K.moved hW.alike hK⟩⟩, hS.F ht⟩) hS.2.2 dX8_has_17
    · skip
      have i_7 : 0 ≤ v.toInt ∧ v.toInt ≤ 79 := iv_lt1 i_3 i_4 (Int32.not_le.mp c_5)
      have i_8 : 1 ≤ (fv 12).toInt ∧ (fv 12).toInt ≤ 80 := iv_lt2 i_3 i_4 (Int32.not_le.mp c_5)
      have k_9 := Int32.lt_iff_toInt_lt.mp (Int32.not_le.mp c_5)
      refine lv_iconst (v := 1) hx hb dX8_has_12 (by decide) ?_
      refine lv_goto (tgt := 17) hx hb dX8_has_13 (by decide) ?_
      exact W.zret (v := 1) hx hb hr (by decide) (fun t ht hW => ⟨⟨1, (fv, wd, ar), rfl, ⟨hF_fv, hA_ar, (fM_rf [] _), (fA_rf [] _), rfl, (iv_w (⟨by decide, by decide⟩ : (1 : Int) ≤ (1 : Int32).toInt ∧ (1 : Int32).toInt ≤ 1) (by decide) (by decide)), (Or.inr (⟨rfl, by omega⟩)), trivial⟩, ⟨by rw [ht]; exact hP, va_K.moved hW.alike hK⟩⟩, hS.F ht⟩) hS.2.2 dX8_has_17
set_option maxHeartbeats 4000000 in
set_option maxRecDepth 100000 in
theorem x_toldE (l : Launch) (dC : Nat → ClassId) (dI : Nat → Nat → Nat) (sz : Nat) (ob ad : Nat → Nat) (cA : Nat → ClassId) (hd : dX ob ad) (fv : Nat → Int32) (wd : xT) (ar : Nat → Nat → Int32) (hF_fv : rX fv) (hA_ar : rB ar) (gla : Nat → Nat) (gfr : Nat → Int32) (gra : Nat → Nat → Nat) (grc : Nat → Nat → ClassId) (gln gcn : Nat → Nat) (glr : Nat → Nat → Nat → Int32) (ce : ClassId) (ef : Nat → Option Nat) (a : Int32) (b : Int32) (v : Int32) (d : Int32) (hgds : ∀ i : Nat, (i : Int) ≤ (fv 30).toInt → ∀ j, j < gln i → cd_gd (cd_gX (glr i) j)) (hp_f01 : mx_f01 ar) : Met l yX11_told (.code yX11_told cX11_told 6 (some .int) :: lw_good) ({ frames := 6, cells := 0, slots := 0, locals := 128 }) (va_Pc [.ref (ob 0), .int a, .int b, .int v, .int d] (fun U => prX dC dI ob ad cA fv wd ar sz U ∧ lsA dC dI ob ad gla gfr gra grc gln gcn glr ce ef (fv 30).toInt wd.2.2.2 sz U)) (va_Qi (fun (r : Int32) (u : xS) => rX u.1 ∧ rB u.2.2 ∧ fM [1, 6] fv u.1 ∧ fA [4] ar u.2.2 ∧ u.2.1.2 = wd.2 ∧ (((a.toInt < 0 ∨ (fv 12).toInt ≤ a.toInt ∨ b.toInt < 0 ∨ 5 < b.toInt ∨ v.toInt < 0 ∨ d.toInt < 0) ∧ r = -1 ∧ u.1 1 = -1) ∨ (¬ (a.toInt < 0 ∨ (fv 12).toInt ≤ a.toInt ∨ b.toInt < 0 ∨ 5 < b.toInt ∨ v.toInt < 0 ∨ d.toInt < 0) ∧ r.toInt = cd_av (cd_fc (ar 20 ((ar 28 (a.toInt.toNat)).toInt.toNat)).toInt (ar 23 ((ar 28 (a.toInt.toNat)).toInt.toNat)).toInt (ar 22 ((ar 28 (a.toInt.toNat)).toInt.toNat)).toInt (wt_rf (fv 7) (fv 5) (ar 3)) (ar 31 (a.toInt.toNat)).toInt (fv 7).toInt (ar 29 (a.toInt.toNat)).toInt (ar 30 (a.toInt.toNat)).toInt (cd_ri b.toInt v.toInt) d.toInt) b.toInt (decide ((ar 20 ((ar 28 (a.toInt.toNat)).toInt.toNat)).toInt = 2)) (cd_Wf (cd_gX (glr ((cd_nw (fun i => (gfr i).toInt) (fv 7).toInt ((fv 30).toInt.toNat)).1))) (gln ((cd_nw (fun i => (gfr i).toInt) (fv 7).toInt ((fv 30).toInt.toNat)).1)) 0) ∧ (u.1 1).toInt = cd_al (cd_fc (ar 20 ((ar 28 (a.toInt.toNat)).toInt.toNat)).toInt (ar 23 ((ar 28 (a.toInt.toNat)).toInt.toNat)).toInt (ar 22 ((ar 28 (a.toInt.toNat)).toInt.toNat)).toInt (wt_rf (fv 7) (fv 5) (ar 3)) (ar 31 (a.toInt.toNat)).toInt (fv 7).toInt (ar 29 (a.toInt.toNat)).toInt (ar 30 (a.toInt.toNat)).toInt (cd_ri b.toInt v.toInt) d.toInt) b.toInt (decide ((ar 20 ((ar 28 (a.toInt.toNat)).toInt.toNat)).toInt = 2)) (cd_Wf (cd_gX (glr ((cd_nw (fun i => (gfr i).toInt) (fv 7).toInt ((fv 30).toInt.toNat)).1))) (gln ((cd_nw (fun i => (gfr i).toInt) (fv 7).toInt ((fv 30).toInt.toNat)).1)) 0))) ∧ (mx_f01 u.2.2) ∧ True) (enX dC dI ob ad cA) (aX ob ad sz)) 0 0 (aX ob ad sz) := by
  refine Met.ofW (cc := cX11_told) (maxL := 6) (ret := (some .int)) (by decide) rfl ?_
  intro p e s m args below meth c s₁ B hml hv
  obtain ⟨rfl, ⟨hsz, hP, hK⟩, hG⟩ := hv
  have hx := B.exec
  have hb := B.bytes
  have hr := B.returns
  have hts := atoms_spec (ws := (.code yX11_told cX11_told 6 (some .int) :: lw_good)) B.pre
  have htg : ∀ w ∈ lw_good, w.before _ s = true := fun w hw => hts w (List.mem_cons_of_mem _ hw)
  have hown : s.vm.findClass RX11 = some m.cls := findClass_of_methodNamed B.named
  have hlocks := B.notSynchronized
  subst hsz
  have hS : va_S (aX ob ad s.heap.size) s.heap s.heap [] := va_S.rf
  have hl := lv_entry ([.ref (ob 0), .int a, .int b, .int v, .int d]) (n := 6) (Nat.le_of_ble_eq_true rfl)
  rw [lg_entry_eq]
  generalize (lg_sl ([.ref (ob 0), .int a, .int b, .int v, .int d]) ++ List.replicate (6 - (lg_sl ([.ref (ob 0), .int a, .int b, .int v, .int d])).length) Slot.unset).toArray = ls at hl ⊢
  have hl : lv_has ls 6 [(0, .ref (ob 0)), (1, .int a), (2, .int b), (3, .int v), (4, .int d)] := hl
  refine lv_aload_n hx hb dX11_told_0 rfl (lv_at hl 0 rfl) ?_
  refine lv_iconst (v := (-1)) hx hb dX11_told_1 (by decide) ?_
  refine pX_X11_43 hx hb htg hown hK hP hS hd dX11_told_2 (fun H locs fv_1 efv_1 hP hS => ?_)
  have hF_fv_1 : rX fv_1 := rX_put hF_fv efv_1 (iv_any _)
  refine lv_aload_n hx hb dX11_told_5 rfl (lv_at hl 0 rfl) ?_
  refine gX_X11_16 hx hb htg hown hK hP dX11_told_6 ?_
  refine gX_X11_116 hx hb htg hown hK hP dX11_told_9 ?_
  refine lv_iload_n hx hb dX11_told_12 rfl (lv_at hl 1 rfl) ?_
  have z_2 : (fv_1 12).toInt = (fv 12).toInt := congrArg Int32.toInt ((congrFun efv_1 12))
  have z_3 : 0 ≤ (fv_1 12).toInt ∧ (fv_1 12).toInt ≤ 80 := hF_fv_1 12
  refine va_calli (va_runV (As := [.int a]) (rest := []) ⟨hx, hb, hml, hown, hts⟩ (x_trips_hasE l dC dI H.size ob ad cA hd fv_1 wd ar hF_fv_1 hA_ar a) (cwV 1 hts (gV kw_4_237 kw_4_238 kw_4_239 kw_1_6 kw_5_0) rfl rfl rfl (by decide +kernel) ⟨Nat.le_of_ble_eq_true rfl, Nat.le_of_ble_eq_true rfl⟩) ⟨fun a U g mk q => ⟨q.1, q.2.1, q.2.2.1, va_K.moved (u := U) (U := U.calling g mk a) (Vm.Alike.refl U.vm) q.2.2.2⟩, va_recv hK hP (ci := 8) (q0 := 5) rfl rfl, fun U hU hW => ⟨rfl, by rw [hU], by rw [hU]; exact hP, va_K.moved hW.alike hK⟩⟩ rfl rfl hl.1 rfl (lv_room (Nat.le_of_ble_eq_true rfl)) dX11_told_13 ⟨Nat.le_of_ble_eq_true rfl, Nat.le_of_ble_eq_true rfl⟩) hS (fun q _ h9 => aX_up hS q h9) (aX_up hS) (fun r_4 u t H1 locs ht _ hw hB _ hk1 hS => ?_)
  obtain ⟨fv_7, wd_8, ar_9⟩ := u
  obtain ⟨hF_fv_7, hA_ar_9, fr_10, fa_11, wf_12, p_5, p_6, -⟩ := hw
  have wf_12 : wd_8.2 = wd.2 := wf_12
  have hP : va_P (dC, dI) vwCl (wsX ob ad cA fv_7 wd_8 ar_9) H1 := by have h9 := hB.1; rw [ht] at h9; exact h9
  have fr_10 : fM [] fv_1 fv_7 := fr_10
  have fa_11 : fA [] ar ar_9 := fa_11
  generalize H1 = H at hP hS ⊢
  rcases p_6 with ⟨rfl, p_6⟩ | ⟨rfl, p_6⟩
  · skip
    have q_13 : a.toInt < 0 ∨ (fv_1 12).toInt ≤ a.toInt := p_6
    refine lv_if_eq (tgt := 37) hx hb dX11_told_16 (by decide) (fun c_14 => ?_) (fun c_14 => ?_)
    · skip
      refine lv_iconst (v := (-1)) hx hb dX11_told_37 (by decide) ?_
      have z_15 : ((-1) : Int32).toInt = (-1) := by decide
      exact W.iret (v := (-1)) hx hb hr (fun t ht hW => ⟨⟨(-1), (fv_7, wd_8, ar_9), rfl, ⟨hF_fv_7, hA_ar_9, (fM_call (fM_put (fM_rf [1, 6] _) efv_1 (by decide)) fr_10 (by decide)), (fA_call (fA_rf [4] _) fa_11 (by decide)), wf_12, (show ((a.toInt < 0 ∨ (fv 12).toInt ≤ a.toInt ∨ b.toInt < 0 ∨ 5 < b.toInt ∨ v.toInt < 0 ∨ d.toInt < 0) ∧ ((-1) : Int32) = -1 ∧ fv_7 1 = -1) ∨ (¬ (a.toInt < 0 ∨ (fv 12).toInt ≤ a.toInt ∨ b.toInt < 0 ∨ 5 < b.toInt ∨ v.toInt < 0 ∨ d.toInt < 0) ∧ ((-1) : Int32).toInt = cd_av (cd_fc (ar 20 ((ar 28 (a.toInt.toNat)).toInt.toNat)).toInt (ar 23 ((ar 28 (a.toInt.toNat)).toInt.toNat)).toInt (ar 22 ((ar 28 (a.toInt.toNat)).toInt.toNat)).toInt (wt_rf (fv 7) (fv 5) (ar 3)) (ar 31 (a.toInt.toNat)).toInt (fv 7).toInt (ar 29 (a.toInt.toNat)).toInt (ar 30 (a.toInt.toNat)).toInt (cd_ri b.toInt v.toInt) d.toInt) b.toInt (decide ((ar 20 ((ar 28 (a.toInt.toNat)).toInt.toNat)).toInt = 2)) (cd_Wf (cd_gX (glr ((cd_nw (fun i => (gfr i).toInt) (fv 7).toInt ((fv 30).toInt.toNat)).1))) (gln ((cd_nw (fun i => (gfr i).toInt) (fv 7).toInt ((fv 30).toInt.toNat)).1)) 0) ∧ (fv_7 1).toInt = cd_al (cd_fc (ar 20 ((ar 28 (a.toInt.toNat)).toInt.toNat)).toInt (ar 23 ((ar 28 (a.toInt.toNat)).toInt.toNat)).toInt (ar 22 ((ar 28 (a.toInt.toNat)).toInt.toNat)).toInt (wt_rf (fv 7) (fv 5) (ar 3)) (ar 31 (a.toInt.toNat)).toInt (fv 7).toInt (ar 29 (a.toInt.toNat)).toInt (ar 30 (a.toInt.toNat)).toInt (cd_ri b.toInt v.toInt) d.toInt) b.toInt (decide ((ar 20 ((ar 28 (a.toInt.toNat)).toInt.toNat)).toInt = 2)) (cd_Wf (cd_gX (glr ((cd_nw (fun i => (gfr i).toInt) (fv 7).toInt ((fv 30).toInt.toNat)).1))) (gln ((cd_nw (fun i => (gfr i).toInt) (fv 7).toInt ((fv 30).toInt.toNat)).1)) 0)) from Or.inl ⟨by omega, rfl, (fr_10 1 rfl).trans ((congrFun efv_1 1))⟩), (mx_f01_fr hp_f01 (fA_call (fA_rf [] _) fa_11 (by decide)) rfl), trivial⟩, ⟨by rw [ht]; exact hP, va_K.moved hW.alike hK⟩⟩, hS.F ht⟩) hS.2.2 dX11_told_38
    · skip
      exact absurd c_14 (by decide)
  · skip
    have i_16 : 0 ≤ a.toInt ∧ a.toInt ≤ 2147483647 := ⟨p_6.1, (iv_any a).2⟩
    have i_17 : 0 ≤ a.toInt ∧ a.toInt ≤ 79 := ⟨i_16.1, p_6.2.1⟩
    have q_18 : a.toInt < (fv_1 12).toInt := p_6.2.2
    refine lv_if_eq (tgt := 37) hx hb dX11_told_16 (by decide) (fun c_19 => ?_) (fun c_19 => ?_)
    · skip
      exact absurd c_19 (by decide)
    · skip
      refine lv_iload_n hx hb dX11_told_19 rfl (lv_at hl 2 rfl) ?_
      refine lv_if_lt (tgt := 37) hx hb dX11_told_20 (by decide) (fun c_20 => ?_) (fun c_20 => ?_)
      · skip
        have i_21 : (-2147483648) ≤ b.toInt ∧ b.toInt ≤ (-1) := iv_lt1 (iv_any b) (⟨by decide, by decide⟩ : (0 : Int) ≤ (0 : Int32).toInt ∧ (0 : Int32).toInt ≤ 0) c_20
        refine lv_iconst (v := (-1)) hx hb dX11_told_37 (by decide) ?_
        have z_22 : ((-1) : Int32).toInt = (-1) := by decide
        exact W.iret (v := (-1)) hx hb hr (fun t ht hW => ⟨⟨(-1), (fv_7, wd_8, ar_9), rfl, ⟨hF_fv_7, hA_ar_9, (fM_call (fM_put (fM_rf [1, 6] _) efv_1 (by decide)) fr_10 (by decide)), (fA_call (fA_rf [4] _) fa_11 (by decide)), wf_12, (show ((a.toInt < 0 ∨ (fv 12).toInt ≤ a.toInt ∨ b.toInt < 0 ∨ 5 < b.toInt ∨ v.toInt < 0 ∨ d.toInt < 0) ∧ ((-1) : Int32) = -1 ∧ fv_7 1 = -1) ∨ (¬ (a.toInt < 0 ∨ (fv 12).toInt ≤ a.toInt ∨ b.toInt < 0 ∨ 5 < b.toInt ∨ v.toInt < 0 ∨ d.toInt < 0) ∧ ((-1) : Int32).toInt = cd_av (cd_fc (ar 20 ((ar 28 (a.toInt.toNat)).toInt.toNat)).toInt (ar 23 ((ar 28 (a.toInt.toNat)).toInt.toNat)).toInt (ar 22 ((ar 28 (a.toInt.toNat)).toInt.toNat)).toInt (wt_rf (fv 7) (fv 5) (ar 3)) (ar 31 (a.toInt.toNat)).toInt (fv 7).toInt (ar 29 (a.toInt.toNat)).toInt (ar 30 (a.toInt.toNat)).toInt (cd_ri b.toInt v.toInt) d.toInt) b.toInt (decide ((ar 20 ((ar 28 (a.toInt.toNat)).toInt.toNat)).toInt = 2)) (cd_Wf (cd_gX (glr ((cd_nw (fun i => (gfr i).toInt) (fv 7).toInt ((fv 30).toInt.toNat)).1))) (gln ((cd_nw (fun i => (gfr i).toInt) (fv 7).toInt ((fv 30).toInt.toNat)).1)) 0) ∧ (fv_7 1).toInt = cd_al (cd_fc (ar 20 ((ar 28 (a.toInt.toNat)).toInt.toNat)).toInt (ar 23 ((ar 28 (a.toInt.toNat)).toInt.toNat)).toInt (ar 22 ((ar 28 (a.toInt.toNat)).toInt.toNat)).toInt (wt_rf (fv 7) (fv 5) (ar 3)) (ar 31 (a.toInt.toNat)).toInt (fv 7).toInt (ar 29 (a.toInt.toNat)).toInt (ar 30 (a.toInt.toNat)).toInt (cd_ri b.toInt v.toInt) d.toInt) b.toInt (decide ((ar 20 ((ar 28 (a.toInt.toNat)).toInt.toNat)).toInt = 2)) (cd_Wf (cd_gX (glr ((cd_nw (fun i => (gfr i).toInt) (fv 7).toInt ((fv 30).toInt.toNat)).1))) (gln ((cd_nw (fun i => (gfr i).toInt) (fv 7).toInt ((fv 30).toInt.toNat)).1)) 0)) from Or.inl ⟨by omega, rfl, (fr_10 1 rfl).trans ((congrFun efv_1 1))⟩), (mx_f01_fr hp_f01 (fA_call (fA_rf [] _) fa_11 (by decide)) rfl), trivial⟩, ⟨by rw [ht]; exact hP, va_K.moved hW.alike hK⟩⟩, hS.F ht⟩) hS.2.2 dX11_told_38
      · skip
        have i_23 : 0 ≤ b.toInt ∧ b.toInt ≤ 2147483647 := iv_le2 (⟨by decide, by decide⟩ : (0 : Int) ≤ (0 : Int32).toInt ∧ (0 : Int32).toInt ≤ 0) (iv_any b) (Int32.not_lt.mp c_20)
        refine lv_iload_n hx hb dX11_told_23 rfl (lv_at hl 2 rfl) ?_
        refine lv_iconst (v := 5) hx hb dX11_told_24 (by decide) ?_
        refine lv_icmp_gt (tgt := 37) hx hb dX11_told_25 (by decide) (fun c_24 => ?_) (fun c_24 => ?_)
        · skip
          have i_25 : 6 ≤ b.toInt ∧ b.toInt ≤ 2147483647 := iv_lt2 (⟨by decide, by decide⟩ : (5 : Int) ≤ (5 : Int32).toInt ∧ (5 : Int32).toInt ≤ 5) i_23 c_24
          refine lv_iconst (v := (-1)) hx hb dX11_told_37 (by decide) ?_
          have z_26 : ((-1) : Int32).toInt = (-1) := by decide
          exact W.iret (v := (-1)) hx hb hr (fun t ht hW => ⟨⟨(-1), (fv_7, wd_8, ar_9), rfl, ⟨hF_fv_7, hA_ar_9, (fM_call (fM_put (fM_rf [1, 6] _) efv_1 (by decide)) fr_10 (by decide)), (fA_call (fA_rf [4] _) fa_11 (by decide)), wf_12, (show ((a.toInt < 0 ∨ (fv 12).toInt ≤ a.toInt ∨ b.toInt < 0 ∨ 5 < b.toInt ∨ v.toInt < 0 ∨ d.toInt < 0) ∧ ((-1) : Int32) = -1 ∧ fv_7 1 = -1) ∨ (¬ (a.toInt < 0 ∨ (fv 12).toInt ≤ a.toInt ∨ b.toInt < 0 ∨ 5 < b.toInt ∨ v.toInt < 0 ∨ d.toInt < 0) ∧ ((-1) : Int32).toInt = cd_av (cd_fc (ar 20 ((ar 28 (a.toInt.toNat)).toInt.toNat)).toInt (ar 23 ((ar 28 (a.toInt.toNat)).toInt.toNat)).toInt (ar 22 ((ar 28 (a.toInt.toNat)).toInt.toNat)).toInt (wt_rf (fv 7) (fv 5) (ar 3)) (ar 31 (a.toInt.toNat)).toInt (fv 7).toInt (ar 29 (a.toInt.toNat)).toInt (ar 30 (a.toInt.toNat)).toInt (cd_ri b.toInt v.toInt) d.toInt) b.toInt (decide ((ar 20 ((ar 28 (a.toInt.toNat)).toInt.toNat)).toInt = 2)) (cd_Wf (cd_gX (glr ((cd_nw (fun i => (gfr i).toInt) (fv 7).toInt ((fv 30).toInt.toNat)).1))) (gln ((cd_nw (fun i => (gfr i).toInt) (fv 7).toInt ((fv 30).toInt.toNat)).1)) 0) ∧ (fv_7 1).toInt = cd_al (cd_fc (ar 20 ((ar 28 (a.toInt.toNat)).toInt.toNat)).toInt (ar 23 ((ar 28 (a.toInt.toNat)).toInt.toNat)).toInt (ar 22 ((ar 28 (a.toInt.toNat)).toInt.toNat)).toInt (wt_rf (fv 7) (fv 5) (ar 3)) (ar 31 (a.toInt.toNat)).toInt (fv 7).toInt (ar 29 (a.toInt.toNat)).toInt (ar 30 (a.toInt.toNat)).toInt (cd_ri b.toInt v.toInt) d.toInt) b.toInt (decide ((ar 20 ((ar 28 (a.toInt.toNat)).toInt.toNat)).toInt = 2)) (cd_Wf (cd_gX (glr ((cd_nw (fun i => (gfr i).toInt) (fv 7).toInt ((fv 30).toInt.toNat)).1))) (gln ((cd_nw (fun i => (gfr i).toInt) (fv 7).toInt ((fv 30).toInt.toNat)).1)) 0)) from Or.inl ⟨by omega, rfl, (fr_10 1 rfl).trans ((congrFun efv_1 1))⟩), (mx_f01_fr hp_f01 (fA_call (fA_rf [] _) fa_11 (by decide)) rfl), trivial⟩, ⟨by rw [ht]; exact hP, va_K.moved hW.alike hK⟩⟩, hS.F ht⟩) hS.2.2 dX11_told_38
        · skip
          have i_27 : 0 ≤ b.toInt ∧ b.toInt ≤ 5 := iv_le1 i_23 (⟨by decide, by decide⟩ : (5 : Int) ≤ (5 : Int32).toInt ∧ (5 : Int32).toInt ≤ 5) (Int32.not_lt.mp c_24)
          refine lv_iload_n hx hb dX11_told_28 rfl (lv_at hl 3 rfl) ?_
          refine lv_if_lt (tgt := 37) hx hb dX11_told_29 (by decide) (fun c_28 => ?_) (fun c_28 => ?_)
          · skip
            have i_29 : (-2147483648) ≤ v.toInt ∧ v.toInt ≤ (-1) := iv_lt1 (iv_any v) (⟨by decide, by decide⟩ : (0 : Int) ≤ (0 : Int32).toInt ∧ (0 : Int32).toInt ≤ 0) c_28
            refine lv_iconst (v := (-1)) hx hb dX11_told_37 (by decide) ?_
            have z_30 : ((-1) : Int32).toInt = (-1) := by decide
            exact W.iret (v := (-1)) hx hb hr (fun t ht hW => ⟨⟨(-1), (fv_7, wd_8, ar_9), rfl, ⟨hF_fv_7, hA_ar_9, (fM_call (fM_put (fM_rf [1, 6] _) efv_1 (by decide)) fr_10 (by decide)), (fA_call (fA_rf [4] _) fa_11 (by decide)), wf_12, (show ((a.toInt < 0 ∨ (fv 12).toInt ≤ a.toInt ∨ b.toInt < 0 ∨ 5 < b.toInt ∨ v.toInt < 0 ∨ d.toInt < 0) ∧ ((-1) : Int32) = -1 ∧ fv_7 1 = -1) ∨ (¬ (a.toInt < 0 ∨ (fv 12).toInt ≤ a.toInt ∨ b.toInt < 0 ∨ 5 < b.toInt ∨ v.toInt < 0 ∨ d.toInt < 0) ∧ ((-1) : Int32).toInt = cd_av (cd_fc (ar 20 ((ar 28 (a.toInt.toNat)).toInt.toNat)).toInt (ar 23 ((ar 28 (a.toInt.toNat)).toInt.toNat)).toInt (ar 22 ((ar 28 (a.toInt.toNat)).toInt.toNat)).toInt (wt_rf (fv 7) (fv 5) (ar 3)) (ar 31 (a.toInt.toNat)).toInt (fv 7).toInt (ar 29 (a.toInt.toNat)).toInt (ar 30 (a.toInt.toNat)).toInt (cd_ri b.toInt v.toInt) d.toInt) b.toInt (decide ((ar 20 ((ar 28 (a.toInt.toNat)).toInt.toNat)).toInt = 2)) (cd_Wf (cd_gX (glr ((cd_nw (fun i => (gfr i).toInt) (fv 7).toInt ((fv 30).toInt.toNat)).1))) (gln ((cd_nw (fun i => (gfr i).toInt) (fv 7).toInt ((fv 30).toInt.toNat)).1)) 0) ∧ (fv_7 1).toInt = cd_al (cd_fc (ar 20 ((ar 28 (a.toInt.toNat)).toInt.toNat)).toInt (ar 23 ((ar 28 (a.toInt.toNat)).toInt.toNat)).toInt (ar 22 ((ar 28 (a.toInt.toNat)).toInt.toNat)).toInt (wt_rf (fv 7) (fv 5) (ar 3)) (ar 31 (a.toInt.toNat)).toInt (fv 7).toInt (ar 29 (a.toInt.toNat)).toInt (ar 30 (a.toInt.toNat)).toInt (cd_ri b.toInt v.toInt) d.toInt) b.toInt (decide ((ar 20 ((ar 28 (a.toInt.toNat)).toInt.toNat)).toInt = 2)) (cd_Wf (cd_gX (glr ((cd_nw (fun i => (gfr i).toInt) (fv 7).toInt ((fv 30).toInt.toNat)).1))) (gln ((cd_nw (fun i => (gfr i).toInt) (fv 7).toInt ((fv 30).toInt.toNat)).1)) 0)) from Or.inl ⟨by omega, rfl, (fr_10 1 rfl).trans ((congrFun efv_1 1))⟩), (mx_f01_fr hp_f01 (fA_call (fA_rf [] _) fa_11 (by decide)) rfl), trivial⟩, ⟨by rw [ht]; exact hP, va_K.moved hW.alike hK⟩⟩, hS.F ht⟩) hS.2.2 dX11_told_38
          · skip
            have i_31 : 0 ≤ v.toInt ∧ v.toInt ≤ 2147483647 := iv_le2 (⟨by decide, by decide⟩ : (0 : Int) ≤ (0 : Int32).toInt ∧ (0 : Int32).toInt ≤ 0) (iv_any v) (Int32.not_lt.mp c_28)
            refine lv_iload hx hb dX11_told_32 (lv_at hl 4 rfl) ?_
            refine lv_if_ge (tgt := 39) hx hb dX11_told_34 (by decide) (fun c_32 => ?_) (fun c_32 => ?_)
            · skip
              have i_33 : 0 ≤ d.toInt ∧ d.toInt ≤ 2147483647 := iv_le2 (⟨by decide, by decide⟩ : (0 : Int) ≤ (0 : Int32).toInt ∧ (0 : Int32).toInt ≤ 0) (iv_any d) c_32
              refine lv_aload_n hx hb dX11_told_39 rfl (lv_at hl 0 rfl) ?_
              refine gX_X11_16 hx hb htg hown hK hP dX11_told_40 ?_
              refine lv_aload_n hx hb dX11_told_43 rfl (lv_at hl 0 rfl) ?_
              refine gX_X11_16 hx hb htg hown hK hP dX11_told_44 ?_
              have z_34 : (fv_7 30).toInt = (fv 30).toInt := congrArg Int32.toInt ((fr_10 30 rfl).trans ((congrFun efv_1 30)))
              have z_35 : 0 ≤ (fv_7 30).toInt ∧ (fv_7 30).toInt ≤ 10 := hF_fv_7 30
              refine va_callr (va_runV (As := []) (rest := [.ref (ob 1)]) ⟨hx, hb, hml, hown, hts⟩ (x_lawTodayE l dC dI H.size ob ad cA hd fv_7 wd_8 ar_9 hF_fv_7 hA_ar_9 gla gfr gra grc gln gcn glr ce ef) (cwV 0 hts (gV kw_5_1 kw_5_2 kw_5_3 kw_1_2 kw_5_4) rfl rfl rfl (by decide +kernel) ⟨Nat.le_of_ble_eq_true rfl, Nat.le_of_ble_eq_true rfl⟩) ⟨fun a U g mk q => ⟨q.1, ⟨q.2.1.1, q.2.1.2.1, va_K.moved (u := U) (U := U.calling g mk a) (Vm.Alike.refl U.vm) q.2.1.2.2⟩, ls_mv (U := U.calling g mk a) rfl (Vm.Alike.refl U.vm) q.2.2⟩, va_recv hK hP (ci := 7) (q0 := 1) rfl rfl, fun U hU hW => ⟨rfl, ⟨by rw [hU], by rw [hU]; exact hP, va_K.moved hW.alike hK⟩, ls_eq (ls_pass hG hS hU hW.alike) (congrArg Int32.toInt ((fr_10 30 rfl).trans ((congrFun efv_1 30)))) (congrArg (fun z => z.2.2) wf_12)⟩⟩ rfl rfl hl.1 rfl (lv_room (Nat.le_of_ble_eq_true rfl)) dX11_told_47 ⟨Nat.le_of_ble_eq_true rfl, Nat.le_of_ble_eq_true rfl⟩) hS (fun q _ h9 => aX_up hS q h9) (aX_up hS) (fun u r_36 t H1 locs ht _ hw hB _ hk1 hS => ?_)
              obtain ⟨fv_37, wd_38, ar_39⟩ := u
              obtain ⟨hF_fv_37, hA_ar_39, fr_40, fa_41, wf_42, -⟩ := hw
              have wf_42 : wd_38.2 = wd_8.2 := wf_42
              have hP : va_P (dC, dI) vwCl (wsX ob ad cA fv_37 wd_38 ar_39) H1 := by have h9 := hB.1.1; rw [ht] at h9; exact h9
              have fr_40 : fM [] fv_7 fv_37 := fr_40
              have fa_41 : fA [] ar_9 ar_39 := fa_41
              generalize H1 = H at hP hS ⊢
              obtain ⟨z9, hz9, hr9, hzz⟩ := hB.2
              subst hr9
              have hz8 : (z9 : Int) ≤ (fv 30).toInt := by omega
              have hL := (hG.2.1 z9 hz8).2
              have hlq := (hG.2.1 z9 hz8).1
              refine lv_iload_n hx hb dX11_told_50 rfl (lv_at hl 1 rfl) ?_
              refine lv_iload_n hx hb dX11_told_51 rfl (lv_at hl 2 rfl) ?_
              refine lv_iload_n hx hb dX11_told_52 rfl (lv_at hl 3 rfl) ?_
              refine lv_iload hx hb dX11_told_53 (lv_at hl 4 rfl) ?_
              have z_43 : (fv_37 5).toInt = (fv 5).toInt := congrArg Int32.toInt ((fr_40 5 rfl).trans ((fr_10 5 rfl).trans ((congrFun efv_1 5))))
              have z_44 : 0 ≤ (fv_37 5).toInt ∧ (fv_37 5).toInt ≤ 200 := hF_fv_37 5
              have z_45 : (fv_37 7).toInt = (fv 7).toInt := congrArg Int32.toInt ((fr_40 7 rfl).trans ((fr_10 7 rfl).trans ((congrFun efv_1 7))))
              have z_46 : 0 ≤ (fv_37 7).toInt ∧ (fv_37 7).toInt ≤ 199 := hF_fv_37 7
              refine va_calli (va_runV (As := [.ref (gla z9), .int a, .int b, .int v, .int d]) (rest := []) ⟨hx, hb, hml, hown, hts⟩ (x_askE l dC dI H.size ob ad cA hd fv_37 wd_38 ar_39 hF_fv_37 hA_ar_39 (gla z9) (gfr z9) (gra z9) (grc z9) (gln z9) (gcn z9) (glr z9) hlq a b v d i_17 (hgds z9 hz8) (mx_f01_fr hp_f01 (fA_call (fA_call (fA_rf [] _) fa_11 (by decide)) fa_41 (by decide)) rfl)) (cwV 5 hts (gV kw_5_18 kw_5_19 kw_5_20 kw_1_2 kw_5_21) rfl rfl rfl (by decide +kernel) ⟨Nat.le_of_ble_eq_true rfl, Nat.le_of_ble_eq_true rfl⟩) ⟨fun a U g mk q => ⟨q.1, ⟨q.2.1.1, q.2.1.2.1, va_K.moved (u := U) (U := U.calling g mk a) (Vm.Alike.refl U.vm) q.2.1.2.2⟩, ⟨q.2.2.1, va_K.moved (u := U) (U := U.calling g mk a) (Vm.Alike.refl U.vm) q.2.2.2.1, q.2.2.2.2⟩⟩, va_recv hK hP (ci := 7) (q0 := 1) rfl rfl, fun U hU hW => ⟨rfl, ⟨by rw [hU], by rw [hU]; exact hP, va_K.moved hW.alike hK⟩, lw_pass hL hS hU hW.alike⟩⟩ rfl rfl hl.1 rfl (lv_room (Nat.le_of_ble_eq_true rfl)) dX11_told_55 ⟨Nat.le_of_ble_eq_true rfl, Nat.le_of_ble_eq_true rfl⟩) hS (fun q _ h9 => aX_up hS q h9) (aX_up hS) (fun r_47 u t H1 locs ht _ hw hB _ hk1 hS => ?_)
              obtain ⟨fv_51, wd_52, ar_53⟩ := u
              obtain ⟨hF_fv_51, hA_ar_53, fr_54, fa_55, wf_56, p_48, p_49, p_50, -⟩ := hw
              have wf_56 : wd_52.2 = wd_38.2 := wf_56
              have hP : va_P (dC, dI) vwCl (wsX ob ad cA fv_51 wd_52 ar_53) H1 := by have h9 := hB.1; rw [ht] at h9; exact h9
              have fr_54 : fM [6] fv_37 fv_51 := fr_54
              have fa_55 : fA [4] ar_39 ar_53 := fa_55
              have p_50 : mx_f01 ar_53 := p_50
              have p_48 : (fv_51 6).toInt = cd_al (cd_fc (ar_39 20 ((ar_39 28 (a.toInt.toNat)).toInt.toNat)).toInt (ar_39 23 ((ar_39 28 (a.toInt.toNat)).toInt.toNat)).toInt (ar_39 22 ((ar_39 28 (a.toInt.toNat)).toInt.toNat)).toInt (wt_rf (fv_37 7) (fv_37 5) (ar_39 3)) (ar_39 31 (a.toInt.toNat)).toInt (fv_37 7).toInt (ar_39 29 (a.toInt.toNat)).toInt (ar_39 30 (a.toInt.toNat)).toInt (cd_ri b.toInt v.toInt) d.toInt) b.toInt (decide ((ar_39 20 ((ar_39 28 (a.toInt.toNat)).toInt.toNat)).toInt = 2)) (cd_Wf (cd_gX (glr z9)) (gln z9) 0) := p_48
              have p_49 : r_47.toInt = cd_av (cd_fc (ar_39 20 ((ar_39 28 (a.toInt.toNat)).toInt.toNat)).toInt (ar_39 23 ((ar_39 28 (a.toInt.toNat)).toInt.toNat)).toInt (ar_39 22 ((ar_39 28 (a.toInt.toNat)).toInt.toNat)).toInt (wt_rf (fv_37 7) (fv_37 5) (ar_39 3)) (ar_39 31 (a.toInt.toNat)).toInt (fv_37 7).toInt (ar_39 29 (a.toInt.toNat)).toInt (ar_39 30 (a.toInt.toNat)).toInt (cd_ri b.toInt v.toInt) d.toInt) b.toInt (decide ((ar_39 20 ((ar_39 28 (a.toInt.toNat)).toInt.toNat)).toInt = 2)) (cd_Wf (cd_gX (glr z9)) (gln z9) 0) := p_49
              generalize H1 = H at hP hS ⊢
              refine lv_istore (lv' := [(5, .int r_47), (0, .ref (ob 0)), (1, .int a), (2, .int b), (3, .int v), (4, .int d)]) hx hb dX11_told_58 hl (by decide) rfl (fun ls hl => ?_)
              refine lv_aload_n hx hb dX11_told_60 rfl (lv_at hl 1 rfl) ?_
              refine lv_aload_n hx hb dX11_told_61 rfl (lv_at hl 1 rfl) ?_
              refine gX_X11_16 hx hb htg hown hK hP dX11_told_62 ?_
              refine gX_X11_197 hx hb htg hown hK hP dX11_told_65 ?_
              refine pX_X11_43 hx hb htg hown hK hP hS hd dX11_told_68 (fun H locs fv_57 efv_57 hP hS => ?_)
              have hF_fv_57 : rX fv_57 := rX_put hF_fv_51 efv_57 (iv_any (fv_51 6))
              refine lv_iload hx hb dX11_told_71 (lv_at hl 0 rfl) ?_
              exact W.iret (v := r_47) hx hb hr (fun t ht hW => ⟨⟨r_47, (fv_57, wd_52, ar_53), rfl, ⟨hF_fv_57, hA_ar_53, (fM_put (fM_call (fM_call (fM_call (fM_put (fM_rf [1, 6] _) efv_1 (by decide)) fr_10 (by decide)) fr_40 (by decide)) fr_54 (by decide)) efv_57 (by decide)), (fA_call (fA_call (fA_call (fA_rf [4] _) fa_11 (by decide)) fa_41 (by decide)) fa_55 (by decide)), (wf_56.trans (wf_42.trans wf_12)), (show ((a.toInt < 0 ∨ (fv 12).toInt ≤ a.toInt ∨ b.toInt < 0 ∨ 5 < b.toInt ∨ v.toInt < 0 ∨ d.toInt < 0) ∧ r_47 = -1 ∧ fv_57 1 = -1) ∨ (¬ (a.toInt < 0 ∨ (fv 12).toInt ≤ a.toInt ∨ b.toInt < 0 ∨ 5 < b.toInt ∨ v.toInt < 0 ∨ d.toInt < 0) ∧ r_47.toInt = cd_av (cd_fc (ar 20 ((ar 28 (a.toInt.toNat)).toInt.toNat)).toInt (ar 23 ((ar 28 (a.toInt.toNat)).toInt.toNat)).toInt (ar 22 ((ar 28 (a.toInt.toNat)).toInt.toNat)).toInt (wt_rf (fv 7) (fv 5) (ar 3)) (ar 31 (a.toInt.toNat)).toInt (fv 7).toInt (ar 29 (a.toInt.toNat)).toInt (ar 30 (a.toInt.toNat)).toInt (cd_ri b.toInt v.toInt) d.toInt) b.toInt (decide ((ar 20 ((ar 28 (a.toInt.toNat)).toInt.toNat)).toInt = 2)) (cd_Wf (cd_gX (glr ((cd_nw (fun i => (gfr i).toInt) (fv 7).toInt ((fv 30).toInt.toNat)).1))) (gln ((cd_nw (fun i => (gfr i).toInt) (fv 7).toInt ((fv 30).toInt.toNat)).1)) 0) ∧ (fv_57 1).toInt = cd_al (cd_fc (ar 20 ((ar 28 (a.toInt.toNat)).toInt.toNat)).toInt (ar 23 ((ar 28 (a.toInt.toNat)).toInt.toNat)).toInt (ar 22 ((ar 28 (a.toInt.toNat)).toInt.toNat)).toInt (wt_rf (fv 7) (fv 5) (ar 3)) (ar 31 (a.toInt.toNat)).toInt (fv 7).toInt (ar 29 (a.toInt.toNat)).toInt (ar 30 (a.toInt.toNat)).toInt (cd_ri b.toInt v.toInt) d.toInt) b.toInt (decide ((ar 20 ((ar 28 (a.toInt.toNat)).toInt.toNat)).toInt = 2)) (cd_Wf (cd_gX (glr ((cd_nw (fun i => (gfr i).toInt) (fv 7).toInt ((fv 30).toInt.toNat)).1))) (gln ((cd_nw (fun i => (gfr i).toInt) (fv 7).toInt ((fv 30).toInt.toNat)).1)) 0)) from Or.inr ⟨by omega, by have h9 := p_49; rw [show z9 = ((cd_nw (fun i => (gfr i).toInt) (fv 7).toInt ((fv 30).toInt.toNat)).1) from (by have h8 := hzz; rw [show fv_7 7 = fv 7 from ((fM_call (fM_put (fM_rf [1] _) efv_1 (by decide)) fr_10 (by decide)) 7 rfl), show fv_7 30 = fv 30 from ((fM_call (fM_put (fM_rf [1] _) efv_1 (by decide)) fr_10 (by decide)) 30 rfl)] at h8; exact h8), show ar_39 3 = ar 3 from ((fA_call (fA_call (fA_rf [] _) fa_11 (by decide)) fa_41 (by decide)) 3 rfl), show ar_39 20 = ar 20 from ((fA_call (fA_call (fA_rf [] _) fa_11 (by decide)) fa_41 (by decide)) 20 rfl), show ar_39 22 = ar 22 from ((fA_call (fA_call (fA_rf [] _) fa_11 (by decide)) fa_41 (by decide)) 22 rfl), show ar_39 23 = ar 23 from ((fA_call (fA_call (fA_rf [] _) fa_11 (by decide)) fa_41 (by decide)) 23 rfl), show ar_39 28 = ar 28 from ((fA_call (fA_call (fA_rf [] _) fa_11 (by decide)) fa_41 (by decide)) 28 rfl), show ar_39 29 = ar 29 from ((fA_call (fA_call (fA_rf [] _) fa_11 (by decide)) fa_41 (by decide)) 29 rfl), show ar_39 30 = ar 30 from ((fA_call (fA_call (fA_rf [] _) fa_11 (by decide)) fa_41 (by decide)) 30 rfl), show ar_39 31 = ar 31 from ((fA_call (fA_call (fA_rf [] _) fa_11 (by decide)) fa_41 (by decide)) 31 rfl), show fv_37 7 = fv 7 from ((fM_call (fM_call (fM_put (fM_rf [1] _) efv_1 (by decide)) fr_10 (by decide)) fr_40 (by decide)) 7 rfl), show fv_37 5 = fv 5 from ((fM_call (fM_call (fM_put (fM_rf [1] _) efv_1 (by decide)) fr_10 (by decide)) fr_40 (by decide)) 5 rfl)] at h9; exact h9, by have h9 := p_48; rw [show z9 = ((cd_nw (fun i => (gfr i).toInt) (fv 7).toInt ((fv 30).toInt.toNat)).1) from (by have h8 := hzz; rw [show fv_7 7 = fv 7 from ((fM_call (fM_put (fM_rf [1] _) efv_1 (by decide)) fr_10 (by decide)) 7 rfl), show fv_7 30 = fv 30 from ((fM_call (fM_put (fM_rf [1] _) efv_1 (by decide)) fr_10 (by decide)) 30 rfl)] at h8; exact h8), show ar_39 3 = ar 3 from ((fA_call (fA_call (fA_rf [] _) fa_11 (by decide)) fa_41 (by decide)) 3 rfl), show ar_39 20 = ar 20 from ((fA_call (fA_call (fA_rf [] _) fa_11 (by decide)) fa_41 (by decide)) 20 rfl), show ar_39 22 = ar 22 from ((fA_call (fA_call (fA_rf [] _) fa_11 (by decide)) fa_41 (by decide)) 22 rfl), show ar_39 23 = ar 23 from ((fA_call (fA_call (fA_rf [] _) fa_11 (by decide)) fa_41 (by decide)) 23 rfl), show ar_39 28 = ar 28 from ((fA_call (fA_call (fA_rf [] _) fa_11 (by decide)) fa_41 (by decide)) 28 rfl), show ar_39 29 = ar 29 from ((fA_call (fA_call (fA_rf [] _) fa_11 (by decide)) fa_41 (by decide)) 29 rfl), show ar_39 30 = ar 30 from ((fA_call (fA_call (fA_rf [] _) fa_11 (by decide)) fa_41 (by decide)) 30 rfl), show ar_39 31 = ar 31 from ((fA_call (fA_call (fA_rf [] _) fa_11 (by decide)) fa_41 (by decide)) 31 rfl), show fv_37 7 = fv 7 from ((fM_call (fM_call (fM_put (fM_rf [1] _) efv_1 (by decide)) fr_10 (by decide)) fr_40 (by decide)) 7 rfl), show fv_37 5 = fv 5 from ((fM_call (fM_call (fM_put (fM_rf [1] _) efv_1 (by decide)) fr_10 (by decide)) fr_40 (by decide)) 5 rfl)] at h9; rw [show fv_57 1 = fv_51 6 from (congrFun efv_57 1)]; exact h9⟩), p_50, trivial⟩, ⟨by rw [ht]; exact hP, va_K.moved hW.alike hK⟩⟩, hS.F ht⟩) hS.2.2 dX11_told_73
            · skip
              have i_58 : (-2147483648) ≤ d.toInt ∧ d.toInt ≤ (-1) := iv_lt1 (iv_any d) (⟨by decide, by decide⟩ : (0 : Int) ≤ (0 : Int32).toInt ∧ (0 : Int32).toInt ≤ 0) (Int32.not_le.mp c_32)
              refine lv_iconst (v := (-1)) hx hb dX11_told_37 (by decide) ?_
              have z_59 : ((-1) : Int32).toInt = (-1) := by decide
              exact W.iret (v := (-1)) hx hb hr (fun t ht hW => ⟨⟨(-1), (fv_7, wd_8, ar_9), rfl, ⟨hF_fv_7, hA_ar_9, (fM_call (fM_put (fM_rf [1, 6] _) efv_1 (by decide)) fr_10 (by decide)), (fA_call (fA_rf [4] _) fa_11 (by decide)), wf_12, (show ((a.toInt < 0 ∨ (fv 12).toInt ≤ a.toInt ∨ b.toInt < 0 ∨ 5 < b.toInt ∨ v.toInt < 0 ∨ d.toInt < 0) ∧ ((-1) : Int32) = -1 ∧ fv_7 1 = -1) ∨ (¬ (a.toInt < 0 ∨ (fv 12).toInt ≤ a.toInt ∨ b.toInt < 0 ∨ 5 < b.toInt ∨ v.toInt < 0 ∨ d.toInt < 0) ∧ ((-1) : Int32).toInt = cd_av (cd_fc (ar 20 ((ar 28 (a.toInt.toNat)).toInt.toNat)).toInt (ar 23 ((ar 28 (a.toInt.toNat)).toInt.toNat)).toInt (ar 22 ((ar 28 (a.toInt.toNat)).toInt.toNat)).toInt (wt_rf (fv 7) (fv 5) (ar 3)) (ar 31 (a.toInt.toNat)).toInt (fv 7).toInt (ar 29 (a.toInt.toNat)).toInt (ar 30 (a.toInt.toNat)).toInt (cd_ri b.toInt v.toInt) d.toInt) b.toInt (decide ((ar 20 ((ar 28 (a.toInt.toNat)).toInt.toNat)).toInt = 2)) (cd_Wf (cd_gX (glr ((cd_nw (fun i => (gfr i).toInt) (fv 7).toInt ((fv 30).toInt.toNat)).1))) (gln ((cd_nw (fun i => (gfr i).toInt) (fv 7).toInt ((fv 30).toInt.toNat)).1)) 0) ∧ (fv_7 1).toInt = cd_al (cd_fc (ar 20 ((ar 28 (a.toInt.toNat)).toInt.toNat)).toInt (ar 23 ((ar 28 (a.toInt.toNat)).toInt.toNat)).toInt (ar 22 ((ar 28 (a.toInt.toNat)).toInt.toNat)).toInt (wt_rf (fv 7) (fv 5) (ar 3)) (ar 31 (a.toInt.toNat)).toInt (fv 7).toInt (ar 29 (a.toInt.toNat)).toInt (ar 30 (a.toInt.toNat)).toInt (cd_ri b.toInt v.toInt) d.toInt) b.toInt (decide ((ar 20 ((ar 28 (a.toInt.toNat)).toInt.toNat)).toInt = 2)) (cd_Wf (cd_gX (glr ((cd_nw (fun i => (gfr i).toInt) (fv 7).toInt ((fv 30).toInt.toNat)).1))) (gln ((cd_nw (fun i => (gfr i).toInt) (fv 7).toInt ((fv 30).toInt.toNat)).1)) 0)) from Or.inl ⟨by omega, rfl, (fr_10 1 rfl).trans ((congrFun efv_1 1))⟩), (mx_f01_fr hp_f01 (fA_call (fA_rf [] _) fa_11 (by decide)) rfl), trivial⟩, ⟨by rw [ht]; exact hP, va_K.moved hW.alike hK⟩⟩, hS.F ht⟩) hS.2.2 dX11_told_38

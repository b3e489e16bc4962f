theorem dX3_matches_0 : decode cX3_matches 0 = .ok (.iconst 0, 1) := by decide +kernel
theorem dX3_matches_1 : decode cX3_matches 1 = .ok (.istore_n 3, 1) := by decide +kernel
theorem dX3_matches_2 : decode cX3_matches 2 = .ok (.iload_n 3, 1) := by decide +kernel
theorem dX3_matches_3 : decode cX3_matches 3 = .ok (.aload_n 0, 1) := by decide +kernel
theorem dX3_matches_4 : decode cX3_matches 4 = .ok (.invokevirtual 142, 3) := by decide +kernel
theorem dX3_matches_7 : decode cX3_matches 7 = .ok (.if_icmp .ge 24, 3) := by decide +kernel
theorem dX3_matches_10 : decode cX3_matches 10 = .ok (.aload_n 0, 1) := by decide +kernel
theorem dX3_matches_11 : decode cX3_matches 11 = .ok (.iload_n 3, 1) := by decide +kernel
theorem dX3_matches_12 : decode cX3_matches 12 = .ok (.invokevirtual 152, 3) := by decide +kernel
theorem dX3_matches_15 : decode cX3_matches 15 = .ok (.aload_n 1, 1) := by decide +kernel
theorem dX3_matches_16 : decode cX3_matches 16 = .ok (.iload_n 2, 1) := by decide +kernel
theorem dX3_matches_17 : decode cX3_matches 17 = .ok (.iload_n 3, 1) := by decide +kernel
theorem dX3_matches_18 : decode cX3_matches 18 = .ok (.iadd, 1) := by decide +kernel
theorem dX3_matches_19 : decode cX3_matches 19 = .ok (.iaload, 1) := by decide +kernel
theorem dX3_matches_20 : decode cX3_matches 20 = .ok (.if_icmp .eq 5, 3) := by decide +kernel
theorem dX3_matches_23 : decode cX3_matches 23 = .ok (.iconst 0, 1) := by decide +kernel
theorem dX3_matches_24 : decode cX3_matches 24 = .ok (.ireturn, 1) := by decide +kernel
theorem dX3_matches_25 : decode cX3_matches 25 = .ok (.iinc 3 1, 3) := by decide +kernel
theorem dX3_matches_28 : decode cX3_matches 28 = .ok (.goto (-26), 3) := by decide +kernel
theorem dX3_matches_31 : decode cX3_matches 31 = .ok (.iconst 1, 1) := by decide +kernel
theorem dX3_matches_32 : decode cX3_matches 32 = .ok (.ireturn, 1) := by decide +kernel
set_option maxHeartbeats 4000000 in
set_option maxRecDepth 100000 in
theorem x_matches (l : Launch) (dC : Nat → ClassId) (dI : Nat → Nat → Nat) (sz : Nat) (ob ad : Nat → Nat) (cA : Nat → ClassId) (hd : dX ob ad) (fv : Nat → Int32) (wd : xT) (ar : Nat → Nat → Int32) (hF_fv : rX fv) (hA_ar : rB ar) (ak av ln : Nat) (bt : Nat → Int32) (at_ : Int32) (h_at_ : 0 ≤ at_.toInt ∧ at_.toInt ≤ 299) : Met l yX3_matches (.code yX3_matches cX3_matches 4 (some .boolean) :: lw_good) ({ frames := 6, cells := 0, slots := 0, locals := 125 }) (va_Pc [.ref ak, .ref (ad 1), .int at_] (fun U => prX dC dI ob ad cA fv wd ar sz U ∧ stA ak av ln bt (aX ob ad sz) U)) (va_Qi (fun (r : Int32) (u : xS) => rX u.1 ∧ rB u.2.2 ∧ fM [] fv u.1 ∧ fA [] ar u.2.2 ∧ u.2.1.2 = wd.2 ∧ (0 ≤ r.toInt ∧ r.toInt ≤ 1) ∧ True) (enX dC dI ob ad cA) (aX ob ad sz)) 0 0 (aX ob ad sz) := by
  refine Met.ofW (cc := cX3_matches) (maxL := 4) (ret := (some .boolean)) (by decide) rfl ?_
  intro p e s m args below meth c s₁ B hml hv
  obtain ⟨rfl, ⟨hsz, hP, hK⟩, hT⟩ := hv
  have hx := B.exec
  have hb := B.bytes
  have hr := B.returns
  have hts := atoms_spec (ws := (.code yX3_matches cX3_matches 4 (some .boolean) :: lw_good)) B.pre
  have htg : ∀ w ∈ lw_good, w.before _ s = true := fun w hw => hts w (List.mem_cons_of_mem _ hw)
  have hown : s.vm.findClass RX3 = some m.cls := findClass_of_methodNamed B.named
  have hlocks := B.notSynchronized
  subst hsz
  have hS : va_S (aX ob ad s.heap.size) s.heap s.heap [] := va_S.rf
  have hl := lv_entry ([.ref ak, .ref (ad 1), .int at_]) (n := 4) (Nat.le_of_ble_eq_true rfl)
  rw [lg_entry_eq]
  generalize (lg_sl ([.ref ak, .ref (ad 1), .int at_]) ++ List.replicate (4 - (lg_sl ([.ref ak, .ref (ad 1), .int at_])).length) Slot.unset).toArray = ls at hl ⊢
  have hl : lv_has ls 4 [(0, .ref ak), (1, .ref (ad 1)), (2, .int at_)] := hl
  refine lv_iconst (v := 0) hx hb dX3_matches_0 (by decide) ?_
  refine lv_istore_n (lv' := [(3, .int 0), (0, .ref ak), (1, .ref (ad 1)), (2, .int at_)]) hx hb dX3_matches_1 rfl hl (by decide) rfl (fun ls hl => ?_)
  refine my_cut (P := fun R9 a9 Q9 => ∀ (n_2 : Nat) (x_1 : Int32) (H : Heap) (locs : List Loc) (ls : Array Slot), 8 - x_1.toInt < (n_2 : Int) → (0 ≤ x_1.toInt ∧ x_1.toInt ≤ 8) → va_P (dC, dI) vwCl (wsX ob ad cA fv wd ar) H → va_S (aX ob ad s.heap.size) s.heap H locs → lv_has ls 4 [(0, .ref ak), (1, .ref (ad 1)), (2, .int at_), (3, .int x_1)] → W p l e R9 s m a9 below meth c H locs 0 0 Q9 (F0 m 2 ls [])) ?_ (fun hj_4 => ?_)
  · intro n_2
    induction n_2 with
    | zero => intro x_1 H locs ls fu_3 i_x_1; exfalso; omega
    | succ n_2 ih_2 =>
      intro x_1 H locs ls fu_3 i_x_1 hP hS hl
      refine lv_iload_n hx hb dX3_matches_2 rfl (lv_at hl 3 rfl) ?_
      refine lv_aload_n hx hb dX3_matches_3 rfl (lv_at hl 0 rfl) ?_
      refine va_calli (va_runV (As := []) (rest := [.int x_1]) ⟨hx, hb, hml, hown, hts⟩ (x_slen l H.size ak av ln bt) (cwV 0 hts (gV kw_4_42 kw_4_43 kw_4_44 kw_1_19 kw_4_45) rfl rfl rfl (by decide +kernel) ⟨Nat.le_of_ble_eq_true rfl, Nat.le_of_ble_eq_true rfl⟩) ⟨fun a U g mk q => ⟨q.1, q.2.1, st_mv (U := U.calling g mk a) rfl (Vm.Alike.refl U.vm) q.2.2⟩, st_recv hT hS, fun U hU hW => ⟨rfl, congrArg Array.size hU, st_pass hT hS hU hW.alike (nX_up hS)⟩⟩ rfl rfl hl.1 rfl (lv_room (Nat.le_of_ble_eq_true rfl)) dX3_matches_4 ⟨Nat.le_of_ble_eq_true rfl, Nat.le_of_ble_eq_true rfl⟩) hS (fun q _ h9 => nX_up hS q h9) (nX_up hS) (fun r_5 u t H1 locs ht _ hw hB _ hk1 hS => ?_)
      obtain ⟨p_6, p_7, -⟩ := hw
      have hP := my_keepM hP hk1
      generalize H1 = H at hP hS ⊢
      refine lv_icmp_ge (tgt := 31) hx hb dX3_matches_7 (by decide) (fun c_8 => ?_) (fun c_8 => ?_)
      · skip
        have k_9 := Int32.le_iff_toInt_le.mp c_8
        refine lv_iconst (v := 1) hx hb dX3_matches_31 (by decide) ?_
        exact W.zret (v := 1) hx hb hr (by decide) (fun t ht hW => ⟨⟨1, (fv, wd, ar), rfl, ⟨hF_fv, hA_ar, (fM_rf [] _), (fA_rf [] _), rfl, (iv_w (⟨by decide, by decide⟩ : (1 : Int) ≤ (1 : Int32).toInt ∧ (1 : Int32).toInt ≤ 1) (by decide) (by decide)), trivial⟩, ⟨by rw [ht]; exact hP, va_K.moved hW.alike hK⟩⟩, hS.F ht⟩) hS.2.2 dX3_matches_32
      · skip
        have i_10 : 0 ≤ x_1.toInt ∧ x_1.toInt ≤ 7 := iv_lt1 i_x_1 p_6 (Int32.not_le.mp c_8)
        have i_11 : 1 ≤ r_5.toInt ∧ r_5.toInt ≤ 8 := iv_lt2 i_x_1 p_6 (Int32.not_le.mp c_8)
        have k_12 := Int32.lt_iff_toInt_lt.mp (Int32.not_le.mp c_8)
        refine lv_aload_n hx hb dX3_matches_10 rfl (lv_at hl 0 rfl) ?_
        refine lv_iload_n hx hb dX3_matches_11 rfl (lv_at hl 3 rfl) ?_
        refine va_calli (va_runV (As := [.int x_1]) (rest := []) ⟨hx, hb, hml, hown, hts⟩ (x_charAt l H.size ak av ln bt x_1 i_10 (by omega)) (cwV 1 hts (gV kw_4_55 kw_4_56 kw_4_57 kw_1_19 kw_4_58) rfl rfl rfl (by decide +kernel) ⟨Nat.le_of_ble_eq_true rfl, Nat.le_of_ble_eq_true rfl⟩) ⟨fun a U g mk q => ⟨q.1, q.2.1, st_mv (U := U.calling g mk a) rfl (Vm.Alike.refl U.vm) q.2.2⟩, st_recv hT hS, fun U hU hW => ⟨rfl, congrArg Array.size hU, st_pass hT hS hU hW.alike (nX_up hS)⟩⟩ rfl rfl hl.1 rfl (lv_room (Nat.le_of_ble_eq_true rfl)) dX3_matches_12 ⟨Nat.le_of_ble_eq_true rfl, Nat.le_of_ble_eq_true rfl⟩) hS (fun q _ h9 => nX_up hS q h9) (nX_up hS) (fun r_13 u t H1 locs ht _ hw hB _ hk1 hS => ?_)
        obtain ⟨p_14, -⟩ := hw
        have hP := my_keepM hP hk1
        generalize H1 = H at hP hS ⊢
        refine lv_aload_n hx hb dX3_matches_15 rfl (lv_at hl 1 rfl) ?_
        refine lv_iload_n hx hb dX3_matches_16 rfl (lv_at hl 2 rfl) ?_
        refine lv_iload_n hx hb dX3_matches_17 rfl (lv_at hl 3 rfl) ?_
        refine lv_iadd hx hb dX3_matches_18 ?_
        refine lv_topi (fun v_15 ev_15 => ?_)
        have t_16 : v_15.toInt = at_.toInt + x_1.toInt ∧ 0 ≤ v_15.toInt ∧ v_15.toInt ≤ 306 := iv_add ev_15 h_at_ i_10 (by decide) (by decide)
        refine lX_1 hx hb hK hP (iv_in t_16.2 (by decide) (by decide)) dX3_matches_19 (fun v_18 ev_18 => ?_)
        have i_19 : 0 ≤ v_18.toInt ∧ v_18.toInt ≤ 255 := ev_18 ▸ hA_ar 1 _
        refine lv_icmp_eq (tgt := 25) hx hb dX3_matches_20 (by decide) (fun c_20 => ?_) (fun c_20 => ?_)
        · skip
          have k_21 := congrArg Int32.toInt c_20
          obtain ⟨v_22, ev_22⟩ : ∃ z : Int32, z = x_1 + 1 := ⟨_, rfl⟩
          refine lv_iinc (v := v_22) (lv' := [(3, .int v_22), (0, .ref ak), (1, .ref (ad 1)), (2, .int at_)]) hx hb dX3_matches_25 hl (k := 3) rfl (by rw [ev_22]; rfl) (by decide) rfl (fun ls hl => ?_)
          have t_23 : v_22.toInt = x_1.toInt + 1 ∧ 1 ≤ v_22.toInt ∧ v_22.toInt ≤ 8 := iv_addc ev_22 i_10 (by decide) (by decide) (by decide)
          refine lv_goto (tgt := 2) hx hb dX3_matches_28 (by decide) ?_
          exact ih_2 v_22 _ _ ls (by omega) (iv_w t_23.2 (by decide) (by decide)) hP hS (lv_sub hl [1, 2, 3, 0] rfl)
        · skip
          refine lv_iconst (v := 0) hx hb dX3_matches_23 (by decide) ?_
          exact W.zret (v := 0) hx hb hr (by decide) (fun t ht hW => ⟨⟨0, (fv, wd, ar), rfl, ⟨hF_fv, hA_ar, (fM_rf [] _), (fA_rf [] _), rfl, (iv_w (⟨by decide, by decide⟩ : (0 : Int) ≤ (0 : Int32).toInt ∧ (0 : Int32).toInt ≤ 0) (by decide) (by decide)), trivial⟩, ⟨by rw [ht]; exact hP, va_K.moved hW.alike hK⟩⟩, hS.F ht⟩) hS.2.2 dX3_matches_24
  · skip
    have z_25 : (0 : Int32).toInt = 0 := by decide
    exact hj_4 9 0 _ _ ls (by first | decide | omega) (iv_w (⟨by decide, by decide⟩ : (0 : Int) ≤ (0 : Int32).toInt ∧ (0 : Int32).toInt ≤ 0) (by decide) (by decide)) hP hS (lv_sub hl [1, 2, 3, 0] rfl)

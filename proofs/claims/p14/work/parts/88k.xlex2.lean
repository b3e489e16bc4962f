set_option maxHeartbeats 4000000 in
set_option maxRecDepth 100000 in
theorem x_matchesC (l : Launch) (dC : Nat → ClassId) (dI : Nat → Nat → Nat) (sz : Nat) (ob ad : Nat → Nat) (cA : Nat → ClassId) (hd : dX ob ad) (fv : Nat → Int32) (wd : xT) (ar : Nat → Nat → Int32) (hF_fv : rX fv) (hA_ar : rB ar) (ak av ln : Nat) (bt : Nat → Int32) (at_ : Int32) (h_at_ : 0 ≤ at_.toInt ∧ at_.toInt ≤ 299) (hbt : ∀ i, i < ln → 0 ≤ (bt i).toInt ∧ (bt i).toInt ≤ 127) : Met l yX3_matches (.code yX3_matches cX3_matches 4 (some .boolean) :: lw_good) ({ frames := 6, cells := 0, slots := 0, locals := 125 }) (va_Pc [.ref ak, .ref (ad 1), .int at_] (fun U => prX dC dI ob ad cA fv wd ar sz U ∧ stA ak av ln bt (aX ob ad sz) U)) (va_Qi (fun (r : Int32) (u : xS) => rX u.1 ∧ rB u.2.2 ∧ fM [] fv u.1 ∧ fA [] ar u.2.2 ∧ u.2.1.2 = wd.2 ∧ (0 ≤ r.toInt ∧ r.toInt ≤ 1) ∧ ((r = 0 ∧ (¬ rd_tx (fun i => (bt i).toInt) 0 ln = rd_tx (rd_b (ar 1)) at_.toInt.toNat ln)) ∨ (r = 1 ∧ (rd_tx (fun i => (bt i).toInt) 0 ln = rd_tx (rd_b (ar 1)) at_.toInt.toNat ln))) ∧ True) (enX dC dI ob ad cA) (aX ob ad sz)) 0 0 (aX ob ad sz) := by
  refine Met.ofW (cc := cX3_matches) (maxL := 4) (ret := (some .boolean)) (by decide) rfl ?_
  intro p e s m args below meth c s₁ B hml hv
  obtain ⟨rfl, ⟨hsz, hP, hK⟩, hT⟩ := hv
  have hx := B.exec
  have hb := B.bytes
  have hr := B.returns
  have hts := atoms_spec (ws := (.code yX3_matches cX3_matches 4 (some .boolean) :: lw_good)) B.pre
  have htg : ∀ w ∈ lw_good, w.before _ s = true := fun w hw => hts w (List.mem_cons_of_mem _ hw)
  have hown : s.vm.findClass RX3 = some m.cls := findClass_of_methodNamed B.named
  have hlocks := B.notSynchronized
  subst hsz
  have hS : va_S (aX ob ad s.heap.size) s.heap s.heap [] := va_S.rf
  have hl := lv_entry ([.ref ak, .ref (ad 1), .int at_]) (n := 4) (Nat.le_of_ble_eq_true rfl)
  rw [lg_entry_eq]
  generalize (lg_sl ([.ref ak, .ref (ad 1), .int at_]) ++ List.replicate (4 - (lg_sl ([.ref ak, .ref (ad 1), .int at_])).length) Slot.unset).toArray = ls at hl ⊢
  have hl : lv_has ls 4 [(0, .ref ak), (1, .ref (ad 1)), (2, .int at_)] := hl
  refine lv_iconst (v := 0) hx hb dX3_matches_0 (by decide) ?_
  refine lv_istore_n (lv' := [(3, .int 0), (0, .ref ak), (1, .ref (ad 1)), (2, .int at_)]) hx hb dX3_matches_1 rfl hl (by decide) rfl (fun ls hl => ?_)
  refine my_cut (P := fun R9 a9 Q9 => ∀ (n_3 : Nat) (x_1 : Int32) (H : Heap) (locs : List Loc) (ls : Array Slot), 8 - x_1.toInt < (n_3 : Int) → (0 ≤ x_1.toInt ∧ x_1.toInt ≤ 8) → (∀ j : Nat, (j : Int) < x_1.toInt → (bt j).toInt = rd_b (ar 1) (at_.toInt.toNat + j)) → va_P (dC, dI) vwCl (wsX ob ad cA fv wd ar) H → va_S (aX ob ad s.heap.size) s.heap H locs → lv_has ls 4 [(0, .ref ak), (1, .ref (ad 1)), (2, .int at_), (3, .int x_1)] → W p l e R9 s m a9 below meth c H locs 0 0 Q9 (F0 m 2 ls [])) ?_ (fun hj_5 => ?_)
  · intro n_3
    induction n_3 with
    | zero => intro x_1 H locs ls fu_4 i_x_1 q_2; exfalso; omega
    | succ n_3 ih_3 =>
      intro x_1 H locs ls fu_4 i_x_1 q_2 hP hS hl
      refine lv_iload_n hx hb dX3_matches_2 rfl (lv_at hl 3 rfl) ?_
      refine lv_aload_n hx hb dX3_matches_3 rfl (lv_at hl 0 rfl) ?_
      refine va_calli (va_runV (As := []) (rest := [.int x_1]) ⟨hx, hb, hml, hown, hts⟩ (x_slen l H.size ak av ln bt) (cwV 0 hts (gV kw_4_42 kw_4_43 kw_4_44 kw_1_19 kw_4_45) rfl rfl rfl (by decide +kernel) ⟨Nat.le_of_ble_eq_true rfl, Nat.le_of_ble_eq_true rfl⟩) ⟨fun a U g mk q => ⟨q.1, q.2.1, st_mv (U := U.calling g mk a) rfl (Vm.Alike.refl U.vm) q.2.2⟩, st_recv hT hS, fun U hU hW => ⟨rfl, congrArg Array.size hU, st_pass hT hS hU hW.alike (nX_up hS)⟩⟩ rfl rfl hl.1 rfl (lv_room (Nat.le_of_ble_eq_true rfl)) dX3_matches_4 ⟨Nat.le_of_ble_eq_true rfl, Nat.le_of_ble_eq_true rfl⟩) hS (fun q _ h9 => nX_up hS q h9) (nX_up hS) (fun r_6 u t H1 locs ht _ hw hB _ hk1 hS => ?_)
      obtain ⟨p_7, p_8, -⟩ := hw
      have hP := my_keepM hP hk1
      generalize H1 = H at hP hS ⊢
      refine lv_icmp_ge (tgt := 31) hx hb dX3_matches_7 (by decide) (fun c_9 => ?_) (fun c_9 => ?_)
      · skip
        have k_10 := Int32.le_iff_toInt_le.mp c_9
        refine lv_iconst (v := 1) hx hb dX3_matches_31 (by decide) ?_
        exact W.zret (v := 1) hx hb hr (by decide) (fun t ht hW => ⟨⟨1, (fv, wd, ar), rfl, ⟨hF_fv, hA_ar, (fM_rf [] _), (fA_rf [] _), rfl, (iv_w (⟨by decide, by decide⟩ : (1 : Int) ≤ (1 : Int32).toInt ∧ (1 : Int32).toInt ≤ 1) (by decide) (by decide)), (Or.inr (⟨rfl, (rd_tx_eq _ _ 0 (at_.toInt.toNat) ln (fun i hi => by rw [Nat.zero_add]; exact q_2 i (by omega)))⟩)), trivial⟩, ⟨by rw [ht]; exact hP, va_K.moved hW.alike hK⟩⟩, hS.F ht⟩) hS.2.2 dX3_matches_32
      · skip
        have i_11 : 0 ≤ x_1.toInt ∧ x_1.toInt ≤ 7 := iv_lt1 i_x_1 p_7 (Int32.not_le.mp c_9)
        have i_12 : 1 ≤ r_6.toInt ∧ r_6.toInt ≤ 8 := iv_lt2 i_x_1 p_7 (Int32.not_le.mp c_9)
        have k_13 := Int32.lt_iff_toInt_lt.mp (Int32.not_le.mp c_9)
        refine lv_aload_n hx hb dX3_matches_10 rfl (lv_at hl 0 rfl) ?_
        refine lv_iload_n hx hb dX3_matches_11 rfl (lv_at hl 3 rfl) ?_
        refine va_calli (va_runV (As := [.int x_1]) (rest := []) ⟨hx, hb, hml, hown, hts⟩ (x_charAtC l H.size ak av ln bt x_1 i_11 (by omega)) (cwV 1 hts (gV kw_4_55 kw_4_56 kw_4_57 kw_1_19 kw_4_58) rfl rfl rfl (by decide +kernel) ⟨Nat.le_of_ble_eq_true rfl, Nat.le_of_ble_eq_true rfl⟩) ⟨fun a U g mk q => ⟨q.1, q.2.1, st_mv (U := U.calling g mk a) rfl (Vm.Alike.refl U.vm) q.2.2⟩, st_recv hT hS, fun U hU hW => ⟨rfl, congrArg Array.size hU, st_pass hT hS hU hW.alike (nX_up hS)⟩⟩ rfl rfl hl.1 rfl (lv_room (Nat.le_of_ble_eq_true rfl)) dX3_matches_12 ⟨Nat.le_of_ble_eq_true rfl, Nat.le_of_ble_eq_true rfl⟩) hS (fun q _ h9 => nX_up hS q h9) (nX_up hS) (fun r_14 u t H1 locs ht _ hw hB _ hk1 hS => ?_)
        obtain ⟨p_15, p_16, -⟩ := hw
        have hP := my_keepM hP hk1
        generalize H1 = H at hP hS ⊢
        refine lv_aload_n hx hb dX3_matches_15 rfl (lv_at hl 1 rfl) ?_
        refine lv_iload_n hx hb dX3_matches_16 rfl (lv_at hl 2 rfl) ?_
        refine lv_iload_n hx hb dX3_matches_17 rfl (lv_at hl 3 rfl) ?_
        refine lv_iadd hx hb dX3_matches_18 ?_
        refine lv_topi (fun v_17 ev_17 => ?_)
        have t_18 : v_17.toInt = at_.toInt + x_1.toInt ∧ 0 ≤ v_17.toInt ∧ v_17.toInt ≤ 306 := iv_add ev_17 h_at_ i_11 (by decide) (by decide)
        refine lX_1 hx hb hK hP (iv_in t_18.2 (by decide) (by decide)) dX3_matches_19 (fun v_20 ev_20 => ?_)
        have i_21 : 0 ≤ v_20.toInt ∧ v_20.toInt ≤ 255 := ev_20 ▸ hA_ar 1 _
        refine lv_icmp_eq (tgt := 25) hx hb dX3_matches_20 (by decide) (fun c_22 => ?_) (fun c_22 => ?_)
        · skip
          have k_23 := congrArg Int32.toInt c_22
          obtain ⟨v_24, ev_24⟩ : ∃ z : Int32, z = x_1 + 1 := ⟨_, rfl⟩
          refine lv_iinc (v := v_24) (lv' := [(3, .int v_24), (0, .ref ak), (1, .ref (ad 1)), (2, .int at_)]) hx hb dX3_matches_25 hl (k := 3) rfl (by rw [ev_24]; rfl) (by decide) rfl (fun ls hl => ?_)
          have t_25 : v_24.toInt = x_1.toInt + 1 ∧ 1 ≤ v_24.toInt ∧ v_24.toInt ≤ 8 := iv_addc ev_24 i_11 (by decide) (by decide) (by decide)
          refine lv_goto (tgt := 2) hx hb dX3_matches_28 (by decide) ?_
          exact ih_3 v_24 _ _ ls (by omega) (iv_w t_25.2 (by decide) (by decide)) (fun j hj => by by_cases h9 : (j : Int) < x_1.toInt; exact q_2 j h9; have h8 : j = x_1.toInt.toNat := (by omega); have hb8 := hbt (x_1.toInt.toNat) (by omega); have hc9 : r_14.toInt = (bt (x_1.toInt.toNat)).toInt := (by rw [p_16, rd_a255 hb8]); have hb9 : rd_b (ar 1) (at_.toInt.toNat + x_1.toInt.toNat) = v_20.toInt := (by show (ar 1 (at_.toInt.toNat + x_1.toInt.toNat)).toInt = _; rw [ev_20]; show _ = (ar 1 (v_17.toInt.toNat)).toInt; rw [show at_.toInt.toNat + x_1.toInt.toNat = v_17.toInt.toNat from (by omega)]); rw [h8, hb9, ← hc9]; omega) hP hS (lv_sub hl [1, 2, 3, 0] rfl)
        · skip
          have k_27 : ¬ r_14.toInt = v_20.toInt := fun q => c_22 (Int32.toInt_inj.mp q)
          refine lv_iconst (v := 0) hx hb dX3_matches_23 (by decide) ?_
          exact W.zret (v := 0) hx hb hr (by decide) (fun t ht hW => ⟨⟨0, (fv, wd, ar), rfl, ⟨hF_fv, hA_ar, (fM_rf [] _), (fA_rf [] _), rfl, (iv_w (⟨by decide, by decide⟩ : (0 : Int) ≤ (0 : Int32).toInt ∧ (0 : Int32).toInt ≤ 0) (by decide) (by decide)), (Or.inl ⟨rfl, (fun w => by have hb8 := hbt (x_1.toInt.toNat) (by omega); have hc9 : r_14.toInt = (bt (x_1.toInt.toNat)).toInt := (by rw [p_16, rd_a255 hb8]); have hb9 : rd_b (ar 1) (at_.toInt.toNat + x_1.toInt.toNat) = v_20.toInt := (by show (ar 1 (at_.toInt.toNat + x_1.toInt.toNat)).toInt = _; rw [ev_20]; show _ = (ar 1 (v_17.toInt.toNat)).toInt; rw [show at_.toInt.toNat + x_1.toInt.toNat = v_17.toInt.toNat from (by omega)]); have h9 := rd_tx_at _ _ 0 (at_.toInt.toNat) ln w (x_1.toInt.toNat) (by omega); rw [Nat.zero_add] at h9; have h7 : (bt (x_1.toInt.toNat)).toInt = rd_b (ar 1) (at_.toInt.toNat + x_1.toInt.toNat) := h9; rw [hb9, ← hc9] at h7; omega)⟩), trivial⟩, ⟨by rw [ht]; exact hP, va_K.moved hW.alike hK⟩⟩, hS.F ht⟩) hS.2.2 dX3_matches_24
  · skip
    have z_28 : (0 : Int32).toInt = 0 := by decide
    exact hj_5 9 0 _ _ ls (by first | decide | omega) (iv_w (⟨by decide, by decide⟩ : (0 : Int) ≤ (0 : Int32).toInt ∧ (0 : Int32).toInt ≤ 0) (by decide) (by decide)) (fun j hj => absurd hj (by have h9 : (0 : Int32).toInt = 0 := (by decide); omega)) hP hS (lv_sub hl [1, 2, 3, 0] rfl)
set_option maxHeartbeats 4000000 in
set_option maxRecDepth 100000 in
theorem x_lookUpC (l : Launch) (dC : Nat → ClassId) (dI : Nat → Nat → Nat) (sz : Nat) (ob ad : Nat → Nat) (cA : Nat → ClassId) (hd : dX ob ad) (fv : Nat → Int32) (wd : xT) (ar : Nat → Nat → Int32) (hF_fv : rX fv) (hA_ar : rB ar) (tkK tkV tkL : Nat → Nat) (tkB : Nat → Nat → Int32) (tkT : Nat) (tA : Nat → Nat) (hto : tO tA wd.2.1) (at_ : Int32) (lm : Int32) (h_at_ : 0 ≤ at_.toInt ∧ at_.toInt ≤ 299) (h_lm : 1 ≤ lm.toInt ∧ lm.toInt ≤ 8) (hhx : rd_hx tkL tkB) : Met l yX3_lookUp (.code yX3_lookUp cX3_lookUp 7 (some (.object "WalkingTown$Token")) :: lw_good) ({ frames := 7, cells := 0, slots := 0, locals := 148 }) (va_Pc [.ref (ad 1), .int at_, .int lm] (fun U => prX dC dI ob ad cA fv wd ar sz U ∧ tkA ob ad tA sz U ∧ txA ob ad tA tkK tkV tkL tkB tkT sz U)) (va_Qr (fun (u : xS) => rX u.1 ∧ rB u.2.2 ∧ fM [] fv u.1 ∧ fA [] ar u.2.2 ∧ u.2.1.2 = wd.2 ∧ True) (fun (u : xS) (ra : Nat) (t : State) => enX dC dI ob ad cA u t ∧ ∃ j : Nat, j < 32 ∧ ra = tA j ∧ j = rd_lk (rd_tx (rd_b (ar 1)) at_.toInt.toNat lm.toInt.toNat)) (aX ob ad sz)) 0 0 (aX ob ad sz) := by
  refine Met.ofW (cc := cX3_lookUp) (maxL := 7) (ret := (some (.object "WalkingTown$Token"))) (by decide) rfl ?_
  intro p e s m args below meth c s₁ B hml hv
  obtain ⟨rfl, ⟨hsz, hP, hK⟩, hE, hX⟩ := hv
  have hx := B.exec
  have hb := B.bytes
  have hr := B.returns
  have hts := atoms_spec (ws := (.code yX3_lookUp cX3_lookUp 7 (some (.object "WalkingTown$Token")) :: lw_good)) B.pre
  have htg : ∀ w ∈ lw_good, w.before _ s = true := fun w hw => hts w (List.mem_cons_of_mem _ hw)
  have hown : s.vm.findClass RX3 = some m.cls := findClass_of_methodNamed B.named
  have hlocks := B.notSynchronized
  subst hsz
  have hS : va_S (aX ob ad s.heap.size) s.heap s.heap [] := va_S.rf
  have hl := lv_entry ([.ref (ad 1), .int at_, .int lm]) (n := 7) (Nat.le_of_ble_eq_true rfl)
  rw [lg_entry_eq]
  generalize (lg_sl ([.ref (ad 1), .int at_, .int lm]) ++ List.replicate (7 - (lg_sl ([.ref (ad 1), .int at_, .int lm])).length) Slot.unset).toArray = ls at hl ⊢
  have hl : lv_has ls 7 [(0, .ref (ad 1)), (1, .int at_), (2, .int lm)] := hl
  refine va_gets hx hb hX.1 hS hown (htg (.fieldLink RX3 135 "WalkingTown$Reader" "TOKENS" "[LWalkingTown$Token;") kw_4_40) (fun _ h9 => h9) dX3_lookUp_0 ?_
  refine lv_astore_n (lv' := [(3, .ref tkT), (0, .ref (ad 1)), (1, .int at_), (2, .int lm)]) hx hb dX3_lookUp_3 rfl hl (by decide) rfl (fun ls hl => ?_)
  refine lv_aload_n hx hb dX3_lookUp_4 rfl (lv_at hl 0 rfl) ?_
  refine va_tlen hx hb hX.2.1 hS (v := 32) rfl dX3_lookUp_5 ?_
  refine lv_istore (lv' := [(4, .int 32), (3, .ref tkT), (0, .ref (ad 1)), (1, .int at_), (2, .int lm)]) hx hb dX3_lookUp_6 hl (by decide) rfl (fun ls hl => ?_)
  refine lv_iconst (v := 0) hx hb dX3_lookUp_8 (by decide) ?_
  refine lv_istore (lv' := [(5, .int 0), (4, .int 32), (3, .ref tkT), (0, .ref (ad 1)), (1, .int at_), (2, .int lm)]) hx hb dX3_lookUp_9 hl (by decide) rfl (fun ls hl => ?_)
  refine my_cut (P := fun R9 a9 Q9 => ∀ (n_9 : Nat) (x_1 : Int32) (fv_2 : Nat → Int32) (ar_4 : Nat → Nat → Int32) (wd_6 : xT) (H : Heap) (locs : List Loc) (ls : Array Slot), 32 - x_1.toInt < (n_9 : Int) → (0 ≤ x_1.toInt ∧ x_1.toInt ≤ 32) → rX fv_2 → fM [] fv fv_2 → rB ar_4 → fA [] ar ar_4 → wd_6.2 = wd.2 → (rd_lk (rd_tx (rd_b (ar 1)) at_.toInt.toNat lm.toInt.toNat) = rd_ix (rd_tx (rd_b (ar 1)) at_.toInt.toNat lm.toInt.toNat) (rd_tb.drop (x_1.toInt.toNat)) (x_1.toInt.toNat)) → va_P (dC, dI) vwCl (wsX ob ad cA fv_2 wd_6 ar_4) H → va_S (aX ob ad s.heap.size) s.heap H locs → lv_has ls 7 [(0, .ref (ad 1)), (1, .int at_), (2, .int lm), (3, .ref tkT), (4, .int 32), (5, .int x_1)] → W p l e R9 s m a9 below meth c H locs 0 0 Q9 (F0 m 11 ls [])) ?_ (fun hj_11 => ?_)
  · intro n_9
    induction n_9 with
    | zero => intro x_1 fv_2 ar_4 wd_6 H locs ls fu_10 i_x_1 hF_fv_2 fr_3 hA_ar_4 fa_5 wf_7 q_8; exfalso; omega
    | succ n_9 ih_9 =>
      intro x_1 fv_2 ar_4 wd_6 H locs ls fu_10 i_x_1 hF_fv_2 fr_3 hA_ar_4 fa_5 wf_7 q_8 hP hS hl
      refine lv_iload hx hb dX3_lookUp_11 (lv_at hl 5 rfl) ?_
      refine lv_iload hx hb dX3_lookUp_13 (lv_at hl 4 rfl) ?_
      refine lv_icmp_ge (tgt := 58) hx hb dX3_lookUp_15 (by decide) (fun c_12 => ?_) (fun c_12 => ?_)
      · skip
        have i_13 : 32 ≤ x_1.toInt ∧ x_1.toInt ≤ 32 := iv_le2 (⟨by decide, by decide⟩ : (32 : Int) ≤ (32 : Int32).toInt ∧ (32 : Int32).toInt ≤ 32) i_x_1 c_12
        refine va_gets hx hb (hE.1 31 (by decide)).1 hS hown (htg (.fieldLink RX3 119 "WalkingTown$Token" "WRONG" "LWalkingTown$Token;") kw_4_35) (fun _ h9 => h9) dX3_lookUp_58 ?_
        exact W.aret (v := .ref (tA 31)) hx hb hr (Or.inl ⟨_, rfl⟩) (Or.inr ⟨_, rfl⟩) (fun t ht hW => ⟨⟨(fv_2, wd_6, ar_4), tA 31, rfl, ⟨hF_fv_2, hA_ar_4, (fM_call (fM_rf [] _) fr_3 (by decide)), (fA_call (fA_rf [] _) fa_5 (by decide)), wf_7, trivial⟩, ⟨⟨by rw [ht]; exact hP, va_K.moved hW.alike hK⟩, ⟨31, by decide, rfl, by rw [q_8, show x_1.toInt.toNat = 32 from (by omega), rd_ix_end]⟩⟩⟩, hS.F ht⟩) hS.2.2 dX3_lookUp_61
      · skip
        have i_14 : 0 ≤ x_1.toInt ∧ x_1.toInt ≤ 31 := iv_lt1 i_x_1 (⟨by decide, by decide⟩ : (32 : Int) ≤ (32 : Int32).toInt ∧ (32 : Int32).toInt ≤ 32) (Int32.not_le.mp c_12)
        refine lv_aload_n hx hb dX3_lookUp_18 rfl (lv_at hl 3 rfl) ?_
        refine lv_iload hx hb dX3_lookUp_19 (lv_at hl 5 rfl) ?_
        obtain ⟨j_15, ej_15⟩ : ∃ z : Nat, z = x_1.toInt.toNat := ⟨_, rfl⟩
        have lj_15 : j_15 < 32 := by have h9 := i_14; omega
        refine vb_tq hx hb hX.2.1 hS (iv_in i_14 (by decide) (by decide)) (v := .ref (tA j_15)) (by rw [ej_15]; rfl) dX3_lookUp_21 ?_
        refine lv_astore (lv' := [(6, .ref (tA j_15)), (0, .ref (ad 1)), (1, .int at_), (2, .int lm), (3, .ref tkT), (4, .int 32), (5, .int x_1)]) hx hb dX3_lookUp_22 hl (by decide) rfl (fun ls hl => ?_)
        refine lv_aload hx hb dX3_lookUp_24 (lv_at hl 0 rfl) ?_
        refine vk_getf hx hb (hX.2.2 j_15 lj_15).1 hS hown (htg (.fieldLink RX3 138 "WalkingTown$Token" "text" "Ljava/lang/String;") kw_9_63) (fun _ h9 => h9) dX3_lookUp_26 ?_
        refine va_calli (va_runV (As := []) (rest := []) ⟨hx, hb, hml, hown, hts⟩ (x_slen l H.size (tkK j_15) (tkV j_15) (tkL j_15) (tkB j_15)) (cwV 0 hts (gV kw_4_42 kw_4_43 kw_4_44 kw_1_19 kw_4_45) rfl rfl rfl (by decide +kernel) ⟨Nat.le_of_ble_eq_true rfl, Nat.le_of_ble_eq_true rfl⟩) ⟨fun a U g mk q => ⟨q.1, q.2.1, st_mv (U := U.calling g mk a) rfl (Vm.Alike.refl U.vm) q.2.2⟩, st_recv (hX.2.2 j_15 lj_15).2 hS, fun U hU hW => ⟨rfl, congrArg Array.size hU, st_pass (hX.2.2 j_15 lj_15).2 hS hU hW.alike (nX_up hS)⟩⟩ rfl rfl hl.1 rfl (lv_room (Nat.le_of_ble_eq_true rfl)) dX3_lookUp_29 ⟨Nat.le_of_ble_eq_true rfl, Nat.le_of_ble_eq_true rfl⟩) hS (fun q _ h9 => nX_up hS q h9) (nX_up hS) (fun r_16 u t H1 locs ht _ hw hB _ hk1 hS => ?_)
        obtain ⟨p_17, p_18, -⟩ := hw
        have hP := my_keepM hP hk1
        generalize H1 = H at hP hS ⊢
        refine lv_iload_n hx hb dX3_lookUp_32 rfl (lv_at hl 3 rfl) ?_
        refine lv_icmp_ne (tgt := 52) hx hb dX3_lookUp_33 (by decide) (fun c_19 => ?_) (fun c_19 => ?_)
        · skip
          have k_20 : ¬ r_16.toInt = lm.toInt := fun q => c_19 (Int32.toInt_inj.mp q)
          obtain ⟨v_21, ev_21⟩ : ∃ z : Int32, z = x_1 + 1 := ⟨_, rfl⟩
          refine lv_iinc (v := v_21) (lv' := [(5, .int v_21), (6, .ref (tA j_15)), (0, .ref (ad 1)), (1, .int at_), (2, .int lm), (3, .ref tkT), (4, .int 32)]) hx hb dX3_lookUp_52 hl (k := 6) rfl (by rw [ev_21]; rfl) (by decide) rfl (fun ls hl => ?_)
          have t_22 : v_21.toInt = x_1.toInt + 1 ∧ 1 ≤ v_21.toInt ∧ v_21.toInt ≤ 32 := iv_addc ev_21 i_14 (by decide) (by decide) (by decide)
          refine lv_goto (tgt := 11) hx hb dX3_lookUp_55 (by decide) ?_
          exact ih_9 v_21 fv_2 ar_4 wd_6 _ _ ls (by omega) (iv_w t_22.2 (by decide) (by decide)) hF_fv_2 (fM_call (fM_rf [] _) fr_3 (by decide)) hA_ar_4 (fA_call (fA_rf [] _) fa_5 (by decide)) wf_7 (q_8.trans (by rw [show x_1.toInt.toNat = j_15 from (by omega), rd_ix_nx (rd_tl_no hhx lj_15 (by omega)), show v_21.toInt.toNat = j_15 + 1 from (by omega)])) hP hS (lv_sub hl [2, 3, 4, 5, 6, 0] rfl)
        · skip
          have i_24 : 1 ≤ r_16.toInt ∧ r_16.toInt ≤ 8 := iv_eq1 h_lm c_19
          have k_25 := congrArg Int32.toInt c_19
          refine lv_aload hx hb dX3_lookUp_36 (lv_at hl 0 rfl) ?_
          refine vk_getf hx hb (hX.2.2 j_15 lj_15).1 hS hown (htg (.fieldLink RX3 138 "WalkingTown$Token" "text" "Ljava/lang/String;") kw_9_63) (fun _ h9 => h9) dX3_lookUp_38 ?_
          refine lv_aload_n hx hb dX3_lookUp_41 rfl (lv_at hl 1 rfl) ?_
          refine lv_iload_n hx hb dX3_lookUp_42 rfl (lv_at hl 2 rfl) ?_
          refine va_calli (va_runS (As := [.ref (tkK j_15), .ref (ad 1), .int at_]) (rest := []) ⟨hx, hb, hml, hown, hts⟩ (x_matchesC l dC dI H.size ob ad cA hd fv_2 wd_6 ar_4 hF_fv_2 hA_ar_4 (tkK j_15) (tkV j_15) (tkL j_15) (tkB j_15) at_ h_at_ (fun i hi => (hhx j_15 lj_15).2 i hi)) (va_cwS 3 hts (gS kw_4_52 kw_4_53 kw_1_11 kw_4_54) rfl rfl rfl (by decide +kernel) ⟨Nat.le_of_ble_eq_true rfl, Nat.le_of_ble_eq_true rfl⟩) ⟨fun a U g mk q => ⟨q.1, ⟨q.2.1.1, q.2.1.2.1, va_K.moved (u := U) (U := U.calling g mk a) (Vm.Alike.refl U.vm) q.2.1.2.2⟩, st_mv (U := U.calling g mk a) rfl (Vm.Alike.refl U.vm) q.2.2⟩, fun U hU hW => ⟨rfl, ⟨by rw [hU], by rw [hU]; exact hP, va_K.moved hW.alike hK⟩, st_pass (hX.2.2 j_15 lj_15).2 hS hU hW.alike (aX_up hS)⟩⟩ rfl rfl hl.1 rfl (lv_room (Nat.le_of_ble_eq_true rfl)) dX3_lookUp_43 ⟨Nat.le_of_ble_eq_true rfl, Nat.le_of_ble_eq_true rfl⟩) hS (fun q _ h9 => aX_up hS q h9) (aX_up hS) (fun r_26 u t H1 locs ht _ hw hB _ hk1 hS => ?_)
          obtain ⟨fv_29, wd_30, ar_31⟩ := u
          obtain ⟨hF_fv_29, hA_ar_31, fr_32, fa_33, wf_34, p_27, p_28, -⟩ := hw
          have wf_34 : wd_30.2 = wd_6.2 := wf_34
          have hP : va_P (dC, dI) vwCl (wsX ob ad cA fv_29 wd_30 ar_31) H1 := by have h9 := hB.1; rw [ht] at h9; exact h9
          have fr_32 : fM [] fv_2 fv_29 := fr_32
          have fa_33 : fA [] ar_4 ar_31 := fa_33
          generalize H1 = H at hP hS ⊢
          rcases p_28 with ⟨rfl, p_28⟩ | ⟨rfl, p_28⟩
          · skip
            have q_35 : ¬ rd_tx (fun i => ((tkB j_15) i).toInt) 0 (tkL j_15) = rd_tx (rd_b (ar_4 1)) at_.toInt.toNat (tkL j_15) := p_28
            refine lv_if_eq (tgt := 52) hx hb dX3_lookUp_46 (by decide) (fun c_36 => ?_) (fun c_36 => ?_)
            · skip
              obtain ⟨v_37, ev_37⟩ : ∃ z : Int32, z = x_1 + 1 := ⟨_, rfl⟩
              refine lv_iinc (v := v_37) (lv' := [(5, .int v_37), (6, .ref (tA j_15)), (0, .ref (ad 1)), (1, .int at_), (2, .int lm), (3, .ref tkT), (4, .int 32)]) hx hb dX3_lookUp_52 hl (k := 6) rfl (by rw [ev_37]; rfl) (by decide) rfl (fun ls hl => ?_)
              have t_38 : v_37.toInt = x_1.toInt + 1 ∧ 1 ≤ v_37.toInt ∧ v_37.toInt ≤ 32 := iv_addc ev_37 i_14 (by decide) (by decide) (by decide)
              refine lv_goto (tgt := 11) hx hb dX3_lookUp_55 (by decide) ?_
              exact ih_9 v_37 fv_29 ar_31 wd_30 _ _ ls (by omega) (iv_w t_38.2 (by decide) (by decide)) hF_fv_29 (fM_call (fM_call (fM_rf [] _) fr_3 (by decide)) fr_32 (by decide)) hA_ar_31 (fA_call (fA_call (fA_rf [] _) fa_5 (by decide)) fa_33 (by decide)) (wf_34.trans wf_7) (q_8.trans (by rw [show x_1.toInt.toNat = j_15 from (by omega), rd_ix_nx (fun w => q_35 (by have h9 := (hhx j_15 lj_15).1; rw [w] at h9; rw [show tkL j_15 = lm.toInt.toNat from (by omega)] at h9 ⊢; rw [show ar_4 1 = ar 1 from ((fA_call (fA_rf [] _) fa_5 (by decide)) 1 rfl)]; exact h9)), show v_37.toInt.toNat = j_15 + 1 from (by omega)])) hP hS (lv_sub hl [2, 3, 4, 5, 6, 0] rfl)
            · skip
              exact absurd c_36 (by decide)
          · skip
            have q_40 : rd_tx (fun i => ((tkB j_15) i).toInt) 0 (tkL j_15) = rd_tx (rd_b (ar_4 1)) at_.toInt.toNat (tkL j_15) := p_28
            refine lv_if_eq (tgt := 52) hx hb dX3_lookUp_46 (by decide) (fun c_41 => ?_) (fun c_41 => ?_)
            · skip
              exact absurd c_41 (by decide)
            · skip
              refine lv_aload hx hb dX3_lookUp_49 (lv_at hl 0 rfl) ?_
              exact W.aret (v := .ref (tA j_15)) hx hb hr (Or.inl ⟨_, rfl⟩) (Or.inr ⟨_, rfl⟩) (fun t ht hW => ⟨⟨(fv_29, wd_30, ar_31), tA j_15, rfl, ⟨hF_fv_29, hA_ar_31, (fM_call (fM_call (fM_rf [] _) fr_3 (by decide)) fr_32 (by decide)), (fA_call (fA_call (fA_rf [] _) fa_5 (by decide)) fa_33 (by decide)), (wf_34.trans wf_7), trivial⟩, ⟨⟨by rw [ht]; exact hP, va_K.moved hW.alike hK⟩, ⟨j_15, lj_15, rfl, by have h8 := (hhx j_15 lj_15).1; have h7 : rd_tb.getD j_15 [] = (rd_tx (rd_b (ar 1)) at_.toInt.toNat lm.toInt.toNat) := (by rw [← h8]; have h9 := q_40; rw [show ar_4 1 = ar 1 from ((fA_call (fA_rf [] _) fa_5 (by decide)) 1 rfl)] at h9; rw [show tkL j_15 = lm.toInt.toNat from (by omega)] at h9 ⊢; exact h9); rw [q_8, show x_1.toInt.toNat = j_15 from (by omega), rd_ix_hit (rd_tl_29 hhx lj_15 (by omega)) h7]⟩⟩⟩, hS.F ht⟩) hS.2.2 dX3_lookUp_51
  · skip
    have z_42 : (0 : Int32).toInt = 0 := by decide
    exact hj_11 33 0 fv ar wd _ _ ls (by first | decide | omega) (iv_w (⟨by decide, by decide⟩ : (0 : Int) ≤ (0 : Int32).toInt ∧ (0 : Int32).toInt ≤ 0) (by decide) (by decide)) hF_fv (fM_rf [] _) hA_ar (fA_rf [] _) rfl (by rw [show (0 : Int32).toInt.toNat = 0 from (by decide)]; rfl) hP hS (lv_sub hl [3, 4, 5, 2, 1, 0] rfl)
set_option maxHeartbeats 4000000 in
set_option maxRecDepth 100000 in
theorem x_classifyC (l : Launch) (dC : Nat → ClassId) (dI : Nat → Nat → Nat) (sz : Nat) (ob ad : Nat → Nat) (cA : Nat → ClassId) (hd : dX ob ad) (fv : Nat → Int32) (wd : xT) (ar : Nat → Nat → Int32) (hF_fv : rX fv) (hA_ar : rB ar) (tkK tkV tkL : Nat → Nat) (tkB : Nat → Nat → Int32) (tkT : Nat) (tA : Nat → Nat) (hto : tO tA wd.2.1) (at_ : Int32) (bh : Int32) (h_at_ : 0 ≤ at_.toInt ∧ at_.toInt ≤ 299) (h_bh : 0 ≤ bh.toInt ∧ bh.toInt ≤ 340) (hhx : rd_hx tkL tkB) (hab : at_.toInt < bh.toInt) : Met l yX3_classify (.code yX3_classify cX3_classify 5 (some (.object "WalkingTown$Token")) :: lw_good) ({ frames := 8, cells := 0, slots := 0, locals := 174 }) (va_Pc [.ref (ad 1), .int at_, .int bh] (fun U => prX dC dI ob ad cA fv wd ar sz U ∧ tkA ob ad tA sz U ∧ txA ob ad tA tkK tkV tkL tkB tkT sz U)) (va_Qr (fun (u : xS) => rX u.1 ∧ rB u.2.2 ∧ fM [] fv u.1 ∧ fA [] ar u.2.2 ∧ u.2.1.2 = wd.2 ∧ True) (fun (u : xS) (ra : Nat) (t : State) => enX dC dI ob ad cA u t ∧ ∃ j : Nat, j < 32 ∧ ra = tA j ∧ j = rd_cl (rd_b (ar 1)) at_.toInt.toNat (bh.toInt.toNat - at_.toInt.toNat)) (aX ob ad sz)) 0 0 (aX ob ad sz) := by
  refine Met.ofW (cc := cX3_classify) (maxL := 5) (ret := (some (.object "WalkingTown$Token"))) (by decide) rfl ?_
  intro p e s m args below meth c s₁ B hml hv
  obtain ⟨rfl, ⟨hsz, hP, hK⟩, hE, hX⟩ := hv
  have hx := B.exec
  have hb := B.bytes
  have hr := B.returns
  have hts := atoms_spec (ws := (.code yX3_classify cX3_classify 5 (some (.object "WalkingTown$Token")) :: lw_good)) B.pre
  have htg : ∀ w ∈ lw_good, w.before _ s = true := fun w hw => hts w (List.mem_cons_of_mem _ hw)
  have hown : s.vm.findClass RX3 = some m.cls := findClass_of_methodNamed B.named
  have hlocks := B.notSynchronized
  subst hsz
  have hS : va_S (aX ob ad s.heap.size) s.heap s.heap [] := va_S.rf
  have hl := lv_entry ([.ref (ad 1), .int at_, .int bh]) (n := 5) (Nat.le_of_ble_eq_true rfl)
  rw [lg_entry_eq]
  generalize (lg_sl ([.ref (ad 1), .int at_, .int bh]) ++ List.replicate (5 - (lg_sl ([.ref (ad 1), .int at_, .int bh])).length) Slot.unset).toArray = ls at hl ⊢
  have hl : lv_has ls 5 [(0, .ref (ad 1)), (1, .int at_), (2, .int bh)] := hl
  refine lv_iconst (v := 0) hx hb dX3_classify_0 (by decide) ?_
  refine lv_istore_n (lv' := [(3, .int 0), (0, .ref (ad 1)), (1, .int at_), (2, .int bh)]) hx hb dX3_classify_1 rfl hl (by decide) rfl (fun ls hl => ?_)
  refine lv_iload_n hx hb dX3_classify_2 rfl (lv_at hl 2 rfl) ?_
  refine lv_istore (lv' := [(4, .int at_), (3, .int 0), (0, .ref (ad 1)), (1, .int at_), (2, .int bh)]) hx hb dX3_classify_3 hl (by decide) rfl (fun ls hl => ?_)
  refine my_cut (P := fun R9 a9 Q9 => ∀ (n_5 : Nat) (x_1 : Int32) (x_2 : Int32) (H : Heap) (locs : List Loc) (ls : Array Slot), 340 - x_2.toInt < (n_5 : Int) → (0 ≤ x_1.toInt ∧ x_1.toInt ≤ 340) → (0 ≤ x_2.toInt ∧ x_2.toInt ≤ 340) → (x_1.toInt = (rd_c (rd_b (ar 1)) at_.toInt.toNat (x_2.toInt.toNat - at_.toInt.toNat) : Nat)) → (at_.toInt ≤ x_2.toInt ∧ x_2.toInt ≤ bh.toInt) → va_P (dC, dI) vwCl (wsX ob ad cA fv wd ar) H → va_S (aX ob ad s.heap.size) s.heap H locs → lv_has ls 5 [(0, .ref (ad 1)), (1, .int at_), (2, .int bh), (3, .int x_1), (4, .int x_2)] → W p l e R9 s m a9 below meth c H locs 0 0 Q9 (F0 m 5 ls [])) ?_ (fun hj_7 => ?_)
  · intro n_5
    induction n_5 with
    | zero => intro x_1 x_2 H locs ls fu_6 i_x_1 i_x_2 q_3 q_4; exfalso; omega
    | succ n_5 ih_5 =>
      intro x_1 x_2 H locs ls fu_6 i_x_1 i_x_2 q_3 q_4 hP hS hl
      refine lv_iload hx hb dX3_classify_5 (lv_at hl 4 rfl) ?_
      refine lv_iload_n hx hb dX3_classify_7 rfl (lv_at hl 2 rfl) ?_
      refine lv_icmp_ge (tgt := 30) hx hb dX3_classify_8 (by decide) (fun c_8 => ?_) (fun c_8 => ?_)
      · skip
        have k_9 := Int32.le_iff_toInt_le.mp c_8
        have hcd : x_1.toInt = (rd_c (rd_b (ar 1)) at_.toInt.toNat (bh.toInt.toNat - at_.toInt.toNat) : Nat) := by rw [show (bh.toInt.toNat - at_.toInt.toNat) = x_2.toInt.toNat - at_.toInt.toNat from (by omega)]; exact q_3
        refine lv_iload_n hx hb dX3_classify_30 rfl (lv_at hl 2 rfl) ?_
        refine lv_iload_n hx hb dX3_classify_31 rfl (lv_at hl 1 rfl) ?_
        refine lv_isub hx hb dX3_classify_32 ?_
        refine lv_topi (fun v_32 ev_32 => ?_)
        have t_33 : v_32.toInt = bh.toInt - at_.toInt ∧ (-299) ≤ v_32.toInt ∧ v_32.toInt ≤ 340 := iv_sub ev_32 h_bh h_at_ (by decide) (by decide)
        refine lv_istore (lv' := [(4, .int v_32), (0, .ref (ad 1)), (1, .int at_), (2, .int bh), (3, .int x_1)]) hx hb dX3_classify_33 hl (by decide) rfl (fun ls hl => ?_)
        refine lv_iload_n hx hb dX3_classify_35 rfl (lv_at hl 4 rfl) ?_
        refine lv_iload hx hb dX3_classify_36 (lv_at hl 0 rfl) ?_
        refine lv_icmp_ne (tgt := 57) hx hb dX3_classify_38 (by decide) (fun c_35 => ?_) (fun c_35 => ?_)
        · skip
          have k_36 : ¬ x_1.toInt = v_32.toInt := fun q => c_35 (Int32.toInt_inj.mp q)
          refine lv_iload_n hx hb dX3_classify_57 rfl (lv_at hl 4 rfl) ?_
          refine lv_if_gt (tgt := 68) hx hb dX3_classify_58 (by decide) (fun c_37 => ?_) (fun c_37 => ?_)
          · skip
            have i_38 : 1 ≤ x_1.toInt ∧ x_1.toInt ≤ 340 := iv_lt2 (⟨by decide, by decide⟩ : (0 : Int) ≤ (0 : Int32).toInt ∧ (0 : Int32).toInt ≤ 0) i_x_1 c_37
            refine va_gets hx hb (hE.1 31 (by decide)).1 hS hown (htg (.fieldLink RX3 119 "WalkingTown$Token" "WRONG" "LWalkingTown$Token;") kw_4_35) (fun _ h9 => h9) dX3_classify_68 ?_
            refine lv_goto (tgt := 81) hx hb dX3_classify_71 (by decide) ?_
            exact W.aret (v := .ref (tA 31)) hx hb hr (Or.inl ⟨_, rfl⟩) (Or.inr ⟨_, rfl⟩) (fun t ht hW => ⟨⟨(fv, wd, ar), tA 31, rfl, ⟨hF_fv, hA_ar, (fM_rf [] _), (fA_rf [] _), rfl, trivial⟩, ⟨⟨by rw [ht]; exact hP, va_K.moved hW.alike hK⟩, ⟨31, by decide, rfl, (show 31 = rd_cl (rd_b (ar 1)) at_.toInt.toNat (bh.toInt.toNat - at_.toInt.toNat) from by by_cases h9 : rd_c (rd_b (ar 1)) at_.toInt.toNat (bh.toInt.toNat - at_.toInt.toNat) = (bh.toInt.toNat - at_.toInt.toNat); exact (rd_cl_w h9 (by omega)).symm; exact (rd_cl_x h9 (by omega)).symm)⟩⟩⟩, hS.F ht⟩) hS.2.2 dX3_classify_81
          · skip
            have i_39 : 0 ≤ x_1.toInt ∧ x_1.toInt ≤ 0 := iv_le1 i_x_1 (⟨by decide, by decide⟩ : (0 : Int) ≤ (0 : Int32).toInt ∧ (0 : Int32).toInt ≤ 0) (Int32.not_lt.mp c_37)
            refine lv_iload hx hb dX3_classify_61 (lv_at hl 0 rfl) ?_
            refine lv_bipush (v := 8) hx hb dX3_classify_63 (by decide) ?_
            refine lv_icmp_le (tgt := 74) hx hb dX3_classify_65 (by decide) (fun c_40 => ?_) (fun c_40 => ?_)
            · skip
              have i_41 : (-299) ≤ v_32.toInt ∧ v_32.toInt ≤ 8 := iv_le1 t_33.2 (⟨by decide, by decide⟩ : (8 : Int) ≤ (8 : Int32).toInt ∧ (8 : Int32).toInt ≤ 8) c_40
              refine lv_aload_n hx hb dX3_classify_74 rfl (lv_at hl 1 rfl) ?_
              refine lv_iload_n hx hb dX3_classify_75 rfl (lv_at hl 2 rfl) ?_
              refine lv_iload hx hb dX3_classify_76 (lv_at hl 0 rfl) ?_
              refine va_callr (va_runS (As := [.ref (ad 1), .int at_, .int v_32]) (rest := []) ⟨hx, hb, hml, hown, hts⟩ (x_lookUpC l dC dI H.size ob ad cA hd fv wd ar hF_fv hA_ar tkK tkV tkL tkB tkT tA hto at_ v_32 h_at_ (by omega) hhx) (va_cwS 3 hts (gS kw_4_37 kw_4_38 kw_1_11 kw_4_39) rfl rfl rfl (by decide +kernel) ⟨Nat.le_of_ble_eq_true rfl, Nat.le_of_ble_eq_true rfl⟩) ⟨fun a U g mk q => ⟨q.1, ⟨q.2.1.1, q.2.1.2.1, va_K.moved (u := U) (U := U.calling g mk a) (Vm.Alike.refl U.vm) q.2.1.2.2⟩, tk_mv (U := U.calling g mk a) rfl (Vm.Alike.refl U.vm) q.2.2.1, tx_mv (U := U.calling g mk a) rfl (Vm.Alike.refl U.vm) q.2.2.2⟩, fun U hU hW => ⟨rfl, ⟨by rw [hU], by rw [hU]; exact hP, va_K.moved hW.alike hK⟩, tk_pass hE hS hU hW.alike, tx_pass hX hS hU hW.alike⟩⟩ rfl rfl hl.1 rfl (lv_room (Nat.le_of_ble_eq_true rfl)) dX3_classify_78 ⟨Nat.le_of_ble_eq_true rfl, Nat.le_of_ble_eq_true rfl⟩) hS (fun q _ h9 => aX_up hS q h9) (aX_up hS) (fun u r_42 t H1 locs ht _ hw hB _ hk1 hS => ?_)
              obtain ⟨fv_43, wd_44, ar_45⟩ := u
              obtain ⟨hF_fv_43, hA_ar_45, fr_46, fa_47, wf_48, -⟩ := hw
              have wf_48 : wd_44.2 = wd.2 := wf_48
              have hP : va_P (dC, dI) vwCl (wsX ob ad cA fv_43 wd_44 ar_45) H1 := by have h9 := hB.1.1; rw [ht] at h9; exact h9
              have fr_46 : fM [] fv fv_43 := fr_46
              have fa_47 : fA [] ar ar_45 := fa_47
              generalize H1 = H at hP hS ⊢
              obtain ⟨j_49, lj_49, rj_49, zj_49⟩ := hB.2
              subst rj_49
              exact W.aret (v := .ref (tA j_49)) hx hb hr (Or.inl ⟨_, rfl⟩) (Or.inr ⟨_, rfl⟩) (fun t ht hW => ⟨⟨(fv_43, wd_44, ar_45), tA j_49, rfl, ⟨hF_fv_43, hA_ar_45, (fM_call (fM_rf [] _) fr_46 (by decide)), (fA_call (fA_rf [] _) fa_47 (by decide)), wf_48, trivial⟩, ⟨⟨by rw [ht]; exact hP, va_K.moved hW.alike hK⟩, ⟨j_49, lj_49, rfl, (show j_49 = rd_cl (rd_b (ar 1)) at_.toInt.toNat (bh.toInt.toNat - at_.toInt.toNat) from by rw [rd_cl_k (by omega) (by omega)]; have h9 := zj_49; rw [show v_32.toInt.toNat = (bh.toInt.toNat - at_.toInt.toNat) from (by omega)] at h9; exact h9)⟩⟩⟩, hS.F ht⟩) hS.2.2 dX3_classify_81
            · skip
              have i_50 : 9 ≤ v_32.toInt ∧ v_32.toInt ≤ 340 := iv_lt2 (⟨by decide, by decide⟩ : (8 : Int) ≤ (8 : Int32).toInt ∧ (8 : Int32).toInt ≤ 8) t_33.2 (Int32.not_le.mp c_40)
              refine va_gets hx hb (hE.1 31 (by decide)).1 hS hown (htg (.fieldLink RX3 119 "WalkingTown$Token" "WRONG" "LWalkingTown$Token;") kw_4_35) (fun _ h9 => h9) dX3_classify_68 ?_
              refine lv_goto (tgt := 81) hx hb dX3_classify_71 (by decide) ?_
              exact W.aret (v := .ref (tA 31)) hx hb hr (Or.inl ⟨_, rfl⟩) (Or.inr ⟨_, rfl⟩) (fun t ht hW => ⟨⟨(fv, wd, ar), tA 31, rfl, ⟨hF_fv, hA_ar, (fM_rf [] _), (fA_rf [] _), rfl, trivial⟩, ⟨⟨by rw [ht]; exact hP, va_K.moved hW.alike hK⟩, ⟨31, by decide, rfl, (show 31 = rd_cl (rd_b (ar 1)) at_.toInt.toNat (bh.toInt.toNat - at_.toInt.toNat) from by by_cases h9 : rd_c (rd_b (ar 1)) at_.toInt.toNat (bh.toInt.toNat - at_.toInt.toNat) = (bh.toInt.toNat - at_.toInt.toNat); exact (rd_cl_w h9 (by omega)).symm; exact (rd_cl_x h9 (by omega)).symm)⟩⟩⟩, hS.F ht⟩) hS.2.2 dX3_classify_81
        · skip
          have i_51 : 0 ≤ v_32.toInt ∧ v_32.toInt ≤ 340 := iv_eq1 i_x_1 c_35.symm
          have k_52 := congrArg Int32.toInt c_35
          refine lv_iload hx hb dX3_classify_41 (lv_at hl 0 rfl) ?_
          refine lv_iconst (v := 4) hx hb dX3_classify_43 (by decide) ?_
          refine lv_icmp_gt (tgt := 53) hx hb dX3_classify_44 (by decide) (fun c_53 => ?_) (fun c_53 => ?_)
          · skip
            have i_54 : 5 ≤ v_32.toInt ∧ v_32.toInt ≤ 340 := iv_lt2 (⟨by decide, by decide⟩ : (4 : Int) ≤ (4 : Int32).toInt ∧ (4 : Int32).toInt ≤ 4) i_51 c_53
            refine va_gets hx hb (hE.1 31 (by decide)).1 hS hown (htg (.fieldLink RX3 119 "WalkingTown$Token" "WRONG" "LWalkingTown$Token;") kw_4_35) (fun _ h9 => h9) dX3_classify_53 ?_
            exact W.aret (v := .ref (tA 31)) hx hb hr (Or.inl ⟨_, rfl⟩) (Or.inr ⟨_, rfl⟩) (fun t ht hW => ⟨⟨(fv, wd, ar), tA 31, rfl, ⟨hF_fv, hA_ar, (fM_rf [] _), (fA_rf [] _), rfl, trivial⟩, ⟨⟨by rw [ht]; exact hP, va_K.moved hW.alike hK⟩, ⟨31, by decide, rfl, (show 31 = rd_cl (rd_b (ar 1)) at_.toInt.toNat (bh.toInt.toNat - at_.toInt.toNat) from by by_cases h9 : rd_c (rd_b (ar 1)) at_.toInt.toNat (bh.toInt.toNat - at_.toInt.toNat) = (bh.toInt.toNat - at_.toInt.toNat); exact (rd_cl_w h9 (by omega)).symm; exact (rd_cl_x h9 (by omega)).symm)⟩⟩⟩, hS.F ht⟩) hS.2.2 dX3_classify_56
          · skip
            have i_55 : 0 ≤ v_32.toInt ∧ v_32.toInt ≤ 4 := iv_le1 i_51 (⟨by decide, by decide⟩ : (4 : Int) ≤ (4 : Int32).toInt ∧ (4 : Int32).toInt ≤ 4) (Int32.not_lt.mp c_53)
            refine va_gets hx hb (hE.1 29 (by decide)).1 hS hown (htg (.fieldLink RX3 129 "WalkingTown$Token" "NUMBER" "LWalkingTown$Token;") kw_4_33) (fun _ h9 => h9) dX3_classify_47 ?_
            refine lv_goto (tgt := 56) hx hb dX3_classify_50 (by decide) ?_
            exact W.aret (v := .ref (tA 29)) hx hb hr (Or.inl ⟨_, rfl⟩) (Or.inr ⟨_, rfl⟩) (fun t ht hW => ⟨⟨(fv, wd, ar), tA 29, rfl, ⟨hF_fv, hA_ar, (fM_rf [] _), (fA_rf [] _), rfl, trivial⟩, ⟨⟨by rw [ht]; exact hP, va_K.moved hW.alike hK⟩, ⟨29, by decide, rfl, (show 29 = rd_cl (rd_b (ar 1)) at_.toInt.toNat (bh.toInt.toNat - at_.toInt.toNat) from (rd_cl_n (by omega) (by omega)).symm)⟩⟩⟩, hS.F ht⟩) hS.2.2 dX3_classify_56
      · skip
        have i_10 : 0 ≤ x_2.toInt ∧ x_2.toInt ≤ 339 := iv_lt1 i_x_2 h_bh (Int32.not_le.mp c_8)
        have i_11 : 1 ≤ bh.toInt ∧ bh.toInt ≤ 340 := iv_lt2 i_x_2 h_bh (Int32.not_le.mp c_8)
        have k_12 := Int32.lt_iff_toInt_lt.mp (Int32.not_le.mp c_8)
        refine lv_aload_n hx hb dX3_classify_11 rfl (lv_at hl 0 rfl) ?_
        refine lv_iload hx hb dX3_classify_12 (lv_at hl 4 rfl) ?_
        refine lX_1 hx hb hK hP (iv_in i_10 (by decide) (by decide)) dX3_classify_14 (fun v_13 ev_13 => ?_)
        have i_14 : 0 ≤ v_13.toInt ∧ v_13.toInt ≤ 255 := ev_13 ▸ hA_ar 1 _
        refine va_calli (va_runS (As := [.int v_13]) (rest := []) ⟨hx, hb, hml, hown, hts⟩ (x_isDigitC l H.size v_13) (va_cwS 1 hts (gS kw_4_24 kw_4_25 kw_1_11 kw_4_26) rfl rfl rfl (by decide +kernel) ⟨Nat.le_of_ble_eq_true rfl, Nat.le_of_ble_eq_true rfl⟩) ⟨fun a U g mk q => ⟨q.1, q.2⟩, fun U hU hW => ⟨rfl, congrArg Array.size hU⟩⟩ rfl rfl hl.1 rfl (lv_room (Nat.le_of_ble_eq_true rfl)) dX3_classify_15 ⟨Nat.le_of_ble_eq_true rfl, Nat.le_of_ble_eq_true rfl⟩) hS (fun q _ h9 => nX_up hS q h9) (nX_up hS) (fun r_15 u t H1 locs ht _ hw hB _ hk1 hS => ?_)
        obtain ⟨p_16, p_17, -⟩ := hw
        have hP := my_keepM hP hk1
        generalize H1 = H at hP hS ⊢
        rcases p_17 with ⟨rfl, p_17⟩ | ⟨rfl, p_17⟩
        · skip
          refine lv_if_eq (tgt := 24) hx hb dX3_classify_18 (by decide) (fun c_18 => ?_) (fun c_18 => ?_)
          · skip
            obtain ⟨v_19, ev_19⟩ : ∃ z : Int32, z = x_2 + 1 := ⟨_, rfl⟩
            refine lv_iinc (v := v_19) (lv' := [(4, .int v_19), (0, .ref (ad 1)), (1, .int at_), (2, .int bh), (3, .int x_1)]) hx hb dX3_classify_24 hl (k := 4) rfl (by rw [ev_19]; rfl) (by decide) rfl (fun ls hl => ?_)
            have t_20 : v_19.toInt = x_2.toInt + 1 ∧ 1 ≤ v_19.toInt ∧ v_19.toInt ≤ 340 := iv_addc ev_19 i_10 (by decide) (by decide) (by decide)
            refine lv_goto (tgt := 5) hx hb dX3_classify_27 (by decide) ?_
            exact ih_5 x_1 v_19 _ _ ls (by omega) i_x_1 (iv_w t_20.2 (by decide) (by decide)) (by have h9 := rd_c_n (rd_dF (i := at_.toInt.toNat + (x_2.toInt.toNat - at_.toInt.toNat)) (show v_13 = ar 1 (at_.toInt.toNat + (x_2.toInt.toNat - at_.toInt.toNat)) from ev_13.trans (congrArg (ar 1) (show x_2.toInt.toNat = at_.toInt.toNat + (x_2.toInt.toNat - at_.toInt.toNat) from (by omega)))) (by omega)); rw [show v_19.toInt.toNat - at_.toInt.toNat = (x_2.toInt.toNat - at_.toInt.toNat) + 1 from (by omega), h9]; omega) (by omega) hP hS (lv_sub hl [1, 2, 3, 4, 0] rfl)
          · skip
            exact absurd c_18 (by decide)
        · skip
          have i_22 : 48 ≤ v_13.toInt ∧ v_13.toInt ≤ 255 := ⟨p_17.1, i_14.2⟩
          have i_23 : 48 ≤ v_13.toInt ∧ v_13.toInt ≤ 57 := ⟨i_22.1, p_17.2⟩
          refine lv_if_eq (tgt := 24) hx hb dX3_classify_18 (by decide) (fun c_24 => ?_) (fun c_24 => ?_)
          · skip
            exact absurd c_24 (by decide)
          · skip
            have i_25 : 0 ≤ x_1.toInt ∧ x_1.toInt ≤ 339 := (by have h9 := rd_c_le (rd_b (ar 1)) at_.toInt.toNat (x_2.toInt.toNat - at_.toInt.toNat); omega)
            obtain ⟨v_26, ev_26⟩ : ∃ z : Int32, z = x_1 + 1 := ⟨_, rfl⟩
            refine lv_iinc (v := v_26) (lv' := [(3, .int v_26), (0, .ref (ad 1)), (1, .int at_), (2, .int bh), (4, .int x_2)]) hx hb dX3_classify_21 hl (k := 3) rfl (by rw [ev_26]; rfl) (by decide) rfl (fun ls hl => ?_)
            have t_27 : v_26.toInt = x_1.toInt + 1 ∧ 1 ≤ v_26.toInt ∧ v_26.toInt ≤ 340 := iv_addc ev_26 i_25 (by decide) (by decide) (by decide)
            obtain ⟨v_29, ev_29⟩ : ∃ z : Int32, z = x_2 + 1 := ⟨_, rfl⟩
            refine lv_iinc (v := v_29) (lv' := [(4, .int v_29), (3, .int v_26), (0, .ref (ad 1)), (1, .int at_), (2, .int bh)]) hx hb dX3_classify_24 hl (k := 4) rfl (by rw [ev_29]; rfl) (by decide) rfl (fun ls hl => ?_)
            have t_30 : v_29.toInt = x_2.toInt + 1 ∧ 1 ≤ v_29.toInt ∧ v_29.toInt ≤ 340 := iv_addc ev_29 i_10 (by decide) (by decide) (by decide)
            refine lv_goto (tgt := 5) hx hb dX3_classify_27 (by decide) ?_
            exact ih_5 v_26 v_29 _ _ ls (by omega) (iv_w t_27.2 (by decide) (by decide)) (iv_w t_30.2 (by decide) (by decide)) (by have h9 := rd_c_d (rd_dT (i := at_.toInt.toNat + (x_2.toInt.toNat - at_.toInt.toNat)) (show v_13 = ar 1 (at_.toInt.toNat + (x_2.toInt.toNat - at_.toInt.toNat)) from ev_13.trans (congrArg (ar 1) (show x_2.toInt.toNat = at_.toInt.toNat + (x_2.toInt.toNat - at_.toInt.toNat) from (by omega)))) (by omega) (by omega)); rw [show v_29.toInt.toNat - at_.toInt.toNat = (x_2.toInt.toNat - at_.toInt.toNat) + 1 from (by omega), h9]; omega) (by omega) hP hS (lv_sub hl [2, 3, 4, 1, 0] rfl)
  · skip
    have z_56 : (0 : Int32).toInt = 0 := by decide
    exact hj_7 341 0 at_ _ _ ls (by first | decide | omega) (iv_w (⟨by decide, by decide⟩ : (0 : Int) ≤ (0 : Int32).toInt ∧ (0 : Int32).toInt ≤ 0) (by decide) (by decide)) (iv_w h_at_ (by decide) (by decide)) (by rw [Nat.sub_self]; show (0 : Int32).toInt = ((0 : Nat) : Int); decide) (by omega) hP hS (lv_sub hl [2, 3, 4, 1, 0] rfl)

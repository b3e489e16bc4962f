set_option maxHeartbeats 4000000 in
set_option maxRecDepth 100000 in
theorem x_isLetterC (l : Launch) (sz : Nat) (v : Int32) : Met l yX3_isLetter (.code yX3_isLetter cX3_isLetter 1 (some .boolean) :: lw_good) ({ frames := 2, cells := 0, slots := 0, locals := 40 }) (va_Pc [.int v] (fun U => U.heap.size = sz)) (va_Qi (fun (r : Int32) (_ : Unit) => (0 ≤ r.toInt ∧ r.toInt ≤ 1) ∧ ((r = 0 ∧ (¬ (97 ≤ v.toInt ∧ v.toInt ≤ 122))) ∨ (r = 1 ∧ (97 ≤ v.toInt) ∧ (v.toInt ≤ 122))) ∧ True) (fun (_ : Unit) (_ : State) => True) (fun q => sz ≤ q)) 0 0 (fun q => sz ≤ q) := by
  refine Met.ofW (cc := cX3_isLetter) (maxL := 1) (ret := (some .boolean)) (by decide) rfl ?_
  intro p e s m args below meth c s₁ B hml hv
  obtain ⟨rfl, hsz⟩ := hv
  have hx := B.exec
  have hb := B.bytes
  have hr := B.returns
  have hts := atoms_spec (ws := (.code yX3_isLetter cX3_isLetter 1 (some .boolean) :: lw_good)) B.pre
  have htg : ∀ w ∈ lw_good, w.before _ s = true := fun w hw => hts w (List.mem_cons_of_mem _ hw)
  have hown : s.vm.findClass RX3 = some m.cls := findClass_of_methodNamed B.named
  have hlocks := B.notSynchronized
  subst hsz
  have hS : va_S (fun q => s.heap.size ≤ q) s.heap s.heap [] := va_S.rf
  have hl := lv_entry ([.int v]) (n := 1) (Nat.le_of_ble_eq_true rfl)
  rw [lg_entry_eq]
  generalize (lg_sl ([.int v]) ++ List.replicate (1 - (lg_sl ([.int v])).length) Slot.unset).toArray = ls at hl ⊢
  have hl : lv_has ls 1 [(0, .int v)] := hl
  refine lv_iload_n hx hb dX3_isLetter_0 rfl (lv_at hl 0 rfl) ?_
  refine lv_bipush (v := 97) hx hb dX3_isLetter_1 (by decide) ?_
  refine lv_icmp_lt (tgt := 16) hx hb dX3_isLetter_3 (by decide) (fun c_1 => ?_) (fun c_1 => ?_)
  · skip
    have i_2 : (-2147483648) ≤ v.toInt ∧ v.toInt ≤ 96 := iv_lt1 (iv_any v) (⟨by decide, by decide⟩ : (97 : Int) ≤ (97 : Int32).toInt ∧ (97 : Int32).toInt ≤ 97) c_1
    refine lv_iconst (v := 0) hx hb dX3_isLetter_16 (by decide) ?_
    exact W.zret (v := 0) hx hb hr (by decide) (fun t ht hW => ⟨⟨0, (), rfl, ⟨(iv_w (⟨by decide, by decide⟩ : (0 : Int) ≤ (0 : Int32).toInt ∧ (0 : Int32).toInt ≤ 0) (by decide) (by decide)), (Or.inl ⟨rfl, by omega⟩), trivial⟩, trivial⟩, hS.F ht⟩) hS.2.2 dX3_isLetter_17
  · skip
    have i_3 : 97 ≤ v.toInt ∧ v.toInt ≤ 2147483647 := iv_le2 (⟨by decide, by decide⟩ : (97 : Int) ≤ (97 : Int32).toInt ∧ (97 : Int32).toInt ≤ 97) (iv_any v) (Int32.not_lt.mp c_1)
    refine lv_iload_n hx hb dX3_isLetter_6 rfl (lv_at hl 0 rfl) ?_
    refine lv_bipush (v := 122) hx hb dX3_isLetter_7 (by decide) ?_
    refine lv_icmp_gt (tgt := 16) hx hb dX3_isLetter_9 (by decide) (fun c_4 => ?_) (fun c_4 => ?_)
    · skip
      have i_5 : 123 ≤ v.toInt ∧ v.toInt ≤ 2147483647 := iv_lt2 (⟨by decide, by decide⟩ : (122 : Int) ≤ (122 : Int32).toInt ∧ (122 : Int32).toInt ≤ 122) i_3 c_4
      refine lv_iconst (v := 0) hx hb dX3_isLetter_16 (by decide) ?_
      exact W.zret (v := 0) hx hb hr (by decide) (fun t ht hW => ⟨⟨0, (), rfl, ⟨(iv_w (⟨by decide, by decide⟩ : (0 : Int) ≤ (0 : Int32).toInt ∧ (0 : Int32).toInt ≤ 0) (by decide) (by decide)), (Or.inl ⟨rfl, by omega⟩), trivial⟩, trivial⟩, hS.F ht⟩) hS.2.2 dX3_isLetter_17
    · skip
      have i_6 : 97 ≤ v.toInt ∧ v.toInt ≤ 122 := iv_le1 i_3 (⟨by decide, by decide⟩ : (122 : Int) ≤ (122 : Int32).toInt ∧ (122 : Int32).toInt ≤ 122) (Int32.not_lt.mp c_4)
      refine lv_iconst (v := 1) hx hb dX3_isLetter_12 (by decide) ?_
      refine lv_goto (tgt := 17) hx hb dX3_isLetter_13 (by decide) ?_
      exact W.zret (v := 1) hx hb hr (by decide) (fun t ht hW => ⟨⟨1, (), rfl, ⟨(iv_w (⟨by decide, by decide⟩ : (1 : Int) ≤ (1 : Int32).toInt ∧ (1 : Int32).toInt ≤ 1) (by decide) (by decide)), (Or.inr (⟨rfl, by omega⟩)), trivial⟩, trivial⟩, hS.F ht⟩) hS.2.2 dX3_isLetter_17
set_option maxHeartbeats 4000000 in
set_option maxRecDepth 100000 in
theorem x_isDigitC (l : Launch) (sz : Nat) (v : Int32) : Met l yX3_isDigit (.code yX3_isDigit cX3_isDigit 1 (some .boolean) :: lw_good) ({ frames := 2, cells := 0, slots := 0, locals := 40 }) (va_Pc [.int v] (fun U => U.heap.size = sz)) (va_Qi (fun (r : Int32) (_ : Unit) => (0 ≤ r.toInt ∧ r.toInt ≤ 1) ∧ ((r = 0 ∧ (¬ (48 ≤ v.toInt ∧ v.toInt ≤ 57))) ∨ (r = 1 ∧ (48 ≤ v.toInt) ∧ (v.toInt ≤ 57))) ∧ True) (fun (_ : Unit) (_ : State) => True) (fun q => sz ≤ q)) 0 0 (fun q => sz ≤ q) := by
  refine Met.ofW (cc := cX3_isDigit) (maxL := 1) (ret := (some .boolean)) (by decide) rfl ?_
  intro p e s m args below meth c s₁ B hml hv
  obtain ⟨rfl, hsz⟩ := hv
  have hx := B.exec
  have hb := B.bytes
  have hr := B.returns
  have hts := atoms_spec (ws := (.code yX3_isDigit cX3_isDigit 1 (some .boolean) :: lw_good)) B.pre
  have htg : ∀ w ∈ lw_good, w.before _ s = true := fun w hw => hts w (List.mem_cons_of_mem _ hw)
  have hown : s.vm.findClass RX3 = some m.cls := findClass_of_methodNamed B.named
  have hlocks := B.notSynchronized
  subst hsz
  have hS : va_S (fun q => s.heap.size ≤ q) s.heap s.heap [] := va_S.rf
  have hl := lv_entry ([.int v]) (n := 1) (Nat.le_of_ble_eq_true rfl)
  rw [lg_entry_eq]
  generalize (lg_sl ([.int v]) ++ List.replicate (1 - (lg_sl ([.int v])).length) Slot.unset).toArray = ls at hl ⊢
  have hl : lv_has ls 1 [(0, .int v)] := hl
  refine lv_iload_n hx hb dX3_isDigit_0 rfl (lv_at hl 0 rfl) ?_
  refine lv_bipush (v := 48) hx hb dX3_isDigit_1 (by decide) ?_
  refine lv_icmp_lt (tgt := 16) hx hb dX3_isDigit_3 (by decide) (fun c_1 => ?_) (fun c_1 => ?_)
  · skip
    have i_2 : (-2147483648) ≤ v.toInt ∧ v.toInt ≤ 47 := iv_lt1 (iv_any v) (⟨by decide, by decide⟩ : (48 : Int) ≤ (48 : Int32).toInt ∧ (48 : Int32).toInt ≤ 48) c_1
    refine lv_iconst (v := 0) hx hb dX3_isDigit_16 (by decide) ?_
    exact W.zret (v := 0) hx hb hr (by decide) (fun t ht hW => ⟨⟨0, (), rfl, ⟨(iv_w (⟨by decide, by decide⟩ : (0 : Int) ≤ (0 : Int32).toInt ∧ (0 : Int32).toInt ≤ 0) (by decide) (by decide)), (Or.inl ⟨rfl, by omega⟩), trivial⟩, trivial⟩, hS.F ht⟩) hS.2.2 dX3_isDigit_17
  · skip
    have i_3 : 48 ≤ v.toInt ∧ v.toInt ≤ 2147483647 := iv_le2 (⟨by decide, by decide⟩ : (48 : Int) ≤ (48 : Int32).toInt ∧ (48 : Int32).toInt ≤ 48) (iv_any v) (Int32.not_lt.mp c_1)
    refine lv_iload_n hx hb dX3_isDigit_6 rfl (lv_at hl 0 rfl) ?_
    refine lv_bipush (v := 57) hx hb dX3_isDigit_7 (by decide) ?_
    refine lv_icmp_gt (tgt := 16) hx hb dX3_isDigit_9 (by decide) (fun c_4 => ?_) (fun c_4 => ?_)
    · skip
      have i_5 : 58 ≤ v.toInt ∧ v.toInt ≤ 2147483647 := iv_lt2 (⟨by decide, by decide⟩ : (57 : Int) ≤ (57 : Int32).toInt ∧ (57 : Int32).toInt ≤ 57) i_3 c_4
      refine lv_iconst (v := 0) hx hb dX3_isDigit_16 (by decide) ?_
      exact W.zret (v := 0) hx hb hr (by decide) (fun t ht hW => ⟨⟨0, (), rfl, ⟨(iv_w (⟨by decide, by decide⟩ : (0 : Int) ≤ (0 : Int32).toInt ∧ (0 : Int32).toInt ≤ 0) (by decide) (by decide)), (Or.inl ⟨rfl, by omega⟩), trivial⟩, trivial⟩, hS.F ht⟩) hS.2.2 dX3_isDigit_17
    · skip
      have i_6 : 48 ≤ v.toInt ∧ v.toInt ≤ 57 := iv_le1 i_3 (⟨by decide, by decide⟩ : (57 : Int) ≤ (57 : Int32).toInt ∧ (57 : Int32).toInt ≤ 57) (Int32.not_lt.mp c_4)
      refine lv_iconst (v := 1) hx hb dX3_isDigit_12 (by decide) ?_
      refine lv_goto (tgt := 17) hx hb dX3_isDigit_13 (by decide) ?_
      exact W.zret (v := 1) hx hb hr (by decide) (fun t ht hW => ⟨⟨1, (), rfl, ⟨(iv_w (⟨by decide, by decide⟩ : (1 : Int) ≤ (1 : Int32).toInt ∧ (1 : Int32).toInt ≤ 1) (by decide) (by decide)), (Or.inr (⟨rfl, by omega⟩)), trivial⟩, trivial⟩, hS.F ht⟩) hS.2.2 dX3_isDigit_17
set_option maxHeartbeats 4000000 in
set_option maxRecDepth 100000 in
theorem x_endOfWordC (l : Launch) (dC : Nat → ClassId) (dI : Nat → Nat → Nat) (sz : Nat) (ob ad : Nat → Nat) (cA : Nat → ClassId) (hd : dX ob ad) (fv : Nat → Int32) (wd : xT) (ar : Nat → Nat → Int32) (hF_fv : rX fv) (hA_ar : rB ar) (at_ : Int32) (sz_ : Int32) (h_at_ : 0 ≤ at_.toInt ∧ at_.toInt ≤ 339) (h_sz_ : 0 ≤ sz_.toInt ∧ sz_.toInt ≤ 340) : Met l yX3_endOfWord (.code yX3_endOfWord cX3_endOfWord 4 (some .int) :: lw_good) ({ frames := 3, cells := 0, slots := 0, locals := 60 }) (va_Pc [.ref (ad 1), .int at_, .int sz_] (prX dC dI ob ad cA fv wd ar sz)) (va_Qi (fun (r : Int32) (u : xS) => rX u.1 ∧ rB u.2.2 ∧ fM [] fv u.1 ∧ fA [] ar u.2.2 ∧ u.2.1.2 = wd.2 ∧ (0 ≤ r.toInt ∧ r.toInt ≤ 340) ∧ (r.toInt.toNat = rd_w (rd_b (ar 1)) sz_.toInt.toNat at_.toInt.toNat) ∧ True) (enX dC dI ob ad cA) (aX ob ad sz)) 0 0 (aX ob ad sz) := by
  refine Met.ofW (cc := cX3_endOfWord) (maxL := 4) (ret := (some .int)) (by decide) rfl ?_
  intro p e s m args below meth c s₁ B hml hv
  obtain ⟨rfl, hsz, hP, hK⟩ := hv
  have hx := B.exec
  have hb := B.bytes
  have hr := B.returns
  have hts := atoms_spec (ws := (.code yX3_endOfWord cX3_endOfWord 4 (some .int) :: lw_good)) B.pre
  have htg : ∀ w ∈ lw_good, w.before _ s = true := fun w hw => hts w (List.mem_cons_of_mem _ hw)
  have hown : s.vm.findClass RX3 = some m.cls := findClass_of_methodNamed B.named
  have hlocks := B.notSynchronized
  subst hsz
  have hS : va_S (aX ob ad s.heap.size) s.heap s.heap [] := va_S.rf
  have hl := lv_entry ([.ref (ad 1), .int at_, .int sz_]) (n := 4) (Nat.le_of_ble_eq_true rfl)
  rw [lg_entry_eq]
  generalize (lg_sl ([.ref (ad 1), .int at_, .int sz_]) ++ List.replicate (4 - (lg_sl ([.ref (ad 1), .int at_, .int sz_])).length) Slot.unset).toArray = ls at hl ⊢
  have hl : lv_has ls 4 [(0, .ref (ad 1)), (1, .int at_), (2, .int sz_)] := hl
  refine lv_iload_n hx hb dX3_endOfWord_0 rfl (lv_at hl 1 rfl) ?_
  refine lv_istore_n (lv' := [(3, .int at_), (0, .ref (ad 1)), (1, .int at_), (2, .int sz_)]) hx hb dX3_endOfWord_1 rfl hl (by decide) rfl (fun ls hl => ?_)
  refine my_cut (P := fun R9 a9 Q9 => ∀ (n_4 : Nat) (x_1 : Int32) (H : Heap) (locs : List Loc) (ls : Array Slot), 340 - x_1.toInt < (n_4 : Int) → (0 ≤ x_1.toInt ∧ x_1.toInt ≤ 340) → (rd_w (rd_b (ar 1)) sz_.toInt.toNat at_.toInt.toNat = rd_w (rd_b (ar 1)) sz_.toInt.toNat x_1.toInt.toNat) → (at_.toInt ≤ x_1.toInt) → va_P (dC, dI) vwCl (wsX ob ad cA fv wd ar) H → va_S (aX ob ad s.heap.size) s.heap H locs → lv_has ls 4 [(0, .ref (ad 1)), (2, .int sz_), (3, .int x_1)] → W p l e R9 s m a9 below meth c H locs 0 0 Q9 (F0 m 2 ls [])) ?_ (fun hj_6 => ?_)
  · intro n_4
    induction n_4 with
    | zero => intro x_1 H locs ls fu_5 i_x_1 q_2 q_3; exfalso; omega
    | succ n_4 ih_4 =>
      intro x_1 H locs ls fu_5 i_x_1 q_2 q_3 hP hS hl
      refine lv_iload_n hx hb dX3_endOfWord_2 rfl (lv_at hl 2 rfl) ?_
      refine lv_iload_n hx hb dX3_endOfWord_3 rfl (lv_at hl 1 rfl) ?_
      refine lv_icmp_ge (tgt := 31) hx hb dX3_endOfWord_4 (by decide) (fun c_7 => ?_) (fun c_7 => ?_)
      · skip
        have k_8 := Int32.le_iff_toInt_le.mp c_7
        refine lv_iload_n hx hb dX3_endOfWord_31 rfl (lv_at hl 2 rfl) ?_
        exact W.iret (v := x_1) hx hb hr (fun t ht hW => ⟨⟨x_1, (fv, wd, ar), rfl, ⟨hF_fv, hA_ar, (fM_rf [] _), (fA_rf [] _), rfl, i_x_1, (show x_1.toInt.toNat = rd_w (rd_b (ar 1)) sz_.toInt.toNat at_.toInt.toNat from (q_2.trans (rd_w0 (p := x_1.toInt.toNat) (fun w => by omega))).symm), trivial⟩, ⟨by rw [ht]; exact hP, va_K.moved hW.alike hK⟩⟩, hS.F ht⟩) hS.2.2 dX3_endOfWord_32
      · skip
        have i_9 : 0 ≤ x_1.toInt ∧ x_1.toInt ≤ 339 := iv_lt1 i_x_1 h_sz_ (Int32.not_le.mp c_7)
        have i_10 : 1 ≤ sz_.toInt ∧ sz_.toInt ≤ 340 := iv_lt2 i_x_1 h_sz_ (Int32.not_le.mp c_7)
        have k_11 := Int32.lt_iff_toInt_lt.mp (Int32.not_le.mp c_7)
        refine lv_aload_n hx hb dX3_endOfWord_7 rfl (lv_at hl 0 rfl) ?_
        refine lv_iload_n hx hb dX3_endOfWord_8 rfl (lv_at hl 2 rfl) ?_
        refine lX_1 hx hb hK hP (iv_in i_9 (by decide) (by decide)) dX3_endOfWord_9 (fun v_12 ev_12 => ?_)
        have i_13 : 0 ≤ v_12.toInt ∧ v_12.toInt ≤ 255 := ev_12 ▸ hA_ar 1 _
        refine va_calli (va_runS (As := [.int v_12]) (rest := []) ⟨hx, hb, hml, hown, hts⟩ (x_isLetterC l H.size v_12) (va_cwS 1 hts (gS kw_4_21 kw_4_22 kw_1_11 kw_4_23) rfl rfl rfl (by decide +kernel) ⟨Nat.le_of_ble_eq_true rfl, Nat.le_of_ble_eq_true rfl⟩) ⟨fun a U g mk q => ⟨q.1, q.2⟩, fun U hU hW => ⟨rfl, congrArg Array.size hU⟩⟩ rfl rfl hl.1 rfl (lv_room (Nat.le_of_ble_eq_true rfl)) dX3_endOfWord_10 ⟨Nat.le_of_ble_eq_true rfl, Nat.le_of_ble_eq_true rfl⟩) hS (fun q _ h9 => nX_up hS q h9) (nX_up hS) (fun r_14 u t H1 locs ht _ hw hB _ hk1 hS => ?_)
        obtain ⟨p_15, p_16, -⟩ := hw
        have hP := my_keepM hP hk1
        generalize H1 = H at hP hS ⊢
        rcases p_16 with ⟨rfl, p_16⟩ | ⟨rfl, p_16⟩
        · skip
          refine lv_if_ne (tgt := 25) hx hb dX3_endOfWord_13 (by decide) (fun c_17 => ?_) (fun c_17 => ?_)
          · skip
            exact absurd c_17 (by decide)
          · skip
            refine lv_aload_n hx hb dX3_endOfWord_16 rfl (lv_at hl 0 rfl) ?_
            refine lv_iload_n hx hb dX3_endOfWord_17 rfl (lv_at hl 2 rfl) ?_
            refine lX_1 hx hb hK hP (iv_in i_9 (by decide) (by decide)) dX3_endOfWord_18 (fun v_18 ev_18 => ?_)
            obtain rfl : v_12 = v_18 := ev_12.trans ev_18.symm
            refine va_calli (va_runS (As := [.int v_12]) (rest := []) ⟨hx, hb, hml, hown, hts⟩ (x_isDigitC l H.size v_12) (va_cwS 1 hts (gS kw_4_24 kw_4_25 kw_1_11 kw_4_26) rfl rfl rfl (by decide +kernel) ⟨Nat.le_of_ble_eq_true rfl, Nat.le_of_ble_eq_true rfl⟩) ⟨fun a U g mk q => ⟨q.1, q.2⟩, fun U hU hW => ⟨rfl, congrArg Array.size hU⟩⟩ rfl rfl hl.1 rfl (lv_room (Nat.le_of_ble_eq_true rfl)) dX3_endOfWord_19 ⟨Nat.le_of_ble_eq_true rfl, Nat.le_of_ble_eq_true rfl⟩) hS (fun q _ h9 => nX_up hS q h9) (nX_up hS) (fun r_19 u t H1 locs ht _ hw hB _ hk1 hS => ?_)
            obtain ⟨p_20, p_21, -⟩ := hw
            have hP := my_keepM hP hk1
            generalize H1 = H at hP hS ⊢
            rcases p_21 with ⟨rfl, p_21⟩ | ⟨rfl, p_21⟩
            · skip
              refine lv_if_eq (tgt := 31) hx hb dX3_endOfWord_22 (by decide) (fun c_22 => ?_) (fun c_22 => ?_)
              · skip
                refine lv_iload_n hx hb dX3_endOfWord_31 rfl (lv_at hl 2 rfl) ?_
                exact W.iret (v := x_1) hx hb hr (fun t ht hW => ⟨⟨x_1, (fv, wd, ar), rfl, ⟨hF_fv, hA_ar, (fM_rf [] _), (fA_rf [] _), rfl, (iv_w i_9 (by decide) (by decide)), (show x_1.toInt.toNat = rd_w (rd_b (ar 1)) sz_.toInt.toNat at_.toInt.toNat from (q_2.trans (rd_w0 (p := x_1.toInt.toNat) (fun w => w.2.elim (rd_lF ev_12 (by omega)) (rd_dF ev_12 (by omega))))).symm), trivial⟩, ⟨by rw [ht]; exact hP, va_K.moved hW.alike hK⟩⟩, hS.F ht⟩) hS.2.2 dX3_endOfWord_32
              · skip
                exact absurd c_22 (by decide)
            · skip
              have i_23 : 48 ≤ v_12.toInt ∧ v_12.toInt ≤ 255 := ⟨p_21.1, i_13.2⟩
              have i_24 : 48 ≤ v_12.toInt ∧ v_12.toInt ≤ 57 := ⟨i_23.1, p_21.2⟩
              refine lv_if_eq (tgt := 31) hx hb dX3_endOfWord_22 (by decide) (fun c_25 => ?_) (fun c_25 => ?_)
              · skip
                exact absurd c_25 (by decide)
              · skip
                obtain ⟨v_26, ev_26⟩ : ∃ z : Int32, z = x_1 + 1 := ⟨_, rfl⟩
                refine lv_iinc (v := v_26) (lv' := [(3, .int v_26), (0, .ref (ad 1)), (2, .int sz_)]) hx hb dX3_endOfWord_25 hl (k := 2) rfl (by rw [ev_26]; rfl) (by decide) rfl (fun ls hl => ?_)
                have t_27 : v_26.toInt = x_1.toInt + 1 ∧ 1 ≤ v_26.toInt ∧ v_26.toInt ≤ 340 := iv_addc ev_26 i_9 (by decide) (by decide) (by decide)
                refine lv_goto (tgt := 2) hx hb dX3_endOfWord_28 (by decide) ?_
                exact ih_4 v_26 _ _ ls (by omega) (iv_w t_27.2 (by decide) (by decide)) (q_2.trans ((rd_w1 (p := x_1.toInt.toNat) (by omega) (Or.inr (rd_dT ev_12 (by omega) (by omega)))).trans (by rw [show v_26.toInt.toNat = x_1.toInt.toNat + 1 from (by omega)]))) (by omega) hP hS (lv_sub hl [1, 2, 0] rfl)
        · skip
          have i_29 : 97 ≤ v_12.toInt ∧ v_12.toInt ≤ 255 := ⟨p_16.1, i_13.2⟩
          have i_30 : 97 ≤ v_12.toInt ∧ v_12.toInt ≤ 122 := ⟨i_29.1, p_16.2⟩
          refine lv_if_ne (tgt := 25) hx hb dX3_endOfWord_13 (by decide) (fun c_31 => ?_) (fun c_31 => ?_)
          · skip
            obtain ⟨v_32, ev_32⟩ : ∃ z : Int32, z = x_1 + 1 := ⟨_, rfl⟩
            refine lv_iinc (v := v_32) (lv' := [(3, .int v_32), (0, .ref (ad 1)), (2, .int sz_)]) hx hb dX3_endOfWord_25 hl (k := 2) rfl (by rw [ev_32]; rfl) (by decide) rfl (fun ls hl => ?_)
            have t_33 : v_32.toInt = x_1.toInt + 1 ∧ 1 ≤ v_32.toInt ∧ v_32.toInt ≤ 340 := iv_addc ev_32 i_9 (by decide) (by decide) (by decide)
            refine lv_goto (tgt := 2) hx hb dX3_endOfWord_28 (by decide) ?_
            exact ih_4 v_32 _ _ ls (by omega) (iv_w t_33.2 (by decide) (by decide)) (q_2.trans ((rd_w1 (p := x_1.toInt.toNat) (by omega) (Or.inl (rd_lT ev_12 (by omega) (by omega)))).trans (by rw [show v_32.toInt.toNat = x_1.toInt.toNat + 1 from (by omega)]))) (by omega) hP hS (lv_sub hl [1, 2, 0] rfl)
          · skip
            exact absurd c_31 (by decide)
  · skip
    exact hj_6 341 at_ _ _ ls (by omega) (iv_w h_at_ (by decide) (by decide)) rfl (by omega) hP hS (lv_sub hl [1, 3, 0] rfl)
set_option maxHeartbeats 4000000 in
set_option maxRecDepth 100000 in
theorem x_numberAtC (l : Launch) (dC : Nat → ClassId) (dI : Nat → Nat → Nat) (sz : Nat) (ob ad : Nat → Nat) (cA : Nat → ClassId) (hd : dX ob ad) (fv : Nat → Int32) (wd : xT) (ar : Nat → Nat → Int32) (hF_fv : rX fv) (hA_ar : rB ar) (at_ : Int32) (bh : Int32) (h_at_ : 0 ≤ at_.toInt ∧ at_.toInt ≤ 339) (h_bh : 0 ≤ bh.toInt ∧ bh.toInt ≤ 340) (hab : at_.toInt ≤ bh.toInt) : Met l yX3_numberAt (.code yX3_numberAt cX3_numberAt 5 (some .int) :: lw_good) ({ frames := 3, cells := 0, slots := 0, locals := 60 }) (va_Pc [.ref (ad 1), .int at_, .int bh] (prX dC dI ob ad cA fv wd ar sz)) (va_Qi (fun (r : Int32) (u : xS) => rX u.1 ∧ rB u.2.2 ∧ fM [] fv u.1 ∧ fA [] ar u.2.2 ∧ u.2.1.2 = wd.2 ∧ (r.toInt = rd_nb (rd_b (ar 1)) at_.toInt.toNat (if bh.toInt.toNat - at_.toInt.toNat < 4 then bh.toInt.toNat - at_.toInt.toNat else 4)) ∧ True) (enX dC dI ob ad cA) (aX ob ad sz)) 0 0 (aX ob ad sz) := by
  refine Met.ofW (cc := cX3_numberAt) (maxL := 5) (ret := (some .int)) (by decide) rfl ?_
  intro p e s m args below meth c s₁ B hml hv
  obtain ⟨rfl, hsz, hP, hK⟩ := hv
  have hx := B.exec
  have hb := B.bytes
  have hr := B.returns
  have hts := atoms_spec (ws := (.code yX3_numberAt cX3_numberAt 5 (some .int) :: lw_good)) B.pre
  have htg : ∀ w ∈ lw_good, w.before _ s = true := fun w hw => hts w (List.mem_cons_of_mem _ hw)
  have hown : s.vm.findClass RX3 = some m.cls := findClass_of_methodNamed B.named
  have hlocks := B.notSynchronized
  subst hsz
  have hS : va_S (aX ob ad s.heap.size) s.heap s.heap [] := va_S.rf
  have hl := lv_entry ([.ref (ad 1), .int at_, .int bh]) (n := 5) (Nat.le_of_ble_eq_true rfl)
  rw [lg_entry_eq]
  generalize (lg_sl ([.ref (ad 1), .int at_, .int bh]) ++ List.replicate (5 - (lg_sl ([.ref (ad 1), .int at_, .int bh])).length) Slot.unset).toArray = ls at hl ⊢
  have hl : lv_has ls 5 [(0, .ref (ad 1)), (1, .int at_), (2, .int bh)] := hl
  refine lv_iconst (v := 0) hx hb dX3_numberAt_0 (by decide) ?_
  refine lv_istore_n (lv' := [(3, .int 0), (0, .ref (ad 1)), (1, .int at_), (2, .int bh)]) hx hb dX3_numberAt_1 rfl hl (by decide) rfl (fun ls hl => ?_)
  refine lv_iload_n hx hb dX3_numberAt_2 rfl (lv_at hl 2 rfl) ?_
  refine lv_istore (lv' := [(4, .int at_), (3, .int 0), (0, .ref (ad 1)), (1, .int at_), (2, .int bh)]) hx hb dX3_numberAt_3 hl (by decide) rfl (fun ls hl => ?_)
  refine my_cut (P := fun R9 a9 Q9 => ∀ (n_5 : Nat) (x_1 : Int32) (x_2 : Int32) (H : Heap) (locs : List Loc) (ls : Array Slot), 340 - x_2.toInt < (n_5 : Int) → (0 ≤ x_1.toInt ∧ x_1.toInt ≤ 9999) → (0 ≤ x_2.toInt ∧ x_2.toInt ≤ 340) → (x_1.toInt = rd_nb (rd_b (ar 1)) at_.toInt.toNat (x_2.toInt.toNat - at_.toInt.toNat)) → (at_.toInt ≤ x_2.toInt ∧ x_2.toInt ≤ bh.toInt ∧ x_2.toInt ≤ at_.toInt + 4) → va_P (dC, dI) vwCl (wsX ob ad cA fv wd ar) H → va_S (aX ob ad s.heap.size) s.heap H locs → lv_has ls 5 [(0, .ref (ad 1)), (1, .int at_), (2, .int bh), (3, .int x_1), (4, .int x_2)] → W p l e R9 s m a9 below meth c H locs 0 0 Q9 (F0 m 5 ls [])) ?_ (fun hj_7 => ?_)
  · intro n_5
    induction n_5 with
    | zero => intro x_1 x_2 H locs ls fu_6 i_x_1 i_x_2 q_3 q_4; exfalso; omega
    | succ n_5 ih_5 =>
      intro x_1 x_2 H locs ls fu_6 i_x_1 i_x_2 q_3 q_4 hP hS hl
      refine lv_iload hx hb dX3_numberAt_5 (lv_at hl 4 rfl) ?_
      refine lv_iload_n hx hb dX3_numberAt_7 rfl (lv_at hl 2 rfl) ?_
      refine lv_icmp_ge (tgt := 52) hx hb dX3_numberAt_8 (by decide) (fun c_8 => ?_) (fun c_8 => ?_)
      · skip
        have k_9 := Int32.le_iff_toInt_le.mp c_8
        refine lv_iload_n hx hb dX3_numberAt_52 rfl (lv_at hl 3 rfl) ?_
        exact W.iret (v := x_1) hx hb hr (fun t ht hW => ⟨⟨x_1, (fv, wd, ar), rfl, ⟨hF_fv, hA_ar, (fM_rf [] _), (fA_rf [] _), rfl, (show x_1.toInt = rd_nb (rd_b (ar 1)) at_.toInt.toNat (if bh.toInt.toNat - at_.toInt.toNat < 4 then bh.toInt.toNat - at_.toInt.toNat else 4) from by rw [show (if bh.toInt.toNat - at_.toInt.toNat < 4 then bh.toInt.toNat - at_.toInt.toNat else 4) = x_2.toInt.toNat - at_.toInt.toNat from (by by_cases h9 : bh.toInt.toNat - at_.toInt.toNat < 4; rw [if_pos h9]; omega; rw [if_neg h9]; omega)]; exact q_3), trivial⟩, ⟨by rw [ht]; exact hP, va_K.moved hW.alike hK⟩⟩, hS.F ht⟩) hS.2.2 dX3_numberAt_53
      · skip
        have i_10 : 0 ≤ x_2.toInt ∧ x_2.toInt ≤ 339 := iv_lt1 i_x_2 h_bh (Int32.not_le.mp c_8)
        have i_11 : 1 ≤ bh.toInt ∧ bh.toInt ≤ 340 := iv_lt2 i_x_2 h_bh (Int32.not_le.mp c_8)
        have k_12 := Int32.lt_iff_toInt_lt.mp (Int32.not_le.mp c_8)
        refine lv_iload hx hb dX3_numberAt_11 (lv_at hl 4 rfl) ?_
        refine lv_iload_n hx hb dX3_numberAt_13 rfl (lv_at hl 1 rfl) ?_
        refine lv_iconst (v := 4) hx hb dX3_numberAt_14 (by decide) ?_
        refine lv_iadd hx hb dX3_numberAt_15 ?_
        refine lv_topi (fun v_13 ev_13 => ?_)
        have t_14 : v_13.toInt = at_.toInt + 4 ∧ 4 ≤ v_13.toInt ∧ v_13.toInt ≤ 343 := iv_addc ev_13 h_at_ (by decide) (by decide) (by decide)
        refine lv_icmp_ge (tgt := 52) hx hb dX3_numberAt_16 (by decide) (fun c_16 => ?_) (fun c_16 => ?_)
        · skip
          have i_17 : 4 ≤ v_13.toInt ∧ v_13.toInt ≤ 339 := iv_le1 t_14.2 i_10 c_16
          have i_18 : 4 ≤ x_2.toInt ∧ x_2.toInt ≤ 339 := iv_le2 t_14.2 i_10 c_16
          have k_19 := Int32.le_iff_toInt_le.mp c_16
          refine lv_iload_n hx hb dX3_numberAt_52 rfl (lv_at hl 3 rfl) ?_
          exact W.iret (v := x_1) hx hb hr (fun t ht hW => ⟨⟨x_1, (fv, wd, ar), rfl, ⟨hF_fv, hA_ar, (fM_rf [] _), (fA_rf [] _), rfl, (show x_1.toInt = rd_nb (rd_b (ar 1)) at_.toInt.toNat (if bh.toInt.toNat - at_.toInt.toNat < 4 then bh.toInt.toNat - at_.toInt.toNat else 4) from by rw [show (if bh.toInt.toNat - at_.toInt.toNat < 4 then bh.toInt.toNat - at_.toInt.toNat else 4) = x_2.toInt.toNat - at_.toInt.toNat from (by by_cases h9 : bh.toInt.toNat - at_.toInt.toNat < 4; rw [if_pos h9]; omega; rw [if_neg h9]; omega)]; exact q_3), trivial⟩, ⟨by rw [ht]; exact hP, va_K.moved hW.alike hK⟩⟩, hS.F ht⟩) hS.2.2 dX3_numberAt_53
        · skip
          have k_20 := Int32.lt_iff_toInt_lt.mp (Int32.not_le.mp c_16)
          have i_21 : 0 ≤ x_1.toInt ∧ x_1.toInt ≤ 999 := (by have h9 := rd_nb_0 (rd_b (ar 1)) at_.toInt.toNat (x_2.toInt.toNat - at_.toInt.toNat); have h8 := rd_nb_3 (rd_b (ar 1)) at_.toInt.toNat (x_2.toInt.toNat - at_.toInt.toNat) (by omega); rw [← q_3] at h9 h8; omega)
          refine lv_iload_n hx hb dX3_numberAt_19 rfl (lv_at hl 3 rfl) ?_
          refine lv_bipush (v := 10) hx hb dX3_numberAt_20 (by decide) ?_
          refine lv_imul hx hb dX3_numberAt_22 ?_
          refine lv_topi (fun v_22 ev_22 => ?_)
          have t_23 : v_22.toInt = 10 * x_1.toInt ∧ 0 ≤ v_22.toInt ∧ v_22.toInt ≤ 9990 := iv_mulr ev_22 i_21 (by decide) (by decide) (by decide) (by decide)
          refine lv_aload_n hx hb dX3_numberAt_23 rfl (lv_at hl 0 rfl) ?_
          refine lv_iload hx hb dX3_numberAt_24 (lv_at hl 4 rfl) ?_
          refine lX_1 hx hb hK hP (iv_in i_10 (by decide) (by decide)) dX3_numberAt_26 (fun v_25 ev_25 => ?_)
          have i_26 : 0 ≤ v_25.toInt ∧ v_25.toInt ≤ 255 := ev_25 ▸ hA_ar 1 _
          refine va_calli (va_runS (As := [.int v_25]) (rest := [.int v_22]) ⟨hx, hb, hml, hown, hts⟩ (x_isDigitC l H.size v_25) (va_cwS 1 hts (gS kw_4_24 kw_4_25 kw_1_11 kw_4_26) rfl rfl rfl (by decide +kernel) ⟨Nat.le_of_ble_eq_true rfl, Nat.le_of_ble_eq_true rfl⟩) ⟨fun a U g mk q => ⟨q.1, q.2⟩, fun U hU hW => ⟨rfl, congrArg Array.size hU⟩⟩ rfl rfl hl.1 rfl (lv_room (Nat.le_of_ble_eq_true rfl)) dX3_numberAt_27 ⟨Nat.le_of_ble_eq_true rfl, Nat.le_of_ble_eq_true rfl⟩) hS (fun q _ h9 => nX_up hS q h9) (nX_up hS) (fun r_27 u t H1 locs ht _ hw hB _ hk1 hS => ?_)
          obtain ⟨p_28, p_29, -⟩ := hw
          have hP := my_keepM hP hk1
          generalize H1 = H at hP hS ⊢
          rcases p_29 with ⟨rfl, p_29⟩ | ⟨rfl, p_29⟩
          · skip
            refine lv_if_eq (tgt := 43) hx hb dX3_numberAt_30 (by decide) (fun c_30 => ?_) (fun c_30 => ?_)
            · skip
              refine lv_iconst (v := 0) hx hb dX3_numberAt_43 (by decide) ?_
              refine lv_iadd hx hb dX3_numberAt_44 ?_
              refine lv_topi (fun v_31 ev_31 => ?_)
              have t_32 : v_31.toInt = v_22.toInt + 0 ∧ 0 ≤ v_31.toInt ∧ v_31.toInt ≤ 9990 := iv_addc ev_31 t_23.2 (by decide) (by decide) (by decide)
              refine lv_istore_n (lv' := [(3, .int v_31), (0, .ref (ad 1)), (1, .int at_), (2, .int bh), (4, .int x_2)]) hx hb dX3_numberAt_45 rfl hl (by decide) rfl (fun ls hl => ?_)
              obtain ⟨v_34, ev_34⟩ : ∃ z : Int32, z = x_2 + 1 := ⟨_, rfl⟩
              refine lv_iinc (v := v_34) (lv' := [(4, .int v_34), (3, .int v_31), (0, .ref (ad 1)), (1, .int at_), (2, .int bh)]) hx hb dX3_numberAt_46 hl (k := 4) rfl (by rw [ev_34]; rfl) (by decide) rfl (fun ls hl => ?_)
              have t_35 : v_34.toInt = x_2.toInt + 1 ∧ 1 ≤ v_34.toInt ∧ v_34.toInt ≤ 340 := iv_addc ev_34 i_10 (by decide) (by decide) (by decide)
              refine lv_goto (tgt := 5) hx hb dX3_numberAt_49 (by decide) ?_
              exact ih_5 v_31 v_34 _ _ ls (by omega) (iv_w t_32.2 (by decide) (by decide)) (iv_w t_35.2 (by decide) (by decide)) (by have h9 := rd_nb_n (rd_dF (i := at_.toInt.toNat + (x_2.toInt.toNat - at_.toInt.toNat)) (show v_25 = ar 1 (at_.toInt.toNat + (x_2.toInt.toNat - at_.toInt.toNat)) from ev_25.trans (congrArg (ar 1) (show x_2.toInt.toNat = at_.toInt.toNat + (x_2.toInt.toNat - at_.toInt.toNat) from (by omega)))) (by omega)); have hb9 : rd_b (ar 1) (at_.toInt.toNat + (x_2.toInt.toNat - at_.toInt.toNat)) = v_25.toInt := (by show (ar 1 (at_.toInt.toNat + (x_2.toInt.toNat - at_.toInt.toNat))).toInt = _; rw [ev_25]; show _ = (ar 1 (x_2.toInt.toNat)).toInt; rw [show at_.toInt.toNat + (x_2.toInt.toNat - at_.toInt.toNat) = x_2.toInt.toNat from (by omega)]); rw [← q_3] at h9; rw [show v_34.toInt.toNat - at_.toInt.toNat = (x_2.toInt.toNat - at_.toInt.toNat) + 1 from (by omega), h9]; omega) (by omega) hP hS (lv_sub hl [2, 3, 4, 1, 0] rfl)
            · skip
              exact absurd c_30 (by decide)
          · skip
            have i_37 : 48 ≤ v_25.toInt ∧ v_25.toInt ≤ 255 := ⟨p_29.1, i_26.2⟩
            have i_38 : 48 ≤ v_25.toInt ∧ v_25.toInt ≤ 57 := ⟨i_37.1, p_29.2⟩
            refine lv_if_eq (tgt := 43) hx hb dX3_numberAt_30 (by decide) (fun c_39 => ?_) (fun c_39 => ?_)
            · skip
              exact absurd c_39 (by decide)
            · skip
              refine lv_aload_n hx hb dX3_numberAt_33 rfl (lv_at hl 0 rfl) ?_
              refine lv_iload hx hb dX3_numberAt_34 (lv_at hl 4 rfl) ?_
              refine lX_1 hx hb hK hP (iv_in i_10 (by decide) (by decide)) dX3_numberAt_36 (fun v_40 ev_40 => ?_)
              obtain rfl : v_25 = v_40 := ev_25.trans ev_40.symm
              refine lv_bipush (v := 48) hx hb dX3_numberAt_37 (by decide) ?_
              refine lv_isub hx hb dX3_numberAt_39 ?_
              refine lv_topi (fun v_41 ev_41 => ?_)
              have t_42 : v_41.toInt = v_25.toInt - 48 ∧ 0 ≤ v_41.toInt ∧ v_41.toInt ≤ 9 := iv_subc ev_41 i_38 (by decide) (by decide) (by decide)
              refine lv_goto (tgt := 44) hx hb dX3_numberAt_40 (by decide) ?_
              refine lv_iadd hx hb dX3_numberAt_44 ?_
              refine lv_topi (fun v_44 ev_44 => ?_)
              have t_45 : v_44.toInt = v_22.toInt + v_41.toInt ∧ 0 ≤ v_44.toInt ∧ v_44.toInt ≤ 9999 := iv_add ev_44 t_23.2 t_42.2 (by decide) (by decide)
              refine lv_istore_n (lv' := [(3, .int v_44), (0, .ref (ad 1)), (1, .int at_), (2, .int bh), (4, .int x_2)]) hx hb dX3_numberAt_45 rfl hl (by decide) rfl (fun ls hl => ?_)
              obtain ⟨v_47, ev_47⟩ : ∃ z : Int32, z = x_2 + 1 := ⟨_, rfl⟩
              refine lv_iinc (v := v_47) (lv' := [(4, .int v_47), (3, .int v_44), (0, .ref (ad 1)), (1, .int at_), (2, .int bh)]) hx hb dX3_numberAt_46 hl (k := 4) rfl (by rw [ev_47]; rfl) (by decide) rfl (fun ls hl => ?_)
              have t_48 : v_47.toInt = x_2.toInt + 1 ∧ 1 ≤ v_47.toInt ∧ v_47.toInt ≤ 340 := iv_addc ev_47 i_10 (by decide) (by decide) (by decide)
              refine lv_goto (tgt := 5) hx hb dX3_numberAt_49 (by decide) ?_
              exact ih_5 v_44 v_47 _ _ ls (by omega) t_45.2 (iv_w t_48.2 (by decide) (by decide)) (by have h9 := rd_nb_d (rd_dT (i := at_.toInt.toNat + (x_2.toInt.toNat - at_.toInt.toNat)) (show v_25 = ar 1 (at_.toInt.toNat + (x_2.toInt.toNat - at_.toInt.toNat)) from ev_25.trans (congrArg (ar 1) (show x_2.toInt.toNat = at_.toInt.toNat + (x_2.toInt.toNat - at_.toInt.toNat) from (by omega)))) (by omega) (by omega)); have hb9 : rd_b (ar 1) (at_.toInt.toNat + (x_2.toInt.toNat - at_.toInt.toNat)) = v_25.toInt := (by show (ar 1 (at_.toInt.toNat + (x_2.toInt.toNat - at_.toInt.toNat))).toInt = _; rw [ev_25]; show _ = (ar 1 (x_2.toInt.toNat)).toInt; rw [show at_.toInt.toNat + (x_2.toInt.toNat - at_.toInt.toNat) = x_2.toInt.toNat from (by omega)]); rw [← q_3] at h9; rw [show v_47.toInt.toNat - at_.toInt.toNat = (x_2.toInt.toNat - at_.toInt.toNat) + 1 from (by omega), h9]; rw [hb9]; omega) (by omega) hP hS (lv_sub hl [2, 3, 4, 1, 0] rfl)
  · skip
    have z_50 : (0 : Int32).toInt = 0 := by decide
    exact hj_7 341 0 at_ _ _ ls (by first | decide | omega) (iv_w (⟨by decide, by decide⟩ : (0 : Int) ≤ (0 : Int32).toInt ∧ (0 : Int32).toInt ≤ 0) (by decide) (by decide)) (iv_w h_at_ (by decide) (by decide)) (by rw [Nat.sub_self]; show (0 : Int32).toInt = 0; decide) (by omega) hP hS (lv_sub hl [2, 3, 4, 1, 0] rfl)
set_option maxHeartbeats 4000000 in
set_option maxRecDepth 100000 in
theorem x_lcharAtC (l : Launch) (sz : Nat) (ak av ln : Nat) (bt : Nat → Int32) (ii : Int32) (h_ii : 0 ≤ ii.toInt ∧ ii.toInt ≤ 7) (hi : ii.toInt < ln) : Met l yJ1_charAt_3b067 (.code yJ1_charAt_3b067 cJ1_charAt_3b067 2 (some .char) :: lw_good) ({ frames := 4, cells := 0, slots := 0, locals := 83 }) (va_Pc [.ref av, .int ii] (fun U => U.heap.size = sz ∧ stA ak av ln bt (fun q => sz ≤ q) U)) (va_Qi (fun (r : Int32) (_ : Unit) => (0 ≤ r.toInt ∧ r.toInt ≤ 255) ∧ (r = bt ii.toInt.toNat &&& 255) ∧ True) (fun (_ : Unit) (_ : State) => True) (fun q => sz ≤ q)) 0 0 (fun q => sz ≤ q) := by
  refine Met.ofW (cc := cJ1_charAt_3b067) (maxL := 2) (ret := (some .char)) (by decide) rfl ?_
  intro p e s m args below meth c s₁ B hml hv
  obtain ⟨rfl, hsz, hT⟩ := hv
  have hx := B.exec
  have hb := B.bytes
  have hr := B.returns
  have hts := atoms_spec (ws := (.code yJ1_charAt_3b067 cJ1_charAt_3b067 2 (some .char) :: lw_good)) B.pre
  have htg : ∀ w ∈ lw_good, w.before _ s = true := fun w hw => hts w (List.mem_cons_of_mem _ hw)
  have hown : s.vm.findClass RJ1 = some m.cls := findClass_of_methodNamed B.named
  have hlocks := B.notSynchronized
  subst hsz
  have hS : va_S (fun q => s.heap.size ≤ q) s.heap s.heap [] := va_S.rf
  have hl := lv_entry ([.ref av, .int ii]) (n := 2) (Nat.le_of_ble_eq_true rfl)
  rw [lg_entry_eq]
  generalize (lg_sl ([.ref av, .int ii]) ++ List.replicate (2 - (lg_sl ([.ref av, .int ii])).length) Slot.unset).toArray = ls at hl ⊢
  have hl : lv_has ls 2 [(0, .ref av), (1, .int ii)] := hl
  refine lv_iload_n hx hb dJ1_charAt_3b067_0 rfl (lv_at hl 1 rfl) ?_
  refine lv_aload_n hx hb dJ1_charAt_3b067_1 rfl (lv_at hl 0 rfl) ?_
  refine va_tlen hx hb (st_T hT) hS (v := nI ln) rfl dJ1_charAt_3b067_2 ?_
  refine lv_topi (fun v_1 ev_1 => ?_)
  have kv_1 : v_1.toInt = ln := by rw [ev_1]; have h8 := hT.2; exact nI_toInt (by omega)
  have i_2 : 0 ≤ v_1.toInt ∧ v_1.toInt ≤ 8 := (by have h8 := hT.2; omega)
  refine va_callv (va_runS (As := [.int ii, .int v_1]) (rest := []) ⟨hx, hb, hml, hown, hts⟩ (x_sck l s.heap.size ak av ln bt ii v_1 h_ii (by omega)) (va_cwS 2 hts (gS kw_4_66 kw_4_67 kw_1_19 kw_4_68) rfl rfl rfl (by decide +kernel) ⟨Nat.le_of_ble_eq_true rfl, Nat.le_of_ble_eq_true rfl⟩) ⟨fun a U g mk q => ⟨q.1, q.2.1, st_mv (U := U.calling g mk a) rfl (Vm.Alike.refl U.vm) q.2.2⟩, fun U hU hW => ⟨rfl, congrArg Array.size hU, st_pass hT hS hU hW.alike (fun q h9 => Nat.le_trans hS.1 h9)⟩⟩ rfl rfl hl.1 rfl (lv_room (Nat.le_of_ble_eq_true rfl)) dJ1_charAt_3b067_3 ⟨Nat.le_of_ble_eq_true rfl, Nat.le_of_ble_eq_true rfl⟩) hS (fun q _ h9 => Nat.le_trans hS.1 h9) (fun q h9 => Nat.le_trans hS.1 h9) (fun u t H1 locs ht _ hw hB _ hk1 hS => ?_)
  skip
  generalize H1 = H at hS ⊢
  refine lv_aload_n hx hb dJ1_charAt_3b067_6 rfl (lv_at hl 0 rfl) ?_
  refine lv_iload_n hx hb dJ1_charAt_3b067_7 rfl (lv_at hl 1 rfl) ?_
  refine va_tb hx hb (st_T hT) hS (vp_in_iff.mpr (by omega)) rfl dJ1_charAt_3b067_8 ?_
  refine lv_topi (fun v_4 ev_4 => ?_)
  refine lv_sipush (v := 255) hx hb dJ1_charAt_3b067_9 (by decide) ?_
  refine lv_iand hx hb dJ1_charAt_3b067_12 ?_
  refine lv_topi (fun v_5 ev_5 => ?_)
  have i_6 : 0 ≤ v_5.toInt ∧ v_5.toInt ≤ 255 := iv_and ev_5
  refine lv_i2c (v := v_5) hx hb dJ1_charAt_3b067_13 (st_i2c i_6) ?_
  exact W.zret (v := v_5) hx hb hr (st_nar i_6) (fun t ht hW => ⟨⟨v_5, (), rfl, ⟨i_6, (show v_5 = bt ii.toInt.toNat &&& 255 from by rw [ev_5, ev_4]; rfl), trivial⟩, trivial⟩, hS.F ht⟩) hS.2.2 dJ1_charAt_3b067_14
set_option maxHeartbeats 4000000 in
set_option maxRecDepth 100000 in
theorem x_charAtC (l : Launch) (sz : Nat) (ak av ln : Nat) (bt : Nat → Int32) (ii : Int32) (h_ii : 0 ≤ ii.toInt ∧ ii.toInt ≤ 7) (hi : ii.toInt < ln) : Met l yJ0_charAt_5068e (.code yJ0_charAt_5068e cJ0_charAt_5068e 2 (some .char) :: lw_good) ({ frames := 5, cells := 0, slots := 0, locals := 104 }) (va_Pc [.ref ak, .int ii] (fun U => U.heap.size = sz ∧ stA ak av ln bt (fun q => sz ≤ q) U)) (va_Qi (fun (r : Int32) (_ : Unit) => (0 ≤ r.toInt ∧ r.toInt ≤ 255) ∧ (r = bt ii.toInt.toNat &&& 255) ∧ True) (fun (_ : Unit) (_ : State) => True) (fun q => sz ≤ q)) 0 0 (fun q => sz ≤ q) := by
  refine Met.ofW (cc := cJ0_charAt_5068e) (maxL := 2) (ret := (some .char)) (by decide) rfl ?_
  intro p e s m args below meth c s₁ B hml hv
  obtain ⟨rfl, hsz, hT⟩ := hv
  have hx := B.exec
  have hb := B.bytes
  have hr := B.returns
  have hts := atoms_spec (ws := (.code yJ0_charAt_5068e cJ0_charAt_5068e 2 (some .char) :: lw_good)) B.pre
  have htg : ∀ w ∈ lw_good, w.before _ s = true := fun w hw => hts w (List.mem_cons_of_mem _ hw)
  have hown : s.vm.findClass RJ0 = some m.cls := findClass_of_methodNamed B.named
  have hlocks := B.notSynchronized
  subst hsz
  have hS : va_S (fun q => s.heap.size ≤ q) s.heap s.heap [] := va_S.rf
  have hl := lv_entry ([.ref ak, .int ii]) (n := 2) (Nat.le_of_ble_eq_true rfl)
  rw [lg_entry_eq]
  generalize (lg_sl ([.ref ak, .int ii]) ++ List.replicate (2 - (lg_sl ([.ref ak, .int ii])).length) Slot.unset).toArray = ls at hl ⊢
  have hl : lv_has ls 2 [(0, .ref ak), (1, .int ii)] := hl
  refine lv_aload_n hx hb dJ0_charAt_5068e_0 rfl (lv_at hl 0 rfl) ?_
  refine va_calli (va_runV (As := []) (rest := []) ⟨hx, hb, hml, hown, hts⟩ (x_isLatin1 l s.heap.size ak av ln bt) (cwV 0 hts (gV kw_4_59 kw_4_60 kw_4_61 kw_1_19 kw_4_62) rfl rfl rfl (by decide +kernel) ⟨Nat.le_of_ble_eq_true rfl, Nat.le_of_ble_eq_true rfl⟩) ⟨fun a U g mk q => ⟨q.1, q.2.1, st_mv (U := U.calling g mk a) rfl (Vm.Alike.refl U.vm) q.2.2⟩, st_recv hT hS, fun U hU hW => ⟨rfl, congrArg Array.size hU, st_pass hT hS hU hW.alike (fun q h9 => Nat.le_trans hS.1 h9)⟩⟩ rfl rfl hl.1 rfl (lv_room (Nat.le_of_ble_eq_true rfl)) dJ0_charAt_5068e_1 ⟨Nat.le_of_ble_eq_true rfl, Nat.le_of_ble_eq_true rfl⟩) hS (fun q _ h9 => Nat.le_trans hS.1 h9) (fun q h9 => Nat.le_trans hS.1 h9) (fun r_1 u t H1 locs ht _ hw hB _ hk1 hS => ?_)
  obtain ⟨p_2, p_3, -⟩ := hw
  skip
  generalize H1 = H at hS ⊢
  rcases p_3 with ⟨rfl, p_3⟩
  · skip
    refine lv_if_eq (tgt := 16) hx hb dJ0_charAt_5068e_4 (by decide) (fun c_4 => ?_) (fun c_4 => ?_)
    · skip
      exact absurd c_4 (by decide)
    · skip
      refine lv_aload_n hx hb dJ0_charAt_5068e_7 rfl (lv_at hl 0 rfl) ?_
      refine vk_getf hx hb (st_V hT) hS hown (htg (.fieldLink RJ0 9 "java/lang/String" "value" "[B") kw_9_64) (fun _ h9 => h9) dJ0_charAt_5068e_8 ?_
      refine lv_iload_n hx hb dJ0_charAt_5068e_11 rfl (lv_at hl 1 rfl) ?_
      refine va_calli (va_runS (As := [.ref av, .int ii]) (rest := []) ⟨hx, hb, hml, hown, hts⟩ (x_lcharAtC l H.size ak av ln bt ii h_ii (by omega)) (va_cwS 2 hts (gS kw_4_63 kw_4_64 kw_1_20 kw_4_65) rfl rfl rfl (by decide +kernel) ⟨Nat.le_of_ble_eq_true rfl, Nat.le_of_ble_eq_true rfl⟩) ⟨fun a U g mk q => ⟨q.1, q.2.1, st_mv (U := U.calling g mk a) rfl (Vm.Alike.refl U.vm) q.2.2⟩, fun U hU hW => ⟨rfl, congrArg Array.size hU, st_pass hT hS hU hW.alike (fun q h9 => Nat.le_trans hS.1 h9)⟩⟩ rfl rfl hl.1 rfl (lv_room (Nat.le_of_ble_eq_true rfl)) dJ0_charAt_5068e_12 ⟨Nat.le_of_ble_eq_true rfl, Nat.le_of_ble_eq_true rfl⟩) hS (fun q _ h9 => Nat.le_trans hS.1 h9) (fun q h9 => Nat.le_trans hS.1 h9) (fun r_5 u t H1 locs ht _ hw hB _ hk1 hS => ?_)
      obtain ⟨p_6, p_7, -⟩ := hw
      skip
      generalize H1 = H at hS ⊢
      exact W.zret (v := r_5) hx hb hr (st_nar p_6) (fun t ht hW => ⟨⟨r_5, (), rfl, ⟨p_6, (show r_5 = bt ii.toInt.toNat &&& 255 from p_7), trivial⟩, trivial⟩, hS.F ht⟩) hS.2.2 dJ0_charAt_5068e_15

set_option maxHeartbeats 4000000 in
set_option maxRecDepth 100000 in
theorem x_holdsE (l : Launch) (dC : Nat → ClassId) (dI : Nat → Nat → Nat) (sz : Nat) (ob ad : Nat → Nat) (cA : Nat → ClassId) (hd : dX ob ad) (fv : Nat → Int32) (wd : xT) (ar : Nat → Nat → Int32) (hF_fv : rX fv) (hA_ar : rB ar) (la : Nat) (lfr : Int32) (lra : Nat → Nat) (lrc : Nat → ClassId) (lln lcn : Nat) (llr : Nat → Nat → Int32) (hlq : lwQ lln lcn llr) (ln : Int32) (h_ln : 0 ≤ ln.toInt ∧ ln.toInt ≤ 15) (hln : ln.toInt < lln) (hgd : cd_gd (cd_gX llr ln.toInt.toNat)) (h01 : ∀ k, k < 4 → (cd_f (ar 4)) k = 0 ∨ (cd_f (ar 4)) k = 1) : Met l yX0_holds (.code yX0_holds cX0_holds 7 (some .boolean) :: lw_good) ({ frames := 2, cells := 0, slots := 0, locals := 40 }) (va_Pc [.ref la, .int ln, .ref (ad 4)] (fun U => prX dC dI ob ad cA fv wd ar sz U ∧ lwA dC dI ob ad la lfr lra lrc lln lcn llr sz U)) (va_Qi (fun (r : Int32) (u : xS) => rX u.1 ∧ rB u.2.2 ∧ fM [] fv u.1 ∧ fA [] ar u.2.2 ∧ u.2.1.2 = wd.2 ∧ (0 ≤ r.toInt ∧ r.toInt ≤ 1) ∧ ((r = 1 ∧ cd_ho (cd_f (ar 4)) (cd_gX llr ln.toInt.toNat).2.2 = true) ∨ (r = 0 ∧ cd_ho (cd_f (ar 4)) (cd_gX llr ln.toInt.toNat).2.2 = false)) ∧ True) (enX dC dI ob ad cA) (aX ob ad sz)) 0 0 (aX ob ad sz) := by
  refine Met.ofW (cc := cX0_holds) (maxL := 7) (ret := (some .boolean)) (by decide) rfl ?_
  intro p e s m args below meth c s₁ B hml hv
  obtain ⟨rfl, ⟨hsz, hP, hK⟩, hL⟩ := hv
  have hx := B.exec
  have hb := B.bytes
  have hr := B.returns
  have hts := atoms_spec (ws := (.code yX0_holds cX0_holds 7 (some .boolean) :: lw_good)) B.pre
  have htg : ∀ w ∈ lw_good, w.before _ s = true := fun w hw => hts w (List.mem_cons_of_mem _ hw)
  have hown : s.vm.findClass RX0 = some m.cls := findClass_of_methodNamed B.named
  have hlocks := B.notSynchronized
  subst hsz
  have hS : va_S (aX ob ad s.heap.size) s.heap s.heap [] := va_S.rf
  have hl := lv_entry ([.ref la, .int ln, .ref (ad 4)]) (n := 7) (Nat.le_of_ble_eq_true rfl)
  rw [lg_entry_eq]
  generalize (lg_sl ([.ref la, .int ln, .ref (ad 4)]) ++ List.replicate (7 - (lg_sl ([.ref la, .int ln, .ref (ad 4)])).length) Slot.unset).toArray = ls at hl ⊢
  have hl : lv_has ls 7 [(0, .ref la), (1, .int ln), (2, .ref (ad 4))] := hl
  refine lv_iload_n hx hb dX0_holds_0 rfl (lv_at hl 1 rfl) ?_
  refine my_cut (P := fun R9 a9 Q9 => ∀ (x_12 : Int32) (H : Heap) (locs : List Loc) (ls : Array Slot), (0 ≤ x_12.toInt ∧ x_12.toInt ≤ 100) → (x_12.toInt.toNat = cd_bg (llr 3) (ln.toInt.toNat)) → va_P (dC, dI) vwCl (wsX ob ad cA fv wd ar) H → va_S (aX ob ad s.heap.size) s.heap H locs → lv_has ls 7 [(0, .ref la), (1, .int ln), (2, .ref (ad 4))] → W p l e R9 s m a9 below meth c H locs 0 0 Q9 (F0 m 16 ls [.int x_12])) ?_ (fun hj_14 => ?_)
  · intro x_12 H locs ls i_x_12 q_13 hP hS hl
    refine lv_istore_n (lv' := [(3, .int x_12), (0, .ref la), (1, .int ln), (2, .ref (ad 4))]) hx hb dX0_holds_16 rfl hl (by decide) rfl (fun ls hl => ?_)
    refine lv_iconst (v := 1) hx hb dX0_holds_17 (by decide) ?_
    refine lv_istore (lv' := [(4, .int 1), (3, .int x_12), (0, .ref la), (1, .int ln), (2, .ref (ad 4))]) hx hb dX0_holds_18 hl (by decide) rfl (fun ls hl => ?_)
    refine lv_iload_n hx hb dX0_holds_20 rfl (lv_at hl 1 rfl) ?_
    refine lv_istore (lv' := [(5, .int x_12), (4, .int 1), (3, .int x_12), (0, .ref la), (1, .int ln), (2, .ref (ad 4))]) hx hb dX0_holds_21 hl (by decide) rfl (fun ls hl => ?_)
    refine my_cut (P := fun R9 a9 Q9 => ∀ (n_18 : Nat) (x_15 : Int32) (x_16 : Int32) (H : Heap) (locs : List Loc) (ls : Array Slot), 100 - x_16.toInt < (n_18 : Int) → (0 ≤ x_16.toInt ∧ x_16.toInt ≤ 100) → (cb_I (cd_f (ar 4)) (llr 4) (llr 5) (llr 6) (x_16.toInt.toNat) ((llr 3 (ln.toInt.toNat)).toInt.toNat) x_15 (cd_ev (cd_f (ar 4)) [] (cd_gX llr ln.toInt.toNat).2.2)) → va_P (dC, dI) vwCl (wsX ob ad cA fv wd ar) H → va_S (aX ob ad s.heap.size) s.heap H locs → lv_has ls 7 [(0, .ref la), (1, .int ln), (2, .ref (ad 4)), (4, .int x_15), (5, .int x_16)] → W p l e R9 s m a9 below meth c H locs 0 0 Q9 (F0 m 23 ls [])) ?_ (fun hj_20 => ?_)
    · intro n_18
      induction n_18 with
      | zero => intro x_15 x_16 H locs ls fu_19 i_x_16 q_17; exfalso; omega
      | succ n_18 ih_18 =>
        intro x_15 x_16 H locs ls fu_19 i_x_16 q_17 hP hS hl
        refine lv_iload hx hb dX0_holds_23 (lv_at hl 4 rfl) ?_
        refine lv_aload_n hx hb dX0_holds_25 rfl (lv_at hl 0 rfl) ?_
        refine gL_X0_22 hx hb htg hown (lw_K hL) (lw_now hL hS) dX0_holds_26 ?_
        refine lv_iload_n hx hb dX0_holds_29 rfl (lv_at hl 1 rfl) ?_
        refine lL_3 hx hb (lw_K hL) (lw_now hL hS) (vp_in_iff.mpr (by omega)) dX0_holds_30 (fun v_21 ev_21 => ?_)
        have i_22 : 0 ≤ v_21.toInt ∧ v_21.toInt ≤ 100 := (by have h9 := (hlq.2.2 ln.toNatClampNeg).1; rw [← ev_21] at h9; have h8 := hlq.2.1; omega)
        have k_23 : v_21.toInt ≤ lcn := (by have h9 := (hlq.2.2 ln.toNatClampNeg).1; rw [← ev_21] at h9; exact h9.2)
        refine lv_icmp_ge (tgt := 237) hx hb dX0_holds_31 (by decide) (fun c_24 => ?_) (fun c_24 => ?_)
        · skip
          have k_25 := Int32.le_iff_toInt_le.mp c_24
          refine lv_iload hx hb dX0_holds_237 (lv_at hl 3 rfl) ?_
          refine lv_iconst (v := 1) hx hb dX0_holds_239 (by decide) ?_
          refine lv_iand hx hb dX0_holds_240 ?_
          refine lv_topi (fun v_153 ev_153 => ?_)
          have i_154 : 0 ≤ v_153.toInt ∧ v_153.toInt ≤ 1 := iv_1 ev_153
          refine lv_iconst (v := 1) hx hb dX0_holds_241 (by decide) ?_
          refine lv_icmp_ne (tgt := 249) hx hb dX0_holds_242 (by decide) (fun c_155 => ?_) (fun c_155 => ?_)
          · skip
            have i_156 : 0 ≤ v_153.toInt ∧ v_153.toInt ≤ 0 := iv_neh i_154 (by decide) c_155
            have k_157 : ¬ v_153.toInt = 1 := fun q => c_155 (Int32.toInt_inj.mp q)
            refine lv_iconst (v := 0) hx hb dX0_holds_249 (by decide) ?_
            have z_158 : (0 : Int32).toInt = 0 := by decide
            exact W.zret (v := 0) hx hb hr (by decide) (fun t ht hW => ⟨⟨0, (fv, wd, ar), rfl, ⟨hF_fv, hA_ar, (fM_rf [] _), (fA_rf [] _), rfl, (iv_w (⟨by decide, by decide⟩ : (0 : Int) ≤ (0 : Int32).toInt ∧ (0 : Int32).toInt ≤ 0) (by decide) (by decide)), (show ((0 : Int32) = 1 ∧ cd_ho (cd_f (ar 4)) (cd_gX llr ln.toInt.toNat).2.2 = true) ∨ ((0 : Int32) = 0 ∧ cd_ho (cd_f (ar 4)) (cd_gX llr ln.toInt.toNat).2.2 = false) from by have hE9 : llr 3 (ln.toInt.toNat) = v_21 := ev_21.symm; have h9 := cb_I_end q_17 (by rw [hE9]; omega) ev_153; rcases h9 with ⟨a9, b9⟩ | ⟨a9, b9⟩; exfalso; omega; exact Or.inr ⟨rfl, b9⟩), trivial⟩, ⟨by rw [ht]; exact hP, va_K.moved hW.alike hK⟩⟩, hS.F ht⟩) hS.2.2 dX0_holds_250
          · skip
            have i_159 : 1 ≤ v_153.toInt ∧ v_153.toInt ≤ 1 := iv_eq1 (⟨by decide, by decide⟩ : (1 : Int) ≤ (1 : Int32).toInt ∧ (1 : Int32).toInt ≤ 1) c_155
            refine lv_iconst (v := 1) hx hb dX0_holds_245 (by decide) ?_
            refine lv_goto (tgt := 250) hx hb dX0_holds_246 (by decide) ?_
            have z_161 : (1 : Int32).toInt = 1 := by decide
            exact W.zret (v := 1) hx hb hr (by decide) (fun t ht hW => ⟨⟨1, (fv, wd, ar), rfl, ⟨hF_fv, hA_ar, (fM_rf [] _), (fA_rf [] _), rfl, (iv_w (⟨by decide, by decide⟩ : (1 : Int) ≤ (1 : Int32).toInt ∧ (1 : Int32).toInt ≤ 1) (by decide) (by decide)), (show ((1 : Int32) = 1 ∧ cd_ho (cd_f (ar 4)) (cd_gX llr ln.toInt.toNat).2.2 = true) ∨ ((1 : Int32) = 0 ∧ cd_ho (cd_f (ar 4)) (cd_gX llr ln.toInt.toNat).2.2 = false) from by have hE9 : llr 3 (ln.toInt.toNat) = v_21 := ev_21.symm; have h9 := cb_I_end q_17 (by rw [hE9]; omega) ev_153; rcases h9 with ⟨a9, b9⟩ | ⟨a9, b9⟩; exact Or.inl ⟨rfl, b9⟩; exfalso; omega), trivial⟩, ⟨by rw [ht]; exact hP, va_K.moved hW.alike hK⟩⟩, hS.F ht⟩) hS.2.2 dX0_holds_250
        · skip
          have i_26 : 0 ≤ x_16.toInt ∧ x_16.toInt ≤ 99 := iv_lt1 i_x_16 i_22 (Int32.not_le.mp c_24)
          have i_27 : 1 ≤ v_21.toInt ∧ v_21.toInt ≤ 100 := iv_lt2 i_x_16 i_22 (Int32.not_le.mp c_24)
          have k_28 := Int32.lt_iff_toInt_lt.mp (Int32.not_le.mp c_24)
          refine lv_aload_n hx hb dX0_holds_34 rfl (lv_at hl 2 rfl) ?_
          refine lv_aload_n hx hb dX0_holds_35 rfl (lv_at hl 0 rfl) ?_
          refine gL_X0_28 hx hb htg hown (lw_K hL) (lw_now hL hS) dX0_holds_36 ?_
          refine lv_iload hx hb dX0_holds_39 (lv_at hl 4 rfl) ?_
          refine lL_5 hx hb (lw_K hL) (lw_now hL hS) (vp_in_iff.mpr (by omega)) dX0_holds_41 (fun v_29 ev_29 => ?_)
          have i_30 : 0 ≤ v_29.toInt ∧ v_29.toInt ≤ 11 := ev_29 ▸ (hlq.2.2 x_16.toNatClampNeg).2
          refine lX_4 hx hb hK hP (iv_in i_30 (by decide) (by decide)) dX0_holds_42 (fun v_31 ev_31 => ?_)
          refine lv_istore (lv' := [(6, .int v_31), (0, .ref la), (1, .int ln), (2, .ref (ad 4)), (4, .int x_15), (5, .int x_16)]) hx hb dX0_holds_43 hl (by decide) rfl (fun ls hl => ?_)
          refine lv_aload_n hx hb dX0_holds_45 rfl (lv_at hl 1 rfl) ?_
          refine gL_X0_25 hx hb htg hown (lw_K hL) (lw_now hL hS) dX0_holds_46 ?_
          refine lv_iload hx hb dX0_holds_49 (lv_at hl 5 rfl) ?_
          refine lL_4 hx hb (lw_K hL) (lw_now hL hS) (vp_in_iff.mpr (by omega)) dX0_holds_51 (fun v_32 ev_32 => ?_)
          rcases ix_sw_0_6 v_32 with w_33 | w_33 | w_33 | w_33 | w_33 | w_33 | w_33 | w_33
          · skip
            refine lv_tableOut (tgt := 207) hx hb dX0_holds_52 (Or.inl w_33) (by decide) ?_
            have k_34 : ¬ v_32.toInt = 0 ∧ ¬ v_32.toInt = 1 ∧ ¬ v_32.toInt = 3 ∧ ¬ v_32.toInt = 4 ∧ ¬ v_32.toInt = 5 := by first | (refine ⟨?_, ?_, ?_, ?_, ?_⟩ <;> omega) | (have h8 : v_32.toInt = 2 := (congrArg Int32.toInt (by assumption : v_32 = (2 : Int32))).trans (by decide); refine ⟨?_, ?_, ?_, ?_, ?_⟩ <;> omega)
            refine lv_iload hx hb dX0_holds_207 (lv_at hl 4 rfl) ?_
            refine lv_iconst (v := 1) hx hb dX0_holds_209 (by decide) ?_
            refine lv_ishl hx hb dX0_holds_210 ?_
            refine lv_topi (fun v_35 ev_35 => ?_)
            refine lv_iload hx hb dX0_holds_211 (lv_at hl 0 rfl) ?_
            refine lv_aload_n hx hb dX0_holds_213 rfl (lv_at hl 1 rfl) ?_
            refine gL_X0_31 hx hb htg hown (lw_K hL) (lw_now hL hS) dX0_holds_214 ?_
            refine lv_iload hx hb dX0_holds_217 (lv_at hl 5 rfl) ?_
            refine lL_6 hx hb (lw_K hL) (lw_now hL hS) (vp_in_iff.mpr (by omega)) dX0_holds_219 (fun v_36 ev_36 => ?_)
            refine lv_icmp_le (tgt := 227) hx hb dX0_holds_220 (by decide) (fun c_37 => ?_) (fun c_37 => ?_)
            · skip
              have k_38 := Int32.le_iff_toInt_le.mp c_37
              refine lv_iconst (v := 0) hx hb dX0_holds_227 (by decide) ?_
              refine lv_ior hx hb dX0_holds_228 ?_
              refine lv_topi (fun v_39 ev_39 => ?_)
              refine lv_istore (lv' := [(4, .int v_39), (6, .int v_31), (0, .ref la), (1, .int ln), (2, .ref (ad 4)), (5, .int x_16)]) hx hb dX0_holds_229 hl (by decide) rfl (fun ls hl => ?_)
              obtain ⟨v_40, ev_40⟩ : ∃ z : Int32, z = x_16 + 1 := ⟨_, rfl⟩
              refine lv_iinc (v := v_40) (lv' := [(5, .int v_40), (4, .int v_39), (6, .int v_31), (0, .ref la), (1, .int ln), (2, .ref (ad 4))]) hx hb dX0_holds_231 hl (k := 5) rfl (by rw [ev_40]; rfl) (by decide) rfl (fun ls hl => ?_)
              have t_41 : v_40.toInt = x_16.toInt + 1 ∧ 1 ≤ v_40.toInt ∧ v_40.toInt ≤ 100 := iv_addc ev_40 i_26 (by decide) (by decide) (by decide)
              refine lv_goto (tgt := 23) hx hb dX0_holds_234 (by decide) ?_
              exact ih_18 v_39 v_40 _ _ ls (by omega) (iv_w t_41.2 (by decide) (by decide)) (by have ha9 : llr 4 (x_16.toInt.toNat) = v_32 := ev_32.symm; have hE9 : llr 3 (ln.toInt.toNat) = v_21 := ev_21.symm; have hn9 : llr 6 (x_16.toInt.toNat) = v_36 := ev_36.symm; have hf9 : (cd_f (ar 4)) ((llr 5 (x_16.toInt.toNat)).toInt.toNat) = v_31.toInt := (by rw [show llr 5 (x_16.toInt.toNat) = v_29 from ev_29.symm]; unfold cd_f; rw [if_pos (by omega), ev_31]; rfl); rw [show v_40.toInt.toNat = x_16.toInt.toNat + 1 from by omega]; exact cb_I_psh q_17 (by rw [hE9]; omega) (by rw [ha9]; omega) hf9 h01 (Or.inr ⟨rfl, by rw [ha9, hn9]; unfold cd_tst; rw [if_neg (by omega), if_neg (by omega)]; exact decide_eq_false (by omega)⟩) ev_35 ev_39) hP hS (lv_sub hl [3, 4, 5, 1, 0] rfl)
            · skip
              have i_43 : (-2147483648) ≤ v_36.toInt ∧ v_36.toInt ≤ 2147483646 := iv_lt1 (iv_any v_36) (iv_any v_31) (Int32.not_le.mp c_37)
              have i_44 : (-2147483647) ≤ v_31.toInt ∧ v_31.toInt ≤ 2147483647 := iv_lt2 (iv_any v_36) (iv_any v_31) (Int32.not_le.mp c_37)
              have k_45 := Int32.lt_iff_toInt_lt.mp (Int32.not_le.mp c_37)
              refine lv_iconst (v := 1) hx hb dX0_holds_223 (by decide) ?_
              refine lv_goto (tgt := 228) hx hb dX0_holds_224 (by decide) ?_
              refine lv_ior hx hb dX0_holds_228 ?_
              refine lv_topi (fun v_46 ev_46 => ?_)
              refine lv_istore (lv' := [(4, .int v_46), (6, .int v_31), (0, .ref la), (1, .int ln), (2, .ref (ad 4)), (5, .int x_16)]) hx hb dX0_holds_229 hl (by decide) rfl (fun ls hl => ?_)
              obtain ⟨v_47, ev_47⟩ : ∃ z : Int32, z = x_16 + 1 := ⟨_, rfl⟩
              refine lv_iinc (v := v_47) (lv' := [(5, .int v_47), (4, .int v_46), (6, .int v_31), (0, .ref la), (1, .int ln), (2, .ref (ad 4))]) hx hb dX0_holds_231 hl (k := 5) rfl (by rw [ev_47]; rfl) (by decide) rfl (fun ls hl => ?_)
              have t_48 : v_47.toInt = x_16.toInt + 1 ∧ 1 ≤ v_47.toInt ∧ v_47.toInt ≤ 100 := iv_addc ev_47 i_26 (by decide) (by decide) (by decide)
              refine lv_goto (tgt := 23) hx hb dX0_holds_234 (by decide) ?_
              exact ih_18 v_46 v_47 _ _ ls (by omega) (iv_w t_48.2 (by decide) (by decide)) (by have ha9 : llr 4 (x_16.toInt.toNat) = v_32 := ev_32.symm; have hE9 : llr 3 (ln.toInt.toNat) = v_21 := ev_21.symm; have hn9 : llr 6 (x_16.toInt.toNat) = v_36 := ev_36.symm; have hf9 : (cd_f (ar 4)) ((llr 5 (x_16.toInt.toNat)).toInt.toNat) = v_31.toInt := (by rw [show llr 5 (x_16.toInt.toNat) = v_29 from ev_29.symm]; unfold cd_f; rw [if_pos (by omega), ev_31]; rfl); rw [show v_47.toInt.toNat = x_16.toInt.toNat + 1 from by omega]; exact cb_I_psh q_17 (by rw [hE9]; omega) (by rw [ha9]; omega) hf9 h01 (Or.inl ⟨rfl, by rw [ha9, hn9]; unfold cd_tst; rw [if_neg (by omega), if_neg (by omega)]; exact decide_eq_true (by omega)⟩) ev_35 ev_46) hP hS (lv_sub hl [3, 4, 5, 1, 0] rfl)
          · skip
            refine lv_tableOut (tgt := 207) hx hb dX0_holds_52 (Or.inr w_33) (by decide) ?_
            have k_50 : ¬ v_32.toInt = 0 ∧ ¬ v_32.toInt = 1 ∧ ¬ v_32.toInt = 3 ∧ ¬ v_32.toInt = 4 ∧ ¬ v_32.toInt = 5 := by first | (refine ⟨?_, ?_, ?_, ?_, ?_⟩ <;> omega) | (have h8 : v_32.toInt = 2 := (congrArg Int32.toInt (by assumption : v_32 = (2 : Int32))).trans (by decide); refine ⟨?_, ?_, ?_, ?_, ?_⟩ <;> omega)
            refine lv_iload hx hb dX0_holds_207 (lv_at hl 4 rfl) ?_
            refine lv_iconst (v := 1) hx hb dX0_holds_209 (by decide) ?_
            refine lv_ishl hx hb dX0_holds_210 ?_
            refine lv_topi (fun v_51 ev_51 => ?_)
            refine lv_iload hx hb dX0_holds_211 (lv_at hl 0 rfl) ?_
            refine lv_aload_n hx hb dX0_holds_213 rfl (lv_at hl 1 rfl) ?_
            refine gL_X0_31 hx hb htg hown (lw_K hL) (lw_now hL hS) dX0_holds_214 ?_
            refine lv_iload hx hb dX0_holds_217 (lv_at hl 5 rfl) ?_
            refine lL_6 hx hb (lw_K hL) (lw_now hL hS) (vp_in_iff.mpr (by omega)) dX0_holds_219 (fun v_52 ev_52 => ?_)
            refine lv_icmp_le (tgt := 227) hx hb dX0_holds_220 (by decide) (fun c_53 => ?_) (fun c_53 => ?_)
            · skip
              have k_54 := Int32.le_iff_toInt_le.mp c_53
              refine lv_iconst (v := 0) hx hb dX0_holds_227 (by decide) ?_
              refine lv_ior hx hb dX0_holds_228 ?_
              refine lv_topi (fun v_55 ev_55 => ?_)
              refine lv_istore (lv' := [(4, .int v_55), (6, .int v_31), (0, .ref la), (1, .int ln), (2, .ref (ad 4)), (5, .int x_16)]) hx hb dX0_holds_229 hl (by decide) rfl (fun ls hl => ?_)
              obtain ⟨v_56, ev_56⟩ : ∃ z : Int32, z = x_16 + 1 := ⟨_, rfl⟩
              refine lv_iinc (v := v_56) (lv' := [(5, .int v_56), (4, .int v_55), (6, .int v_31), (0, .ref la), (1, .int ln), (2, .ref (ad 4))]) hx hb dX0_holds_231 hl (k := 5) rfl (by rw [ev_56]; rfl) (by decide) rfl (fun ls hl => ?_)
              have t_57 : v_56.toInt = x_16.toInt + 1 ∧ 1 ≤ v_56.toInt ∧ v_56.toInt ≤ 100 := iv_addc ev_56 i_26 (by decide) (by decide) (by decide)
              refine lv_goto (tgt := 23) hx hb dX0_holds_234 (by decide) ?_
              exact ih_18 v_55 v_56 _ _ ls (by omega) (iv_w t_57.2 (by decide) (by decide)) (by have ha9 : llr 4 (x_16.toInt.toNat) = v_32 := ev_32.symm; have hE9 : llr 3 (ln.toInt.toNat) = v_21 := ev_21.symm; have hn9 : llr 6 (x_16.toInt.toNat) = v_52 := ev_52.symm; have hf9 : (cd_f (ar 4)) ((llr 5 (x_16.toInt.toNat)).toInt.toNat) = v_31.toInt := (by rw [show llr 5 (x_16.toInt.toNat) = v_29 from ev_29.symm]; unfold cd_f; rw [if_pos (by omega), ev_31]; rfl); rw [show v_56.toInt.toNat = x_16.toInt.toNat + 1 from by omega]; exact cb_I_psh q_17 (by rw [hE9]; omega) (by rw [ha9]; omega) hf9 h01 (Or.inr ⟨rfl, by rw [ha9, hn9]; unfold cd_tst; rw [if_neg (by omega), if_neg (by omega)]; exact decide_eq_false (by omega)⟩) ev_51 ev_55) hP hS (lv_sub hl [3, 4, 5, 1, 0] rfl)
            · skip
              have i_59 : (-2147483648) ≤ v_52.toInt ∧ v_52.toInt ≤ 2147483646 := iv_lt1 (iv_any v_52) (iv_any v_31) (Int32.not_le.mp c_53)
              have i_60 : (-2147483647) ≤ v_31.toInt ∧ v_31.toInt ≤ 2147483647 := iv_lt2 (iv_any v_52) (iv_any v_31) (Int32.not_le.mp c_53)
              have k_61 := Int32.lt_iff_toInt_lt.mp (Int32.not_le.mp c_53)
              refine lv_iconst (v := 1) hx hb dX0_holds_223 (by decide) ?_
              refine lv_goto (tgt := 228) hx hb dX0_holds_224 (by decide) ?_
              refine lv_ior hx hb dX0_holds_228 ?_
              refine lv_topi (fun v_62 ev_62 => ?_)
              refine lv_istore (lv' := [(4, .int v_62), (6, .int v_31), (0, .ref la), (1, .int ln), (2, .ref (ad 4)), (5, .int x_16)]) hx hb dX0_holds_229 hl (by decide) rfl (fun ls hl => ?_)
              obtain ⟨v_63, ev_63⟩ : ∃ z : Int32, z = x_16 + 1 := ⟨_, rfl⟩
              refine lv_iinc (v := v_63) (lv' := [(5, .int v_63), (4, .int v_62), (6, .int v_31), (0, .ref la), (1, .int ln), (2, .ref (ad 4))]) hx hb dX0_holds_231 hl (k := 5) rfl (by rw [ev_63]; rfl) (by decide) rfl (fun ls hl => ?_)
              have t_64 : v_63.toInt = x_16.toInt + 1 ∧ 1 ≤ v_63.toInt ∧ v_63.toInt ≤ 100 := iv_addc ev_63 i_26 (by decide) (by decide) (by decide)
              refine lv_goto (tgt := 23) hx hb dX0_holds_234 (by decide) ?_
              exact ih_18 v_62 v_63 _ _ ls (by omega) (iv_w t_64.2 (by decide) (by decide)) (by have ha9 : llr 4 (x_16.toInt.toNat) = v_32 := ev_32.symm; have hE9 : llr 3 (ln.toInt.toNat) = v_21 := ev_21.symm; have hn9 : llr 6 (x_16.toInt.toNat) = v_52 := ev_52.symm; have hf9 : (cd_f (ar 4)) ((llr 5 (x_16.toInt.toNat)).toInt.toNat) = v_31.toInt := (by rw [show llr 5 (x_16.toInt.toNat) = v_29 from ev_29.symm]; unfold cd_f; rw [if_pos (by omega), ev_31]; rfl); rw [show v_63.toInt.toNat = x_16.toInt.toNat + 1 from by omega]; exact cb_I_psh q_17 (by rw [hE9]; omega) (by rw [ha9]; omega) hf9 h01 (Or.inl ⟨rfl, by rw [ha9, hn9]; unfold cd_tst; rw [if_neg (by omega), if_neg (by omega)]; exact decide_eq_true (by omega)⟩) ev_51 ev_62) hP hS (lv_sub hl [3, 4, 5, 1, 0] rfl)
          · skip
            refine lv_tableIn (off := 101) (tgt := 153) hx hb dX0_holds_52 (by rw [w_33]; decide) (by rw [w_33]; decide) (by rw [w_33]; rfl) (by decide) ?_
            have k_66 : v_32.toInt = 0 := (congrArg Int32.toInt (by assumption : v_32 = (0 : Int32))).trans (by decide)
            refine lv_iload hx hb dX0_holds_153 (lv_at hl 4 rfl) ?_
            refine lv_iconst (v := 1) hx hb dX0_holds_155 (by decide) ?_
            refine lv_ishl hx hb dX0_holds_156 ?_
            refine lv_topi (fun v_67 ev_67 => ?_)
            refine lv_iload hx hb dX0_holds_157 (lv_at hl 0 rfl) ?_
            refine lv_aload_n hx hb dX0_holds_159 rfl (lv_at hl 1 rfl) ?_
            refine gL_X0_31 hx hb htg hown (lw_K hL) (lw_now hL hS) dX0_holds_160 ?_
            refine lv_iload hx hb dX0_holds_163 (lv_at hl 5 rfl) ?_
            refine lL_6 hx hb (lw_K hL) (lw_now hL hS) (vp_in_iff.mpr (by omega)) dX0_holds_165 (fun v_68 ev_68 => ?_)
            refine lv_icmp_ge (tgt := 173) hx hb dX0_holds_166 (by decide) (fun c_69 => ?_) (fun c_69 => ?_)
            · skip
              have k_70 := Int32.le_iff_toInt_le.mp c_69
              refine lv_iconst (v := 0) hx hb dX0_holds_173 (by decide) ?_
              refine lv_ior hx hb dX0_holds_174 ?_
              refine lv_topi (fun v_71 ev_71 => ?_)
              refine lv_istore (lv' := [(4, .int v_71), (6, .int v_31), (0, .ref la), (1, .int ln), (2, .ref (ad 4)), (5, .int x_16)]) hx hb dX0_holds_175 hl (by decide) rfl (fun ls hl => ?_)
              refine lv_goto (tgt := 231) hx hb dX0_holds_177 (by decide) ?_
              obtain ⟨v_72, ev_72⟩ : ∃ z : Int32, z = x_16 + 1 := ⟨_, rfl⟩
              refine lv_iinc (v := v_72) (lv' := [(5, .int v_72), (4, .int v_71), (6, .int v_31), (0, .ref la), (1, .int ln), (2, .ref (ad 4))]) hx hb dX0_holds_231 hl (k := 5) rfl (by rw [ev_72]; rfl) (by decide) rfl (fun ls hl => ?_)
              have t_73 : v_72.toInt = x_16.toInt + 1 ∧ 1 ≤ v_72.toInt ∧ v_72.toInt ≤ 100 := iv_addc ev_72 i_26 (by decide) (by decide) (by decide)
              refine lv_goto (tgt := 23) hx hb dX0_holds_234 (by decide) ?_
              exact ih_18 v_71 v_72 _ _ ls (by omega) (iv_w t_73.2 (by decide) (by decide)) (by have ha9 : llr 4 (x_16.toInt.toNat) = v_32 := ev_32.symm; have hE9 : llr 3 (ln.toInt.toNat) = v_21 := ev_21.symm; have hn9 : llr 6 (x_16.toInt.toNat) = v_68 := ev_68.symm; have hf9 : (cd_f (ar 4)) ((llr 5 (x_16.toInt.toNat)).toInt.toNat) = v_31.toInt := (by rw [show llr 5 (x_16.toInt.toNat) = v_29 from ev_29.symm]; unfold cd_f; rw [if_pos (by omega), ev_31]; rfl); rw [show v_72.toInt.toNat = x_16.toInt.toNat + 1 from by omega]; exact cb_I_psh q_17 (by rw [hE9]; omega) (by rw [ha9]; omega) hf9 h01 (Or.inr ⟨rfl, by rw [ha9, hn9]; unfold cd_tst; rw [if_pos (by omega)]; exact decide_eq_false (by omega)⟩) ev_67 ev_71) hP hS (lv_sub hl [3, 4, 5, 1, 0] rfl)
            · skip
              have i_75 : (-2147483648) ≤ v_31.toInt ∧ v_31.toInt ≤ 2147483646 := iv_lt1 (iv_any v_31) (iv_any v_68) (Int32.not_le.mp c_69)
              have i_76 : (-2147483647) ≤ v_68.toInt ∧ v_68.toInt ≤ 2147483647 := iv_lt2 (iv_any v_31) (iv_any v_68) (Int32.not_le.mp c_69)
              have k_77 := Int32.lt_iff_toInt_lt.mp (Int32.not_le.mp c_69)
              refine lv_iconst (v := 1) hx hb dX0_holds_169 (by decide) ?_
              refine lv_goto (tgt := 174) hx hb dX0_holds_170 (by decide) ?_
              refine lv_ior hx hb dX0_holds_174 ?_
              refine lv_topi (fun v_78 ev_78 => ?_)
              refine lv_istore (lv' := [(4, .int v_78), (6, .int v_31), (0, .ref la), (1, .int ln), (2, .ref (ad 4)), (5, .int x_16)]) hx hb dX0_holds_175 hl (by decide) rfl (fun ls hl => ?_)
              refine lv_goto (tgt := 231) hx hb dX0_holds_177 (by decide) ?_
              obtain ⟨v_79, ev_79⟩ : ∃ z : Int32, z = x_16 + 1 := ⟨_, rfl⟩
              refine lv_iinc (v := v_79) (lv' := [(5, .int v_79), (4, .int v_78), (6, .int v_31), (0, .ref la), (1, .int ln), (2, .ref (ad 4))]) hx hb dX0_holds_231 hl (k := 5) rfl (by rw [ev_79]; rfl) (by decide) rfl (fun ls hl => ?_)
              have t_80 : v_79.toInt = x_16.toInt + 1 ∧ 1 ≤ v_79.toInt ∧ v_79.toInt ≤ 100 := iv_addc ev_79 i_26 (by decide) (by decide) (by decide)
              refine lv_goto (tgt := 23) hx hb dX0_holds_234 (by decide) ?_
              exact ih_18 v_78 v_79 _ _ ls (by omega) (iv_w t_80.2 (by decide) (by decide)) (by have ha9 : llr 4 (x_16.toInt.toNat) = v_32 := ev_32.symm; have hE9 : llr 3 (ln.toInt.toNat) = v_21 := ev_21.symm; have hn9 : llr 6 (x_16.toInt.toNat) = v_68 := ev_68.symm; have hf9 : (cd_f (ar 4)) ((llr 5 (x_16.toInt.toNat)).toInt.toNat) = v_31.toInt := (by rw [show llr 5 (x_16.toInt.toNat) = v_29 from ev_29.symm]; unfold cd_f; rw [if_pos (by omega), ev_31]; rfl); rw [show v_79.toInt.toNat = x_16.toInt.toNat + 1 from by omega]; exact cb_I_psh q_17 (by rw [hE9]; omega) (by rw [ha9]; omega) hf9 h01 (Or.inl ⟨rfl, by rw [ha9, hn9]; unfold cd_tst; rw [if_pos (by omega)]; exact decide_eq_true (by omega)⟩) ev_67 ev_78) hP hS (lv_sub hl [3, 4, 5, 1, 0] rfl)
          · skip
            refine lv_tableIn (off := 128) (tgt := 180) hx hb dX0_holds_52 (by rw [w_33]; decide) (by rw [w_33]; decide) (by rw [w_33]; rfl) (by decide) ?_
            have k_82 : v_32.toInt = 1 := (congrArg Int32.toInt (by assumption : v_32 = (1 : Int32))).trans (by decide)
            refine lv_iload hx hb dX0_holds_180 (lv_at hl 4 rfl) ?_
            refine lv_iconst (v := 1) hx hb dX0_holds_182 (by decide) ?_
            refine lv_ishl hx hb dX0_holds_183 ?_
            refine lv_topi (fun v_83 ev_83 => ?_)
            refine lv_iload hx hb dX0_holds_184 (lv_at hl 0 rfl) ?_
            refine lv_aload_n hx hb dX0_holds_186 rfl (lv_at hl 1 rfl) ?_
            refine gL_X0_31 hx hb htg hown (lw_K hL) (lw_now hL hS) dX0_holds_187 ?_
            refine lv_iload hx hb dX0_holds_190 (lv_at hl 5 rfl) ?_
            refine lL_6 hx hb (lw_K hL) (lw_now hL hS) (vp_in_iff.mpr (by omega)) dX0_holds_192 (fun v_84 ev_84 => ?_)
            refine lv_icmp_ne (tgt := 200) hx hb dX0_holds_193 (by decide) (fun c_85 => ?_) (fun c_85 => ?_)
            · skip
              have k_86 : ¬ v_31.toInt = v_84.toInt := fun q => c_85 (Int32.toInt_inj.mp q)
              refine lv_iconst (v := 0) hx hb dX0_holds_200 (by decide) ?_
              refine lv_ior hx hb dX0_holds_201 ?_
              refine lv_topi (fun v_87 ev_87 => ?_)
              refine lv_istore (lv' := [(4, .int v_87), (6, .int v_31), (0, .ref la), (1, .int ln), (2, .ref (ad 4)), (5, .int x_16)]) hx hb dX0_holds_202 hl (by decide) rfl (fun ls hl => ?_)
              refine lv_goto (tgt := 231) hx hb dX0_holds_204 (by decide) ?_
              obtain ⟨v_88, ev_88⟩ : ∃ z : Int32, z = x_16 + 1 := ⟨_, rfl⟩
              refine lv_iinc (v := v_88) (lv' := [(5, .int v_88), (4, .int v_87), (6, .int v_31), (0, .ref la), (1, .int ln), (2, .ref (ad 4))]) hx hb dX0_holds_231 hl (k := 5) rfl (by rw [ev_88]; rfl) (by decide) rfl (fun ls hl => ?_)
              have t_89 : v_88.toInt = x_16.toInt + 1 ∧ 1 ≤ v_88.toInt ∧ v_88.toInt ≤ 100 := iv_addc ev_88 i_26 (by decide) (by decide) (by decide)
              refine lv_goto (tgt := 23) hx hb dX0_holds_234 (by decide) ?_
              exact ih_18 v_87 v_88 _ _ ls (by omega) (iv_w t_89.2 (by decide) (by decide)) (by have ha9 : llr 4 (x_16.toInt.toNat) = v_32 := ev_32.symm; have hE9 : llr 3 (ln.toInt.toNat) = v_21 := ev_21.symm; have hn9 : llr 6 (x_16.toInt.toNat) = v_84 := ev_84.symm; have hf9 : (cd_f (ar 4)) ((llr 5 (x_16.toInt.toNat)).toInt.toNat) = v_31.toInt := (by rw [show llr 5 (x_16.toInt.toNat) = v_29 from ev_29.symm]; unfold cd_f; rw [if_pos (by omega), ev_31]; rfl); rw [show v_88.toInt.toNat = x_16.toInt.toNat + 1 from by omega]; exact cb_I_psh q_17 (by rw [hE9]; omega) (by rw [ha9]; omega) hf9 h01 (Or.inr ⟨rfl, by rw [ha9, hn9]; unfold cd_tst; rw [if_neg (by omega), if_pos (by omega)]; exact decide_eq_false (by omega)⟩) ev_83 ev_87) hP hS (lv_sub hl [3, 4, 5, 1, 0] rfl)
            · skip
              have k_91 := congrArg Int32.toInt c_85
              refine lv_iconst (v := 1) hx hb dX0_holds_196 (by decide) ?_
              refine lv_goto (tgt := 201) hx hb dX0_holds_197 (by decide) ?_
              refine lv_ior hx hb dX0_holds_201 ?_
              refine lv_topi (fun v_92 ev_92 => ?_)
              refine lv_istore (lv' := [(4, .int v_92), (6, .int v_31), (0, .ref la), (1, .int ln), (2, .ref (ad 4)), (5, .int x_16)]) hx hb dX0_holds_202 hl (by decide) rfl (fun ls hl => ?_)
              refine lv_goto (tgt := 231) hx hb dX0_holds_204 (by decide) ?_
              obtain ⟨v_93, ev_93⟩ : ∃ z : Int32, z = x_16 + 1 := ⟨_, rfl⟩
              refine lv_iinc (v := v_93) (lv' := [(5, .int v_93), (4, .int v_92), (6, .int v_31), (0, .ref la), (1, .int ln), (2, .ref (ad 4))]) hx hb dX0_holds_231 hl (k := 5) rfl (by rw [ev_93]; rfl) (by decide) rfl (fun ls hl => ?_)
              have t_94 : v_93.toInt = x_16.toInt + 1 ∧ 1 ≤ v_93.toInt ∧ v_93.toInt ≤ 100 := iv_addc ev_93 i_26 (by decide) (by decide) (by decide)
              refine lv_goto (tgt := 23) hx hb dX0_holds_234 (by decide) ?_
              exact ih_18 v_92 v_93 _ _ ls (by omega) (iv_w t_94.2 (by decide) (by decide)) (by have ha9 : llr 4 (x_16.toInt.toNat) = v_32 := ev_32.symm; have hE9 : llr 3 (ln.toInt.toNat) = v_21 := ev_21.symm; have hn9 : llr 6 (x_16.toInt.toNat) = v_84 := ev_84.symm; have hf9 : (cd_f (ar 4)) ((llr 5 (x_16.toInt.toNat)).toInt.toNat) = v_31.toInt := (by rw [show llr 5 (x_16.toInt.toNat) = v_29 from ev_29.symm]; unfold cd_f; rw [if_pos (by omega), ev_31]; rfl); rw [show v_93.toInt.toNat = x_16.toInt.toNat + 1 from by omega]; exact cb_I_psh q_17 (by rw [hE9]; omega) (by rw [ha9]; omega) hf9 h01 (Or.inl ⟨rfl, by rw [ha9, hn9]; unfold cd_tst; rw [if_neg (by omega), if_pos (by omega)]; exact decide_eq_true (by omega)⟩) ev_83 ev_92) hP hS (lv_sub hl [3, 4, 5, 1, 0] rfl)
          · skip
            refine lv_tableIn (off := 155) (tgt := 207) hx hb dX0_holds_52 (by rw [w_33]; decide) (by rw [w_33]; decide) (by rw [w_33]; rfl) (by decide) ?_
            have k_96 : ¬ v_32.toInt = 0 ∧ ¬ v_32.toInt = 1 ∧ ¬ v_32.toInt = 3 ∧ ¬ v_32.toInt = 4 ∧ ¬ v_32.toInt = 5 := by first | (refine ⟨?_, ?_, ?_, ?_, ?_⟩ <;> omega) | (have h8 : v_32.toInt = 2 := (congrArg Int32.toInt (by assumption : v_32 = (2 : Int32))).trans (by decide); refine ⟨?_, ?_, ?_, ?_, ?_⟩ <;> omega)
            refine lv_iload hx hb dX0_holds_207 (lv_at hl 4 rfl) ?_
            refine lv_iconst (v := 1) hx hb dX0_holds_209 (by decide) ?_
            refine lv_ishl hx hb dX0_holds_210 ?_
            refine lv_topi (fun v_97 ev_97 => ?_)
            refine lv_iload hx hb dX0_holds_211 (lv_at hl 0 rfl) ?_
            refine lv_aload_n hx hb dX0_holds_213 rfl (lv_at hl 1 rfl) ?_
            refine gL_X0_31 hx hb htg hown (lw_K hL) (lw_now hL hS) dX0_holds_214 ?_
            refine lv_iload hx hb dX0_holds_217 (lv_at hl 5 rfl) ?_
            refine lL_6 hx hb (lw_K hL) (lw_now hL hS) (vp_in_iff.mpr (by omega)) dX0_holds_219 (fun v_98 ev_98 => ?_)
            refine lv_icmp_le (tgt := 227) hx hb dX0_holds_220 (by decide) (fun c_99 => ?_) (fun c_99 => ?_)
            · skip
              have k_100 := Int32.le_iff_toInt_le.mp c_99
              refine lv_iconst (v := 0) hx hb dX0_holds_227 (by decide) ?_
              refine lv_ior hx hb dX0_holds_228 ?_
              refine lv_topi (fun v_101 ev_101 => ?_)
              refine lv_istore (lv' := [(4, .int v_101), (6, .int v_31), (0, .ref la), (1, .int ln), (2, .ref (ad 4)), (5, .int x_16)]) hx hb dX0_holds_229 hl (by decide) rfl (fun ls hl => ?_)
              obtain ⟨v_102, ev_102⟩ : ∃ z : Int32, z = x_16 + 1 := ⟨_, rfl⟩
              refine lv_iinc (v := v_102) (lv' := [(5, .int v_102), (4, .int v_101), (6, .int v_31), (0, .ref la), (1, .int ln), (2, .ref (ad 4))]) hx hb dX0_holds_231 hl (k := 5) rfl (by rw [ev_102]; rfl) (by decide) rfl (fun ls hl => ?_)
              have t_103 : v_102.toInt = x_16.toInt + 1 ∧ 1 ≤ v_102.toInt ∧ v_102.toInt ≤ 100 := iv_addc ev_102 i_26 (by decide) (by decide) (by decide)
              refine lv_goto (tgt := 23) hx hb dX0_holds_234 (by decide) ?_
              exact ih_18 v_101 v_102 _ _ ls (by omega) (iv_w t_103.2 (by decide) (by decide)) (by have ha9 : llr 4 (x_16.toInt.toNat) = v_32 := ev_32.symm; have hE9 : llr 3 (ln.toInt.toNat) = v_21 := ev_21.symm; have hn9 : llr 6 (x_16.toInt.toNat) = v_98 := ev_98.symm; have hf9 : (cd_f (ar 4)) ((llr 5 (x_16.toInt.toNat)).toInt.toNat) = v_31.toInt := (by rw [show llr 5 (x_16.toInt.toNat) = v_29 from ev_29.symm]; unfold cd_f; rw [if_pos (by omega), ev_31]; rfl); rw [show v_102.toInt.toNat = x_16.toInt.toNat + 1 from by omega]; exact cb_I_psh q_17 (by rw [hE9]; omega) (by rw [ha9]; omega) hf9 h01 (Or.inr ⟨rfl, by rw [ha9, hn9]; unfold cd_tst; rw [if_neg (by omega), if_neg (by omega)]; exact decide_eq_false (by omega)⟩) ev_97 ev_101) hP hS (lv_sub hl [3, 4, 5, 1, 0] rfl)
            · skip
              have i_105 : (-2147483648) ≤ v_98.toInt ∧ v_98.toInt ≤ 2147483646 := iv_lt1 (iv_any v_98) (iv_any v_31) (Int32.not_le.mp c_99)
              have i_106 : (-2147483647) ≤ v_31.toInt ∧ v_31.toInt ≤ 2147483647 := iv_lt2 (iv_any v_98) (iv_any v_31) (Int32.not_le.mp c_99)
              have k_107 := Int32.lt_iff_toInt_lt.mp (Int32.not_le.mp c_99)
              refine lv_iconst (v := 1) hx hb dX0_holds_223 (by decide) ?_
              refine lv_goto (tgt := 228) hx hb dX0_holds_224 (by decide) ?_
              refine lv_ior hx hb dX0_holds_228 ?_
              refine lv_topi (fun v_108 ev_108 => ?_)
              refine lv_istore (lv' := [(4, .int v_108), (6, .int v_31), (0, .ref la), (1, .int ln), (2, .ref (ad 4)), (5, .int x_16)]) hx hb dX0_holds_229 hl (by decide) rfl (fun ls hl => ?_)
              obtain ⟨v_109, ev_109⟩ : ∃ z : Int32, z = x_16 + 1 := ⟨_, rfl⟩
              refine lv_iinc (v := v_109) (lv' := [(5, .int v_109), (4, .int v_108), (6, .int v_31), (0, .ref la), (1, .int ln), (2, .ref (ad 4))]) hx hb dX0_holds_231 hl (k := 5) rfl (by rw [ev_109]; rfl) (by decide) rfl (fun ls hl => ?_)
              have t_110 : v_109.toInt = x_16.toInt + 1 ∧ 1 ≤ v_109.toInt ∧ v_109.toInt ≤ 100 := iv_addc ev_109 i_26 (by decide) (by decide) (by decide)
              refine lv_goto (tgt := 23) hx hb dX0_holds_234 (by decide) ?_
              exact ih_18 v_108 v_109 _ _ ls (by omega) (iv_w t_110.2 (by decide) (by decide)) (by have ha9 : llr 4 (x_16.toInt.toNat) = v_32 := ev_32.symm; have hE9 : llr 3 (ln.toInt.toNat) = v_21 := ev_21.symm; have hn9 : llr 6 (x_16.toInt.toNat) = v_98 := ev_98.symm; have hf9 : (cd_f (ar 4)) ((llr 5 (x_16.toInt.toNat)).toInt.toNat) = v_31.toInt := (by rw [show llr 5 (x_16.toInt.toNat) = v_29 from ev_29.symm]; unfold cd_f; rw [if_pos (by omega), ev_31]; rfl); rw [show v_109.toInt.toNat = x_16.toInt.toNat + 1 from by omega]; exact cb_I_psh q_17 (by rw [hE9]; omega) (by rw [ha9]; omega) hf9 h01 (Or.inl ⟨rfl, by rw [ha9, hn9]; unfold cd_tst; rw [if_neg (by omega), if_neg (by omega)]; exact decide_eq_true (by omega)⟩) ev_97 ev_108) hP hS (lv_sub hl [3, 4, 5, 1, 0] rfl)
          · skip
            refine lv_tableIn (off := 40) (tgt := 92) hx hb dX0_holds_52 (by rw [w_33]; decide) (by rw [w_33]; decide) (by rw [w_33]; rfl) (by decide) ?_
            have k_112 : v_32.toInt = 3 := (congrArg Int32.toInt (by assumption : v_32 = (3 : Int32))).trans (by decide)
            refine lv_iload hx hb dX0_holds_92 (lv_at hl 4 rfl) ?_
            refine lv_iconst (v := 1) hx hb dX0_holds_94 (by decide) ?_
            refine lv_ixor hx hb dX0_holds_95 ?_
            refine lv_topi (fun v_113 ev_113 => ?_)
            refine lv_istore (lv' := [(4, .int v_113), (6, .int v_31), (0, .ref la), (1, .int ln), (2, .ref (ad 4)), (5, .int x_16)]) hx hb dX0_holds_96 hl (by decide) rfl (fun ls hl => ?_)
            refine lv_goto (tgt := 231) hx hb dX0_holds_98 (by decide) ?_
            obtain ⟨v_114, ev_114⟩ : ∃ z : Int32, z = x_16 + 1 := ⟨_, rfl⟩
            refine lv_iinc (v := v_114) (lv' := [(5, .int v_114), (4, .int v_113), (6, .int v_31), (0, .ref la), (1, .int ln), (2, .ref (ad 4))]) hx hb dX0_holds_231 hl (k := 5) rfl (by rw [ev_114]; rfl) (by decide) rfl (fun ls hl => ?_)
            have t_115 : v_114.toInt = x_16.toInt + 1 ∧ 1 ≤ v_114.toInt ∧ v_114.toInt ≤ 100 := iv_addc ev_114 i_26 (by decide) (by decide) (by decide)
            refine lv_goto (tgt := 23) hx hb dX0_holds_234 (by decide) ?_
            exact ih_18 v_113 v_114 _ _ ls (by omega) (iv_w t_115.2 (by decide) (by decide)) (by have ha9 : llr 4 (x_16.toInt.toNat) = v_32 := ev_32.symm; have hE9 : llr 3 (ln.toInt.toNat) = v_21 := ev_21.symm; rw [show v_114.toInt.toNat = x_16.toInt.toNat + 1 from by omega]; exact cb_I_not q_17 (by rw [hE9]; omega) (by rw [ha9]; omega) ev_113) hP hS (lv_sub hl [3, 4, 5, 1, 0] rfl)
          · skip
            refine lv_tableIn (off := 49) (tgt := 101) hx hb dX0_holds_52 (by rw [w_33]; decide) (by rw [w_33]; decide) (by rw [w_33]; rfl) (by decide) ?_
            refine lv_iload hx hb dX0_holds_101 (lv_at hl 4 rfl) ?_
            refine lv_iconst (v := 1) hx hb dX0_holds_103 (by decide) ?_
            refine lv_iand hx hb dX0_holds_104 ?_
            refine lv_topi (fun v_117 ev_117 => ?_)
            have i_118 : 0 ≤ v_117.toInt ∧ v_117.toInt ≤ 1 := iv_1 ev_117
            refine lv_iconst (v := 1) hx hb dX0_holds_105 (by decide) ?_
            refine lv_icmp_ne (tgt := 116) hx hb dX0_holds_106 (by decide) (fun c_119 => ?_) (fun c_119 => ?_)
            · skip
              have i_120 : 0 ≤ v_117.toInt ∧ v_117.toInt ≤ 0 := iv_neh i_118 (by decide) c_119
              have k_121 : ¬ v_117.toInt = 1 := fun q => c_119 (Int32.toInt_inj.mp q)
              have k_122 : v_32.toInt = 4 := (congrArg Int32.toInt (by assumption : v_32 = (4 : Int32))).trans (by decide)
              refine lv_iload hx hb dX0_holds_116 (lv_at hl 4 rfl) ?_
              refine lv_iconst (v := 2) hx hb dX0_holds_118 (by decide) ?_
              refine lv_ishr hx hb dX0_holds_119 ?_
              refine lv_topi (fun v_123 ev_123 => ?_)
              refine lv_iconst (v := 1) hx hb dX0_holds_120 (by decide) ?_
              refine lv_ishl hx hb dX0_holds_121 ?_
              refine lv_topi (fun v_124 ev_124 => ?_)
              refine lv_istore (lv' := [(4, .int v_124), (6, .int v_31), (0, .ref la), (1, .int ln), (2, .ref (ad 4)), (5, .int x_16)]) hx hb dX0_holds_122 hl (by decide) rfl (fun ls hl => ?_)
              refine lv_goto (tgt := 231) hx hb dX0_holds_124 (by decide) ?_
              obtain ⟨v_125, ev_125⟩ : ∃ z : Int32, z = x_16 + 1 := ⟨_, rfl⟩
              refine lv_iinc (v := v_125) (lv' := [(5, .int v_125), (4, .int v_124), (6, .int v_31), (0, .ref la), (1, .int ln), (2, .ref (ad 4))]) hx hb dX0_holds_231 hl (k := 5) rfl (by rw [ev_125]; rfl) (by decide) rfl (fun ls hl => ?_)
              have t_126 : v_125.toInt = x_16.toInt + 1 ∧ 1 ≤ v_125.toInt ∧ v_125.toInt ≤ 100 := iv_addc ev_125 i_26 (by decide) (by decide) (by decide)
              refine lv_goto (tgt := 23) hx hb dX0_holds_234 (by decide) ?_
              exact ih_18 v_124 v_125 _ _ ls (by omega) (iv_w t_126.2 (by decide) (by decide)) (by have ha9 : llr 4 (x_16.toInt.toNat) = v_32 := ev_32.symm; have hE9 : llr 3 (ln.toInt.toNat) = v_21 := ev_21.symm; rw [show v_125.toInt.toNat = x_16.toInt.toNat + 1 from by omega]; exact cb_I_and0 q_17 (by rw [hE9]; omega) (by rw [ha9]; omega) ev_117 (by omega) ev_123 ev_124) hP hS (lv_sub hl [3, 4, 5, 1, 0] rfl)
            · skip
              have i_128 : 1 ≤ v_117.toInt ∧ v_117.toInt ≤ 1 := iv_eq1 (⟨by decide, by decide⟩ : (1 : Int) ≤ (1 : Int32).toInt ∧ (1 : Int32).toInt ≤ 1) c_119
              have k_130 : v_32.toInt = 4 := (congrArg Int32.toInt (by assumption : v_32 = (4 : Int32))).trans (by decide)
              refine lv_iload hx hb dX0_holds_109 (lv_at hl 4 rfl) ?_
              refine lv_iconst (v := 1) hx hb dX0_holds_111 (by decide) ?_
              refine lv_ishr hx hb dX0_holds_112 ?_
              refine lv_topi (fun v_131 ev_131 => ?_)
              refine lv_goto (tgt := 122) hx hb dX0_holds_113 (by decide) ?_
              refine lv_istore (lv' := [(4, .int v_131), (6, .int v_31), (0, .ref la), (1, .int ln), (2, .ref (ad 4)), (5, .int x_16)]) hx hb dX0_holds_122 hl (by decide) rfl (fun ls hl => ?_)
              refine lv_goto (tgt := 231) hx hb dX0_holds_124 (by decide) ?_
              obtain ⟨v_132, ev_132⟩ : ∃ z : Int32, z = x_16 + 1 := ⟨_, rfl⟩
              refine lv_iinc (v := v_132) (lv' := [(5, .int v_132), (4, .int v_131), (6, .int v_31), (0, .ref la), (1, .int ln), (2, .ref (ad 4))]) hx hb dX0_holds_231 hl (k := 5) rfl (by rw [ev_132]; rfl) (by decide) rfl (fun ls hl => ?_)
              have t_133 : v_132.toInt = x_16.toInt + 1 ∧ 1 ≤ v_132.toInt ∧ v_132.toInt ≤ 100 := iv_addc ev_132 i_26 (by decide) (by decide) (by decide)
              refine lv_goto (tgt := 23) hx hb dX0_holds_234 (by decide) ?_
              exact ih_18 v_131 v_132 _ _ ls (by omega) (iv_w t_133.2 (by decide) (by decide)) (by have ha9 : llr 4 (x_16.toInt.toNat) = v_32 := ev_32.symm; have hE9 : llr 3 (ln.toInt.toNat) = v_21 := ev_21.symm; rw [show v_132.toInt.toNat = x_16.toInt.toNat + 1 from by omega]; exact cb_I_and1 q_17 (by rw [hE9]; omega) (by rw [ha9]; omega) ev_117 (by omega) ev_131) hP hS (lv_sub hl [3, 4, 5, 1, 0] rfl)
          · skip
            refine lv_tableIn (off := 75) (tgt := 127) hx hb dX0_holds_52 (by rw [w_33]; decide) (by rw [w_33]; decide) (by rw [w_33]; rfl) (by decide) ?_
            refine lv_iload hx hb dX0_holds_127 (lv_at hl 4 rfl) ?_
            refine lv_iconst (v := 1) hx hb dX0_holds_129 (by decide) ?_
            refine lv_iand hx hb dX0_holds_130 ?_
            refine lv_topi (fun v_135 ev_135 => ?_)
            have i_136 : 0 ≤ v_135.toInt ∧ v_135.toInt ≤ 1 := iv_1 ev_135
            refine lv_iconst (v := 1) hx hb dX0_holds_131 (by decide) ?_
            refine lv_icmp_ne (tgt := 144) hx hb dX0_holds_132 (by decide) (fun c_137 => ?_) (fun c_137 => ?_)
            · skip
              have i_138 : 0 ≤ v_135.toInt ∧ v_135.toInt ≤ 0 := iv_neh i_136 (by decide) c_137
              have k_139 : ¬ v_135.toInt = 1 := fun q => c_137 (Int32.toInt_inj.mp q)
              have k_140 : v_32.toInt = 5 := (congrArg Int32.toInt (by assumption : v_32 = (5 : Int32))).trans (by decide)
              refine lv_iload hx hb dX0_holds_144 (lv_at hl 4 rfl) ?_
              refine lv_iconst (v := 1) hx hb dX0_holds_146 (by decide) ?_
              refine lv_ishr hx hb dX0_holds_147 ?_
              refine lv_topi (fun v_141 ev_141 => ?_)
              refine lv_istore (lv' := [(4, .int v_141), (6, .int v_31), (0, .ref la), (1, .int ln), (2, .ref (ad 4)), (5, .int x_16)]) hx hb dX0_holds_148 hl (by decide) rfl (fun ls hl => ?_)
              refine lv_goto (tgt := 231) hx hb dX0_holds_150 (by decide) ?_
              obtain ⟨v_142, ev_142⟩ : ∃ z : Int32, z = x_16 + 1 := ⟨_, rfl⟩
              refine lv_iinc (v := v_142) (lv' := [(5, .int v_142), (4, .int v_141), (6, .int v_31), (0, .ref la), (1, .int ln), (2, .ref (ad 4))]) hx hb dX0_holds_231 hl (k := 5) rfl (by rw [ev_142]; rfl) (by decide) rfl (fun ls hl => ?_)
              have t_143 : v_142.toInt = x_16.toInt + 1 ∧ 1 ≤ v_142.toInt ∧ v_142.toInt ≤ 100 := iv_addc ev_142 i_26 (by decide) (by decide) (by decide)
              refine lv_goto (tgt := 23) hx hb dX0_holds_234 (by decide) ?_
              exact ih_18 v_141 v_142 _ _ ls (by omega) (iv_w t_143.2 (by decide) (by decide)) (by have ha9 : llr 4 (x_16.toInt.toNat) = v_32 := ev_32.symm; have hE9 : llr 3 (ln.toInt.toNat) = v_21 := ev_21.symm; rw [show v_142.toInt.toNat = x_16.toInt.toNat + 1 from by omega]; exact cb_I_or0 q_17 (by rw [hE9]; omega) (by rw [ha9]; omega) ev_135 (by omega) ev_141) hP hS (lv_sub hl [3, 4, 5, 1, 0] rfl)
            · skip
              have i_145 : 1 ≤ v_135.toInt ∧ v_135.toInt ≤ 1 := iv_eq1 (⟨by decide, by decide⟩ : (1 : Int) ≤ (1 : Int32).toInt ∧ (1 : Int32).toInt ≤ 1) c_137
              have k_147 : v_32.toInt = 5 := (congrArg Int32.toInt (by assumption : v_32 = (5 : Int32))).trans (by decide)
              refine lv_iload hx hb dX0_holds_135 (lv_at hl 4 rfl) ?_
              refine lv_iconst (v := 1) hx hb dX0_holds_137 (by decide) ?_
              refine lv_ishr hx hb dX0_holds_138 ?_
              refine lv_topi (fun v_148 ev_148 => ?_)
              refine lv_iconst (v := 1) hx hb dX0_holds_139 (by decide) ?_
              refine lv_ior hx hb dX0_holds_140 ?_
              refine lv_topi (fun v_149 ev_149 => ?_)
              refine lv_goto (tgt := 148) hx hb dX0_holds_141 (by decide) ?_
              refine lv_istore (lv' := [(4, .int v_149), (6, .int v_31), (0, .ref la), (1, .int ln), (2, .ref (ad 4)), (5, .int x_16)]) hx hb dX0_holds_148 hl (by decide) rfl (fun ls hl => ?_)
              refine lv_goto (tgt := 231) hx hb dX0_holds_150 (by decide) ?_
              obtain ⟨v_150, ev_150⟩ : ∃ z : Int32, z = x_16 + 1 := ⟨_, rfl⟩
              refine lv_iinc (v := v_150) (lv' := [(5, .int v_150), (4, .int v_149), (6, .int v_31), (0, .ref la), (1, .int ln), (2, .ref (ad 4))]) hx hb dX0_holds_231 hl (k := 5) rfl (by rw [ev_150]; rfl) (by decide) rfl (fun ls hl => ?_)
              have t_151 : v_150.toInt = x_16.toInt + 1 ∧ 1 ≤ v_150.toInt ∧ v_150.toInt ≤ 100 := iv_addc ev_150 i_26 (by decide) (by decide) (by decide)
              refine lv_goto (tgt := 23) hx hb dX0_holds_234 (by decide) ?_
              exact ih_18 v_149 v_150 _ _ ls (by omega) (iv_w t_151.2 (by decide) (by decide)) (by have ha9 : llr 4 (x_16.toInt.toNat) = v_32 := ev_32.symm; have hE9 : llr 3 (ln.toInt.toNat) = v_21 := ev_21.symm; rw [show v_150.toInt.toNat = x_16.toInt.toNat + 1 from by omega]; exact cb_I_or1 q_17 (by rw [hE9]; omega) (by rw [ha9]; omega) ev_135 (by omega) ev_148 ev_149) hP hS (lv_sub hl [3, 4, 5, 1, 0] rfl)
    · skip
      have z_162 : (1 : Int32).toInt = 1 := by decide
      exact hj_20 101 1 x_12 _ _ ls (by first | decide | omega) i_x_12 (by have h9 : x_12.toInt.toNat = cd_bg (llr 3) (ln.toInt.toNat) := q_13; have h8 := hgd; unfold cd_gd cd_gX at h8; show cb_I _ _ _ _ (x_12.toInt.toNat) ((llr 3 (ln.toInt.toNat)).toInt.toNat) 1 (cd_ev _ [] (cd_sx (llr 4) (llr 5) (llr 6) (cd_bg (llr 3) (ln.toInt.toNat)) (((llr 3 (ln.toInt.toNat)).toInt.toNat) - cd_bg (llr 3) (ln.toInt.toNat)))); rw [← h9] at h8 ⊢; exact cb_I0 h8) hP hS (lv_sub hl [3, 4, 5, 1, 0] rfl)
  · skip
    refine lv_if_ne (tgt := 8) hx hb dX0_holds_1 (by decide) (fun c_1 => ?_) (fun c_1 => ?_)
    · skip
      have i_2 : 1 ≤ ln.toInt ∧ ln.toInt ≤ 15 := iv_nel h_ln (by decide) c_1
      have k_3 : ¬ ln.toInt = 0 := fun q => c_1 (Int32.toInt_inj.mp q)
      refine lv_aload_n hx hb dX0_holds_8 rfl (lv_at hl 0 rfl) ?_
      refine gL_X0_22 hx hb htg hown (lw_K hL) (lw_now hL hS) dX0_holds_9 ?_
      refine lv_iload_n hx hb dX0_holds_12 rfl (lv_at hl 1 rfl) ?_
      refine lv_iconst (v := 1) hx hb dX0_holds_13 (by decide) ?_
      refine lv_isub hx hb dX0_holds_14 ?_
      refine lv_topi (fun v_4 ev_4 => ?_)
      have t_5 : v_4.toInt = ln.toInt - 1 ∧ 0 ≤ v_4.toInt ∧ v_4.toInt ≤ 14 := iv_subc ev_4 i_2 (by decide) (by decide) (by decide)
      refine lL_3 hx hb (lw_K hL) (lw_now hL hS) (vp_in_iff.mpr (by omega)) dX0_holds_15 (fun v_7 ev_7 => ?_)
      have i_8 : 0 ≤ v_7.toInt ∧ v_7.toInt ≤ 100 := (by have h9 := (hlq.2.2 v_4.toNatClampNeg).1; rw [← ev_7] at h9; have h8 := hlq.2.1; omega)
      have k_9 : v_7.toInt ≤ lcn := (by have h9 := (hlq.2.2 v_4.toNatClampNeg).1; rw [← ev_7] at h9; exact h9.2)
      exact hj_14 v_7 _ _ ls i_8 (by rw [show ln.toInt.toNat = v_4.toInt.toNat + 1 from by omega]; show _ = (llr 3 (v_4.toInt.toNat)).toInt.toNat; rw [ev_7]; rfl) hP hS (lv_sub hl [0, 1, 2] rfl)
    · skip
      have i_10 : 0 ≤ ln.toInt ∧ ln.toInt ≤ 0 := iv_eq1 (⟨by decide, by decide⟩ : (0 : Int) ≤ (0 : Int32).toInt ∧ (0 : Int32).toInt ≤ 0) c_1
      refine lv_iconst (v := 0) hx hb dX0_holds_4 (by decide) ?_
      refine lv_goto (tgt := 16) hx hb dX0_holds_5 (by decide) ?_
      have z_163 : (0 : Int32).toInt = 0 := by decide
      exact hj_14 0 _ _ ls (iv_w (⟨by decide, by decide⟩ : (0 : Int) ≤ (0 : Int32).toInt ∧ (0 : Int32).toInt ≤ 0) (by decide) (by decide)) (by rw [show ln.toInt.toNat = 0 from by omega]; exact (show (0 : Int32).toInt.toNat = 0 from by decide)) hP hS (lv_sub hl [0, 1, 2] rfl)
set_option maxHeartbeats 4000000 in
set_option maxRecDepth 100000 in
theorem x_lineForE (l : Launch) (dC : Nat → ClassId) (dI : Nat → Nat → Nat) (sz : Nat) (ob ad : Nat → Nat) (cA : Nat → ClassId) (hd : dX ob ad) (fv : Nat → Int32) (wd : xT) (ar : Nat → Nat → Int32) (hF_fv : rX fv) (hA_ar : rB ar) (la : Nat) (lfr : Int32) (lra : Nat → Nat) (lrc : Nat → ClassId) (lln lcn : Nat) (llr : Nat → Nat → Int32) (hlq : lwQ lln lcn llr) (kd : Int32) (hgd : ∀ i, i < lln → cd_gd (cd_gX llr i)) (h01 : ∀ k, k < 4 → (cd_f (ar 4)) k = 0 ∨ (cd_f (ar 4)) k = 1) : Met l yX0_lineFor (.code yX0_lineFor cX0_lineFor 4 (some .int) :: lw_good) ({ frames := 3, cells := 0, slots := 0, locals := 66 }) (va_Pc [.ref la, .int kd, .ref (ad 4)] (fun U => prX dC dI ob ad cA fv wd ar sz U ∧ lwA dC dI ob ad la lfr lra lrc lln lcn llr sz U)) (va_Qi (fun (r : Int32) (u : xS) => rX u.1 ∧ rB u.2.2 ∧ fM [] fv u.1 ∧ fA [] ar u.2.2 ∧ u.2.1.2 = wd.2 ∧ ((-1) ≤ r.toInt ∧ r.toInt ≤ 15) ∧ (r.toInt < lln) ∧ (r.toInt = cd_fi (cd_f (ar 4)) kd.toInt (cd_Wf (cd_gX llr) lln 0) 0) ∧ True) (enX dC dI ob ad cA) (aX ob ad sz)) 0 0 (aX ob ad sz) := by
  refine Met.ofW (cc := cX0_lineFor) (maxL := 4) (ret := (some .int)) (by decide) rfl ?_
  intro p e s m args below meth c s₁ B hml hv
  obtain ⟨rfl, ⟨hsz, hP, hK⟩, hL⟩ := hv
  have hx := B.exec
  have hb := B.bytes
  have hr := B.returns
  have hts := atoms_spec (ws := (.code yX0_lineFor cX0_lineFor 4 (some .int) :: lw_good)) B.pre
  have htg : ∀ w ∈ lw_good, w.before _ s = true := fun w hw => hts w (List.mem_cons_of_mem _ hw)
  have hown : s.vm.findClass RX0 = some m.cls := findClass_of_methodNamed B.named
  have hlocks := B.notSynchronized
  subst hsz
  have hS : va_S (aX ob ad s.heap.size) s.heap s.heap [] := va_S.rf
  have hl := lv_entry ([.ref la, .int kd, .ref (ad 4)]) (n := 4) (Nat.le_of_ble_eq_true rfl)
  rw [lg_entry_eq]
  generalize (lg_sl ([.ref la, .int kd, .ref (ad 4)]) ++ List.replicate (4 - (lg_sl ([.ref la, .int kd, .ref (ad 4)])).length) Slot.unset).toArray = ls at hl ⊢
  have hl : lv_has ls 4 [(0, .ref la), (1, .int kd), (2, .ref (ad 4))] := hl
  refine lv_iconst (v := 0) hx hb dX0_lineFor_0 (by decide) ?_
  refine lv_istore_n (lv' := [(3, .int 0), (0, .ref la), (1, .int kd), (2, .ref (ad 4))]) hx hb dX0_lineFor_1 rfl hl (by decide) rfl (fun ls hl => ?_)
  refine my_cut (P := fun R9 a9 Q9 => ∀ (n_9 : Nat) (x_1 : Int32) (fv_2 : Nat → Int32) (ar_4 : Nat → Nat → Int32) (wd_6 : xT) (H : Heap) (locs : List Loc) (ls : Array Slot), 16 - x_1.toInt < (n_9 : Int) → (0 ≤ x_1.toInt ∧ x_1.toInt ≤ 16) → rX fv_2 → fM [] fv fv_2 → rB ar_4 → fA [] ar ar_4 → wd_6.2 = wd.2 → (cd_fi (cd_f (ar 4)) kd.toInt (cd_Wf (cd_gX llr) lln 0) 0 = cd_fi (cd_f (ar 4)) kd.toInt (cd_Wf (cd_gX llr) (lln - x_1.toInt.toNat) (x_1.toInt.toNat)) (x_1.toInt.toNat)) → va_P (dC, dI) vwCl (wsX ob ad cA fv_2 wd_6 ar_4) H → va_S (aX ob ad s.heap.size) s.heap H locs → lv_has ls 4 [(0, .ref la), (1, .int kd), (2, .ref (ad 4)), (3, .int x_1)] → W p l e R9 s m a9 below meth c H locs 0 0 Q9 (F0 m 2 ls [])) ?_ (fun hj_11 => ?_)
  · intro n_9
    induction n_9 with
    | zero => intro x_1 fv_2 ar_4 wd_6 H locs ls fu_10 i_x_1 hF_fv_2 fr_3 hA_ar_4 fa_5 wf_7 q_8; exfalso; omega
    | succ n_9 ih_9 =>
      intro x_1 fv_2 ar_4 wd_6 H locs ls fu_10 i_x_1 hF_fv_2 fr_3 hA_ar_4 fa_5 wf_7 q_8 hP hS hl
      refine lv_iload_n hx hb dX0_lineFor_2 rfl (lv_at hl 3 rfl) ?_
      refine lv_aload_n hx hb dX0_lineFor_3 rfl (lv_at hl 0 rfl) ?_
      refine gL_X0_15 hx hb htg hown (lw_K hL) (lw_now hL hS) dX0_lineFor_4 ?_
      refine nL_1 hx hb (lw_K hL) (lw_now hL hS) dX0_lineFor_7 (fun v_12 ev_12 => ?_)
      have kv_12 : v_12.toInt = lln := by rw [ev_12]; have h8 := hlq.1; have h9 := hlq.2.1; exact nI_toInt (by omega)
      have i_13 : 0 ≤ v_12.toInt ∧ v_12.toInt ≤ 16 := (by have h8 := hlq.1; have h9 := hlq.2.1; omega)
      refine lv_icmp_ge (tgt := 38) hx hb dX0_lineFor_8 (by decide) (fun c_14 => ?_) (fun c_14 => ?_)
      · skip
        have k_15 := Int32.le_iff_toInt_le.mp c_14
        refine lv_iconst (v := (-1)) hx hb dX0_lineFor_38 (by decide) ?_
        have z_16 : ((-1) : Int32).toInt = (-1) := by decide
        exact W.iret (v := (-1)) hx hb hr (fun t ht hW => ⟨⟨(-1), (fv_2, wd_6, ar_4), rfl, ⟨hF_fv_2, hA_ar_4, (fM_call (fM_rf [] _) fr_3 (by decide)), (fA_call (fA_rf [] _) fa_5 (by decide)), wf_7, (iv_w (⟨by decide, by decide⟩ : (-1 : Int) ≤ ((-1) : Int32).toInt ∧ ((-1) : Int32).toInt ≤ -1) (by decide) (by decide)), (show ((-1) : Int32).toInt < lln from by omega), (show ((-1) : Int32).toInt = cd_fi (cd_f (ar 4)) kd.toInt (cd_Wf (cd_gX llr) lln 0) 0 from by rw [q_8, show lln - x_1.toInt.toNat = 0 from by omega]; exact (show ((-1) : Int32).toInt = -1 from by decide)), trivial⟩, ⟨by rw [ht]; exact hP, va_K.moved hW.alike hK⟩⟩, hS.F ht⟩) hS.2.2 dX0_lineFor_39
      · skip
        have i_17 : 0 ≤ x_1.toInt ∧ x_1.toInt ≤ 15 := iv_lt1 i_x_1 i_13 (Int32.not_le.mp c_14)
        have i_18 : 1 ≤ v_12.toInt ∧ v_12.toInt ≤ 16 := iv_lt2 i_x_1 i_13 (Int32.not_le.mp c_14)
        have k_19 := Int32.lt_iff_toInt_lt.mp (Int32.not_le.mp c_14)
        refine lv_aload_n hx hb dX0_lineFor_11 rfl (lv_at hl 0 rfl) ?_
        refine gL_X0_15 hx hb htg hown (lw_K hL) (lw_now hL hS) dX0_lineFor_12 ?_
        refine lv_iload_n hx hb dX0_lineFor_15 rfl (lv_at hl 3 rfl) ?_
        refine lL_1 hx hb (lw_K hL) (lw_now hL hS) (vp_in_iff.mpr (by omega)) dX0_lineFor_16 (fun v_20 ev_20 => ?_)
        refine lv_iload_n hx hb dX0_lineFor_17 rfl (lv_at hl 1 rfl) ?_
        refine lv_icmp_ne (tgt := 32) hx hb dX0_lineFor_18 (by decide) (fun c_21 => ?_) (fun c_21 => ?_)
        · skip
          have k_22 : ¬ v_20.toInt = kd.toInt := fun q => c_21 (Int32.toInt_inj.mp q)
          obtain ⟨v_23, ev_23⟩ : ∃ z : Int32, z = x_1 + 1 := ⟨_, rfl⟩
          refine lv_iinc (v := v_23) (lv' := [(3, .int v_23), (0, .ref la), (1, .int kd), (2, .ref (ad 4))]) hx hb dX0_lineFor_32 hl (k := 3) rfl (by rw [ev_23]; rfl) (by decide) rfl (fun ls hl => ?_)
          have t_24 : v_23.toInt = x_1.toInt + 1 ∧ 1 ≤ v_23.toInt ∧ v_23.toInt ≤ 16 := iv_addc ev_23 i_17 (by decide) (by decide) (by decide)
          refine lv_goto (tgt := 2) hx hb dX0_lineFor_35 (by decide) ?_
          exact ih_9 v_23 fv_2 ar_4 wd_6 _ _ ls (by omega) (iv_w t_24.2 (by decide) (by decide)) hF_fv_2 (fM_call (fM_rf [] _) fr_3 (by decide)) hA_ar_4 (fA_call (fA_rf [] _) fa_5 (by decide)) wf_7 (by have hk9 : llr 1 (x_1.toInt.toNat) = v_20 := ev_20.symm; rw [q_8, cd_Wf_c (by omega), cd_fi_n (fun w => by have h9 : (llr 1 (x_1.toInt.toNat)).toInt = kd.toInt := w.1; rw [hk9] at h9; omega), show x_1.toInt.toNat + 1 = v_23.toInt.toNat from by omega]) hP hS (lv_sub hl [1, 2, 3, 0] rfl)
        · skip
          have k_26 := congrArg Int32.toInt c_21
          refine lv_aload_n hx hb dX0_lineFor_21 rfl (lv_at hl 0 rfl) ?_
          refine lv_iload_n hx hb dX0_lineFor_22 rfl (lv_at hl 3 rfl) ?_
          refine lv_aload_n hx hb dX0_lineFor_23 rfl (lv_at hl 2 rfl) ?_
          refine va_calli (va_runV (As := [.int x_1, .ref (ad 4)]) (rest := []) ⟨hx, hb, hml, hown, hts⟩ (x_holdsE l dC dI H.size ob ad cA hd fv_2 wd_6 ar_4 hF_fv_2 hA_ar_4 la lfr lra lrc lln lcn llr hlq x_1 i_17 (by omega) (hgd _ (by omega)) (by rw [show ar_4 4 = ar 4 from ((fA_call (fA_rf [] _) fa_5 (by decide)) 4 rfl)]; exact h01)) (cwV 2 hts (gV kw_5_34 kw_5_36 kw_p_20 kw_1_10 kw_5_37) rfl rfl rfl (by decide +kernel) ⟨Nat.le_of_ble_eq_true rfl, Nat.le_of_ble_eq_true rfl⟩) ⟨fun a U g mk q => ⟨q.1, ⟨q.2.1.1, q.2.1.2.1, va_K.moved (u := U) (U := U.calling g mk a) (Vm.Alike.refl U.vm) q.2.1.2.2⟩, ⟨q.2.2.1, va_K.moved (u := U) (U := U.calling g mk a) (Vm.Alike.refl U.vm) q.2.2.2.1, q.2.2.2.2⟩⟩, va_recv (lw_K hL) (lw_now hL hS) (ci := 1) (q0 := 0) rfl rfl, fun U hU hW => ⟨rfl, ⟨by rw [hU], by rw [hU]; exact hP, va_K.moved hW.alike hK⟩, lw_pass hL hS hU hW.alike⟩⟩ rfl rfl hl.1 rfl (lv_room (Nat.le_of_ble_eq_true rfl)) dX0_lineFor_24 ⟨Nat.le_of_ble_eq_true rfl, Nat.le_of_ble_eq_true rfl⟩) hS (fun q _ h9 => aX_up hS q h9) (aX_up hS) (fun r_27 u t H1 locs ht _ hw hB _ hk1 hS => ?_)
          obtain ⟨fv_30, wd_31, ar_32⟩ := u
          obtain ⟨hF_fv_30, hA_ar_32, fr_33, fa_34, wf_35, p_28, p_29, -⟩ := hw
          have wf_35 : wd_31.2 = wd_6.2 := wf_35
          have hP : va_P (dC, dI) vwCl (wsX ob ad cA fv_30 wd_31 ar_32) H1 := by have h9 := hB.1; rw [ht] at h9; exact h9
          have fr_33 : fM [] fv_2 fv_30 := fr_33
          have fa_34 : fA [] ar_4 ar_32 := fa_34
          have p_29 : (r_27 = 1 ∧ cd_ho (cd_f (ar_4 4)) (cd_gX llr x_1.toInt.toNat).2.2 = true) ∨ (r_27 = 0 ∧ cd_ho (cd_f (ar_4 4)) (cd_gX llr x_1.toInt.toNat).2.2 = false) := p_29
          generalize H1 = H at hP hS ⊢
          have ho_36 : (r_27 = 1 ∧ cd_ho (cd_f (ar 4)) (cd_gX llr x_1.toInt.toNat).2.2 = true) ∨ (r_27 = 0 ∧ cd_ho (cd_f (ar 4)) (cd_gX llr x_1.toInt.toNat).2.2 = false) := by have h9 := p_29; rw [show ar_4 4 = ar 4 from ((fA_call (fA_rf [] _) fa_5 (by decide)) 4 rfl)] at h9; exact h9
          refine lv_if_eq (tgt := 32) hx hb dX0_lineFor_27 (by decide) (fun c_37 => ?_) (fun c_37 => ?_)
          · skip
            have i_38 : 0 ≤ r_27.toInt ∧ r_27.toInt ≤ 0 := iv_eq1 (⟨by decide, by decide⟩ : (0 : Int) ≤ (0 : Int32).toInt ∧ (0 : Int32).toInt ≤ 0) c_37
            obtain ⟨v_40, ev_40⟩ : ∃ z : Int32, z = x_1 + 1 := ⟨_, rfl⟩
            refine lv_iinc (v := v_40) (lv' := [(3, .int v_40), (0, .ref la), (1, .int kd), (2, .ref (ad 4))]) hx hb dX0_lineFor_32 hl (k := 3) rfl (by rw [ev_40]; rfl) (by decide) rfl (fun ls hl => ?_)
            have t_41 : v_40.toInt = x_1.toInt + 1 ∧ 1 ≤ v_40.toInt ∧ v_40.toInt ≤ 16 := iv_addc ev_40 i_17 (by decide) (by decide) (by decide)
            refine lv_goto (tgt := 2) hx hb dX0_lineFor_35 (by decide) ?_
            exact ih_9 v_40 fv_30 ar_32 wd_31 _ _ ls (by omega) (iv_w t_41.2 (by decide) (by decide)) hF_fv_30 (fM_call (fM_call (fM_rf [] _) fr_3 (by decide)) fr_33 (by decide)) hA_ar_32 (fA_call (fA_call (fA_rf [] _) fa_5 (by decide)) fa_34 (by decide)) (wf_35.trans wf_7) (by have hk9 : llr 1 (x_1.toInt.toNat) = v_20 := ev_20.symm; rw [q_8, cd_Wf_c (by omega), cd_fi_n (fun w => by rcases ho_36 with ⟨a9, b9⟩ | ⟨a9, b9⟩; have h7 := congrArg Int32.toInt a9; have h6 : (1 : Int32).toInt = 1 := (by decide); omega; exact absurd (w.2.symm.trans b9) (by decide)), show x_1.toInt.toNat + 1 = v_40.toInt.toNat from by omega]) hP hS (lv_sub hl [1, 2, 3, 0] rfl)
          · skip
            have i_43 : 1 ≤ r_27.toInt ∧ r_27.toInt ≤ 1 := iv_nel p_28 (by decide) c_37
            have k_44 : ¬ r_27.toInt = 0 := fun q => c_37 (Int32.toInt_inj.mp q)
            refine lv_iload_n hx hb dX0_lineFor_30 rfl (lv_at hl 3 rfl) ?_
            exact W.iret (v := x_1) hx hb hr (fun t ht hW => ⟨⟨x_1, (fv_30, wd_31, ar_32), rfl, ⟨hF_fv_30, hA_ar_32, (fM_call (fM_call (fM_rf [] _) fr_3 (by decide)) fr_33 (by decide)), (fA_call (fA_call (fA_rf [] _) fa_5 (by decide)) fa_34 (by decide)), (wf_35.trans wf_7), (iv_w i_17 (by decide) (by decide)), (show x_1.toInt < lln from by omega), (show x_1.toInt = cd_fi (cd_f (ar 4)) kd.toInt (cd_Wf (cd_gX llr) lln 0) 0 from by have hk9 : llr 1 (x_1.toInt.toNat) = v_20 := ev_20.symm; rcases ho_36 with ⟨a9, b9⟩ | ⟨a9, b9⟩; rw [q_8, cd_Wf_c (by omega), cd_fi_y ⟨(show (llr 1 (x_1.toInt.toNat)).toInt = kd.toInt from by rw [hk9]; omega), b9⟩]; omega; have h7 := congrArg Int32.toInt a9; have h6 : (0 : Int32).toInt = 0 := (by decide); exfalso; omega), trivial⟩, ⟨by rw [ht]; exact hP, va_K.moved hW.alike hK⟩⟩, hS.F ht⟩) hS.2.2 dX0_lineFor_31
  · skip
    have z_45 : (0 : Int32).toInt = 0 := by decide
    exact hj_11 17 0 fv ar wd _ _ ls (by first | decide | omega) (iv_w (⟨by decide, by decide⟩ : (0 : Int) ≤ (0 : Int32).toInt ∧ (0 : Int32).toInt ≤ 0) (by decide) (by decide)) hF_fv (fM_rf [] _) hA_ar (fA_rf [] _) rfl rfl hP hS (lv_sub hl [1, 2, 3, 0] rfl)

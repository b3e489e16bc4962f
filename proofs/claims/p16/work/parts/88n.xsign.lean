def rd_x (T S : Nat → Nat) (s p o : Nat) (r9 : List Bool) (r fk fp pl on : Int32) : Prop := (r = 0 ∧ 0 < fk.toInt ∧ ∃ q o2, rd_m T s p o r9 = (fk.toInt.toNat, q, o2) ∧ fp.toInt = (S q : Nat)) ∨ (r = 1 ∧ rd_m T s p o r9 = rd_m T 1 pl.toInt.toNat on.toInt.toNat r9)
theorem rd_xF {T S : Nat → Nat} {s p o q o2 : Nat} {r9 : List Bool} {fk fp pl on : Int32} {k : Nat} (h1 : fk.toInt = (k : Int)) (h2 : 0 < k) (h3 : rd_m T s p o r9 = (k, q, o2)) (h4 : fp.toInt = (S q : Nat)) : rd_x T S s p o r9 0 fk fp pl on := Or.inl ⟨rfl, by omega, q, o2, by rw [h3, h1]; rfl, h4⟩
theorem rd_xO {T S : Nat → Nat} {s p o : Nat} {r9 : List Bool} {fk fp pl on : Int32} (h : rd_m T s p o r9 = rd_m T 1 pl.toInt.toNat on.toInt.toNat r9) : rd_x T S s p o r9 1 fk fp pl on := Or.inr ⟨rfl, h⟩
theorem rd_x_of {T S : Nat → Nat} {s p o s1 p1 o1 : Nat} {r9 : List Bool} {r fk fp pl on : Int32} (h : rd_x T S s1 p1 o1 r9 r fk fp pl on) (e : rd_m T s p o r9 = rd_m T s1 p1 o1 r9) : rd_x T S s p o r9 r fk fp pl on := by
  rcases h with ⟨a, b, q, o2, c, d⟩ | ⟨a, b⟩
  · exact Or.inl ⟨a, b, q, o2, e.trans c, d⟩
  · exact Or.inr ⟨a, e.trans b⟩
theorem rd_x_up {T S : Nat → Nat} {s p o s1 p1 o1 : Nat} {x : Bool} {r9 : List Bool} {r fk fp pl on : Int32} (h : rd_x T S s1 p1 o1 (true :: r9) r fk fp pl on) (e : rd_m T s p o r9 = rd_m T s1 p1 o1 (true :: r9)) (hp : pl.toInt.toNat < 400) : rd_x T S s p o r9 r fk fp pl on := by
  rcases h with ⟨a, b, q, o2, c, d⟩ | ⟨a, b⟩
  · exact Or.inl ⟨a, b, q, o2, e.trans c, d⟩
  · exact Or.inr ⟨a, (e.trans b).trans (rd_m1_t T _ _ r9 hp)⟩
set_option maxHeartbeats 4000000 in
set_option maxRecDepth 100000 in
theorem x_readSignC (l : Launch) (dC : Nat → ClassId) (dI : Nat → Nat → Nat) (sz : Nat) (ob ad : Nat → Nat) (cA : Nat → ClassId) (hd : dX ob ad) (fv : Nat → Int32) (wd : xT) (ar : Nat → Nat → Int32) (hF_fv : rX fv) (hA_ar : rB ar) (tA : Nat → Nat) (hto : tO tA wd.2.1) (T9 : Nat → Nat) (S9 : Nat → Nat) (N9 : Nat → Int) (c9 : Nat) (fc : Int32) (h_fc : 0 ≤ fc.toInt ∧ fc.toInt ≤ 11) (hcx : rd_cx tA T9 S9 N9 c9 wd.2.1 (ar 36) (ar 37)) (htc : (fv 13).toInt = (c9 : Int) + 1) (hpl : (fv 14).toInt ≤ (c9 : Int)) (h300 : c9 ≤ 300) (hT32 : ∀ k, T9 k < 32) (hfin : T9 c9 = 30 ∨ T9 c9 = 31) (hp_eC : eC fv ar) : Met l yX3_readSign (.code yX3_readSign cX3_readSign 3 (some .boolean) :: lw_good) ({ frames := 3, cells := 0, slots := 0, locals := 63 }) (va_Pc [.ref (ob 6), .int fc] (fun U => prX dC dI ob ad cA fv wd ar sz U ∧ tkA ob ad tA sz U)) (va_Qi (fun (r : Int32) (u : xS) => rX u.1 ∧ rB u.2.2 ∧ fM [14, 16, 19, 20] fv u.1 ∧ fA [41, 42, 43] ar u.2.2 ∧ u.2.1.2 = wd.2 ∧ (0 ≤ r.toInt ∧ r.toInt ≤ 1) ∧ (∀ r9 : List Bool, rd_x T9 S9 2 ((fv 14).toInt.toNat) ((fv 17).toInt.toNat) r9 r (u.1 19) (u.1 20) (u.1 14) (u.1 17)) ∧ (r = 1 → u.1 19 = fv 19) ∧ ((u.1 14).toInt ≤ (c9 : Int)) ∧ (eC u.1 u.2.2) ∧ True) (enX dC dI ob ad cA) (aX ob ad sz)) 0 0 (aX ob ad sz) := by
  refine Met.ofW (cc := cX3_readSign) (maxL := 3) (ret := (some .boolean)) (by decide) rfl ?_
  intro p e s m args below meth c s₁ B hml hv
  obtain ⟨rfl, ⟨hsz, hP, hK⟩, hE⟩ := hv
  have hx := B.exec
  have hb := B.bytes
  have hr := B.returns
  have hts := atoms_spec (ws := (.code yX3_readSign cX3_readSign 3 (some .boolean) :: lw_good)) B.pre
  have htg : ∀ w ∈ lw_good, w.before _ s = true := fun w hw => hts w (List.mem_cons_of_mem _ hw)
  have hown : s.vm.findClass RX3 = some m.cls := findClass_of_methodNamed B.named
  have hlocks := B.notSynchronized
  subst hsz
  have hS : va_S (aX ob ad s.heap.size) s.heap s.heap [] := va_S.rf
  have hl := lv_entry ([.ref (ob 6), .int fc]) (n := 3) (Nat.le_of_ble_eq_true rfl)
  rw [lg_entry_eq]
  generalize (lg_sl ([.ref (ob 6), .int fc]) ++ List.replicate (3 - (lg_sl ([.ref (ob 6), .int fc])).length) Slot.unset).toArray = ls at hl ⊢
  have hl : lv_has ls 3 [(0, .ref (ob 6)), (1, .int fc)] := hl
  have i_1 : 0 ≤ (fv 14).toInt ∧ (fv 14).toInt ≤ 300 := (by have h9 := hF_fv 14; have h8 : 0 ≤ (fv 14).toInt := h9.1; omega)
  refine lv_aload_n hx hb dX3_readSign_0 rfl (lv_at hl 0 rfl) ?_
  have z_2 : 0 ≤ (fv 13).toInt ∧ (fv 13).toInt ≤ 301 := hF_fv 13
  have z_3 : 0 ≤ (fv 14).toInt ∧ (fv 14).toInt ≤ 300 := hF_fv 14
  refine va_callr (va_runV (As := []) (rest := []) ⟨hx, hb, hml, hown, hts⟩ (x_tokenC l dC dI s.heap.size ob ad cA hd fv wd ar hF_fv hA_ar tA hto T9 S9 N9 c9 hcx (by omega) (by omega) h300 hT32 hfin) (cwV 0 hts (gV kw_4_102 kw_4_104 kw_p_4 kw_1_11 kw_4_105) rfl rfl rfl (by decide +kernel) ⟨Nat.le_of_ble_eq_true rfl, Nat.le_of_ble_eq_true rfl⟩) ⟨fun a U g mk q => ⟨q.1, ⟨q.2.1.1, q.2.1.2.1, va_K.moved (u := U) (U := U.calling g mk a) (Vm.Alike.refl U.vm) q.2.1.2.2⟩, tk_mv (U := U.calling g mk a) rfl (Vm.Alike.refl U.vm) q.2.2⟩, va_recv hK hP (ci := 4) (q0 := 6) rfl rfl, fun U hU hW => ⟨rfl, ⟨by rw [hU], by rw [hU]; exact hP, va_K.moved hW.alike hK⟩, tk_pass hE hS hU hW.alike⟩⟩ rfl rfl hl.1 rfl (lv_room (Nat.le_of_ble_eq_true rfl)) dX3_readSign_1 ⟨Nat.le_of_ble_eq_true rfl, Nat.le_of_ble_eq_true rfl⟩) hS (fun q _ h9 => aX_up hS q h9) (aX_up hS) (fun u r_4 t H1 locs ht _ hw hB _ hk1 hS => ?_)
  obtain ⟨fv_5, wd_6, ar_7⟩ := u
  obtain ⟨hF_fv_5, hA_ar_7, fr_8, fa_9, wf_10, -⟩ := hw
  have wf_10 : wd_6.2 = wd.2 := wf_10
  have hP : va_P (dC, dI) vwCl (wsX ob ad cA fv_5 wd_6 ar_7) H1 := by have h9 := hB.1.1; rw [ht] at h9; exact h9
  have fr_8 : fM [] fv fv_5 := fr_8
  have fa_9 : fA [] ar ar_7 := fa_9
  generalize H1 = H at hP hS ⊢
  obtain ⟨j_11, lj_11, rj_11, zj_11⟩ := hB.2
  subst rj_11
  refine lv_astore_n (lv' := [(2, .ref (tA j_11)), (0, .ref (ob 6)), (1, .int fc)]) hx hb dX3_readSign_4 rfl hl (by decide) rfl (fun ls hl => ?_)
  refine lv_aload_n hx hb dX3_readSign_5 rfl (lv_at hl 0 rfl) ?_
  refine va_getE hx hb hE lj_11 hS hown (q := tkrole) (List.mem_cons_self ..) (htg (.fieldLink RX3 162 "WalkingTown$Token" "role" "I") kw_9_66) (fun _ h9 => h9) dX3_readSign_6 ?_
  refine lv_topi (fun v_12 ev_12 => ?_)
  have i_13 : 0 ≤ v_12.toInt ∧ v_12.toInt ≤ 11 := ev_12 ▸ tk_role j_11
  have k_14 := rd_role lj_11 ev_12
  refine lv_iconst (v := 4) hx hb dX3_readSign_9 (by decide) ?_
  refine lv_icmp_eq (tgt := 19) hx hb dX3_readSign_10 (by decide) (fun c_15 => ?_) (fun c_15 => ?_)
  · skip
    have i_16 : 4 ≤ v_12.toInt ∧ v_12.toInt ≤ 4 := iv_eq1 (⟨by decide, by decide⟩ : (4 : Int) ≤ (4 : Int32).toInt ∧ (4 : Int32).toInt ≤ 4) c_15
    refine lv_aload_n hx hb dX3_readSign_19 rfl (lv_at hl 1 rfl) ?_
    have z_18 : (fv_5 13).toInt = (fv 13).toInt := congrArg Int32.toInt ((fr_8 13 rfl))
    have z_19 : 0 ≤ (fv_5 13).toInt ∧ (fv_5 13).toInt ≤ 301 := hF_fv_5 13
    have z_20 : (fv_5 14).toInt = (fv 14).toInt := congrArg Int32.toInt ((fr_8 14 rfl))
    have z_21 : 0 ≤ (fv_5 14).toInt ∧ (fv_5 14).toInt ≤ 300 := hF_fv_5 14
    have z_22 : (fv_5 13).toInt = (fv 13).toInt := congrArg Int32.toInt ((fr_8 13 rfl))
    have z_23 : 0 ≤ (fv_5 13).toInt ∧ (fv_5 13).toInt ≤ 301 := hF_fv_5 13
    have z_24 : (fv_5 14).toInt = (fv 14).toInt := congrArg Int32.toInt ((fr_8 14 rfl))
    have z_25 : 0 ≤ (fv_5 14).toInt ∧ (fv_5 14).toInt ≤ 300 := hF_fv_5 14
    refine va_callv (va_runV (As := []) (rest := []) ⟨hx, hb, hml, hown, hts⟩ (x_stepC l dC dI H.size ob ad cA hd fv_5 wd_6 ar_7 hF_fv_5 hA_ar_7 (by have h9 := rd_lt hfin (p := (fv 14).toInt.toNat) (by omega) (by rw [← zj_11]; omega); omega)) (cwV 0 hts (gV kw_4_116 kw_4_118 kw_p_7 kw_1_11 kw_4_119) rfl rfl rfl (by decide +kernel) ⟨Nat.le_of_ble_eq_true rfl, Nat.le_of_ble_eq_true rfl⟩) ⟨fun a U g mk q => ⟨q.1, q.2.1, q.2.2.1, va_K.moved (u := U) (U := U.calling g mk a) (Vm.Alike.refl U.vm) q.2.2.2⟩, va_recv hK hP (ci := 4) (q0 := 6) rfl rfl, fun U hU hW => ⟨rfl, by rw [hU], by rw [hU]; exact hP, va_K.moved hW.alike hK⟩⟩ rfl rfl hl.1 rfl (lv_room (Nat.le_of_ble_eq_true rfl)) dX3_readSign_20 ⟨Nat.le_of_ble_eq_true rfl, Nat.le_of_ble_eq_true rfl⟩) hS (fun q _ h9 => aX_up hS q h9) (aX_up hS) (fun u t H1 locs ht _ hw hB _ hk1 hS => ?_)
    obtain ⟨fv_28, wd_29, ar_30⟩ := u
    obtain ⟨hF_fv_28, hA_ar_30, fr_31, fa_32, wf_33, p_27, -⟩ := hw
    have wf_33 : wd_29.2 = wd_6.2 := wf_33
    have hP : va_P (dC, dI) vwCl (wsX ob ad cA fv_28 wd_29 ar_30) H1 := by have h9 := hB.1; rw [ht] at h9; exact h9
    have fr_31 : fM [14] fv_5 fv_28 := fr_31
    have fa_32 : fA [] ar_7 ar_30 := fa_32
    have p_27 : (fv_28 14).toInt = (fv_5 14).toInt + 1 ∧ (fv_28 14).toInt ≤ (fv_5 13).toInt - 1 := p_27
    generalize H1 = H at hP hS ⊢
    refine lv_aload_n hx hb dX3_readSign_23 rfl (lv_at hl 1 rfl) ?_
    have z_34 : (fv_28 13).toInt = (fv 13).toInt := congrArg Int32.toInt ((fr_31 13 rfl).trans ((fr_8 13 rfl)))
    have z_35 : 0 ≤ (fv_28 13).toInt ∧ (fv_28 13).toInt ≤ 301 := hF_fv_28 13
    have z_36 : 0 ≤ (fv_28 14).toInt ∧ (fv_28 14).toInt ≤ 300 := hF_fv_28 14
    refine va_callr (va_runV (As := []) (rest := []) ⟨hx, hb, hml, hown, hts⟩ (x_tokenC l dC dI H.size ob ad cA hd fv_28 wd_29 ar_30 hF_fv_28 hA_ar_30 tA (tO_w hto (wf_33.trans wf_10)) T9 S9 N9 c9 (rd_cx_eq hcx (congrArg (fun z => z.1) (wf_33.trans wf_10)) ((fA_call (fA_call (fA_rf [] _) fa_9 (by decide)) fa_32 (by decide)) 36 rfl) ((fA_call (fA_call (fA_rf [] _) fa_9 (by decide)) fa_32 (by decide)) 37 rfl)) (by omega) (by omega) h300 hT32 hfin) (cwV 0 hts (gV kw_4_102 kw_4_104 kw_p_4 kw_1_11 kw_4_105) rfl rfl rfl (by decide +kernel) ⟨Nat.le_of_ble_eq_true rfl, Nat.le_of_ble_eq_true rfl⟩) ⟨fun a U g mk q => ⟨q.1, ⟨q.2.1.1, q.2.1.2.1, va_K.moved (u := U) (U := U.calling g mk a) (Vm.Alike.refl U.vm) q.2.1.2.2⟩, tk_mv (U := U.calling g mk a) rfl (Vm.Alike.refl U.vm) q.2.2⟩, va_recv hK hP (ci := 4) (q0 := 6) rfl rfl, fun U hU hW => ⟨rfl, ⟨by rw [hU], by rw [hU]; exact hP, va_K.moved hW.alike hK⟩, tk_pass hE hS hU hW.alike⟩⟩ rfl rfl hl.1 rfl (lv_room (Nat.le_of_ble_eq_true rfl)) dX3_readSign_24 ⟨Nat.le_of_ble_eq_true rfl, Nat.le_of_ble_eq_true rfl⟩) hS (fun q _ h9 => aX_up hS q h9) (aX_up hS) (fun u r_37 t H1 locs ht _ hw hB _ hk1 hS => ?_)
    obtain ⟨fv_38, wd_39, ar_40⟩ := u
    obtain ⟨hF_fv_38, hA_ar_40, fr_41, fa_42, wf_43, -⟩ := hw
    have wf_43 : wd_39.2 = wd_29.2 := wf_43
    have hP : va_P (dC, dI) vwCl (wsX ob ad cA fv_38 wd_39 ar_40) H1 := by have h9 := hB.1.1; rw [ht] at h9; exact h9
    have fr_41 : fM [] fv_28 fv_38 := fr_41
    have fa_42 : fA [] ar_30 ar_40 := fa_42
    generalize H1 = H at hP hS ⊢
    obtain ⟨j_44, lj_44, rj_44, zj_44⟩ := hB.2
    subst rj_44
    refine va_gets hx hb (hE.1 29 (by decide)).1 hS hown (htg (.fieldLink RX3 129 "WalkingTown$Token" "NUMBER" "LWalkingTown$Token;") kw_4_33) (fun _ h9 => h9) dX3_readSign_27 ?_
    refine lv_acmp_eq (rx := some (tA j_44)) (ry := some (tA 29)) (tgt := 39) hx hb dX3_readSign_30 (by decide) (fun c_45 => ?_) (fun c_45 => ?_)
    · skip
      have k_46 : j_44 = 29 := hE.2 j_44 29 lj_44 (by decide) (Option.some.inj c_45)
      refine lv_aload_n hx hb dX3_readSign_39 rfl (lv_at hl 1 rfl) ?_
      refine lv_aload_n hx hb dX3_readSign_40 rfl (lv_at hl 0 rfl) ?_
      refine va_getE hx hb hE lj_11 hS hown (q := tkcode) (List.mem_cons_of_mem _ (List.mem_cons_self ..)) (htg (.fieldLink RX3 168 "WalkingTown$Token" "code" "I") kw_9_67) (fun _ h9 => h9) dX3_readSign_41 ?_
      refine lv_topi (fun v_47 ev_47 => ?_)
      have i_48 : 0 ≤ v_47.toInt ∧ v_47.toInt ≤ 11 := ev_47 ▸ tk_code j_11
      refine lv_iload_n hx hb dX3_readSign_44 rfl (lv_at hl 2 rfl) ?_
      refine lv_aload_n hx hb dX3_readSign_45 rfl (lv_at hl 1 rfl) ?_
      refine gX_X3_19 hx hb htg hown hK hP dX3_readSign_46 ?_
      refine lv_aload_n hx hb dX3_readSign_49 rfl (lv_at hl 1 rfl) ?_
      refine gX_X3_41 hx hb htg hown hK hP dX3_readSign_50 ?_
      refine my_ti (y := fv_28 14) ((fr_41 14 rfl)) ?_
      have i_49 : 0 ≤ (fv_28 14).toInt ∧ (fv_28 14).toInt ≤ 300 := hF_fv_28 14
      refine lX_37 hx hb hK hP (iv_in i_49 (by decide) (by decide)) dX3_readSign_53 (fun v_50 ev_50 => ?_)
      refine va_calli (va_runV (As := [.int v_47, .int fc, .int v_50]) (rest := []) ⟨hx, hb, hml, hown, hts⟩ (x_addCode l dC dI H.size ob ad cA hd fv_38 wd_39 ar_40 hF_fv_38 hA_ar_40 v_47 fc v_50 h_fc (eC_fr hp_eC (fM_call (fM_call (fM_call (fM_rf [14] _) fr_8 (by decide)) fr_31 (by decide)) fr_41 (by decide)) (fA_call (fA_call (fA_call (fA_rf [] _) fa_9 (by decide)) fa_32 (by decide)) fa_42 (by decide)) rfl rfl rfl)) (cwV 3 hts (gV kw_4_150 kw_4_152 kw_p_14 kw_1_11 kw_4_153) rfl rfl rfl (by decide +kernel) ⟨Nat.le_of_ble_eq_true rfl, Nat.le_of_ble_eq_true rfl⟩) ⟨fun a U g mk q => ⟨q.1, q.2.1, q.2.2.1, va_K.moved (u := U) (U := U.calling g mk a) (Vm.Alike.refl U.vm) q.2.2.2⟩, va_recv hK hP (ci := 4) (q0 := 6) rfl rfl, fun U hU hW => ⟨rfl, by rw [hU], by rw [hU]; exact hP, va_K.moved hW.alike hK⟩⟩ rfl rfl hl.1 rfl (lv_room (Nat.le_of_ble_eq_true rfl)) dX3_readSign_54 ⟨Nat.le_of_ble_eq_true rfl, Nat.le_of_ble_eq_true rfl⟩) hS (fun q _ h9 => aX_up hS q h9) (aX_up hS) (fun r_51 u t H1 locs ht _ hw hB _ hk1 hS => ?_)
      obtain ⟨fv_55, wd_56, ar_57⟩ := u
      obtain ⟨hF_fv_55, hA_ar_57, fr_58, fa_59, wf_60, p_52, p_53, p_54, -⟩ := hw
      have wf_60 : wd_56.2 = wd_39.2 := wf_60
      have hP : va_P (dC, dI) vwCl (wsX ob ad cA fv_55 wd_56 ar_57) H1 := by have h9 := hB.1; rw [ht] at h9; exact h9
      have fr_58 : fM [16] fv_38 fv_55 := fr_58
      have fa_59 : fA [41, 42, 43] ar_40 ar_57 := fa_59
      have p_54 : eC fv_55 ar_57 := p_54
      generalize H1 = H at hP hS ⊢
      rcases p_53 with ⟨rfl, p_53⟩
      · skip
        refine lv_pop hx hb dX3_readSign_57 rfl ?_
        refine lv_aload_n hx hb dX3_readSign_58 rfl (lv_at hl 1 rfl) ?_
        have z_61 : (fv_55 13).toInt = (fv 13).toInt := congrArg Int32.toInt ((fr_58 13 rfl).trans ((fr_41 13 rfl).trans ((fr_31 13 rfl).trans ((fr_8 13 rfl)))))
        have z_62 : 0 ≤ (fv_55 13).toInt ∧ (fv_55 13).toInt ≤ 301 := hF_fv_55 13
        have z_63 : (fv_55 14).toInt = (fv_28 14).toInt := congrArg Int32.toInt ((fr_58 14 rfl).trans ((fr_41 14 rfl)))
        have z_64 : 0 ≤ (fv_55 14).toInt ∧ (fv_55 14).toInt ≤ 300 := hF_fv_55 14
        have z_65 : (fv_55 13).toInt = (fv 13).toInt := congrArg Int32.toInt ((fr_58 13 rfl).trans ((fr_41 13 rfl).trans ((fr_31 13 rfl).trans ((fr_8 13 rfl)))))
        have z_66 : 0 ≤ (fv_55 13).toInt ∧ (fv_55 13).toInt ≤ 301 := hF_fv_55 13
        have z_67 : (fv_55 14).toInt = (fv_28 14).toInt := congrArg Int32.toInt ((fr_58 14 rfl).trans ((fr_41 14 rfl)))
        have z_68 : 0 ≤ (fv_55 14).toInt ∧ (fv_55 14).toInt ≤ 300 := hF_fv_55 14
        refine va_callv (va_runV (As := []) (rest := []) ⟨hx, hb, hml, hown, hts⟩ (x_stepC l dC dI H.size ob ad cA hd fv_55 wd_56 ar_57 hF_fv_55 hA_ar_57 (by have h9 := rd_lt hfin (p := (fv_28 14).toInt.toNat) (by omega) (by rw [← zj_44]; omega); omega)) (cwV 0 hts (gV kw_4_116 kw_4_118 kw_p_7 kw_1_11 kw_4_119) rfl rfl rfl (by decide +kernel) ⟨Nat.le_of_ble_eq_true rfl, Nat.le_of_ble_eq_true rfl⟩) ⟨fun a U g mk q => ⟨q.1, q.2.1, q.2.2.1, va_K.moved (u := U) (U := U.calling g mk a) (Vm.Alike.refl U.vm) q.2.2.2⟩, va_recv hK hP (ci := 4) (q0 := 6) rfl rfl, fun U hU hW => ⟨rfl, by rw [hU], by rw [hU]; exact hP, va_K.moved hW.alike hK⟩⟩ rfl rfl hl.1 rfl (lv_room (Nat.le_of_ble_eq_true rfl)) dX3_readSign_59 ⟨Nat.le_of_ble_eq_true rfl, Nat.le_of_ble_eq_true rfl⟩) hS (fun q _ h9 => aX_up hS q h9) (aX_up hS) (fun u t H1 locs ht _ hw hB _ hk1 hS => ?_)
        obtain ⟨fv_71, wd_72, ar_73⟩ := u
        obtain ⟨hF_fv_71, hA_ar_73, fr_74, fa_75, wf_76, p_70, -⟩ := hw
        have wf_76 : wd_72.2 = wd_56.2 := wf_76
        have hP : va_P (dC, dI) vwCl (wsX ob ad cA fv_71 wd_72 ar_73) H1 := by have h9 := hB.1; rw [ht] at h9; exact h9
        have fr_74 : fM [14] fv_55 fv_71 := fr_74
        have fa_75 : fA [] ar_57 ar_73 := fa_75
        have p_70 : (fv_71 14).toInt = (fv_55 14).toInt + 1 ∧ (fv_71 14).toInt ≤ (fv_55 13).toInt - 1 := p_70
        generalize H1 = H at hP hS ⊢
        refine lv_iconst (v := 1) hx hb dX3_readSign_62 (by decide) ?_
        have z_77 : (1 : Int32).toInt = 1 := by decide
        exact W.zret (v := 1) hx hb hr (by decide) (fun t ht hW => ⟨⟨1, (fv_71, wd_72, ar_73), rfl, ⟨hF_fv_71, hA_ar_73, (fM_call (fM_call (fM_call (fM_call (fM_call (fM_rf [14, 16, 19, 20] _) fr_8 (by decide)) fr_31 (by decide)) fr_41 (by decide)) fr_58 (by decide)) fr_74 (by decide)), (fA_call (fA_call (fA_call (fA_call (fA_call (fA_rf [41, 42, 43] _) fa_9 (by decide)) fa_32 (by decide)) fa_42 (by decide)) fa_59 (by decide)) fa_75 (by decide)), (wf_76.trans (wf_60.trans (wf_43.trans (wf_33.trans wf_10)))), (iv_w (⟨by decide, by decide⟩ : (1 : Int) ≤ (1 : Int32).toInt ∧ (1 : Int32).toInt ≤ 1) (by decide) (by decide)), (show ∀ r9 : List Bool, rd_x T9 S9 2 ((fv 14).toInt.toNat) ((fv 17).toInt.toNat) r9 (1 : Int32) (fv_71 19) (fv_71 20) (fv_71 14) (fv_71 17) from fun r9 => by have : (fv_5 14).toInt = (fv 14).toInt := congrArg Int32.toInt ((fM_call (fM_rf [] _) fr_8 (by decide)) 14 rfl); have : (fv_38 14).toInt = (fv_28 14).toInt := congrArg Int32.toInt ((fM_call (fM_rf [] _) fr_41 (by decide)) 14 rfl); have : (fv_55 14).toInt = (fv_38 14).toInt := congrArg Int32.toInt ((fM_call (fM_rf [16] _) fr_58 (by decide)) 14 rfl); have : (fv_5 17).toInt = (fv 17).toInt := congrArg Int32.toInt ((fM_call (fM_rf [] _) fr_8 (by decide)) 17 rfl); have : (fv_28 17).toInt = (fv_5 17).toInt := congrArg Int32.toInt ((fM_call (fM_rf [14] _) fr_31 (by decide)) 17 rfl); have : (fv_38 17).toInt = (fv_28 17).toInt := congrArg Int32.toInt ((fM_call (fM_rf [] _) fr_41 (by decide)) 17 rfl); have : (fv_55 17).toInt = (fv_38 17).toInt := congrArg Int32.toInt ((fM_call (fM_rf [16] _) fr_58 (by decide)) 17 rfl); have : (fv_71 17).toInt = (fv_55 17).toInt := congrArg Int32.toInt ((fM_call (fM_rf [14] _) fr_74 (by decide)) 17 rfl); exact rd_xO (by skip; rw [rd_m2_sign (by omega) (by rw [← zj_11]; omega)]; rw [show (fv 14).toInt.toNat + 1 = (fv_28 14).toInt.toNat from (by omega)]; rw [rd_m3_num (by omega) (by rw [← zj_44]; omega), show (fv_28 14).toInt.toNat + 1 = (fv_71 14).toInt.toNat from (by omega), show (fv 17).toInt.toNat = (fv_71 17).toInt.toNat from (by omega)])), (show (1 : Int32) = 1 → fv_71 19 = fv 19 from fun _ => ((fM_call (fM_call (fM_call (fM_call (fM_call (fM_rf [14, 16] _) fr_8 (by decide)) fr_31 (by decide)) fr_41 (by decide)) fr_58 (by decide)) fr_74 (by decide)) 19 rfl)), (show (fv_71 14).toInt ≤ (c9 : Int) from by have : (fv_5 14).toInt = (fv 14).toInt := congrArg Int32.toInt ((fM_call (fM_rf [] _) fr_8 (by decide)) 14 rfl); have : (fv_38 14).toInt = (fv_28 14).toInt := congrArg Int32.toInt ((fM_call (fM_rf [] _) fr_41 (by decide)) 14 rfl); have : (fv_55 14).toInt = (fv_38 14).toInt := congrArg Int32.toInt ((fM_call (fM_rf [16] _) fr_58 (by decide)) 14 rfl); omega), (eC_fr p_54 (fM_call (fM_rf [14] _) fr_74 (by decide)) (fA_call (fA_rf [] _) fa_75 (by decide)) rfl rfl rfl), trivial⟩, ⟨by rw [ht]; exact hP, va_K.moved hW.alike hK⟩⟩, hS.F ht⟩) hS.2.2 dX3_readSign_63
    · skip
      have k_78 : ¬ j_44 = 29 := fun w => c_45 (by rw [w])
      refine lv_aload_n hx hb dX3_readSign_33 rfl (lv_at hl 1 rfl) ?_
      refine lv_iconst (v := 1) hx hb dX3_readSign_34 (by decide) ?_
      have z_79 : (fv_38 14).toInt = (fv_28 14).toInt := congrArg Int32.toInt ((fr_41 14 rfl))
      have z_80 : 0 ≤ (fv_38 14).toInt ∧ (fv_38 14).toInt ≤ 300 := hF_fv_38 14
      refine va_calli (va_runV (As := [.int 1]) (rest := []) ⟨hx, hb, hml, hown, hts⟩ (x_failC l dC dI H.size ob ad cA hd fv_38 wd_39 ar_40 hF_fv_38 hA_ar_40 1) (cwV 1 hts (gV kw_4_110 kw_4_112 kw_p_6 kw_1_11 kw_4_113) rfl rfl rfl (by decide +kernel) ⟨Nat.le_of_ble_eq_true rfl, Nat.le_of_ble_eq_true rfl⟩) ⟨fun a U g mk q => ⟨q.1, q.2.1, q.2.2.1, va_K.moved (u := U) (U := U.calling g mk a) (Vm.Alike.refl U.vm) q.2.2.2⟩, va_recv hK hP (ci := 4) (q0 := 6) rfl rfl, fun U hU hW => ⟨rfl, by rw [hU], by rw [hU]; exact hP, va_K.moved hW.alike hK⟩⟩ rfl rfl hl.1 rfl (lv_room (Nat.le_of_ble_eq_true rfl)) dX3_readSign_35 ⟨Nat.le_of_ble_eq_true rfl, Nat.le_of_ble_eq_true rfl⟩) hS (fun q _ h9 => aX_up hS q h9) (aX_up hS) (fun r_81 u t H1 locs ht _ hw hB _ hk1 hS => ?_)
      obtain ⟨fv_86, wd_87, ar_88⟩ := u
      obtain ⟨hF_fv_86, hA_ar_88, fr_89, fa_90, wf_91, p_82, p_83, p_84, p_85, -⟩ := hw
      have wf_91 : wd_87.2 = wd_39.2 := wf_91
      have hP : va_P (dC, dI) vwCl (wsX ob ad cA fv_86 wd_87 ar_88) H1 := by have h9 := hB.1; rw [ht] at h9; exact h9
      have fr_89 : fM [19, 20] fv_38 fv_86 := fr_89
      have fa_90 : fA [] ar_40 ar_88 := fa_90
      have p_84 : fv_86 19 = (1 : Int32) := p_84
      have p_85 : fv_86 20 = ar_40 36 ((fv_38 14).toInt.toNat) := p_85
      generalize H1 = H at hP hS ⊢
      rcases p_83 with ⟨rfl, p_83⟩
      · skip
        have z_92 : (0 : Int32).toInt = 0 := by decide
        exact W.zret (v := 0) hx hb hr (by decide) (fun t ht hW => ⟨⟨0, (fv_86, wd_87, ar_88), rfl, ⟨hF_fv_86, hA_ar_88, (fM_call (fM_call (fM_call (fM_call (fM_rf [14, 16, 19, 20] _) fr_8 (by decide)) fr_31 (by decide)) fr_41 (by decide)) fr_89 (by decide)), (fA_call (fA_call (fA_call (fA_call (fA_rf [41, 42, 43] _) fa_9 (by decide)) fa_32 (by decide)) fa_42 (by decide)) fa_90 (by decide)), (wf_91.trans (wf_43.trans (wf_33.trans wf_10))), (iv_w (⟨by decide, by decide⟩ : (0 : Int) ≤ (0 : Int32).toInt ∧ (0 : Int32).toInt ≤ 0) (by decide) (by decide)), (show ∀ r9 : List Bool, rd_x T9 S9 2 ((fv 14).toInt.toNat) ((fv 17).toInt.toNat) r9 (0 : Int32) (fv_86 19) (fv_86 20) (fv_86 14) (fv_86 17) from fun r9 => by have : (fv_5 14).toInt = (fv 14).toInt := congrArg Int32.toInt ((fM_call (fM_rf [] _) fr_8 (by decide)) 14 rfl); have : (fv_38 14).toInt = (fv_28 14).toInt := congrArg Int32.toInt ((fM_call (fM_rf [] _) fr_41 (by decide)) 14 rfl); have : (fv_86 14).toInt = (fv_38 14).toInt := congrArg Int32.toInt ((fM_call (fM_rf [19, 20] _) fr_89 (by decide)) 14 rfl); have : (fv_5 17).toInt = (fv 17).toInt := congrArg Int32.toInt ((fM_call (fM_rf [] _) fr_8 (by decide)) 17 rfl); have : (fv_28 17).toInt = (fv_5 17).toInt := congrArg Int32.toInt ((fM_call (fM_rf [14] _) fr_31 (by decide)) 17 rfl); have : (fv_38 17).toInt = (fv_28 17).toInt := congrArg Int32.toInt ((fM_call (fM_rf [] _) fr_41 (by decide)) 17 rfl); have : (fv_86 17).toInt = (fv_38 17).toInt := congrArg Int32.toInt ((fM_call (fM_rf [19, 20] _) fr_89 (by decide)) 17 rfl); exact rd_xF (q := (fv_38 14).toInt.toNat) (show (fv_86 19).toInt = ((1 : Nat) : Int) from by rw [show fv_86 19 = fv_86 19 from rfl, p_84]; decide) (by decide) (by skip; rw [rd_m2_sign (by omega) (by rw [← zj_11]; omega)]; rw [show (fv 14).toInt.toNat + 1 = (fv_28 14).toInt.toNat from (by omega)]; rw [rd_m3_bad (by omega) (by rw [← zj_44]; omega)]; rw [show (fv_28 14).toInt.toNat = (fv_38 14).toInt.toNat from (by omega)]) (show (fv_86 20).toInt = (S9 ((fv_38 14).toInt.toNat) : Nat) from by rw [show fv_86 20 = fv_86 20 from rfl, p_85, show ar_40 36 = ar 36 from ((fA_call (fA_call (fA_call (fA_rf [] _) fa_9 (by decide)) fa_32 (by decide)) fa_42 (by decide)) 36 rfl)]; exact (hcx ((fv_38 14).toInt.toNat) (by omega)).2.1)), (show (0 : Int32) = 1 → fv_86 19 = fv 19 from fun w => absurd w (by decide)), (show (fv_86 14).toInt ≤ (c9 : Int) from by have : (fv_5 14).toInt = (fv 14).toInt := congrArg Int32.toInt ((fM_call (fM_rf [] _) fr_8 (by decide)) 14 rfl); have : (fv_38 14).toInt = (fv_28 14).toInt := congrArg Int32.toInt ((fM_call (fM_rf [] _) fr_41 (by decide)) 14 rfl); have : (fv_86 14).toInt = (fv_38 14).toInt := congrArg Int32.toInt ((fM_call (fM_rf [19, 20] _) fr_89 (by decide)) 14 rfl); omega), (eC_fr hp_eC (fM_call (fM_call (fM_call (fM_call (fM_rf [14, 19, 20] _) fr_8 (by decide)) fr_31 (by decide)) fr_41 (by decide)) fr_89 (by decide)) (fA_call (fA_call (fA_call (fA_call (fA_rf [] _) fa_9 (by decide)) fa_32 (by decide)) fa_42 (by decide)) fa_90 (by decide)) rfl rfl rfl), trivial⟩, ⟨by rw [ht]; exact hP, va_K.moved hW.alike hK⟩⟩, hS.F ht⟩) hS.2.2 dX3_readSign_38
  · skip
    have k_93 : ¬ v_12.toInt = 4 := fun q => c_15 (Int32.toInt_inj.mp q)
    refine lv_aload_n hx hb dX3_readSign_13 rfl (lv_at hl 1 rfl) ?_
    refine lv_iconst (v := 1) hx hb dX3_readSign_14 (by decide) ?_
    have z_94 : (fv_5 14).toInt = (fv 14).toInt := congrArg Int32.toInt ((fr_8 14 rfl))
    have z_95 : 0 ≤ (fv_5 14).toInt ∧ (fv_5 14).toInt ≤ 300 := hF_fv_5 14
    refine va_calli (va_runV (As := [.int 1]) (rest := []) ⟨hx, hb, hml, hown, hts⟩ (x_failC l dC dI H.size ob ad cA hd fv_5 wd_6 ar_7 hF_fv_5 hA_ar_7 1) (cwV 1 hts (gV kw_4_110 kw_4_112 kw_p_6 kw_1_11 kw_4_113) rfl rfl rfl (by decide +kernel) ⟨Nat.le_of_ble_eq_true rfl, Nat.le_of_ble_eq_true rfl⟩) ⟨fun a U g mk q => ⟨q.1, q.2.1, q.2.2.1, va_K.moved (u := U) (U := U.calling g mk a) (Vm.Alike.refl U.vm) q.2.2.2⟩, va_recv hK hP (ci := 4) (q0 := 6) rfl rfl, fun U hU hW => ⟨rfl, by rw [hU], by rw [hU]; exact hP, va_K.moved hW.alike hK⟩⟩ rfl rfl hl.1 rfl (lv_room (Nat.le_of_ble_eq_true rfl)) dX3_readSign_15 ⟨Nat.le_of_ble_eq_true rfl, Nat.le_of_ble_eq_true rfl⟩) hS (fun q _ h9 => aX_up hS q h9) (aX_up hS) (fun r_96 u t H1 locs ht _ hw hB _ hk1 hS => ?_)
    obtain ⟨fv_101, wd_102, ar_103⟩ := u
    obtain ⟨hF_fv_101, hA_ar_103, fr_104, fa_105, wf_106, p_97, p_98, p_99, p_100, -⟩ := hw
    have wf_106 : wd_102.2 = wd_6.2 := wf_106
    have hP : va_P (dC, dI) vwCl (wsX ob ad cA fv_101 wd_102 ar_103) H1 := by have h9 := hB.1; rw [ht] at h9; exact h9
    have fr_104 : fM [19, 20] fv_5 fv_101 := fr_104
    have fa_105 : fA [] ar_7 ar_103 := fa_105
    have p_99 : fv_101 19 = (1 : Int32) := p_99
    have p_100 : fv_101 20 = ar_7 36 ((fv_5 14).toInt.toNat) := p_100
    generalize H1 = H at hP hS ⊢
    rcases p_98 with ⟨rfl, p_98⟩
    · skip
      have z_107 : (0 : Int32).toInt = 0 := by decide
      exact W.zret (v := 0) hx hb hr (by decide) (fun t ht hW => ⟨⟨0, (fv_101, wd_102, ar_103), rfl, ⟨hF_fv_101, hA_ar_103, (fM_call (fM_call (fM_rf [14, 16, 19, 20] _) fr_8 (by decide)) fr_104 (by decide)), (fA_call (fA_call (fA_rf [41, 42, 43] _) fa_9 (by decide)) fa_105 (by decide)), (wf_106.trans wf_10), (iv_w (⟨by decide, by decide⟩ : (0 : Int) ≤ (0 : Int32).toInt ∧ (0 : Int32).toInt ≤ 0) (by decide) (by decide)), (show ∀ r9 : List Bool, rd_x T9 S9 2 ((fv 14).toInt.toNat) ((fv 17).toInt.toNat) r9 (0 : Int32) (fv_101 19) (fv_101 20) (fv_101 14) (fv_101 17) from fun r9 => by have : (fv_5 14).toInt = (fv 14).toInt := congrArg Int32.toInt ((fM_call (fM_rf [] _) fr_8 (by decide)) 14 rfl); have : (fv_101 14).toInt = (fv_5 14).toInt := congrArg Int32.toInt ((fM_call (fM_rf [19, 20] _) fr_104 (by decide)) 14 rfl); have : (fv_5 17).toInt = (fv 17).toInt := congrArg Int32.toInt ((fM_call (fM_rf [] _) fr_8 (by decide)) 17 rfl); have : (fv_101 17).toInt = (fv_5 17).toInt := congrArg Int32.toInt ((fM_call (fM_rf [19, 20] _) fr_104 (by decide)) 17 rfl); exact rd_xF (q := (fv_5 14).toInt.toNat) (show (fv_101 19).toInt = ((1 : Nat) : Int) from by rw [show fv_101 19 = fv_101 19 from rfl, p_99]; decide) (by decide) (by skip; rw [rd_m2_bad (by omega) (by rw [← zj_11]; omega)]; rw [show (fv 14).toInt.toNat = (fv_5 14).toInt.toNat from (by omega)]) (show (fv_101 20).toInt = (S9 ((fv_5 14).toInt.toNat) : Nat) from by rw [show fv_101 20 = fv_101 20 from rfl, p_100, show ar_7 36 = ar 36 from ((fA_call (fA_rf [] _) fa_9 (by decide)) 36 rfl)]; exact (hcx ((fv_5 14).toInt.toNat) (by omega)).2.1)), (show (0 : Int32) = 1 → fv_101 19 = fv 19 from fun w => absurd w (by decide)), (show (fv_101 14).toInt ≤ (c9 : Int) from by have : (fv_5 14).toInt = (fv 14).toInt := congrArg Int32.toInt ((fM_call (fM_rf [] _) fr_8 (by decide)) 14 rfl); have : (fv_101 14).toInt = (fv_5 14).toInt := congrArg Int32.toInt ((fM_call (fM_rf [19, 20] _) fr_104 (by decide)) 14 rfl); omega), (eC_fr hp_eC (fM_call (fM_call (fM_rf [19, 20] _) fr_8 (by decide)) fr_104 (by decide)) (fA_call (fA_call (fA_rf [] _) fa_9 (by decide)) fa_105 (by decide)) rfl rfl rfl), trivial⟩, ⟨by rw [ht]; exact hP, va_K.moved hW.alike hK⟩⟩, hS.F ht⟩) hS.2.2 dX3_readSign_18

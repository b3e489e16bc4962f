def rd_x (T S : Nat → Nat) (s p o : Nat) (r9 : List Bool) (r fk fp pl on : Int32) : Prop := (r = 0 ∧ 0 < fk.toInt ∧ ∃ q o2, rd_m T s p o r9 = (fk.toInt.toNat, q, o2) ∧ fp.toInt = (S q : Nat)) ∨ (r = 1 ∧ rd_m T s p o r9 = rd_m T 1 pl.toInt.toNat on.toInt.toNat r9)
theorem rd_xF {T S : Nat → Nat} {s p o q o2 : Nat} {r9 : List Bool} {fk fp pl on : Int32} {k : Nat} (h1 : fk.toInt = (k : Int)) (h2 : 0 < k) (h3 : rd_m T s p o r9 = (k, q, o2)) (h4 : fp.toInt = (S q : Nat)) : rd_x T S s p o r9 0 fk fp pl on := Or.inl ⟨rfl, by omega, q, o2, by rw [h3, h1]; rfl, h4⟩
theorem rd_xO {T S : Nat → Nat} {s p o : Nat} {r9 : List Bool} {fk fp pl on : Int32} (h : rd_m T s p o r9 = rd_m T 1 pl.toInt.toNat on.toInt.toNat r9) : rd_x T S s p o r9 1 fk fp pl on := Or.inr ⟨rfl, h⟩
theorem rd_x_of {T S : Nat → Nat} {s p o s1 p1 o1 : Nat} {r9 : List Bool} {r fk fp pl on : Int32} (h : rd_x T S s1 p1 o1 r9 r fk fp pl on) (e : rd_m T s p o r9 = rd_m T s1 p1 o1 r9) : rd_x T S s p o r9 r fk fp pl on := by
  rcases h with ⟨a, b, q, o2, c, d⟩ | ⟨a, b⟩
  · exact Or.inl ⟨a, b, q, o2, e.trans c, d⟩
  · exact Or.inr ⟨a, e.trans b⟩
theorem rd_x_up {T S : Nat → Nat} {s p o s1 p1 o1 : Nat} {x : Bool} {r9 : List Bool} {r fk fp pl on : Int32} (h : rd_x T S s1 p1 o1 (true :: r9) r fk fp pl on) (e : rd_m T s p o r9 = rd_m T s1 p1 o1 (true :: r9)) (hp : pl.toInt.toNat < 400) : rd_x T S s p o r9 r fk fp pl on := by
  rcases h with ⟨a, b, q, o2, c, d⟩ | ⟨a, b⟩
  · exact Or.inl ⟨a, b, q, o2, e.trans c, d⟩
  · exact Or.inr ⟨a, (e.trans b).trans (rd_m1_t T _ _ r9 hp)⟩
theorem rd_code {j : Nat} (hj : j < 32) {v : Int32} (e : v = tkcode.2.2.2.getD j 0) : (j < 7 ∧ v.toInt = j) ∨ (7 ≤ j ∧ j < 19 ∧ v.toInt + 7 = j) ∨ (19 ≤ j ∧ j < 22 ∧ v.toInt + 19 = j) ∨ 22 ≤ j := by
  subst e
  revert j
  decide +kernel
def cd_L (f : Nat → Int32) (a : Nat → Nat → Int32) : List (Nat × Nat × Int) := cd_lx (a 41) (a 42) (a 43) ((f 16).toInt.toNat)
theorem cd_L_eq {f f1 : Nat → Int32} {a a1 : Nat → Nat → Int32} (h1 : a1 41 = a 41) (h2 : a1 42 = a 42) (h3 : a1 43 = a 43) (h4 : f1 16 = f 16) : cd_L f1 a1 = cd_L f a := by
  unfold cd_L; rw [h1, h2, h3, h4]
theorem cd_L_add {f f1 : Nat → Int32} {a a1 : Nat → Nat → Int32} {x y z : Int32} (h4 : (f1 16).toInt.toNat = (f 16).toInt.toNat + 1) (h1 : a1 41 = upd (a 41) ((f 16).toInt.toNat) x) (h2 : a1 42 = upd (a 42) ((f 16).toInt.toNat) y) (h3 : a1 43 = upd (a 43) ((f 16).toInt.toNat) z) : cd_L f1 a1 = cd_L f a ++ [cd_x x y z] := by
  unfold cd_L; rw [h4]; exact cd_lx_add h1 h2 h3
theorem cd_x3 : cd_x 3 0 0 = (12, 0, 0) := by decide
theorem cd_x4 : cd_x 4 0 0 = (13, 0, 0) := by decide
theorem cd_x5 : cd_x 5 0 0 = (14, 0, 0) := by decide
theorem cd_x_flag {t : Nat} {v : Int32} (h : v.toInt + 7 = (t : Int)) (h1 : 7 ≤ t ∧ t ≤ 10) : cd_x 2 v 0 = (t - 7, 0, 0) := by
  unfold cd_x
  rw [if_neg (by decide), if_neg (by decide), if_neg (by decide), if_pos (by omega), if_pos ⟨by omega, by decide, by decide⟩, show v.toInt.toNat = t - 7 from by omega]
theorem cd_x_sign {t : Nat} {a v m : Int32} {n : Int} (h : a.toInt + 19 = (t : Int)) (h1 : 19 ≤ t ∧ t ≤ 21) (h2 : 4 ≤ v.toInt) (h5 : v.toInt ≤ 11) (h3 : m.toInt = n) : cd_x a v m = (v.toInt.toNat, t + 41, n) := by
  unfold cd_x
  rw [if_neg (by omega), if_neg (by omega), if_neg (by omega), if_neg (by omega), if_pos ⟨by omega, by omega, h5⟩, h3, show (a.toInt + 60).toNat = t + 41 from by omega]
set_option maxHeartbeats 4000000 in
set_option maxRecDepth 100000 in
theorem x_addCodeC (l : Launch) (dC : Nat → ClassId) (dI : Nat → Nat → Nat) (sz : Nat) (ob ad : Nat → Nat) (cA : Nat → ClassId) (hd : dX ob ad) (fv : Nat → Int32) (wd : xT) (ar : Nat → Nat → Int32) (hF_fv : rX fv) (hA_ar : rB ar) (a : Int32) (fc : Int32) (b : Int32) (h_fc : 0 ≤ fc.toInt ∧ fc.toInt ≤ 11) (hcd : (fv 16).toInt ≤ 99) (hp_eC : eC fv ar) : Met l yX3_addCode (.code yX3_addCode cX3_addCode 4 (some .boolean) :: lw_good) ({ frames := 2, cells := 0, slots := 0, locals := 40 }) (va_Pc [.ref (ob 6), .int a, .int fc, .int b] (prX dC dI ob ad cA fv wd ar sz)) (va_Qi (fun (r : Int32) (u : xS) => rX u.1 ∧ rB u.2.2 ∧ fM [16] fv u.1 ∧ fA [41, 42, 43] ar u.2.2 ∧ u.2.1.2 = wd.2 ∧ (0 ≤ r.toInt ∧ r.toInt ≤ 1) ∧ ((r = 1 ∧ True)) ∧ (cd_L u.1 u.2.2 = cd_L fv ar ++ [cd_x a fc b]) ∧ ((u.1 16).toInt = (fv 16).toInt + 1) ∧ (eC u.1 u.2.2) ∧ True) (enX dC dI ob ad cA) (aX ob ad sz)) 0 0 (aX ob ad sz) := by
  refine Met.ofW (cc := cX3_addCode) (maxL := 4) (ret := (some .boolean)) (by decide) rfl ?_
  intro p e s m args below meth c s₁ B hml hv
  obtain ⟨rfl, hsz, hP, hK⟩ := hv
  have hx := B.exec
  have hb := B.bytes
  have hr := B.returns
  have hts := atoms_spec (ws := (.code yX3_addCode cX3_addCode 4 (some .boolean) :: lw_good)) B.pre
  have htg : ∀ w ∈ lw_good, w.before _ s = true := fun w hw => hts w (List.mem_cons_of_mem _ hw)
  have hown : s.vm.findClass RX3 = some m.cls := findClass_of_methodNamed B.named
  have hlocks := B.notSynchronized
  subst hsz
  have hS : va_S (aX ob ad s.heap.size) s.heap s.heap [] := va_S.rf
  have hl := lv_entry ([.ref (ob 6), .int a, .int fc, .int b]) (n := 4) (Nat.le_of_ble_eq_true rfl)
  rw [lg_entry_eq]
  generalize (lg_sl ([.ref (ob 6), .int a, .int fc, .int b]) ++ List.replicate (4 - (lg_sl ([.ref (ob 6), .int a, .int fc, .int b])).length) Slot.unset).toArray = ls at hl ⊢
  have hl : lv_has ls 4 [(0, .ref (ob 6)), (1, .int a), (2, .int fc), (3, .int b)] := hl
  have i_1 : 0 ≤ (fv 16).toInt ∧ (fv 16).toInt ≤ 99 := ⟨(hF_fv 16).1, hcd⟩
  refine lv_aload_n hx hb dX3_addCode_0 rfl (lv_at hl 0 rfl) ?_
  refine gX_X3_35 hx hb htg hown hK hP dX3_addCode_1 ?_
  refine lv_bipush (v := 100) hx hb dX3_addCode_4 (by decide) ?_
  refine lv_icmp_ge (tgt := 58) hx hb dX3_addCode_6 (by decide) (fun c_2 => ?_) (fun c_2 => ?_)
  · skip
    exact absurd True.intro (by have h7 := (⟨by decide, by decide⟩ : (100 : Int) ≤ (100 : Int32).toInt ∧ (100 : Int32).toInt ≤ 100); have h8 := i_1; have h9 := Int32.le_iff_toInt_le.mp c_2; exfalso; omega)
  · skip
    refine lv_aload_n hx hb dX3_addCode_9 rfl (lv_at hl 0 rfl) ?_
    refine gX_X3_27 hx hb htg hown hK hP dX3_addCode_10 ?_
    refine gX_X3_85 hx hb htg hown hK hP dX3_addCode_13 ?_
    refine lv_aload_n hx hb dX3_addCode_16 rfl (lv_at hl 0 rfl) ?_
    refine gX_X3_35 hx hb htg hown hK hP dX3_addCode_17 ?_
    refine lv_iload_n hx hb dX3_addCode_20 rfl (lv_at hl 1 rfl) ?_
    refine sX_41 hx hb hK hP hS hd (iv_in i_1 (by decide) (by decide)) dX3_addCode_21 (fun H locs ar_3 ear_3 hP hS => ?_)
    have hA_ar_3 : rB ar_3 := rB_put hA_ar ear_3 (iv_any _)
    refine lv_aload_n hx hb dX3_addCode_22 rfl (lv_at hl 0 rfl) ?_
    refine gX_X3_27 hx hb htg hown hK hP dX3_addCode_23 ?_
    refine gX_X3_88 hx hb htg hown hK hP dX3_addCode_26 ?_
    refine lv_aload_n hx hb dX3_addCode_29 rfl (lv_at hl 0 rfl) ?_
    refine gX_X3_35 hx hb htg hown hK hP dX3_addCode_30 ?_
    refine lv_iload_n hx hb dX3_addCode_33 rfl (lv_at hl 2 rfl) ?_
    refine sX_42 hx hb hK hP hS hd (iv_in i_1 (by decide) (by decide)) dX3_addCode_34 (fun H locs ar_4 ear_4 hP hS => ?_)
    have hA_ar_4 : rB ar_4 := rB_put hA_ar_3 ear_4 h_fc
    refine lv_aload_n hx hb dX3_addCode_35 rfl (lv_at hl 0 rfl) ?_
    refine gX_X3_27 hx hb htg hown hK hP dX3_addCode_36 ?_
    refine gX_X3_91 hx hb htg hown hK hP dX3_addCode_39 ?_
    refine lv_aload_n hx hb dX3_addCode_42 rfl (lv_at hl 0 rfl) ?_
    refine gX_X3_35 hx hb htg hown hK hP dX3_addCode_43 ?_
    refine lv_iload_n hx hb dX3_addCode_46 rfl (lv_at hl 3 rfl) ?_
    refine sX_43 hx hb hK hP hS hd (iv_in i_1 (by decide) (by decide)) dX3_addCode_47 (fun H locs ar_5 ear_5 hP hS => ?_)
    have hA_ar_5 : rB ar_5 := rB_put hA_ar_4 ear_5 (iv_any _)
    refine lv_aload_n hx hb dX3_addCode_48 rfl (lv_at hl 0 rfl) ?_
    refine lv_dup hx hb dX3_addCode_49 rfl ?_
    refine gX_X3_35 hx hb htg hown hK hP dX3_addCode_50 ?_
    refine lv_iconst (v := 1) hx hb dX3_addCode_53 (by decide) ?_
    refine lv_iadd hx hb dX3_addCode_54 ?_
    refine lv_topi (fun v_6 ev_6 => ?_)
    have t_7 : v_6.toInt = (fv 16).toInt + 1 ∧ 1 ≤ v_6.toInt ∧ v_6.toInt ≤ 100 := iv_addc ev_6 i_1 (by decide) (by decide) (by decide)
    refine pX_X3_35 hx hb htg hown hK hP hS hd dX3_addCode_55 (fun H locs fv_9 efv_9 hP hS => ?_)
    have hF_fv_9 : rX fv_9 := rX_put hF_fv efv_9 (iv_w t_7.2 (by decide) (by decide))
    have hp_10 : eC fv_9 ar_5 := eC_code (eC_fr hp_eC (fM_rf [] _) (fA_put (fA_put (fA_put (fA_rf [41, 42, 43] _) ear_3 (by decide)) ear_4 (by decide)) ear_5 (by decide)) rfl rfl rfl) efv_9 (by have h9 : fv 16 = _ := rfl; rw [h9]; omega)
    refine lv_iconst (v := 1) hx hb dX3_addCode_58 (by decide) ?_
    have z_11 : (1 : Int32).toInt = 1 := by decide
    exact W.zret (v := 1) hx hb hr (by decide) (fun t ht hW => ⟨⟨1, (fv_9, wd, ar_5), rfl, ⟨hF_fv_9, hA_ar_5, (fM_put (fM_rf [16] _) efv_9 (by decide)), (fA_put (fA_put (fA_put (fA_rf [41, 42, 43] _) ear_3 (by decide)) ear_4 (by decide)) ear_5 (by decide)), rfl, (iv_w (⟨by decide, by decide⟩ : (1 : Int) ≤ (1 : Int32).toInt ∧ (1 : Int32).toInt ≤ 1) (by decide) (by decide)), (⟨rfl, trivial⟩), (show cd_L fv_9 ar_5 = cd_L fv ar ++ [cd_x a fc b] from cd_L_add (by rw [show fv_9 16 = v_6 from (congrFun efv_9 16)]; omega) (show ar_5 41 = upd (ar 41) ((fv 16).toInt.toNat) a from by rw [ear_5, ear_4, ear_3]; rfl) (show ar_5 42 = upd (ar 42) ((fv 16).toInt.toNat) fc from by rw [ear_5, ear_4, ear_3]; rfl) (show ar_5 43 = upd (ar 43) ((fv 16).toInt.toNat) b from by rw [ear_5, ear_4, ear_3]; rfl)), (show (fv_9 16).toInt = (fv 16).toInt + 1 from by rw [show fv_9 16 = v_6 from (congrFun efv_9 16)]; omega), hp_10, trivial⟩, ⟨by rw [ht]; exact hP, va_K.moved hW.alike hK⟩⟩, hS.F ht⟩) hS.2.2 dX3_addCode_59
set_option maxHeartbeats 4000000 in
set_option maxRecDepth 100000 in
theorem x_readSignC (l : Launch) (dC : Nat → ClassId) (dI : Nat → Nat → Nat) (sz : Nat) (ob ad : Nat → Nat) (cA : Nat → ClassId) (hd : dX ob ad) (fv : Nat → Int32) (wd : xT) (ar : Nat → Nat → Int32) (hF_fv : rX fv) (hA_ar : rB ar) (tA : Nat → Nat) (hto : tO tA wd.2.1) (T9 : Nat → Nat) (S9 : Nat → Nat) (N9 : Nat → Int) (c9 : Nat) (fc : Int32) (h_fc : 0 ≤ fc.toInt ∧ fc.toInt ≤ 11) (hcx : rd_cx tA T9 S9 N9 c9 wd.2.1 (ar 36) (ar 37)) (htc : (fv 13).toInt = (c9 : Int) + 1) (hpl : (fv 14).toInt ≤ (c9 : Int)) (h300 : c9 ≤ 300) (hT32 : ∀ k, T9 k < 32) (hfin : T9 c9 = 30 ∨ T9 c9 = 31) (hfc : 4 ≤ fc.toInt) (hcd : (fv 16).toInt ≤ 99) (hp_eC : eC fv ar) : Met l yX3_readSign (.code yX3_readSign cX3_readSign 3 (some .boolean) :: lw_good) ({ frames := 3, cells := 0, slots := 0, locals := 63 }) (va_Pc [.ref (ob 6), .int fc] (fun U => prX dC dI ob ad cA fv wd ar sz U ∧ tkA ob ad tA sz U)) (va_Qi (fun (r : Int32) (u : xS) => rX u.1 ∧ rB u.2.2 ∧ fM [14, 16, 19, 20] fv u.1 ∧ fA [41, 42, 43] ar u.2.2 ∧ u.2.1.2 = wd.2 ∧ (0 ≤ r.toInt ∧ r.toInt ≤ 1) ∧ (∀ r9 : List Bool, rd_x T9 S9 2 ((fv 14).toInt.toNat) ((fv 17).toInt.toNat) r9 r (u.1 19) (u.1 20) (u.1 14) (u.1 17)) ∧ (r = 1 → u.1 19 = fv 19) ∧ ((u.1 14).toInt ≤ (c9 : Int)) ∧ (r = 1 → cd_L u.1 u.2.2 = cd_L fv ar ++ [(fc.toInt.toNat, T9 ((fv 14).toInt.toNat) + 41, N9 ((fv 14).toInt.toNat + 1))]) ∧ ((u.1 16).toInt = (fv 16).toInt + r.toInt) ∧ (r = 1 → (u.1 14).toInt = (fv 14).toInt + 2) ∧ (eC u.1 u.2.2) ∧ True) (enX dC dI ob ad cA) (aX ob ad sz)) 0 0 (aX ob ad sz) := by
  refine Met.ofW (cc := cX3_readSign) (maxL := 3) (ret := (some .boolean)) (by decide) rfl ?_
  intro p e s m args below meth c s₁ B hml hv
  obtain ⟨rfl, ⟨hsz, hP, hK⟩, hE⟩ := hv
  have hx := B.exec
  have hb := B.bytes
  have hr := B.returns
  have hts := atoms_spec (ws := (.code yX3_readSign cX3_readSign 3 (some .boolean) :: lw_good)) B.pre
  have htg : ∀ w ∈ lw_good, w.before _ s = true := fun w hw => hts w (List.mem_cons_of_mem _ hw)
  have hown : s.vm.findClass RX3 = some m.cls := findClass_of_methodNamed B.named
  have hlocks := B.notSynchronized
  subst hsz
  have hS : va_S (aX ob ad s.heap.size) s.heap s.heap [] := va_S.rf
  have hl := lv_entry ([.ref (ob 6), .int fc]) (n := 3) (Nat.le_of_ble_eq_true rfl)
  rw [lg_entry_eq]
  generalize (lg_sl ([.ref (ob 6), .int fc]) ++ List.replicate (3 - (lg_sl ([.ref (ob 6), .int fc])).length) Slot.unset).toArray = ls at hl ⊢
  have hl : lv_has ls 3 [(0, .ref (ob 6)), (1, .int fc)] := hl
  have i_1 : 0 ≤ (fv 14).toInt ∧ (fv 14).toInt ≤ 300 := (by have h9 := hF_fv 14; have h8 : 0 ≤ (fv 14).toInt := h9.1; omega)
  refine lv_aload_n hx hb dX3_readSign_0 rfl (lv_at hl 0 rfl) ?_
  have z_2 : 0 ≤ (fv 13).toInt ∧ (fv 13).toInt ≤ 301 := hF_fv 13
  have z_3 : 0 ≤ (fv 14).toInt ∧ (fv 14).toInt ≤ 300 := hF_fv 14
  refine va_callr (va_runV (As := []) (rest := []) ⟨hx, hb, hml, hown, hts⟩ (x_tokenC l dC dI s.heap.size ob ad cA hd fv wd ar hF_fv hA_ar tA hto T9 S9 N9 c9 hcx (by omega) (by omega) h300 hT32 hfin) (cwV 0 hts (gV kw_4_102 kw_4_104 kw_p_4 kw_1_11 kw_4_105) rfl rfl rfl (by decide +kernel) ⟨Nat.le_of_ble_eq_true rfl, Nat.le_of_ble_eq_true rfl⟩) ⟨fun a U g mk q => ⟨q.1, ⟨q.2.1.1, q.2.1.2.1, va_K.moved (u := U) (U := U.calling g mk a) (Vm.Alike.refl U.vm) q.2.1.2.2⟩, tk_mv (U := U.calling g mk a) rfl (Vm.Alike.refl U.vm) q.2.2⟩, va_recv hK hP (ci := 4) (q0 := 6) rfl rfl, fun U hU hW => ⟨rfl, ⟨by rw [hU], by rw [hU]; exact hP, va_K.moved hW.alike hK⟩, tk_pass hE hS hU hW.alike⟩⟩ rfl rfl hl.1 rfl (lv_room (Nat.le_of_ble_eq_true rfl)) dX3_readSign_1 ⟨Nat.le_of_ble_eq_true rfl, Nat.le_of_ble_eq_true rfl⟩) hS (fun q _ h9 => aX_up hS q h9) (aX_up hS) (fun u r_4 t H1 locs ht _ hw hB _ hk1 hS => ?_)
  obtain ⟨fv_5, wd_6, ar_7⟩ := u
  obtain ⟨hF_fv_5, hA_ar_7, fr_8, fa_9, wf_10, -⟩ := hw
  have wf_10 : wd_6.2 = wd.2 := wf_10
  have hP : va_P (dC, dI) vwCl (wsX ob ad cA fv_5 wd_6 ar_7) H1 := by have h9 := hB.1.1; rw [ht] at h9; exact h9
  have fr_8 : fM [] fv fv_5 := fr_8
  have fa_9 : fA [] ar ar_7 := fa_9
  generalize H1 = H at hP hS ⊢
  obtain ⟨j_11, lj_11, rj_11, zj_11⟩ := hB.2
  subst rj_11
  refine lv_astore_n (lv' := [(2, .ref (tA j_11)), (0, .ref (ob 6)), (1, .int fc)]) hx hb dX3_readSign_4 rfl hl (by decide) rfl (fun ls hl => ?_)
  refine lv_aload_n hx hb dX3_readSign_5 rfl (lv_at hl 0 rfl) ?_
  refine va_getE hx hb hE lj_11 hS hown (q := tkrole) (List.mem_cons_self ..) (htg (.fieldLink RX3 162 "WalkingTown$Token" "role" "I") kw_9_66) (fun _ h9 => h9) dX3_readSign_6 ?_
  refine lv_topi (fun v_12 ev_12 => ?_)
  have i_13 : 0 ≤ v_12.toInt ∧ v_12.toInt ≤ 11 := ev_12 ▸ tk_role j_11
  have k_14 := rd_role lj_11 ev_12
  refine lv_iconst (v := 4) hx hb dX3_readSign_9 (by decide) ?_
  refine lv_icmp_eq (tgt := 19) hx hb dX3_readSign_10 (by decide) (fun c_15 => ?_) (fun c_15 => ?_)
  · skip
    have i_16 : 4 ≤ v_12.toInt ∧ v_12.toInt ≤ 4 := iv_eq1 (⟨by decide, by decide⟩ : (4 : Int) ≤ (4 : Int32).toInt ∧ (4 : Int32).toInt ≤ 4) c_15
    refine lv_aload_n hx hb dX3_readSign_19 rfl (lv_at hl 1 rfl) ?_
    have z_18 : (fv_5 13).toInt = (fv 13).toInt := congrArg Int32.toInt ((fr_8 13 rfl))
    have z_19 : 0 ≤ (fv_5 13).toInt ∧ (fv_5 13).toInt ≤ 301 := hF_fv_5 13
    have z_20 : (fv_5 14).toInt = (fv 14).toInt := congrArg Int32.toInt ((fr_8 14 rfl))
    have z_21 : 0 ≤ (fv_5 14).toInt ∧ (fv_5 14).toInt ≤ 300 := hF_fv_5 14
    have z_22 : (fv_5 13).toInt = (fv 13).toInt := congrArg Int32.toInt ((fr_8 13 rfl))
    have z_23 : 0 ≤ (fv_5 13).toInt ∧ (fv_5 13).toInt ≤ 301 := hF_fv_5 13
    have z_24 : (fv_5 14).toInt = (fv 14).toInt := congrArg Int32.toInt ((fr_8 14 rfl))
    have z_25 : 0 ≤ (fv_5 14).toInt ∧ (fv_5 14).toInt ≤ 300 := hF_fv_5 14
    refine va_callv (va_runV (As := []) (rest := []) ⟨hx, hb, hml, hown, hts⟩ (x_stepC l dC dI H.size ob ad cA hd fv_5 wd_6 ar_7 hF_fv_5 hA_ar_7 (by have h9 := rd_lt hfin (p := (fv 14).toInt.toNat) (by omega) (by rw [← zj_11]; omega); omega)) (cwV 0 hts (gV kw_4_116 kw_4_118 kw_p_7 kw_1_11 kw_4_119) rfl rfl rfl (by decide +kernel) ⟨Nat.le_of_ble_eq_true rfl, Nat.le_of_ble_eq_true rfl⟩) ⟨fun a U g mk q => ⟨q.1, q.2.1, q.2.2.1, va_K.moved (u := U) (U := U.calling g mk a) (Vm.Alike.refl U.vm) q.2.2.2⟩, va_recv hK hP (ci := 4) (q0 := 6) rfl rfl, fun U hU hW => ⟨rfl, by rw [hU], by rw [hU]; exact hP, va_K.moved hW.alike hK⟩⟩ rfl rfl hl.1 rfl (lv_room (Nat.le_of_ble_eq_true rfl)) dX3_readSign_20 ⟨Nat.le_of_ble_eq_true rfl, Nat.le_of_ble_eq_true rfl⟩) hS (fun q _ h9 => aX_up hS q h9) (aX_up hS) (fun u t H1 locs ht _ hw hB _ hk1 hS => ?_)
    obtain ⟨fv_28, wd_29, ar_30⟩ := u
    obtain ⟨hF_fv_28, hA_ar_30, fr_31, fa_32, wf_33, p_27, -⟩ := hw
    have wf_33 : wd_29.2 = wd_6.2 := wf_33
    have hP : va_P (dC, dI) vwCl (wsX ob ad cA fv_28 wd_29 ar_30) H1 := by have h9 := hB.1; rw [ht] at h9; exact h9
    have fr_31 : fM [14] fv_5 fv_28 := fr_31
    have fa_32 : fA [] ar_7 ar_30 := fa_32
    have p_27 : (fv_28 14).toInt = (fv_5 14).toInt + 1 ∧ (fv_28 14).toInt ≤ (fv_5 13).toInt - 1 := p_27
    generalize H1 = H at hP hS ⊢
    refine lv_aload_n hx hb dX3_readSign_23 rfl (lv_at hl 1 rfl) ?_
    have z_34 : (fv_28 13).toInt = (fv 13).toInt := congrArg Int32.toInt ((fr_31 13 rfl).trans ((fr_8 13 rfl)))
    have z_35 : 0 ≤ (fv_28 13).toInt ∧ (fv_28 13).toInt ≤ 301 := hF_fv_28 13
    have z_36 : 0 ≤ (fv_28 14).toInt ∧ (fv_28 14).toInt ≤ 300 := hF_fv_28 14
    refine va_callr (va_runV (As := []) (rest := []) ⟨hx, hb, hml, hown, hts⟩ (x_tokenC l dC dI H.size ob ad cA hd fv_28 wd_29 ar_30 hF_fv_28 hA_ar_30 tA (tO_w hto (wf_33.trans wf_10)) T9 S9 N9 c9 (rd_cx_eq hcx (congrArg (fun z => z.1) (wf_33.trans wf_10)) ((fA_call (fA_call (fA_rf [] _) fa_9 (by decide)) fa_32 (by decide)) 36 rfl) ((fA_call (fA_call (fA_rf [] _) fa_9 (by decide)) fa_32 (by decide)) 37 rfl)) (by omega) (by omega) h300 hT32 hfin) (cwV 0 hts (gV kw_4_102 kw_4_104 kw_p_4 kw_1_11 kw_4_105) rfl rfl rfl (by decide +kernel) ⟨Nat.le_of_ble_eq_true rfl, Nat.le_of_ble_eq_true rfl⟩) ⟨fun a U g mk q => ⟨q.1, ⟨q.2.1.1, q.2.1.2.1, va_K.moved (u := U) (U := U.calling g mk a) (Vm.Alike.refl U.vm) q.2.1.2.2⟩, tk_mv (U := U.calling g mk a) rfl (Vm.Alike.refl U.vm) q.2.2⟩, va_recv hK hP (ci := 4) (q0 := 6) rfl rfl, fun U hU hW => ⟨rfl, ⟨by rw [hU], by rw [hU]; exact hP, va_K.moved hW.alike hK⟩, tk_pass hE hS hU hW.alike⟩⟩ rfl rfl hl.1 rfl (lv_room (Nat.le_of_ble_eq_true rfl)) dX3_readSign_24 ⟨Nat.le_of_ble_eq_true rfl, Nat.le_of_ble_eq_true rfl⟩) hS (fun q _ h9 => aX_up hS q h9) (aX_up hS) (fun u r_37 t H1 locs ht _ hw hB _ hk1 hS => ?_)
    obtain ⟨fv_38, wd_39, ar_40⟩ := u
    obtain ⟨hF_fv_38, hA_ar_40, fr_41, fa_42, wf_43, -⟩ := hw
    have wf_43 : wd_39.2 = wd_29.2 := wf_43
    have hP : va_P (dC, dI) vwCl (wsX ob ad cA fv_38 wd_39 ar_40) H1 := by have h9 := hB.1.1; rw [ht] at h9; exact h9
    have fr_41 : fM [] fv_28 fv_38 := fr_41
    have fa_42 : fA [] ar_30 ar_40 := fa_42
    generalize H1 = H at hP hS ⊢
    obtain ⟨j_44, lj_44, rj_44, zj_44⟩ := hB.2
    subst rj_44
    refine va_gets hx hb (hE.1 29 (by decide)).1 hS hown (htg (.fieldLink RX3 129 "WalkingTown$Token" "NUMBER" "LWalkingTown$Token;") kw_4_33) (fun _ h9 => h9) dX3_readSign_27 ?_
    refine lv_acmp_eq (rx := some (tA j_44)) (ry := some (tA 29)) (tgt := 39) hx hb dX3_readSign_30 (by decide) (fun c_45 => ?_) (fun c_45 => ?_)
    · skip
      have k_46 : j_44 = 29 := hE.2 j_44 29 lj_44 (by decide) (Option.some.inj c_45)
      refine lv_aload_n hx hb dX3_readSign_39 rfl (lv_at hl 1 rfl) ?_
      refine lv_aload_n hx hb dX3_readSign_40 rfl (lv_at hl 0 rfl) ?_
      refine va_getE hx hb hE lj_11 hS hown (q := tkcode) (List.mem_cons_of_mem _ (List.mem_cons_self ..)) (htg (.fieldLink RX3 168 "WalkingTown$Token" "code" "I") kw_9_67) (fun _ h9 => h9) dX3_readSign_41 ?_
      refine lv_topi (fun v_47 ev_47 => ?_)
      have i_48 : 0 ≤ v_47.toInt ∧ v_47.toInt ≤ 11 := ev_47 ▸ tk_code j_11
      have k_49 : v_47.toInt + 19 = (j_11 : Nat) := by have h9 := rd_code lj_11 ev_47; omega
      refine lv_iload_n hx hb dX3_readSign_44 rfl (lv_at hl 2 rfl) ?_
      refine lv_aload_n hx hb dX3_readSign_45 rfl (lv_at hl 1 rfl) ?_
      refine gX_X3_19 hx hb htg hown hK hP dX3_readSign_46 ?_
      refine lv_aload_n hx hb dX3_readSign_49 rfl (lv_at hl 1 rfl) ?_
      refine gX_X3_41 hx hb htg hown hK hP dX3_readSign_50 ?_
      refine my_ti (y := fv_28 14) ((fr_41 14 rfl)) ?_
      have i_50 : 0 ≤ (fv_28 14).toInt ∧ (fv_28 14).toInt ≤ 300 := hF_fv_28 14
      refine lX_37 hx hb hK hP (iv_in i_50 (by decide) (by decide)) dX3_readSign_53 (fun v_51 ev_51 => ?_)
      have z_52 : (fv_38 16).toInt = (fv 16).toInt := congrArg Int32.toInt ((fr_41 16 rfl).trans ((fr_31 16 rfl).trans ((fr_8 16 rfl))))
      have z_53 : 0 ≤ (fv_38 16).toInt ∧ (fv_38 16).toInt ≤ 100 := hF_fv_38 16
      have z_54 : (fv_38 16).toInt = (fv 16).toInt := congrArg Int32.toInt ((fr_41 16 rfl).trans ((fr_31 16 rfl).trans ((fr_8 16 rfl))))
      have z_55 : 0 ≤ (fv_38 16).toInt ∧ (fv_38 16).toInt ≤ 100 := hF_fv_38 16
      refine va_calli (va_runV (As := [.int v_47, .int fc, .int v_51]) (rest := []) ⟨hx, hb, hml, hown, hts⟩ (x_addCodeC l dC dI H.size ob ad cA hd fv_38 wd_39 ar_40 hF_fv_38 hA_ar_40 v_47 fc v_51 h_fc (by omega) (eC_fr hp_eC (fM_call (fM_call (fM_call (fM_rf [14] _) fr_8 (by decide)) fr_31 (by decide)) fr_41 (by decide)) (fA_call (fA_call (fA_call (fA_rf [] _) fa_9 (by decide)) fa_32 (by decide)) fa_42 (by decide)) rfl rfl rfl)) (cwV 3 hts (gV kw_4_150 kw_4_152 kw_p_14 kw_1_11 kw_4_153) rfl rfl rfl (by decide +kernel) ⟨Nat.le_of_ble_eq_true rfl, Nat.le_of_ble_eq_true rfl⟩) ⟨fun a U g mk q => ⟨q.1, q.2.1, q.2.2.1, va_K.moved (u := U) (U := U.calling g mk a) (Vm.Alike.refl U.vm) q.2.2.2⟩, va_recv hK hP (ci := 4) (q0 := 6) rfl rfl, fun U hU hW => ⟨rfl, by rw [hU], by rw [hU]; exact hP, va_K.moved hW.alike hK⟩⟩ rfl rfl hl.1 rfl (lv_room (Nat.le_of_ble_eq_true rfl)) dX3_readSign_54 ⟨Nat.le_of_ble_eq_true rfl, Nat.le_of_ble_eq_true rfl⟩) hS (fun q _ h9 => aX_up hS q h9) (aX_up hS) (fun r_56 u t H1 locs ht _ hw hB _ hk1 hS => ?_)
      obtain ⟨fv_62, wd_63, ar_64⟩ := u
      obtain ⟨hF_fv_62, hA_ar_64, fr_65, fa_66, wf_67, p_57, p_58, p_59, p_60, p_61, -⟩ := hw
      have wf_67 : wd_63.2 = wd_39.2 := wf_67
      have hP : va_P (dC, dI) vwCl (wsX ob ad cA fv_62 wd_63 ar_64) H1 := by have h9 := hB.1; rw [ht] at h9; exact h9
      have fr_65 : fM [16] fv_38 fv_62 := fr_65
      have fa_66 : fA [41, 42, 43] ar_40 ar_64 := fa_66
      have p_61 : eC fv_62 ar_64 := p_61
      have p_59 : cd_L fv_62 ar_64 = cd_L fv_38 ar_40 ++ [cd_x v_47 fc v_51] := p_59
      have p_60 : (fv_62 16).toInt = (fv_38 16).toInt + 1 := p_60
      generalize H1 = H at hP hS ⊢
      rcases p_58 with ⟨rfl, p_58⟩
      · skip
        refine lv_pop hx hb dX3_readSign_57 rfl ?_
        refine lv_aload_n hx hb dX3_readSign_58 rfl (lv_at hl 1 rfl) ?_
        have z_68 : (fv_62 13).toInt = (fv 13).toInt := congrArg Int32.toInt ((fr_65 13 rfl).trans ((fr_41 13 rfl).trans ((fr_31 13 rfl).trans ((fr_8 13 rfl)))))
        have z_69 : 0 ≤ (fv_62 13).toInt ∧ (fv_62 13).toInt ≤ 301 := hF_fv_62 13
        have z_70 : (fv_62 14).toInt = (fv_28 14).toInt := congrArg Int32.toInt ((fr_65 14 rfl).trans ((fr_41 14 rfl)))
        have z_71 : 0 ≤ (fv_62 14).toInt ∧ (fv_62 14).toInt ≤ 300 := hF_fv_62 14
        have z_72 : (fv_62 13).toInt = (fv 13).toInt := congrArg Int32.toInt ((fr_65 13 rfl).trans ((fr_41 13 rfl).trans ((fr_31 13 rfl).trans ((fr_8 13 rfl)))))
        have z_73 : 0 ≤ (fv_62 13).toInt ∧ (fv_62 13).toInt ≤ 301 := hF_fv_62 13
        have z_74 : (fv_62 14).toInt = (fv_28 14).toInt := congrArg Int32.toInt ((fr_65 14 rfl).trans ((fr_41 14 rfl)))
        have z_75 : 0 ≤ (fv_62 14).toInt ∧ (fv_62 14).toInt ≤ 300 := hF_fv_62 14
        refine va_callv (va_runV (As := []) (rest := []) ⟨hx, hb, hml, hown, hts⟩ (x_stepC l dC dI H.size ob ad cA hd fv_62 wd_63 ar_64 hF_fv_62 hA_ar_64 (by have h9 := rd_lt hfin (p := (fv_28 14).toInt.toNat) (by omega) (by rw [← zj_44]; omega); omega)) (cwV 0 hts (gV kw_4_116 kw_4_118 kw_p_7 kw_1_11 kw_4_119) rfl rfl rfl (by decide +kernel) ⟨Nat.le_of_ble_eq_true rfl, Nat.le_of_ble_eq_true rfl⟩) ⟨fun a U g mk q => ⟨q.1, q.2.1, q.2.2.1, va_K.moved (u := U) (U := U.calling g mk a) (Vm.Alike.refl U.vm) q.2.2.2⟩, va_recv hK hP (ci := 4) (q0 := 6) rfl rfl, fun U hU hW => ⟨rfl, by rw [hU], by rw [hU]; exact hP, va_K.moved hW.alike hK⟩⟩ rfl rfl hl.1 rfl (lv_room (Nat.le_of_ble_eq_true rfl)) dX3_readSign_59 ⟨Nat.le_of_ble_eq_true rfl, Nat.le_of_ble_eq_true rfl⟩) hS (fun q _ h9 => aX_up hS q h9) (aX_up hS) (fun u t H1 locs ht _ hw hB _ hk1 hS => ?_)
        obtain ⟨fv_78, wd_79, ar_80⟩ := u
        obtain ⟨hF_fv_78, hA_ar_80, fr_81, fa_82, wf_83, p_77, -⟩ := hw
        have wf_83 : wd_79.2 = wd_63.2 := wf_83
        have hP : va_P (dC, dI) vwCl (wsX ob ad cA fv_78 wd_79 ar_80) H1 := by have h9 := hB.1; rw [ht] at h9; exact h9
        have fr_81 : fM [14] fv_62 fv_78 := fr_81
        have fa_82 : fA [] ar_64 ar_80 := fa_82
        have p_77 : (fv_78 14).toInt = (fv_62 14).toInt + 1 ∧ (fv_78 14).toInt ≤ (fv_62 13).toInt - 1 := p_77
        generalize H1 = H at hP hS ⊢
        refine lv_iconst (v := 1) hx hb dX3_readSign_62 (by decide) ?_
        have z_84 : (1 : Int32).toInt = 1 := by decide
        exact W.zret (v := 1) hx hb hr (by decide) (fun t ht hW => ⟨⟨1, (fv_78, wd_79, ar_80), rfl, ⟨hF_fv_78, hA_ar_80, (fM_call (fM_call (fM_call (fM_call (fM_call (fM_rf [14, 16, 19, 20] _) fr_8 (by decide)) fr_31 (by decide)) fr_41 (by decide)) fr_65 (by decide)) fr_81 (by decide)), (fA_call (fA_call (fA_call (fA_call (fA_call (fA_rf [41, 42, 43] _) fa_9 (by decide)) fa_32 (by decide)) fa_42 (by decide)) fa_66 (by decide)) fa_82 (by decide)), (wf_83.trans (wf_67.trans (wf_43.trans (wf_33.trans wf_10)))), (iv_w (⟨by decide, by decide⟩ : (1 : Int) ≤ (1 : Int32).toInt ∧ (1 : Int32).toInt ≤ 1) (by decide) (by decide)), (show ∀ r9 : List Bool, rd_x T9 S9 2 ((fv 14).toInt.toNat) ((fv 17).toInt.toNat) r9 (1 : Int32) (fv_78 19) (fv_78 20) (fv_78 14) (fv_78 17) from fun r9 => by have : (fv_5 14).toInt = (fv 14).toInt := congrArg Int32.toInt ((fM_call (fM_rf [] _) fr_8 (by decide)) 14 rfl); have : (fv_38 14).toInt = (fv_28 14).toInt := congrArg Int32.toInt ((fM_call (fM_rf [] _) fr_41 (by decide)) 14 rfl); have : (fv_62 14).toInt = (fv_38 14).toInt := congrArg Int32.toInt ((fM_call (fM_rf [16] _) fr_65 (by decide)) 14 rfl); have : (fv_5 17).toInt = (fv 17).toInt := congrArg Int32.toInt ((fM_call (fM_rf [] _) fr_8 (by decide)) 17 rfl); have : (fv_28 17).toInt = (fv_5 17).toInt := congrArg Int32.toInt ((fM_call (fM_rf [14] _) fr_31 (by decide)) 17 rfl); have : (fv_38 17).toInt = (fv_28 17).toInt := congrArg Int32.toInt ((fM_call (fM_rf [] _) fr_41 (by decide)) 17 rfl); have : (fv_62 17).toInt = (fv_38 17).toInt := congrArg Int32.toInt ((fM_call (fM_rf [16] _) fr_65 (by decide)) 17 rfl); have : (fv_78 17).toInt = (fv_62 17).toInt := congrArg Int32.toInt ((fM_call (fM_rf [14] _) fr_81 (by decide)) 17 rfl); exact rd_xO (by skip; rw [rd_m2_sign (by omega) (by rw [← zj_11]; omega)]; rw [show (fv 14).toInt.toNat + 1 = (fv_28 14).toInt.toNat from (by omega)]; rw [rd_m3_num (by omega) (by rw [← zj_44]; omega), show (fv_28 14).toInt.toNat + 1 = (fv_78 14).toInt.toNat from (by omega), show (fv 17).toInt.toNat = (fv_78 17).toInt.toNat from (by omega)])), (show (1 : Int32) = 1 → fv_78 19 = fv 19 from fun _ => ((fM_call (fM_call (fM_call (fM_call (fM_call (fM_rf [14, 16] _) fr_8 (by decide)) fr_31 (by decide)) fr_41 (by decide)) fr_65 (by decide)) fr_81 (by decide)) 19 rfl)), (show (fv_78 14).toInt ≤ (c9 : Int) from by have : (fv_5 14).toInt = (fv 14).toInt := congrArg Int32.toInt ((fM_call (fM_rf [] _) fr_8 (by decide)) 14 rfl); have : (fv_38 14).toInt = (fv_28 14).toInt := congrArg Int32.toInt ((fM_call (fM_rf [] _) fr_41 (by decide)) 14 rfl); have : (fv_62 14).toInt = (fv_38 14).toInt := congrArg Int32.toInt ((fM_call (fM_rf [16] _) fr_65 (by decide)) 14 rfl); omega), (show (1 : Int32) = 1 → cd_L fv_78 ar_80 = cd_L fv ar ++ [(fc.toInt.toNat, T9 ((fv 14).toInt.toNat) + 41, N9 ((fv 14).toInt.toNat + 1))] from fun _ => by have : (fv_5 14).toInt = (fv 14).toInt := congrArg Int32.toInt ((fM_call (fM_rf [] _) fr_8 (by decide)) 14 rfl); have : (fv_38 14).toInt = (fv_28 14).toInt := congrArg Int32.toInt ((fM_call (fM_rf [] _) fr_41 (by decide)) 14 rfl); have : (fv_62 14).toInt = (fv_38 14).toInt := congrArg Int32.toInt ((fM_call (fM_rf [16] _) fr_65 (by decide)) 14 rfl); have : (fv_5 17).toInt = (fv 17).toInt := congrArg Int32.toInt ((fM_call (fM_rf [] _) fr_8 (by decide)) 17 rfl); have : (fv_28 17).toInt = (fv_5 17).toInt := congrArg Int32.toInt ((fM_call (fM_rf [14] _) fr_31 (by decide)) 17 rfl); have : (fv_38 17).toInt = (fv_28 17).toInt := congrArg Int32.toInt ((fM_call (fM_rf [] _) fr_41 (by decide)) 17 rfl); have : (fv_62 17).toInt = (fv_38 17).toInt := congrArg Int32.toInt ((fM_call (fM_rf [16] _) fr_65 (by decide)) 17 rfl); have : (fv_78 17).toInt = (fv_62 17).toInt := congrArg Int32.toInt ((fM_call (fM_rf [14] _) fr_81 (by decide)) 17 rfl); have hn9 : v_51.toInt = N9 ((fv 14).toInt.toNat + 1) := (by rw [ev_51, show ar_40 37 = ar 37 from ((fA_call (fA_call (fA_call (fA_rf [] _) fa_9 (by decide)) fa_32 (by decide)) fa_42 (by decide)) 37 rfl), show Int32.toNatClampNeg (fv_28 14) = (fv 14).toInt.toNat + 1 from (show (fv_28 14).toInt.toNat = (fv 14).toInt.toNat + 1 from by omega)]; exact (hcx ((fv 14).toInt.toNat + 1) (by omega)).2.2); rw [show cd_L fv_78 ar_80 = cd_L fv_62 ar_64 from (cd_L_eq ((fA_call (fA_rf [] _) fa_82 (by decide)) 41 rfl) ((fA_call (fA_rf [] _) fa_82 (by decide)) 42 rfl) ((fA_call (fA_rf [] _) fa_82 (by decide)) 43 rfl) ((fM_call (fM_rf [14] _) fr_81 (by decide)) 16 rfl))]; exact (p_59).trans (by rw [show cd_L fv_38 ar_40 = cd_L fv ar from (cd_L_eq ((fA_call (fA_call (fA_call (fA_rf [] _) fa_9 (by decide)) fa_32 (by decide)) fa_42 (by decide)) 41 rfl) ((fA_call (fA_call (fA_call (fA_rf [] _) fa_9 (by decide)) fa_32 (by decide)) fa_42 (by decide)) 42 rfl) ((fA_call (fA_call (fA_call (fA_rf [] _) fa_9 (by decide)) fa_32 (by decide)) fa_42 (by decide)) 43 rfl) ((fM_call (fM_call (fM_call (fM_rf [14] _) fr_8 (by decide)) fr_31 (by decide)) fr_41 (by decide)) 16 rfl)), cd_x_sign (a := v_47) (v := fc) (m := v_51) (t := T9 ((fv 14).toInt.toNat)) (by rw [show (fv 14).toInt.toNat = (fv 14).toInt.toNat from (by omega), ← zj_11]; omega) (by rw [show (fv 14).toInt.toNat = (fv 14).toInt.toNat from (by omega), ← zj_11]; omega) hfc h_fc.2 hn9])), (show (fv_78 16).toInt = (fv 16).toInt + (1 : Int32).toInt from by have : (fv_5 16).toInt = (fv 16).toInt := congrArg Int32.toInt ((fM_call (fM_rf [] _) fr_8 (by decide)) 16 rfl); have : (fv_28 16).toInt = (fv_5 16).toInt := congrArg Int32.toInt ((fM_call (fM_rf [14] _) fr_31 (by decide)) 16 rfl); have : (fv_38 16).toInt = (fv_28 16).toInt := congrArg Int32.toInt ((fM_call (fM_rf [] _) fr_41 (by decide)) 16 rfl); have : (fv_78 16).toInt = (fv_62 16).toInt := congrArg Int32.toInt ((fM_call (fM_rf [14] _) fr_81 (by decide)) 16 rfl); have hc9 := p_60; omega), (show (1 : Int32) = 1 → (fv_78 14).toInt = (fv 14).toInt + 2 from fun _ => by have : (fv_5 14).toInt = (fv 14).toInt := congrArg Int32.toInt ((fM_call (fM_rf [] _) fr_8 (by decide)) 14 rfl); have : (fv_38 14).toInt = (fv_28 14).toInt := congrArg Int32.toInt ((fM_call (fM_rf [] _) fr_41 (by decide)) 14 rfl); have : (fv_62 14).toInt = (fv_38 14).toInt := congrArg Int32.toInt ((fM_call (fM_rf [16] _) fr_65 (by decide)) 14 rfl); omega), (eC_fr p_61 (fM_call (fM_rf [14] _) fr_81 (by decide)) (fA_call (fA_rf [] _) fa_82 (by decide)) rfl rfl rfl), trivial⟩, ⟨by rw [ht]; exact hP, va_K.moved hW.alike hK⟩⟩, hS.F ht⟩) hS.2.2 dX3_readSign_63
    · skip
      have k_85 : ¬ j_44 = 29 := fun w => c_45 (by rw [w])
      refine lv_aload_n hx hb dX3_readSign_33 rfl (lv_at hl 1 rfl) ?_
      refine lv_iconst (v := 1) hx hb dX3_readSign_34 (by decide) ?_
      have z_86 : (fv_38 14).toInt = (fv_28 14).toInt := congrArg Int32.toInt ((fr_41 14 rfl))
      have z_87 : 0 ≤ (fv_38 14).toInt ∧ (fv_38 14).toInt ≤ 300 := hF_fv_38 14
      refine va_calli (va_runV (As := [.int 1]) (rest := []) ⟨hx, hb, hml, hown, hts⟩ (x_failC l dC dI H.size ob ad cA hd fv_38 wd_39 ar_40 hF_fv_38 hA_ar_40 1) (cwV 1 hts (gV kw_4_110 kw_4_112 kw_p_6 kw_1_11 kw_4_113) rfl rfl rfl (by decide +kernel) ⟨Nat.le_of_ble_eq_true rfl, Nat.le_of_ble_eq_true rfl⟩) ⟨fun a U g mk q => ⟨q.1, q.2.1, q.2.2.1, va_K.moved (u := U) (U := U.calling g mk a) (Vm.Alike.refl U.vm) q.2.2.2⟩, va_recv hK hP (ci := 4) (q0 := 6) rfl rfl, fun U hU hW => ⟨rfl, by rw [hU], by rw [hU]; exact hP, va_K.moved hW.alike hK⟩⟩ rfl rfl hl.1 rfl (lv_room (Nat.le_of_ble_eq_true rfl)) dX3_readSign_35 ⟨Nat.le_of_ble_eq_true rfl, Nat.le_of_ble_eq_true rfl⟩) hS (fun q _ h9 => aX_up hS q h9) (aX_up hS) (fun r_88 u t H1 locs ht _ hw hB _ hk1 hS => ?_)
      obtain ⟨fv_93, wd_94, ar_95⟩ := u
      obtain ⟨hF_fv_93, hA_ar_95, fr_96, fa_97, wf_98, p_89, p_90, p_91, p_92, -⟩ := hw
      have wf_98 : wd_94.2 = wd_39.2 := wf_98
      have hP : va_P (dC, dI) vwCl (wsX ob ad cA fv_93 wd_94 ar_95) H1 := by have h9 := hB.1; rw [ht] at h9; exact h9
      have fr_96 : fM [19, 20] fv_38 fv_93 := fr_96
      have fa_97 : fA [] ar_40 ar_95 := fa_97
      have p_91 : fv_93 19 = (1 : Int32) := p_91
      have p_92 : fv_93 20 = ar_40 36 ((fv_38 14).toInt.toNat) := p_92
      generalize H1 = H at hP hS ⊢
      rcases p_90 with ⟨rfl, p_90⟩
      · skip
        have z_99 : (0 : Int32).toInt = 0 := by decide
        exact W.zret (v := 0) hx hb hr (by decide) (fun t ht hW => ⟨⟨0, (fv_93, wd_94, ar_95), rfl, ⟨hF_fv_93, hA_ar_95, (fM_call (fM_call (fM_call (fM_call (fM_rf [14, 16, 19, 20] _) fr_8 (by decide)) fr_31 (by decide)) fr_41 (by decide)) fr_96 (by decide)), (fA_call (fA_call (fA_call (fA_call (fA_rf [41, 42, 43] _) fa_9 (by decide)) fa_32 (by decide)) fa_42 (by decide)) fa_97 (by decide)), (wf_98.trans (wf_43.trans (wf_33.trans wf_10))), (iv_w (⟨by decide, by decide⟩ : (0 : Int) ≤ (0 : Int32).toInt ∧ (0 : Int32).toInt ≤ 0) (by decide) (by decide)), (show ∀ r9 : List Bool, rd_x T9 S9 2 ((fv 14).toInt.toNat) ((fv 17).toInt.toNat) r9 (0 : Int32) (fv_93 19) (fv_93 20) (fv_93 14) (fv_93 17) from fun r9 => by have : (fv_5 14).toInt = (fv 14).toInt := congrArg Int32.toInt ((fM_call (fM_rf [] _) fr_8 (by decide)) 14 rfl); have : (fv_38 14).toInt = (fv_28 14).toInt := congrArg Int32.toInt ((fM_call (fM_rf [] _) fr_41 (by decide)) 14 rfl); have : (fv_93 14).toInt = (fv_38 14).toInt := congrArg Int32.toInt ((fM_call (fM_rf [19, 20] _) fr_96 (by decide)) 14 rfl); have : (fv_5 17).toInt = (fv 17).toInt := congrArg Int32.toInt ((fM_call (fM_rf [] _) fr_8 (by decide)) 17 rfl); have : (fv_28 17).toInt = (fv_5 17).toInt := congrArg Int32.toInt ((fM_call (fM_rf [14] _) fr_31 (by decide)) 17 rfl); have : (fv_38 17).toInt = (fv_28 17).toInt := congrArg Int32.toInt ((fM_call (fM_rf [] _) fr_41 (by decide)) 17 rfl); have : (fv_93 17).toInt = (fv_38 17).toInt := congrArg Int32.toInt ((fM_call (fM_rf [19, 20] _) fr_96 (by decide)) 17 rfl); exact rd_xF (q := (fv_38 14).toInt.toNat) (show (fv_93 19).toInt = ((1 : Nat) : Int) from by rw [show fv_93 19 = fv_93 19 from rfl, p_91]; decide) (by decide) (by skip; rw [rd_m2_sign (by omega) (by rw [← zj_11]; omega)]; rw [show (fv 14).toInt.toNat + 1 = (fv_28 14).toInt.toNat from (by omega)]; rw [rd_m3_bad (by omega) (by rw [← zj_44]; omega)]; rw [show (fv_28 14).toInt.toNat = (fv_38 14).toInt.toNat from (by omega)]) (show (fv_93 20).toInt = (S9 ((fv_38 14).toInt.toNat) : Nat) from by rw [show fv_93 20 = fv_93 20 from rfl, p_92, show ar_40 36 = ar 36 from ((fA_call (fA_call (fA_call (fA_rf [] _) fa_9 (by decide)) fa_32 (by decide)) fa_42 (by decide)) 36 rfl)]; exact (hcx ((fv_38 14).toInt.toNat) (by omega)).2.1)), (show (0 : Int32) = 1 → fv_93 19 = fv 19 from fun w => absurd w (by decide)), (show (fv_93 14).toInt ≤ (c9 : Int) from by have : (fv_5 14).toInt = (fv 14).toInt := congrArg Int32.toInt ((fM_call (fM_rf [] _) fr_8 (by decide)) 14 rfl); have : (fv_38 14).toInt = (fv_28 14).toInt := congrArg Int32.toInt ((fM_call (fM_rf [] _) fr_41 (by decide)) 14 rfl); have : (fv_93 14).toInt = (fv_38 14).toInt := congrArg Int32.toInt ((fM_call (fM_rf [19, 20] _) fr_96 (by decide)) 14 rfl); omega), (show (0 : Int32) = 1 → cd_L fv_93 ar_95 = cd_L fv ar ++ [(fc.toInt.toNat, T9 ((fv 14).toInt.toNat) + 41, N9 ((fv 14).toInt.toNat + 1))] from fun w => absurd w (by decide)), (show (fv_93 16).toInt = (fv 16).toInt + (0 : Int32).toInt from by have : (fv_5 16).toInt = (fv 16).toInt := congrArg Int32.toInt ((fM_call (fM_rf [] _) fr_8 (by decide)) 16 rfl); have : (fv_28 16).toInt = (fv_5 16).toInt := congrArg Int32.toInt ((fM_call (fM_rf [14] _) fr_31 (by decide)) 16 rfl); have : (fv_38 16).toInt = (fv_28 16).toInt := congrArg Int32.toInt ((fM_call (fM_rf [] _) fr_41 (by decide)) 16 rfl); have : (fv_93 16).toInt = (fv_38 16).toInt := congrArg Int32.toInt ((fM_call (fM_rf [19, 20] _) fr_96 (by decide)) 16 rfl); omega), (show (0 : Int32) = 1 → (fv_93 14).toInt = (fv 14).toInt + 2 from fun w => absurd w (by decide)), (eC_fr hp_eC (fM_call (fM_call (fM_call (fM_call (fM_rf [14, 19, 20] _) fr_8 (by decide)) fr_31 (by decide)) fr_41 (by decide)) fr_96 (by decide)) (fA_call (fA_call (fA_call (fA_call (fA_rf [] _) fa_9 (by decide)) fa_32 (by decide)) fa_42 (by decide)) fa_97 (by decide)) rfl rfl rfl), trivial⟩, ⟨by rw [ht]; exact hP, va_K.moved hW.alike hK⟩⟩, hS.F ht⟩) hS.2.2 dX3_readSign_38
  · skip
    have k_100 : ¬ v_12.toInt = 4 := fun q => c_15 (Int32.toInt_inj.mp q)
    refine lv_aload_n hx hb dX3_readSign_13 rfl (lv_at hl 1 rfl) ?_
    refine lv_iconst (v := 1) hx hb dX3_readSign_14 (by decide) ?_
    have z_101 : (fv_5 14).toInt = (fv 14).toInt := congrArg Int32.toInt ((fr_8 14 rfl))
    have z_102 : 0 ≤ (fv_5 14).toInt ∧ (fv_5 14).toInt ≤ 300 := hF_fv_5 14
    refine va_calli (va_runV (As := [.int 1]) (rest := []) ⟨hx, hb, hml, hown, hts⟩ (x_failC l dC dI H.size ob ad cA hd fv_5 wd_6 ar_7 hF_fv_5 hA_ar_7 1) (cwV 1 hts (gV kw_4_110 kw_4_112 kw_p_6 kw_1_11 kw_4_113) rfl rfl rfl (by decide +kernel) ⟨Nat.le_of_ble_eq_true rfl, Nat.le_of_ble_eq_true rfl⟩) ⟨fun a U g mk q => ⟨q.1, q.2.1, q.2.2.1, va_K.moved (u := U) (U := U.calling g mk a) (Vm.Alike.refl U.vm) q.2.2.2⟩, va_recv hK hP (ci := 4) (q0 := 6) rfl rfl, fun U hU hW => ⟨rfl, by rw [hU], by rw [hU]; exact hP, va_K.moved hW.alike hK⟩⟩ rfl rfl hl.1 rfl (lv_room (Nat.le_of_ble_eq_true rfl)) dX3_readSign_15 ⟨Nat.le_of_ble_eq_true rfl, Nat.le_of_ble_eq_true rfl⟩) hS (fun q _ h9 => aX_up hS q h9) (aX_up hS) (fun r_103 u t H1 locs ht _ hw hB _ hk1 hS => ?_)
    obtain ⟨fv_108, wd_109, ar_110⟩ := u
    obtain ⟨hF_fv_108, hA_ar_110, fr_111, fa_112, wf_113, p_104, p_105, p_106, p_107, -⟩ := hw
    have wf_113 : wd_109.2 = wd_6.2 := wf_113
    have hP : va_P (dC, dI) vwCl (wsX ob ad cA fv_108 wd_109 ar_110) H1 := by have h9 := hB.1; rw [ht] at h9; exact h9
    have fr_111 : fM [19, 20] fv_5 fv_108 := fr_111
    have fa_112 : fA [] ar_7 ar_110 := fa_112
    have p_106 : fv_108 19 = (1 : Int32) := p_106
    have p_107 : fv_108 20 = ar_7 36 ((fv_5 14).toInt.toNat) := p_107
    generalize H1 = H at hP hS ⊢
    rcases p_105 with ⟨rfl, p_105⟩
    · skip
      have z_114 : (0 : Int32).toInt = 0 := by decide
      exact W.zret (v := 0) hx hb hr (by decide) (fun t ht hW => ⟨⟨0, (fv_108, wd_109, ar_110), rfl, ⟨hF_fv_108, hA_ar_110, (fM_call (fM_call (fM_rf [14, 16, 19, 20] _) fr_8 (by decide)) fr_111 (by decide)), (fA_call (fA_call (fA_rf [41, 42, 43] _) fa_9 (by decide)) fa_112 (by decide)), (wf_113.trans wf_10), (iv_w (⟨by decide, by decide⟩ : (0 : Int) ≤ (0 : Int32).toInt ∧ (0 : Int32).toInt ≤ 0) (by decide) (by decide)), (show ∀ r9 : List Bool, rd_x T9 S9 2 ((fv 14).toInt.toNat) ((fv 17).toInt.toNat) r9 (0 : Int32) (fv_108 19) (fv_108 20) (fv_108 14) (fv_108 17) from fun r9 => by have : (fv_5 14).toInt = (fv 14).toInt := congrArg Int32.toInt ((fM_call (fM_rf [] _) fr_8 (by decide)) 14 rfl); have : (fv_108 14).toInt = (fv_5 14).toInt := congrArg Int32.toInt ((fM_call (fM_rf [19, 20] _) fr_111 (by decide)) 14 rfl); have : (fv_5 17).toInt = (fv 17).toInt := congrArg Int32.toInt ((fM_call (fM_rf [] _) fr_8 (by decide)) 17 rfl); have : (fv_108 17).toInt = (fv_5 17).toInt := congrArg Int32.toInt ((fM_call (fM_rf [19, 20] _) fr_111 (by decide)) 17 rfl); exact rd_xF (q := (fv_5 14).toInt.toNat) (show (fv_108 19).toInt = ((1 : Nat) : Int) from by rw [show fv_108 19 = fv_108 19 from rfl, p_106]; decide) (by decide) (by skip; rw [rd_m2_bad (by omega) (by rw [← zj_11]; omega)]; rw [show (fv 14).toInt.toNat = (fv_5 14).toInt.toNat from (by omega)]) (show (fv_108 20).toInt = (S9 ((fv_5 14).toInt.toNat) : Nat) from by rw [show fv_108 20 = fv_108 20 from rfl, p_107, show ar_7 36 = ar 36 from ((fA_call (fA_rf [] _) fa_9 (by decide)) 36 rfl)]; exact (hcx ((fv_5 14).toInt.toNat) (by omega)).2.1)), (show (0 : Int32) = 1 → fv_108 19 = fv 19 from fun w => absurd w (by decide)), (show (fv_108 14).toInt ≤ (c9 : Int) from by have : (fv_5 14).toInt = (fv 14).toInt := congrArg Int32.toInt ((fM_call (fM_rf [] _) fr_8 (by decide)) 14 rfl); have : (fv_108 14).toInt = (fv_5 14).toInt := congrArg Int32.toInt ((fM_call (fM_rf [19, 20] _) fr_111 (by decide)) 14 rfl); omega), (show (0 : Int32) = 1 → cd_L fv_108 ar_110 = cd_L fv ar ++ [(fc.toInt.toNat, T9 ((fv 14).toInt.toNat) + 41, N9 ((fv 14).toInt.toNat + 1))] from fun w => absurd w (by decide)), (show (fv_108 16).toInt = (fv 16).toInt + (0 : Int32).toInt from by have : (fv_5 16).toInt = (fv 16).toInt := congrArg Int32.toInt ((fM_call (fM_rf [] _) fr_8 (by decide)) 16 rfl); have : (fv_108 16).toInt = (fv_5 16).toInt := congrArg Int32.toInt ((fM_call (fM_rf [19, 20] _) fr_111 (by decide)) 16 rfl); omega), (show (0 : Int32) = 1 → (fv_108 14).toInt = (fv 14).toInt + 2 from fun w => absurd w (by decide)), (eC_fr hp_eC (fM_call (fM_call (fM_rf [19, 20] _) fr_8 (by decide)) fr_111 (by decide)) (fA_call (fA_call (fA_rf [] _) fa_9 (by decide)) fa_112 (by decide)) rfl rfl rfl), trivial⟩, ⟨by rw [ht]; exact hP, va_K.moved hW.alike hK⟩⟩, hS.F ht⟩) hS.2.2 dX3_readSign_18

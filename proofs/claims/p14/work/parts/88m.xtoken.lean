def rd_cx (tA T9 S9 : Nat → Nat) (N9 : Nat → Int) (c9 : Nat) (f : Nat → Option Nat) (s m : Nat → Int32) : Prop := ∀ k, k ≤ c9 → f k = some (tA (T9 k)) ∧ (s k).toInt = (S9 k : Nat) ∧ (m k).toInt = N9 k
theorem rd_cx_eq {tA T9 S9 : Nat → Nat} {N9 : Nat → Int} {c9 : Nat} {f f1 : Nat → Option Nat} {s s1 m m1 : Nat → Int32} (h : rd_cx tA T9 S9 N9 c9 f s m) (e1 : f1 = f) (e2 : s1 = s) (e3 : m1 = m) : rd_cx tA T9 S9 N9 c9 f1 s1 m1 := by rw [e1, e2, e3]; exact h
theorem rd_role {j : Nat} (hj : j < 32) {v : Int32} (e : v = tkrole.2.2.2.getD j 0) : (v.toInt = 0 ∧ j < 2) ∨ (v.toInt = 1 ∧ 2 ≤ j ∧ j < 7) ∨ (v.toInt = 2 ∧ 7 ≤ j ∧ j < 11) ∨ (v.toInt = 3 ∧ 11 ≤ j ∧ j < 19) ∨ (v.toInt = 4 ∧ 19 ≤ j ∧ j < 22) ∨ (v.toInt = 5 ∧ 22 ≤ j) := by
  subst e
  revert j
  decide +kernel
theorem rd_lt {T9 : Nat → Nat} {c9 p : Nat} (hf : T9 c9 = 30 ∨ T9 c9 = 31) (hp : p ≤ c9) (ht : T9 p < 30) : p < c9 := by
  rcases Nat.lt_or_ge p c9 with h | h
  · exact h
  · have e : p = c9 := by omega
    rw [e] at ht
    omega
set_option maxHeartbeats 4000000 in
set_option maxRecDepth 100000 in
theorem x_tokenC (l : Launch) (dC : Nat → ClassId) (dI : Nat → Nat → Nat) (sz : Nat) (ob ad : Nat → Nat) (cA : Nat → ClassId) (hd : dX ob ad) (fv : Nat → Int32) (wd : xT) (ar : Nat → Nat → Int32) (hF_fv : rX fv) (hA_ar : rB ar) (tA : Nat → Nat) (hto : tO tA wd.2.1) (T9 : Nat → Nat) (S9 : Nat → Nat) (N9 : Nat → Int) (c9 : Nat) (hcx : rd_cx tA T9 S9 N9 c9 wd.2.1 (ar 36) (ar 37)) (htc : (fv 13).toInt = (c9 : Int) + 1) (hpl : (fv 14).toInt ≤ (c9 : Int)) (h300 : c9 ≤ 300) (hT32 : ∀ k, T9 k < 32) (hfin : T9 c9 = 30 ∨ T9 c9 = 31) : Met l yX3_token (.code yX3_token cX3_token 2 (some (.object "WalkingTown$Token")) :: lw_good) ({ frames := 2, cells := 0, slots := 0, locals := 40 }) (va_Pc [.ref (ob 6)] (fun U => prX dC dI ob ad cA fv wd ar sz U ∧ tkA ob ad tA sz U)) (va_Qr (fun (u : xS) => rX u.1 ∧ rB u.2.2 ∧ fM [] fv u.1 ∧ fA [] ar u.2.2 ∧ u.2.1.2 = wd.2 ∧ True) (fun (u : xS) (ra : Nat) (t : State) => enX dC dI ob ad cA u t ∧ ∃ j : Nat, j < 32 ∧ ra = tA j ∧ j = T9 ((fv 14).toInt.toNat)) (aX ob ad sz)) 0 0 (aX ob ad sz) := by
  refine Met.ofW (cc := cX3_token) (maxL := 2) (ret := (some (.object "WalkingTown$Token"))) (by decide) rfl ?_
  intro p e s m args below meth c s₁ B hml hv
  obtain ⟨rfl, ⟨hsz, hP, hK⟩, hE⟩ := hv
  have hx := B.exec
  have hb := B.bytes
  have hr := B.returns
  have hts := atoms_spec (ws := (.code yX3_token cX3_token 2 (some (.object "WalkingTown$Token")) :: lw_good)) B.pre
  have htg : ∀ w ∈ lw_good, w.before _ s = true := fun w hw => hts w (List.mem_cons_of_mem _ hw)
  have hown : s.vm.findClass RX3 = some m.cls := findClass_of_methodNamed B.named
  have hlocks := B.notSynchronized
  subst hsz
  have hS : va_S (aX ob ad s.heap.size) s.heap s.heap [] := va_S.rf
  have hl := lv_entry ([.ref (ob 6)]) (n := 2) (Nat.le_of_ble_eq_true rfl)
  rw [lg_entry_eq]
  generalize (lg_sl ([.ref (ob 6)]) ++ List.replicate (2 - (lg_sl ([.ref (ob 6)])).length) Slot.unset).toArray = ls at hl ⊢
  have hl : lv_has ls 2 [(0, .ref (ob 6))] := hl
  have i_1 : 0 ≤ (fv 14).toInt ∧ (fv 14).toInt ≤ 300 := (by have h9 := hF_fv 14; have h8 : 0 ≤ (fv 14).toInt := h9.1; omega)
  refine lv_aload_n hx hb dX3_token_0 rfl (lv_at hl 0 rfl) ?_
  refine gX_X3_11 hx hb htg hown hK hP dX3_token_1 ?_
  refine lv_aload_n hx hb dX3_token_4 rfl (lv_at hl 0 rfl) ?_
  refine gX_X3_41 hx hb htg hown hK hP dX3_token_5 ?_
  refine lT hx hb hK hP (iv_in i_1 (by decide) (by decide)) dX3_token_8 ?_
  obtain ⟨j_2, ej_2⟩ : ∃ z : Nat, z = T9 ((fv 14).toInt.toNat) := ⟨_, rfl⟩
  have lj_2 : j_2 < 32 := by rw [ej_2]; exact hT32 _
  refine my_tw (w := .ref (tA j_2)) (by have h9 := (hcx ((fv 14).toInt.toNat) (by omega)).1; show va_rf (wd.2.1 ((fv 14).toInt.toNat)) = _; rw [h9, ej_2]; rfl) ?_
  refine lv_astore_n (lv' := [(1, .ref (tA j_2)), (0, .ref (ob 6))]) hx hb dX3_token_9 rfl hl (by decide) rfl (fun ls hl => ?_)
  refine lv_aload_n hx hb dX3_token_10 rfl (lv_at hl 0 rfl) ?_
  refine lv_ifnonnull (tgt := 20) hx hb dX3_token_11 (by decide) ?_
  refine lv_aload_n hx hb dX3_token_20 rfl (lv_at hl 0 rfl) ?_
  exact W.aret (v := .ref (tA j_2)) hx hb hr (Or.inl ⟨_, rfl⟩) (Or.inr ⟨_, rfl⟩) (fun t ht hW => ⟨⟨(fv, wd, ar), tA j_2, rfl, ⟨hF_fv, hA_ar, (fM_rf [] _), (fA_rf [] _), rfl, trivial⟩, ⟨⟨by rw [ht]; exact hP, va_K.moved hW.alike hK⟩, ⟨j_2, lj_2, rfl, ej_2⟩⟩⟩, hS.F ht⟩) hS.2.2 dX3_token_21
set_option maxHeartbeats 4000000 in
set_option maxRecDepth 100000 in
theorem x_stepC (l : Launch) (dC : Nat → ClassId) (dI : Nat → Nat → Nat) (sz : Nat) (ob ad : Nat → Nat) (cA : Nat → ClassId) (hd : dX ob ad) (fv : Nat → Int32) (wd : xT) (ar : Nat → Nat → Int32) (hF_fv : rX fv) (hA_ar : rB ar) (hlt : (fv 14).toInt < (fv 13).toInt - 1) : Met l yX3_step (.code yX3_step cX3_step 1 none :: lw_good) ({ frames := 2, cells := 0, slots := 0, locals := 40 }) (va_Pc [.ref (ob 6)] (prX dC dI ob ad cA fv wd ar sz)) (va_Qv (fun (u : xS) => rX u.1 ∧ rB u.2.2 ∧ fM [14] fv u.1 ∧ fA [] ar u.2.2 ∧ u.2.1.2 = wd.2 ∧ ((u.1 14).toInt = (fv 14).toInt + 1 ∧ (u.1 14).toInt ≤ (fv 13).toInt - 1) ∧ True) (enX dC dI ob ad cA) (aX ob ad sz)) 0 0 (aX ob ad sz) := by
  refine Met.ofW (cc := cX3_step) (maxL := 1) (ret := none) (by decide) rfl ?_
  intro p e s m args below meth c s₁ B hml hv
  obtain ⟨rfl, hsz, hP, hK⟩ := hv
  have hx := B.exec
  have hb := B.bytes
  have hr := B.returns
  have hts := atoms_spec (ws := (.code yX3_step cX3_step 1 none :: lw_good)) B.pre
  have htg : ∀ w ∈ lw_good, w.before _ s = true := fun w hw => hts w (List.mem_cons_of_mem _ hw)
  have hown : s.vm.findClass RX3 = some m.cls := findClass_of_methodNamed B.named
  have hlocks := B.notSynchronized
  subst hsz
  have hS : va_S (aX ob ad s.heap.size) s.heap s.heap [] := va_S.rf
  have hl := lv_entry ([.ref (ob 6)]) (n := 1) (Nat.le_of_ble_eq_true rfl)
  rw [lg_entry_eq]
  generalize (lg_sl ([.ref (ob 6)]) ++ List.replicate (1 - (lg_sl ([.ref (ob 6)])).length) Slot.unset).toArray = ls at hl ⊢
  have hl : lv_has ls 1 [(0, .ref (ob 6))] := hl
  have i_1 : 1 ≤ (fv 13).toInt ∧ (fv 13).toInt ≤ 301 := (by have h9 := hF_fv 14; have h8 := hF_fv 13; have h7 : (fv 13).toInt ≤ 301 := h8.2; have h6 : 0 ≤ (fv 14).toInt := h9.1; omega)
  have i_2 : 0 ≤ (fv 14).toInt ∧ (fv 14).toInt ≤ 299 := (by have h9 := hF_fv 14; have h8 := hF_fv 13; have h7 : (fv 13).toInt ≤ 301 := h8.2; have h6 : 0 ≤ (fv 14).toInt := h9.1; omega)
  refine lv_aload_n hx hb dX3_step_0 rfl (lv_at hl 0 rfl) ?_
  refine gX_X3_41 hx hb htg hown hK hP dX3_step_1 ?_
  refine lv_aload_n hx hb dX3_step_4 rfl (lv_at hl 0 rfl) ?_
  refine gX_X3_98 hx hb htg hown hK hP dX3_step_5 ?_
  refine lv_iconst (v := 1) hx hb dX3_step_8 (by decide) ?_
  refine lv_isub hx hb dX3_step_9 ?_
  refine lv_topi (fun v_3 ev_3 => ?_)
  have t_4 : v_3.toInt = (fv 13).toInt - 1 ∧ 0 ≤ v_3.toInt ∧ v_3.toInt ≤ 300 := iv_subc ev_3 i_1 (by decide) (by decide) (by decide)
  refine lv_icmp_ge (tgt := 23) hx hb dX3_step_10 (by decide) (fun c_6 => ?_) (fun c_6 => ?_)
  · skip
    exact absurd True.intro (by have h9 := Int32.le_iff_toInt_le.mp c_6; exfalso; omega)
  · skip
    have i_7 : 1 ≤ v_3.toInt ∧ v_3.toInt ≤ 300 := iv_lt2 i_2 t_4.2 (Int32.not_le.mp c_6)
    have k_8 := Int32.lt_iff_toInt_lt.mp (Int32.not_le.mp c_6)
    refine lv_aload_n hx hb dX3_step_13 rfl (lv_at hl 0 rfl) ?_
    refine lv_dup hx hb dX3_step_14 rfl ?_
    refine gX_X3_41 hx hb htg hown hK hP dX3_step_15 ?_
    refine lv_iconst (v := 1) hx hb dX3_step_18 (by decide) ?_
    refine lv_iadd hx hb dX3_step_19 ?_
    refine lv_topi (fun v_9 ev_9 => ?_)
    have t_10 : v_9.toInt = (fv 14).toInt + 1 ∧ 1 ≤ v_9.toInt ∧ v_9.toInt ≤ 300 := iv_addc ev_9 i_2 (by decide) (by decide) (by decide)
    refine pX_X3_41 hx hb htg hown hK hP hS hd dX3_step_20 (fun H locs fv_12 efv_12 hP hS => ?_)
    have hF_fv_12 : rX fv_12 := rX_put hF_fv efv_12 (iv_w t_10.2 (by decide) (by decide))
    have z_13 : (fv_12 14).toInt = v_9.toInt := congrArg Int32.toInt ((congrFun efv_12 14))
    have z_14 : 0 ≤ (fv_12 14).toInt ∧ (fv_12 14).toInt ≤ 300 := hF_fv_12 14
    exact W.vret hx hb hr (fun t ht hW => ⟨⟨(fv_12, wd, ar), rfl, ⟨hF_fv_12, hA_ar, (fM_put (fM_rf [14] _) efv_12 (by decide)), (fA_rf [] _), rfl, (show (fv_12 14).toInt = (fv 14).toInt + 1 ∧ (fv_12 14).toInt ≤ (fv 13).toInt - 1 from by omega), trivial⟩, ⟨by rw [ht]; exact hP, va_K.moved hW.alike hK⟩⟩, hS.F ht⟩) hS.2.2 dX3_step_23
set_option maxHeartbeats 4000000 in
set_option maxRecDepth 100000 in
theorem x_failC (l : Launch) (dC : Nat → ClassId) (dI : Nat → Nat → Nat) (sz : Nat) (ob ad : Nat → Nat) (cA : Nat → ClassId) (hd : dX ob ad) (fv : Nat → Int32) (wd : xT) (ar : Nat → Nat → Int32) (hF_fv : rX fv) (hA_ar : rB ar) (a : Int32) : Met l yX3_fail (.code yX3_fail cX3_fail 2 (some .boolean) :: lw_good) ({ frames := 2, cells := 0, slots := 0, locals := 40 }) (va_Pc [.ref (ob 6), .int a] (prX dC dI ob ad cA fv wd ar sz)) (va_Qi (fun (r : Int32) (u : xS) => rX u.1 ∧ rB u.2.2 ∧ fM [19, 20] fv u.1 ∧ fA [] ar u.2.2 ∧ u.2.1.2 = wd.2 ∧ (0 ≤ r.toInt ∧ r.toInt ≤ 1) ∧ ((r = 0 ∧ True)) ∧ (u.1 19 = a) ∧ (u.1 20 = ar 36 ((fv 14).toInt.toNat)) ∧ True) (enX dC dI ob ad cA) (aX ob ad sz)) 0 0 (aX ob ad sz) := by
  refine Met.ofW (cc := cX3_fail) (maxL := 2) (ret := (some .boolean)) (by decide) rfl ?_
  intro p e s m args below meth c s₁ B hml hv
  obtain ⟨rfl, hsz, hP, hK⟩ := hv
  have hx := B.exec
  have hb := B.bytes
  have hr := B.returns
  have hts := atoms_spec (ws := (.code yX3_fail cX3_fail 2 (some .boolean) :: lw_good)) B.pre
  have htg : ∀ w ∈ lw_good, w.before _ s = true := fun w hw => hts w (List.mem_cons_of_mem _ hw)
  have hown : s.vm.findClass RX3 = some m.cls := findClass_of_methodNamed B.named
  have hlocks := B.notSynchronized
  subst hsz
  have hS : va_S (aX ob ad s.heap.size) s.heap s.heap [] := va_S.rf
  have hl := lv_entry ([.ref (ob 6), .int a]) (n := 2) (Nat.le_of_ble_eq_true rfl)
  rw [lg_entry_eq]
  generalize (lg_sl ([.ref (ob 6), .int a]) ++ List.replicate (2 - (lg_sl ([.ref (ob 6), .int a])).length) Slot.unset).toArray = ls at hl ⊢
  have hl : lv_has ls 2 [(0, .ref (ob 6)), (1, .int a)] := hl
  refine lv_aload_n hx hb dX3_fail_0 rfl (lv_at hl 0 rfl) ?_
  refine lv_iload_n hx hb dX3_fail_1 rfl (lv_at hl 1 rfl) ?_
  refine pX_X3_48 hx hb htg hown hK hP hS hd dX3_fail_2 (fun H locs fv_1 efv_1 hP hS => ?_)
  have hF_fv_1 : rX fv_1 := rX_put hF_fv efv_1 (iv_any a)
  refine lv_aload_n hx hb dX3_fail_5 rfl (lv_at hl 0 rfl) ?_
  refine lv_aload_n hx hb dX3_fail_6 rfl (lv_at hl 0 rfl) ?_
  refine gX_X3_15 hx hb htg hown hK hP dX3_fail_7 ?_
  refine lv_aload_n hx hb dX3_fail_10 rfl (lv_at hl 0 rfl) ?_
  refine gX_X3_41 hx hb htg hown hK hP dX3_fail_11 ?_
  refine my_ti (y := fv 14) ((congrFun efv_1 14)) ?_
  have i_2 : 0 ≤ (fv 14).toInt ∧ (fv 14).toInt ≤ 300 := hF_fv 14
  refine lX_36 hx hb hK hP (iv_in i_2 (by decide) (by decide)) dX3_fail_14 (fun v_3 ev_3 => ?_)
  refine pX_X3_51 hx hb htg hown hK hP hS hd dX3_fail_15 (fun H locs fv_4 efv_4 hP hS => ?_)
  have hF_fv_4 : rX fv_4 := rX_put hF_fv_1 efv_4 (iv_any v_3)
  refine lv_iconst (v := 0) hx hb dX3_fail_18 (by decide) ?_
  have z_5 : (0 : Int32).toInt = 0 := by decide
  exact W.zret (v := 0) hx hb hr (by decide) (fun t ht hW => ⟨⟨0, (fv_4, wd, ar), rfl, ⟨hF_fv_4, hA_ar, (fM_put (fM_put (fM_rf [19, 20] _) efv_1 (by decide)) efv_4 (by decide)), (fA_rf [] _), rfl, (iv_w (⟨by decide, by decide⟩ : (0 : Int) ≤ (0 : Int32).toInt ∧ (0 : Int32).toInt ≤ 0) (by decide) (by decide)), (⟨rfl, trivial⟩), (show fv_4 19 = a from (congrFun efv_4 19).trans ((congrFun efv_1 19))), (show fv_4 20 = ar 36 ((fv 14).toInt.toNat) from by rw [show fv_4 20 = v_3 from (congrFun efv_4 20), ev_3]; rfl), trivial⟩, ⟨by rw [ht]; exact hP, va_K.moved hW.alike hK⟩⟩, hS.F ht⟩) hS.2.2 dX3_fail_19
set_option maxHeartbeats 4000000 in
set_option maxRecDepth 100000 in
theorem x_takeC (l : Launch) (dC : Nat → ClassId) (dI : Nat → Nat → Nat) (sz : Nat) (ob ad : Nat → Nat) (cA : Nat → ClassId) (hd : dX ob ad) (fv : Nat → Int32) (wd : xT) (ar : Nat → Nat → Int32) (hF_fv : rX fv) (hA_ar : rB ar) (tA : Nat → Nat) (hto : tO tA wd.2.1) (jj : Nat) (ljj : jj < 32) (T9 : Nat → Nat) (S9 : Nat → Nat) (N9 : Nat → Int) (c9 : Nat) (hcx : rd_cx tA T9 S9 N9 c9 wd.2.1 (ar 36) (ar 37)) (htc : (fv 13).toInt = (c9 : Int) + 1) (hpl : (fv 14).toInt ≤ (c9 : Int)) (h300 : c9 ≤ 300) (hT32 : ∀ k, T9 k < 32) (hfin : T9 c9 = 30 ∨ T9 c9 = 31) (hj30 : jj < 30) : Met l yX3_take (.code yX3_take cX3_take 2 (some .boolean) :: lw_good) ({ frames := 3, cells := 0, slots := 0, locals := 61 }) (va_Pc [.ref (ob 6), .ref (tA jj)] (fun U => prX dC dI ob ad cA fv wd ar sz U ∧ tkA ob ad tA sz U)) (va_Qi (fun (r : Int32) (u : xS) => rX u.1 ∧ rB u.2.2 ∧ fM [14, 19, 20] fv u.1 ∧ fA [] ar u.2.2 ∧ u.2.1.2 = wd.2 ∧ (0 ≤ r.toInt ∧ r.toInt ≤ 1) ∧ ((r = 0 ∧ ¬ T9 ((fv 14).toInt.toNat) = jj ∧ u.1 19 = 1 ∧ (u.1 20).toInt = (S9 ((fv 14).toInt.toNat) : Nat) ∧ (u.1 14).toInt = (fv 14).toInt) ∨ (r = 1 ∧ T9 ((fv 14).toInt.toNat) = jj ∧ ((u.1 14).toInt = (fv 14).toInt + 1 ∧ (u.1 14).toInt ≤ (c9 : Int)) ∧ u.1 19 = fv 19)) ∧ True) (enX dC dI ob ad cA) (aX ob ad sz)) 0 0 (aX ob ad sz) := by
  refine Met.ofW (cc := cX3_take) (maxL := 2) (ret := (some .boolean)) (by decide) rfl ?_
  intro p e s m args below meth c s₁ B hml hv
  obtain ⟨rfl, ⟨hsz, hP, hK⟩, hE⟩ := hv
  have hx := B.exec
  have hb := B.bytes
  have hr := B.returns
  have hts := atoms_spec (ws := (.code yX3_take cX3_take 2 (some .boolean) :: lw_good)) B.pre
  have htg : ∀ w ∈ lw_good, w.before _ s = true := fun w hw => hts w (List.mem_cons_of_mem _ hw)
  have hown : s.vm.findClass RX3 = some m.cls := findClass_of_methodNamed B.named
  have hlocks := B.notSynchronized
  subst hsz
  have hS : va_S (aX ob ad s.heap.size) s.heap s.heap [] := va_S.rf
  have hl := lv_entry ([.ref (ob 6), .ref (tA jj)]) (n := 2) (Nat.le_of_ble_eq_true rfl)
  rw [lg_entry_eq]
  generalize (lg_sl ([.ref (ob 6), .ref (tA jj)]) ++ List.replicate (2 - (lg_sl ([.ref (ob 6), .ref (tA jj)])).length) Slot.unset).toArray = ls at hl ⊢
  have hl : lv_has ls 2 [(0, .ref (ob 6)), (1, .ref (tA jj))] := hl
  have i_1 : 0 ≤ (fv 14).toInt ∧ (fv 14).toInt ≤ 300 := (by have h9 := hF_fv 14; have h8 : 0 ≤ (fv 14).toInt := h9.1; omega)
  refine lv_aload_n hx hb dX3_take_0 rfl (lv_at hl 0 rfl) ?_
  have z_2 : 0 ≤ (fv 13).toInt ∧ (fv 13).toInt ≤ 301 := hF_fv 13
  have z_3 : 0 ≤ (fv 14).toInt ∧ (fv 14).toInt ≤ 300 := hF_fv 14
  refine va_callr (va_runV (As := []) (rest := []) ⟨hx, hb, hml, hown, hts⟩ (x_tokenC l dC dI s.heap.size ob ad cA hd fv wd ar hF_fv hA_ar tA hto T9 S9 N9 c9 hcx (by omega) (by omega) h300 hT32 hfin) (cwV 0 hts (gV kw_4_102 kw_4_104 kw_p_4 kw_1_11 kw_4_105) rfl rfl rfl (by decide +kernel) ⟨Nat.le_of_ble_eq_true rfl, Nat.le_of_ble_eq_true rfl⟩) ⟨fun a U g mk q => ⟨q.1, ⟨q.2.1.1, q.2.1.2.1, va_K.moved (u := U) (U := U.calling g mk a) (Vm.Alike.refl U.vm) q.2.1.2.2⟩, tk_mv (U := U.calling g mk a) rfl (Vm.Alike.refl U.vm) q.2.2⟩, va_recv hK hP (ci := 4) (q0 := 6) rfl rfl, fun U hU hW => ⟨rfl, ⟨by rw [hU], by rw [hU]; exact hP, va_K.moved hW.alike hK⟩, tk_pass hE hS hU hW.alike⟩⟩ rfl rfl hl.1 rfl (lv_room (Nat.le_of_ble_eq_true rfl)) dX3_take_1 ⟨Nat.le_of_ble_eq_true rfl, Nat.le_of_ble_eq_true rfl⟩) hS (fun q _ h9 => aX_up hS q h9) (aX_up hS) (fun u r_4 t H1 locs ht _ hw hB _ hk1 hS => ?_)
  obtain ⟨fv_5, wd_6, ar_7⟩ := u
  obtain ⟨hF_fv_5, hA_ar_7, fr_8, fa_9, wf_10, -⟩ := hw
  have wf_10 : wd_6.2 = wd.2 := wf_10
  have hP : va_P (dC, dI) vwCl (wsX ob ad cA fv_5 wd_6 ar_7) H1 := by have h9 := hB.1.1; rw [ht] at h9; exact h9
  have fr_8 : fM [] fv fv_5 := fr_8
  have fa_9 : fA [] ar ar_7 := fa_9
  generalize H1 = H at hP hS ⊢
  obtain ⟨j_11, lj_11, rj_11, zj_11⟩ := hB.2
  subst rj_11
  refine lv_aload_n hx hb dX3_take_4 rfl (lv_at hl 1 rfl) ?_
  refine lv_acmp_eq (rx := some (tA j_11)) (ry := some (tA jj)) (tgt := 14) hx hb dX3_take_5 (by decide) (fun c_12 => ?_) (fun c_12 => ?_)
  · skip
    have k_13 : j_11 = jj := hE.2 j_11 jj lj_11 ljj (Option.some.inj c_12)
    refine lv_aload_n hx hb dX3_take_14 rfl (lv_at hl 0 rfl) ?_
    have z_14 : (fv_5 13).toInt = (fv 13).toInt := congrArg Int32.toInt ((fr_8 13 rfl))
    have z_15 : 0 ≤ (fv_5 13).toInt ∧ (fv_5 13).toInt ≤ 301 := hF_fv_5 13
    have z_16 : (fv_5 14).toInt = (fv 14).toInt := congrArg Int32.toInt ((fr_8 14 rfl))
    have z_17 : 0 ≤ (fv_5 14).toInt ∧ (fv_5 14).toInt ≤ 300 := hF_fv_5 14
    have z_18 : (fv_5 13).toInt = (fv 13).toInt := congrArg Int32.toInt ((fr_8 13 rfl))
    have z_19 : 0 ≤ (fv_5 13).toInt ∧ (fv_5 13).toInt ≤ 301 := hF_fv_5 13
    have z_20 : (fv_5 14).toInt = (fv 14).toInt := congrArg Int32.toInt ((fr_8 14 rfl))
    have z_21 : 0 ≤ (fv_5 14).toInt ∧ (fv_5 14).toInt ≤ 300 := hF_fv_5 14
    refine va_callv (va_runV (As := []) (rest := []) ⟨hx, hb, hml, hown, hts⟩ (x_stepC l dC dI H.size ob ad cA hd fv_5 wd_6 ar_7 hF_fv_5 hA_ar_7 (by have h9 := rd_lt hfin (p := (fv 14).toInt.toNat) (by omega) (by rw [← zj_11]; omega); omega)) (cwV 0 hts (gV kw_4_116 kw_4_118 kw_p_7 kw_1_11 kw_4_119) rfl rfl rfl (by decide +kernel) ⟨Nat.le_of_ble_eq_true rfl, Nat.le_of_ble_eq_true rfl⟩) ⟨fun a U g mk q => ⟨q.1, q.2.1, q.2.2.1, va_K.moved (u := U) (U := U.calling g mk a) (Vm.Alike.refl U.vm) q.2.2.2⟩, va_recv hK hP (ci := 4) (q0 := 6) rfl rfl, fun U hU hW => ⟨rfl, by rw [hU], by rw [hU]; exact hP, va_K.moved hW.alike hK⟩⟩ rfl rfl hl.1 rfl (lv_room (Nat.le_of_ble_eq_true rfl)) dX3_take_15 ⟨Nat.le_of_ble_eq_true rfl, Nat.le_of_ble_eq_true rfl⟩) hS (fun q _ h9 => aX_up hS q h9) (aX_up hS) (fun u t H1 locs ht _ hw hB _ hk1 hS => ?_)
    obtain ⟨fv_24, wd_25, ar_26⟩ := u
    obtain ⟨hF_fv_24, hA_ar_26, fr_27, fa_28, wf_29, p_23, -⟩ := hw
    have wf_29 : wd_25.2 = wd_6.2 := wf_29
    have hP : va_P (dC, dI) vwCl (wsX ob ad cA fv_24 wd_25 ar_26) H1 := by have h9 := hB.1; rw [ht] at h9; exact h9
    have fr_27 : fM [14] fv_5 fv_24 := fr_27
    have fa_28 : fA [] ar_7 ar_26 := fa_28
    have p_23 : (fv_24 14).toInt = (fv_5 14).toInt + 1 ∧ (fv_24 14).toInt ≤ (fv_5 13).toInt - 1 := p_23
    generalize H1 = H at hP hS ⊢
    refine lv_iconst (v := 1) hx hb dX3_take_18 (by decide) ?_
    have z_30 : (1 : Int32).toInt = 1 := by decide
    exact W.zret (v := 1) hx hb hr (by decide) (fun t ht hW => ⟨⟨1, (fv_24, wd_25, ar_26), rfl, ⟨hF_fv_24, hA_ar_26, (fM_call (fM_call (fM_rf [14, 19, 20] _) fr_8 (by decide)) fr_27 (by decide)), (fA_call (fA_call (fA_rf [] _) fa_9 (by decide)) fa_28 (by decide)), (wf_29.trans wf_10), (iv_w (⟨by decide, by decide⟩ : (1 : Int) ≤ (1 : Int32).toInt ∧ (1 : Int32).toInt ≤ 1) (by decide) (by decide)), (show ((1 : Int32) = 0 ∧ ¬ T9 ((fv 14).toInt.toNat) = jj ∧ fv_24 19 = 1 ∧ (fv_24 20).toInt = (S9 ((fv 14).toInt.toNat) : Nat) ∧ (fv_24 14).toInt = (fv 14).toInt) ∨ ((1 : Int32) = 1 ∧ T9 ((fv 14).toInt.toNat) = jj ∧ ((fv_24 14).toInt = (fv 14).toInt + 1 ∧ (fv_24 14).toInt ≤ (c9 : Int)) ∧ fv_24 19 = fv 19) from Or.inr ⟨rfl, (by have h9 := zj_11; omega), ⟨by omega, by omega⟩, ((fM_call (fM_call (fM_rf [14] _) fr_8 (by decide)) fr_27 (by decide)) 19 rfl)⟩), trivial⟩, ⟨by rw [ht]; exact hP, va_K.moved hW.alike hK⟩⟩, hS.F ht⟩) hS.2.2 dX3_take_19
  · skip
    have k_31 : ¬ j_11 = jj := fun w => c_12 (by rw [w])
    refine lv_aload_n hx hb dX3_take_8 rfl (lv_at hl 0 rfl) ?_
    refine lv_iconst (v := 1) hx hb dX3_take_9 (by decide) ?_
    have z_32 : (fv_5 14).toInt = (fv 14).toInt := congrArg Int32.toInt ((fr_8 14 rfl))
    have z_33 : 0 ≤ (fv_5 14).toInt ∧ (fv_5 14).toInt ≤ 300 := hF_fv_5 14
    refine va_calli (va_runV (As := [.int 1]) (rest := []) ⟨hx, hb, hml, hown, hts⟩ (x_failC l dC dI H.size ob ad cA hd fv_5 wd_6 ar_7 hF_fv_5 hA_ar_7 1) (cwV 1 hts (gV kw_4_110 kw_4_112 kw_p_6 kw_1_11 kw_4_113) rfl rfl rfl (by decide +kernel) ⟨Nat.le_of_ble_eq_true rfl, Nat.le_of_ble_eq_true rfl⟩) ⟨fun a U g mk q => ⟨q.1, q.2.1, q.2.2.1, va_K.moved (u := U) (U := U.calling g mk a) (Vm.Alike.refl U.vm) q.2.2.2⟩, va_recv hK hP (ci := 4) (q0 := 6) rfl rfl, fun U hU hW => ⟨rfl, by rw [hU], by rw [hU]; exact hP, va_K.moved hW.alike hK⟩⟩ rfl rfl hl.1 rfl (lv_room (Nat.le_of_ble_eq_true rfl)) dX3_take_10 ⟨Nat.le_of_ble_eq_true rfl, Nat.le_of_ble_eq_true rfl⟩) hS (fun q _ h9 => aX_up hS q h9) (aX_up hS) (fun r_34 u t H1 locs ht _ hw hB _ hk1 hS => ?_)
    obtain ⟨fv_39, wd_40, ar_41⟩ := u
    obtain ⟨hF_fv_39, hA_ar_41, fr_42, fa_43, wf_44, p_35, p_36, p_37, p_38, -⟩ := hw
    have wf_44 : wd_40.2 = wd_6.2 := wf_44
    have hP : va_P (dC, dI) vwCl (wsX ob ad cA fv_39 wd_40 ar_41) H1 := by have h9 := hB.1; rw [ht] at h9; exact h9
    have fr_42 : fM [19, 20] fv_5 fv_39 := fr_42
    have fa_43 : fA [] ar_7 ar_41 := fa_43
    have p_37 : fv_39 19 = (1 : Int32) := p_37
    have p_38 : fv_39 20 = ar_7 36 ((fv_5 14).toInt.toNat) := p_38
    generalize H1 = H at hP hS ⊢
    rcases p_36 with ⟨rfl, p_36⟩
    · skip
      have z_45 : (0 : Int32).toInt = 0 := by decide
      exact W.zret (v := 0) hx hb hr (by decide) (fun t ht hW => ⟨⟨0, (fv_39, wd_40, ar_41), rfl, ⟨hF_fv_39, hA_ar_41, (fM_call (fM_call (fM_rf [14, 19, 20] _) fr_8 (by decide)) fr_42 (by decide)), (fA_call (fA_call (fA_rf [] _) fa_9 (by decide)) fa_43 (by decide)), (wf_44.trans wf_10), (iv_w (⟨by decide, by decide⟩ : (0 : Int) ≤ (0 : Int32).toInt ∧ (0 : Int32).toInt ≤ 0) (by decide) (by decide)), (show ((0 : Int32) = 0 ∧ ¬ T9 ((fv 14).toInt.toNat) = jj ∧ fv_39 19 = 1 ∧ (fv_39 20).toInt = (S9 ((fv 14).toInt.toNat) : Nat) ∧ (fv_39 14).toInt = (fv 14).toInt) ∨ ((0 : Int32) = 1 ∧ T9 ((fv 14).toInt.toNat) = jj ∧ ((fv_39 14).toInt = (fv 14).toInt + 1 ∧ (fv_39 14).toInt ≤ (c9 : Int)) ∧ fv_39 19 = fv 19) from Or.inl ⟨rfl, (by have h9 := zj_11; omega), (p_37), (by have h9 := p_38; rw [show ar_7 36 = ar 36 from ((fA_call (fA_rf [] _) fa_9 (by decide)) 36 rfl), show fv_5 14 = fv 14 from ((fM_call (fM_rf [] _) fr_8 (by decide)) 14 rfl)] at h9; rw [h9]; exact (hcx ((fv 14).toInt.toNat) (by omega)).2.1), (congrArg Int32.toInt ((fM_call (fM_call (fM_rf [19, 20] _) fr_8 (by decide)) fr_42 (by decide)) 14 rfl))⟩), trivial⟩, ⟨by rw [ht]; exact hP, va_K.moved hW.alike hK⟩⟩, hS.F ht⟩) hS.2.2 dX3_take_13

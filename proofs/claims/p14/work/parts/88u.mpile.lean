def cd_pq (g : Nat → Int32) : Nat → List Nat
  | 0 => []
  | t + 1 => (g t).toInt.toNat :: cd_pq g t
theorem cd_pq_eq {g g1 : Nat → Int32} : ∀ t, (∀ i, i < t → g1 i = g i) → cd_pq g1 t = cd_pq g t := by
  intro t
  induction t with
  | zero => intro _; rfl
  | succ t ih =>
    intro h
    show (g1 t).toInt.toNat :: cd_pq g1 t = (g t).toInt.toNat :: cd_pq g t
    rw [h t (by omega), ih (fun i hi => h i (by omega))]
def cd_P (f : Nat → Int32) (a : Nat → Nat → Int32) : List Nat := cd_pq (a 57) ((f 61).toInt.toNat)
def cd_M (f : Nat → Int32) (a : Nat → Nat → Int32) : List (Nat × Nat × Int) := cd_lm (a 54) (a 55) (a 56) 1200 ((f 60).toInt.toNat)
theorem cd_P_eq {f f1 : Nat → Int32} {a a1 : Nat → Nat → Int32} (h1 : a1 57 = a 57) (h2 : (f1 61).toInt = (f 61).toInt) : cd_P f1 a1 = cd_P f a := by
  unfold cd_P; rw [h1, h2]
theorem cd_M_eq {f f1 : Nat → Int32} {a a1 : Nat → Nat → Int32} (h1 : a1 54 = a 54) (h2 : a1 55 = a 55) (h3 : a1 56 = a 56) (h4 : (f1 60).toInt = (f 60).toInt) : cd_M f1 a1 = cd_M f a := by
  unfold cd_M; rw [h1, h2, h3, h4]
theorem cd_M_add {f f1 : Nat → Int32} {a a1 : Nat → Nat → Int32} {x y z : Int32} {n : Nat} (hn : n = 1200 + (f 60).toInt.toNat) (h4 : (f1 60).toInt.toNat = (f 60).toInt.toNat + 1) (h1 : a1 54 = upd (a 54) n x) (h2 : a1 55 = upd (a 55) n y) (h3 : a1 56 = upd (a 56) n z) : cd_M f1 a1 = cd_M f a ++ [(x.toInt.toNat, y.toInt.toNat, z.toInt)] := by
  subst hn
  unfold cd_M; rw [h4]; exact cd_lm_add h1 h2 h3
theorem cd_P_push {f f1 : Nat → Int32} {a a1 : Nat → Nat → Int32} {x : Int32} (h1 : a1 57 = upd (a 57) ((f 61).toInt.toNat) x) (h2 : (f1 61).toInt.toNat = (f 61).toInt.toNat + 1) : cd_P f1 a1 = x.toInt.toNat :: cd_P f a := by
  unfold cd_P
  rw [h2]
  show (a1 57 ((f 61).toInt.toNat)).toInt.toNat :: cd_pq (a1 57) ((f 61).toInt.toNat) = _
  rw [h1, up_eq, cd_pq_eq _ (fun i hi => up_ne (by omega))]
theorem cd_P_pop {f f1 : Nat → Int32} {a a1 : Nat → Nat → Int32} {x : Int32} (h1 : a1 57 = a 57) (h2 : (f 61).toInt.toNat = (f1 61).toInt.toNat + 1) (hx : (a 57 ((f1 61).toInt.toNat)).toInt = x.toInt) : cd_P f a = x.toInt.toNat :: cd_P f1 a1 := by
  unfold cd_P
  rw [h2, h1]
  show (a 57 ((f1 61).toInt.toNat)).toInt.toNat :: _ = _
  rw [hx]
theorem cd_P_0 {f : Nat → Int32} {a : Nat → Nat → Int32} (h : (f 61).toInt.toNat = 0) : cd_P f a = [] := by
  unfold cd_P; rw [h]; rfl
theorem cd_P_top {f : Nat → Int32} {a : Nat → Nat → Int32} {t : Nat} (h : (f 61).toInt.toNat = t + 1) : cd_P f a = (a 57 t).toInt.toNat :: cd_pq (a 57) t := by
  unfold cd_P; rw [h]; rfl
def cd_n12 (q : List Nat) : Prop := ∀ x r, q = x :: r → ¬ x = 12
theorem cd_n12_dp {q : List Nat} {o : List (Nat × Nat × Int)} (h : cd_n12 q) : cd_dp 12 12 q o = (q, o) := by
  cases q with
  | nil => rfl
  | cons x r => exact cd_dp_n (fun w => h x r rfl (by omega))
theorem cd_P_n12 {f : Nat → Int32} {a : Nat → Nat → Int32} (h : (f 61).toInt.toNat = 0 ∨ ¬ (a 57 ((f 61).toInt.toNat - 1)).toInt = 12) : cd_n12 (cd_P f a) := by
  intro x r e
  rcases Nat.eq_zero_or_pos ((f 61).toInt.toNat) with q | q
  · rw [cd_P_0 q] at e; cases e
  · rw [cd_P_top (t := (f 61).toInt.toNat - 1) (by omega)] at e
    have e1 := (List.cons.inj e).1
    omega
theorem cd_P_dp {f : Nat → Int32} {a : Nat → Nat → Int32} {lo hi : Nat} {o : List (Nat × Nat × Int)} (h : (f 61).toInt.toNat = 0 ∨ (a 57 ((f 61).toInt.toNat - 1)).toInt.toNat < lo ∨ hi < (a 57 ((f 61).toInt.toNat - 1)).toInt.toNat) : cd_dp lo hi (cd_P f a) o = (cd_P f a, o) := by
  rcases Nat.eq_zero_or_pos ((f 61).toInt.toNat) with q | q
  · rw [cd_P_0 q]; rfl
  · rw [cd_P_top (t := (f 61).toInt.toNat - 1) (by omega)]
    exact cd_dp_n (by omega)
-- places of rows that stay as they were
def cd_Kz (z : Nat → Nat → Prop) (a9 a : Nat → Nat → Int32) : Prop := ∀ r i : Nat, z r i → a r i = a9 r i
def cd_z1 (r i : Nat) : Prop := (50 ≤ r ∧ r ≤ 53 ∧ i < 160) ∨ (54 ≤ r ∧ r ≤ 56 ∧ i < 1200) ∨ (47 ≤ r ∧ r ≤ 49 ∧ i < 10)
def cd_z2 (n r i : Nat) : Prop := (50 ≤ r ∧ r ≤ 53 ∧ i < 16 * n) ∨ (54 ≤ r ∧ r ≤ 56 ∧ i < 120 * n) ∨ (47 ≤ r ∧ r ≤ 49 ∧ i < n)
def cd_z3 (r i : Nat) : Prop := (50 ≤ r ∧ r ≤ 53 ∧ 160 ≤ i) ∨ (54 ≤ r ∧ r ≤ 56 ∧ 1200 ≤ i)
theorem cd_Kz_rf (z : Nat → Nat → Prop) (a : Nat → Nat → Int32) : cd_Kz z a a := fun _ _ _ => rfl
theorem cd_Kz_st {z : Nat → Nat → Prop} {a9 a a1 : Nat → Nat → Int32} {r : Nat} {i x : Int32} (h : cd_Kz z a9 a) (e : a1 = upM a r (upd (a r) i.toNatClampNeg x)) (hn : ¬ z r i.toInt.toNat) : cd_Kz z a9 a1 := by
  subst e
  intro q j hz
  show (if q = r then upd (a r) i.toNatClampNeg x else a q) j = a9 q j
  by_cases w : q = r
  · subst w
    rw [if_pos rfl]
    have hj : ¬ j = i.toInt.toNat := fun w2 => hn (w2 ▸ hz)
    rw [up_ne (show ¬ j = i.toNatClampNeg from hj)]
    exact h q j hz
  · rw [if_neg w]; exact h q j hz
theorem cd_Kz_fr {z : Nat → Nat → Prop} {a9 a a1 : Nat → Nat → Int32} {N : List Nat} (h : cd_Kz z a9 a) (ha : fA N a a1) (hz : ∀ r i, z r i → 47 ≤ r ∧ r ≤ 56) (h0 : N.contains 47 = false) (h1 : N.contains 48 = false) (h2 : N.contains 49 = false) (h3 : N.contains 50 = false) (h4 : N.contains 51 = false) (h5 : N.contains 52 = false) (h6 : N.contains 53 = false) (h7 : N.contains 54 = false) (h8 : N.contains 55 = false) (h9 : N.contains 56 = false) : cd_Kz z a9 a1 := by
  intro r i hr
  have hq := hz r i hr
  have hr2 : r = 47 ∨ r = 48 ∨ r = 49 ∨ r = 50 ∨ r = 51 ∨ r = 52 ∨ r = 53 ∨ r = 54 ∨ r = 55 ∨ r = 56 := by omega
  have e : a1 r = a r := by
    rcases hr2 with w | w | w | w | w | w | w | w | w | w <;> subst w
    · exact ha _ h0
    · exact ha _ h1
    · exact ha _ h2
    · exact ha _ h3
    · exact ha _ h4
    · exact ha _ h5
    · exact ha _ h6
    · exact ha _ h7
    · exact ha _ h8
    · exact ha _ h9
  rw [e]; exact h r i hr
theorem cd_z1_r : ∀ r i, cd_z1 r i → 47 ≤ r ∧ r ≤ 56 := fun r i h => by unfold cd_z1 at h; omega
theorem cd_K1_fr {a9 a a1 : Nat → Nat → Int32} {N : List Nat} (h : cd_Kz cd_z1 a9 a) (ha : fA N a a1) (h0 : N.contains 47 = false) (h1 : N.contains 48 = false) (h2 : N.contains 49 = false) (h3 : N.contains 50 = false) (h4 : N.contains 51 = false) (h5 : N.contains 52 = false) (h6 : N.contains 53 = false) (h7 : N.contains 54 = false) (h8 : N.contains 55 = false) (h9 : N.contains 56 = false) : cd_Kz cd_z1 a9 a1 := cd_Kz_fr h ha cd_z1_r h0 h1 h2 h3 h4 h5 h6 h7 h8 h9
theorem cd_K12 {n : Nat} {a9 a : Nat → Nat → Int32} (h : cd_Kz cd_z1 a9 a) (hn : n ≤ 10) : cd_Kz (cd_z2 n) a9 a := fun r i hz => h r i (by unfold cd_z2 at hz; unfold cd_z1; omega)
set_option maxHeartbeats 4000000 in
set_option maxRecDepth 100000 in
theorem m_emitC (l : Launch) (dC : Nat → ClassId) (dI : Nat → Nat → Nat) (sz h : Nat) (ad : Nat → Nat) (cA : Nat → ClassId) (hd : dM h ad) (fv : Nat → Int32) (wd : Int64) (ar : Nat → Nat → Int32) (hF_fv : rF fv) (hA_ar : rA ar) (kA9 : Nat → Nat → Int32) (aa : Int32) (ab : Int32) (ac : Int32) (h_aa : 0 ≤ aa.toInt ∧ aa.toInt ≤ 15) (he : (fv 60).toInt ≤ 119) (hp_vM : vM fv ar) (hp_mK : cd_Kz cd_z1 kA9 ar) : Met l yX12_emit (.code yX12_emit cX12_emit 5 none :: lw_good) ({ frames := 2, cells := 0, slots := 0, locals := 40 }) (va_Pc [.ref h, .int aa, .int ab, .int ac] (prM dC dI h ad cA fv wd ar sz)) (va_Qv (fun (u : mS) => rF u.1 ∧ rA u.2.2 ∧ fM [60] fv u.1 ∧ fA [54, 55, 56] ar u.2.2 ∧ ((u.1 60).toInt = (fv 60).toInt + 1) ∧ (u.2.2 54 = upd (ar 54) (1200 + (fv 60).toInt.toNat) aa) ∧ (cd_M u.1 u.2.2 = cd_M fv ar ++ [(aa.toInt.toNat, ab.toInt.toNat, ac.toInt)]) ∧ (u.2.1 = wd) ∧ (vM u.1 u.2.2) ∧ (cd_Kz cd_z1 kA9 u.2.2) ∧ True) (enM dC dI h ad cA) (aM h ad sz)) 0 0 (aM h ad sz) := by
  refine Met.ofW (cc := cX12_emit) (maxL := 5) (ret := none) (by decide) rfl ?_
  intro p e s m args below meth c s₁ B hml hv
  obtain ⟨rfl, hsz, hP, hK⟩ := hv
  have hx := B.exec
  have hb := B.bytes
  have hr := B.returns
  have hts := atoms_spec (ws := (.code yX12_emit cX12_emit 5 none :: lw_good)) B.pre
  have htg : ∀ w ∈ lw_good, w.before _ s = true := fun w hw => hts w (List.mem_cons_of_mem _ hw)
  have hown : s.vm.findClass RX12 = some m.cls := findClass_of_methodNamed B.named
  have hlocks := B.notSynchronized
  subst hsz
  have hS : va_S (aM h ad s.heap.size) s.heap s.heap [] := va_S.rf
  have hl := lv_entry ([.ref h, .int aa, .int ab, .int ac]) (n := 5) (Nat.le_of_ble_eq_true rfl)
  rw [lg_entry_eq]
  generalize (lg_sl ([.ref h, .int aa, .int ab, .int ac]) ++ List.replicate (5 - (lg_sl ([.ref h, .int aa, .int ab, .int ac])).length) Slot.unset).toArray = ls at hl ⊢
  have hl : lv_has ls 5 [(0, .ref h), (1, .int aa), (2, .int ab), (3, .int ac)] := hl
  refine lv_sipush (v := 1200) hx hb dX12_emit_0 (by decide) ?_
  refine lv_aload_n hx hb dX12_emit_3 rfl (lv_at hl 0 rfl) ?_
  refine gM_60 hx hb htg hown hK hP dX12_emit_4 ?_
  have i_1 : 0 ≤ (fv 60).toInt ∧ (fv 60).toInt ≤ 120 := hF_fv 60
  refine lv_iadd hx hb dX12_emit_7 ?_
  refine lv_topi (fun v_2 ev_2 => ?_)
  have t_3 : v_2.toInt = (fv 60).toInt + 1200 ∧ 1200 ≤ v_2.toInt ∧ v_2.toInt ≤ 1320 := iv_addc (by rw [ev_2, Int32.add_comm]) i_1 (by decide) (by decide) (by decide)
  have i_5 : 1200 ≤ v_2.toInt ∧ v_2.toInt ≤ 1319 := (by omega)
  refine lv_istore (lv' := [(4, .int v_2), (0, .ref h), (1, .int aa), (2, .int ab), (3, .int ac)]) hx hb dX12_emit_8 hl (by decide) rfl (fun ls hl => ?_)
  refine lv_aload_n hx hb dX12_emit_10 rfl (lv_at hl 1 rfl) ?_
  refine gM_54 hx hb htg hown hK hP dX12_emit_11 ?_
  refine lv_iload hx hb dX12_emit_14 (lv_at hl 0 rfl) ?_
  refine lv_iload_n hx hb dX12_emit_16 rfl (lv_at hl 2 rfl) ?_
  refine sM_54 hx hb hK hP hS hd (iv_in i_5 (by decide) (by decide)) dX12_emit_17 (fun H locs ar_6 ear_6 hP hS => ?_)
  have hA_ar_6 : rA ar_6 := rA_put hA_ar ear_6 h_aa
  have hp_7 : vM fv ar_6 := vM_54 hp_vM hA_ar ear_6 (by have h58 : (0 : Int) ≤ (fv 58).toInt ∧ (fv 58).toInt ≤ 10 := hF_fv 58; show _ ≤ ((v_2.toInt.toNat : Nat) : Int); omega)
  have hp_8 : cd_Kz cd_z1 kA9 ar_6 := cd_Kz_st hp_mK ear_6 (by have h58 : (0 : Int) ≤ (fv 58).toInt ∧ (fv 58).toInt ≤ 10 := hF_fv 58; unfold cd_z1; omega)
  refine lv_aload_n hx hb dX12_emit_18 rfl (lv_at hl 1 rfl) ?_
  refine gM_55 hx hb htg hown hK hP dX12_emit_19 ?_
  refine lv_iload hx hb dX12_emit_22 (lv_at hl 0 rfl) ?_
  refine lv_iload_n hx hb dX12_emit_24 rfl (lv_at hl 3 rfl) ?_
  refine sM_55 hx hb hK hP hS hd (iv_in i_5 (by decide) (by decide)) dX12_emit_25 (fun H locs ar_9 ear_9 hP hS => ?_)
  have hA_ar_9 : rA ar_9 := rA_put hA_ar_6 ear_9 (iv_any _)
  have hp_10 : cd_Kz cd_z1 kA9 ar_9 := cd_Kz_st hp_8 ear_9 (by have h58 : (0 : Int) ≤ (fv 58).toInt ∧ (fv 58).toInt ≤ 10 := hF_fv 58; unfold cd_z1; omega)
  refine lv_aload_n hx hb dX12_emit_26 rfl (lv_at hl 1 rfl) ?_
  refine gM_56 hx hb htg hown hK hP dX12_emit_27 ?_
  refine lv_iload hx hb dX12_emit_30 (lv_at hl 0 rfl) ?_
  refine lv_iload_n hx hb dX12_emit_32 rfl (lv_at hl 4 rfl) ?_
  refine sM_56 hx hb hK hP hS hd (iv_in i_5 (by decide) (by decide)) dX12_emit_33 (fun H locs ar_11 ear_11 hP hS => ?_)
  have hA_ar_11 : rA ar_11 := rA_put hA_ar_9 ear_11 (iv_any _)
  have hp_12 : cd_Kz cd_z1 kA9 ar_11 := cd_Kz_st hp_10 ear_11 (by have h58 : (0 : Int) ≤ (fv 58).toInt ∧ (fv 58).toInt ≤ 10 := hF_fv 58; unfold cd_z1; omega)
  refine lv_aload_n hx hb dX12_emit_34 rfl (lv_at hl 1 rfl) ?_
  refine lv_dup hx hb dX12_emit_35 rfl ?_
  refine gM_60 hx hb htg hown hK hP dX12_emit_36 ?_
  refine lv_iconst (v := 1) hx hb dX12_emit_39 (by decide) ?_
  refine lv_iadd hx hb dX12_emit_40 ?_
  refine lv_topi (fun v_13 ev_13 => ?_)
  have t_14 : v_13.toInt = (fv 60).toInt + 1 ∧ 1 ≤ v_13.toInt ∧ v_13.toInt ≤ 121 := iv_addc ev_13 i_1 (by decide) (by decide) (by decide)
  have i_16 : 1 ≤ v_13.toInt ∧ v_13.toInt ≤ 120 := (by omega)
  refine pM_60 hx hb htg hown hK hP hS hd dX12_emit_41 (fun H locs fv_17 efv_17 hP hS => ?_)
  have hF_fv_17 : rF fv_17 := rF_put hF_fv efv_17 (iv_w i_16 (by decide) (by decide))
  have z_18 : (fv_17 60).toInt = v_13.toInt := congrArg Int32.toInt ((congrFun efv_17 60))
  have z_19 : 0 ≤ (fv_17 60).toInt ∧ (fv_17 60).toInt ≤ 120 := hF_fv_17 60
  exact W.vret hx hb hr (fun t ht hW => ⟨⟨(fv_17, wd, ar_11), rfl, ⟨hF_fv_17, hA_ar_11, (fM_put (fM_rf [60] _) efv_17 (by decide)), (fA_put (fA_put (fA_put (fA_rf [54, 55, 56] _) ear_6 (by decide)) ear_9 (by decide)) ear_11 (by decide)), (show (fv_17 60).toInt = (fv 60).toInt + 1 from by omega), (show ar_11 54 = _ from by rw [((fA_put (fA_put (fA_rf [55, 56] _) ear_9 (by decide)) ear_11 (by decide)) 54 rfl), ear_6]; show upd (ar 54) (Int32.toNatClampNeg v_2) aa = _; congr 1; show v_2.toInt.toNat = _; omega), (show cd_M fv_17 ar_11 = cd_M fv ar ++ [(aa.toInt.toNat, ab.toInt.toNat, ac.toInt)] from cd_M_add rfl (by rw [show fv_17 60 = v_13 from (congrFun efv_17 60)]; omega) (by rw [show ar_11 54 = ar_6 54 from ((fA_put (fA_put (fA_rf [55, 56] _) ear_9 (by decide)) ear_11 (by decide)) 54 rfl)]; rw [ear_6]; show upd (ar 54) (Int32.toNatClampNeg v_2) aa = _; exact congrArg (fun z9 => upd (ar 54) z9 aa) (show v_2.toInt.toNat = 1200 + (fv 60).toInt.toNat from by omega)) (by rw [show ar_11 55 = ar_9 55 from ((fA_put (fA_rf [56] _) ear_11 (by decide)) 55 rfl)]; rw [ear_9]; show upd (ar_6 55) (Int32.toNatClampNeg v_2) ab = _; rw [show ar_6 55 = ar 55 from ((fA_put (fA_rf [54] _) ear_6 (by decide)) 55 rfl)]; exact congrArg (fun z9 => upd (ar 55) z9 ab) (show v_2.toInt.toNat = 1200 + (fv 60).toInt.toNat from by omega)) (by rw [ear_11]; show upd (ar_9 56) (Int32.toNatClampNeg v_2) ac = _; rw [show ar_9 56 = ar 56 from ((fA_put (fA_put (fA_rf [54, 55] _) ear_6 (by decide)) ear_9 (by decide)) 56 rfl)]; exact congrArg (fun z9 => upd (ar 56) z9 ac) (show v_2.toInt.toNat = 1200 + (fv 60).toInt.toNat from by omega))), rfl, (vM_fr hp_7 (fM_put (fM_rf [60] _) efv_17 (by decide)) (fA_put (fA_put (fA_rf [55, 56] _) ear_9 (by decide)) ear_11 (by decide)) rfl rfl rfl rfl rfl), hp_12, trivial⟩, ⟨by rw [ht]; exact hP, va_K.moved hW.alike hK⟩⟩, hS.F ht⟩) hS.2.2 dX12_emit_44
set_option maxHeartbeats 4000000 in
set_option maxRecDepth 100000 in
theorem m_dropC (l : Launch) (dC : Nat → ClassId) (dI : Nat → Nat → Nat) (sz h : Nat) (ad : Nat → Nat) (cA : Nat → ClassId) (hd : dM h ad) (fv : Nat → Int32) (wd : Int64) (ar : Nat → Nat → Int32) (hF_fv : rF fv) (hA_ar : rA ar) (FF : Nat) (g0 : Nat → Int32) (kA9 : Nat → Nat → Int32) (ll : Int32) (mm : Int32) (h_ll : 13 ≤ ll.toInt ∧ ll.toInt ≤ 13) (h_mm : 13 ≤ mm.toInt ∧ mm.toInt ≤ 14) (hp_c1 : cX FF g0 1 (fv 60).toInt (fv 61).toInt (fv 62).toInt (fv 63).toInt (ar 54) (ar 57)) (hp_vM : vM fv ar) (hp_mK : cd_Kz cd_z1 kA9 ar) : Met l yX12_drop (.code yX12_drop cX12_drop 3 none :: lw_good) ({ frames := 3, cells := 0, slots := 0, locals := 64 }) (va_Pc [.ref h, .int ll, .int mm] (prM dC dI h ad cA fv wd ar sz)) (va_Qv (fun (u : mS) => rF u.1 ∧ rA u.2.2 ∧ fM [60, 61] fv u.1 ∧ fA [54, 55, 56] ar u.2.2 ∧ ((u.1 61).toInt ≤ (fv 61).toInt) ∧ (∀ j : Nat, (j : Int) < (fv 61).toInt → (ar 57 j).toInt = 15 → (j : Int) < (u.1 61).toInt) ∧ ((u.1 61).toInt = 0 ∨ (ar 57 ((u.1 61).toInt - 1).toNat).toInt < ll.toInt ∨ mm.toInt < (ar 57 ((u.1 61).toInt - 1).toNat).toInt) ∧ (rd_pl (ar 57) ((u.1 61).toInt.toNat) = rd_pl (ar 57) ((fv 61).toInt.toNat)) ∧ (cd_dp ll.toInt.toNat mm.toInt.toNat (cd_P fv ar) (cd_M fv ar) = (cd_P u.1 u.2.2, cd_M u.1 u.2.2)) ∧ (u.2.1 = wd) ∧ (cX FF g0 1 (u.1 60).toInt (u.1 61).toInt (u.1 62).toInt (u.1 63).toInt (u.2.2 54) (u.2.2 57)) ∧ (vM u.1 u.2.2) ∧ (cd_Kz cd_z1 kA9 u.2.2) ∧ True) (enM dC dI h ad cA) (aM h ad sz)) 0 0 (aM h ad sz) := by
  refine Met.ofW (cc := cX12_drop) (maxL := 3) (ret := none) (by decide) rfl ?_
  intro p e s m args below meth c s₁ B hml hv
  obtain ⟨rfl, hsz, hP, hK⟩ := hv
  have hx := B.exec
  have hb := B.bytes
  have hr := B.returns
  have hts := atoms_spec (ws := (.code yX12_drop cX12_drop 3 none :: lw_good)) B.pre
  have htg : ∀ w ∈ lw_good, w.before _ s = true := fun w hw => hts w (List.mem_cons_of_mem _ hw)
  have hown : s.vm.findClass RX12 = some m.cls := findClass_of_methodNamed B.named
  have hlocks := B.notSynchronized
  subst hsz
  have hS : va_S (aM h ad s.heap.size) s.heap s.heap [] := va_S.rf
  have hl := lv_entry ([.ref h, .int ll, .int mm]) (n := 3) (Nat.le_of_ble_eq_true rfl)
  rw [lg_entry_eq]
  generalize (lg_sl ([.ref h, .int ll, .int mm]) ++ List.replicate (3 - (lg_sl ([.ref h, .int ll, .int mm])).length) Slot.unset).toArray = ls at hl ⊢
  have hl : lv_has ls 3 [(0, .ref h), (1, .int ll), (2, .int mm)] := hl
  refine my_cut (P := fun R9 a9 Q9 => ∀ (n_13 : Nat) (fv_1 : Nat → Int32) (ar_3 : Nat → Nat → Int32) (H : Heap) (locs : List Loc) (ls : Array Slot), (fv_1 61).toInt < (n_13 : Int) → rF fv_1 → fM [60, 61] fv fv_1 → rA ar_3 → fA [54, 55, 56] ar ar_3 → cX FF g0 1 (fv_1 60).toInt (fv_1 61).toInt (fv_1 62).toInt (fv_1 63).toInt (ar_3 54) (ar_3 57) → cd_Kz cd_z1 kA9 ar_3 → vM fv_1 ar_3 → ((fv_1 61).toInt ≤ (fv 61).toInt) → (∀ j : Nat, (j : Int) < (fv 61).toInt → (ar 57 j).toInt = 15 → (j : Int) < (fv_1 61).toInt) → (0 ≤ (fv_1 61).toInt ∧ (fv_1 61).toInt ≤ 64) → (rd_pl (ar 57) ((fv_1 61).toInt.toNat) = rd_pl (ar 57) ((fv 61).toInt.toNat)) → (cd_dp ll.toInt.toNat mm.toInt.toNat (cd_P fv ar) (cd_M fv ar) = cd_dp ll.toInt.toNat mm.toInt.toNat (cd_P fv_1 ar_3) (cd_M fv_1 ar_3)) → va_P (dC, dI) vwCl (wsM h ad cA fv_1 wd ar_3) H → va_S (aM h ad s.heap.size) s.heap H locs → lv_has ls 3 [(0, .ref h), (1, .int ll), (2, .int mm)] → W p l e R9 s m a9 below meth c H locs 0 0 Q9 (F0 m 0 ls [])) ?_ (fun hj_15 => ?_)
  · intro n_13
    induction n_13 with
    | zero => intro fv_1 ar_3 H locs ls fu_14 hF_fv_1 fr_2 hA_ar_3 fa_4 hp_5 hp_6 hp_7 q_8 q_9 q_10 q_11 q_12; exfalso; omega
    | succ n_13 ih_13 =>
      intro fv_1 ar_3 H locs ls fu_14 hF_fv_1 fr_2 hA_ar_3 fa_4 hp_5 hp_6 hp_7 q_8 q_9 q_10 q_11 q_12 hP hS hl
      have z_16 : 0 ≤ (fv_1 60).toInt ∧ (fv_1 60).toInt ≤ 120 := hF_fv_1 60
      have z_17 : 0 ≤ (fv_1 61).toInt ∧ (fv_1 61).toInt ≤ 64 := hF_fv_1 61
      have z_18 : (fv_1 62).toInt = (fv 62).toInt := congrArg Int32.toInt ((fr_2 62 rfl))
      have z_19 : 0 ≤ (fv_1 62).toInt ∧ (fv_1 62).toInt ≤ 50 := hF_fv_1 62
      have z_20 : (fv_1 63).toInt = (fv 63).toInt := congrArg Int32.toInt ((fr_2 63 rfl))
      have z_21 : (-100) ≤ (fv_1 63).toInt ∧ (fv_1 63).toInt ≤ 10 := hF_fv_1 63
      have n9 := cX_n hp_5
      refine lv_aload_n hx hb dX12_drop_0 rfl (lv_at hl 0 rfl) ?_
      refine gM_61 hx hb htg hown hK hP dX12_drop_1 ?_
      have i_22 : 0 ≤ (fv_1 61).toInt ∧ (fv_1 61).toInt ≤ 64 := hF_fv_1 61
      refine lv_if_le (tgt := 54) hx hb dX12_drop_4 (by decide) (fun c_23 => ?_) (fun c_23 => ?_)
      · skip
        have i_24 : 0 ≤ (fv_1 61).toInt ∧ (fv_1 61).toInt ≤ 0 := iv_le1 i_22 (⟨by decide, by decide⟩ : (0 : Int) ≤ (0 : Int32).toInt ∧ (0 : Int32).toInt ≤ 0) c_23
        have z_25 : 0 ≤ (fv_1 61).toInt ∧ (fv_1 61).toInt ≤ 64 := hF_fv_1 61
        exact W.vret hx hb hr (fun t ht hW => ⟨⟨(fv_1, wd, ar_3), rfl, ⟨hF_fv_1, hA_ar_3, (fM_call (fM_rf [60, 61] _) fr_2 (by decide)), (fA_call (fA_rf [54, 55, 56] _) fa_4 (by decide)), (show (fv_1 61).toInt ≤ (fv 61).toInt from by omega), (show ∀ j : Nat, (j : Int) < (fv 61).toInt → (ar 57 j).toInt = 15 → (j : Int) < (fv_1 61).toInt from q_9), (show (fv_1 61).toInt = 0 ∨ _ from by omega), (show rd_pl (ar 57) ((fv_1 61).toInt.toNat) = rd_pl (ar 57) ((fv 61).toInt.toNat) from q_11), (show cd_dp ll.toInt.toNat mm.toInt.toNat (cd_P fv ar) (cd_M fv ar) = (cd_P fv_1 ar_3, cd_M fv_1 ar_3) from by rw [q_12]; exact cd_P_dp (Or.inl (by omega))), rfl, hp_5, hp_7, hp_6, trivial⟩, ⟨by rw [ht]; exact hP, va_K.moved hW.alike hK⟩⟩, hS.F ht⟩) hS.2.2 dX12_drop_54
      · skip
        have i_26 : 1 ≤ (fv_1 61).toInt ∧ (fv_1 61).toInt ≤ 64 := iv_lt2 (⟨by decide, by decide⟩ : (0 : Int) ≤ (0 : Int32).toInt ∧ (0 : Int32).toInt ≤ 0) i_22 (Int32.not_le.mp c_23)
        refine lv_aload_n hx hb dX12_drop_7 rfl (lv_at hl 0 rfl) ?_
        refine gM_57 hx hb htg hown hK hP dX12_drop_8 ?_
        refine lv_aload_n hx hb dX12_drop_11 rfl (lv_at hl 0 rfl) ?_
        refine gM_61 hx hb htg hown hK hP dX12_drop_12 ?_
        refine lv_iconst (v := 1) hx hb dX12_drop_15 (by decide) ?_
        refine lv_isub hx hb dX12_drop_16 ?_
        refine lv_topi (fun v_27 ev_27 => ?_)
        have t_28 : v_27.toInt = (fv_1 61).toInt - 1 ∧ 0 ≤ v_27.toInt ∧ v_27.toInt ≤ 63 := iv_subc ev_27 i_26 (by decide) (by decide) (by decide)
        refine lM_57 hx hb hK hP (iv_in t_28.2 (by decide) (by decide)) dX12_drop_17 (fun v_30 ev_30 => ?_)
        have i_31 : 0 ≤ v_30.toInt ∧ v_30.toInt ≤ 15 := ev_30 ▸ hA_ar_3 57 _
        refine lv_iload_n hx hb dX12_drop_18 rfl (lv_at hl 1 rfl) ?_
        refine lv_iload_n hx hb dX12_drop_19 rfl (lv_at hl 2 rfl) ?_
        refine va_calli (va_runS (As := [.int v_30, .int ll, .int mm]) (rest := []) ⟨hx, hb, hml, hown, hts⟩ (m_isIn l H.size v_30 ll mm) (va_cwS 3 hts (gS kw_7_218 kw_7_219 kw_1_15 kw_7_220) rfl rfl rfl (by decide +kernel) ⟨Nat.le_of_ble_eq_true rfl, Nat.le_of_ble_eq_true rfl⟩) ⟨fun a U g mk q => ⟨q.1, q.2⟩, fun U hU hW => ⟨rfl, congrArg Array.size hU⟩⟩ rfl rfl hl.1 rfl (lv_room (Nat.le_of_ble_eq_true rfl)) dX12_drop_20 ⟨Nat.le_of_ble_eq_true rfl, Nat.le_of_ble_eq_true rfl⟩) hS (fun q _ h9 => nM_up hS q h9) (nM_up hS) (fun r_32 u t H1 locs ht _ hw hB _ hk1 hS => ?_)
        obtain ⟨p_33, p_34, -⟩ := hw
        have hP := my_keepM hP hk1
        generalize H1 = H at hP hS ⊢
        rcases p_34 with ⟨rfl, p_34⟩ | ⟨rfl, p_34⟩
        · skip
          refine lv_if_eq (tgt := 54) hx hb dX12_drop_23 (by decide) (fun c_35 => ?_) (fun c_35 => ?_)
          · skip
            have z_36 : 0 ≤ (fv_1 61).toInt ∧ (fv_1 61).toInt ≤ 64 := hF_fv_1 61
            exact W.vret hx hb hr (fun t ht hW => ⟨⟨(fv_1, wd, ar_3), rfl, ⟨hF_fv_1, hA_ar_3, (fM_call (fM_rf [60, 61] _) fr_2 (by decide)), (fA_call (fA_rf [54, 55, 56] _) fa_4 (by decide)), (show (fv_1 61).toInt ≤ (fv 61).toInt from by omega), (show ∀ j : Nat, (j : Int) < (fv 61).toInt → (ar 57 j).toInt = 15 → (j : Int) < (fv_1 61).toInt from q_9), (show (fv_1 61).toInt = 0 ∨ (ar 57 ((fv_1 61).toInt - 1).toNat).toInt < ll.toInt ∨ mm.toInt < (ar 57 ((fv_1 61).toInt - 1).toNat).toInt from by rw [show ar 57 ((fv_1 61).toInt - 1).toNat = v_30 from by rw [ev_30, ((fA_call (fA_rf [54, 55, 56] _) fa_4 (by decide)) 57 rfl)]; congr 1; show _ = v_27.toInt.toNat; omega]; omega), (show rd_pl (ar 57) ((fv_1 61).toInt.toNat) = rd_pl (ar 57) ((fv 61).toInt.toNat) from q_11), (show cd_dp ll.toInt.toNat mm.toInt.toNat (cd_P fv ar) (cd_M fv ar) = (cd_P fv_1 ar_3, cd_M fv_1 ar_3) from by rw [q_12]; exact cd_P_dp (Or.inr (by rw [show ar_3 57 ((fv_1 61).toInt.toNat - 1) = v_30 from (by rw [ev_30]; exact congrArg (ar_3 57) (show (fv_1 61).toInt.toNat - 1 = v_27.toInt.toNat from (by omega)))]; omega))), rfl, hp_5, hp_7, hp_6, trivial⟩, ⟨by rw [ht]; exact hP, va_K.moved hW.alike hK⟩⟩, hS.F ht⟩) hS.2.2 dX12_drop_54
          · skip
            exact absurd c_35 (by decide)
        · skip
          have i_37 : 13 ≤ v_30.toInt ∧ v_30.toInt ≤ 15 := iv_le2 h_ll i_31 (Int32.le_iff_toInt_le.mpr p_34.1)
          have i_38 : 13 ≤ v_30.toInt ∧ v_30.toInt ≤ 14 := iv_le1 i_37 h_mm (Int32.le_iff_toInt_le.mpr p_34.2)
          refine lv_if_eq (tgt := 54) hx hb dX12_drop_23 (by decide) (fun c_39 => ?_) (fun c_39 => ?_)
          · skip
            exact absurd c_39 (by decide)
          · skip
            refine lv_aload_n hx hb dX12_drop_26 rfl (lv_at hl 0 rfl) ?_
            refine lv_dup hx hb dX12_drop_27 rfl ?_
            refine gM_61 hx hb htg hown hK hP dX12_drop_28 ?_
            refine lv_iconst (v := 1) hx hb dX12_drop_31 (by decide) ?_
            refine lv_isub hx hb dX12_drop_32 ?_
            refine my_ti (y := v_27) ev_27.symm ?_
            refine pM_61 hx hb htg hown hK hP hS hd dX12_drop_33 (fun H locs fv_40 efv_40 hP hS => ?_)
            have hF_fv_40 : rF fv_40 := rF_put hF_fv_1 efv_40 (iv_w t_28.2 (by decide) (by decide))
            refine lv_aload_n hx hb dX12_drop_36 rfl (lv_at hl 0 rfl) ?_
            refine lv_aload_n hx hb dX12_drop_37 rfl (lv_at hl 0 rfl) ?_
            refine gM_57 hx hb htg hown hK hP dX12_drop_38 ?_
            refine lv_aload_n hx hb dX12_drop_41 rfl (lv_at hl 0 rfl) ?_
            refine gM_61 hx hb htg hown hK hP dX12_drop_42 ?_
            refine my_ti (y := v_27) ((congrFun efv_40 61)) ?_
            refine lM_57 hx hb hK hP (iv_in t_28.2 (by decide) (by decide)) dX12_drop_45 (fun v_41 ev_41 => ?_)
            obtain rfl : v_30 = v_41 := ev_30.trans ev_41.symm
            refine lv_iconst (v := 0) hx hb dX12_drop_46 (by decide) ?_
            refine lv_iconst (v := 0) hx hb dX12_drop_47 (by decide) ?_
            have pl9 : ar 57 ((fv_1 61).toInt - 1).toNat = v_30 := by rw [ev_30, ((fA_call (fA_rf [54, 55, 56] _) fa_4 (by decide)) 57 rfl)]; congr 1; show _ = v_27.toInt.toNat; omega
            have z_42 : (fv_40 60).toInt = (fv_1 60).toInt := congrArg Int32.toInt ((congrFun efv_40 60))
            have z_43 : 0 ≤ (fv_40 60).toInt ∧ (fv_40 60).toInt ≤ 120 := hF_fv_40 60
            have z_44 : (fv_40 61).toInt = v_27.toInt := congrArg Int32.toInt ((congrFun efv_40 61))
            have z_45 : 0 ≤ (fv_40 61).toInt ∧ (fv_40 61).toInt ≤ 64 := hF_fv_40 61
            have z_46 : (fv_40 62).toInt = (fv 62).toInt := congrArg Int32.toInt ((congrFun efv_40 62).trans ((fr_2 62 rfl)))
            have z_47 : 0 ≤ (fv_40 62).toInt ∧ (fv_40 62).toInt ≤ 50 := hF_fv_40 62
            have z_48 : (fv_40 63).toInt = (fv 63).toInt := congrArg Int32.toInt ((congrFun efv_40 63).trans ((fr_2 63 rfl)))
            have z_49 : (-100) ≤ (fv_40 63).toInt ∧ (fv_40 63).toInt ≤ 10 := hF_fv_40 63
            have z_50 : (fv_40 60).toInt = (fv_1 60).toInt := congrArg Int32.toInt ((congrFun efv_40 60))
            have z_51 : 0 ≤ (fv_40 60).toInt ∧ (fv_40 60).toInt ≤ 120 := hF_fv_40 60
            have z_52 : (fv_40 60).toInt = (fv_1 60).toInt := congrArg Int32.toInt ((congrFun efv_40 60))
            have z_53 : 0 ≤ (fv_40 60).toInt ∧ (fv_40 60).toInt ≤ 120 := hF_fv_40 60
            refine va_callv (va_runV (As := [.int v_30, .int 0, .int 0]) (rest := []) ⟨hx, hb, hml, hown, hts⟩ (m_emitC l dC dI H.size h ad cA hd fv_40 wd ar_3 hF_fv_40 hA_ar_3 kA9 v_30 0 0 (iv_w i_38 (by decide) (by decide)) (by omega) (vM_fr hp_7 (fM_put (fM_rf [61] _) efv_40 (by decide)) (fA_rf [] _) rfl rfl rfl rfl rfl) hp_6) (cwV 3 hts (gV kw_8_121 kw_8_123 kw_p_75 kw_1_15 kw_8_124) rfl rfl rfl (by decide +kernel) ⟨Nat.le_of_ble_eq_true rfl, Nat.le_of_ble_eq_true rfl⟩) ⟨fun a U g mk q => ⟨q.1, q.2.1, q.2.2.1, va_K.moved (u := U) (U := U.calling g mk a) (Vm.Alike.refl U.vm) q.2.2.2⟩, va_recv hK hP (ci := 12) (q0 := 0) rfl rfl, fun U hU hW => ⟨rfl, by rw [hU], by rw [hU]; exact hP, va_K.moved hW.alike hK⟩⟩ rfl rfl hl.1 rfl (lv_room (Nat.le_of_ble_eq_true rfl)) dX12_drop_48 ⟨Nat.le_of_ble_eq_true rfl, Nat.le_of_ble_eq_true rfl⟩) hS (fun q _ h9 => aM_up hS q h9) (aM_up hS) (fun u t H1 locs ht _ hw hB _ hk1 hS => ?_)
            obtain ⟨fv_61, wd_62, ar_63⟩ := u
            obtain ⟨hF_fv_61, hA_ar_63, fr_64, fa_65, p_55, p_56, p_57, p_58, p_59, p_60, -⟩ := hw
            have hP : va_P (dC, dI) vwCl (wsM h ad cA fv_61 wd_62 ar_63) H1 := by have h9 := hB.1; rw [ht] at h9; exact h9
            have fr_64 : fM [60] fv_40 fv_61 := fr_64
            have fa_65 : fA [54, 55, 56] ar_3 ar_63 := fa_65
            have p_59 : vM fv_61 ar_63 := p_59
            have p_60 : cd_Kz cd_z1 kA9 ar_63 := p_60
            have p_55 : (fv_61 60).toInt = (fv_40 60).toInt + 1 := p_55
            have p_56 : ar_63 54 = upd (ar_3 54) (1200 + (fv_40 60).toInt.toNat) v_30 := p_56
            have p_57 : cd_M fv_61 ar_63 = cd_M fv_40 ar_3 ++ [(v_30.toInt.toNat, (0 : Int32).toInt.toNat, (0 : Int32).toInt)] := p_57
            have p_58 : wd_62 = wd := p_58
            generalize H1 = H at hP hS ⊢
            rw [p_58] at hP
            have z_66 : 0 ≤ (fv_61 60).toInt ∧ (fv_61 60).toInt ≤ 120 := hF_fv_61 60
            have z_67 : (fv_61 61).toInt = v_27.toInt := congrArg Int32.toInt ((fr_64 61 rfl).trans ((congrFun efv_40 61)))
            have z_68 : 0 ≤ (fv_61 61).toInt ∧ (fv_61 61).toInt ≤ 64 := hF_fv_61 61
            have z_69 : (fv_61 62).toInt = (fv 62).toInt := congrArg Int32.toInt ((fr_64 62 rfl).trans ((congrFun efv_40 62).trans ((fr_2 62 rfl))))
            have z_70 : 0 ≤ (fv_61 62).toInt ∧ (fv_61 62).toInt ≤ 50 := hF_fv_61 62
            have z_71 : (fv_61 63).toInt = (fv 63).toInt := congrArg Int32.toInt ((fr_64 63 rfl).trans ((congrFun efv_40 63).trans ((fr_2 63 rfl))))
            have z_72 : (-100) ≤ (fv_61 63).toInt ∧ (fv_61 63).toInt ≤ 10 := hF_fv_61 63
            have hp_73 : cX FF g0 1 (fv_61 60).toInt (fv_61 61).toInt (fv_61 62).toInt (fv_61 63).toInt (ar_63 54) (ar_63 57) := cX_eq (cX_drop (g1 := ar_63 54) hp_5 (by omega) (by rw [((fA_call (fA_rf [54, 55, 56] _) fa_4 (by decide)) 57 rfl)]; exact pl9) (by omega) (p1 := (fv_61 60).toInt) (t1 := (fv_61 61).toInt) (o1 := (fv_61 62).toInt) (w1 := (fv_61 63).toInt) (by omega) (by omega) (by omega) (by omega) (i := _) (by omega) p_56) rfl rfl rfl rfl rfl ((fA_call (fA_rf [54, 55, 56] _) fa_65 (by decide)) 57 rfl)
            refine lv_goto (tgt := 0) hx hb dX12_drop_51 (by decide) ?_
            have z_74 : 0 ≤ (fv_61 60).toInt ∧ (fv_61 60).toInt ≤ 120 := hF_fv_61 60
            have z_75 : (fv_61 61).toInt = v_27.toInt := congrArg Int32.toInt ((fr_64 61 rfl).trans ((congrFun efv_40 61)))
            have z_76 : 0 ≤ (fv_61 61).toInt ∧ (fv_61 61).toInt ≤ 64 := hF_fv_61 61
            exact ih_13 fv_61 ar_63 _ _ ls (by omega) hF_fv_61 (fM_call (fM_put (fM_call (fM_rf [60, 61] _) fr_2 (by decide)) efv_40 (by decide)) fr_64 (by decide)) hA_ar_63 (fA_call (fA_call (fA_rf [54, 55, 56] _) fa_4 (by decide)) fa_65 (by decide)) hp_73 p_60 p_59 (by omega) (fun j h1 h2 => by have a9 := q_9 j h1 h2; have c9 : j ≠ ((fv_1 61).toInt - 1).toNat := (fun e9 => by (rw [e9, pl9] at h2; omega)); omega) (by omega) (by rw [← q_11, show (fv_1 61).toInt.toNat = ((fv_1 61).toInt - 1).toNat + 1 from (by omega), rd_pl_jn (by rw [pl9]; omega), show (fv_61 61).toInt.toNat = ((fv_1 61).toInt - 1).toNat from (by omega)]) (by have : (fv_40 60).toInt = (fv_1 60).toInt := congrArg Int32.toInt ((fM_put (fM_rf [61] _) efv_40 (by decide)) 60 rfl); have : (fv_40 61).toInt = v_27.toInt := congrArg Int32.toInt (show fv_40 61 = v_27 from congrFun efv_40 61); have : (fv_61 61).toInt = (fv_40 61).toInt := congrArg Int32.toInt ((fM_call (fM_rf [60] _) fr_64 (by decide)) 61 rfl); have hm9 := p_55; rw [q_12, cd_P_pop (f := fv_1) (f1 := fv_61) (a := ar_3) (a1 := ar_63) (x := v_30) ((fA_call (fA_rf [54, 55, 56] _) fa_65 (by decide)) 57 rfl) (by omega) (by have h9 := congrArg Int32.toInt pl9; rw [show ar_3 57 = ar 57 from ((fA_call (fA_rf [54, 55, 56] _) fa_4 (by decide)) 57 rfl), show (fv_61 61).toInt.toNat = ((fv_1 61).toInt - 1).toNat from (by omega)]; exact h9), cd_dp_y (by omega), show cd_M fv_61 ar_63 = cd_M fv_61 ar_63 from (cd_M_eq rfl rfl rfl (by omega)), p_57, show cd_M fv_40 ar_3 = cd_M fv_1 ar_3 from (cd_M_eq rfl rfl rfl (by omega))]; rfl) hP hS (lv_sub hl [0, 1, 2] rfl)
  · skip
    have z_77 : 0 ≤ (fv 60).toInt ∧ (fv 60).toInt ≤ 120 := hF_fv 60
    have z_78 : 0 ≤ (fv 61).toInt ∧ (fv 61).toInt ≤ 64 := hF_fv 61
    exact hj_15 65 fv ar _ _ ls (by omega) hF_fv (fM_rf [60, 61] _) hA_ar (fA_rf [54, 55, 56] _) hp_c1 hp_mK hp_vM (Int.le_refl _) (fun j h _ => h) (hF_fv 61) rfl rfl hP hS (lv_sub hl [0, 1, 2] rfl)
set_option maxHeartbeats 4000000 in
set_option maxRecDepth 100000 in
theorem m_dropNotsC (l : Launch) (dC : Nat → ClassId) (dI : Nat → Nat → Nat) (sz h : Nat) (ad : Nat → Nat) (cA : Nat → ClassId) (hd : dM h ad) (fv : Nat → Int32) (wd : Int64) (ar : Nat → Nat → Int32) (hF_fv : rF fv) (hA_ar : rA ar) (FF : Nat) (g0 : Nat → Int32) (kA9 : Nat → Nat → Int32) (hpj : rd_pj (ar 57) ((fv 61).toInt.toNat)) (hwi : (fv 63).toInt = ((rd_pl (ar 57) ((fv 61).toInt.toNat)).length : Nat)) (hp_c1 : cX FF g0 1 (fv 60).toInt (fv 61).toInt (fv 62).toInt (fv 63).toInt (ar 54) (ar 57)) (hp_vM : vM fv ar) (hp_mK : cd_Kz cd_z1 kA9 ar) : Met l yX12_dropNots (.code yX12_dropNots cX12_dropNots 1 none :: lw_good) ({ frames := 3, cells := 0, slots := 0, locals := 64 }) (va_Pc [.ref h] (prM dC dI h ad cA fv wd ar sz)) (va_Qv (fun (u : mS) => rF u.1 ∧ rA u.2.2 ∧ fM [60, 61, 63] fv u.1 ∧ fA [54, 55, 56] ar u.2.2 ∧ ((u.1 61).toInt ≤ (fv 61).toInt) ∧ (rd_pl (ar 57) ((u.1 61).toInt.toNat) = rd_dn (rd_pl (ar 57) ((fv 61).toInt.toNat))) ∧ ((u.1 63).toInt = ((rd_pl (ar 57) ((u.1 61).toInt.toNat)).length : Nat)) ∧ (rd_pj (ar 57) ((u.1 61).toInt.toNat)) ∧ (∀ (T9 : Nat → Nat) (N9 : Nat → Int) (p9 : Nat), p9 < 400 → cd_m T9 N9 1 p9 (cd_P fv ar) (cd_M fv ar) = cd_m T9 N9 1 p9 (cd_P u.1 u.2.2) (cd_M u.1 u.2.2)) ∧ (cd_n12 (cd_P u.1 u.2.2)) ∧ (u.2.1 = wd) ∧ (cX FF g0 1 (u.1 60).toInt (u.1 61).toInt (u.1 62).toInt (u.1 63).toInt (u.2.2 54) (u.2.2 57)) ∧ (vM u.1 u.2.2) ∧ (cd_Kz cd_z1 kA9 u.2.2) ∧ True) (enM dC dI h ad cA) (aM h ad sz)) 0 0 (aM h ad sz) := by
  refine Met.ofW (cc := cX12_dropNots) (maxL := 1) (ret := none) (by decide) rfl ?_
  intro p e s m args below meth c s₁ B hml hv
  obtain ⟨rfl, hsz, hP, hK⟩ := hv
  have hx := B.exec
  have hb := B.bytes
  have hr := B.returns
  have hts := atoms_spec (ws := (.code yX12_dropNots cX12_dropNots 1 none :: lw_good)) B.pre
  have htg : ∀ w ∈ lw_good, w.before _ s = true := fun w hw => hts w (List.mem_cons_of_mem _ hw)
  have hown : s.vm.findClass RX12 = some m.cls := findClass_of_methodNamed B.named
  have hlocks := B.notSynchronized
  subst hsz
  have hS : va_S (aM h ad s.heap.size) s.heap s.heap [] := va_S.rf
  have hl := lv_entry ([.ref h]) (n := 1) (Nat.le_of_ble_eq_true rfl)
  rw [lg_entry_eq]
  generalize (lg_sl ([.ref h]) ++ List.replicate (1 - (lg_sl ([.ref h])).length) Slot.unset).toArray = ls at hl ⊢
  have hl : lv_has ls 1 [(0, .ref h)] := hl
  refine my_cut (P := fun R9 a9 Q9 => ∀ (n_13 : Nat) (fv_1 : Nat → Int32) (ar_3 : Nat → Nat → Int32) (H : Heap) (locs : List Loc) (ls : Array Slot), (fv_1 61).toInt < (n_13 : Int) → rF fv_1 → fM [60, 61, 63] fv fv_1 → rA ar_3 → fA [54, 55, 56] ar ar_3 → cX FF g0 1 (fv_1 60).toInt (fv_1 61).toInt (fv_1 62).toInt (fv_1 63).toInt (ar_3 54) (ar_3 57) → cd_Kz cd_z1 kA9 ar_3 → vM fv_1 ar_3 → (0 ≤ (fv_1 61).toInt ∧ (fv_1 61).toInt ≤ 64) → ((fv_1 61).toInt ≤ (fv 61).toInt) → (rd_dn (rd_pl (ar 57) ((fv_1 61).toInt.toNat)) = rd_dn (rd_pl (ar 57) ((fv 61).toInt.toNat))) → ((fv_1 63).toInt = ((rd_pl (ar 57) ((fv_1 61).toInt.toNat)).length : Nat)) → (∀ (T9 : Nat → Nat) (N9 : Nat → Int) (p9 : Nat), p9 < 400 → cd_m T9 N9 1 p9 (cd_P fv ar) (cd_M fv ar) = cd_m T9 N9 1 p9 (cd_P fv_1 ar_3) (cd_M fv_1 ar_3)) → va_P (dC, dI) vwCl (wsM h ad cA fv_1 wd ar_3) H → va_S (aM h ad s.heap.size) s.heap H locs → lv_has ls 1 [(0, .ref h)] → W p l e R9 s m a9 below meth c H locs 0 0 Q9 (F0 m 0 ls [])) ?_ (fun hj_15 => ?_)
  · intro n_13
    induction n_13 with
    | zero => intro fv_1 ar_3 H locs ls fu_14 hF_fv_1 fr_2 hA_ar_3 fa_4 hp_5 hp_6 hp_7 q_8 q_9 q_10 q_11 q_12; exfalso; omega
    | succ n_13 ih_13 =>
      intro fv_1 ar_3 H locs ls fu_14 hF_fv_1 fr_2 hA_ar_3 fa_4 hp_5 hp_6 hp_7 q_8 q_9 q_10 q_11 q_12 hP hS hl
      have z_16 : 0 ≤ (fv_1 60).toInt ∧ (fv_1 60).toInt ≤ 120 := hF_fv_1 60
      have z_17 : 0 ≤ (fv_1 61).toInt ∧ (fv_1 61).toInt ≤ 64 := hF_fv_1 61
      have z_18 : (fv_1 62).toInt = (fv 62).toInt := congrArg Int32.toInt ((fr_2 62 rfl))
      have z_19 : 0 ≤ (fv_1 62).toInt ∧ (fv_1 62).toInt ≤ 50 := hF_fv_1 62
      have z_20 : (-100) ≤ (fv_1 63).toInt ∧ (fv_1 63).toInt ≤ 10 := hF_fv_1 63
      have n9 := cX_n hp_5
      refine lv_aload_n hx hb dX12_dropNots_0 rfl (lv_at hl 0 rfl) ?_
      refine gM_61 hx hb htg hown hK hP dX12_dropNots_1 ?_
      have i_21 : 0 ≤ (fv_1 61).toInt ∧ (fv_1 61).toInt ≤ 64 := hF_fv_1 61
      refine lv_if_le (tgt := 54) hx hb dX12_dropNots_4 (by decide) (fun c_22 => ?_) (fun c_22 => ?_)
      · skip
        have i_23 : 0 ≤ (fv_1 61).toInt ∧ (fv_1 61).toInt ≤ 0 := iv_le1 i_21 (⟨by decide, by decide⟩ : (0 : Int) ≤ (0 : Int32).toInt ∧ (0 : Int32).toInt ≤ 0) c_22
        have z_24 : 0 ≤ (fv_1 61).toInt ∧ (fv_1 61).toInt ≤ 64 := hF_fv_1 61
        exact W.vret hx hb hr (fun t ht hW => ⟨⟨(fv_1, wd, ar_3), rfl, ⟨hF_fv_1, hA_ar_3, (fM_call (fM_rf [60, 61, 63] _) fr_2 (by decide)), (fA_call (fA_rf [54, 55, 56] _) fa_4 (by decide)), (show (fv_1 61).toInt ≤ (fv 61).toInt from by omega), (show rd_pl (ar 57) ((fv_1 61).toInt.toNat) = rd_dn (rd_pl (ar 57) ((fv 61).toInt.toNat)) from by have h9 := rd_dn_top ((fv_1 61).toInt.toNat) (rd_pj_le hpj (by omega)) (Or.inl (by omega)); rw [← q_10, h9]), (show (fv_1 63).toInt = ((rd_pl (ar 57) ((fv_1 61).toInt.toNat)).length : Nat) from q_11), (show rd_pj (ar 57) ((fv_1 61).toInt.toNat) from rd_pj_le hpj (by omega)), (show ∀ (T9 : Nat → Nat) (N9 : Nat → Int) (p9 : Nat), p9 < 400 → cd_m T9 N9 1 p9 (cd_P fv ar) (cd_M fv ar) = cd_m T9 N9 1 p9 (cd_P fv_1 ar_3) (cd_M fv_1 ar_3) from q_12), (show cd_n12 (cd_P fv_1 ar_3) from by exact cd_P_n12 (Or.inl (by omega))), rfl, hp_5, hp_7, hp_6, trivial⟩, ⟨by rw [ht]; exact hP, va_K.moved hW.alike hK⟩⟩, hS.F ht⟩) hS.2.2 dX12_dropNots_54
      · skip
        have i_25 : 1 ≤ (fv_1 61).toInt ∧ (fv_1 61).toInt ≤ 64 := iv_lt2 (⟨by decide, by decide⟩ : (0 : Int) ≤ (0 : Int32).toInt ∧ (0 : Int32).toInt ≤ 0) i_21 (Int32.not_le.mp c_22)
        refine lv_aload_n hx hb dX12_dropNots_7 rfl (lv_at hl 0 rfl) ?_
        refine gM_57 hx hb htg hown hK hP dX12_dropNots_8 ?_
        refine lv_aload_n hx hb dX12_dropNots_11 rfl (lv_at hl 0 rfl) ?_
        refine gM_61 hx hb htg hown hK hP dX12_dropNots_12 ?_
        refine lv_iconst (v := 1) hx hb dX12_dropNots_15 (by decide) ?_
        refine lv_isub hx hb dX12_dropNots_16 ?_
        refine lv_topi (fun v_26 ev_26 => ?_)
        have t_27 : v_26.toInt = (fv_1 61).toInt - 1 ∧ 0 ≤ v_26.toInt ∧ v_26.toInt ≤ 63 := iv_subc ev_26 i_25 (by decide) (by decide) (by decide)
        refine lM_57 hx hb hK hP (iv_in t_27.2 (by decide) (by decide)) dX12_dropNots_17 (fun v_29 ev_29 => ?_)
        have i_30 : 0 ≤ v_29.toInt ∧ v_29.toInt ≤ 15 := ev_29 ▸ hA_ar_3 57 _
        refine lv_bipush (v := 12) hx hb dX12_dropNots_18 (by decide) ?_
        refine lv_icmp_ne (tgt := 54) hx hb dX12_dropNots_20 (by decide) (fun c_31 => ?_) (fun c_31 => ?_)
        · skip
          have k_32 : ¬ v_29.toInt = 12 := fun q => c_31 (Int32.toInt_inj.mp q)
          have z_33 : 0 ≤ (fv_1 61).toInt ∧ (fv_1 61).toInt ≤ 64 := hF_fv_1 61
          exact W.vret hx hb hr (fun t ht hW => ⟨⟨(fv_1, wd, ar_3), rfl, ⟨hF_fv_1, hA_ar_3, (fM_call (fM_rf [60, 61, 63] _) fr_2 (by decide)), (fA_call (fA_rf [54, 55, 56] _) fa_4 (by decide)), (show (fv_1 61).toInt ≤ (fv 61).toInt from by omega), (show rd_pl (ar 57) ((fv_1 61).toInt.toNat) = rd_dn (rd_pl (ar 57) ((fv 61).toInt.toNat)) from by have h9 := rd_dn_top ((fv_1 61).toInt.toNat) (rd_pj_le hpj (by omega)) (Or.inr (by rw [show ar 57 ((fv_1 61).toInt.toNat - 1) = v_29 from (by rw [ev_29, show ar_3 57 = ar 57 from ((fA_call (fA_rf [54, 55, 56] _) fa_4 (by decide)) 57 rfl)]; exact congrArg (ar 57) (show (fv_1 61).toInt.toNat - 1 = v_26.toInt.toNat from (by omega)))]; omega)); rw [← q_10, h9]), (show (fv_1 63).toInt = ((rd_pl (ar 57) ((fv_1 61).toInt.toNat)).length : Nat) from q_11), (show rd_pj (ar 57) ((fv_1 61).toInt.toNat) from rd_pj_le hpj (by omega)), (show ∀ (T9 : Nat → Nat) (N9 : Nat → Int) (p9 : Nat), p9 < 400 → cd_m T9 N9 1 p9 (cd_P fv ar) (cd_M fv ar) = cd_m T9 N9 1 p9 (cd_P fv_1 ar_3) (cd_M fv_1 ar_3) from q_12), (show cd_n12 (cd_P fv_1 ar_3) from by exact cd_P_n12 (Or.inr (by rw [show ar_3 57 ((fv_1 61).toInt.toNat - 1) = v_29 from (by rw [ev_29]; exact congrArg (ar_3 57) (show (fv_1 61).toInt.toNat - 1 = v_26.toInt.toNat from (by omega)))]; omega))), rfl, hp_5, hp_7, hp_6, trivial⟩, ⟨by rw [ht]; exact hP, va_K.moved hW.alike hK⟩⟩, hS.F ht⟩) hS.2.2 dX12_dropNots_54
        · skip
          have i_34 : 12 ≤ v_29.toInt ∧ v_29.toInt ≤ 12 := iv_eq1 (⟨by decide, by decide⟩ : (12 : Int) ≤ (12 : Int32).toInt ∧ (12 : Int32).toInt ≤ 12) c_31
          refine lv_aload_n hx hb dX12_dropNots_23 rfl (lv_at hl 0 rfl) ?_
          refine lv_dup hx hb dX12_dropNots_24 rfl ?_
          refine gM_61 hx hb htg hown hK hP dX12_dropNots_25 ?_
          refine lv_iconst (v := 1) hx hb dX12_dropNots_28 (by decide) ?_
          refine lv_isub hx hb dX12_dropNots_29 ?_
          refine my_ti (y := v_26) ev_26.symm ?_
          refine pM_61 hx hb htg hown hK hP hS hd dX12_dropNots_30 (fun H locs fv_36 efv_36 hP hS => ?_)
          have hF_fv_36 : rF fv_36 := rF_put hF_fv_1 efv_36 (iv_w t_27.2 (by decide) (by decide))
          refine lv_aload_n hx hb dX12_dropNots_33 rfl (lv_at hl 0 rfl) ?_
          refine lv_dup hx hb dX12_dropNots_34 rfl ?_
          refine gM_63 hx hb htg hown hK hP dX12_dropNots_35 ?_
          refine my_ti (y := fv_1 63) ((congrFun efv_36 63)) ?_
          have i_37 : (-100) ≤ (fv_1 63).toInt ∧ (fv_1 63).toInt ≤ 10 := hF_fv_1 63
          refine lv_iconst (v := 1) hx hb dX12_dropNots_38 (by decide) ?_
          refine lv_isub hx hb dX12_dropNots_39 ?_
          refine lv_topi (fun v_38 ev_38 => ?_)
          have t_39 : v_38.toInt = (fv_1 63).toInt - 1 ∧ (-101) ≤ v_38.toInt ∧ v_38.toInt ≤ 9 := iv_subc ev_38 i_37 (by decide) (by decide) (by decide)
          have i_41 : (-100) ≤ v_38.toInt ∧ v_38.toInt ≤ 10 := (by omega)
          refine pM_63 hx hb htg hown hK hP hS hd dX12_dropNots_40 (fun H locs fv_42 efv_42 hP hS => ?_)
          have hF_fv_42 : rF fv_42 := rF_put hF_fv_36 efv_42 i_41
          have pl9 : (ar_3 57 ((fv_1 61).toInt - 1).toNat).toInt = 12 := by rw [show ar_3 57 ((fv_1 61).toInt - 1).toNat = v_29 from by rw [ev_29]; congr 1; show _ = v_26.toInt.toNat; omega]; omega
          have z_43 : (fv_42 60).toInt = (fv_1 60).toInt := congrArg Int32.toInt ((congrFun efv_42 60).trans ((congrFun efv_36 60)))
          have z_44 : 0 ≤ (fv_42 60).toInt ∧ (fv_42 60).toInt ≤ 120 := hF_fv_42 60
          have z_45 : (fv_42 61).toInt = v_26.toInt := congrArg Int32.toInt ((congrFun efv_42 61).trans ((congrFun efv_36 61)))
          have z_46 : 0 ≤ (fv_42 61).toInt ∧ (fv_42 61).toInt ≤ 64 := hF_fv_42 61
          have z_47 : (fv_42 62).toInt = (fv 62).toInt := congrArg Int32.toInt ((congrFun efv_42 62).trans ((congrFun efv_36 62).trans ((fr_2 62 rfl))))
          have z_48 : 0 ≤ (fv_42 62).toInt ∧ (fv_42 62).toInt ≤ 50 := hF_fv_42 62
          have z_49 : (fv_42 63).toInt = v_38.toInt := congrArg Int32.toInt ((congrFun efv_42 63))
          have z_50 : (-100) ≤ (fv_42 63).toInt ∧ (fv_42 63).toInt ≤ 10 := hF_fv_42 63
          refine lv_aload_n hx hb dX12_dropNots_43 rfl (lv_at hl 0 rfl) ?_
          refine lv_bipush (v := 12) hx hb dX12_dropNots_44 (by decide) ?_
          refine lv_iconst (v := 0) hx hb dX12_dropNots_46 (by decide) ?_
          refine lv_iconst (v := 0) hx hb dX12_dropNots_47 (by decide) ?_
          have z_51 : (fv_42 60).toInt = (fv_1 60).toInt := congrArg Int32.toInt ((congrFun efv_42 60).trans ((congrFun efv_36 60)))
          have z_52 : 0 ≤ (fv_42 60).toInt ∧ (fv_42 60).toInt ≤ 120 := hF_fv_42 60
          have z_53 : (fv_42 60).toInt = (fv_1 60).toInt := congrArg Int32.toInt ((congrFun efv_42 60).trans ((congrFun efv_36 60)))
          have z_54 : 0 ≤ (fv_42 60).toInt ∧ (fv_42 60).toInt ≤ 120 := hF_fv_42 60
          refine va_callv (va_runV (As := [.int 12, .int 0, .int 0]) (rest := []) ⟨hx, hb, hml, hown, hts⟩ (m_emitC l dC dI H.size h ad cA hd fv_42 wd ar_3 hF_fv_42 hA_ar_3 kA9 12 0 0 (iv_w (⟨by decide, by decide⟩ : (12 : Int) ≤ (12 : Int32).toInt ∧ (12 : Int32).toInt ≤ 12) (by decide) (by decide)) (by omega) (vM_fr hp_7 (fM_put (fM_put (fM_rf [61, 63] _) efv_36 (by decide)) efv_42 (by decide)) (fA_rf [] _) rfl rfl rfl rfl rfl) hp_6) (cwV 3 hts (gV kw_8_121 kw_8_123 kw_p_75 kw_1_15 kw_8_124) rfl rfl rfl (by decide +kernel) ⟨Nat.le_of_ble_eq_true rfl, Nat.le_of_ble_eq_true rfl⟩) ⟨fun a U g mk q => ⟨q.1, q.2.1, q.2.2.1, va_K.moved (u := U) (U := U.calling g mk a) (Vm.Alike.refl U.vm) q.2.2.2⟩, va_recv hK hP (ci := 12) (q0 := 0) rfl rfl, fun U hU hW => ⟨rfl, by rw [hU], by rw [hU]; exact hP, va_K.moved hW.alike hK⟩⟩ rfl rfl hl.1 rfl (lv_room (Nat.le_of_ble_eq_true rfl)) dX12_dropNots_48 ⟨Nat.le_of_ble_eq_true rfl, Nat.le_of_ble_eq_true rfl⟩) hS (fun q _ h9 => aM_up hS q h9) (aM_up hS) (fun u t H1 locs ht _ hw hB _ hk1 hS => ?_)
          obtain ⟨fv_62, wd_63, ar_64⟩ := u
          obtain ⟨hF_fv_62, hA_ar_64, fr_65, fa_66, p_56, p_57, p_58, p_59, p_60, p_61, -⟩ := hw
          have hP : va_P (dC, dI) vwCl (wsM h ad cA fv_62 wd_63 ar_64) H1 := by have h9 := hB.1; rw [ht] at h9; exact h9
          have fr_65 : fM [60] fv_42 fv_62 := fr_65
          have fa_66 : fA [54, 55, 56] ar_3 ar_64 := fa_66
          have p_60 : vM fv_62 ar_64 := p_60
          have p_61 : cd_Kz cd_z1 kA9 ar_64 := p_61
          have p_56 : (fv_62 60).toInt = (fv_42 60).toInt + 1 := p_56
          have p_57 : ar_64 54 = upd (ar_3 54) (1200 + (fv_42 60).toInt.toNat) (12 : Int32) := p_57
          have p_58 : cd_M fv_62 ar_64 = cd_M fv_42 ar_3 ++ [((12 : Int32).toInt.toNat, (0 : Int32).toInt.toNat, (0 : Int32).toInt)] := p_58
          have p_59 : wd_63 = wd := p_59
          generalize H1 = H at hP hS ⊢
          rw [p_59] at hP
          have z_67 : 0 ≤ (fv_62 60).toInt ∧ (fv_62 60).toInt ≤ 120 := hF_fv_62 60
          have z_68 : (fv_62 61).toInt = v_26.toInt := congrArg Int32.toInt ((fr_65 61 rfl).trans ((congrFun efv_42 61).trans ((congrFun efv_36 61))))
          have z_69 : 0 ≤ (fv_62 61).toInt ∧ (fv_62 61).toInt ≤ 64 := hF_fv_62 61
          have z_70 : (fv_62 62).toInt = (fv 62).toInt := congrArg Int32.toInt ((fr_65 62 rfl).trans ((congrFun efv_42 62).trans ((congrFun efv_36 62).trans ((fr_2 62 rfl)))))
          have z_71 : 0 ≤ (fv_62 62).toInt ∧ (fv_62 62).toInt ≤ 50 := hF_fv_62 62
          have z_72 : (fv_62 63).toInt = v_38.toInt := congrArg Int32.toInt ((fr_65 63 rfl).trans ((congrFun efv_42 63)))
          have z_73 : (-100) ≤ (fv_62 63).toInt ∧ (fv_62 63).toInt ≤ 10 := hF_fv_62 63
          have hp_74 : cX FF g0 1 (fv_62 60).toInt (fv_62 61).toInt (fv_62 62).toInt (fv_62 63).toInt (ar_64 54) (ar_64 57) := cX_eq (cX_not (g1 := ar_64 54) hp_5 (by omega) pl9 (by decide) (p1 := (fv_62 60).toInt) (t1 := (fv_62 61).toInt) (o1 := (fv_62 62).toInt) (w1 := (fv_62 63).toInt) (by omega) (by omega) (by omega) (by omega) (i := _) (by omega) p_57) rfl rfl rfl rfl rfl ((fA_call (fA_rf [54, 55, 56] _) fa_66 (by decide)) 57 rfl)
          refine lv_goto (tgt := 0) hx hb dX12_dropNots_51 (by decide) ?_
          have z_75 : 0 ≤ (fv_62 60).toInt ∧ (fv_62 60).toInt ≤ 120 := hF_fv_62 60
          have z_76 : (fv_62 61).toInt = v_26.toInt := congrArg Int32.toInt ((fr_65 61 rfl).trans ((congrFun efv_42 61).trans ((congrFun efv_36 61))))
          have z_77 : 0 ≤ (fv_62 61).toInt ∧ (fv_62 61).toInt ≤ 64 := hF_fv_62 61
          have z_78 : (fv_62 63).toInt = v_38.toInt := congrArg Int32.toInt ((fr_65 63 rfl).trans ((congrFun efv_42 63)))
          have z_79 : (-100) ≤ (fv_62 63).toInt ∧ (fv_62 63).toInt ≤ 10 := hF_fv_62 63
          exact ih_13 fv_62 ar_64 _ _ ls (by omega) hF_fv_62 (fM_call (fM_put (fM_put (fM_call (fM_rf [60, 61, 63] _) fr_2 (by decide)) efv_36 (by decide)) efv_42 (by decide)) fr_65 (by decide)) hA_ar_64 (fA_call (fA_call (fA_rf [54, 55, 56] _) fa_4 (by decide)) fa_66 (by decide)) hp_74 p_61 p_60 (by omega) (by omega) (by have hp9 : (ar 57 ((fv_1 61).toInt - 1).toNat).toInt = 12 := (by have h9 := pl9; rw [show ar_3 57 = ar 57 from ((fA_call (fA_rf [54, 55, 56] _) fa_4 (by decide)) 57 rfl)] at h9; exact h9); have he9 : rd_pl (ar 57) ((fv_1 61).toInt.toNat) = true :: rd_pl (ar 57) ((fv_62 61).toInt.toNat) := (by rw [show (fv_1 61).toInt.toNat = ((fv_1 61).toInt - 1).toNat + 1 from (by omega), rd_pl_12 hp9, show (fv_62 61).toInt.toNat = ((fv_1 61).toInt - 1).toNat from (by omega)]); rw [← q_10, he9, rd_dn_t]) (by have hp9 : (ar 57 ((fv_1 61).toInt - 1).toNat).toInt = 12 := (by have h9 := pl9; rw [show ar_3 57 = ar 57 from ((fA_call (fA_rf [54, 55, 56] _) fa_4 (by decide)) 57 rfl)] at h9; exact h9); have he9 : rd_pl (ar 57) ((fv_1 61).toInt.toNat) = true :: rd_pl (ar 57) ((fv_62 61).toInt.toNat) := (by rw [show (fv_1 61).toInt.toNat = ((fv_1 61).toInt - 1).toNat + 1 from (by omega), rd_pl_12 hp9, show (fv_62 61).toInt.toNat = ((fv_1 61).toInt - 1).toNat from (by omega)]); have h9 := q_11; rw [he9, List.length_cons] at h9; omega) (fun T9 N9 p9 hp9 => by have : (fv_36 60).toInt = (fv_1 60).toInt := congrArg Int32.toInt ((fM_put (fM_rf [61] _) efv_36 (by decide)) 60 rfl); have : (fv_36 61).toInt = v_26.toInt := congrArg Int32.toInt (show fv_36 61 = v_26 from congrFun efv_36 61); have : (fv_42 60).toInt = (fv_36 60).toInt := congrArg Int32.toInt ((fM_put (fM_rf [63] _) efv_42 (by decide)) 60 rfl); have : (fv_42 61).toInt = (fv_36 61).toInt := congrArg Int32.toInt ((fM_put (fM_rf [63] _) efv_42 (by decide)) 61 rfl); have : (fv_62 61).toInt = (fv_42 61).toInt := congrArg Int32.toInt ((fM_call (fM_rf [60] _) fr_65 (by decide)) 61 rfl); have hm9 := p_56; have hz12 : (12 : Int32).toInt = 12 := (by decide); rw [q_12 T9 N9 p9 hp9, cd_P_pop (f := fv_1) (f1 := fv_62) (a := ar_3) (a1 := ar_64) (x := 12) ((fA_call (fA_rf [54, 55, 56] _) fa_66 (by decide)) 57 rfl) (by omega) (by rw [show (fv_62 61).toInt.toNat = ((fv_1 61).toInt - 1).toNat from (by omega)]; omega), show (12 : Int32).toInt.toNat = 12 from by decide, cd_m1_not hp9, show cd_M fv_62 ar_64 = cd_M fv_62 ar_64 from (cd_M_eq rfl rfl rfl (by omega)), p_58, show cd_M fv_42 ar_3 = cd_M fv_1 ar_3 from (cd_M_eq rfl rfl rfl (by omega))]; rfl) hP hS (lv_sub hl [0] rfl)
  · skip
    have z_80 : 0 ≤ (fv 60).toInt ∧ (fv 60).toInt ≤ 120 := hF_fv 60
    have z_81 : 0 ≤ (fv 61).toInt ∧ (fv 61).toInt ≤ 64 := hF_fv 61
    have z_82 : (-100) ≤ (fv 63).toInt ∧ (fv 63).toInt ≤ 10 := hF_fv 63
    exact hj_15 65 fv ar _ _ ls (by omega) hF_fv (fM_rf [60, 61, 63] _) hA_ar (fA_rf [54, 55, 56] _) hp_c1 hp_mK hp_vM (hF_fv 61) (Int.le_refl _) rfl hwi (fun _ _ _ _ => rfl) hP hS (lv_sub hl [0] rfl)
set_option maxHeartbeats 4000000 in
set_option maxRecDepth 100000 in
theorem m_isOpenC (l : Launch) (dC : Nat → ClassId) (dI : Nat → Nat → Nat) (sz h : Nat) (ad : Nat → Nat) (cA : Nat → ClassId) (hd : dM h ad) (fv : Nat → Int32) (wd : Int64) (ar : Nat → Nat → Int32) (hF_fv : rF fv) (hA_ar : rA ar) : Met l yX12_isOpen (.code yX12_isOpen cX12_isOpen 2 (some .boolean) :: lw_good) ({ frames := 2, cells := 0, slots := 0, locals := 40 }) (va_Pc [.ref h] (prM dC dI h ad cA fv wd ar sz)) (va_Qi (fun (r : Int32) (u : mS) => rF u.1 ∧ rA u.2.2 ∧ fM [] fv u.1 ∧ fA [] ar u.2.2 ∧ (0 ≤ r.toInt ∧ r.toInt ≤ 1) ∧ ((r = 0 ∧ (∀ j : Nat, (j : Int) < (fv 61).toInt → ¬ (ar 57 j).toInt = 15)) ∨ (r = 1 ∧ (∃ j : Nat, (j : Int) < (fv 61).toInt ∧ (ar 57 j).toInt = 15))) ∧ (u.2.1 = wd) ∧ True) (enM dC dI h ad cA) (aM h ad sz)) 0 0 (aM h ad sz) := by
  refine Met.ofW (cc := cX12_isOpen) (maxL := 2) (ret := (some .boolean)) (by decide) rfl ?_
  intro p e s m args below meth c s₁ B hml hv
  obtain ⟨rfl, hsz, hP, hK⟩ := hv
  have hx := B.exec
  have hb := B.bytes
  have hr := B.returns
  have hts := atoms_spec (ws := (.code yX12_isOpen cX12_isOpen 2 (some .boolean) :: lw_good)) B.pre
  have htg : ∀ w ∈ lw_good, w.before _ s = true := fun w hw => hts w (List.mem_cons_of_mem _ hw)
  have hown : s.vm.findClass RX12 = some m.cls := findClass_of_methodNamed B.named
  have hlocks := B.notSynchronized
  subst hsz
  have hS : va_S (aM h ad s.heap.size) s.heap s.heap [] := va_S.rf
  have hl := lv_entry ([.ref h]) (n := 2) (Nat.le_of_ble_eq_true rfl)
  rw [lg_entry_eq]
  generalize (lg_sl ([.ref h]) ++ List.replicate (2 - (lg_sl ([.ref h])).length) Slot.unset).toArray = ls at hl ⊢
  have hl : lv_has ls 2 [(0, .ref h)] := hl
  refine lv_iconst (v := 0) hx hb dX12_isOpen_0 (by decide) ?_
  refine lv_istore_n (lv' := [(1, .int 0), (0, .ref h)]) hx hb dX12_isOpen_1 rfl hl (by decide) rfl (fun ls hl => ?_)
  refine my_cut (P := fun R9 a9 Q9 => ∀ (n_3 : Nat) (x_1 : Int32) (H : Heap) (locs : List Loc) (ls : Array Slot), 64 - x_1.toInt < (n_3 : Int) → (0 ≤ x_1.toInt ∧ x_1.toInt ≤ 64) → (∀ j : Nat, (j : Int) < x_1.toInt → ¬ (ar 57 j).toInt = 15) → va_P (dC, dI) vwCl (wsM h ad cA fv wd ar) H → va_S (aM h ad s.heap.size) s.heap H locs → lv_has ls 2 [(0, .ref h), (1, .int x_1)] → W p l e R9 s m a9 below meth c H locs 0 0 Q9 (F0 m 2 ls [])) ?_ (fun hj_5 => ?_)
  · intro n_3
    induction n_3 with
    | zero => intro x_1 H locs ls fu_4 i_x_1 q_2; exfalso; omega
    | succ n_3 ih_3 =>
      intro x_1 H locs ls fu_4 i_x_1 q_2 hP hS hl
      refine lv_iload_n hx hb dX12_isOpen_2 rfl (lv_at hl 1 rfl) ?_
      refine lv_aload_n hx hb dX12_isOpen_3 rfl (lv_at hl 0 rfl) ?_
      refine gM_61 hx hb htg hown hK hP dX12_isOpen_4 ?_
      have i_6 : 0 ≤ (fv 61).toInt ∧ (fv 61).toInt ≤ 64 := hF_fv 61
      refine lv_icmp_ge (tgt := 29) hx hb dX12_isOpen_7 (by decide) (fun c_7 => ?_) (fun c_7 => ?_)
      · skip
        have k_8 := Int32.le_iff_toInt_le.mp c_7
        refine lv_iconst (v := 0) hx hb dX12_isOpen_29 (by decide) ?_
        have z_9 : (0 : Int32).toInt = 0 := by decide
        exact W.zret (v := 0) hx hb hr (by decide) (fun t ht hW => ⟨⟨0, (fv, wd, ar), rfl, ⟨hF_fv, hA_ar, (fM_rf [] _), (fA_rf [] _), (iv_w (⟨by decide, by decide⟩ : (0 : Int) ≤ (0 : Int32).toInt ∧ (0 : Int32).toInt ≤ 0) (by decide) (by decide)), (Or.inl ⟨rfl, (fun j hj => q_2 j (by omega))⟩), rfl, trivial⟩, ⟨by rw [ht]; exact hP, va_K.moved hW.alike hK⟩⟩, hS.F ht⟩) hS.2.2 dX12_isOpen_30
      · skip
        have i_10 : 0 ≤ x_1.toInt ∧ x_1.toInt ≤ 63 := iv_lt1 i_x_1 i_6 (Int32.not_le.mp c_7)
        have i_11 : 1 ≤ (fv 61).toInt ∧ (fv 61).toInt ≤ 64 := iv_lt2 i_x_1 i_6 (Int32.not_le.mp c_7)
        have k_12 := Int32.lt_iff_toInt_lt.mp (Int32.not_le.mp c_7)
        refine lv_aload_n hx hb dX12_isOpen_10 rfl (lv_at hl 0 rfl) ?_
        refine gM_57 hx hb htg hown hK hP dX12_isOpen_11 ?_
        refine lv_iload_n hx hb dX12_isOpen_14 rfl (lv_at hl 1 rfl) ?_
        refine lM_57 hx hb hK hP (iv_in i_10 (by decide) (by decide)) dX12_isOpen_15 (fun v_13 ev_13 => ?_)
        have i_14 : 0 ≤ v_13.toInt ∧ v_13.toInt ≤ 15 := ev_13 ▸ hA_ar 57 _
        refine lv_bipush (v := 15) hx hb dX12_isOpen_16 (by decide) ?_
        refine lv_icmp_ne (tgt := 23) hx hb dX12_isOpen_18 (by decide) (fun c_15 => ?_) (fun c_15 => ?_)
        · skip
          have i_16 : 0 ≤ v_13.toInt ∧ v_13.toInt ≤ 14 := iv_neh i_14 (by decide) c_15
          have k_17 : ¬ v_13.toInt = 15 := fun q => c_15 (Int32.toInt_inj.mp q)
          obtain ⟨v_18, ev_18⟩ : ∃ z : Int32, z = x_1 + 1 := ⟨_, rfl⟩
          refine lv_iinc (v := v_18) (lv' := [(1, .int v_18), (0, .ref h)]) hx hb dX12_isOpen_23 hl (k := 1) rfl (by rw [ev_18]; rfl) (by decide) rfl (fun ls hl => ?_)
          have t_19 : v_18.toInt = x_1.toInt + 1 ∧ 1 ≤ v_18.toInt ∧ v_18.toInt ≤ 64 := iv_addc ev_18 i_10 (by decide) (by decide) (by decide)
          refine lv_goto (tgt := 2) hx hb dX12_isOpen_26 (by decide) ?_
          exact ih_3 v_18 _ _ ls (by omega) (iv_w t_19.2 (by decide) (by decide)) (fun j hj => by by_cases h9 : (j : Int) < x_1.toInt; exact q_2 j h9; have h8 : j = x_1.toInt.toNat := (by omega); have h7 : ar 57 (x_1.toInt.toNat) = v_13 := ev_13.symm; rw [h8, h7]; omega) hP hS (lv_sub hl [1, 0] rfl)
        · skip
          have i_21 : 15 ≤ v_13.toInt ∧ v_13.toInt ≤ 15 := iv_eq1 (⟨by decide, by decide⟩ : (15 : Int) ≤ (15 : Int32).toInt ∧ (15 : Int32).toInt ≤ 15) c_15
          refine lv_iconst (v := 1) hx hb dX12_isOpen_21 (by decide) ?_
          have z_23 : (1 : Int32).toInt = 1 := by decide
          exact W.zret (v := 1) hx hb hr (by decide) (fun t ht hW => ⟨⟨1, (fv, wd, ar), rfl, ⟨hF_fv, hA_ar, (fM_rf [] _), (fA_rf [] _), (iv_w (⟨by decide, by decide⟩ : (1 : Int) ≤ (1 : Int32).toInt ∧ (1 : Int32).toInt ≤ 1) (by decide) (by decide)), (Or.inr (⟨rfl, ⟨x_1.toInt.toNat, by omega, by show (ar 57 (Int32.toNatClampNeg x_1)).toInt = 15; rw [← ev_13]; omega⟩⟩)), rfl, trivial⟩, ⟨by rw [ht]; exact hP, va_K.moved hW.alike hK⟩⟩, hS.F ht⟩) hS.2.2 dX12_isOpen_22
  · skip
    have z_24 : (0 : Int32).toInt = 0 := by decide
    exact hj_5 65 0 _ _ ls (by first | decide | omega) (iv_w (⟨by decide, by decide⟩ : (0 : Int) ≤ (0 : Int32).toInt ∧ (0 : Int32).toInt ≤ 0) (by decide) (by decide)) (fun j hj => absurd hj (by have h9 : (0 : Int32).toInt = 0 := (by decide); omega)) hP hS (lv_sub hl [1, 0] rfl)

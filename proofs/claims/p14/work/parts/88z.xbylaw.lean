def cd_bX (n n1 : Int) (gfr gfr9 : Nat → Int32) (gln gln9 : Nat → Nat) (glr glr9 : Nat → Nat → Nat → Int32) (a : Int32) (D : List (Int × Int × List (Nat × Nat × Int))) : Prop := (∀ i : Nat, (i : Int) ≤ n → gfr9 i = gfr i ∧ gln9 i = gln i ∧ glr9 i = glr i) ∧ (n1 = n ∨ (n1 = n + 1 ∧ gfr9 n1.toNat = a ∧ cd_Wf (cd_gX (glr9 n1.toNat)) (gln9 n1.toNat) 0 = D ∧ ∀ l ∈ D, cd_gd l))
theorem cd_bX_new {n n1 : Int} {NN : Nat} {gfr : Nat → Int32} {gln : Nat → Nat} {glr : Nat → Nat → Nat → Int32} {a : Int32} {LN : Nat} {LL : Nat → Nat → Int32} {D : List (Int × Int × List (Nat × Nat × Int))} (hN : (NN : Int) = n + 1) (h1 : n1 = n + 1) (hD : cd_Wf (cd_gX LL) LN 0 = D) (hg : ∀ l ∈ D, cd_gd l) : cd_bX n n1 gfr (va_up gfr NN a) gln (va_up gln NN LN) glr (va_up glr NN LL) a D := by
  have e : n1.toNat = NN := by omega
  refine ⟨fun i hi => ?_, Or.inr ⟨h1, ?_, ?_, hg⟩⟩
  · simp only [va_up, if_neg (show ¬ i = NN from by omega)]; exact ⟨trivial, trivial, trivial⟩
  · rw [e]; simp only [va_up, if_true]
  · rw [e]; simp only [va_up, if_true]; exact hD
theorem cd_cut {FV : Nat → Int32} {AR : Nat → Nat → Int32} {LL : Nat → Nat → Int32} {LN CN : Nat} (hec : eC FV AR) (r15 : 0 ≤ (FV 15).toInt) (hL : (FV 15).toNatClampNeg = LN) (hC : (FV 16).toNatClampNeg = CN) (q1 : ∀ i : Nat, (i < LN → LL 1 i = AR 38 i) ∧ (¬ i < LN → LL 1 i = 0)) (q2 : ∀ i : Nat, (i < LN → LL 2 i = AR 39 i) ∧ (¬ i < LN → LL 2 i = 0)) (q3 : ∀ i : Nat, (i < LN → LL 3 i = AR 40 i) ∧ (¬ i < LN → LL 3 i = 0)) (q4 : ∀ i : Nat, (i < CN → LL 4 i = AR 41 i) ∧ (¬ i < CN → LL 4 i = 0)) (q5 : ∀ i : Nat, (i < CN → LL 5 i = AR 42 i) ∧ (¬ i < CN → LL 5 i = 0)) (q6 : ∀ i : Nat, (i < CN → LL 6 i = AR 43 i) ∧ (¬ i < CN → LL 6 i = 0)) : cd_Wf (cd_gX LL) LN 0 = cd_D FV AR := by
  have e1 : (FV 15).toNatClampNeg = (FV 15).toInt.toNat := rfl
  have e2 : (FV 16).toNatClampNeg = (FV 16).toInt.toNat := rfl
  unfold cd_D
  rw [← e1, hL]
  refine cd_Wf_eq _ _ (fun j _ h2 => cd_gX_eq (n := CN) ((q1 j).1 (by omega)) ((q2 j).1 (by omega)) (fun i hi => (q3 i).1 (by omega)) ?_ (fun i hi => ?_))
  · have h9 := hec j (by omega)
    show (AR 40 j).toInt.toNat ≤ CN
    omega
  · rw [(q4 i).1 hi, (q5 i).1 hi, (q6 i).1 hi]
set_option maxHeartbeats 4000000 in
set_option maxRecDepth 100000 in
theorem x_bylawC (l : Launch) (dC : Nat → ClassId) (dI : Nat → Nat → Nat) (sz : Nat) (ob ad : Nat → Nat) (cA : Nat → ClassId) (hd : dX ob ad) (fv : Nat → Int32) (wd : xT) (ar : Nat → Nat → Int32) (hF_fv : rX fv) (hA_ar : rB ar) (tkK tkV tkL : Nat → Nat) (tkB : Nat → Nat → Int32) (tkT : Nat) (tA : Nat → Nat) (hto : tO tA wd.2.1) (a : Int32) (hhx : rd_hx tkL tkB) (tD : Nat) (gla : Nat → Nat) (gfr : Nat → Int32) (gra : Nat → Nat → Nat) (grc : Nat → Nat → ClassId) (gln gcn : Nat → Nat) (glr : Nat → Nat → Nat → Int32) (ce : ClassId) (ef : Nat → Option Nat) (hed0 : (fv 30).toInt = 0 → wd.2.2.2 = tD) (hNE : 0 < (fv 30).toInt → lsN (fun q => q ≠ wd.2.2.2) gla gra (fv 30).toInt) (hGRs : ∀ i : Nat, (i : Int) ≤ (fv 30).toInt → ∀ j : Nat, gra i j < sz) : Met l yX11_bylaw (.code yX11_bylaw cX11_bylaw 3 (some .int) :: lw_good) ({ frames := 38, cells := 8, slots := 365, locals := 900 }) (va_Pc [.ref (ob 0), .int a] (fun U => prX dC dI ob ad cA fv wd ar sz U ∧ tkA ob ad tA sz U ∧ txA ob ad tA tkK tkV tkL tkB tkT sz U ∧ lsA dC dI ob ad gla gfr gra grc gln gcn glr ce ef (fv 30).toInt wd.2.2.2 sz U ∧ va_Z "java/util/ArrayList" "DEFAULTCAPACITY_EMPTY_ELEMENTDATA" "[Ljava/lang/Object;" (.ref tD) (fun q => aX ob ad sz q ∨ (0 < (fv 30).toInt ∧ q = wd.2.2.2)) U U.heap ∧ va_T (.object "java/lang/Object") tD 0 (fun _ => .null) (fun q => aX ob ad sz q ∨ (0 < (fv 30).toInt ∧ q = wd.2.2.2)) U U.heap ∧ va_AO "java/lang/Object" U ∧ va_Nw (.castable RX0 "java/lang/Object") U)) (va_Qi (fun (r : Int32) (u : xS) => rX u.1 ∧ rB u.2.2 ∧ fM [0, 2, 13, 14, 15, 16, 17, 18, 19, 20, 29, 30] fv u.1 ∧ fA [36, 37, 38, 39, 40, 41, 42, 43] ar u.2.2 ∧ (tO tA u.2.1.2.1) ∧ ((u.1 0).toInt = 0) ∧ (rd_by (rd_T (rd_b (ar 1)) ((fv 0).toInt.toNat)) (rd_S (rd_b (ar 1)) ((fv 0).toInt.toNat)) (rd_N (rd_b (ar 1)) ((fv 0).toInt.toNat)) r (u.1 2) (fv 2) (u.1 30) (fv 30) (fv 7) a) ∧ True) (fun (u : xS) (t : State) => enX dC dI ob ad cA u t ∧ ∃ (gla9 : Nat → Nat) (gfr9 : Nat → Int32) (gra9 : Nat → Nat → Nat) (grc9 : Nat → Nat → ClassId) (gln9 gcn9 : Nat → Nat) (glr9 : Nat → Nat → Nat → Int32) (ce9 : ClassId) (ef9 : Nat → Option Nat), lsA dC dI ob ad gla9 gfr9 gra9 grc9 gln9 gcn9 glr9 ce9 ef9 (u.1 30).toInt u.2.1.2.2.2 t.heap.size t ∧ ((u.1 30).toInt = 0 → u.2.1.2.2.2 = tD) ∧ (0 < (u.1 30).toInt → lsN (fun q => q ≠ u.2.1.2.2.2) gla9 gra9 (u.1 30).toInt) ∧ cd_bX (fv 30).toInt (u.1 30).toInt gfr gfr9 gln gln9 glr glr9 a (cd_txt (rd_T (rd_b (ar 1)) ((fv 0).toInt.toNat)) (rd_N (rd_b (ar 1)) ((fv 0).toInt.toNat))) ∧ ∀ P : Nat → Prop, (∀ q, sz ≤ q → q < t.heap.size → P q) → lsN P gla gra (fv 30).toInt → (0 < (fv 30).toInt → P wd.2.2.2) → lsN P gla9 gra9 (u.1 30).toInt ∧ (0 < (u.1 30).toInt → P u.2.1.2.2.2)) (fun q => aX ob ad sz q ∨ (0 < (fv 30).toInt ∧ q = wd.2.2.2))) 8 365 (fun q => aX ob ad sz q ∨ (0 < (fv 30).toInt ∧ q = wd.2.2.2)) := by
  refine Met.ofW (cc := cX11_bylaw) (maxL := 3) (ret := (some .int)) (by decide) rfl ?_
  intro p e s m args below meth c s₁ B hml hv
  obtain ⟨rfl, ⟨hsz, hP, hK⟩, hE, hX, hG, hZ_dce, hT_D, hAO_O, hN_L⟩ := hv
  have hx := B.exec
  have hb := B.bytes
  have hr := B.returns
  have hts := atoms_spec (ws := (.code yX11_bylaw cX11_bylaw 3 (some .int) :: lw_good)) B.pre
  have htg : ∀ w ∈ lw_good, w.before _ s = true := fun w hw => hts w (List.mem_cons_of_mem _ hw)
  have hown : s.vm.findClass RX11 = some m.cls := findClass_of_methodNamed B.named
  have hlocks := B.notSynchronized
  subst hsz
  have hGR := hGRs
  have hS : va_S (aX ob ad s.heap.size) s.heap s.heap [] := va_S.rf
  have hl := lv_entry ([.ref (ob 0), .int a]) (n := 3) (Nat.le_of_ble_eq_true rfl)
  rw [lg_entry_eq]
  generalize (lg_sl ([.ref (ob 0), .int a]) ++ List.replicate (3 - (lg_sl ([.ref (ob 0), .int a])).length) Slot.unset).toArray = ls at hl ⊢
  have hl : lv_has ls 3 [(0, .ref (ob 0)), (1, .int a)] := hl
  refine lv_sipush (v := (-1000)) hx hb dX11_bylaw_0 (by decide) ?_
  refine lv_istore_n (lv' := [(2, .int (-1000)), (0, .ref (ob 0)), (1, .int a)]) hx hb dX11_bylaw_3 rfl hl (by decide) rfl (fun ls hl => ?_)
  refine lv_aload_n hx hb dX11_bylaw_4 rfl (lv_at hl 1 rfl) ?_
  refine gX_X11_16 hx hb htg hown hK hP dX11_bylaw_5 ?_
  refine gX_X11_154 hx hb htg hown hK hP dX11_bylaw_8 ?_
  have z_1 : 0 ≤ (fv 30).toInt ∧ (fv 30).toInt ≤ 10 := hF_fv 30
  refine va_calli (va_runV (As := []) (rest := []) ⟨hx, hb, hml, hown, hts⟩ (x_alsize l dC dI s.heap.size ob ad cA hd fv wd ar hF_fv hA_ar) (cwV 0 hts (gV kw_4_5 kw_4_6 kw_4_7 kw_1_9 kw_4_8) rfl rfl rfl (by decide +kernel) ⟨Nat.le_of_ble_eq_true rfl, Nat.le_of_ble_eq_true rfl⟩) ⟨fun a U g mk q => ⟨q.1, q.2.1, q.2.2.1, va_K.moved (u := U) (U := U.calling g mk a) (Vm.Alike.refl U.vm) q.2.2.2⟩, va_recv hK hP (ci := 0) (q0 := 11) rfl rfl, fun U hU hW => ⟨rfl, by rw [hU], by rw [hU]; exact hP, va_K.moved hW.alike hK⟩⟩ rfl rfl hl.1 rfl (lv_room (Nat.le_of_ble_eq_true rfl)) dX11_bylaw_11 ⟨Nat.le_of_ble_eq_true rfl, Nat.le_of_ble_eq_true rfl⟩) hS (fun q _ h9 => aX_up hS q h9) (aX_up hS) (fun r_2 u t H1 locs ht _ hw hB _ hk1 hS => ?_)
  obtain ⟨fv_5, wd_6, ar_7⟩ := u
  obtain ⟨hF_fv_5, hA_ar_7, fr_8, fa_9, wf_10, p_3, p_4, -⟩ := hw
  have wf_10 : wd_6.2 = wd.2 := wf_10
  have hP : va_P (dC, dI) vwCl (wsX ob ad cA fv_5 wd_6 ar_7) H1 := by have h9 := hB.1; rw [ht] at h9; exact h9
  have fr_8 : fM [] fv fv_5 := fr_8
  have fa_9 : fA [] ar ar_7 := fa_9
  have p_4 : r_2.toInt = (fv 30).toInt := p_4
  generalize H1 = H at hP hS ⊢
  refine lv_bipush (v := 10) hx hb dX11_bylaw_14 (by decide) ?_
  refine lv_icmp_ge (tgt := 116) hx hb dX11_bylaw_16 (by decide) (fun c_11 => ?_) (fun c_11 => ?_)
  · skip
    have i_12 : 10 ≤ r_2.toInt ∧ r_2.toInt ≤ 10 := iv_le2 (⟨by decide, by decide⟩ : (10 : Int) ≤ (10 : Int32).toInt ∧ (10 : Int32).toInt ≤ 10) p_3 c_11
    refine lv_aload_n hx hb dX11_bylaw_116 rfl (lv_at hl 1 rfl) ?_
    refine lv_iconst (v := 0) hx hb dX11_bylaw_117 (by decide) ?_
    refine pX_X11_50 hx hb htg hown hK hP hS hd dX11_bylaw_118 (fun H locs fv_13 efv_13 hP hS => ?_)
    have hF_fv_13 : rX fv_13 := rX_put hF_fv_5 efv_13 (iv_w (⟨by decide, by decide⟩ : (0 : Int) ≤ (0 : Int32).toInt ∧ (0 : Int32).toInt ≤ 0) (by decide) (by decide))
    refine lv_iload_n hx hb dX11_bylaw_121 rfl (lv_at hl 0 rfl) ?_
    have z_14 : ((-1000) : Int32).toInt = (-1000) := by decide
    refine W.widen (k := 8) (n := 365) (Nat.le_of_ble_eq_true rfl) (Nat.le_of_ble_eq_true rfl) ?_
    exact W.iret (v := (-1000)) hx hb hr (fun t ht hW => ⟨⟨(-1000), (fv_13, wd_6, ar_7), rfl, ⟨hF_fv_13, hA_ar_7, (fM_put (fM_call (fM_rf [0, 2, 13, 14, 15, 16, 17, 18, 19, 20, 29, 30] _) fr_8 (by decide)) efv_13 (by decide)), (fA_call (fA_rf [36, 37, 38, 39, 40, 41, 42, 43] _) fa_9 (by decide)), (show tO tA wd_6.2.1 from (tO_w hto wf_10)), (show (fv_13 0).toInt = 0 from by rw [show fv_13 0 = (0 : Int32) from (congrFun efv_13 0)]; decide), (show rd_by (rd_T (rd_b (ar 1)) ((fv 0).toInt.toNat)) (rd_S (rd_b (ar 1)) ((fv 0).toInt.toNat)) (rd_N (rd_b (ar 1)) ((fv 0).toInt.toNat)) ((-1000) : Int32) (fv_13 2) (fv 2) (fv_13 30) (fv 30) (fv 7) a from by exact Or.inl ⟨by omega, rfl, ((fM_put (fM_call (fM_rf [0] _) fr_8 (by decide)) efv_13 (by decide)) 2 rfl), ((fM_put (fM_call (fM_rf [0] _) fr_8 (by decide)) efv_13 (by decide)) 30 rfl)⟩), trivial⟩, ⟨⟨by rw [ht]; exact hP, va_K.moved hW.alike hK⟩, ⟨gla, gfr, gra, grc, gln, gcn, glr, ce, ef, (show lsA dC dI ob ad gla gfr gra grc gln gcn glr ce ef (fv_13 30).toInt wd_6.2.2.2 t.heap.size t from by rw [ht]; exact ls_eq (ls_pass hG hS ht hW.alike) (congrArg Int32.toInt ((congrFun efv_13 30).trans ((fr_8 30 rfl)))) (congrArg (fun z => z.2) (congrArg (fun z => z.2) wf_10))), (show (fv_13 30).toInt = 0 → wd_6.2.2.2 = tD from by rw [show fv_13 30 = fv 30 from ((congrFun efv_13 30).trans ((fr_8 30 rfl))), show wd_6.2.2.2 = wd.2.2.2 from congrArg (fun z => z.2) (congrArg (fun z => z.2) wf_10)]; exact hed0), (show 0 < (fv_13 30).toInt → lsN (fun q => q ≠ wd_6.2.2.2) gla gra (fv_13 30).toInt from by rw [show fv_13 30 = fv 30 from ((congrFun efv_13 30).trans ((fr_8 30 rfl))), show wd_6.2.2.2 = wd.2.2.2 from congrArg (fun z => z.2) (congrArg (fun z => z.2) wf_10)]; exact hNE), (show cd_bX (fv 30).toInt (fv_13 30).toInt gfr gfr gln gln glr glr a (cd_txt (rd_T (rd_b (ar 1)) ((fv 0).toInt.toNat)) (rd_N (rd_b (ar 1)) ((fv 0).toInt.toNat))) from ⟨fun i _ => ⟨rfl, rfl, rfl⟩, Or.inl (congrArg Int32.toInt ((congrFun efv_13 30).trans ((fr_8 30 rfl))))⟩), fun P _ hp2 hp3 => (show lsN P gla gra (fv_13 30).toInt ∧ (0 < (fv_13 30).toInt → P wd_6.2.2.2) from by rw [show fv_13 30 = fv 30 from ((congrFun efv_13 30).trans ((fr_8 30 rfl))), show wd_6.2.2.2 = wd.2.2.2 from congrArg (fun z => z.2) (congrArg (fun z => z.2) wf_10)]; exact ⟨hp2, hp3⟩)⟩⟩⟩, (my_Sw (B := (fun q => aX ob ad s.heap.size q ∨ (0 < (fv 30).toInt ∧ q = wd.2.2.2))) hS (fun q h => Or.inl h)).F ht⟩) (fun l9 h9 => Or.inl (hS.2.2 l9 h9)) dX11_bylaw_122
  · skip
    have i_15 : 0 ≤ r_2.toInt ∧ r_2.toInt ≤ 9 := iv_lt1 p_3 (⟨by decide, by decide⟩ : (10 : Int) ≤ (10 : Int32).toInt ∧ (10 : Int32).toInt ≤ 10) (Int32.not_le.mp c_11)
    refine lv_iload_n hx hb dX11_bylaw_19 rfl (lv_at hl 2 rfl) ?_
    refine lv_aload_n hx hb dX11_bylaw_20 rfl (lv_at hl 1 rfl) ?_
    refine gX_X11_16 hx hb htg hown hK hP dX11_bylaw_21 ?_
    refine gX_X11_57 hx hb htg hown hK hP dX11_bylaw_24 ?_
    refine my_ti (y := fv 7) ((fr_8 7 rfl)) ?_
    have i_16 : 0 ≤ (fv 7).toInt ∧ (fv 7).toInt ≤ 199 := hF_fv 7
    refine lv_icmp_lt (tgt := 116) hx hb dX11_bylaw_27 (by decide) (fun c_17 => ?_) (fun c_17 => ?_)
    · skip
      have i_18 : (-2147483648) ≤ a.toInt ∧ a.toInt ≤ 198 := iv_lt1 (iv_any a) i_16 c_17
      have k_19 := Int32.lt_iff_toInt_lt.mp c_17
      refine lv_aload_n hx hb dX11_bylaw_116 rfl (lv_at hl 1 rfl) ?_
      refine lv_iconst (v := 0) hx hb dX11_bylaw_117 (by decide) ?_
      refine pX_X11_50 hx hb htg hown hK hP hS hd dX11_bylaw_118 (fun H locs fv_20 efv_20 hP hS => ?_)
      have hF_fv_20 : rX fv_20 := rX_put hF_fv_5 efv_20 (iv_w (⟨by decide, by decide⟩ : (0 : Int) ≤ (0 : Int32).toInt ∧ (0 : Int32).toInt ≤ 0) (by decide) (by decide))
      refine lv_iload_n hx hb dX11_bylaw_121 rfl (lv_at hl 0 rfl) ?_
      have z_21 : ((-1000) : Int32).toInt = (-1000) := by decide
      refine W.widen (k := 8) (n := 365) (Nat.le_of_ble_eq_true rfl) (Nat.le_of_ble_eq_true rfl) ?_
      exact W.iret (v := (-1000)) hx hb hr (fun t ht hW => ⟨⟨(-1000), (fv_20, wd_6, ar_7), rfl, ⟨hF_fv_20, hA_ar_7, (fM_put (fM_call (fM_rf [0, 2, 13, 14, 15, 16, 17, 18, 19, 20, 29, 30] _) fr_8 (by decide)) efv_20 (by decide)), (fA_call (fA_rf [36, 37, 38, 39, 40, 41, 42, 43] _) fa_9 (by decide)), (show tO tA wd_6.2.1 from (tO_w hto wf_10)), (show (fv_20 0).toInt = 0 from by rw [show fv_20 0 = (0 : Int32) from (congrFun efv_20 0)]; decide), (show rd_by (rd_T (rd_b (ar 1)) ((fv 0).toInt.toNat)) (rd_S (rd_b (ar 1)) ((fv 0).toInt.toNat)) (rd_N (rd_b (ar 1)) ((fv 0).toInt.toNat)) ((-1000) : Int32) (fv_20 2) (fv 2) (fv_20 30) (fv 30) (fv 7) a from by exact Or.inl ⟨by omega, rfl, ((fM_put (fM_call (fM_rf [0] _) fr_8 (by decide)) efv_20 (by decide)) 2 rfl), ((fM_put (fM_call (fM_rf [0] _) fr_8 (by decide)) efv_20 (by decide)) 30 rfl)⟩), trivial⟩, ⟨⟨by rw [ht]; exact hP, va_K.moved hW.alike hK⟩, ⟨gla, gfr, gra, grc, gln, gcn, glr, ce, ef, (show lsA dC dI ob ad gla gfr gra grc gln gcn glr ce ef (fv_20 30).toInt wd_6.2.2.2 t.heap.size t from by rw [ht]; exact ls_eq (ls_pass hG hS ht hW.alike) (congrArg Int32.toInt ((congrFun efv_20 30).trans ((fr_8 30 rfl)))) (congrArg (fun z => z.2) (congrArg (fun z => z.2) wf_10))), (show (fv_20 30).toInt = 0 → wd_6.2.2.2 = tD from by rw [show fv_20 30 = fv 30 from ((congrFun efv_20 30).trans ((fr_8 30 rfl))), show wd_6.2.2.2 = wd.2.2.2 from congrArg (fun z => z.2) (congrArg (fun z => z.2) wf_10)]; exact hed0), (show 0 < (fv_20 30).toInt → lsN (fun q => q ≠ wd_6.2.2.2) gla gra (fv_20 30).toInt from by rw [show fv_20 30 = fv 30 from ((congrFun efv_20 30).trans ((fr_8 30 rfl))), show wd_6.2.2.2 = wd.2.2.2 from congrArg (fun z => z.2) (congrArg (fun z => z.2) wf_10)]; exact hNE), (show cd_bX (fv 30).toInt (fv_20 30).toInt gfr gfr gln gln glr glr a (cd_txt (rd_T (rd_b (ar 1)) ((fv 0).toInt.toNat)) (rd_N (rd_b (ar 1)) ((fv 0).toInt.toNat))) from ⟨fun i _ => ⟨rfl, rfl, rfl⟩, Or.inl (congrArg Int32.toInt ((congrFun efv_20 30).trans ((fr_8 30 rfl))))⟩), fun P _ hp2 hp3 => (show lsN P gla gra (fv_20 30).toInt ∧ (0 < (fv_20 30).toInt → P wd_6.2.2.2) from by rw [show fv_20 30 = fv 30 from ((congrFun efv_20 30).trans ((fr_8 30 rfl))), show wd_6.2.2.2 = wd.2.2.2 from congrArg (fun z => z.2) (congrArg (fun z => z.2) wf_10)]; exact ⟨hp2, hp3⟩)⟩⟩⟩, (my_Sw (B := (fun q => aX ob ad s.heap.size q ∨ (0 < (fv 30).toInt ∧ q = wd.2.2.2))) hS (fun q h => Or.inl h)).F ht⟩) (fun l9 h9 => Or.inl (hS.2.2 l9 h9)) dX11_bylaw_122
    · skip
      have i_22 : 0 ≤ a.toInt ∧ a.toInt ≤ 2147483647 := iv_le2 i_16 (iv_any a) (Int32.not_lt.mp c_17)
      have k_23 := Int32.le_iff_toInt_le.mp (Int32.not_lt.mp c_17)
      refine lv_iload_n hx hb dX11_bylaw_30 rfl (lv_at hl 2 rfl) ?_
      refine lv_sipush (v := 199) hx hb dX11_bylaw_31 (by decide) ?_
      refine lv_icmp_gt (tgt := 116) hx hb dX11_bylaw_34 (by decide) (fun c_24 => ?_) (fun c_24 => ?_)
      · skip
        have i_25 : 200 ≤ a.toInt ∧ a.toInt ≤ 2147483647 := iv_lt2 (⟨by decide, by decide⟩ : (199 : Int) ≤ (199 : Int32).toInt ∧ (199 : Int32).toInt ≤ 199) i_22 c_24
        refine lv_aload_n hx hb dX11_bylaw_116 rfl (lv_at hl 1 rfl) ?_
        refine lv_iconst (v := 0) hx hb dX11_bylaw_117 (by decide) ?_
        refine pX_X11_50 hx hb htg hown hK hP hS hd dX11_bylaw_118 (fun H locs fv_26 efv_26 hP hS => ?_)
        have hF_fv_26 : rX fv_26 := rX_put hF_fv_5 efv_26 (iv_w (⟨by decide, by decide⟩ : (0 : Int) ≤ (0 : Int32).toInt ∧ (0 : Int32).toInt ≤ 0) (by decide) (by decide))
        refine lv_iload_n hx hb dX11_bylaw_121 rfl (lv_at hl 0 rfl) ?_
        have z_27 : ((-1000) : Int32).toInt = (-1000) := by decide
        refine W.widen (k := 8) (n := 365) (Nat.le_of_ble_eq_true rfl) (Nat.le_of_ble_eq_true rfl) ?_
        exact W.iret (v := (-1000)) hx hb hr (fun t ht hW => ⟨⟨(-1000), (fv_26, wd_6, ar_7), rfl, ⟨hF_fv_26, hA_ar_7, (fM_put (fM_call (fM_rf [0, 2, 13, 14, 15, 16, 17, 18, 19, 20, 29, 30] _) fr_8 (by decide)) efv_26 (by decide)), (fA_call (fA_rf [36, 37, 38, 39, 40, 41, 42, 43] _) fa_9 (by decide)), (show tO tA wd_6.2.1 from (tO_w hto wf_10)), (show (fv_26 0).toInt = 0 from by rw [show fv_26 0 = (0 : Int32) from (congrFun efv_26 0)]; decide), (show rd_by (rd_T (rd_b (ar 1)) ((fv 0).toInt.toNat)) (rd_S (rd_b (ar 1)) ((fv 0).toInt.toNat)) (rd_N (rd_b (ar 1)) ((fv 0).toInt.toNat)) ((-1000) : Int32) (fv_26 2) (fv 2) (fv_26 30) (fv 30) (fv 7) a from by exact Or.inl ⟨by omega, rfl, ((fM_put (fM_call (fM_rf [0] _) fr_8 (by decide)) efv_26 (by decide)) 2 rfl), ((fM_put (fM_call (fM_rf [0] _) fr_8 (by decide)) efv_26 (by decide)) 30 rfl)⟩), trivial⟩, ⟨⟨by rw [ht]; exact hP, va_K.moved hW.alike hK⟩, ⟨gla, gfr, gra, grc, gln, gcn, glr, ce, ef, (show lsA dC dI ob ad gla gfr gra grc gln gcn glr ce ef (fv_26 30).toInt wd_6.2.2.2 t.heap.size t from by rw [ht]; exact ls_eq (ls_pass hG hS ht hW.alike) (congrArg Int32.toInt ((congrFun efv_26 30).trans ((fr_8 30 rfl)))) (congrArg (fun z => z.2) (congrArg (fun z => z.2) wf_10))), (show (fv_26 30).toInt = 0 → wd_6.2.2.2 = tD from by rw [show fv_26 30 = fv 30 from ((congrFun efv_26 30).trans ((fr_8 30 rfl))), show wd_6.2.2.2 = wd.2.2.2 from congrArg (fun z => z.2) (congrArg (fun z => z.2) wf_10)]; exact hed0), (show 0 < (fv_26 30).toInt → lsN (fun q => q ≠ wd_6.2.2.2) gla gra (fv_26 30).toInt from by rw [show fv_26 30 = fv 30 from ((congrFun efv_26 30).trans ((fr_8 30 rfl))), show wd_6.2.2.2 = wd.2.2.2 from congrArg (fun z => z.2) (congrArg (fun z => z.2) wf_10)]; exact hNE), (show cd_bX (fv 30).toInt (fv_26 30).toInt gfr gfr gln gln glr glr a (cd_txt (rd_T (rd_b (ar 1)) ((fv 0).toInt.toNat)) (rd_N (rd_b (ar 1)) ((fv 0).toInt.toNat))) from ⟨fun i _ => ⟨rfl, rfl, rfl⟩, Or.inl (congrArg Int32.toInt ((congrFun efv_26 30).trans ((fr_8 30 rfl))))⟩), fun P _ hp2 hp3 => (show lsN P gla gra (fv_26 30).toInt ∧ (0 < (fv_26 30).toInt → P wd_6.2.2.2) from by rw [show fv_26 30 = fv 30 from ((congrFun efv_26 30).trans ((fr_8 30 rfl))), show wd_6.2.2.2 = wd.2.2.2 from congrArg (fun z => z.2) (congrArg (fun z => z.2) wf_10)]; exact ⟨hp2, hp3⟩)⟩⟩⟩, (my_Sw (B := (fun q => aX ob ad s.heap.size q ∨ (0 < (fv 30).toInt ∧ q = wd.2.2.2))) hS (fun q h => Or.inl h)).F ht⟩) (fun l9 h9 => Or.inl (hS.2.2 l9 h9)) dX11_bylaw_122
      · skip
        have i_28 : 0 ≤ a.toInt ∧ a.toInt ≤ 199 := iv_le1 i_22 (⟨by decide, by decide⟩ : (199 : Int) ≤ (199 : Int32).toInt ∧ (199 : Int32).toInt ≤ 199) (Int32.not_lt.mp c_24)
        refine lv_aload_n hx hb dX11_bylaw_37 rfl (lv_at hl 1 rfl) ?_
        refine gX_X11_23 hx hb htg hown hK hP dX11_bylaw_38 ?_
        refine lv_aload_n hx hb dX11_bylaw_41 rfl (lv_at hl 1 rfl) ?_
        refine gX_X11_9 hx hb htg hown hK hP dX11_bylaw_42 ?_
        refine lv_aload_n hx hb dX11_bylaw_45 rfl (lv_at hl 1 rfl) ?_
        refine gX_X11_50 hx hb htg hown hK hP dX11_bylaw_46 ?_
        refine my_ti (y := fv 0) ((fr_8 0 rfl)) ?_
        have i_29 : 0 ≤ (fv 0).toInt ∧ (fv 0).toInt ≤ 340 := hF_fv 0
        refine va_callv (va_runV (As := [.ref (ad 1), .int (fv 0)]) (rest := []) ⟨hx, hb, hml, hown, hts⟩ (x_readC l dC dI H.size ob ad cA hd fv_5 wd_6 ar_7 hF_fv_5 hA_ar_7 tkK tkV tkL tkB tkT tA (tO_w hto wf_10) (fv 0) i_29 hhx) (cwV 2 hts (gV kw_4_9 kw_4_10 kw_4_11 kw_1_11 kw_4_12) rfl rfl rfl (by decide +kernel) ⟨Nat.le_of_ble_eq_true rfl, Nat.le_of_ble_eq_true rfl⟩) ⟨fun a U g mk q => ⟨q.1, ⟨q.2.1.1, q.2.1.2.1, va_K.moved (u := U) (U := U.calling g mk a) (Vm.Alike.refl U.vm) q.2.1.2.2⟩, tk_mv (U := U.calling g mk a) rfl (Vm.Alike.refl U.vm) q.2.2.1, tx_mv (U := U.calling g mk a) rfl (Vm.Alike.refl U.vm) q.2.2.2⟩, va_recv hK hP (ci := 4) (q0 := 6) rfl rfl, fun U hU hW => ⟨rfl, ⟨by rw [hU], by rw [hU]; exact hP, va_K.moved hW.alike hK⟩, tk_pass hE hS hU hW.alike, tx_pass hX hS hU hW.alike⟩⟩ rfl rfl hl.1 rfl (lv_room (Nat.le_of_ble_eq_true rfl)) dX11_bylaw_49 ⟨Nat.le_of_ble_eq_true rfl, Nat.le_of_ble_eq_true rfl⟩) hS (fun q _ h9 => aX_up hS q h9) (aX_up hS) (fun u t H1 locs ht _ hw hB _ hk1 hS => ?_)
        obtain ⟨fv_36, wd_37, ar_38⟩ := u
        obtain ⟨hF_fv_36, hA_ar_38, fr_39, fa_40, p_31, p_32, p_33, p_34, p_35, -⟩ := hw
        have hP : va_P (dC, dI) vwCl (wsX ob ad cA fv_36 wd_37 ar_38) H1 := by have h9 := hB.1; rw [ht] at h9; exact h9
        have fr_39 : fM [13, 14, 15, 16, 17, 18, 19, 20] fv_5 fv_36 := fr_39
        have fa_40 : fA [36, 37, 38, 39, 40, 41, 42, 43] ar_7 ar_38 := fa_40
        have p_31 : tO tA wd_37.2.1 := p_31
        have p_32 : wd_37.2.2 = wd_6.2.2 := p_32
        have p_33 : eC fv_36 ar_38 := p_33
        have p_34 : rd_z (rd_T (rd_b (ar_7 1)) (fv 0).toInt.toNat) (rd_S (rd_b (ar_7 1)) (fv 0).toInt.toNat) (rd_N (rd_b (ar_7 1)) (fv 0).toInt.toNat) (fv_36 19) (fv_36 20) (fv_36 15) := p_34
        have p_35 : (fv_36 19).toInt = 0 → cd_D fv_36 ar_38 = cd_txt (rd_T (rd_b (ar_7 1)) (fv 0).toInt.toNat) (rd_N (rd_b (ar_7 1)) (fv 0).toInt.toNat) ∧ ∀ l9 ∈ cd_D fv_36 ar_38, cd_gd l9 := p_35
        generalize H1 = H at hP hS ⊢
        have hz59 : rd_z (rd_T (rd_b (ar 1)) ((fv 0).toInt.toNat)) (rd_S (rd_b (ar 1)) ((fv 0).toInt.toNat)) (rd_N (rd_b (ar 1)) ((fv 0).toInt.toNat)) (fv_36 19) (fv_36 20) (fv_36 15) := by have h9 := p_34; rw [show ar_7 1 = ar 1 from ((fA_call (fA_rf [] _) fa_9 (by decide)) 1 rfl)] at h9; exact h9
        have h159 : (0 : Int) ≤ (fv_36 15).toInt := (show (0 : Int) ≤ (fv_36 15).toInt ∧ (fv_36 15).toInt ≤ 16 from hF_fv_36 15).1
        have hm19 : ((-1) : Int32).toInt = -1 := by decide
        have hzd59 : (fv_36 19).toInt = 0 → cd_D fv_36 ar_38 = cd_txt (rd_T (rd_b (ar 1)) ((fv 0).toInt.toNat)) (rd_N (rd_b (ar 1)) ((fv 0).toInt.toNat)) ∧ ∀ l9 ∈ cd_D fv_36 ar_38, cd_gd l9 := by have h9 := p_35; rw [show ar_7 1 = ar 1 from ((fA_call (fA_rf [] _) fa_9 (by decide)) 1 rfl)] at h9; exact h9
        refine lv_aload_n hx hb dX11_bylaw_52 rfl (lv_at hl 1 rfl) ?_
        refine lv_aload_n hx hb dX11_bylaw_53 rfl (lv_at hl 1 rfl) ?_
        refine gX_X11_23 hx hb htg hown hK hP dX11_bylaw_54 ?_
        refine gX_X11_168 hx hb htg hown hK hP dX11_bylaw_57 ?_
        refine pX_X11_171 hx hb htg hown hK hP hS hd dX11_bylaw_60 (fun H locs fv_42 efv_42 hP hS => ?_)
        have hF_fv_42 : rX fv_42 := rX_put hF_fv_36 efv_42 (iv_any (fv_36 19))
        refine lv_aload_n hx hb dX11_bylaw_63 rfl (lv_at hl 1 rfl) ?_
        refine gX_X11_171 hx hb htg hown hK hP dX11_bylaw_64 ?_
        refine my_ti (y := fv_36 19) ((congrFun efv_42 2)) ?_
        refine my_cut (P := fun R9 a9 Q9 => ∀ (x_51 : Int32) (H : Heap) (locs : List Loc) (ls : Array Slot), (((fv_36 19).toInt = 0 ∧ x_51.toInt = (fv_36 15).toInt) ∨ (¬ (fv_36 19).toInt = 0 ∧ x_51.toInt = -1 - (fv_36 20).toInt)) → va_P (dC, dI) vwCl (wsX ob ad cA fv_42 wd_37 ar_38) H → va_S (aX ob ad s.heap.size) s.heap H locs → lv_has ls 3 [(0, .ref (ob 0)), (1, .int a)] → W p l e R9 s m a9 below meth c H locs 0 0 Q9 (F0 m 89 ls [.int x_51])) ?_ (fun hj_53 => ?_)
        · intro x_51 H locs ls q_52 hP hS hl
          refine lv_istore_n (lv' := [(2, .int x_51), (0, .ref (ob 0)), (1, .int a)]) hx hb dX11_bylaw_89 rfl hl (by decide) rfl (fun ls hl => ?_)
          refine lv_aload_n hx hb dX11_bylaw_90 rfl (lv_at hl 1 rfl) ?_
          refine gX_X11_171 hx hb htg hown hK hP dX11_bylaw_91 ?_
          refine my_ti (y := fv_36 19) ((congrFun efv_42 2)) ?_
          refine lv_if_ne (tgt := 116) hx hb dX11_bylaw_94 (by decide) (fun c_54 => ?_) (fun c_54 => ?_)
          · skip
            have k_55 : ¬ (fv_36 19).toInt = 0 := fun q => c_54 (Int32.toInt_inj.mp q)
            refine lv_aload_n hx hb dX11_bylaw_116 rfl (lv_at hl 1 rfl) ?_
            refine lv_iconst (v := 0) hx hb dX11_bylaw_117 (by decide) ?_
            refine pX_X11_50 hx hb htg hown hK hP hS hd dX11_bylaw_118 (fun H locs fv_56 efv_56 hP hS => ?_)
            have hF_fv_56 : rX fv_56 := rX_put hF_fv_42 efv_56 (iv_w (⟨by decide, by decide⟩ : (0 : Int) ≤ (0 : Int32).toInt ∧ (0 : Int32).toInt ≤ 0) (by decide) (by decide))
            refine lv_iload_n hx hb dX11_bylaw_121 rfl (lv_at hl 0 rfl) ?_
            refine W.widen (k := 8) (n := 365) (Nat.le_of_ble_eq_true rfl) (Nat.le_of_ble_eq_true rfl) ?_
            exact W.iret (v := x_51) hx hb hr (fun t ht hW => ⟨⟨x_51, (fv_56, wd_37, ar_38), rfl, ⟨hF_fv_56, hA_ar_38, (fM_put (fM_put (fM_call (fM_call (fM_rf [0, 2, 13, 14, 15, 16, 17, 18, 19, 20, 29, 30] _) fr_8 (by decide)) fr_39 (by decide)) efv_42 (by decide)) efv_56 (by decide)), (fA_call (fA_call (fA_rf [36, 37, 38, 39, 40, 41, 42, 43] _) fa_9 (by decide)) fa_40 (by decide)), (show tO tA wd_37.2.1 from p_31), (show (fv_56 0).toInt = 0 from by rw [show fv_56 0 = (0 : Int32) from (congrFun efv_56 0)]; decide), (show rd_by (rd_T (rd_b (ar 1)) ((fv 0).toInt.toNat)) (rd_S (rd_b (ar 1)) ((fv 0).toInt.toNat)) (rd_N (rd_b (ar 1)) ((fv 0).toInt.toNat)) x_51 (fv_56 2) (fv 2) (fv_56 30) (fv 30) (fv 7) a from by have w29 : (fv_56 2).toInt = (fv_36 19).toInt := congrArg Int32.toInt ((congrFun efv_56 2).trans ((congrFun efv_42 2))); rcases hz59 with ⟨a9, q9, b9⟩ | ⟨a9, b9, d9⟩; exfalso; omega; exact Or.inr ⟨fun w => by omega, Or.inr ⟨by omega, by omega, by omega, ((fM_put (fM_put (fM_call (fM_call (fM_rf [0, 2, 13, 14, 15, 16, 17, 18, 19, 20] _) fr_8 (by decide)) fr_39 (by decide)) efv_42 (by decide)) efv_56 (by decide)) 30 rfl)⟩⟩), trivial⟩, ⟨⟨by rw [ht]; exact hP, va_K.moved hW.alike hK⟩, ⟨gla, gfr, gra, grc, gln, gcn, glr, ce, ef, (show lsA dC dI ob ad gla gfr gra grc gln gcn glr ce ef (fv_56 30).toInt wd_37.2.2.2 t.heap.size t from by rw [ht]; exact ls_eq (ls_pass hG hS ht hW.alike) (congrArg Int32.toInt ((congrFun efv_56 30).trans ((congrFun efv_42 30).trans ((fr_39 30 rfl).trans ((fr_8 30 rfl)))))) (congrArg (fun z => z.2) (p_32.trans (congrArg (fun z => z.2) wf_10)))), (show (fv_56 30).toInt = 0 → wd_37.2.2.2 = tD from by rw [show fv_56 30 = fv 30 from ((congrFun efv_56 30).trans ((congrFun efv_42 30).trans ((fr_39 30 rfl).trans ((fr_8 30 rfl))))), show wd_37.2.2.2 = wd.2.2.2 from congrArg (fun z => z.2) (p_32.trans (congrArg (fun z => z.2) wf_10))]; exact hed0), (show 0 < (fv_56 30).toInt → lsN (fun q => q ≠ wd_37.2.2.2) gla gra (fv_56 30).toInt from by rw [show fv_56 30 = fv 30 from ((congrFun efv_56 30).trans ((congrFun efv_42 30).trans ((fr_39 30 rfl).trans ((fr_8 30 rfl))))), show wd_37.2.2.2 = wd.2.2.2 from congrArg (fun z => z.2) (p_32.trans (congrArg (fun z => z.2) wf_10))]; exact hNE), (show cd_bX (fv 30).toInt (fv_56 30).toInt gfr gfr gln gln glr glr a (cd_txt (rd_T (rd_b (ar 1)) ((fv 0).toInt.toNat)) (rd_N (rd_b (ar 1)) ((fv 0).toInt.toNat))) from ⟨fun i _ => ⟨rfl, rfl, rfl⟩, Or.inl (congrArg Int32.toInt ((congrFun efv_56 30).trans ((congrFun efv_42 30).trans ((fr_39 30 rfl).trans ((fr_8 30 rfl))))))⟩), fun P _ hp2 hp3 => (show lsN P gla gra (fv_56 30).toInt ∧ (0 < (fv_56 30).toInt → P wd_37.2.2.2) from by rw [show fv_56 30 = fv 30 from ((congrFun efv_56 30).trans ((congrFun efv_42 30).trans ((fr_39 30 rfl).trans ((fr_8 30 rfl))))), show wd_37.2.2.2 = wd.2.2.2 from congrArg (fun z => z.2) (p_32.trans (congrArg (fun z => z.2) wf_10))]; exact ⟨hp2, hp3⟩)⟩⟩⟩, (my_Sw (B := (fun q => aX ob ad s.heap.size q ∨ (0 < (fv 30).toInt ∧ q = wd.2.2.2))) hS (fun q h => Or.inl h)).F ht⟩) (fun l9 h9 => Or.inl (hS.2.2 l9 h9)) dX11_bylaw_122
          · skip
            have i_57 : 0 ≤ (fv_36 19).toInt ∧ (fv_36 19).toInt ≤ 0 := iv_eq1 (⟨by decide, by decide⟩ : (0 : Int) ≤ (0 : Int32).toInt ∧ (0 : Int32).toInt ≤ 0) c_54
            refine lv_aload_n hx hb dX11_bylaw_97 rfl (lv_at hl 1 rfl) ?_
            refine gX_X11_16 hx hb htg hown hK hP dX11_bylaw_98 ?_
            refine gX_X11_154 hx hb htg hown hK hP dX11_bylaw_101 ?_
            refine lv_aload_n hx hb dX11_bylaw_104 rfl (lv_at hl 1 rfl) ?_
            refine gX_X11_23 hx hb htg hown hK hP dX11_bylaw_105 ?_
            refine lv_iload_n hx hb dX11_bylaw_108 rfl (lv_at hl 2 rfl) ?_
            have eW : wd_37.2.2 = wd.2.2 := (p_32.trans (congrArg (fun z => z.2) wf_10))
            have hTO : tO tA wd_37.2.1 := p_31
            have hEC : eC fv_42 ar_38 := (eC_fr p_33 (fM_put (fM_rf [2] _) efv_42 (by decide)) (fA_rf [] _) rfl rfl rfl)
            have e30 : fv_42 30 = fv 30 := (congrFun efv_42 30).trans ((fr_39 30 rfl).trans ((fr_8 30 rfl)))
            have r15 : (0 : Int) ≤ (fv_42 15).toInt ∧ (fv_42 15).toInt ≤ 16 := hF_fv_42 15
            have r16 : (0 : Int) ≤ (fv_42 16).toInt ∧ (fv_42 16).toInt ≤ 100 := hF_fv_42 16
            have r30 : (0 : Int) ≤ (fv 30).toInt ∧ (fv 30).toInt ≤ 9 := by have h9 : (0 : Int) ≤ (fv 30).toInt ∧ (fv 30).toInt ≤ 10 := hF_fv 30; omega
            have z0 : (0 : Int32).toInt = 0 := by decide
            have z1 : (1 : Int32).toInt = 1 := by decide
            have hS0 := hS
            have hS : va_S (fun q => aX ob ad s.heap.size q ∨ (0 < (fv 30).toInt ∧ q = wd.2.2.2)) s.heap H locs := my_Sw hS (fun q h => Or.inl h)
            obtain ⟨LN, eLN⟩ : ∃ z : Nat, (fv_42 15).toNatClampNeg = z := ⟨_, rfl⟩
            obtain ⟨CN, eCN⟩ : ∃ z : Nat, (fv_42 16).toNatClampNeg = z := ⟨_, rfl⟩
            have f15 : (fv_42 15).toNatClampNeg = (fv_42 15).toInt.toNat := rfl
            have f16 : (fv_42 16).toNatClampNeg = (fv_42 16).toInt.toNat := rfl
            have hl1 : ¬ fv_42 15 < 0 := fun h9 => by have := Int32.lt_iff_toInt_lt.mp h9; omega
            have hc1 : ¬ fv_42 16 < 0 := fun h9 => by have := Int32.lt_iff_toInt_lt.mp h9; omega
            have hPc := hP.sub (ws' := [(ob 6, .inr (4, [.ref (ad 74), .ref (ad 36), .ref (ad 37), .int (fv_42 13), .int (fv_42 14), .ref (ob 7), .int (fv_42 15), .int (fv_42 16), .int (fv_42 17), .int (fv_42 18), .int (fv_42 19), .int (fv_42 20)])), (ob 7, .inr (1, [.int (fv_42 21), .ref (ad 38), .ref (ad 39), .ref (ad 40), .ref (ad 41), .ref (ad 42), .ref (ad 43)])), (ad 38, .inl (cA 38, 16, .inl (ar_38 38))), (ad 39, .inl (cA 39, 16, .inl (ar_38 39))), (ad 40, .inl (cA 40, 16, .inl (ar_38 40))), (ad 41, .inl (cA 41, 100, .inl (ar_38 41))), (ad 42, .inl (cA 42, 100, .inl (ar_38 42))), (ad 43, .inl (cA 43, 100, .inl (ar_38 43)))]) [6, 7, 49, 50, 51, 52, 53, 54] rfl
            have hDX := wsX_D hd s.heap.size cA fv_42 wd_37 ar_38
            have hDc := (hDX.sub (ws' := [(ob 6, .inr (4, [.ref (ad 74), .ref (ad 36), .ref (ad 37), .int (fv_42 13), .int (fv_42 14), .ref (ob 7), .int (fv_42 15), .int (fv_42 16), .int (fv_42 17), .int (fv_42 18), .int (fv_42 19), .int (fv_42 20)])), (ob 7, .inr (1, [.int (fv_42 21), .ref (ad 38), .ref (ad 39), .ref (ad 40), .ref (ad 41), .ref (ad 42), .ref (ad 43)])), (ad 38, .inl (cA 38, 16, .inl (ar_38 38))), (ad 39, .inl (cA 39, 16, .inl (ar_38 39))), (ad 40, .inl (cA 40, 16, .inl (ar_38 40))), (ad 41, .inl (cA 41, 100, .inl (ar_38 41))), (ad 42, .inl (cA 42, 100, .inl (ar_38 42))), (ad 43, .inl (cA 43, 100, .inl (ar_38 43)))]) [6, 7, 49, 50, 51, 52, 53, 54] (by decide) rfl).weaken (B := fun _ => True) (fun _ _ _ _ => trivial)
            have hKc := hK.sub (tys' := [(cA 38, .int), (cA 39, .int), (cA 40, .int), (cA 41, .int), (cA 42, .int), (cA 43, .int)]) [37, 38, 39, 40, 41, 42] rfl
            have hFc0 := va_free (wc := [(ob 6, .inr (4, [.ref (ad 74), .ref (ad 36), .ref (ad 37), .int (fv_42 13), .int (fv_42 14), .ref (ob 7), .int (fv_42 15), .int (fv_42 16), .int (fv_42 17), .int (fv_42 18), .int (fv_42 19), .int (fv_42 20)])), (ob 7, .inr (1, [.int (fv_42 21), .ref (ad 38), .ref (ad 39), .ref (ad 40), .ref (ad 41), .ref (ad 42), .ref (ad 43)])), (ad 38, .inl (cA 38, 16, .inl (ar_38 38))), (ad 39, .inl (cA 39, 16, .inl (ar_38 39))), (ad 40, .inl (cA 40, 16, .inl (ar_38 40))), (ad 41, .inl (cA 41, 100, .inl (ar_38 41))), (ad 42, .inl (cA 42, 100, .inl (ar_38 42))), (ad 43, .inl (cA 43, 100, .inl (ar_38 43)))]) hDX hS0 (fun q h => Or.inr h) [6, 7, 49, 50, 51, 52, 53, 54] rfl
            have hFc : ∀ q, va_A [(ob 6, .inr (4, [.ref (ad 74), .ref (ad 36), .ref (ad 37), .int (fv_42 13), .int (fv_42 14), .ref (ob 7), .int (fv_42 15), .int (fv_42 16), .int (fv_42 17), .int (fv_42 18), .int (fv_42 19), .int (fv_42 20)])), (ob 7, .inr (1, [.int (fv_42 21), .ref (ad 38), .ref (ad 39), .ref (ad 40), .ref (ad 41), .ref (ad 42), .ref (ad 43)])), (ad 38, .inl (cA 38, 16, .inl (ar_38 38))), (ad 39, .inl (cA 39, 16, .inl (ar_38 39))), (ad 40, .inl (cA 40, 16, .inl (ar_38 40))), (ad 41, .inl (cA 41, 100, .inl (ar_38 41))), (ad 42, .inl (cA 42, 100, .inl (ar_38 42))), (ad 43, .inl (cA 43, 100, .inl (ar_38 43)))] H.size q → (fun q => aX ob ad s.heap.size q ∨ (0 < (fv 30).toInt ∧ q = wd.2.2.2)) q := fun q h => Or.inl (hFc0 q h)
            refine va_callr (va_runV (As := [.int a]) (rest := [.ref (ob 11)]) ⟨hx, hb, hml, hown, hts⟩ (x_cutOut l dC dI H.size (ob 6) a (fv_42 15) (fv_42 16) LN CN (ob 7) (.int (fv_42 21) : Value) (.ref (ad 74) : Value) (.ref (ad 36) : Value) (.ref (ad 37) : Value) (.int (fv_42 13) : Value) (.int (fv_42 14) : Value) (.int (fv_42 17) : Value) (.int (fv_42 18) : Value) (.int (fv_42 19) : Value) (.int (fv_42 20) : Value) (ad 38) (cA 38) (ar_38 38) (ad 39) (cA 39) (ar_38 39) (ad 40) (cA 40) (ar_38 40) (ad 41) (cA 41) (ar_38 41) (ad 42) (cA 42) (ar_38 42) (ad 43) (cA 43) (ar_38 43) hl1 eLN (by omega) hc1 eCN (by omega)) (cwV 1 hts (gV kw_4_166 kw_4_167 kw_4_168 kw_1_11 kw_4_169) rfl rfl rfl (by decide +kernel) ⟨Nat.le_of_ble_eq_true rfl, Nat.le_of_ble_eq_true rfl⟩) ⟨fun a U g mk q => by obtain ⟨q0, q1, qP, qK, qD⟩ := q; exact ⟨q0, q1, qP, va_K.moved (u := U) (U := U.calling g mk a) (Vm.Alike.refl U.vm) qK, qD⟩, va_recv hKc hPc (ci := 4) (q0 := 0) rfl rfl, fun U hU hW => ⟨rfl, by rw [hU], by rw [hU]; exact hPc, va_K.moved hW.alike hKc, hDc⟩⟩ rfl rfl hl.1 rfl (lv_room (Nat.le_of_ble_eq_true rfl)) dX11_bylaw_109 ⟨Nat.le_of_ble_eq_true rfl, Nat.le_of_ble_eq_true rfl⟩) hS (fun q _ h => hFc q h) hFc (fun u ra t H1 locs ht hvm hw hB hz1 hk1 hS => ?_)
            obtain ⟨n1, k1, g1, n2, k2, g2, n3, k3, g3, n4, k4, g4, n5, k5, g5, n6, k6, g6, q1, q2, q3, q4, q5, q6, hP1, hK1, hD1⟩ := hB
            rw [ht] at hP1
            have hK1 := va_K.moved hvm.symm hK1
            have hPX : va_P (dC, dI) vwCl (wsX ob ad cA fv_42 wd_37 ar_38) H1 := my_back hP hDX (wc := [(ob 6, .inr (4, [.ref (ad 74), .ref (ad 36), .ref (ad 37), .int (fv_42 13), .int (fv_42 14), .ref (ob 7), .int (fv_42 15), .int (fv_42 16), .int (fv_42 17), .int (fv_42 18), .int (fv_42 19), .int (fv_42 20)])), (ob 7, .inr (1, [.int (fv_42 21), .ref (ad 38), .ref (ad 39), .ref (ad 40), .ref (ad 41), .ref (ad 42), .ref (ad 43)])), (ad 38, .inl (cA 38, 16, .inl (ar_38 38))), (ad 39, .inl (cA 39, 16, .inl (ar_38 39))), (ad 40, .inl (cA 40, 16, .inl (ar_38 40))), (ad 41, .inl (cA 41, 100, .inl (ar_38 41))), (ad 42, .inl (cA 42, 100, .inl (ar_38 42))), (ad 43, .inl (cA 43, 100, .inl (ar_38 43)))]) [6, 7, 49, 50, 51, 52, 53, 54] rfl (fun k c h9 h => hk1 c.1 (hP k c h9).lt h) (hP1.sub [0, 1, 2, 3, 4, 5, 6, 7] rfl)
            have hnew : ∀ (k : Nat) (q : Nat × va_E), ([(ra, .inr (1, [.int a, .ref n1, .ref n2, .ref n3, .ref n4, .ref n5, .ref n6])), (n1, .inl (k1, LN, .inl g1)), (n2, .inl (k2, LN, .inl g2)), (n3, .inl (k3, LN, .inl g3)), (n4, .inl (k4, CN, .inl g4)), (n5, .inl (k5, CN, .inl g5)), (n6, .inl (k6, CN, .inl g6))] : va_W)[k]? = some q → H.size ≤ q.1 := my_new (ws := [(ob 6, .inr (4, [.ref (ad 74), .ref (ad 36), .ref (ad 37), .int (fv_42 13), .int (fv_42 14), .ref (ob 7), .int (fv_42 15), .int (fv_42 16), .int (fv_42 17), .int (fv_42 18), .int (fv_42 19), .int (fv_42 20)])), (ob 7, .inr (1, [.int (fv_42 21), .ref (ad 38), .ref (ad 39), .ref (ad 40), .ref (ad 41), .ref (ad 42), .ref (ad 43)])), (ad 38, .inl (cA 38, 16, .inl (ar_38 38))), (ad 39, .inl (cA 39, 16, .inl (ar_38 39))), (ad 40, .inl (cA 40, 16, .inl (ar_38 40))), (ad 41, .inl (cA 41, 100, .inl (ar_38 41))), (ad 42, .inl (cA 42, 100, .inl (ar_38 42))), (ad 43, .inl (cA 43, 100, .inl (ar_38 43)))]) (w1 := [(ra, .inr (1, [.int a, .ref n1, .ref n2, .ref n3, .ref n4, .ref n5, .ref n6])), (n1, .inl (k1, LN, .inl g1)), (n2, .inl (k2, LN, .inl g2)), (n3, .inl (k3, LN, .inl g3)), (n4, .inl (k4, CN, .inl g4)), (n5, .inl (k5, CN, .inl g5)), (n6, .inl (k6, CN, .inl g6))]) hD1
            have hD7 : va_D (va_A [(ob 6, .inr (4, [.ref (ad 74), .ref (ad 36), .ref (ad 37), .int (fv_42 13), .int (fv_42 14), .ref (ob 7), .int (fv_42 15), .int (fv_42 16), .int (fv_42 17), .int (fv_42 18), .int (fv_42 19), .int (fv_42 20)])), (ob 7, .inr (1, [.int (fv_42 21), .ref (ad 38), .ref (ad 39), .ref (ad 40), .ref (ad 41), .ref (ad 42), .ref (ad 43)])), (ad 38, .inl (cA 38, 16, .inl (ar_38 38))), (ad 39, .inl (cA 39, 16, .inl (ar_38 39))), (ad 40, .inl (cA 40, 16, .inl (ar_38 40))), (ad 41, .inl (cA 41, 100, .inl (ar_38 41))), (ad 42, .inl (cA 42, 100, .inl (ar_38 42))), (ad 43, .inl (cA 43, 100, .inl (ar_38 43)))] H.size) [(ra, .inr (1, [.int a, .ref n1, .ref n2, .ref n3, .ref n4, .ref n5, .ref n6])), (n1, .inl (k1, LN, .inl g1)), (n2, .inl (k2, LN, .inl g2)), (n3, .inl (k3, LN, .inl g3)), (n4, .inl (k4, CN, .inl g4)), (n5, .inl (k5, CN, .inl g5)), (n6, .inl (k6, CN, .inl g6))] := my_Dright (w1 := [(ob 6, .inr (4, [.ref (ad 74), .ref (ad 36), .ref (ad 37), .int (fv_42 13), .int (fv_42 14), .ref (ob 7), .int (fv_42 15), .int (fv_42 16), .int (fv_42 17), .int (fv_42 18), .int (fv_42 19), .int (fv_42 20)])), (ob 7, .inr (1, [.int (fv_42 21), .ref (ad 38), .ref (ad 39), .ref (ad 40), .ref (ad 41), .ref (ad 42), .ref (ad 43)])), (ad 38, .inl (cA 38, 16, .inl (ar_38 38))), (ad 39, .inl (cA 39, 16, .inl (ar_38 39))), (ad 40, .inl (cA 40, 16, .inl (ar_38 40))), (ad 41, .inl (cA 41, 100, .inl (ar_38 41))), (ad 42, .inl (cA 42, 100, .inl (ar_38 42))), (ad 43, .inl (cA 43, 100, .inl (ar_38 43)))]) (w2 := [(ra, .inr (1, [.int a, .ref n1, .ref n2, .ref n3, .ref n4, .ref n5, .ref n6])), (n1, .inl (k1, LN, .inl g1)), (n2, .inl (k2, LN, .inl g2)), (n3, .inl (k3, LN, .inl g3)), (n4, .inl (k4, CN, .inl g4)), (n5, .inl (k5, CN, .inl g5)), (n6, .inl (k6, CN, .inl g6))]) hD1
            have hP7 : va_P (dC, dI) vwCl [(ra, .inr (1, [.int a, .ref n1, .ref n2, .ref n3, .ref n4, .ref n5, .ref n6])), (n1, .inl (k1, LN, .inl g1)), (n2, .inl (k2, LN, .inl g2)), (n3, .inl (k3, LN, .inl g3)), (n4, .inl (k4, CN, .inl g4)), (n5, .inl (k5, CN, .inl g5)), (n6, .inl (k6, CN, .inl g6))] H1 := hP1.sub [8, 9, 10, 11, 12, 13, 14] rfl
            have hK7 : va_K (dC, dI) vwCl [(k1, .int), (k2, .int), (k3, .int), (k4, .int), (k5, .int), (k6, .int)] s := hK1.sub [6, 7, 8, 9, 10, 11] rfl
            obtain ⟨LR, eLR⟩ : ∃ z : Nat → Nat, z = ntH n1 [n1, n1, n2, n3, n4, n5, n6] := ⟨_, rfl⟩
            obtain ⟨LC, eLC⟩ : ∃ z : Nat → ClassId, z = ntH k1 [k1, k1, k2, k3, k4, k5, k6] := ⟨_, rfl⟩
            obtain ⟨LL, eLL⟩ : ∃ z : Nat → Nat → Int32, z = ntH g1 [g1, g1, g2, g3, g4, g5, g6] := ⟨_, rfl⟩
            have hra : H.size ≤ ra := hnew 0 _ rfl
            have hLR : ∀ P : Nat → Prop, P n1 → P n2 → P n3 → P n4 → P n5 → P n6 → ∀ j, P (LR j) := fun P h1 h2 h3 h4 h5 h6 j => by rw [eLR]; exact ntH_all h1 _ (by simp only [List.mem_cons, List.not_mem_nil, or_false]; rintro x (rfl | rfl | rfl | rfl | rfl | rfl | rfl) <;> assumption) j
            have hLQ : lwQ LN CN LL := lq_new hA_ar_38 hEC r15 r16 eLN eCN (by rw [eLL]; exact q3) (by rw [eLL]; exact q5)
            have hCUT : cd_Wf (cd_gX LL) LN 0 = cd_txt (rd_T (rd_b (ar 1)) ((fv 0).toInt.toNat)) (rd_N (rd_b (ar 1)) ((fv 0).toInt.toNat)) ∧ ∀ l9 ∈ cd_txt (rd_T (rd_b (ar 1)) ((fv 0).toInt.toNat)) (rd_N (rd_b (ar 1)) ((fv 0).toInt.toNat)), cd_gd l9 := by have h9 := hzd59 (by rcases hz59 with ⟨a9, q9, b9⟩ | ⟨a9, b9, d9⟩; exact a9; exfalso; have w29 : (fv_42 2).toInt = (fv_36 19).toInt := congrArg Int32.toInt (show fv_42 2 = fv_36 19 from (congrFun efv_42 2)); omega); have h8 := cd_cut (LL := LL) hEC r15.1 eLN eCN (by rw [eLL]; exact q1) (by rw [eLL]; exact q2) (by rw [eLL]; exact q3) (by rw [eLL]; exact q4) (by rw [eLL]; exact q5) (by rw [eLL]; exact q6); rw [show cd_D fv_42 ar_38 = cd_D fv_36 ar_38 from (cd_D_eq ((fM_put (fM_rf [2] _) efv_42 (by decide)) 15 rfl) rfl rfl rfl rfl rfl rfl), h9.1] at h8; exact ⟨h8, by rw [← h9.1]; exact h9.2⟩
            have x11 : ob 11 < H.size := (hP 11 _ rfl).lt
            have g11 : aX ob ad s.heap.size (ob 11) := Or.inl ⟨11, rfl⟩
            by_cases hn0 : (fv 30).toInt = 0
            · skip
              have eD : wd_37.2.2.2 = tD := (congrArg (fun z => z.2) eW).trans (hed0 hn0)
              have e0 : fv_42 30 = 0 := e30.trans (Int32.toInt_inj.mp (by rw [hn0, z0]))
              have hPa : va_P (dC, dI) vwCl [(ob 11, .inr (0, [.int (fv_42 29), .ref tD, .int 0]))] H1 := by have h9 := hPX.sub (ws' := [(ob 11, .inr (0, [.int (fv_42 29), .ref wd_37.2.2.2, .int (fv_42 30)]))]) [11] rfl; rw [eD, e0] at h9; exact h9
              have hPc := va_P.app hPa (hP7.sub (ws' := [(ra, .inr (1, [.int a, .ref n1, .ref n2, .ref n3, .ref n4, .ref n5, .ref n6]))]) [0] rfl)
              have hPc : va_P (dC, dI) vwCl [(ob 11, .inr (0, [.int (fv_42 29), .ref tD, .int 0])), (ra, .inr (1, [.int a, .ref n1, .ref n2, .ref n3, .ref n4, .ref n5, .ref n6]))] H1 := hPc
              have hDc : va_D (fun _ => True) [(ob 11, .inr (0, [.int (fv_42 29), .ref tD, .int 0])), (ra, .inr (1, [.int a, .ref n1, .ref n2, .ref n3, .ref n4, .ref n5, .ref n6]))] := my_D2 (Nat.ne_of_lt (Nat.lt_of_lt_of_le x11 hra))
              have hKc : va_K (dC, dI) vwCl [] s := hK.sub (tys' := []) [] rfl
              have hFc : ∀ q, va_A [(ob 11, .inr (0, [.int (fv_42 29), .ref tD, .int 0])), (ra, .inr (1, [.int a, .ref n1, .ref n2, .ref n3, .ref n4, .ref n5, .ref n6]))] H1.size q → (fun q => aX ob ad s.heap.size q ∨ (0 < (fv 30).toInt ∧ q = wd.2.2.2)) q := my_A2 (Or.inl g11) (Or.inl (Or.inr (Nat.le_trans hS0.1 hra))) (fun q h => Or.inl (Or.inr (Nat.le_trans hS.1 h)))
              refine va_calli (va_runV (As := [.ref ra]) (rest := []) ⟨hx, hb, hml, hown, hts⟩ (x_adda l dC dI H1.size tD (ob 11) (fv_42 29) ra (.int a : Value) (.ref n1 : Value) (.ref n2 : Value) (.ref n3 : Value) (.ref n4 : Value) (.ref n5 : Value) (.ref n6 : Value)) (cwV 1 hts (gV kw_4_173 kw_4_174 kw_4_175 kw_1_9 kw_4_176) rfl rfl rfl (by decide +kernel) ⟨Nat.le_of_ble_eq_true rfl, Nat.le_of_ble_eq_true rfl⟩) ⟨fun a U g mk q => by obtain ⟨q0, q1, qP, qK, qD, qZ0, qZ1, qZ2, qZ3⟩ := q; exact ⟨q0, q1, qP, va_K.moved (u := U) (U := U.calling g mk a) (Vm.Alike.refl U.vm) qK, qD, qZ0.moved (u := U) (U := U.calling g mk a) (Vm.Alike.refl U.vm), qZ1.moved (u := U) (U := U.calling g mk a) (Vm.Alike.refl U.vm), va_AO.moved (u := U) (U := U.calling g mk a) (Vm.Alike.refl U.vm) qZ2, va_Nw.same (u := U) (U := U.calling g mk a) rfl rfl qZ3⟩, va_recv hKc hPc (ci := 0) (q0 := 0) rfl rfl, fun U hU hW => ⟨rfl, by rw [hU], by rw [hU]; exact hPc, va_K.moved hW.alike hKc, hDc, by rw [hU]; exact ((hZ_dce.kept hS.2.1).narrow hFc).moved hW.alike, by rw [hU]; exact ((hT_D.kept hS.2.1).narrow hFc).moved hW.alike, va_AO.moved hW.alike hAO_O, va_Nw.warmC hW hN_L⟩⟩ rfl rfl hl.1 rfl (lv_room (Nat.le_of_ble_eq_true rfl)) dX11_bylaw_112 ⟨Nat.le_of_ble_eq_true rfl, Nat.le_of_ble_eq_true rfl⟩) hS (fun q _ h => hFc q h) hFc (fun r u t H2 locs ht hvm hw hB hz2 hk2 hS => ?_)
              obtain ⟨mc1, ga, kg, e1, he1, hP2, hK2, hD2⟩ := hB
              rw [ht] at hP2
              have hK2 := va_K.moved hvm.symm hK2
              obtain ⟨F1, eF1⟩ : ∃ z : Nat → Int32, z = upd fv_42 29 mc1 := ⟨_, rfl⟩
              obtain ⟨F2, eF2⟩ : ∃ z : Nat → Int32, z = upd F1 30 1 := ⟨_, rfl⟩
              obtain ⟨W2, eW2⟩ : ∃ z : xT, z = (wd_37.1, wd_37.2.1, wd_37.2.2.1, ga) := ⟨_, rfl⟩
              have e30v : (1 : Int32).toInt = (fv 30).toInt + 1 := by omega
              have hEge1 : H1.size ≤ ga := my_new (ws := [(ob 11, .inr (0, [.int (fv_42 29), .ref tD, .int 0])), (ra, .inr (1, [.int a, .ref n1, .ref n2, .ref n3, .ref n4, .ref n5, .ref n6]))]) (w1 := [(ga, .inl (kg, 10, .inr (.inr (.inr (.inr e1)))))]) (my_Dcg hD2) 0 _ rfl
              have hEge : H.size ≤ ga := Nat.le_trans hz1 hEge1
              have hLe : ∀ q, H.size ≤ q → q < H1.size → q ≠ ga := fun q _ h2 => by omega
              have hBe : (fun q => aX ob ad s.heap.size q ∨ (0 < (fv 30).toInt ∧ q = wd.2.2.2)) ga := Or.inl (Or.inr (Nat.le_trans hS0.1 hEge))
              have hXe : ∀ (k q : Nat), (adX ob ad)[k]? = some q → q ≠ ga := fun k q hk => by have := my_adlt hP hk; omega
              have hNe : lsN (fun q => q ≠ ga) gla gra (fv 30).toInt := fun i hi => ⟨by have := ((hG.2.1 i hi).2.1 0 _ rfl).lt; have := hS0.1; show gla i ≠ ga; have h9 : gla i < s.heap.size := ((hG.2.1 i hi).2.1 0 _ rfl).lt; omega, fun j => by have := hS0.1; have h9 := hGR i hi j; show gra i j ≠ ga; omega⟩
              have hF_F2 : rX F2 := rX_put (rX_put hF_fv_42 eF1 (iv_any _)) eF2 (by show (0 : Int) ≤ _ ∧ _ ≤ (10 : Int); omega)
              have hkX : ∀ (k : Nat) (c : Nat × va_E), (wsX ob ad cA fv_42 wd_37 ar_38)[k]? = some c → c.1 ≠ ob 11 → H2[c.1]? = H1[c.1]? := fun k c hk hne => hk2 c.1 (hPX k c hk).lt (my_nA2 hne (Nat.ne_of_lt (Nat.lt_of_lt_of_le (hP k c hk).lt hra)) (hPX k c hk).lt)
              have hkL : ∀ (k : Nat) (c : Nat × va_E), ([(ra, .inr (1, [.int a, .ref n1, .ref n2, .ref n3, .ref n4, .ref n5, .ref n6])), (n1, .inl (k1, LN, .inl g1)), (n2, .inl (k2, LN, .inl g2)), (n3, .inl (k3, LN, .inl g3)), (n4, .inl (k4, CN, .inl g4)), (n5, .inl (k5, CN, .inl g5)), (n6, .inl (k6, CN, .inl g6))] : va_W)[k]? = some c → ¬ va_A [(ra, .inr (1, [.int a, .ref n1, .ref n2, .ref n3, .ref n4, .ref n5, .ref n6]))] H1.size c.1 → H2[c.1]? = H1[c.1]? := fun k c hk hne => hk2 c.1 (hP7 k c hk).lt (my_nA2 (Nat.ne_of_gt (Nat.lt_of_lt_of_le x11 (hnew k c hk))) (fun w => hne (Or.inl ⟨0, _, by rw [w]; rfl⟩)) (hP7 k c hk).lt)
              have hKe : va_K (dC, dI) vwCl [(kg, .object "java/lang/Object")] s := hK2
              have hF_F1 : rX F1 := rX_put hF_fv_42 eF1 (iv_any _)
              have hPX2 : va_P (dC, dI) vwCl (wsX ob ad cA F2 W2 ar_38) H2 := by subst eF2; subst eF1; subst eW2; exact my_put1 hPX hDX 11 rfl hkX (hP2.sub [0] rfl)
              have hPL2 : va_P (dC, dI) vwCl [(ra, .inr (1, [.int a, .ref n1, .ref n2, .ref n3, .ref n4, .ref n5, .ref n6])), (n1, .inl (k1, LN, .inl g1)), (n2, .inl (k2, LN, .inl g2)), (n3, .inl (k3, LN, .inl g3)), (n4, .inl (k4, CN, .inl g4)), (n5, .inl (k5, CN, .inl g5)), (n6, .inl (k6, CN, .inl g6))] H2 := my_back hP7 hD7 (wc := [(ra, .inr (1, [.int a, .ref n1, .ref n2, .ref n3, .ref n4, .ref n5, .ref n6]))]) [0] rfl hkL (hP2.sub [1] rfl)
              have hPL3 : va_P (dC, dI) vwCl (lwC ra a LR LC LN CN LL) H2 := by subst eLR; subst eLC; subst eLL; exact hPL2
              have hKL3 : va_K (dC, dI) vwCl (lwTy LC) s := by subst eLC; exact hK7
              have hPe : va_P (dC, dI) vwCl [(ga, .inl (kg, 10, .inr (.inr (.inr (.inr e1)))))] H2 := hP2.sub [2] rfl
              have hnL : ∀ P : Nat → Prop, (∀ q, H.size ≤ q → q < H1.size → P q) → P ra ∧ ∀ j, P (LR j) := fun P hP9 => ⟨hP9 _ (hnew 0 _ rfl) (hP7 0 _ rfl).lt, hLR P (hP9 _ (hnew 1 _ rfl) (hP7 1 _ rfl).lt) (hP9 _ (hnew 2 _ rfl) (hP7 2 _ rfl).lt) (hP9 _ (hnew 3 _ rfl) (hP7 3 _ rfl).lt) (hP9 _ (hnew 4 _ rfl) (hP7 4 _ rfl).lt) (hP9 _ (hnew 5 _ rfl) (hP7 5 _ rfl).lt) (hP9 _ (hnew 6 _ rfl) (hP7 6 _ rfl).lt)⟩
              have hDX2 := wsX_D hd s.heap.size cA F2 W2 ar_38
              have hxl : ∀ (k : Nat) (q : Nat), (adX ob ad)[k]? = some q → q < H.size := fun k q hk => my_adlt hP hk
              have hD1b : va_D (fun q => aX ob ad s.heap.size q ∨ (0 < (fv 30).toInt ∧ q = wd.2.2.2)) (wsX ob ad cA F2 W2 ar_38) := hDX2.weaken (fun _ _ _ h => Or.inl h)
              have hDL : va_D (fun q => aX ob ad s.heap.size q ∨ (0 < (fv 30).toInt ∧ q = wd.2.2.2)) (lwC ra a LR LC LN CN LL) := ⟨by subst eLR; subst eLC; subst eLL; exact hD7.1, fun k q hk => Or.inl (Or.inr (Nat.le_trans hS0.1 (lw_all (P := fun q => H.size ≤ q) (hnL _ (fun q h _ => h)).1 (hnL _ (fun q h _ => h)).2 k q hk)))⟩
              have hDe : va_D (fun q => aX ob ad s.heap.size q ∨ (0 < (fv 30).toInt ∧ q = wd.2.2.2)) [(ga, .inl (kg, 10, .inr (.inr (.inr (.inr e1)))))] := my_D1 hBe
              have hDLe := va_D.app hDL hDe (fun i j p q hi hj e => my_ne1 hj e (lw_all (P := fun q => q ≠ ga) (hnL _ hLe).1 (hnL _ hLe).2 i p hi))
              have hDA := va_D.app hD1b hDLe (fun i j p q hi hj e => my_ne2 (fun k9 q9 h9 => hxl k9 q9 h9) (adX_at hi) hj e (lw_all (P := fun q => H.size ≤ q) (hnL _ (fun q h _ => h)).1 (hnL _ (fun q h _ => h)).2) hXe)
              have hPA := va_P.app hPX2 (va_P.app hPL3 hPe)
              refine lv_pop hx hb dX11_bylaw_115 rfl ?_
              refine lv_aload_n hx hb dX11_bylaw_116 rfl (lv_at hl 1 rfl) ?_
              refine lv_iconst (v := 0) hx hb dX11_bylaw_117 (by decide) ?_
              refine va_put (ci := 11) (v := .int 0) (ty := .int) (C := RX11) (T := TX11) (N := 9) hx hb htg iGX11 tyX11 tyX11_ok nmX11 hown hK hPA hDA hS 0 rfl rfl 1 (by decide) (htg _ kw_3_92) (fun _ h9 => h9) rfl (by decide +kernel) rfl rfl (Nat.le_of_ble_eq_true rfl) dX11_bylaw_118 (fun H3 locs hP3 _ hS => ?_)
              obtain ⟨F3, eF3⟩ : ∃ z : Nat → Int32, z = upd F2 0 0 := ⟨_, rfl⟩
              have hP3 : va_P (dC, dI) vwCl (wsX ob ad cA F3 W2 ar_38 ++ (lwC ra a LR LC LN CN LL ++ [(ga, .inl (kg, 10, .inr (.inr (.inr (.inr e1)))))])) H3 := by subst eF3; exact hP3
              have hF_F3 : rX F3 := rX_put hF_F2 eF3 (by decide)
              refine lv_iload_n hx hb dX11_bylaw_121 rfl (lv_at hl 0 rfl) ?_
              have h330 : (F3 30).toInt = (fv 30).toInt + 1 := by rw [eF3, eF2]; exact e30v
              obtain ⟨NN, eNN⟩ : ∃ z : Nat, (z : Int) = (fv 30).toInt + 1 := ⟨((fv 30).toInt + 1).toNat, by omega⟩
              have hP3L : va_P (dC, dI) vwCl [(ra, .inr (1, [.int a, .ref n1, .ref n2, .ref n3, .ref n4, .ref n5, .ref n6])), (n1, .inl (k1, LN, .inl g1)), (n2, .inl (k2, LN, .inl g2)), (n3, .inl (k3, LN, .inl g3)), (n4, .inl (k4, CN, .inl g4)), (n5, .inl (k5, CN, .inl g5)), (n6, .inl (k6, CN, .inl g6))] H3 := by have h9 := my_left (my_right hP3); subst eLR; subst eLC; subst eLL; exact h9
              have hnL3 : ∀ P : Nat → Prop, (∀ q, H.size ≤ q → q < H3.size → P q) → P ra ∧ ∀ j, P (LR j) := fun P hP9 => ⟨hP9 _ (hnew 0 _ rfl) (hP3L 0 _ rfl).lt, hLR P (hP9 _ (hnew 1 _ rfl) (hP3L 1 _ rfl).lt) (hP9 _ (hnew 2 _ rfl) (hP3L 2 _ rfl).lt) (hP9 _ (hnew 3 _ rfl) (hP3L 3 _ rfl).lt) (hP9 _ (hnew 4 _ rfl) (hP3L 4 _ rfl).lt) (hP9 _ (hnew 5 _ rfl) (hP3L 5 _ rfl).lt) (hP9 _ (hnew 6 _ rfl) (hP3L 6 _ rfl).lt)⟩
              have h3lt : ∀ (k : Nat) (q : Nat × va_E), (lwC ra a LR LC LN CN LL ++ [(ga, .inl (kg, 10, .inr (.inr (.inr (.inr e1)))))])[k]? = some q → q.1 < H3.size := fun k q hk => ((my_right hP3) k q hk).lt
              have hLlt : ∀ (k : Nat) (q : Nat × va_E), (lwC ra a LR LC LN CN LL)[k]? = some q → q.1 < H3.size := fun k q hk => ((my_left (my_right hP3)) k q hk).lt
              have hnX : ∀ q, H.size ≤ q → q < H3.size → ¬ aX ob ad H3.size q := fun q h1 h2 w => w.elim (fun ⟨k, hk⟩ => absurd (hxl k q hk) (Nat.not_lt.mpr h1)) (fun h => absurd h2 (Nat.not_lt.mpr h))
              have hoX : ∀ q, q < s.heap.size → ¬ aX ob ad s.heap.size q → ¬ aX ob ad H3.size q := fun q h1 h2 w => w.elim (fun h => h2 (Or.inl h)) (fun h => absurd (Nat.lt_of_lt_of_le h1 hS.1) (Nat.not_lt.mpr h))
              have hLS : ∀ t : State, t.heap = H3 → s.vm.Alike t.vm → lsA dC dI ob ad (va_up gla NN ra) (va_up gfr NN a) (va_up gra NN LR) (va_up grc NN LC) (va_up gln NN LN) (va_up gcn NN CN) (va_up glr NN LL) kg e1 (F3 30).toInt ga t.heap.size t := by
                intro t ht hal
                rw [ht]
                refine ls_ext (n := (fv 30).toInt) (by omega) h330 r30.1 hG.1 (fun i hi => ⟨(hG.2.1 i hi).1, by rw [ht]; exact (hG.2.1 i hi).2.1.kept (fun k q hk => hS.2.1 q.1 ((hG.2.1 i hi).2.1 k q hk).lt (fun w => w.elim ((hG.2.1 i hi).2.2.2 k q hk) (fun w => absurd w.1 (by omega)))), va_K.moved hal (hG.2.1 i hi).2.2.1, fun k q hk => hoX q.1 ((hG.2.1 i hi).2.1 k q hk).lt ((hG.2.1 i hi).2.2.2 k q hk)⟩) hLQ ⟨by rw [ht]; exact my_left (my_right hP3), va_K.moved hal hKL3, fun k q hk => hnX q.1 (lw_all (P := fun q => H.size ≤ q) (hnL _ (fun q h _ => h)).1 (hnL _ (fun q h _ => h)).2 k q hk) (hLlt k q hk)⟩ ⟨by rw [ht]; exact my_right (my_right hP3), va_K.moved hal hKe, hnX _ hEge (my_right (my_right hP3) 0 _ rfl).lt⟩ (fun i hi => absurd hi (by omega)) (by rw [show NN - 1 = 0 from by omega]; exact he1)
              refine W.widen (k := 8) (n := 365) (Nat.le_of_ble_eq_true rfl) (Nat.le_of_ble_eq_true rfl) ?_
              exact W.iret (v := x_51) hx hb hr (fun t ht hW => ⟨⟨x_51, (F3, W2, ar_38), rfl, ⟨hF_F3, hA_ar_38, (fM_put (fM_put (fM_put (fM_put (fM_call (fM_call (fM_rf [0, 2, 13, 14, 15, 16, 17, 18, 19, 20, 29, 30] _) fr_8 (by decide)) fr_39 (by decide)) efv_42 (by decide)) eF1 (by decide)) eF2 (by decide)) eF3 (by decide)), (fA_call (fA_call (fA_rf [36, 37, 38, 39, 40, 41, 42, 43] _) fa_9 (by decide)) fa_40 (by decide)), (show tO tA W2.2.1 from by subst eW2; exact hTO), (show (F3 0).toInt = 0 from by rw [eF3]; show (0 : Int32).toInt = 0; decide), (show rd_by (rd_T (rd_b (ar 1)) ((fv 0).toInt.toNat)) (rd_S (rd_b (ar 1)) ((fv 0).toInt.toNat)) (rd_N (rd_b (ar 1)) ((fv 0).toInt.toNat)) x_51 (F3 2) (fv 2) (F3 30) (fv 30) (fv 7) a from by have w29 : (F3 2).toInt = (fv_36 19).toInt := (by rw [eF3, eF2, eF1]; exact congrArg Int32.toInt (show fv_42 2 = fv_36 19 from (congrFun efv_42 2))); rcases hz59 with ⟨a9, q9, b9⟩ | ⟨a9, b9, d9⟩; exact Or.inr ⟨fun w => by omega, Or.inl ⟨by rw [b9], by rw [b9]; show _ = (((fv_36 15).toInt.toNat : Nat) : Int); omega, by omega, h330⟩⟩; exfalso; omega), trivial⟩, ⟨⟨by rw [ht]; exact my_left hP3, va_K.moved hW.alike hK⟩, ⟨va_up gla NN ra, va_up gfr NN a, va_up gra NN LR, va_up grc NN LC, va_up gln NN LN, va_up gcn NN CN, va_up glr NN LL, kg, e1, (show lsA dC dI ob ad (va_up gla NN ra) (va_up gfr NN a) (va_up gra NN LR) (va_up grc NN LC) (va_up gln NN LN) (va_up gcn NN CN) (va_up glr NN LL) kg e1 (F3 30).toInt W2.2.2.2 t.heap.size t from by have h9 := hLS t ht hW.alike; subst eW2; exact h9), (show (F3 30).toInt = 0 → W2.2.2.2 = tD from fun w => absurd w (by omega)), (show 0 < (F3 30).toInt → lsN (fun q => q ≠ W2.2.2.2) (va_up gla NN ra) (va_up gra NN LR) (F3 30).toInt from fun _ => by subst eW2; exact lsN_up (n := (fv 30).toInt) (P := fun q => q ≠ ga) hNe (by omega) h330 (hnL _ hLe).1 (hnL _ hLe).2), cd_bX_new eNN h330 hCUT.1 hCUT.2, fun P hp1 hp2 hp3 => (show lsN P (va_up gla NN ra) (va_up gra NN LR) (F3 30).toInt ∧ (0 < (F3 30).toInt → P W2.2.2.2) from ⟨lsN_up (n := (fv 30).toInt) hp2 (by omega) h330 (hnL3 P (fun q h h2 => hp1 q (Nat.le_trans hS0.1 h) (by rw [ht]; exact h2))).1 (hnL3 P (fun q h h2 => hp1 q (Nat.le_trans hS0.1 h) (by rw [ht]; exact h2))).2, fun _ => by subst eW2; exact hp1 _ (Nat.le_trans hS0.1 hEge) (by rw [ht]; exact (my_right (my_right hP3) 0 _ rfl).lt)⟩)⟩⟩⟩, hS.F ht⟩) hS.2.2 dX11_bylaw_122
            · skip
              have hpos : 0 < (fv 30).toInt := by omega
              have eD : wd_37.2.2.2 = wd.2.2.2 := congrArg (fun z => z.2) eW
              have hPa : va_P (dC, dI) vwCl [(ob 11, .inr (0, [.int (fv_42 29), .ref wd.2.2.2, .int (fv 30)]))] H1 := by have h9 := hPX.sub (ws' := [(ob 11, .inr (0, [.int (fv_42 29), .ref wd_37.2.2.2, .int (fv_42 30)]))]) [11] rfl; rw [eD, e30] at h9; exact h9
              have hPe0 : va_P (dC, dI) vwCl [(wd.2.2.2, .inl (ce, 10, .inr (.inr (.inr (.inr ef)))))] s.heap := (hG.2.2 hpos).1.1
              have xed : wd.2.2.2 < s.heap.size := ls_lt hPe0
              have ned : ¬ aX ob ad s.heap.size wd.2.2.2 := (hG.2.2 hpos).1.2.2
              have hPe1 : va_P (dC, dI) vwCl [(wd.2.2.2, .inl (ce, 10, .inr (.inr (.inr (.inr ef)))))] H1 := ls_one hPe0 ((hk1 _ (Nat.lt_of_lt_of_le xed hS0.1) (fun w => ned (hFc0 _ w))).trans (hS0.2.1 _ xed ned))
              have hPc : va_P (dC, dI) vwCl [(ob 11, .inr (0, [.int (fv_42 29), .ref wd.2.2.2, .int (fv 30)])), (ra, .inr (1, [.int a, .ref n1, .ref n2, .ref n3, .ref n4, .ref n5, .ref n6])), (wd.2.2.2, .inl (ce, 10, .inr (.inr (.inr (.inr ef)))))] H1 := va_P.app hPa (va_P.app (hP7.sub (ws' := [(ra, .inr (1, [.int a, .ref n1, .ref n2, .ref n3, .ref n4, .ref n5, .ref n6]))]) [0] rfl) hPe1)
              have n11 : ob 11 ≠ wd.2.2.2 := fun w => ned (w ▸ g11)
              have nra : ra ≠ wd.2.2.2 := fun w => absurd (Nat.lt_of_lt_of_le xed (Nat.le_trans hS0.1 hra)) (by omega)
              have hDc : va_D (fun _ => True) [(ob 11, .inr (0, [.int (fv_42 29), .ref wd.2.2.2, .int (fv 30)])), (ra, .inr (1, [.int a, .ref n1, .ref n2, .ref n3, .ref n4, .ref n5, .ref n6])), (wd.2.2.2, .inl (ce, 10, .inr (.inr (.inr (.inr ef)))))] := my_D3 (Nat.ne_of_lt (Nat.lt_of_lt_of_le x11 hra)) n11 nra
              have hKc : va_K (dC, dI) vwCl [(ce, .object "java/lang/Object")] s := (hG.2.2 hpos).1.2.1
              have hFc : ∀ q, va_A [(ob 11, .inr (0, [.int (fv_42 29), .ref wd.2.2.2, .int (fv 30)])), (ra, .inr (1, [.int a, .ref n1, .ref n2, .ref n3, .ref n4, .ref n5, .ref n6])), (wd.2.2.2, .inl (ce, 10, .inr (.inr (.inr (.inr ef)))))] H1.size q → (fun q => aX ob ad s.heap.size q ∨ (0 < (fv 30).toInt ∧ q = wd.2.2.2)) q := my_A3 (Or.inl g11) (Or.inl (Or.inr (Nat.le_trans hS0.1 hra))) (Or.inr ⟨hpos, rfl⟩) (fun q h => Or.inl (Or.inr (Nat.le_trans hS.1 h)))
              have hne10 : ¬ fv 30 = 10 := fun w => by have h9 : (10 : Int32).toInt = 10 := (by decide); have h8 := congrArg Int32.toInt w; omega
              refine va_calli (va_runV (As := [.ref ra]) (rest := []) ⟨hx, hb, hml, hown, hts⟩ (x_addb l dC dI H1.size wd.2.2.2 (ob 11) (fv_42 29) (fv 30) ce ef ra (.int a : Value) (.ref n1 : Value) (.ref n2 : Value) (.ref n3 : Value) (.ref n4 : Value) (.ref n5 : Value) (.ref n6 : Value) hne10 (vp_in_iff.mpr ⟨r30.1, by omega⟩)) (cwV 1 hts (gV kw_4_173 kw_4_174 kw_4_175 kw_1_9 kw_4_176) rfl rfl rfl (by decide +kernel) ⟨Nat.le_of_ble_eq_true rfl, Nat.le_of_ble_eq_true rfl⟩) ⟨fun a U g mk q => by obtain ⟨q0, q1, qP, qK, qD, qZ0⟩ := q; exact ⟨q0, q1, qP, va_K.moved (u := U) (U := U.calling g mk a) (Vm.Alike.refl U.vm) qK, qD, va_Nw.same (u := U) (U := U.calling g mk a) rfl rfl qZ0⟩, va_recv hKc hPc (ci := 0) (q0 := 0) rfl rfl, fun U hU hW => ⟨rfl, by rw [hU], by rw [hU]; exact hPc, va_K.moved hW.alike hKc, hDc, va_Nw.warmC hW hN_L⟩⟩ rfl rfl hl.1 rfl (lv_room (Nat.le_of_ble_eq_true rfl)) dX11_bylaw_112 ⟨Nat.le_of_ble_eq_true rfl, Nat.le_of_ble_eq_true rfl⟩) hS (fun q _ h => hFc q h) hFc (fun r u t H2 locs ht hvm hw hB hz2 hk2 hS => ?_)
              obtain ⟨mc1, n1_, e1, hn1, he1, hP2, hK2, hD2⟩ := hB
              rw [ht] at hP2
              have hK2 := va_K.moved hvm.symm hK2
              obtain ⟨F1, eF1⟩ : ∃ z : Nat → Int32, z = upd fv_42 29 mc1 := ⟨_, rfl⟩
              obtain ⟨F2, eF2⟩ : ∃ z : Nat → Int32, z = upd F1 30 n1_ := ⟨_, rfl⟩
              obtain ⟨W2, eW2⟩ : ∃ z : xT, z = (wd_37.1, wd_37.2.1, wd_37.2.2.1, wd.2.2.2) := ⟨_, rfl⟩
              have h10 : (1 : Int32).toInt = 1 := by decide
              have e30v : n1_.toInt = (fv 30).toInt + 1 := (iv_addc (b := 9) hn1 r30 z1 (by decide) (by decide)).1
              have hLe : ∀ q, H.size ≤ q → q < H1.size → q ≠ wd.2.2.2 := fun q h _ => by have := hS0.1; omega
              have hBe : (fun q => aX ob ad s.heap.size q ∨ (0 < (fv 30).toInt ∧ q = wd.2.2.2)) wd.2.2.2 := Or.inr ⟨hpos, rfl⟩
              have hXe : ∀ (k q : Nat), (adX ob ad)[k]? = some q → q ≠ wd.2.2.2 := fun k q hk w => ned (Or.inl ⟨k, w ▸ hk⟩)
              have hNe : lsN (fun q => q ≠ wd.2.2.2) gla gra (fv 30).toInt := hNE hpos
              have hF_F2 : rX F2 := rX_put (rX_put hF_fv_42 eF1 (iv_any _)) eF2 (by show (0 : Int) ≤ _ ∧ _ ≤ (10 : Int); omega)
              have hkX : ∀ (k : Nat) (c : Nat × va_E), (wsX ob ad cA fv_42 wd_37 ar_38)[k]? = some c → c.1 ≠ ob 11 → H2[c.1]? = H1[c.1]? := fun k c hk hne => hk2 c.1 (hPX k c hk).lt (my_nA3 hne (Nat.ne_of_lt (Nat.lt_of_lt_of_le (hP k c hk).lt hra)) (hXe k c.1 (adX_at hk)) (hPX k c hk).lt)
              have hkL : ∀ (k : Nat) (c : Nat × va_E), ([(ra, .inr (1, [.int a, .ref n1, .ref n2, .ref n3, .ref n4, .ref n5, .ref n6])), (n1, .inl (k1, LN, .inl g1)), (n2, .inl (k2, LN, .inl g2)), (n3, .inl (k3, LN, .inl g3)), (n4, .inl (k4, CN, .inl g4)), (n5, .inl (k5, CN, .inl g5)), (n6, .inl (k6, CN, .inl g6))] : va_W)[k]? = some c → ¬ va_A [(ra, .inr (1, [.int a, .ref n1, .ref n2, .ref n3, .ref n4, .ref n5, .ref n6]))] H1.size c.1 → H2[c.1]? = H1[c.1]? := fun k c hk hne => hk2 c.1 (hP7 k c hk).lt (my_nA3 (Nat.ne_of_gt (Nat.lt_of_lt_of_le x11 (hnew k c hk))) (fun w => hne (Or.inl ⟨0, _, by rw [w]; rfl⟩)) (hLe _ (hnew k c hk) (hP7 k c hk).lt) (hP7 k c hk).lt)
              have hKe : va_K (dC, dI) vwCl [(ce, .object "java/lang/Object")] s := hK2
              have hF_F1 : rX F1 := rX_put hF_fv_42 eF1 (iv_any _)
              have hPX2 : va_P (dC, dI) vwCl (wsX ob ad cA F2 W2 ar_38) H2 := by subst eF2; subst eF1; subst eW2; exact my_put1 hPX hDX 11 rfl hkX (hP2.sub [0] rfl)
              have hPL2 : va_P (dC, dI) vwCl [(ra, .inr (1, [.int a, .ref n1, .ref n2, .ref n3, .ref n4, .ref n5, .ref n6])), (n1, .inl (k1, LN, .inl g1)), (n2, .inl (k2, LN, .inl g2)), (n3, .inl (k3, LN, .inl g3)), (n4, .inl (k4, CN, .inl g4)), (n5, .inl (k5, CN, .inl g5)), (n6, .inl (k6, CN, .inl g6))] H2 := my_back hP7 hD7 (wc := [(ra, .inr (1, [.int a, .ref n1, .ref n2, .ref n3, .ref n4, .ref n5, .ref n6]))]) [0] rfl hkL (hP2.sub [1] rfl)
              have hPL3 : va_P (dC, dI) vwCl (lwC ra a LR LC LN CN LL) H2 := by subst eLR; subst eLC; subst eLL; exact hPL2
              have hKL3 : va_K (dC, dI) vwCl (lwTy LC) s := by subst eLC; exact hK7
              have hPe : va_P (dC, dI) vwCl [(wd.2.2.2, .inl (ce, 10, .inr (.inr (.inr (.inr e1)))))] H2 := hP2.sub [2] rfl
              have hnL : ∀ P : Nat → Prop, (∀ q, H.size ≤ q → q < H1.size → P q) → P ra ∧ ∀ j, P (LR j) := fun P hP9 => ⟨hP9 _ (hnew 0 _ rfl) (hP7 0 _ rfl).lt, hLR P (hP9 _ (hnew 1 _ rfl) (hP7 1 _ rfl).lt) (hP9 _ (hnew 2 _ rfl) (hP7 2 _ rfl).lt) (hP9 _ (hnew 3 _ rfl) (hP7 3 _ rfl).lt) (hP9 _ (hnew 4 _ rfl) (hP7 4 _ rfl).lt) (hP9 _ (hnew 5 _ rfl) (hP7 5 _ rfl).lt) (hP9 _ (hnew 6 _ rfl) (hP7 6 _ rfl).lt)⟩
              have hDX2 := wsX_D hd s.heap.size cA F2 W2 ar_38
              have hxl : ∀ (k : Nat) (q : Nat), (adX ob ad)[k]? = some q → q < H.size := fun k q hk => my_adlt hP hk
              have hD1b : va_D (fun q => aX ob ad s.heap.size q ∨ (0 < (fv 30).toInt ∧ q = wd.2.2.2)) (wsX ob ad cA F2 W2 ar_38) := hDX2.weaken (fun _ _ _ h => Or.inl h)
              have hDL : va_D (fun q => aX ob ad s.heap.size q ∨ (0 < (fv 30).toInt ∧ q = wd.2.2.2)) (lwC ra a LR LC LN CN LL) := ⟨by subst eLR; subst eLC; subst eLL; exact hD7.1, fun k q hk => Or.inl (Or.inr (Nat.le_trans hS0.1 (lw_all (P := fun q => H.size ≤ q) (hnL _ (fun q h _ => h)).1 (hnL _ (fun q h _ => h)).2 k q hk)))⟩
              have hDe : va_D (fun q => aX ob ad s.heap.size q ∨ (0 < (fv 30).toInt ∧ q = wd.2.2.2)) [(wd.2.2.2, .inl (ce, 10, .inr (.inr (.inr (.inr e1)))))] := my_D1 hBe
              have hDLe := va_D.app hDL hDe (fun i j p q hi hj e => my_ne1 hj e (lw_all (P := fun q => q ≠ wd.2.2.2) (hnL _ hLe).1 (hnL _ hLe).2 i p hi))
              have hDA := va_D.app hD1b hDLe (fun i j p q hi hj e => my_ne2 (fun k9 q9 h9 => hxl k9 q9 h9) (adX_at hi) hj e (lw_all (P := fun q => H.size ≤ q) (hnL _ (fun q h _ => h)).1 (hnL _ (fun q h _ => h)).2) hXe)
              have hPA := va_P.app hPX2 (va_P.app hPL3 hPe)
              refine lv_pop hx hb dX11_bylaw_115 rfl ?_
              refine lv_aload_n hx hb dX11_bylaw_116 rfl (lv_at hl 1 rfl) ?_
              refine lv_iconst (v := 0) hx hb dX11_bylaw_117 (by decide) ?_
              refine va_put (ci := 11) (v := .int 0) (ty := .int) (C := RX11) (T := TX11) (N := 9) hx hb htg iGX11 tyX11 tyX11_ok nmX11 hown hK hPA hDA hS 0 rfl rfl 1 (by decide) (htg _ kw_3_92) (fun _ h9 => h9) rfl (by decide +kernel) rfl rfl (Nat.le_of_ble_eq_true rfl) dX11_bylaw_118 (fun H3 locs hP3 _ hS => ?_)
              obtain ⟨F3, eF3⟩ : ∃ z : Nat → Int32, z = upd F2 0 0 := ⟨_, rfl⟩
              have hP3 : va_P (dC, dI) vwCl (wsX ob ad cA F3 W2 ar_38 ++ (lwC ra a LR LC LN CN LL ++ [(wd.2.2.2, .inl (ce, 10, .inr (.inr (.inr (.inr e1)))))])) H3 := by subst eF3; exact hP3
              have hF_F3 : rX F3 := rX_put hF_F2 eF3 (by decide)
              refine lv_iload_n hx hb dX11_bylaw_121 rfl (lv_at hl 0 rfl) ?_
              have h330 : (F3 30).toInt = (fv 30).toInt + 1 := by rw [eF3, eF2]; exact e30v
              obtain ⟨NN, eNN⟩ : ∃ z : Nat, (z : Int) = (fv 30).toInt + 1 := ⟨((fv 30).toInt + 1).toNat, by omega⟩
              have hP3L : va_P (dC, dI) vwCl [(ra, .inr (1, [.int a, .ref n1, .ref n2, .ref n3, .ref n4, .ref n5, .ref n6])), (n1, .inl (k1, LN, .inl g1)), (n2, .inl (k2, LN, .inl g2)), (n3, .inl (k3, LN, .inl g3)), (n4, .inl (k4, CN, .inl g4)), (n5, .inl (k5, CN, .inl g5)), (n6, .inl (k6, CN, .inl g6))] H3 := by have h9 := my_left (my_right hP3); subst eLR; subst eLC; subst eLL; exact h9
              have hnL3 : ∀ P : Nat → Prop, (∀ q, H.size ≤ q → q < H3.size → P q) → P ra ∧ ∀ j, P (LR j) := fun P hP9 => ⟨hP9 _ (hnew 0 _ rfl) (hP3L 0 _ rfl).lt, hLR P (hP9 _ (hnew 1 _ rfl) (hP3L 1 _ rfl).lt) (hP9 _ (hnew 2 _ rfl) (hP3L 2 _ rfl).lt) (hP9 _ (hnew 3 _ rfl) (hP3L 3 _ rfl).lt) (hP9 _ (hnew 4 _ rfl) (hP3L 4 _ rfl).lt) (hP9 _ (hnew 5 _ rfl) (hP3L 5 _ rfl).lt) (hP9 _ (hnew 6 _ rfl) (hP3L 6 _ rfl).lt)⟩
              have h3lt : ∀ (k : Nat) (q : Nat × va_E), (lwC ra a LR LC LN CN LL ++ [(wd.2.2.2, .inl (ce, 10, .inr (.inr (.inr (.inr e1)))))])[k]? = some q → q.1 < H3.size := fun k q hk => ((my_right hP3) k q hk).lt
              have hLlt : ∀ (k : Nat) (q : Nat × va_E), (lwC ra a LR LC LN CN LL)[k]? = some q → q.1 < H3.size := fun k q hk => ((my_left (my_right hP3)) k q hk).lt
              have hnX : ∀ q, H.size ≤ q → q < H3.size → ¬ aX ob ad H3.size q := fun q h1 h2 w => w.elim (fun ⟨k, hk⟩ => absurd (hxl k q hk) (Nat.not_lt.mpr h1)) (fun h => absurd h2 (Nat.not_lt.mpr h))
              have hoX : ∀ q, q < s.heap.size → ¬ aX ob ad s.heap.size q → ¬ aX ob ad H3.size q := fun q h1 h2 w => w.elim (fun h => h2 (Or.inl h)) (fun h => absurd (Nat.lt_of_lt_of_le h1 hS.1) (Nat.not_lt.mpr h))
              have hLS : ∀ t : State, t.heap = H3 → s.vm.Alike t.vm → lsA dC dI ob ad (va_up gla NN ra) (va_up gfr NN a) (va_up gra NN LR) (va_up grc NN LC) (va_up gln NN LN) (va_up gcn NN CN) (va_up glr NN LL) ce e1 (F3 30).toInt wd.2.2.2 t.heap.size t := by
                intro t ht hal
                rw [ht]
                refine ls_ext (n := (fv 30).toInt) (by omega) h330 r30.1 hG.1 (fun i hi => ⟨(hG.2.1 i hi).1, by rw [ht]; exact (hG.2.1 i hi).2.1.kept (fun k q hk => hS.2.1 q.1 ((hG.2.1 i hi).2.1 k q hk).lt (fun w => w.elim ((hG.2.1 i hi).2.2.2 k q hk) (fun w => lw_all (P := fun q => q ≠ wd.2.2.2) ((hNE w.1 i hi).1) ((hNE w.1 i hi).2) k q hk w.2))), va_K.moved hal (hG.2.1 i hi).2.2.1, fun k q hk => hoX q.1 ((hG.2.1 i hi).2.1 k q hk).lt ((hG.2.1 i hi).2.2.2 k q hk)⟩) hLQ ⟨by rw [ht]; exact my_left (my_right hP3), va_K.moved hal hKL3, fun k q hk => hnX q.1 (lw_all (P := fun q => H.size ≤ q) (hnL _ (fun q h _ => h)).1 (hnL _ (fun q h _ => h)).2 k q hk) (hLlt k q hk)⟩ ⟨by rw [ht]; exact my_right (my_right hP3), va_K.moved hal hKe, hoX _ (ls_lt (hG.2.2 hpos).1.1) (hG.2.2 hpos).1.2.2⟩ (fun i hi => by rw [he1]; show (if i = (fv 30).toInt.toNat then _ else ef i) = _; rw [if_neg (by omega)]; exact (hG.2.2 hpos).2 i hi) (by rw [he1]; show (if NN - 1 = (fv 30).toInt.toNat then _ else ef (NN - 1)) = _; rw [if_pos (by omega)])
              refine W.widen (k := 8) (n := 365) (Nat.le_of_ble_eq_true rfl) (Nat.le_of_ble_eq_true rfl) ?_
              exact W.iret (v := x_51) hx hb hr (fun t ht hW => ⟨⟨x_51, (F3, W2, ar_38), rfl, ⟨hF_F3, hA_ar_38, (fM_put (fM_put (fM_put (fM_put (fM_call (fM_call (fM_rf [0, 2, 13, 14, 15, 16, 17, 18, 19, 20, 29, 30] _) fr_8 (by decide)) fr_39 (by decide)) efv_42 (by decide)) eF1 (by decide)) eF2 (by decide)) eF3 (by decide)), (fA_call (fA_call (fA_rf [36, 37, 38, 39, 40, 41, 42, 43] _) fa_9 (by decide)) fa_40 (by decide)), (show tO tA W2.2.1 from by subst eW2; exact hTO), (show (F3 0).toInt = 0 from by rw [eF3]; show (0 : Int32).toInt = 0; decide), (show rd_by (rd_T (rd_b (ar 1)) ((fv 0).toInt.toNat)) (rd_S (rd_b (ar 1)) ((fv 0).toInt.toNat)) (rd_N (rd_b (ar 1)) ((fv 0).toInt.toNat)) x_51 (F3 2) (fv 2) (F3 30) (fv 30) (fv 7) a from by have w29 : (F3 2).toInt = (fv_36 19).toInt := (by rw [eF3, eF2, eF1]; exact congrArg Int32.toInt (show fv_42 2 = fv_36 19 from (congrFun efv_42 2))); rcases hz59 with ⟨a9, q9, b9⟩ | ⟨a9, b9, d9⟩; exact Or.inr ⟨fun w => by omega, Or.inl ⟨by rw [b9], by rw [b9]; show _ = (((fv_36 15).toInt.toNat : Nat) : Int); omega, by omega, h330⟩⟩; exfalso; omega), trivial⟩, ⟨⟨by rw [ht]; exact my_left hP3, va_K.moved hW.alike hK⟩, ⟨va_up gla NN ra, va_up gfr NN a, va_up gra NN LR, va_up grc NN LC, va_up gln NN LN, va_up gcn NN CN, va_up glr NN LL, ce, e1, (show lsA dC dI ob ad (va_up gla NN ra) (va_up gfr NN a) (va_up gra NN LR) (va_up grc NN LC) (va_up gln NN LN) (va_up gcn NN CN) (va_up glr NN LL) ce e1 (F3 30).toInt W2.2.2.2 t.heap.size t from by have h9 := hLS t ht hW.alike; subst eW2; exact h9), (show (F3 30).toInt = 0 → W2.2.2.2 = tD from fun w => absurd w (by omega)), (show 0 < (F3 30).toInt → lsN (fun q => q ≠ W2.2.2.2) (va_up gla NN ra) (va_up gra NN LR) (F3 30).toInt from fun _ => by subst eW2; exact lsN_up (n := (fv 30).toInt) (P := fun q => q ≠ wd.2.2.2) hNe (by omega) h330 (hnL _ hLe).1 (hnL _ hLe).2), cd_bX_new eNN h330 hCUT.1 hCUT.2, fun P hp1 hp2 hp3 => (show lsN P (va_up gla NN ra) (va_up gra NN LR) (F3 30).toInt ∧ (0 < (F3 30).toInt → P W2.2.2.2) from ⟨lsN_up (n := (fv 30).toInt) hp2 (by omega) h330 (hnL3 P (fun q h h2 => hp1 q (Nat.le_trans hS0.1 h) (by rw [ht]; exact h2))).1 (hnL3 P (fun q h h2 => hp1 q (Nat.le_trans hS0.1 h) (by rw [ht]; exact h2))).2, fun _ => by subst eW2; exact hp3 hpos⟩)⟩⟩⟩, hS.F ht⟩) hS.2.2 dX11_bylaw_122
        · skip
          refine lv_if_ne (tgt := 80) hx hb dX11_bylaw_67 (by decide) (fun c_43 => ?_) (fun c_43 => ?_)
          · skip
            have k_44 : ¬ (fv_36 19).toInt = 0 := fun q => c_43 (Int32.toInt_inj.mp q)
            refine lv_iconst (v := (-1)) hx hb dX11_bylaw_80 (by decide) ?_
            refine lv_aload_n hx hb dX11_bylaw_81 rfl (lv_at hl 1 rfl) ?_
            refine gX_X11_23 hx hb htg hown hK hP dX11_bylaw_82 ?_
            refine gX_X11_175 hx hb htg hown hK hP dX11_bylaw_85 ?_
            refine my_ti (y := fv_36 20) ((congrFun efv_42 20)) ?_
            refine lv_isub hx hb dX11_bylaw_88 ?_
            refine lv_topi (fun v_45 ev_45 => ?_)
            have t_46 : v_45.toInt = ((-1) : Int32).toInt - (fv_36 20).toInt ∧ (-2147483648) ≤ v_45.toInt ∧ v_45.toInt ≤ 2147483647 := iv_sub ev_45 (⟨by decide, by decide⟩ : (-1 : Int) ≤ ((-1) : Int32).toInt ∧ ((-1) : Int32).toInt ≤ -1) (iv_any (fv_36 20)) (by decide) (by decide)
            have z_59 : (fv_42 19).toInt = (fv_36 19).toInt := congrArg Int32.toInt ((congrFun efv_42 19))
            have z_60 : (fv_42 20).toInt = (fv_36 20).toInt := congrArg Int32.toInt ((congrFun efv_42 20))
            have z_61 : (fv_42 15).toInt = (fv_36 15).toInt := congrArg Int32.toInt ((congrFun efv_42 15))
            have z_62 : 0 ≤ (fv_42 15).toInt ∧ (fv_42 15).toInt ≤ 16 := hF_fv_42 15
            exact hj_53 v_45 _ _ ls (by omega) hP hS (lv_sub hl [1, 2] rfl)
          · skip
            have i_48 : 0 ≤ (fv_36 19).toInt ∧ (fv_36 19).toInt ≤ 0 := iv_eq1 (⟨by decide, by decide⟩ : (0 : Int) ≤ (0 : Int32).toInt ∧ (0 : Int32).toInt ≤ 0) c_43
            refine lv_aload_n hx hb dX11_bylaw_70 rfl (lv_at hl 1 rfl) ?_
            refine gX_X11_23 hx hb htg hown hK hP dX11_bylaw_71 ?_
            refine gX_X11_172 hx hb htg hown hK hP dX11_bylaw_74 ?_
            refine my_ti (y := fv_36 15) ((congrFun efv_42 15)) ?_
            have i_50 : 0 ≤ (fv_36 15).toInt ∧ (fv_36 15).toInt ≤ 16 := hF_fv_36 15
            refine lv_goto (tgt := 89) hx hb dX11_bylaw_77 (by decide) ?_
            have z_63 : (fv_42 19).toInt = (fv_36 19).toInt := congrArg Int32.toInt ((congrFun efv_42 19))
            have z_64 : (fv_42 20).toInt = (fv_36 20).toInt := congrArg Int32.toInt ((congrFun efv_42 20))
            have z_65 : (fv_42 15).toInt = (fv_36 15).toInt := congrArg Int32.toInt ((congrFun efv_42 15))
            have z_66 : 0 ≤ (fv_42 15).toInt ∧ (fv_42 15).toInt ≤ 16 := hF_fv_42 15
            exact hj_53 (fv_36 15) _ _ ls (by omega) hP hS (lv_sub hl [1, 2] rfl)

set_option maxHeartbeats 4000000 in
set_option maxRecDepth 100000 in
theorem x_settlePersonE (l : Launch) (dC : Nat → ClassId) (dI : Nat → Nat → Nat) (sz : Nat) (ob ad : Nat → Nat) (cA : Nat → ClassId) (hd : dX ob ad) (fv : Nat → Int32) (wd : xT) (ar : Nat → Nat → Int32) (hF_fv : rX fv) (hA_ar : rB ar) (pp : Int32) (b : Int32) (h_pp : 0 ≤ pp.toInt ∧ pp.toInt ≤ 39) : Met l yX1_settlePerson (.code yX1_settlePerson cX1_settlePerson 7 none :: lw_good) ({ frames := 2, cells := 0, slots := 0, locals := 40 }) (va_Pc [.ref (ob 8), .int pp, .int b] (prX dC dI ob ad cA fv wd ar sz)) (va_Qv (fun (u : xS) => rX u.1 ∧ rB u.2.2 ∧ fM [] fv u.1 ∧ fA [12, 13, 15, 16, 17, 18, 19] ar u.2.2 ∧ u.2.1.2 = wd.2 ∧ (mx_s1 ar u.2.2 b (pp.toInt.toNat)) ∧ True) (enX dC dI ob ad cA) (aX ob ad sz)) 0 0 (aX ob ad sz) := by
  refine Met.ofW (cc := cX1_settlePerson) (maxL := 7) (ret := none) (by decide) rfl ?_
  intro p e s m args below meth c s₁ B hml hv
  obtain ⟨rfl, hsz, hP, hK⟩ := hv
  have hx := B.exec
  have hb := B.bytes
  have hr := B.returns
  have hts := atoms_spec (ws := (.code yX1_settlePerson cX1_settlePerson 7 none :: lw_good)) B.pre
  have htg : ∀ w ∈ lw_good, w.before _ s = true := fun w hw => hts w (List.mem_cons_of_mem _ hw)
  have hown : s.vm.findClass RX1 = some m.cls := findClass_of_methodNamed B.named
  have hlocks := B.notSynchronized
  subst hsz
  have hS : va_S (aX ob ad s.heap.size) s.heap s.heap [] := va_S.rf
  have hl := lv_entry ([.ref (ob 8), .int pp, .int b]) (n := 7) (Nat.le_of_ble_eq_true rfl)
  rw [lg_entry_eq]
  generalize (lg_sl ([.ref (ob 8), .int pp, .int b]) ++ List.replicate (7 - (lg_sl ([.ref (ob 8), .int pp, .int b])).length) Slot.unset).toArray = ls at hl ⊢
  have hl : lv_has ls 7 [(0, .ref (ob 8)), (1, .int pp), (2, .int b)] := hl
  refine lv_aload_n hx hb dX1_settlePerson_0 rfl (lv_at hl 0 rfl) ?_
  refine gX_X1_9 hx hb htg hown hK hP dX1_settlePerson_1 ?_
  refine gX_X1_129 hx hb htg hown hK hP dX1_settlePerson_4 ?_
  refine lv_astore_n (lv' := [(3, .ref (ob 3)), (0, .ref (ob 8)), (1, .int pp), (2, .int b)]) hx hb dX1_settlePerson_7 rfl hl (by decide) rfl (fun ls hl => ?_)
  refine lv_aload_n hx hb dX1_settlePerson_8 rfl (lv_at hl 1 rfl) ?_
  refine gX_X1_42 hx hb htg hown hK hP dX1_settlePerson_9 ?_
  refine lv_iload_n hx hb dX1_settlePerson_12 rfl (lv_at hl 2 rfl) ?_
  refine lX_46 hx hb hK hP (iv_in h_pp (by decide) (by decide)) dX1_settlePerson_13 (fun v_1 ev_1 => ?_)
  refine lv_iconst (v := (-1)) hx hb dX1_settlePerson_14 (by decide) ?_
  refine lv_icmp_ne (tgt := 24) hx hb dX1_settlePerson_15 (by decide) (fun c_2 => ?_) (fun c_2 => ?_)
  · skip
    have k_3 : ¬ v_1.toInt = (-1) := fun q => c_2 (Int32.toInt_inj.mp q)
    refine lv_aload_n hx hb dX1_settlePerson_24 rfl (lv_at hl 1 rfl) ?_
    refine gX_X1_42 hx hb htg hown hK hP dX1_settlePerson_25 ?_
    refine lv_iload_n hx hb dX1_settlePerson_28 rfl (lv_at hl 2 rfl) ?_
    refine lX_46 hx hb hK hP (iv_in h_pp (by decide) (by decide)) dX1_settlePerson_29 (fun v_4 ev_4 => ?_)
    obtain rfl : v_1 = v_4 := ev_1.trans ev_4.symm
    refine lv_istore (lv' := [(4, .int v_1), (3, .ref (ob 3)), (0, .ref (ob 8)), (1, .int pp), (2, .int b)]) hx hb dX1_settlePerson_30 hl (by decide) rfl (fun ls hl => ?_)
    refine lv_iconst (v := 0) hx hb dX1_settlePerson_32 (by decide) ?_
    refine lv_iload hx hb dX1_settlePerson_33 (lv_at hl 0 rfl) ?_
    refine lv_aload_n hx hb dX1_settlePerson_35 rfl (lv_at hl 1 rfl) ?_
    refine gX_X1_259 hx hb htg hown hK hP dX1_settlePerson_36 ?_
    refine lv_iload_n hx hb dX1_settlePerson_39 rfl (lv_at hl 3 rfl) ?_
    refine lX_10 hx hb hK hP (iv_in h_pp (by decide) (by decide)) dX1_settlePerson_40 (fun v_5 ev_5 => ?_)
    refine lv_isub hx hb dX1_settlePerson_41 ?_
    refine lv_topi (fun v_6 ev_6 => ?_)
    refine va_mmax hx hb (hml.trans hl.1.symm) hown (htg (.methodLink RX1 220 Lib.Math.max.name) kw_5_156) (htg (.static Lib.Math.max.name) kw_4_28) (htg (.initialized RJ9) kw_1_16) (htg (.code Lib.Math.max.name Lib.Math.max.code 2 (some .int)) kw_4_29) (Nat.le_of_ble_eq_true rfl) (Nat.le_of_ble_eq_true rfl) (Nat.le_of_ble_eq_true rfl) (Nat.le_of_ble_eq_true rfl) dX1_settlePerson_42 ?_
    refine lv_topi (fun v_7 ev_7 => ?_)
    have i_8 : 0 ≤ v_7.toInt ∧ v_7.toInt ≤ 2147483647 := ix_max ev_7 (⟨by decide, by decide⟩ : (0 : Int) ≤ (0 : Int32).toInt ∧ (0 : Int32).toInt ≤ 0) (iv_any v_6) (by decide) (by decide)
    refine lv_istore (lv' := [(5, .int v_7), (4, .int v_1), (3, .ref (ob 3)), (0, .ref (ob 8)), (1, .int pp), (2, .int b)]) hx hb dX1_settlePerson_45 hl (by decide) rfl (fun ls hl => ?_)
    refine lv_iconst (v := 0) hx hb dX1_settlePerson_47 (by decide) ?_
    refine lv_aload_n hx hb dX1_settlePerson_48 rfl (lv_at hl 2 rfl) ?_
    refine gX_X1_298 hx hb htg hown hK hP dX1_settlePerson_49 ?_
    refine lv_iload_n hx hb dX1_settlePerson_52 rfl (lv_at hl 4 rfl) ?_
    refine lX_8 hx hb hK hP (iv_in h_pp (by decide) (by decide)) dX1_settlePerson_53 (fun v_9 ev_9 => ?_)
    refine lv_iload_n hx hb dX1_settlePerson_54 rfl (lv_at hl 5 rfl) ?_
    refine lv_iload hx hb dX1_settlePerson_55 (lv_at hl 0 rfl) ?_
    refine lv_bipush (v := 10) hx hb dX1_settlePerson_57 (by decide) ?_
    refine lv_idiv hx hb dX1_settlePerson_59 (by decide) ?_
    refine lv_topi (fun v_10 ev_10 => ?_)
    refine lv_imul hx hb dX1_settlePerson_60 ?_
    refine lv_topi (fun v_11 ev_11 => ?_)
    refine lv_isub hx hb dX1_settlePerson_61 ?_
    refine lv_topi (fun v_12 ev_12 => ?_)
    refine va_mmax hx hb (hml.trans hl.1.symm) hown (htg (.methodLink RX1 220 Lib.Math.max.name) kw_5_156) (htg (.static Lib.Math.max.name) kw_4_28) (htg (.initialized RJ9) kw_1_16) (htg (.code Lib.Math.max.name Lib.Math.max.code 2 (some .int)) kw_4_29) (Nat.le_of_ble_eq_true rfl) (Nat.le_of_ble_eq_true rfl) (Nat.le_of_ble_eq_true rfl) (Nat.le_of_ble_eq_true rfl) dX1_settlePerson_62 ?_
    refine lv_topi (fun v_13 ev_13 => ?_)
    have i_14 : 0 ≤ v_13.toInt ∧ v_13.toInt ≤ 2147483647 := ix_max ev_13 (⟨by decide, by decide⟩ : (0 : Int) ≤ (0 : Int32).toInt ∧ (0 : Int32).toInt ≤ 0) (iv_any v_12) (by decide) (by decide)
    refine lv_istore (lv' := [(6, .int v_13), (5, .int v_7), (4, .int v_1), (3, .ref (ob 3)), (0, .ref (ob 8)), (1, .int pp), (2, .int b)]) hx hb dX1_settlePerson_65 hl (by decide) rfl (fun ls hl => ?_)
    refine lv_aload_n hx hb dX1_settlePerson_67 rfl (lv_at hl 3 rfl) ?_
    refine gX_X1_301 hx hb htg hown hK hP dX1_settlePerson_68 ?_
    refine lv_iload_n hx hb dX1_settlePerson_71 rfl (lv_at hl 5 rfl) ?_
    refine lv_aload_n hx hb dX1_settlePerson_72 rfl (lv_at hl 4 rfl) ?_
    refine gX_X1_42 hx hb htg hown hK hP dX1_settlePerson_73 ?_
    refine lv_iload_n hx hb dX1_settlePerson_76 rfl (lv_at hl 5 rfl) ?_
    refine lX_46 hx hb hK hP (iv_in h_pp (by decide) (by decide)) dX1_settlePerson_77 (fun v_15 ev_15 => ?_)
    obtain rfl : v_1 = v_15 := ev_1.trans ev_15.symm
    refine sX_15 hx hb hK hP hS hd (iv_in h_pp (by decide) (by decide)) dX1_settlePerson_78 (fun H locs ar_16 ear_16 hP hS => ?_)
    have hA_ar_16 : rB ar_16 := rB_put hA_ar ear_16 (iv_any _)
    refine lv_aload_n hx hb dX1_settlePerson_79 rfl (lv_at hl 3 rfl) ?_
    refine gX_X1_302 hx hb htg hown hK hP dX1_settlePerson_80 ?_
    refine lv_iload_n hx hb dX1_settlePerson_83 rfl (lv_at hl 5 rfl) ?_
    refine lv_iload hx hb dX1_settlePerson_84 (lv_at hl 1 rfl) ?_
    refine sX_16 hx hb hK hP hS hd (iv_in h_pp (by decide) (by decide)) dX1_settlePerson_86 (fun H locs ar_17 ear_17 hP hS => ?_)
    have hA_ar_17 : rB ar_17 := rB_put hA_ar_16 ear_17 (iv_any _)
    refine lv_aload_n hx hb dX1_settlePerson_87 rfl (lv_at hl 3 rfl) ?_
    refine gX_X1_305 hx hb htg hown hK hP dX1_settlePerson_88 ?_
    refine lv_iload_n hx hb dX1_settlePerson_91 rfl (lv_at hl 5 rfl) ?_
    refine lv_aload_n hx hb dX1_settlePerson_92 rfl (lv_at hl 4 rfl) ?_
    refine gX_X1_45 hx hb htg hown hK hP dX1_settlePerson_93 ?_
    refine lv_iload_n hx hb dX1_settlePerson_96 rfl (lv_at hl 5 rfl) ?_
    refine lX_47 hx hb hK hP (iv_in h_pp (by decide) (by decide)) dX1_settlePerson_97 (fun v_18 ev_18 => ?_)
    refine sX_17 hx hb hK hP hS hd (iv_in h_pp (by decide) (by decide)) dX1_settlePerson_98 (fun H locs ar_19 ear_19 hP hS => ?_)
    have hA_ar_19 : rB ar_19 := rB_put hA_ar_17 ear_19 (iv_any _)
    refine lv_aload_n hx hb dX1_settlePerson_99 rfl (lv_at hl 3 rfl) ?_
    refine gX_X1_306 hx hb htg hown hK hP dX1_settlePerson_100 ?_
    refine lv_iload_n hx hb dX1_settlePerson_103 rfl (lv_at hl 5 rfl) ?_
    refine lv_aload_n hx hb dX1_settlePerson_104 rfl (lv_at hl 4 rfl) ?_
    refine gX_X1_48 hx hb htg hown hK hP dX1_settlePerson_105 ?_
    refine lv_iload_n hx hb dX1_settlePerson_108 rfl (lv_at hl 5 rfl) ?_
    refine lX_48 hx hb hK hP (iv_in h_pp (by decide) (by decide)) dX1_settlePerson_109 (fun v_20 ev_20 => ?_)
    refine sX_18 hx hb hK hP hS hd (iv_in h_pp (by decide) (by decide)) dX1_settlePerson_110 (fun H locs ar_21 ear_21 hP hS => ?_)
    have hA_ar_21 : rB ar_21 := rB_put hA_ar_19 ear_21 (iv_any _)
    refine lv_aload_n hx hb dX1_settlePerson_111 rfl (lv_at hl 3 rfl) ?_
    refine gX_X1_136 hx hb htg hown hK hP dX1_settlePerson_112 ?_
    refine lv_iload_n hx hb dX1_settlePerson_115 rfl (lv_at hl 5 rfl) ?_
    refine lv_aload_n hx hb dX1_settlePerson_116 rfl (lv_at hl 4 rfl) ?_
    refine gX_X1_35 hx hb htg hown hK hP dX1_settlePerson_117 ?_
    refine lv_iload_n hx hb dX1_settlePerson_120 rfl (lv_at hl 5 rfl) ?_
    refine lX_44 hx hb hK hP (iv_in h_pp (by decide) (by decide)) dX1_settlePerson_121 (fun v_22 ev_22 => ?_)
    refine lv_iload hx hb dX1_settlePerson_122 (lv_at hl 0 rfl) ?_
    refine lv_iadd hx hb dX1_settlePerson_124 ?_
    refine lv_topi (fun v_23 ev_23 => ?_)
    refine lv_ldcw hx hb hown (htg (.constant RX1 307 100000) kw_5_220) dX1_settlePerson_125 ?_
    refine va_mmin hx hb (hml.trans hl.1.symm) hown (htg (.methodLink RX1 266 Lib.Math.min.name) kw_5_188) (htg (.static Lib.Math.min.name) kw_3_151) (htg (.initialized RJ9) kw_1_16) (htg (.code Lib.Math.min.name Lib.Math.min.code 2 (some .int)) kw_3_152) (Nat.le_of_ble_eq_true rfl) (Nat.le_of_ble_eq_true rfl) (Nat.le_of_ble_eq_true rfl) (Nat.le_of_ble_eq_true rfl) dX1_settlePerson_128 ?_
    refine lv_topi (fun v_24 ev_24 => ?_)
    have i_25 : (-2147483648) ≤ v_24.toInt ∧ v_24.toInt ≤ 100000 := ix_min ev_24 (iv_any v_23) (⟨by decide, by decide⟩ : (100000 : Int) ≤ (100000 : Int32).toInt ∧ (100000 : Int32).toInt ≤ 100000) (by decide) (by decide)
    refine sX_13 hx hb hK hP hS hd (iv_in h_pp (by decide) (by decide)) dX1_settlePerson_131 (fun H locs ar_26 ear_26 hP hS => ?_)
    have hA_ar_26 : rB ar_26 := rB_put hA_ar_21 ear_26 (iv_any _)
    refine lv_aload_n hx hb dX1_settlePerson_132 rfl (lv_at hl 3 rfl) ?_
    refine gX_X1_217 hx hb htg hown hK hP dX1_settlePerson_133 ?_
    refine lv_iload_n hx hb dX1_settlePerson_136 rfl (lv_at hl 5 rfl) ?_
    refine lv_dup2_11 hx hb dX1_settlePerson_137 rfl rfl ?_
    refine lX_19 hx hb hK hP (iv_in h_pp (by decide) (by decide)) dX1_settlePerson_138 (fun v_27 ev_27 => ?_)
    refine lv_aload_n hx hb dX1_settlePerson_139 rfl (lv_at hl 4 rfl) ?_
    refine gX_X1_45 hx hb htg hown hK hP dX1_settlePerson_140 ?_
    refine lv_iload_n hx hb dX1_settlePerson_143 rfl (lv_at hl 5 rfl) ?_
    refine lX_47 hx hb hK hP (iv_in h_pp (by decide) (by decide)) dX1_settlePerson_144 (fun v_28 ev_28 => ?_)
    obtain rfl : v_18 = v_28 := ev_18.trans ((congrFun ((fA_put (fA_put (fA_put (fA_rf [13, 17, 18] _) ear_19 (by decide)) ear_21 (by decide)) ear_26 (by decide)) 47 rfl) _).symm.trans ev_28.symm)
    refine lv_iadd hx hb dX1_settlePerson_145 ?_
    refine lv_topi (fun v_29 ev_29 => ?_)
    refine sX_19 hx hb hK hP hS hd (iv_in h_pp (by decide) (by decide)) dX1_settlePerson_146 (fun H locs ar_30 ear_30 hP hS => ?_)
    have hA_ar_30 : rB ar_30 := rB_put hA_ar_26 ear_30 (iv_any _)
    refine lv_aload_n hx hb dX1_settlePerson_147 rfl (lv_at hl 3 rfl) ?_
    refine gX_X1_137 hx hb htg hown hK hP dX1_settlePerson_148 ?_
    refine lv_iload_n hx hb dX1_settlePerson_151 rfl (lv_at hl 5 rfl) ?_
    refine lv_aload_n hx hb dX1_settlePerson_152 rfl (lv_at hl 4 rfl) ?_
    refine gX_X1_39 hx hb htg hown hK hP dX1_settlePerson_153 ?_
    refine lv_iload_n hx hb dX1_settlePerson_156 rfl (lv_at hl 5 rfl) ?_
    refine lX_45 hx hb hK hP (iv_in h_pp (by decide) (by decide)) dX1_settlePerson_157 (fun v_31 ev_31 => ?_)
    refine sX_12 hx hb hK hP hS hd (iv_in h_pp (by decide) (by decide)) dX1_settlePerson_158 (fun H locs ar_32 ear_32 hP hS => ?_)
    have hA_ar_32 : rB ar_32 := rB_put hA_ar_30 ear_32 (iv_any _)
    exact W.vret hx hb hr (fun t ht hW => ⟨⟨(fv, wd, ar_32), rfl, ⟨hF_fv, hA_ar_32, (fM_rf [] _), (fA_put (fA_put (fA_put (fA_put (fA_put (fA_put (fA_put (fA_rf [12, 13, 15, 16, 17, 18, 19] _) ear_16 (by decide)) ear_17 (by decide)) ear_19 (by decide)) ear_21 (by decide)) ear_26 (by decide)) ear_30 (by decide)) ear_32 (by decide)), rfl, (show mx_s1 ar ar_32 b (pp.toInt.toNat) from by have hl9 : mo_late (ar 46 (pp.toInt.toNat)) (ar 10 (pp.toInt.toNat)) = v_7 := (by rw [show ar 46 (pp.toInt.toNat) = v_1 from ((show v_1 = ar 46 (pp.toInt.toNat) from by rw [ev_1]; exact congrArg (ar 46) (show pp.toInt.toNat = (pp.toInt.toNat) from by omega))).symm, show ar 10 (pp.toInt.toNat) = v_5 from ((show v_5 = ar 10 (pp.toInt.toNat) from by rw [ev_5]; exact congrArg (ar 10) (show pp.toInt.toNat = (pp.toInt.toNat) from by omega))).symm]; unfold mo_late; rw [show (if v_1.toInt = -1 then (840 : Int32) else v_1) = v_1 from if_neg (by omega), ← ev_6]; exact (mx_max0 ev_7).symm); have hw9 : mo_wage b (ar 8 (pp.toInt.toNat)) v_7 = v_13 := (by rw [show ar 8 (pp.toInt.toNat) = v_9 from ((show v_9 = ar 8 (pp.toInt.toNat) from by rw [ev_9]; exact congrArg (ar 8) (show pp.toInt.toNat = (pp.toInt.toNat) from by omega))).symm]; unfold mo_wage; rw [← ev_10, ← ev_11, ← ev_12]; exact (mx_max0 ev_13).symm); have hu9 : mo_pur (ar 44 (pp.toInt.toNat)) v_13 = v_24 := (by rw [show ar 44 (pp.toInt.toNat) = v_22 from ((show v_22 = ar 44 (pp.toInt.toNat) from by rw [ev_22, show ar_21 44 = ar 44 from ((fA_put (fA_put (fA_put (fA_put (fA_rf [15, 16, 17, 18] _) ear_16 (by decide)) ear_17 (by decide)) ear_19 (by decide)) ear_21 (by decide)) 44 rfl)]; exact congrArg (ar 44) (show pp.toInt.toNat = (pp.toInt.toNat) from by omega))).symm]; unfold mo_pur; rw [← ev_23]; exact (mx_min5 ev_24).symm); exact mx_s1_of (x12 := v_31) (x13 := v_24) (x15 := v_1) (x16 := v_7) (x17 := v_18) (x18 := v_20) (x19 := v_29) (fun i9 => by rw [ear_32]; show (if i9 = Int32.toNatClampNeg pp then v_31 else ar_30 12 i9) = _; rw [show ar_30 12 = ar 12 from ((fA_put (fA_put (fA_put (fA_put (fA_put (fA_put (fA_rf [13, 15, 16, 17, 18, 19] _) ear_16 (by decide)) ear_17 (by decide)) ear_19 (by decide)) ear_21 (by decide)) ear_26 (by decide)) ear_30 (by decide)) 12 rfl)]; rfl) (fun i9 => by rw [show ar_32 13 = ar_26 13 from ((fA_put (fA_put (fA_rf [12, 19] _) ear_30 (by decide)) ear_32 (by decide)) 13 rfl), ear_26]; show (if i9 = Int32.toNatClampNeg pp then v_24 else ar_21 13 i9) = _; rw [show ar_21 13 = ar 13 from ((fA_put (fA_put (fA_put (fA_put (fA_rf [15, 16, 17, 18] _) ear_16 (by decide)) ear_17 (by decide)) ear_19 (by decide)) ear_21 (by decide)) 13 rfl)]; rfl) (fun i9 => by rw [show ar_32 15 = ar_16 15 from ((fA_put (fA_put (fA_put (fA_put (fA_put (fA_put (fA_rf [12, 13, 16, 17, 18, 19] _) ear_17 (by decide)) ear_19 (by decide)) ear_21 (by decide)) ear_26 (by decide)) ear_30 (by decide)) ear_32 (by decide)) 15 rfl), ear_16]; show (if i9 = Int32.toNatClampNeg pp then v_1 else ar 15 i9) = _; rfl) (fun i9 => by rw [show ar_32 16 = ar_17 16 from ((fA_put (fA_put (fA_put (fA_put (fA_put (fA_rf [12, 13, 17, 18, 19] _) ear_19 (by decide)) ear_21 (by decide)) ear_26 (by decide)) ear_30 (by decide)) ear_32 (by decide)) 16 rfl), ear_17]; show (if i9 = Int32.toNatClampNeg pp then v_7 else ar_16 16 i9) = _; rw [show ar_16 16 = ar 16 from ((fA_put (fA_rf [15] _) ear_16 (by decide)) 16 rfl)]; rfl) (fun i9 => by rw [show ar_32 17 = ar_19 17 from ((fA_put (fA_put (fA_put (fA_put (fA_rf [12, 13, 18, 19] _) ear_21 (by decide)) ear_26 (by decide)) ear_30 (by decide)) ear_32 (by decide)) 17 rfl), ear_19]; show (if i9 = Int32.toNatClampNeg pp then v_18 else ar_17 17 i9) = _; rw [show ar_17 17 = ar 17 from ((fA_put (fA_put (fA_rf [15, 16] _) ear_16 (by decide)) ear_17 (by decide)) 17 rfl)]; rfl) (fun i9 => by rw [show ar_32 18 = ar_21 18 from ((fA_put (fA_put (fA_put (fA_rf [12, 13, 19] _) ear_26 (by decide)) ear_30 (by decide)) ear_32 (by decide)) 18 rfl), ear_21]; show (if i9 = Int32.toNatClampNeg pp then v_20 else ar_19 18 i9) = _; rw [show ar_19 18 = ar 18 from ((fA_put (fA_put (fA_put (fA_rf [15, 16, 17] _) ear_16 (by decide)) ear_17 (by decide)) ear_19 (by decide)) 18 rfl)]; rfl) (fun i9 => by rw [show ar_32 19 = ar_30 19 from ((fA_put (fA_rf [12] _) ear_32 (by decide)) 19 rfl), ear_30]; show (if i9 = Int32.toNatClampNeg pp then v_29 else ar_26 19 i9) = _; rw [show ar_26 19 = ar 19 from ((fA_put (fA_put (fA_put (fA_put (fA_put (fA_rf [13, 15, 16, 17, 18] _) ear_16 (by decide)) ear_17 (by decide)) ear_19 (by decide)) ear_21 (by decide)) ear_26 (by decide)) 19 rfl)]; rfl) (show ar 45 (pp.toInt.toNat) = v_31 from ((show v_31 = ar 45 (pp.toInt.toNat) from by rw [ev_31, show ar_30 45 = ar 45 from ((fA_put (fA_put (fA_put (fA_put (fA_put (fA_put (fA_rf [13, 15, 16, 17, 18, 19] _) ear_16 (by decide)) ear_17 (by decide)) ear_19 (by decide)) ear_21 (by decide)) ear_26 (by decide)) ear_30 (by decide)) 45 rfl)]; exact congrArg (ar 45) (show pp.toInt.toNat = (pp.toInt.toNat) from by omega))).symm) (by rw [hl9, hw9]; exact hu9) (show ar 46 (pp.toInt.toNat) = v_1 from ((show v_1 = ar 46 (pp.toInt.toNat) from by rw [ev_1]; exact congrArg (ar 46) (show pp.toInt.toNat = (pp.toInt.toNat) from by omega))).symm) hl9 (show ar 47 (pp.toInt.toNat) = v_18 from ((show v_18 = ar 47 (pp.toInt.toNat) from by rw [ev_18, show ar_17 47 = ar 47 from ((fA_put (fA_put (fA_rf [15, 16] _) ear_16 (by decide)) ear_17 (by decide)) 47 rfl)]; exact congrArg (ar 47) (show pp.toInt.toNat = (pp.toInt.toNat) from by omega))).symm) (show ar 48 (pp.toInt.toNat) = v_20 from ((show v_20 = ar 48 (pp.toInt.toNat) from by rw [ev_20, show ar_19 48 = ar 48 from ((fA_put (fA_put (fA_put (fA_rf [15, 16, 17] _) ear_16 (by decide)) ear_17 (by decide)) ear_19 (by decide)) 48 rfl)]; exact congrArg (ar 48) (show pp.toInt.toNat = (pp.toInt.toNat) from by omega))).symm) (by rw [show ar 19 (pp.toInt.toNat) = v_27 from ((show v_27 = ar 19 (pp.toInt.toNat) from by rw [ev_27, show ar_26 19 = ar 19 from ((fA_put (fA_put (fA_put (fA_put (fA_put (fA_rf [13, 15, 16, 17, 18] _) ear_16 (by decide)) ear_17 (by decide)) ear_19 (by decide)) ear_21 (by decide)) ear_26 (by decide)) 19 rfl)]; exact congrArg (ar 19) (show pp.toInt.toNat = (pp.toInt.toNat) from by omega))).symm, show ar 47 (pp.toInt.toNat) = v_18 from ((show v_18 = ar 47 (pp.toInt.toNat) from by rw [ev_18, show ar_17 47 = ar 47 from ((fA_put (fA_put (fA_rf [15, 16] _) ear_16 (by decide)) ear_17 (by decide)) 47 rfl)]; rfl)).symm]; exact ev_29.symm)), trivial⟩, ⟨by rw [ht]; exact hP, va_K.moved hW.alike hK⟩⟩, hS.F ht⟩) hS.2.2 dX1_settlePerson_159
  · skip
    have i_33 : (-1) ≤ v_1.toInt ∧ v_1.toInt ≤ (-1) := iv_eq1 (⟨by decide, by decide⟩ : (-1 : Int) ≤ ((-1) : Int32).toInt ∧ ((-1) : Int32).toInt ≤ -1) c_2
    refine lv_sipush (v := 840) hx hb dX1_settlePerson_18 (by decide) ?_
    refine lv_goto (tgt := 30) hx hb dX1_settlePerson_21 (by decide) ?_
    refine lv_istore (lv' := [(4, .int 840), (3, .ref (ob 3)), (0, .ref (ob 8)), (1, .int pp), (2, .int b)]) hx hb dX1_settlePerson_30 hl (by decide) rfl (fun ls hl => ?_)
    refine lv_iconst (v := 0) hx hb dX1_settlePerson_32 (by decide) ?_
    refine lv_iload hx hb dX1_settlePerson_33 (lv_at hl 0 rfl) ?_
    refine lv_aload_n hx hb dX1_settlePerson_35 rfl (lv_at hl 1 rfl) ?_
    refine gX_X1_259 hx hb htg hown hK hP dX1_settlePerson_36 ?_
    refine lv_iload_n hx hb dX1_settlePerson_39 rfl (lv_at hl 3 rfl) ?_
    refine lX_10 hx hb hK hP (iv_in h_pp (by decide) (by decide)) dX1_settlePerson_40 (fun v_35 ev_35 => ?_)
    refine lv_isub hx hb dX1_settlePerson_41 ?_
    refine lv_topi (fun v_36 ev_36 => ?_)
    refine va_mmax hx hb (hml.trans hl.1.symm) hown (htg (.methodLink RX1 220 Lib.Math.max.name) kw_5_156) (htg (.static Lib.Math.max.name) kw_4_28) (htg (.initialized RJ9) kw_1_16) (htg (.code Lib.Math.max.name Lib.Math.max.code 2 (some .int)) kw_4_29) (Nat.le_of_ble_eq_true rfl) (Nat.le_of_ble_eq_true rfl) (Nat.le_of_ble_eq_true rfl) (Nat.le_of_ble_eq_true rfl) dX1_settlePerson_42 ?_
    refine lv_topi (fun v_37 ev_37 => ?_)
    have i_38 : 0 ≤ v_37.toInt ∧ v_37.toInt ≤ 2147483647 := ix_max ev_37 (⟨by decide, by decide⟩ : (0 : Int) ≤ (0 : Int32).toInt ∧ (0 : Int32).toInt ≤ 0) (iv_any v_36) (by decide) (by decide)
    refine lv_istore (lv' := [(5, .int v_37), (4, .int 840), (3, .ref (ob 3)), (0, .ref (ob 8)), (1, .int pp), (2, .int b)]) hx hb dX1_settlePerson_45 hl (by decide) rfl (fun ls hl => ?_)
    refine lv_iconst (v := 0) hx hb dX1_settlePerson_47 (by decide) ?_
    refine lv_aload_n hx hb dX1_settlePerson_48 rfl (lv_at hl 2 rfl) ?_
    refine gX_X1_298 hx hb htg hown hK hP dX1_settlePerson_49 ?_
    refine lv_iload_n hx hb dX1_settlePerson_52 rfl (lv_at hl 4 rfl) ?_
    refine lX_8 hx hb hK hP (iv_in h_pp (by decide) (by decide)) dX1_settlePerson_53 (fun v_39 ev_39 => ?_)
    refine lv_iload_n hx hb dX1_settlePerson_54 rfl (lv_at hl 5 rfl) ?_
    refine lv_iload hx hb dX1_settlePerson_55 (lv_at hl 0 rfl) ?_
    refine lv_bipush (v := 10) hx hb dX1_settlePerson_57 (by decide) ?_
    refine lv_idiv hx hb dX1_settlePerson_59 (by decide) ?_
    refine lv_topi (fun v_40 ev_40 => ?_)
    refine lv_imul hx hb dX1_settlePerson_60 ?_
    refine lv_topi (fun v_41 ev_41 => ?_)
    refine lv_isub hx hb dX1_settlePerson_61 ?_
    refine lv_topi (fun v_42 ev_42 => ?_)
    refine va_mmax hx hb (hml.trans hl.1.symm) hown (htg (.methodLink RX1 220 Lib.Math.max.name) kw_5_156) (htg (.static Lib.Math.max.name) kw_4_28) (htg (.initialized RJ9) kw_1_16) (htg (.code Lib.Math.max.name Lib.Math.max.code 2 (some .int)) kw_4_29) (Nat.le_of_ble_eq_true rfl) (Nat.le_of_ble_eq_true rfl) (Nat.le_of_ble_eq_true rfl) (Nat.le_of_ble_eq_true rfl) dX1_settlePerson_62 ?_
    refine lv_topi (fun v_43 ev_43 => ?_)
    have i_44 : 0 ≤ v_43.toInt ∧ v_43.toInt ≤ 2147483647 := ix_max ev_43 (⟨by decide, by decide⟩ : (0 : Int) ≤ (0 : Int32).toInt ∧ (0 : Int32).toInt ≤ 0) (iv_any v_42) (by decide) (by decide)
    refine lv_istore (lv' := [(6, .int v_43), (5, .int v_37), (4, .int 840), (3, .ref (ob 3)), (0, .ref (ob 8)), (1, .int pp), (2, .int b)]) hx hb dX1_settlePerson_65 hl (by decide) rfl (fun ls hl => ?_)
    refine lv_aload_n hx hb dX1_settlePerson_67 rfl (lv_at hl 3 rfl) ?_
    refine gX_X1_301 hx hb htg hown hK hP dX1_settlePerson_68 ?_
    refine lv_iload_n hx hb dX1_settlePerson_71 rfl (lv_at hl 5 rfl) ?_
    refine lv_aload_n hx hb dX1_settlePerson_72 rfl (lv_at hl 4 rfl) ?_
    refine gX_X1_42 hx hb htg hown hK hP dX1_settlePerson_73 ?_
    refine lv_iload_n hx hb dX1_settlePerson_76 rfl (lv_at hl 5 rfl) ?_
    refine lX_46 hx hb hK hP (iv_in h_pp (by decide) (by decide)) dX1_settlePerson_77 (fun v_45 ev_45 => ?_)
    obtain rfl : v_1 = v_45 := ev_1.trans ev_45.symm
    refine sX_15 hx hb hK hP hS hd (iv_in h_pp (by decide) (by decide)) dX1_settlePerson_78 (fun H locs ar_46 ear_46 hP hS => ?_)
    have hA_ar_46 : rB ar_46 := rB_put hA_ar ear_46 (iv_any _)
    refine lv_aload_n hx hb dX1_settlePerson_79 rfl (lv_at hl 3 rfl) ?_
    refine gX_X1_302 hx hb htg hown hK hP dX1_settlePerson_80 ?_
    refine lv_iload_n hx hb dX1_settlePerson_83 rfl (lv_at hl 5 rfl) ?_
    refine lv_iload hx hb dX1_settlePerson_84 (lv_at hl 1 rfl) ?_
    refine sX_16 hx hb hK hP hS hd (iv_in h_pp (by decide) (by decide)) dX1_settlePerson_86 (fun H locs ar_47 ear_47 hP hS => ?_)
    have hA_ar_47 : rB ar_47 := rB_put hA_ar_46 ear_47 (iv_any _)
    refine lv_aload_n hx hb dX1_settlePerson_87 rfl (lv_at hl 3 rfl) ?_
    refine gX_X1_305 hx hb htg hown hK hP dX1_settlePerson_88 ?_
    refine lv_iload_n hx hb dX1_settlePerson_91 rfl (lv_at hl 5 rfl) ?_
    refine lv_aload_n hx hb dX1_settlePerson_92 rfl (lv_at hl 4 rfl) ?_
    refine gX_X1_45 hx hb htg hown hK hP dX1_settlePerson_93 ?_
    refine lv_iload_n hx hb dX1_settlePerson_96 rfl (lv_at hl 5 rfl) ?_
    refine lX_47 hx hb hK hP (iv_in h_pp (by decide) (by decide)) dX1_settlePerson_97 (fun v_48 ev_48 => ?_)
    refine sX_17 hx hb hK hP hS hd (iv_in h_pp (by decide) (by decide)) dX1_settlePerson_98 (fun H locs ar_49 ear_49 hP hS => ?_)
    have hA_ar_49 : rB ar_49 := rB_put hA_ar_47 ear_49 (iv_any _)
    refine lv_aload_n hx hb dX1_settlePerson_99 rfl (lv_at hl 3 rfl) ?_
    refine gX_X1_306 hx hb htg hown hK hP dX1_settlePerson_100 ?_
    refine lv_iload_n hx hb dX1_settlePerson_103 rfl (lv_at hl 5 rfl) ?_
    refine lv_aload_n hx hb dX1_settlePerson_104 rfl (lv_at hl 4 rfl) ?_
    refine gX_X1_48 hx hb htg hown hK hP dX1_settlePerson_105 ?_
    refine lv_iload_n hx hb dX1_settlePerson_108 rfl (lv_at hl 5 rfl) ?_
    refine lX_48 hx hb hK hP (iv_in h_pp (by decide) (by decide)) dX1_settlePerson_109 (fun v_50 ev_50 => ?_)
    refine sX_18 hx hb hK hP hS hd (iv_in h_pp (by decide) (by decide)) dX1_settlePerson_110 (fun H locs ar_51 ear_51 hP hS => ?_)
    have hA_ar_51 : rB ar_51 := rB_put hA_ar_49 ear_51 (iv_any _)
    refine lv_aload_n hx hb dX1_settlePerson_111 rfl (lv_at hl 3 rfl) ?_
    refine gX_X1_136 hx hb htg hown hK hP dX1_settlePerson_112 ?_
    refine lv_iload_n hx hb dX1_settlePerson_115 rfl (lv_at hl 5 rfl) ?_
    refine lv_aload_n hx hb dX1_settlePerson_116 rfl (lv_at hl 4 rfl) ?_
    refine gX_X1_35 hx hb htg hown hK hP dX1_settlePerson_117 ?_
    refine lv_iload_n hx hb dX1_settlePerson_120 rfl (lv_at hl 5 rfl) ?_
    refine lX_44 hx hb hK hP (iv_in h_pp (by decide) (by decide)) dX1_settlePerson_121 (fun v_52 ev_52 => ?_)
    refine lv_iload hx hb dX1_settlePerson_122 (lv_at hl 0 rfl) ?_
    refine lv_iadd hx hb dX1_settlePerson_124 ?_
    refine lv_topi (fun v_53 ev_53 => ?_)
    refine lv_ldcw hx hb hown (htg (.constant RX1 307 100000) kw_5_220) dX1_settlePerson_125 ?_
    refine va_mmin hx hb (hml.trans hl.1.symm) hown (htg (.methodLink RX1 266 Lib.Math.min.name) kw_5_188) (htg (.static Lib.Math.min.name) kw_3_151) (htg (.initialized RJ9) kw_1_16) (htg (.code Lib.Math.min.name Lib.Math.min.code 2 (some .int)) kw_3_152) (Nat.le_of_ble_eq_true rfl) (Nat.le_of_ble_eq_true rfl) (Nat.le_of_ble_eq_true rfl) (Nat.le_of_ble_eq_true rfl) dX1_settlePerson_128 ?_
    refine lv_topi (fun v_54 ev_54 => ?_)
    have i_55 : (-2147483648) ≤ v_54.toInt ∧ v_54.toInt ≤ 100000 := ix_min ev_54 (iv_any v_53) (⟨by decide, by decide⟩ : (100000 : Int) ≤ (100000 : Int32).toInt ∧ (100000 : Int32).toInt ≤ 100000) (by decide) (by decide)
    refine sX_13 hx hb hK hP hS hd (iv_in h_pp (by decide) (by decide)) dX1_settlePerson_131 (fun H locs ar_56 ear_56 hP hS => ?_)
    have hA_ar_56 : rB ar_56 := rB_put hA_ar_51 ear_56 (iv_any _)
    refine lv_aload_n hx hb dX1_settlePerson_132 rfl (lv_at hl 3 rfl) ?_
    refine gX_X1_217 hx hb htg hown hK hP dX1_settlePerson_133 ?_
    refine lv_iload_n hx hb dX1_settlePerson_136 rfl (lv_at hl 5 rfl) ?_
    refine lv_dup2_11 hx hb dX1_settlePerson_137 rfl rfl ?_
    refine lX_19 hx hb hK hP (iv_in h_pp (by decide) (by decide)) dX1_settlePerson_138 (fun v_57 ev_57 => ?_)
    refine lv_aload_n hx hb dX1_settlePerson_139 rfl (lv_at hl 4 rfl) ?_
    refine gX_X1_45 hx hb htg hown hK hP dX1_settlePerson_140 ?_
    refine lv_iload_n hx hb dX1_settlePerson_143 rfl (lv_at hl 5 rfl) ?_
    refine lX_47 hx hb hK hP (iv_in h_pp (by decide) (by decide)) dX1_settlePerson_144 (fun v_58 ev_58 => ?_)
    obtain rfl : v_48 = v_58 := ev_48.trans ((congrFun ((fA_put (fA_put (fA_put (fA_rf [13, 17, 18] _) ear_49 (by decide)) ear_51 (by decide)) ear_56 (by decide)) 47 rfl) _).symm.trans ev_58.symm)
    refine lv_iadd hx hb dX1_settlePerson_145 ?_
    refine lv_topi (fun v_59 ev_59 => ?_)
    refine sX_19 hx hb hK hP hS hd (iv_in h_pp (by decide) (by decide)) dX1_settlePerson_146 (fun H locs ar_60 ear_60 hP hS => ?_)
    have hA_ar_60 : rB ar_60 := rB_put hA_ar_56 ear_60 (iv_any _)
    refine lv_aload_n hx hb dX1_settlePerson_147 rfl (lv_at hl 3 rfl) ?_
    refine gX_X1_137 hx hb htg hown hK hP dX1_settlePerson_148 ?_
    refine lv_iload_n hx hb dX1_settlePerson_151 rfl (lv_at hl 5 rfl) ?_
    refine lv_aload_n hx hb dX1_settlePerson_152 rfl (lv_at hl 4 rfl) ?_
    refine gX_X1_39 hx hb htg hown hK hP dX1_settlePerson_153 ?_
    refine lv_iload_n hx hb dX1_settlePerson_156 rfl (lv_at hl 5 rfl) ?_
    refine lX_45 hx hb hK hP (iv_in h_pp (by decide) (by decide)) dX1_settlePerson_157 (fun v_61 ev_61 => ?_)
    refine sX_12 hx hb hK hP hS hd (iv_in h_pp (by decide) (by decide)) dX1_settlePerson_158 (fun H locs ar_62 ear_62 hP hS => ?_)
    have hA_ar_62 : rB ar_62 := rB_put hA_ar_60 ear_62 (iv_any _)
    exact W.vret hx hb hr (fun t ht hW => ⟨⟨(fv, wd, ar_62), rfl, ⟨hF_fv, hA_ar_62, (fM_rf [] _), (fA_put (fA_put (fA_put (fA_put (fA_put (fA_put (fA_put (fA_rf [12, 13, 15, 16, 17, 18, 19] _) ear_46 (by decide)) ear_47 (by decide)) ear_49 (by decide)) ear_51 (by decide)) ear_56 (by decide)) ear_60 (by decide)) ear_62 (by decide)), rfl, (show mx_s1 ar ar_62 b (pp.toInt.toNat) from by have hl9 : mo_late (ar 46 (pp.toInt.toNat)) (ar 10 (pp.toInt.toNat)) = v_37 := (by rw [show ar 46 (pp.toInt.toNat) = v_1 from ((show v_1 = ar 46 (pp.toInt.toNat) from by rw [ev_1]; exact congrArg (ar 46) (show pp.toInt.toNat = (pp.toInt.toNat) from by omega))).symm, show ar 10 (pp.toInt.toNat) = v_35 from ((show v_35 = ar 10 (pp.toInt.toNat) from by rw [ev_35]; exact congrArg (ar 10) (show pp.toInt.toNat = (pp.toInt.toNat) from by omega))).symm]; unfold mo_late; rw [show (if v_1.toInt = -1 then (840 : Int32) else v_1) = (840 : Int32) from if_pos (by omega), ← ev_36]; exact (mx_max0 ev_37).symm); have hw9 : mo_wage b (ar 8 (pp.toInt.toNat)) v_37 = v_43 := (by rw [show ar 8 (pp.toInt.toNat) = v_39 from ((show v_39 = ar 8 (pp.toInt.toNat) from by rw [ev_39]; exact congrArg (ar 8) (show pp.toInt.toNat = (pp.toInt.toNat) from by omega))).symm]; unfold mo_wage; rw [← ev_40, ← ev_41, ← ev_42]; exact (mx_max0 ev_43).symm); have hu9 : mo_pur (ar 44 (pp.toInt.toNat)) v_43 = v_54 := (by rw [show ar 44 (pp.toInt.toNat) = v_52 from ((show v_52 = ar 44 (pp.toInt.toNat) from by rw [ev_52, show ar_51 44 = ar 44 from ((fA_put (fA_put (fA_put (fA_put (fA_rf [15, 16, 17, 18] _) ear_46 (by decide)) ear_47 (by decide)) ear_49 (by decide)) ear_51 (by decide)) 44 rfl)]; exact congrArg (ar 44) (show pp.toInt.toNat = (pp.toInt.toNat) from by omega))).symm]; unfold mo_pur; rw [← ev_53]; exact (mx_min5 ev_54).symm); exact mx_s1_of (x12 := v_61) (x13 := v_54) (x15 := v_1) (x16 := v_37) (x17 := v_48) (x18 := v_50) (x19 := v_59) (fun i9 => by rw [ear_62]; show (if i9 = Int32.toNatClampNeg pp then v_61 else ar_60 12 i9) = _; rw [show ar_60 12 = ar 12 from ((fA_put (fA_put (fA_put (fA_put (fA_put (fA_put (fA_rf [13, 15, 16, 17, 18, 19] _) ear_46 (by decide)) ear_47 (by decide)) ear_49 (by decide)) ear_51 (by decide)) ear_56 (by decide)) ear_60 (by decide)) 12 rfl)]; rfl) (fun i9 => by rw [show ar_62 13 = ar_56 13 from ((fA_put (fA_put (fA_rf [12, 19] _) ear_60 (by decide)) ear_62 (by decide)) 13 rfl), ear_56]; show (if i9 = Int32.toNatClampNeg pp then v_54 else ar_51 13 i9) = _; rw [show ar_51 13 = ar 13 from ((fA_put (fA_put (fA_put (fA_put (fA_rf [15, 16, 17, 18] _) ear_46 (by decide)) ear_47 (by decide)) ear_49 (by decide)) ear_51 (by decide)) 13 rfl)]; rfl) (fun i9 => by rw [show ar_62 15 = ar_46 15 from ((fA_put (fA_put (fA_put (fA_put (fA_put (fA_put (fA_rf [12, 13, 16, 17, 18, 19] _) ear_47 (by decide)) ear_49 (by decide)) ear_51 (by decide)) ear_56 (by decide)) ear_60 (by decide)) ear_62 (by decide)) 15 rfl), ear_46]; show (if i9 = Int32.toNatClampNeg pp then v_1 else ar 15 i9) = _; rfl) (fun i9 => by rw [show ar_62 16 = ar_47 16 from ((fA_put (fA_put (fA_put (fA_put (fA_put (fA_rf [12, 13, 17, 18, 19] _) ear_49 (by decide)) ear_51 (by decide)) ear_56 (by decide)) ear_60 (by decide)) ear_62 (by decide)) 16 rfl), ear_47]; show (if i9 = Int32.toNatClampNeg pp then v_37 else ar_46 16 i9) = _; rw [show ar_46 16 = ar 16 from ((fA_put (fA_rf [15] _) ear_46 (by decide)) 16 rfl)]; rfl) (fun i9 => by rw [show ar_62 17 = ar_49 17 from ((fA_put (fA_put (fA_put (fA_put (fA_rf [12, 13, 18, 19] _) ear_51 (by decide)) ear_56 (by decide)) ear_60 (by decide)) ear_62 (by decide)) 17 rfl), ear_49]; show (if i9 = Int32.toNatClampNeg pp then v_48 else ar_47 17 i9) = _; rw [show ar_47 17 = ar 17 from ((fA_put (fA_put (fA_rf [15, 16] _) ear_46 (by decide)) ear_47 (by decide)) 17 rfl)]; rfl) (fun i9 => by rw [show ar_62 18 = ar_51 18 from ((fA_put (fA_put (fA_put (fA_rf [12, 13, 19] _) ear_56 (by decide)) ear_60 (by decide)) ear_62 (by decide)) 18 rfl), ear_51]; show (if i9 = Int32.toNatClampNeg pp then v_50 else ar_49 18 i9) = _; rw [show ar_49 18 = ar 18 from ((fA_put (fA_put (fA_put (fA_rf [15, 16, 17] _) ear_46 (by decide)) ear_47 (by decide)) ear_49 (by decide)) 18 rfl)]; rfl) (fun i9 => by rw [show ar_62 19 = ar_60 19 from ((fA_put (fA_rf [12] _) ear_62 (by decide)) 19 rfl), ear_60]; show (if i9 = Int32.toNatClampNeg pp then v_59 else ar_56 19 i9) = _; rw [show ar_56 19 = ar 19 from ((fA_put (fA_put (fA_put (fA_put (fA_put (fA_rf [13, 15, 16, 17, 18] _) ear_46 (by decide)) ear_47 (by decide)) ear_49 (by decide)) ear_51 (by decide)) ear_56 (by decide)) 19 rfl)]; rfl) (show ar 45 (pp.toInt.toNat) = v_61 from ((show v_61 = ar 45 (pp.toInt.toNat) from by rw [ev_61, show ar_60 45 = ar 45 from ((fA_put (fA_put (fA_put (fA_put (fA_put (fA_put (fA_rf [13, 15, 16, 17, 18, 19] _) ear_46 (by decide)) ear_47 (by decide)) ear_49 (by decide)) ear_51 (by decide)) ear_56 (by decide)) ear_60 (by decide)) 45 rfl)]; exact congrArg (ar 45) (show pp.toInt.toNat = (pp.toInt.toNat) from by omega))).symm) (by rw [hl9, hw9]; exact hu9) (show ar 46 (pp.toInt.toNat) = v_1 from ((show v_1 = ar 46 (pp.toInt.toNat) from by rw [ev_1]; exact congrArg (ar 46) (show pp.toInt.toNat = (pp.toInt.toNat) from by omega))).symm) hl9 (show ar 47 (pp.toInt.toNat) = v_48 from ((show v_48 = ar 47 (pp.toInt.toNat) from by rw [ev_48, show ar_47 47 = ar 47 from ((fA_put (fA_put (fA_rf [15, 16] _) ear_46 (by decide)) ear_47 (by decide)) 47 rfl)]; exact congrArg (ar 47) (show pp.toInt.toNat = (pp.toInt.toNat) from by omega))).symm) (show ar 48 (pp.toInt.toNat) = v_50 from ((show v_50 = ar 48 (pp.toInt.toNat) from by rw [ev_50, show ar_49 48 = ar 48 from ((fA_put (fA_put (fA_put (fA_rf [15, 16, 17] _) ear_46 (by decide)) ear_47 (by decide)) ear_49 (by decide)) 48 rfl)]; exact congrArg (ar 48) (show pp.toInt.toNat = (pp.toInt.toNat) from by omega))).symm) (by rw [show ar 19 (pp.toInt.toNat) = v_57 from ((show v_57 = ar 19 (pp.toInt.toNat) from by rw [ev_57, show ar_56 19 = ar 19 from ((fA_put (fA_put (fA_put (fA_put (fA_put (fA_rf [13, 15, 16, 17, 18] _) ear_46 (by decide)) ear_47 (by decide)) ear_49 (by decide)) ear_51 (by decide)) ear_56 (by decide)) 19 rfl)]; exact congrArg (ar 19) (show pp.toInt.toNat = (pp.toInt.toNat) from by omega))).symm, show ar 47 (pp.toInt.toNat) = v_48 from ((show v_48 = ar 47 (pp.toInt.toNat) from by rw [ev_48, show ar_47 47 = ar 47 from ((fA_put (fA_put (fA_rf [15, 16] _) ear_46 (by decide)) ear_47 (by decide)) 47 rfl)]; rfl)).symm]; exact ev_59.symm)), trivial⟩, ⟨by rw [ht]; exact hP, va_K.moved hW.alike hK⟩⟩, hS.F ht⟩) hS.2.2 dX1_settlePerson_159
set_option maxHeartbeats 4000000 in
set_option maxRecDepth 100000 in
theorem x_settleE (l : Launch) (dC : Nat → ClassId) (dI : Nat → Nat → Nat) (sz : Nat) (ob ad : Nat → Nat) (cA : Nat → ClassId) (hd : dX ob ad) (fv : Nat → Int32) (wd : xT) (ar : Nat → Nat → Int32) (hF_fv : rX fv) (hA_ar : rB ar) (la : Nat) (lfr : Int32) (lra : Nat → Nat) (lrc : Nat → ClassId) (lln lcn : Nat) (llr : Nat → Nat → Int32) (hlq : lwQ lln lcn llr) (hlr : wd.2.2.1 = la) (hgd : ∀ i, i < lln → cd_gd (cd_gX llr i)) (h01 : ∀ k, k < 4 → cd_f (ar 4) k = 0 ∨ cd_f (ar 4) k = 1) : Met l yX1_settle (.code yX1_settle cX1_settle 4 none :: lw_good) ({ frames := 4, cells := 0, slots := 0, locals := 89 }) (va_Pc [.ref (ob 8)] (fun U => prX dC dI ob ad cA fv wd ar sz U ∧ lwA dC dI ob ad la lfr lra lrc lln lcn llr sz U)) (va_Qv (fun (u : xS) => rX u.1 ∧ rB u.2.2 ∧ fM [8] fv u.1 ∧ fA [12, 13, 15, 16, 17, 18, 19, 24, 25, 26, 27, 35] ar u.2.2 ∧ u.2.1.2 = wd.2 ∧ (mx_sp ar u.2.2 (mo_dkv (cd_f (ar 4)) (cd_Wf (cd_gX llr) lln 0)) ((fv 10).toInt.toNat)) ∧ (mx_c1 (ar 51) (ar 24) (u.2.2 24) ((fv 11).toInt.toNat)) ∧ (mx_c1 (ar 52) (ar 25) (u.2.2 25) ((fv 11).toInt.toNat)) ∧ (mx_c1 (ar 53) (ar 26) (u.2.2 26) ((fv 11).toInt.toNat)) ∧ (mx_c1 (ar 54) (ar 27) (u.2.2 27) ((fv 11).toInt.toNat)) ∧ (mx_c1 (ar 56) (ar 35) (u.2.2 35) ((fv 12).toInt.toNat)) ∧ (u.1 8 = fv 23) ∧ True) (enX dC dI ob ad cA) (aX ob ad sz)) 0 0 (aX ob ad sz) := by
  refine Met.ofW (cc := cX1_settle) (maxL := 4) (ret := none) (by decide) rfl ?_
  intro p e s m args below meth c s₁ B hml hv
  obtain ⟨rfl, ⟨hsz, hP, hK⟩, hL⟩ := hv
  have hx := B.exec
  have hb := B.bytes
  have hr := B.returns
  have hts := atoms_spec (ws := (.code yX1_settle cX1_settle 4 none :: lw_good)) B.pre
  have htg : ∀ w ∈ lw_good, w.before _ s = true := fun w hw => hts w (List.mem_cons_of_mem _ hw)
  have hown : s.vm.findClass RX1 = some m.cls := findClass_of_methodNamed B.named
  have hlocks := B.notSynchronized
  subst hsz
  have hS : va_S (aX ob ad s.heap.size) s.heap s.heap [] := va_S.rf
  have hl := lv_entry ([.ref (ob 8)]) (n := 4) (Nat.le_of_ble_eq_true rfl)
  rw [lg_entry_eq]
  generalize (lg_sl ([.ref (ob 8)]) ++ List.replicate (4 - (lg_sl ([.ref (ob 8)])).length) Slot.unset).toArray = ls at hl ⊢
  have hl : lv_has ls 4 [(0, .ref (ob 8))] := hl
  refine lv_aload_n hx hb dX1_settle_0 rfl (lv_at hl 0 rfl) ?_
  refine gX_X1_9 hx hb htg hown hK hP dX1_settle_1 ?_
  refine lv_aload_n hx hb dX1_settle_4 rfl (lv_at hl 0 rfl) ?_
  refine gX_X1_93 hx hb htg hown hK hP dX1_settle_5 ?_
  refine pX_X1_90 hx hb htg hown hK hP hS hd dX1_settle_8 (fun H locs fv_1 efv_1 hP hS => ?_)
  have hF_fv_1 : rX fv_1 := rX_put hF_fv efv_1 (iv_any (fv 23))
  refine lv_aload_n hx hb dX1_settle_11 rfl (lv_at hl 0 rfl) ?_
  refine gX_X1_30 hx hb htg hown hK hP dX1_settle_12 ?_
  refine my_tr (w := la) (hlr) ?_
  refine lv_bipush (v := 6) hx hb dX1_settle_15 (by decide) ?_
  refine lv_aload_n hx hb dX1_settle_17 rfl (lv_at hl 0 rfl) ?_
  refine gX_X1_9 hx hb htg hown hK hP dX1_settle_18 ?_
  refine gX_X1_281 hx hb htg hown hK hP dX1_settle_21 ?_
  refine va_calli (va_runV (As := [.int 6, .ref (ad 4)]) (rest := []) ⟨hx, hb, hml, hown, hts⟩ (x_lineForE l dC dI H.size ob ad cA hd fv_1 wd ar hF_fv_1 hA_ar la lfr lra lrc lln lcn llr hlq 6 hgd h01) (cwV 2 hts (gV kw_5_215 kw_5_31 kw_5_32 kw_1_10 kw_5_33) rfl rfl rfl (by decide +kernel) ⟨Nat.le_of_ble_eq_true rfl, Nat.le_of_ble_eq_true rfl⟩) ⟨fun a U g mk q => ⟨q.1, ⟨q.2.1.1, q.2.1.2.1, va_K.moved (u := U) (U := U.calling g mk a) (Vm.Alike.refl U.vm) q.2.1.2.2⟩, ⟨q.2.2.1, va_K.moved (u := U) (U := U.calling g mk a) (Vm.Alike.refl U.vm) q.2.2.2.1, q.2.2.2.2⟩⟩, va_recv (lw_K hL) (lw_now hL hS) (ci := 1) (q0 := 0) rfl rfl, fun U hU hW => ⟨rfl, ⟨by rw [hU], by rw [hU]; exact hP, va_K.moved hW.alike hK⟩, lw_pass hL hS hU hW.alike⟩⟩ rfl rfl hl.1 rfl (lv_room (Nat.le_of_ble_eq_true rfl)) dX1_settle_24 ⟨Nat.le_of_ble_eq_true rfl, Nat.le_of_ble_eq_true rfl⟩) hS (fun q _ h9 => aX_up hS q h9) (aX_up hS) (fun r_2 u t H1 locs ht _ hw hB _ hk1 hS => ?_)
  obtain ⟨fv_6, wd_7, ar_8⟩ := u
  obtain ⟨hF_fv_6, hA_ar_8, fr_9, fa_10, wf_11, p_3, p_4, p_5, -⟩ := hw
  have wf_11 : wd_7.2 = wd.2 := wf_11
  have hP : va_P (dC, dI) vwCl (wsX ob ad cA fv_6 wd_7 ar_8) H1 := by have h9 := hB.1; rw [ht] at h9; exact h9
  have fr_9 : fM [] fv_1 fv_6 := fr_9
  have fa_10 : fA [] ar ar_8 := fa_10
  have p_4 : r_2.toInt < lln := p_4
  have p_5 : r_2.toInt = cd_fi (cd_f (ar 4)) (6 : Int32).toInt (cd_Wf (cd_gX llr) lln 0) 0 := p_5
  generalize H1 = H at hP hS ⊢
  have lf_12 : r_2.toInt = cd_fi (cd_f (ar 4)) 6 (cd_Wf (cd_gX llr) lln 0) 0 := by have h9 := p_5; rw [show (6 : Int32).toInt = 6 from by decide] at h9; exact h9
  refine lv_istore_n (lv' := [(1, .int r_2), (0, .ref (ob 8))]) hx hb dX1_settle_27 rfl hl (by decide) rfl (fun ls hl => ?_)
  refine lv_iload_n hx hb dX1_settle_28 rfl (lv_at hl 0 rfl) ?_
  refine lv_iconst (v := (-1)) hx hb dX1_settle_29 (by decide) ?_
  refine my_cut (P := fun R9 a9 Q9 => ∀ (x_19 : Int32) (H : Heap) (locs : List Loc) (ls : Array Slot), (x_19 = (mo_dkv (cd_f (ar 4)) (cd_Wf (cd_gX llr) lln 0))) → va_P (dC, dI) vwCl (wsX ob ad cA fv_6 wd_7 ar_8) H → va_S (aX ob ad s.heap.size) s.heap H locs → lv_has ls 4 [(0, .ref (ob 8))] → W p l e R9 s m a9 below meth c H locs 0 0 Q9 (F0 m 46 ls [.int x_19])) ?_ (fun hj_21 => ?_)
  · intro x_19 H locs ls q_20 hP hS hl
    refine lv_istore_n (lv' := [(2, .int x_19), (0, .ref (ob 8))]) hx hb dX1_settle_46 rfl hl (by decide) rfl (fun ls hl => ?_)
    refine lv_iconst (v := 0) hx hb dX1_settle_47 (by decide) ?_
    refine lv_istore_n (lv' := [(3, .int 0), (2, .int x_19), (0, .ref (ob 8))]) hx hb dX1_settle_48 rfl hl (by decide) rfl (fun ls hl => ?_)
    refine my_cut (P := fun R9 a9 Q9 => ∀ (n_31 : Nat) (x_22 : Int32) (fv_23 : Nat → Int32) (ar_25 : Nat → Nat → Int32) (wd_27 : xT) (H : Heap) (locs : List Loc) (ls : Array Slot), 40 - x_22.toInt < (n_31 : Int) → (0 ≤ x_22.toInt ∧ x_22.toInt ≤ 40) → rX fv_23 → fM [] fv_6 fv_23 → rB ar_25 → fA [12, 13, 15, 16, 17, 18, 19] ar_8 ar_25 → wd_27.2 = wd_7.2 → (mx_sp ar ar_25 (mo_dkv (cd_f (ar 4)) (cd_Wf (cd_gX llr) lln 0)) (x_22.toInt.toNat)) → (x_22.toInt ≤ (fv 10).toInt) → va_P (dC, dI) vwCl (wsX ob ad cA fv_23 wd_27 ar_25) H → va_S (aX ob ad s.heap.size) s.heap H locs → lv_has ls 4 [(0, .ref (ob 8)), (2, .int x_19), (3, .int x_22)] → W p l e R9 s m a9 below meth c H locs 0 0 Q9 (F0 m 49 ls [])) ?_ (fun hj_33 => ?_)
    · intro n_31
      induction n_31 with
      | zero => intro x_22 fv_23 ar_25 wd_27 H locs ls fu_32 i_x_22 hF_fv_23 fr_24 hA_ar_25 fa_26 wf_28 q_29 q_30; exfalso; omega
      | succ n_31 ih_31 =>
        intro x_22 fv_23 ar_25 wd_27 H locs ls fu_32 i_x_22 hF_fv_23 fr_24 hA_ar_25 fa_26 wf_28 q_29 q_30 hP hS hl
        refine lv_iload_n hx hb dX1_settle_49 rfl (lv_at hl 2 rfl) ?_
        refine lv_aload_n hx hb dX1_settle_50 rfl (lv_at hl 0 rfl) ?_
        refine gX_X1_9 hx hb htg hown hK hP dX1_settle_51 ?_
        refine gX_X1_129 hx hb htg hown hK hP dX1_settle_54 ?_
        refine gX_X1_133 hx hb htg hown hK hP dX1_settle_57 ?_
        refine my_ti (y := fv 10) ((fr_24 10 rfl).trans ((fr_9 10 rfl).trans ((congrFun efv_1 10)))) ?_
        have i_34 : 0 ≤ (fv 10).toInt ∧ (fv 10).toInt ≤ 40 := hF_fv 10
        refine lv_icmp_ge (tgt := 75) hx hb dX1_settle_60 (by decide) (fun c_35 => ?_) (fun c_35 => ?_)
        · skip
          have k_36 := Int32.le_iff_toInt_le.mp c_35
          refine lv_iconst (v := 0) hx hb dX1_settle_75 (by decide) ?_
          refine lv_istore_n (lv' := [(3, .int 0), (0, .ref (ob 8)), (2, .int x_19)]) hx hb dX1_settle_76 rfl hl (by decide) rfl (fun ls hl => ?_)
          refine my_cut (P := fun R9 a9 Q9 => ∀ (n_60 : Nat) (x_51 : Int32) (ar_52 : Nat → Nat → Int32) (H : Heap) (locs : List Loc) (ls : Array Slot), 20 - x_51.toInt < (n_60 : Int) → (0 ≤ x_51.toInt ∧ x_51.toInt ≤ 20) → rB ar_52 → fA [24, 25, 26, 27] ar_25 ar_52 → (mx_sp ar ar_52 (mo_dkv (cd_f (ar 4)) (cd_Wf (cd_gX llr) lln 0)) ((fv 10).toInt.toNat)) → (mx_c1 (ar 51) (ar 24) (ar_52 24) (x_51.toInt.toNat)) → (mx_c1 (ar 52) (ar 25) (ar_52 25) (x_51.toInt.toNat)) → (mx_c1 (ar 53) (ar 26) (ar_52 26) (x_51.toInt.toNat)) → (mx_c1 (ar 54) (ar 27) (ar_52 27) (x_51.toInt.toNat)) → (x_51.toInt ≤ (fv 11).toInt) → va_P (dC, dI) vwCl (wsX ob ad cA fv_23 wd_27 ar_52) H → va_S (aX ob ad s.heap.size) s.heap H locs → lv_has ls 4 [(0, .ref (ob 8)), (3, .int x_51)] → W p l e R9 s m a9 below meth c H locs 0 0 Q9 (F0 m 77 ls [])) ?_ (fun hj_62 => ?_)
          · intro n_60
            induction n_60 with
            | zero => intro x_51 ar_52 H locs ls fu_61 i_x_51 hA_ar_52 fa_53 q_54 q_55 q_56 q_57 q_58 q_59; exfalso; omega
            | succ n_60 ih_60 =>
              intro x_51 ar_52 H locs ls fu_61 i_x_51 hA_ar_52 fa_53 q_54 q_55 q_56 q_57 q_58 q_59 hP hS hl
              refine lv_iload_n hx hb dX1_settle_77 rfl (lv_at hl 1 rfl) ?_
              refine lv_aload_n hx hb dX1_settle_78 rfl (lv_at hl 0 rfl) ?_
              refine gX_X1_9 hx hb htg hown hK hP dX1_settle_79 ?_
              refine gX_X1_148 hx hb htg hown hK hP dX1_settle_82 ?_
              refine gX_X1_152 hx hb htg hown hK hP dX1_settle_85 ?_
              refine my_ti (y := fv 11) ((fr_24 11 rfl).trans ((fr_9 11 rfl).trans ((congrFun efv_1 11)))) ?_
              have i_63 : 0 ≤ (fv 11).toInt ∧ (fv 11).toInt ≤ 20 := hF_fv 11
              refine lv_icmp_ge (tgt := 169) hx hb dX1_settle_88 (by decide) (fun c_64 => ?_) (fun c_64 => ?_)
              · skip
                have k_65 := Int32.le_iff_toInt_le.mp c_64
                refine lv_iconst (v := 0) hx hb dX1_settle_169 (by decide) ?_
                refine lv_istore_n (lv' := [(3, .int 0), (0, .ref (ob 8))]) hx hb dX1_settle_170 rfl hl (by decide) rfl (fun ls hl => ?_)
                refine my_cut (P := fun R9 a9 Q9 => ∀ (n_91 : Nat) (x_81 : Int32) (ar_82 : Nat → Nat → Int32) (H : Heap) (locs : List Loc) (ls : Array Slot), 80 - x_81.toInt < (n_91 : Int) → (0 ≤ x_81.toInt ∧ x_81.toInt ≤ 80) → rB ar_82 → fA [35] ar_52 ar_82 → (mx_sp ar ar_82 (mo_dkv (cd_f (ar 4)) (cd_Wf (cd_gX llr) lln 0)) ((fv 10).toInt.toNat)) → (mx_c1 (ar 51) (ar 24) (ar_82 24) ((fv 11).toInt.toNat)) → (mx_c1 (ar 52) (ar 25) (ar_82 25) ((fv 11).toInt.toNat)) → (mx_c1 (ar 53) (ar 26) (ar_82 26) ((fv 11).toInt.toNat)) → (mx_c1 (ar 54) (ar 27) (ar_82 27) ((fv 11).toInt.toNat)) → (mx_c1 (ar 56) (ar 35) (ar_82 35) (x_81.toInt.toNat)) → (x_81.toInt ≤ (fv 12).toInt) → va_P (dC, dI) vwCl (wsX ob ad cA fv_23 wd_27 ar_82) H → va_S (aX ob ad s.heap.size) s.heap H locs → lv_has ls 4 [(0, .ref (ob 8)), (3, .int x_81)] → W p l e R9 s m a9 below meth c H locs 0 0 Q9 (F0 m 171 ls [])) ?_ (fun hj_93 => ?_)
                · intro n_91
                  induction n_91 with
                  | zero => intro x_81 ar_82 H locs ls fu_92 i_x_81 hA_ar_82 fa_83 q_84 q_85 q_86 q_87 q_88 q_89 q_90; exfalso; omega
                  | succ n_91 ih_91 =>
                    intro x_81 ar_82 H locs ls fu_92 i_x_81 hA_ar_82 fa_83 q_84 q_85 q_86 q_87 q_88 q_89 q_90 hP hS hl
                    refine lv_iload_n hx hb dX1_settle_171 rfl (lv_at hl 1 rfl) ?_
                    refine lv_aload_n hx hb dX1_settle_172 rfl (lv_at hl 0 rfl) ?_
                    refine gX_X1_9 hx hb htg hown hK hP dX1_settle_173 ?_
                    refine gX_X1_157 hx hb htg hown hK hP dX1_settle_176 ?_
                    refine gX_X1_161 hx hb htg hown hK hP dX1_settle_179 ?_
                    refine my_ti (y := fv 12) ((fr_24 12 rfl).trans ((fr_9 12 rfl).trans ((congrFun efv_1 12)))) ?_
                    have i_94 : 0 ≤ (fv 12).toInt ∧ (fv 12).toInt ≤ 80 := hF_fv 12
                    refine lv_icmp_ge (tgt := 209) hx hb dX1_settle_182 (by decide) (fun c_95 => ?_) (fun c_95 => ?_)
                    · skip
                      have k_96 := Int32.le_iff_toInt_le.mp c_95
                      exact W.vret hx hb hr (fun t ht hW => ⟨⟨(fv_23, wd_27, ar_82), rfl, ⟨hF_fv_23, hA_ar_82, (fM_call (fM_call (fM_put (fM_rf [8] _) efv_1 (by decide)) fr_9 (by decide)) fr_24 (by decide)), (fA_call (fA_call (fA_call (fA_call (fA_rf [12, 13, 15, 16, 17, 18, 19, 24, 25, 26, 27, 35] _) fa_10 (by decide)) fa_26 (by decide)) fa_53 (by decide)) fa_83 (by decide)), (wf_28.trans wf_11), q_84, q_85, q_86, q_87, q_88, (show mx_c1 (ar 56) (ar 35) (ar_82 35) ((fv 12).toInt.toNat) from by have h9 := q_89; rw [show x_81.toInt.toNat = ((fv 12).toInt.toNat) from by omega] at h9; exact h9), (show fv_23 8 = fv 23 from (fr_24 8 rfl).trans ((fr_9 8 rfl).trans ((congrFun efv_1 8)))), trivial⟩, ⟨by rw [ht]; exact hP, va_K.moved hW.alike hK⟩⟩, hS.F ht⟩) hS.2.2 dX1_settle_209
                    · skip
                      have i_97 : 0 ≤ x_81.toInt ∧ x_81.toInt ≤ 79 := iv_lt1 i_x_81 i_94 (Int32.not_le.mp c_95)
                      have i_98 : 1 ≤ (fv 12).toInt ∧ (fv 12).toInt ≤ 80 := iv_lt2 i_x_81 i_94 (Int32.not_le.mp c_95)
                      have k_99 := Int32.lt_iff_toInt_lt.mp (Int32.not_le.mp c_95)
                      refine lv_aload_n hx hb dX1_settle_185 rfl (lv_at hl 0 rfl) ?_
                      refine gX_X1_9 hx hb htg hown hK hP dX1_settle_186 ?_
                      refine gX_X1_157 hx hb htg hown hK hP dX1_settle_189 ?_
                      refine gX_X1_297 hx hb htg hown hK hP dX1_settle_192 ?_
                      refine lv_iload_n hx hb dX1_settle_195 rfl (lv_at hl 1 rfl) ?_
                      refine lv_aload_n hx hb dX1_settle_196 rfl (lv_at hl 0 rfl) ?_
                      refine gX_X1_76 hx hb htg hown hK hP dX1_settle_197 ?_
                      refine lv_iload_n hx hb dX1_settle_200 rfl (lv_at hl 1 rfl) ?_
                      refine lX_56 hx hb hK hP (iv_in i_97 (by decide) (by decide)) dX1_settle_201 (fun v_100 ev_100 => ?_)
                      refine sX_35 hx hb hK hP hS hd (iv_in i_97 (by decide) (by decide)) dX1_settle_202 (fun H locs ar_101 ear_101 hP hS => ?_)
                      have hA_ar_101 : rB ar_101 := rB_put hA_ar_82 ear_101 (iv_any _)
                      obtain ⟨v_102, ev_102⟩ : ∃ z : Int32, z = x_81 + 1 := ⟨_, rfl⟩
                      refine lv_iinc (v := v_102) (lv' := [(3, .int v_102), (0, .ref (ob 8))]) hx hb dX1_settle_203 hl (k := 1) rfl (by rw [ev_102]; rfl) (by decide) rfl (fun ls hl => ?_)
                      have t_103 : v_102.toInt = x_81.toInt + 1 ∧ 1 ≤ v_102.toInt ∧ v_102.toInt ≤ 80 := iv_addc ev_102 i_97 (by decide) (by decide) (by decide)
                      refine lv_goto (tgt := 171) hx hb dX1_settle_206 (by decide) ?_
                      have z_105 : (fv_23 12).toInt = (fv 12).toInt := congrArg Int32.toInt ((fr_24 12 rfl).trans ((fr_9 12 rfl).trans ((congrFun efv_1 12))))
                      have z_106 : 0 ≤ (fv_23 12).toInt ∧ (fv_23 12).toInt ≤ 80 := hF_fv_23 12
                      exact ih_91 v_102 ar_101 _ _ ls (by omega) (iv_w t_103.2 (by decide) (by decide)) hA_ar_101 (fA_put (fA_call (fA_rf [35] _) fa_83 (by decide)) ear_101 (by decide)) (mx_sp_fr q_84 (fA_put (fA_rf [35] _) ear_101 (by decide)) rfl) (by rw [show ar_101 24 = ar_82 24 from ((fA_put (fA_rf [35] _) ear_101 (by decide)) 24 rfl)]; exact q_85) (by rw [show ar_101 25 = ar_82 25 from ((fA_put (fA_rf [35] _) ear_101 (by decide)) 25 rfl)]; exact q_86) (by rw [show ar_101 26 = ar_82 26 from ((fA_put (fA_rf [35] _) ear_101 (by decide)) 26 rfl)]; exact q_87) (by rw [show ar_101 27 = ar_82 27 from ((fA_put (fA_rf [35] _) ear_101 (by decide)) 27 rfl)]; exact q_88) (by rw [show v_102.toInt.toNat = (x_81.toInt.toNat) + 1 from by omega]; exact mx_c1_s (v := v_100) q_89 (fun i9 => by rw [ear_101]; show (if i9 = Int32.toNatClampNeg x_81 then v_100 else ar_82 35 i9) = _; rfl) (show ar 56 (x_81.toInt.toNat) = v_100 from ((show v_100 = ar 56 (x_81.toInt.toNat) from by rw [ev_100, show ar_82 56 = ar 56 from ((fA_call (fA_call (fA_call (fA_call (fA_rf [12, 13, 15, 16, 17, 18, 19, 24, 25, 26, 27, 35] _) fa_10 (by decide)) fa_26 (by decide)) fa_53 (by decide)) fa_83 (by decide)) 56 rfl)]; exact congrArg (ar 56) (show x_81.toInt.toNat = (x_81.toInt.toNat) from by omega))).symm)) (by omega) hP hS (lv_sub hl [1, 0] rfl)
                · skip
                  have z_107 : (0 : Int32).toInt = 0 := by decide
                  have z_108 : (fv_23 12).toInt = (fv 12).toInt := congrArg Int32.toInt ((fr_24 12 rfl).trans ((fr_9 12 rfl).trans ((congrFun efv_1 12))))
                  have z_109 : 0 ≤ (fv_23 12).toInt ∧ (fv_23 12).toInt ≤ 80 := hF_fv_23 12
                  exact hj_93 81 0 ar_52 _ _ ls (by first | decide | omega) (iv_w (⟨by decide, by decide⟩ : (0 : Int) ≤ (0 : Int32).toInt ∧ (0 : Int32).toInt ≤ 0) (by decide) (by decide)) hA_ar_52 (fA_rf [35] _) q_54 (by have h9 := q_55; rw [show x_51.toInt.toNat = ((fv 11).toInt.toNat) from by omega] at h9; exact h9) (by have h9 := q_56; rw [show x_51.toInt.toNat = ((fv 11).toInt.toNat) from by omega] at h9; exact h9) (by have h9 := q_57; rw [show x_51.toInt.toNat = ((fv 11).toInt.toNat) from by omega] at h9; exact h9) (by have h9 := q_58; rw [show x_51.toInt.toNat = ((fv 11).toInt.toNat) from by omega] at h9; exact h9) (by rw [show (0 : Int32).toInt.toNat = 0 from by decide, show ar_52 35 = ar 35 from ((fA_call (fA_call (fA_call (fA_rf [12, 13, 15, 16, 17, 18, 19, 24, 25, 26, 27] _) fa_10 (by decide)) fa_26 (by decide)) fa_53 (by decide)) 35 rfl)]; exact mx_c1_0 _ _) (by omega) hP hS (lv_sub hl [1, 0] rfl)
              · skip
                have i_66 : 0 ≤ x_51.toInt ∧ x_51.toInt ≤ 19 := iv_lt1 i_x_51 i_63 (Int32.not_le.mp c_64)
                have i_67 : 1 ≤ (fv 11).toInt ∧ (fv 11).toInt ≤ 20 := iv_lt2 i_x_51 i_63 (Int32.not_le.mp c_64)
                have k_68 := Int32.lt_iff_toInt_lt.mp (Int32.not_le.mp c_64)
                refine lv_aload_n hx hb dX1_settle_91 rfl (lv_at hl 0 rfl) ?_
                refine gX_X1_9 hx hb htg hown hK hP dX1_settle_92 ?_
                refine gX_X1_148 hx hb htg hown hK hP dX1_settle_95 ?_
                refine gX_X1_153 hx hb htg hown hK hP dX1_settle_98 ?_
                refine lv_iload_n hx hb dX1_settle_101 rfl (lv_at hl 1 rfl) ?_
                refine lv_aload_n hx hb dX1_settle_102 rfl (lv_at hl 0 rfl) ?_
                refine gX_X1_59 hx hb htg hown hK hP dX1_settle_103 ?_
                refine lv_iload_n hx hb dX1_settle_106 rfl (lv_at hl 1 rfl) ?_
                refine lX_51 hx hb hK hP (iv_in i_66 (by decide) (by decide)) dX1_settle_107 (fun v_69 ev_69 => ?_)
                refine sX_24 hx hb hK hP hS hd (iv_in i_66 (by decide) (by decide)) dX1_settle_108 (fun H locs ar_70 ear_70 hP hS => ?_)
                have hA_ar_70 : rB ar_70 := rB_put hA_ar_52 ear_70 (iv_any _)
                refine lv_aload_n hx hb dX1_settle_109 rfl (lv_at hl 0 rfl) ?_
                refine gX_X1_9 hx hb htg hown hK hP dX1_settle_110 ?_
                refine gX_X1_148 hx hb htg hown hK hP dX1_settle_113 ?_
                refine gX_X1_294 hx hb htg hown hK hP dX1_settle_116 ?_
                refine lv_iload_n hx hb dX1_settle_119 rfl (lv_at hl 1 rfl) ?_
                refine lv_aload_n hx hb dX1_settle_120 rfl (lv_at hl 0 rfl) ?_
                refine gX_X1_62 hx hb htg hown hK hP dX1_settle_121 ?_
                refine lv_iload_n hx hb dX1_settle_124 rfl (lv_at hl 1 rfl) ?_
                refine lX_52 hx hb hK hP (iv_in i_66 (by decide) (by decide)) dX1_settle_125 (fun v_71 ev_71 => ?_)
                refine sX_25 hx hb hK hP hS hd (iv_in i_66 (by decide) (by decide)) dX1_settle_126 (fun H locs ar_72 ear_72 hP hS => ?_)
                have hA_ar_72 : rB ar_72 := rB_put hA_ar_70 ear_72 (iv_any _)
                refine lv_aload_n hx hb dX1_settle_127 rfl (lv_at hl 0 rfl) ?_
                refine gX_X1_9 hx hb htg hown hK hP dX1_settle_128 ?_
                refine gX_X1_148 hx hb htg hown hK hP dX1_settle_131 ?_
                refine gX_X1_295 hx hb htg hown hK hP dX1_settle_134 ?_
                refine lv_iload_n hx hb dX1_settle_137 rfl (lv_at hl 1 rfl) ?_
                refine lv_aload_n hx hb dX1_settle_138 rfl (lv_at hl 0 rfl) ?_
                refine gX_X1_65 hx hb htg hown hK hP dX1_settle_139 ?_
                refine lv_iload_n hx hb dX1_settle_142 rfl (lv_at hl 1 rfl) ?_
                refine lX_53 hx hb hK hP (iv_in i_66 (by decide) (by decide)) dX1_settle_143 (fun v_73 ev_73 => ?_)
                refine sX_26 hx hb hK hP hS hd (iv_in i_66 (by decide) (by decide)) dX1_settle_144 (fun H locs ar_74 ear_74 hP hS => ?_)
                have hA_ar_74 : rB ar_74 := rB_put hA_ar_72 ear_74 (iv_any _)
                refine lv_aload_n hx hb dX1_settle_145 rfl (lv_at hl 0 rfl) ?_
                refine gX_X1_9 hx hb htg hown hK hP dX1_settle_146 ?_
                refine gX_X1_148 hx hb htg hown hK hP dX1_settle_149 ?_
                refine gX_X1_296 hx hb htg hown hK hP dX1_settle_152 ?_
                refine lv_iload_n hx hb dX1_settle_155 rfl (lv_at hl 1 rfl) ?_
                refine lv_aload_n hx hb dX1_settle_156 rfl (lv_at hl 0 rfl) ?_
                refine gX_X1_68 hx hb htg hown hK hP dX1_settle_157 ?_
                refine lv_iload_n hx hb dX1_settle_160 rfl (lv_at hl 1 rfl) ?_
                refine lX_54 hx hb hK hP (iv_in i_66 (by decide) (by decide)) dX1_settle_161 (fun v_75 ev_75 => ?_)
                have i_76 : 0 ≤ v_75.toInt ∧ v_75.toInt ≤ 7 := ev_75 ▸ hA_ar_74 54 _
                refine sX_27 hx hb hK hP hS hd (iv_in i_66 (by decide) (by decide)) dX1_settle_162 (fun H locs ar_77 ear_77 hP hS => ?_)
                have hA_ar_77 : rB ar_77 := rB_put hA_ar_74 ear_77 (iv_any _)
                obtain ⟨v_78, ev_78⟩ : ∃ z : Int32, z = x_51 + 1 := ⟨_, rfl⟩
                refine lv_iinc (v := v_78) (lv' := [(3, .int v_78), (0, .ref (ob 8))]) hx hb dX1_settle_163 hl (k := 1) rfl (by rw [ev_78]; rfl) (by decide) rfl (fun ls hl => ?_)
                have t_79 : v_78.toInt = x_51.toInt + 1 ∧ 1 ≤ v_78.toInt ∧ v_78.toInt ≤ 20 := iv_addc ev_78 i_66 (by decide) (by decide) (by decide)
                refine lv_goto (tgt := 77) hx hb dX1_settle_166 (by decide) ?_
                have z_110 : (fv_23 11).toInt = (fv 11).toInt := congrArg Int32.toInt ((fr_24 11 rfl).trans ((fr_9 11 rfl).trans ((congrFun efv_1 11))))
                have z_111 : 0 ≤ (fv_23 11).toInt ∧ (fv_23 11).toInt ≤ 20 := hF_fv_23 11
                exact ih_60 v_78 ar_77 _ _ ls (by omega) (iv_w t_79.2 (by decide) (by decide)) hA_ar_77 (fA_put (fA_put (fA_put (fA_put (fA_call (fA_rf [24, 25, 26, 27] _) fa_53 (by decide)) ear_70 (by decide)) ear_72 (by decide)) ear_74 (by decide)) ear_77 (by decide)) (mx_sp_fr q_54 (fA_put (fA_put (fA_put (fA_put (fA_rf [24, 25, 26, 27] _) ear_70 (by decide)) ear_72 (by decide)) ear_74 (by decide)) ear_77 (by decide)) rfl) (by rw [show v_78.toInt.toNat = (x_51.toInt.toNat) + 1 from by omega]; exact mx_c1_s (v := v_69) q_55 (fun i9 => by rw [show ar_77 24 = ar_70 24 from ((fA_put (fA_put (fA_put (fA_rf [25, 26, 27] _) ear_72 (by decide)) ear_74 (by decide)) ear_77 (by decide)) 24 rfl), ear_70]; show (if i9 = Int32.toNatClampNeg x_51 then v_69 else ar_52 24 i9) = _; rfl) (show ar 51 (x_51.toInt.toNat) = v_69 from ((show v_69 = ar 51 (x_51.toInt.toNat) from by rw [ev_69, show ar_52 51 = ar 51 from ((fA_call (fA_call (fA_call (fA_rf [12, 13, 15, 16, 17, 18, 19, 24, 25, 26, 27] _) fa_10 (by decide)) fa_26 (by decide)) fa_53 (by decide)) 51 rfl)]; exact congrArg (ar 51) (show x_51.toInt.toNat = (x_51.toInt.toNat) from by omega))).symm)) (by rw [show v_78.toInt.toNat = (x_51.toInt.toNat) + 1 from by omega]; exact mx_c1_s (v := v_71) q_56 (fun i9 => by rw [show ar_77 25 = ar_72 25 from ((fA_put (fA_put (fA_rf [26, 27] _) ear_74 (by decide)) ear_77 (by decide)) 25 rfl), ear_72]; show (if i9 = Int32.toNatClampNeg x_51 then v_71 else ar_70 25 i9) = _; rw [show ar_70 25 = ar_52 25 from ((fA_put (fA_rf [24] _) ear_70 (by decide)) 25 rfl)]; rfl) (show ar 52 (x_51.toInt.toNat) = v_71 from ((show v_71 = ar 52 (x_51.toInt.toNat) from by rw [ev_71, show ar_70 52 = ar 52 from ((fA_put (fA_call (fA_call (fA_call (fA_rf [12, 13, 15, 16, 17, 18, 19, 24, 25, 26, 27] _) fa_10 (by decide)) fa_26 (by decide)) fa_53 (by decide)) ear_70 (by decide)) 52 rfl)]; exact congrArg (ar 52) (show x_51.toInt.toNat = (x_51.toInt.toNat) from by omega))).symm)) (by rw [show v_78.toInt.toNat = (x_51.toInt.toNat) + 1 from by omega]; exact mx_c1_s (v := v_73) q_57 (fun i9 => by rw [show ar_77 26 = ar_74 26 from ((fA_put (fA_rf [27] _) ear_77 (by decide)) 26 rfl), ear_74]; show (if i9 = Int32.toNatClampNeg x_51 then v_73 else ar_72 26 i9) = _; rw [show ar_72 26 = ar_52 26 from ((fA_put (fA_put (fA_rf [24, 25] _) ear_70 (by decide)) ear_72 (by decide)) 26 rfl)]; rfl) (show ar 53 (x_51.toInt.toNat) = v_73 from ((show v_73 = ar 53 (x_51.toInt.toNat) from by rw [ev_73, show ar_72 53 = ar 53 from ((fA_put (fA_put (fA_call (fA_call (fA_call (fA_rf [12, 13, 15, 16, 17, 18, 19, 24, 25, 26, 27] _) fa_10 (by decide)) fa_26 (by decide)) fa_53 (by decide)) ear_70 (by decide)) ear_72 (by decide)) 53 rfl)]; exact congrArg (ar 53) (show x_51.toInt.toNat = (x_51.toInt.toNat) from by omega))).symm)) (by rw [show v_78.toInt.toNat = (x_51.toInt.toNat) + 1 from by omega]; exact mx_c1_s (v := v_75) q_58 (fun i9 => by rw [ear_77]; show (if i9 = Int32.toNatClampNeg x_51 then v_75 else ar_74 27 i9) = _; rw [show ar_74 27 = ar_52 27 from ((fA_put (fA_put (fA_put (fA_rf [24, 25, 26] _) ear_70 (by decide)) ear_72 (by decide)) ear_74 (by decide)) 27 rfl)]; rfl) (show ar 54 (x_51.toInt.toNat) = v_75 from ((show v_75 = ar 54 (x_51.toInt.toNat) from by rw [ev_75, show ar_74 54 = ar 54 from ((fA_put (fA_put (fA_put (fA_call (fA_call (fA_call (fA_rf [12, 13, 15, 16, 17, 18, 19, 24, 25, 26, 27] _) fa_10 (by decide)) fa_26 (by decide)) fa_53 (by decide)) ear_70 (by decide)) ear_72 (by decide)) ear_74 (by decide)) 54 rfl)]; exact congrArg (ar 54) (show x_51.toInt.toNat = (x_51.toInt.toNat) from by omega))).symm)) (by omega) hP hS (lv_sub hl [1, 0] rfl)
          · skip
            have z_112 : (0 : Int32).toInt = 0 := by decide
            have z_113 : (fv_23 11).toInt = (fv 11).toInt := congrArg Int32.toInt ((fr_24 11 rfl).trans ((fr_9 11 rfl).trans ((congrFun efv_1 11))))
            have z_114 : 0 ≤ (fv_23 11).toInt ∧ (fv_23 11).toInt ≤ 20 := hF_fv_23 11
            exact hj_62 21 0 ar_25 _ _ ls (by first | decide | omega) (iv_w (⟨by decide, by decide⟩ : (0 : Int) ≤ (0 : Int32).toInt ∧ (0 : Int32).toInt ≤ 0) (by decide) (by decide)) hA_ar_25 (fA_rf [24, 25, 26, 27] _) (by have h9 := q_29; rw [show x_22.toInt.toNat = ((fv 10).toInt.toNat) from by omega] at h9; exact h9) (by rw [show (0 : Int32).toInt.toNat = 0 from by decide, show ar_25 24 = ar 24 from ((fA_call (fA_call (fA_rf [12, 13, 15, 16, 17, 18, 19] _) fa_10 (by decide)) fa_26 (by decide)) 24 rfl)]; exact mx_c1_0 _ _) (by rw [show (0 : Int32).toInt.toNat = 0 from by decide, show ar_25 25 = ar 25 from ((fA_call (fA_call (fA_rf [12, 13, 15, 16, 17, 18, 19] _) fa_10 (by decide)) fa_26 (by decide)) 25 rfl)]; exact mx_c1_0 _ _) (by rw [show (0 : Int32).toInt.toNat = 0 from by decide, show ar_25 26 = ar 26 from ((fA_call (fA_call (fA_rf [12, 13, 15, 16, 17, 18, 19] _) fa_10 (by decide)) fa_26 (by decide)) 26 rfl)]; exact mx_c1_0 _ _) (by rw [show (0 : Int32).toInt.toNat = 0 from by decide, show ar_25 27 = ar 27 from ((fA_call (fA_call (fA_rf [12, 13, 15, 16, 17, 18, 19] _) fa_10 (by decide)) fa_26 (by decide)) 27 rfl)]; exact mx_c1_0 _ _) (by omega) hP hS (lv_sub hl [1, 0] rfl)
        · skip
          have i_37 : 0 ≤ x_22.toInt ∧ x_22.toInt ≤ 39 := iv_lt1 i_x_22 i_34 (Int32.not_le.mp c_35)
          have i_38 : 1 ≤ (fv 10).toInt ∧ (fv 10).toInt ≤ 40 := iv_lt2 i_x_22 i_34 (Int32.not_le.mp c_35)
          have k_39 := Int32.lt_iff_toInt_lt.mp (Int32.not_le.mp c_35)
          refine lv_aload_n hx hb dX1_settle_63 rfl (lv_at hl 0 rfl) ?_
          refine lv_iload_n hx hb dX1_settle_64 rfl (lv_at hl 2 rfl) ?_
          refine lv_iload_n hx hb dX1_settle_65 rfl (lv_at hl 1 rfl) ?_
          refine va_callv (va_runV (As := [.int x_22, .int x_19]) (rest := []) ⟨hx, hb, hml, hown, hts⟩ (x_settlePersonE l dC dI H.size ob ad cA hd fv_23 wd_27 ar_25 hF_fv_23 hA_ar_25 x_22 x_19 i_37) (cwV 2 hts (gV kw_5_216 kw_5_218 kw_p_46 kw_1_12 kw_5_219) rfl rfl rfl (by decide +kernel) ⟨Nat.le_of_ble_eq_true rfl, Nat.le_of_ble_eq_true rfl⟩) ⟨fun a U g mk q => ⟨q.1, q.2.1, q.2.2.1, va_K.moved (u := U) (U := U.calling g mk a) (Vm.Alike.refl U.vm) q.2.2.2⟩, va_recv hK hP (ci := 2) (q0 := 8) rfl rfl, fun U hU hW => ⟨rfl, by rw [hU], by rw [hU]; exact hP, va_K.moved hW.alike hK⟩⟩ rfl rfl hl.1 rfl (lv_room (Nat.le_of_ble_eq_true rfl)) dX1_settle_66 ⟨Nat.le_of_ble_eq_true rfl, Nat.le_of_ble_eq_true rfl⟩) hS (fun q _ h9 => aX_up hS q h9) (aX_up hS) (fun u t H1 locs ht _ hw hB _ hk1 hS => ?_)
          obtain ⟨fv_42, wd_43, ar_44⟩ := u
          obtain ⟨hF_fv_42, hA_ar_44, fr_45, fa_46, wf_47, p_41, -⟩ := hw
          have wf_47 : wd_43.2 = wd_27.2 := wf_47
          have hP : va_P (dC, dI) vwCl (wsX ob ad cA fv_42 wd_43 ar_44) H1 := by have h9 := hB.1; rw [ht] at h9; exact h9
          have fr_45 : fM [] fv_23 fv_42 := fr_45
          have fa_46 : fA [12, 13, 15, 16, 17, 18, 19] ar_25 ar_44 := fa_46
          have p_41 : mx_s1 ar_25 ar_44 x_19 (x_22.toInt.toNat) := p_41
          generalize H1 = H at hP hS ⊢
          obtain ⟨v_48, ev_48⟩ : ∃ z : Int32, z = x_22 + 1 := ⟨_, rfl⟩
          refine lv_iinc (v := v_48) (lv' := [(3, .int v_48), (0, .ref (ob 8)), (2, .int x_19)]) hx hb dX1_settle_69 hl (k := 2) rfl (by rw [ev_48]; rfl) (by decide) rfl (fun ls hl => ?_)
          have t_49 : v_48.toInt = x_22.toInt + 1 ∧ 1 ≤ v_48.toInt ∧ v_48.toInt ≤ 40 := iv_addc ev_48 i_37 (by decide) (by decide) (by decide)
          refine lv_goto (tgt := 49) hx hb dX1_settle_72 (by decide) ?_
          have z_115 : (fv_42 10).toInt = (fv 10).toInt := congrArg Int32.toInt ((fr_45 10 rfl).trans ((fr_24 10 rfl).trans ((fr_9 10 rfl).trans ((congrFun efv_1 10)))))
          have z_116 : 0 ≤ (fv_42 10).toInt ∧ (fv_42 10).toInt ≤ 40 := hF_fv_42 10
          exact ih_31 v_48 fv_42 ar_44 wd_43 _ _ ls (by omega) (iv_w t_49.2 (by decide) (by decide)) hF_fv_42 (fM_call (fM_call (fM_rf [] _) fr_24 (by decide)) fr_45 (by decide)) hA_ar_44 (fA_call (fA_call (fA_rf [12, 13, 15, 16, 17, 18, 19] _) fa_26 (by decide)) fa_46 (by decide)) (wf_47.trans wf_28) (by rw [show v_48.toInt.toNat = (x_22.toInt.toNat) + 1 from by omega]; exact mx_sp_s q_29 (fA_call (fA_call (fA_rf [12, 13, 15, 16, 17, 18, 19] _) fa_10 (by decide)) fa_26 (by decide)) rfl (by have h9 := p_41; rw [q_20] at h9; exact h9)) (by omega) hP hS (lv_sub hl [1, 2, 0] rfl)
    · skip
      have z_117 : (0 : Int32).toInt = 0 := by decide
      have z_118 : (fv_6 10).toInt = (fv 10).toInt := congrArg Int32.toInt ((fr_9 10 rfl).trans ((congrFun efv_1 10)))
      have z_119 : 0 ≤ (fv_6 10).toInt ∧ (fv_6 10).toInt ≤ 40 := hF_fv_6 10
      exact hj_33 41 0 fv_6 ar_8 wd_7 _ _ ls (by first | decide | omega) (iv_w (⟨by decide, by decide⟩ : (0 : Int) ≤ (0 : Int32).toInt ∧ (0 : Int32).toInt ≤ 0) (by decide) (by decide)) hF_fv_6 (fM_rf [] _) hA_ar_8 (fA_rf [12, 13, 15, 16, 17, 18, 19] _) rfl (by rw [show (0 : Int32).toInt.toNat = 0 from by decide]; exact mx_sp_fr (mx_sp0 ar _) (fA_call (fA_rf [] _) fa_10 (by decide)) rfl) (by omega) hP hS (lv_sub hl [2, 1, 0] rfl)
  · skip
    refine lv_icmp_ne (tgt := 37) hx hb dX1_settle_30 (by decide) (fun c_13 => ?_) (fun c_13 => ?_)
    · skip
      have i_14 : 0 ≤ r_2.toInt ∧ r_2.toInt ≤ 15 := iv_nel p_3 (by decide) c_13
      have k_15 : ¬ r_2.toInt = (-1) := fun q => c_13 (Int32.toInt_inj.mp q)
      refine lv_aload_n hx hb dX1_settle_37 rfl (lv_at hl 1 rfl) ?_
      refine gX_X1_30 hx hb htg hown hK hP dX1_settle_38 ?_
      refine my_tr (w := la) ((congrArg (fun z => z.2.1) wf_11).trans hlr) ?_
      refine gL_X1_288 hx hb htg hown (lw_K hL) (lw_now hL hS) dX1_settle_41 ?_
      refine lv_iload_n hx hb dX1_settle_44 rfl (lv_at hl 0 rfl) ?_
      refine lL_2 hx hb (lw_K hL) (lw_now hL hS) (vp_in_iff.mpr (by omega)) dX1_settle_45 (fun v_16 ev_16 => ?_)
      exact hj_21 v_16 _ _ ls (by rw [ev_16]; exact mo_dkv_v (j := r_2.toInt.toNat) (by rw [← lf_12]; omega)) hP hS (lv_sub hl [1] rfl)
    · skip
      have i_17 : (-1) ≤ r_2.toInt ∧ r_2.toInt ≤ (-1) := iv_eq1 (⟨by decide, by decide⟩ : (-1 : Int) ≤ ((-1) : Int32).toInt ∧ ((-1) : Int32).toInt ≤ -1) c_13
      refine lv_iconst (v := 0) hx hb dX1_settle_33 (by decide) ?_
      refine lv_goto (tgt := 46) hx hb dX1_settle_34 (by decide) ?_
      have z_120 : (0 : Int32).toInt = 0 := by decide
      exact hj_21 0 _ _ ls (mo_dkv_0 (by rw [← lf_12]; omega)) hP hS (lv_sub hl [1] rfl)

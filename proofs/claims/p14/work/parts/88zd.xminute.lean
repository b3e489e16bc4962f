set_option maxHeartbeats 4000000 in
set_option maxRecDepth 100000 in
theorem x_landWheelsE (l : Launch) (dC : Nat → ClassId) (dI : Nat → Nat → Nat) (sz : Nat) (ob ad : Nat → Nat) (cA : Nat → ClassId) (hd : dX ob ad) (fv : Nat → Int32) (wd : xT) (ar : Nat → Nat → Int32) (hF_fv : rX fv) (hA_ar : rB ar) (a : Int32) (h_a : 0 ≤ a.toInt ∧ a.toInt ≤ 839) (hp_mR : mx_R fv ar) (hp_mY : mx_Y fv ar) (hp_mC : mx_C fv ar) : Met l yX1_landWheels (.code yX1_landWheels cX1_landWheels 4 none :: lw_good) ({ frames := 7, cells := 0, slots := 0, locals := 168 }) (va_Pc [.ref (ob 8), .int a] (prX dC dI ob ad cA fv wd ar sz)) (va_Qv (fun (u : xS) => rX u.1 ∧ rB u.2.2 ∧ fM [] fv u.1 ∧ fA [45, 46, 47, 49, 50, 55, 62, 63, 64] ar u.2.2 ∧ u.2.1.2 = wd.2 ∧ (mx_S u.1 u.2.2 = mo_fo (mo_xl2 a.toInt) (mo_fo (mo_xl1 (mx_D fv ar) (mx_G ar) a.toInt) (mx_S fv ar) (((fv 10).toInt.toNat))) (((fv 11).toInt.toNat))) ∧ (mx_C u.1 u.2.2) ∧ True) (enX dC dI ob ad cA) (aX ob ad sz)) 0 0 (aX ob ad sz) := by
  refine Met.ofW (cc := cX1_landWheels) (maxL := 4) (ret := none) (by decide) rfl ?_
  intro p e s m args below meth c s₁ B hml hv
  obtain ⟨rfl, hsz, hP, hK⟩ := hv
  have hx := B.exec
  have hb := B.bytes
  have hr := B.returns
  have hts := atoms_spec (ws := (.code yX1_landWheels cX1_landWheels 4 none :: lw_good)) B.pre
  have htg : ∀ w ∈ lw_good, w.before _ s = true := fun w hw => hts w (List.mem_cons_of_mem _ hw)
  have hown : s.vm.findClass RX1 = some m.cls := findClass_of_methodNamed B.named
  have hlocks := B.notSynchronized
  subst hsz
  have hS : va_S (aX ob ad s.heap.size) s.heap s.heap [] := va_S.rf
  have hl := lv_entry ([.ref (ob 8), .int a]) (n := 4) (Nat.le_of_ble_eq_true rfl)
  rw [lg_entry_eq]
  generalize (lg_sl ([.ref (ob 8), .int a]) ++ List.replicate (4 - (lg_sl ([.ref (ob 8), .int a])).length) Slot.unset).toArray = ls at hl ⊢
  have hl : lv_has ls 4 [(0, .ref (ob 8)), (1, .int a)] := hl
  refine lv_iconst (v := 0) hx hb dX1_landWheels_0 (by decide) ?_
  refine lv_istore_n (lv' := [(2, .int 0), (0, .ref (ob 8)), (1, .int a)]) hx hb dX1_landWheels_1 rfl hl (by decide) rfl (fun ls hl => ?_)
  refine my_cut (P := fun R9 a9 Q9 => ∀ (n_13 : Nat) (x_1 : Int32) (fv_2 : Nat → Int32) (ar_4 : Nat → Nat → Int32) (wd_6 : xT) (H : Heap) (locs : List Loc) (ls : Array Slot), 40 - x_1.toInt < (n_13 : Int) → (0 ≤ x_1.toInt ∧ x_1.toInt ≤ 40) → rX fv_2 → fM [] fv fv_2 → rB ar_4 → fA [45, 46, 47, 49, 50, 62, 63, 64] ar ar_4 → wd_6.2 = wd.2 → mx_C fv_2 ar_4 → mx_R fv_2 ar_4 → mx_Y fv_2 ar_4 → (mx_S fv_2 ar_4 = mo_fo (mo_xl1 (mx_D fv ar) (mx_G ar) a.toInt) (mx_S fv ar) (x_1.toInt.toNat)) → (x_1.toInt ≤ (fv 10).toInt) → va_P (dC, dI) vwCl (wsX ob ad cA fv_2 wd_6 ar_4) H → va_S (aX ob ad s.heap.size) s.heap H locs → lv_has ls 4 [(0, .ref (ob 8)), (1, .int a), (2, .int x_1)] → W p l e R9 s m a9 below meth c H locs 0 0 Q9 (F0 m 2 ls [])) ?_ (fun hj_15 => ?_)
  · intro n_13
    induction n_13 with
    | zero => intro x_1 fv_2 ar_4 wd_6 H locs ls fu_14 i_x_1 hF_fv_2 fr_3 hA_ar_4 fa_5 wf_7 hp_8 hp_9 hp_10 q_11 q_12; exfalso; omega
    | succ n_13 ih_13 =>
      intro x_1 fv_2 ar_4 wd_6 H locs ls fu_14 i_x_1 hF_fv_2 fr_3 hA_ar_4 fa_5 wf_7 hp_8 hp_9 hp_10 q_11 q_12 hP hS hl
      refine lv_iload_n hx hb dX1_landWheels_2 rfl (lv_at hl 2 rfl) ?_
      refine lv_aload_n hx hb dX1_landWheels_3 rfl (lv_at hl 0 rfl) ?_
      refine gX_X1_9 hx hb htg hown hK hP dX1_landWheels_4 ?_
      refine gX_X1_129 hx hb htg hown hK hP dX1_landWheels_7 ?_
      refine gX_X1_133 hx hb htg hown hK hP dX1_landWheels_10 ?_
      refine my_ti (y := fv 10) ((fr_3 10 rfl)) ?_
      have i_16 : 0 ≤ (fv 10).toInt ∧ (fv 10).toInt ≤ 40 := hF_fv 10
      refine lv_icmp_ge (tgt := 72) hx hb dX1_landWheels_13 (by decide) (fun c_17 => ?_) (fun c_17 => ?_)
      · skip
        have k_18 := Int32.le_iff_toInt_le.mp c_17
        refine lv_iconst (v := 0) hx hb dX1_landWheels_72 (by decide) ?_
        refine lv_istore_n (lv' := [(2, .int 0), (0, .ref (ob 8)), (1, .int a)]) hx hb dX1_landWheels_73 rfl hl (by decide) rfl (fun ls hl => ?_)
        refine my_cut (P := fun R9 a9 Q9 => ∀ (n_68 : Nat) (x_60 : Int32) (ar_61 : Nat → Nat → Int32) (H : Heap) (locs : List Loc) (ls : Array Slot), 20 - x_60.toInt < (n_68 : Int) → (0 ≤ x_60.toInt ∧ x_60.toInt ≤ 20) → rB ar_61 → fA [55] ar_4 ar_61 → mx_C fv_2 ar_61 → mx_R fv_2 ar_61 → mx_Y fv_2 ar_61 → (mx_S fv_2 ar_61 = mo_fo (mo_xl2 a.toInt) (mo_fo (mo_xl1 (mx_D fv ar) (mx_G ar) a.toInt) (mx_S fv ar) (((fv 10).toInt.toNat))) (x_60.toInt.toNat)) → (x_60.toInt ≤ (fv 11).toInt) → va_P (dC, dI) vwCl (wsX ob ad cA fv_2 wd_6 ar_61) H → va_S (aX ob ad s.heap.size) s.heap H locs → lv_has ls 4 [(0, .ref (ob 8)), (1, .int a), (2, .int x_60)] → W p l e R9 s m a9 below meth c H locs 0 0 Q9 (F0 m 74 ls [])) ?_ (fun hj_70 => ?_)
        · intro n_68
          induction n_68 with
          | zero => intro x_60 ar_61 H locs ls fu_69 i_x_60 hA_ar_61 fa_62 hp_63 hp_64 hp_65 q_66 q_67; exfalso; omega
          | succ n_68 ih_68 =>
            intro x_60 ar_61 H locs ls fu_69 i_x_60 hA_ar_61 fa_62 hp_63 hp_64 hp_65 q_66 q_67 hP hS hl
            refine lv_iload_n hx hb dX1_landWheels_74 rfl (lv_at hl 2 rfl) ?_
            refine lv_aload_n hx hb dX1_landWheels_75 rfl (lv_at hl 0 rfl) ?_
            refine gX_X1_9 hx hb htg hown hK hP dX1_landWheels_76 ?_
            refine gX_X1_148 hx hb htg hown hK hP dX1_landWheels_79 ?_
            refine gX_X1_152 hx hb htg hown hK hP dX1_landWheels_82 ?_
            refine my_ti (y := fv 11) ((fr_3 11 rfl)) ?_
            have i_71 : 0 ≤ (fv 11).toInt ∧ (fv 11).toInt ≤ 20 := hF_fv 11
            refine lv_icmp_ge (tgt := 111) hx hb dX1_landWheels_85 (by decide) (fun c_72 => ?_) (fun c_72 => ?_)
            · skip
              have k_73 := Int32.le_iff_toInt_le.mp c_72
              exact W.vret hx hb hr (fun t ht hW => ⟨⟨(fv_2, wd_6, ar_61), rfl, ⟨hF_fv_2, hA_ar_61, (fM_call (fM_rf [] _) fr_3 (by decide)), (fA_call (fA_call (fA_rf [45, 46, 47, 49, 50, 55, 62, 63, 64] _) fa_5 (by decide)) fa_62 (by decide)), wf_7, (show mx_S fv_2 ar_61 = mo_fo (mo_xl2 a.toInt) (mo_fo (mo_xl1 (mx_D fv ar) (mx_G ar) a.toInt) (mx_S fv ar) (((fv 10).toInt.toNat))) (((fv 11).toInt.toNat)) from by have h9 := q_66; rw [show x_60.toInt.toNat = ((fv 11).toInt.toNat) from by omega] at h9; exact h9), hp_63, trivial⟩, ⟨by rw [ht]; exact hP, va_K.moved hW.alike hK⟩⟩, hS.F ht⟩) hS.2.2 dX1_landWheels_111
            · skip
              have i_74 : 0 ≤ x_60.toInt ∧ x_60.toInt ≤ 19 := iv_lt1 i_x_60 i_71 (Int32.not_le.mp c_72)
              have i_75 : 1 ≤ (fv 11).toInt ∧ (fv 11).toInt ≤ 20 := iv_lt2 i_x_60 i_71 (Int32.not_le.mp c_72)
              have k_76 := Int32.lt_iff_toInt_lt.mp (Int32.not_le.mp c_72)
              refine lv_aload_n hx hb dX1_landWheels_88 rfl (lv_at hl 0 rfl) ?_
              refine gX_X1_71 hx hb htg hown hK hP dX1_landWheels_89 ?_
              refine lv_iload_n hx hb dX1_landWheels_92 rfl (lv_at hl 2 rfl) ?_
              refine lX_55 hx hb hK hP (iv_in i_74 (by decide) (by decide)) dX1_landWheels_93 (fun v_77 ev_77 => ?_)
              refine lv_iload_n hx hb dX1_landWheels_94 rfl (lv_at hl 1 rfl) ?_
              refine lv_icmp_ne (tgt := 105) hx hb dX1_landWheels_95 (by decide) (fun c_78 => ?_) (fun c_78 => ?_)
              · skip
                have k_79 : ¬ v_77.toInt = a.toInt := fun q => c_78 (Int32.toInt_inj.mp q)
                obtain ⟨v_80, ev_80⟩ : ∃ z : Int32, z = x_60 + 1 := ⟨_, rfl⟩
                refine lv_iinc (v := v_80) (lv' := [(2, .int v_80), (0, .ref (ob 8)), (1, .int a)]) hx hb dX1_landWheels_105 hl (k := 2) rfl (by rw [ev_80]; rfl) (by decide) rfl (fun ls hl => ?_)
                have t_81 : v_80.toInt = x_60.toInt + 1 ∧ 1 ≤ v_80.toInt ∧ v_80.toInt ≤ 20 := iv_addc ev_80 i_74 (by decide) (by decide) (by decide)
                refine lv_goto (tgt := 74) hx hb dX1_landWheels_108 (by decide) ?_
                have z_89 : (fv_2 11).toInt = (fv 11).toInt := congrArg Int32.toInt ((fr_3 11 rfl))
                have z_90 : 0 ≤ (fv_2 11).toInt ∧ (fv_2 11).toInt ≤ 20 := hF_fv_2 11
                exact ih_68 v_80 ar_61 _ _ ls (by omega) (iv_w t_81.2 (by decide) (by decide)) hA_ar_61 (fA_call (fA_rf [55] _) fa_62 (by decide)) hp_63 hp_64 hp_65 (by rw [show v_80.toInt.toNat = (x_60.toInt.toNat) + 1 from by omega]; show _ = mo_xl2 a.toInt (mo_fo (mo_xl2 a.toInt) (mo_fo (mo_xl1 (mx_D fv ar) (mx_G ar) a.toInt) (mx_S fv ar) (((fv 10).toInt.toNat))) ((x_60.toInt.toNat))) (x_60.toInt.toNat); rw [← q_66]; have hs11 : mx_S fv_2 ar_61 11 (x_60.toInt.toNat) = v_77 := (by show ar_61 55 (x_60.toInt.toNat) = _; exact ((show v_77 = ar_61 55 (x_60.toInt.toNat) from by rw [ev_77]; exact congrArg (ar_61 55) (show x_60.toInt.toNat = (x_60.toInt.toNat) from by omega))).symm); unfold mo_xl2; rw [hs11, if_neg (by omega)]) (by omega) hP hS (lv_sub hl [1, 2, 0] rfl)
              · skip
                have i_83 : 0 ≤ v_77.toInt ∧ v_77.toInt ≤ 839 := iv_eq1 h_a c_78
                have k_84 := congrArg Int32.toInt c_78
                refine lv_aload_n hx hb dX1_landWheels_98 rfl (lv_at hl 0 rfl) ?_
                refine gX_X1_71 hx hb htg hown hK hP dX1_landWheels_99 ?_
                refine lv_iload_n hx hb dX1_landWheels_102 rfl (lv_at hl 2 rfl) ?_
                refine lv_iconst (v := (-1)) hx hb dX1_landWheels_103 (by decide) ?_
                refine sX_55 hx hb hK hP hS hd (iv_in i_74 (by decide) (by decide)) dX1_landWheels_104 (fun H locs ar_85 ear_85 hP hS => ?_)
                have hA_ar_85 : rB ar_85 := rB_put hA_ar_61 ear_85 (iv_any _)
                obtain ⟨v_86, ev_86⟩ : ∃ z : Int32, z = x_60 + 1 := ⟨_, rfl⟩
                refine lv_iinc (v := v_86) (lv' := [(2, .int v_86), (0, .ref (ob 8)), (1, .int a)]) hx hb dX1_landWheels_105 hl (k := 2) rfl (by rw [ev_86]; rfl) (by decide) rfl (fun ls hl => ?_)
                have t_87 : v_86.toInt = x_60.toInt + 1 ∧ 1 ≤ v_86.toInt ∧ v_86.toInt ≤ 20 := iv_addc ev_86 i_74 (by decide) (by decide) (by decide)
                refine lv_goto (tgt := 74) hx hb dX1_landWheels_108 (by decide) ?_
                have z_91 : (fv_2 11).toInt = (fv 11).toInt := congrArg Int32.toInt ((fr_3 11 rfl))
                have z_92 : 0 ≤ (fv_2 11).toInt ∧ (fv_2 11).toInt ≤ 20 := hF_fv_2 11
                exact ih_68 v_86 ar_85 _ _ ls (by omega) (iv_w t_87.2 (by decide) (by decide)) hA_ar_85 (fA_put (fA_call (fA_rf [55] _) fa_62 (by decide)) ear_85 (by decide)) (mx_C_fr hp_63 (fM_rf [] _) (fA_put (fA_rf [55] _) ear_85 (by decide)) rfl rfl rfl rfl rfl rfl rfl rfl rfl rfl rfl rfl rfl rfl rfl rfl rfl rfl rfl rfl rfl rfl rfl rfl rfl rfl rfl rfl) (mx_R_fr hp_64 (fM_rf [] _) (fA_put (fA_rf [55] _) ear_85 (by decide)) rfl rfl rfl rfl rfl rfl rfl rfl rfl rfl rfl rfl rfl rfl rfl rfl rfl rfl rfl rfl rfl rfl rfl rfl rfl rfl rfl) (mx_Y_fr hp_65 (fM_rf [] _) (fA_put (fA_rf [55] _) ear_85 (by decide)) rfl rfl rfl rfl rfl rfl rfl rfl rfl rfl rfl rfl rfl rfl rfl rfl rfl rfl rfl rfl rfl rfl rfl rfl rfl rfl rfl rfl rfl rfl rfl rfl) (by rw [show v_86.toInt.toNat = (x_60.toInt.toNat) + 1 from by omega]; show _ = mo_xl2 a.toInt (mo_fo (mo_xl2 a.toInt) (mo_fo (mo_xl1 (mx_D fv ar) (mx_G ar) a.toInt) (mx_S fv ar) (((fv 10).toInt.toNat))) ((x_60.toInt.toNat))) (x_60.toInt.toNat); rw [← q_66]; have hs11 : mx_S fv_2 ar_61 11 (x_60.toInt.toNat) = v_77 := (by show ar_61 55 (x_60.toInt.toNat) = _; exact ((show v_77 = ar_61 55 (x_60.toInt.toNat) from by rw [ev_77]; exact congrArg (ar_61 55) (show x_60.toInt.toNat = (x_60.toInt.toNat) from by omega))).symm); unfold mo_xl2; rw [hs11, if_pos (by omega)]; exact mx_S_put (r := 11) (by decide) ear_85) (by omega) hP hS (lv_sub hl [1, 2, 0] rfl)
        · skip
          have z_93 : (0 : Int32).toInt = 0 := by decide
          have z_94 : (fv_2 11).toInt = (fv 11).toInt := congrArg Int32.toInt ((fr_3 11 rfl))
          have z_95 : 0 ≤ (fv_2 11).toInt ∧ (fv_2 11).toInt ≤ 20 := hF_fv_2 11
          exact hj_70 21 0 ar_4 _ _ ls (by first | decide | omega) (iv_w (⟨by decide, by decide⟩ : (0 : Int) ≤ (0 : Int32).toInt ∧ (0 : Int32).toInt ≤ 0) (by decide) (by decide)) hA_ar_4 (fA_rf [55] _) hp_8 hp_9 hp_10 (by rw [show (0 : Int32).toInt.toNat = 0 from by decide]; show _ = mo_fo (mo_xl1 (mx_D fv ar) (mx_G ar) a.toInt) (mx_S fv ar) (((fv 10).toInt.toNat)); have h9 := q_11; rw [show x_1.toInt.toNat = ((fv 10).toInt.toNat) from by omega] at h9; exact h9) (by omega) hP hS (lv_sub hl [1, 2, 0] rfl)
      · skip
        have i_19 : 0 ≤ x_1.toInt ∧ x_1.toInt ≤ 39 := iv_lt1 i_x_1 i_16 (Int32.not_le.mp c_17)
        have i_20 : 1 ≤ (fv 10).toInt ∧ (fv 10).toInt ≤ 40 := iv_lt2 i_x_1 i_16 (Int32.not_le.mp c_17)
        have k_21 := Int32.lt_iff_toInt_lt.mp (Int32.not_le.mp c_17)
        refine lv_aload_n hx hb dX1_landWheels_16 rfl (lv_at hl 0 rfl) ?_
        refine gX_X1_54 hx hb htg hown hK hP dX1_landWheels_17 ?_
        refine lv_iload_n hx hb dX1_landWheels_20 rfl (lv_at hl 2 rfl) ?_
        refine lX_50 hx hb hK hP (iv_in i_19 (by decide) (by decide)) dX1_landWheels_21 (fun v_22 ev_22 => ?_)
        have i_23 : (-1) ≤ v_22.toInt ∧ v_22.toInt ≤ 19 := ev_22 ▸ hA_ar_4 50 _
        refine lv_istore_n (lv' := [(3, .int v_22), (0, .ref (ob 8)), (1, .int a), (2, .int x_1)]) hx hb dX1_landWheels_22 rfl hl (by decide) rfl (fun ls hl => ?_)
        refine lv_iload_n hx hb dX1_landWheels_23 rfl (lv_at hl 0 rfl) ?_
        refine lv_iconst (v := (-1)) hx hb dX1_landWheels_24 (by decide) ?_
        refine lv_icmp_eq (tgt := 66) hx hb dX1_landWheels_25 (by decide) (fun c_24 => ?_) (fun c_24 => ?_)
        · skip
          have i_25 : (-1) ≤ v_22.toInt ∧ v_22.toInt ≤ (-1) := iv_eq1 (⟨by decide, by decide⟩ : (-1 : Int) ≤ ((-1) : Int32).toInt ∧ ((-1) : Int32).toInt ≤ -1) c_24
          obtain ⟨v_27, ev_27⟩ : ∃ z : Int32, z = x_1 + 1 := ⟨_, rfl⟩
          refine lv_iinc (v := v_27) (lv' := [(2, .int v_27), (3, .int v_22), (0, .ref (ob 8)), (1, .int a)]) hx hb dX1_landWheels_66 hl (k := 3) rfl (by rw [ev_27]; rfl) (by decide) rfl (fun ls hl => ?_)
          have t_28 : v_27.toInt = x_1.toInt + 1 ∧ 1 ≤ v_27.toInt ∧ v_27.toInt ≤ 40 := iv_addc ev_27 i_19 (by decide) (by decide) (by decide)
          refine lv_goto (tgt := 2) hx hb dX1_landWheels_69 (by decide) ?_
          have z_96 : (fv_2 10).toInt = (fv 10).toInt := congrArg Int32.toInt ((fr_3 10 rfl))
          have z_97 : 0 ≤ (fv_2 10).toInt ∧ (fv_2 10).toInt ≤ 40 := hF_fv_2 10
          exact ih_13 v_27 fv_2 ar_4 wd_6 _ _ ls (by omega) (iv_w t_28.2 (by decide) (by decide)) hF_fv_2 (fM_call (fM_rf [] _) fr_3 (by decide)) hA_ar_4 (fA_call (fA_rf [45, 46, 47, 49, 50, 62, 63, 64] _) fa_5 (by decide)) wf_7 hp_8 hp_9 hp_10 (by rw [show v_27.toInt.toNat = (x_1.toInt.toNat) + 1 from by omega]; show _ = mo_xl1 (mx_D fv ar) (mx_G ar) a.toInt (mo_fo (mo_xl1 (mx_D fv ar) (mx_G ar) a.toInt) (mx_S fv ar) ((x_1.toInt.toNat))) (x_1.toInt.toNat); rw [← q_11]; have hs6 : mx_S fv_2 ar_4 6 (x_1.toInt.toNat) = v_22 := (by show ar_4 50 (x_1.toInt.toNat) = _; exact ((show v_22 = ar_4 50 (x_1.toInt.toNat) from by rw [ev_22]; exact congrArg (ar_4 50) (show x_1.toInt.toNat = (x_1.toInt.toNat) from by omega))).symm); unfold mo_xl1; rw [hs6, if_neg (fun w => w.1 (by omega))]) (by omega) hP hS (lv_sub hl [2, 3, 0] rfl)
        · skip
          have i_30 : 0 ≤ v_22.toInt ∧ v_22.toInt ≤ 19 := iv_nel i_23 (by decide) c_24
          have k_31 : ¬ v_22.toInt = (-1) := fun q => c_24 (Int32.toInt_inj.mp q)
          refine lv_aload_n hx hb dX1_landWheels_28 rfl (lv_at hl 1 rfl) ?_
          refine gX_X1_71 hx hb htg hown hK hP dX1_landWheels_29 ?_
          refine lv_iload_n hx hb dX1_landWheels_32 rfl (lv_at hl 0 rfl) ?_
          refine lX_55 hx hb hK hP (iv_in i_30 (by decide) (by decide)) dX1_landWheels_33 (fun v_32 ev_32 => ?_)
          refine lv_iload_n hx hb dX1_landWheels_34 rfl (lv_at hl 2 rfl) ?_
          refine lv_icmp_ne (tgt := 66) hx hb dX1_landWheels_35 (by decide) (fun c_33 => ?_) (fun c_33 => ?_)
          · skip
            have k_34 : ¬ v_32.toInt = a.toInt := fun q => c_33 (Int32.toInt_inj.mp q)
            obtain ⟨v_35, ev_35⟩ : ∃ z : Int32, z = x_1 + 1 := ⟨_, rfl⟩
            refine lv_iinc (v := v_35) (lv' := [(2, .int v_35), (3, .int v_22), (0, .ref (ob 8)), (1, .int a)]) hx hb dX1_landWheels_66 hl (k := 3) rfl (by rw [ev_35]; rfl) (by decide) rfl (fun ls hl => ?_)
            have t_36 : v_35.toInt = x_1.toInt + 1 ∧ 1 ≤ v_35.toInt ∧ v_35.toInt ≤ 40 := iv_addc ev_35 i_19 (by decide) (by decide) (by decide)
            refine lv_goto (tgt := 2) hx hb dX1_landWheels_69 (by decide) ?_
            have z_98 : (fv_2 10).toInt = (fv 10).toInt := congrArg Int32.toInt ((fr_3 10 rfl))
            have z_99 : 0 ≤ (fv_2 10).toInt ∧ (fv_2 10).toInt ≤ 40 := hF_fv_2 10
            exact ih_13 v_35 fv_2 ar_4 wd_6 _ _ ls (by omega) (iv_w t_36.2 (by decide) (by decide)) hF_fv_2 (fM_call (fM_rf [] _) fr_3 (by decide)) hA_ar_4 (fA_call (fA_rf [45, 46, 47, 49, 50, 62, 63, 64] _) fa_5 (by decide)) wf_7 hp_8 hp_9 hp_10 (by rw [show v_35.toInt.toNat = (x_1.toInt.toNat) + 1 from by omega]; show _ = mo_xl1 (mx_D fv ar) (mx_G ar) a.toInt (mo_fo (mo_xl1 (mx_D fv ar) (mx_G ar) a.toInt) (mx_S fv ar) ((x_1.toInt.toNat))) (x_1.toInt.toNat); rw [← q_11]; have hs6 : mx_S fv_2 ar_4 6 (x_1.toInt.toNat) = v_22 := (by show ar_4 50 (x_1.toInt.toNat) = _; exact ((show v_22 = ar_4 50 (x_1.toInt.toNat) from by rw [ev_22]; exact congrArg (ar_4 50) (show x_1.toInt.toNat = (x_1.toInt.toNat) from by omega))).symm); have hs11 : mx_S fv_2 ar_4 11 (v_22.toInt.toNat) = v_32 := (by show ar_4 55 _ = _; exact ((show v_32 = ar_4 55 (v_22.toInt.toNat) from by rw [ev_32]; exact congrArg (ar_4 55) (show v_22.toInt.toNat = (v_22.toInt.toNat) from by omega))).symm); unfold mo_xl1; rw [hs6, hs11, if_neg (fun w => by have w2 := w.2; omega)]) (by omega) hP hS (lv_sub hl [2, 3, 0] rfl)
          · skip
            have i_38 : 0 ≤ v_32.toInt ∧ v_32.toInt ≤ 839 := iv_eq1 h_a c_33
            have k_39 := congrArg Int32.toInt c_33
            refine lv_aload_n hx hb dX1_landWheels_38 rfl (lv_at hl 1 rfl) ?_
            refine gX_X1_54 hx hb htg hown hK hP dX1_landWheels_39 ?_
            refine lv_iload_n hx hb dX1_landWheels_42 rfl (lv_at hl 3 rfl) ?_
            refine lv_iconst (v := (-1)) hx hb dX1_landWheels_43 (by decide) ?_
            refine sX_50 hx hb hK hP hS hd (iv_in i_19 (by decide) (by decide)) dX1_landWheels_44 (fun H locs ar_40 ear_40 hP hS => ?_)
            have hA_ar_40 : rB ar_40 := rB_put hA_ar_4 ear_40 (iv_w (⟨by decide, by decide⟩ : (-1 : Int) ≤ ((-1) : Int32).toInt ∧ ((-1) : Int32).toInt ≤ -1) (by decide) (by decide))
            refine lv_aload_n hx hb dX1_landWheels_45 rfl (lv_at hl 1 rfl) ?_
            refine lv_iload_n hx hb dX1_landWheels_46 rfl (lv_at hl 3 rfl) ?_
            refine lv_aload_n hx hb dX1_landWheels_47 rfl (lv_at hl 1 rfl) ?_
            refine gX_X1_9 hx hb htg hown hK hP dX1_landWheels_48 ?_
            refine gX_X1_179 hx hb htg hown hK hP dX1_landWheels_51 ?_
            refine lv_aload_n hx hb dX1_landWheels_54 rfl (lv_at hl 1 rfl) ?_
            refine gX_X1_68 hx hb htg hown hK hP dX1_landWheels_55 ?_
            refine lv_iload_n hx hb dX1_landWheels_58 rfl (lv_at hl 0 rfl) ?_
            refine lX_54 hx hb hK hP (iv_in i_30 (by decide) (by decide)) dX1_landWheels_59 (fun v_41 ev_41 => ?_)
            have i_42 : 0 ≤ v_41.toInt ∧ v_41.toInt ≤ 7 := ev_41 ▸ hA_ar_40 54 _
            refine lX_2 hx hb hK hP (iv_in i_42 (by decide) (by decide)) dX1_landWheels_60 (fun v_43 ev_43 => ?_)
            have i_44 : 0 ≤ v_43.toInt ∧ v_43.toInt ≤ 11 := ev_43 ▸ hA_ar_40 2 _
            refine lv_iload_n hx hb dX1_landWheels_61 rfl (lv_at hl 2 rfl) ?_
            refine lv_iload_n hx hb dX1_landWheels_62 rfl (lv_at hl 2 rfl) ?_
            have z_45 : (fv_2 10).toInt = (fv 10).toInt := congrArg Int32.toInt ((fr_3 10 rfl))
            have z_46 : 0 ≤ (fv_2 10).toInt ∧ (fv_2 10).toInt ≤ 40 := hF_fv_2 10
            refine va_callv (va_runV (As := [.int x_1, .int v_43, .int a, .int a]) (rest := []) ⟨hx, hb, hml, hown, hts⟩ (x_chooseE l dC dI H.size ob ad cA hd fv_2 wd_6 ar_40 hF_fv_2 hA_ar_40 x_1 v_43 a a i_19 i_44 h_a (by omega) (mx_R_fr hp_9 (fM_rf [] _) (fA_put (fA_rf [50] _) ear_40 (by decide)) rfl rfl rfl rfl rfl rfl rfl rfl rfl rfl rfl rfl rfl rfl rfl rfl rfl rfl rfl rfl rfl rfl rfl rfl rfl rfl rfl) (mx_Y_fr hp_10 (fM_rf [] _) (fA_put (fA_rf [50] _) ear_40 (by decide)) rfl rfl rfl rfl rfl rfl rfl rfl rfl rfl rfl rfl rfl rfl rfl rfl rfl rfl rfl rfl rfl rfl rfl rfl rfl rfl rfl rfl rfl rfl rfl rfl) (mx_C_fr hp_8 (fM_rf [] _) (fA_put (fA_rf [50] _) ear_40 (by decide)) rfl rfl rfl rfl rfl rfl rfl rfl rfl rfl rfl rfl rfl rfl rfl rfl rfl rfl rfl rfl rfl rfl rfl rfl rfl rfl rfl rfl)) (cwV 4 hts (gV kw_5_122 kw_5_124 kw_p_29 kw_1_12 kw_5_125) rfl rfl rfl (by decide +kernel) ⟨Nat.le_of_ble_eq_true rfl, Nat.le_of_ble_eq_true rfl⟩) ⟨fun a U g mk q => ⟨q.1, q.2.1, q.2.2.1, va_K.moved (u := U) (U := U.calling g mk a) (Vm.Alike.refl U.vm) q.2.2.2⟩, va_recv hK hP (ci := 2) (q0 := 8) rfl rfl, fun U hU hW => ⟨rfl, by rw [hU], by rw [hU]; exact hP, va_K.moved hW.alike hK⟩⟩ rfl rfl hl.1 rfl (lv_room (Nat.le_of_ble_eq_true rfl)) dX1_landWheels_63 ⟨Nat.le_of_ble_eq_true rfl, Nat.le_of_ble_eq_true rfl⟩) hS (fun q _ h9 => aX_up hS q h9) (aX_up hS) (fun u t H1 locs ht _ hw hB _ hk1 hS => ?_)
            obtain ⟨fv_50, wd_51, ar_52⟩ := u
            obtain ⟨hF_fv_50, hA_ar_52, fr_53, fa_54, wf_55, p_48, p_49, -⟩ := hw
            have wf_55 : wd_51.2 = wd_6.2 := wf_55
            have hP : va_P (dC, dI) vwCl (wsX ob ad cA fv_50 wd_51 ar_52) H1 := by have h9 := hB.1; rw [ht] at h9; exact h9
            have fr_53 : fM [] fv_2 fv_50 := fr_53
            have fa_54 : fA [45, 46, 47, 49, 62, 63, 64] ar_40 ar_52 := fa_54
            have p_49 : mx_C fv_50 ar_52 := p_49
            have p_48 : mx_S fv_50 ar_52 = mo_xc (mx_D fv_2 ar_40) (mx_G ar_40) (mx_S fv_2 ar_40) (x_1.toInt.toNat) (v_43.toInt.toNat) a.toInt a.toInt := p_48
            generalize H1 = H at hP hS ⊢
            have k_56 : mx_S fv_50 ar_52 = mo_xc (mx_D fv ar) (mx_G ar) (mx_S fv_2 ar_40) (x_1.toInt.toNat) (v_43.toInt.toNat) (a.toInt) (a.toInt) := by have h9 := p_48; rw [show mx_D fv_2 ar_40 = mx_D fv ar from (mx_D_fr (fM_call (fM_rf [] _) fr_3 (by decide)) (fA_put (fA_call (fA_rf [45, 46, 47, 49, 50, 62, 63, 64] _) fa_5 (by decide)) ear_40 (by decide)) rfl rfl), show mx_G ar_40 = mx_G ar from by unfold mx_G; rw [show ar_40 5 = ar 5 from ((fA_put (fA_call (fA_rf [45, 46, 47, 49, 50, 62, 63, 64] _) fa_5 (by decide)) ear_40 (by decide)) 5 rfl)]] at h9; exact h9
            obtain ⟨v_57, ev_57⟩ : ∃ z : Int32, z = x_1 + 1 := ⟨_, rfl⟩
            refine lv_iinc (v := v_57) (lv' := [(2, .int v_57), (3, .int v_22), (0, .ref (ob 8)), (1, .int a)]) hx hb dX1_landWheels_66 hl (k := 3) rfl (by rw [ev_57]; rfl) (by decide) rfl (fun ls hl => ?_)
            have t_58 : v_57.toInt = x_1.toInt + 1 ∧ 1 ≤ v_57.toInt ∧ v_57.toInt ≤ 40 := iv_addc ev_57 i_19 (by decide) (by decide) (by decide)
            refine lv_goto (tgt := 2) hx hb dX1_landWheels_69 (by decide) ?_
            have z_100 : (fv_50 10).toInt = (fv 10).toInt := congrArg Int32.toInt ((fr_53 10 rfl).trans ((fr_3 10 rfl)))
            have z_101 : 0 ≤ (fv_50 10).toInt ∧ (fv_50 10).toInt ≤ 40 := hF_fv_50 10
            exact ih_13 v_57 fv_50 ar_52 wd_51 _ _ ls (by omega) (iv_w t_58.2 (by decide) (by decide)) hF_fv_50 (fM_call (fM_call (fM_rf [] _) fr_3 (by decide)) fr_53 (by decide)) hA_ar_52 (fA_call (fA_put (fA_call (fA_rf [45, 46, 47, 49, 50, 62, 63, 64] _) fa_5 (by decide)) ear_40 (by decide)) fa_54 (by decide)) (wf_55.trans wf_7) p_49 (mx_R_fr hp_9 (fM_call (fM_rf [] _) fr_53 (by decide)) (fA_call (fA_put (fA_rf [45, 46, 47, 49, 50, 62, 63, 64] _) ear_40 (by decide)) fa_54 (by decide)) rfl rfl rfl rfl rfl rfl rfl rfl rfl rfl rfl rfl rfl rfl rfl rfl rfl rfl rfl rfl rfl rfl rfl rfl rfl rfl rfl) (mx_Y_fr hp_10 (fM_call (fM_rf [] _) fr_53 (by decide)) (fA_call (fA_put (fA_rf [45, 46, 47, 49, 50, 62, 63, 64] _) ear_40 (by decide)) fa_54 (by decide)) rfl rfl rfl rfl rfl rfl rfl rfl rfl rfl rfl rfl rfl rfl rfl rfl rfl rfl rfl rfl rfl rfl rfl rfl rfl rfl rfl rfl rfl rfl rfl rfl) (by rw [show v_57.toInt.toNat = (x_1.toInt.toNat) + 1 from by omega]; show _ = mo_xl1 (mx_D fv ar) (mx_G ar) a.toInt (mo_fo (mo_xl1 (mx_D fv ar) (mx_G ar) a.toInt) (mx_S fv ar) ((x_1.toInt.toNat))) (x_1.toInt.toNat); rw [← q_11]; have hs6 : mx_S fv_2 ar_4 6 (x_1.toInt.toNat) = v_22 := (by show ar_4 50 (x_1.toInt.toNat) = _; exact ((show v_22 = ar_4 50 (x_1.toInt.toNat) from by rw [ev_22]; exact congrArg (ar_4 50) (show x_1.toInt.toNat = (x_1.toInt.toNat) from by omega))).symm); have hs11 : mx_S fv_2 ar_4 11 (v_22.toInt.toNat) = v_32 := (by show ar_4 55 _ = _; exact ((show v_32 = ar_4 55 (v_22.toInt.toNat) from by rw [ev_32]; exact congrArg (ar_4 55) (show v_22.toInt.toNat = (v_22.toInt.toNat) from by omega))).symm); have hs10 : mx_S fv_2 ar_4 10 (v_22.toInt.toNat) = v_41 := (by show ar_4 54 _ = _; exact ((show v_41 = ar_4 54 (v_22.toInt.toNat) from by rw [ev_41, show ar_40 54 = ar_4 54 from ((fA_put (fA_rf [50] _) ear_40 (by decide)) 54 rfl)]; exact congrArg (ar_4 54) (show v_22.toInt.toNat = (v_22.toInt.toNat) from by omega))).symm); unfold mo_xl1; rw [hs6, hs11, if_pos ⟨by omega, by omega⟩, hs10, k_56, show mx_S fv_2 ar_40 = mo_se (mx_S fv_2 ar_4) 6 (x_1.toInt.toNat) (-1) from mx_S_put (r := 6) (by decide) ear_40]; show _ = mo_xc (mx_D fv ar) (mx_G ar) _ _ ((ar 2 (v_41.toInt.toNat)).toInt.toNat) _ _; rw [show ar 2 (v_41.toInt.toNat) = v_43 from ((show v_43 = ar 2 (v_41.toInt.toNat) from by rw [ev_43, show ar_40 2 = ar 2 from ((fA_put (fA_call (fA_rf [45, 46, 47, 49, 50, 62, 63, 64] _) fa_5 (by decide)) ear_40 (by decide)) 2 rfl)]; exact congrArg (ar 2) (show v_41.toInt.toNat = (v_41.toInt.toNat) from by omega))).symm]) (by omega) hP hS (lv_sub hl [2, 3, 0] rfl)
  · skip
    have z_102 : (0 : Int32).toInt = 0 := by decide
    have z_103 : 0 ≤ (fv 10).toInt ∧ (fv 10).toInt ≤ 40 := hF_fv 10
    exact hj_15 41 0 fv ar wd _ _ ls (by first | decide | omega) (iv_w (⟨by decide, by decide⟩ : (0 : Int) ≤ (0 : Int32).toInt ∧ (0 : Int32).toInt ≤ 0) (by decide) (by decide)) hF_fv (fM_rf [] _) hA_ar (fA_rf [45, 46, 47, 49, 50, 62, 63, 64] _) rfl hp_mC hp_mR hp_mY (by rw [show (0 : Int32).toInt.toNat = 0 from by decide]; rfl) (by omega) hP hS (lv_sub hl [1, 2, 0] rfl)
set_option maxHeartbeats 4000000 in
set_option maxRecDepth 100000 in
theorem x_leaveHomesE (l : Launch) (dC : Nat → ClassId) (dI : Nat → Nat → Nat) (sz : Nat) (ob ad : Nat → Nat) (cA : Nat → ClassId) (hd : dX ob ad) (fv : Nat → Int32) (wd : xT) (ar : Nat → Nat → Int32) (hF_fv : rX fv) (hA_ar : rB ar) (a : Int32) (h_a : 0 ≤ a.toInt ∧ a.toInt ≤ 839) (hp_mR : mx_R fv ar) (hp_mY : mx_Y fv ar) (hp_mC : mx_C fv ar) : Met l yX1_leaveHomes (.code yX1_leaveHomes cX1_leaveHomes 3 none :: lw_good) ({ frames := 7, cells := 0, slots := 0, locals := 168 }) (va_Pc [.ref (ob 8), .int a] (prX dC dI ob ad cA fv wd ar sz)) (va_Qv (fun (u : xS) => rX u.1 ∧ rB u.2.2 ∧ fM [] fv u.1 ∧ fA [45, 46, 47, 49, 62, 63, 64] ar u.2.2 ∧ u.2.1.2 = wd.2 ∧ (mx_S u.1 u.2.2 = mo_fo (mo_xh1 (mx_D fv ar) (mx_G ar) a.toInt) (mx_S fv ar) (((fv 10).toInt.toNat))) ∧ (mx_C u.1 u.2.2) ∧ True) (enX dC dI ob ad cA) (aX ob ad sz)) 0 0 (aX ob ad sz) := by
  refine Met.ofW (cc := cX1_leaveHomes) (maxL := 3) (ret := none) (by decide) rfl ?_
  intro p e s m args below meth c s₁ B hml hv
  obtain ⟨rfl, hsz, hP, hK⟩ := hv
  have hx := B.exec
  have hb := B.bytes
  have hr := B.returns
  have hts := atoms_spec (ws := (.code yX1_leaveHomes cX1_leaveHomes 3 none :: lw_good)) B.pre
  have htg : ∀ w ∈ lw_good, w.before _ s = true := fun w hw => hts w (List.mem_cons_of_mem _ hw)
  have hown : s.vm.findClass RX1 = some m.cls := findClass_of_methodNamed B.named
  have hlocks := B.notSynchronized
  subst hsz
  have hS : va_S (aX ob ad s.heap.size) s.heap s.heap [] := va_S.rf
  have hl := lv_entry ([.ref (ob 8), .int a]) (n := 3) (Nat.le_of_ble_eq_true rfl)
  rw [lg_entry_eq]
  generalize (lg_sl ([.ref (ob 8), .int a]) ++ List.replicate (3 - (lg_sl ([.ref (ob 8), .int a])).length) Slot.unset).toArray = ls at hl ⊢
  have hl : lv_has ls 3 [(0, .ref (ob 8)), (1, .int a)] := hl
  refine lv_iconst (v := 0) hx hb dX1_leaveHomes_0 (by decide) ?_
  refine lv_istore_n (lv' := [(2, .int 0), (0, .ref (ob 8)), (1, .int a)]) hx hb dX1_leaveHomes_1 rfl hl (by decide) rfl (fun ls hl => ?_)
  refine my_cut (P := fun R9 a9 Q9 => ∀ (n_13 : Nat) (x_1 : Int32) (fv_2 : Nat → Int32) (ar_4 : Nat → Nat → Int32) (wd_6 : xT) (H : Heap) (locs : List Loc) (ls : Array Slot), 40 - x_1.toInt < (n_13 : Int) → (0 ≤ x_1.toInt ∧ x_1.toInt ≤ 40) → rX fv_2 → fM [] fv fv_2 → rB ar_4 → fA [45, 46, 47, 49, 62, 63, 64] ar ar_4 → wd_6.2 = wd.2 → mx_C fv_2 ar_4 → mx_R fv_2 ar_4 → mx_Y fv_2 ar_4 → (mx_S fv_2 ar_4 = mo_fo (mo_xh1 (mx_D fv ar) (mx_G ar) a.toInt) (mx_S fv ar) (x_1.toInt.toNat)) → (x_1.toInt ≤ (fv 10).toInt) → va_P (dC, dI) vwCl (wsX ob ad cA fv_2 wd_6 ar_4) H → va_S (aX ob ad s.heap.size) s.heap H locs → lv_has ls 3 [(0, .ref (ob 8)), (1, .int a), (2, .int x_1)] → W p l e R9 s m a9 below meth c H locs 0 0 Q9 (F0 m 2 ls [])) ?_ (fun hj_15 => ?_)
  · intro n_13
    induction n_13 with
    | zero => intro x_1 fv_2 ar_4 wd_6 H locs ls fu_14 i_x_1 hF_fv_2 fr_3 hA_ar_4 fa_5 wf_7 hp_8 hp_9 hp_10 q_11 q_12; exfalso; omega
    | succ n_13 ih_13 =>
      intro x_1 fv_2 ar_4 wd_6 H locs ls fu_14 i_x_1 hF_fv_2 fr_3 hA_ar_4 fa_5 wf_7 hp_8 hp_9 hp_10 q_11 q_12 hP hS hl
      refine lv_iload_n hx hb dX1_leaveHomes_2 rfl (lv_at hl 2 rfl) ?_
      refine lv_aload_n hx hb dX1_leaveHomes_3 rfl (lv_at hl 0 rfl) ?_
      refine gX_X1_9 hx hb htg hown hK hP dX1_leaveHomes_4 ?_
      refine gX_X1_129 hx hb htg hown hK hP dX1_leaveHomes_7 ?_
      refine gX_X1_133 hx hb htg hown hK hP dX1_leaveHomes_10 ?_
      refine my_ti (y := fv 10) ((fr_3 10 rfl)) ?_
      have i_16 : 0 ≤ (fv 10).toInt ∧ (fv 10).toInt ≤ 40 := hF_fv 10
      refine lv_icmp_ge (tgt := 57) hx hb dX1_leaveHomes_13 (by decide) (fun c_17 => ?_) (fun c_17 => ?_)
      · skip
        have k_18 := Int32.le_iff_toInt_le.mp c_17
        exact W.vret hx hb hr (fun t ht hW => ⟨⟨(fv_2, wd_6, ar_4), rfl, ⟨hF_fv_2, hA_ar_4, (fM_call (fM_rf [] _) fr_3 (by decide)), (fA_call (fA_rf [45, 46, 47, 49, 62, 63, 64] _) fa_5 (by decide)), wf_7, (show mx_S fv_2 ar_4 = mo_fo (mo_xh1 (mx_D fv ar) (mx_G ar) a.toInt) (mx_S fv ar) (((fv 10).toInt.toNat)) from by have h9 := q_11; rw [show x_1.toInt.toNat = (fv 10).toInt.toNat from by omega] at h9; exact h9), hp_8, trivial⟩, ⟨by rw [ht]; exact hP, va_K.moved hW.alike hK⟩⟩, hS.F ht⟩) hS.2.2 dX1_leaveHomes_57
      · skip
        have i_19 : 0 ≤ x_1.toInt ∧ x_1.toInt ≤ 39 := iv_lt1 i_x_1 i_16 (Int32.not_le.mp c_17)
        have i_20 : 1 ≤ (fv 10).toInt ∧ (fv 10).toInt ≤ 40 := iv_lt2 i_x_1 i_16 (Int32.not_le.mp c_17)
        have k_21 := Int32.lt_iff_toInt_lt.mp (Int32.not_le.mp c_17)
        refine lv_aload_n hx hb dX1_leaveHomes_16 rfl (lv_at hl 0 rfl) ?_
        refine gX_X1_9 hx hb htg hown hK hP dX1_leaveHomes_17 ?_
        refine gX_X1_129 hx hb htg hown hK hP dX1_leaveHomes_20 ?_
        refine gX_X1_142 hx hb htg hown hK hP dX1_leaveHomes_23 ?_
        refine lv_iload_n hx hb dX1_leaveHomes_26 rfl (lv_at hl 2 rfl) ?_
        refine lX_9 hx hb hK hP (iv_in i_19 (by decide) (by decide)) dX1_leaveHomes_27 (fun v_22 ev_22 => ?_)
        refine lv_iload_n hx hb dX1_leaveHomes_28 rfl (lv_at hl 1 rfl) ?_
        refine lv_icmp_ne (tgt := 51) hx hb dX1_leaveHomes_29 (by decide) (fun c_23 => ?_) (fun c_23 => ?_)
        · skip
          have k_24 : ¬ v_22.toInt = a.toInt := fun q => c_23 (Int32.toInt_inj.mp q)
          obtain ⟨v_25, ev_25⟩ : ∃ z : Int32, z = x_1 + 1 := ⟨_, rfl⟩
          refine lv_iinc (v := v_25) (lv' := [(2, .int v_25), (0, .ref (ob 8)), (1, .int a)]) hx hb dX1_leaveHomes_51 hl (k := 2) rfl (by rw [ev_25]; rfl) (by decide) rfl (fun ls hl => ?_)
          have t_26 : v_25.toInt = x_1.toInt + 1 ∧ 1 ≤ v_25.toInt ∧ v_25.toInt ≤ 40 := iv_addc ev_25 i_19 (by decide) (by decide) (by decide)
          refine lv_goto (tgt := 2) hx hb dX1_leaveHomes_54 (by decide) ?_
          have z_47 : (fv_2 10).toInt = (fv 10).toInt := congrArg Int32.toInt ((fr_3 10 rfl))
          have z_48 : 0 ≤ (fv_2 10).toInt ∧ (fv_2 10).toInt ≤ 40 := hF_fv_2 10
          exact ih_13 v_25 fv_2 ar_4 wd_6 _ _ ls (by omega) (iv_w t_26.2 (by decide) (by decide)) hF_fv_2 (fM_call (fM_rf [] _) fr_3 (by decide)) hA_ar_4 (fA_call (fA_rf [45, 46, 47, 49, 62, 63, 64] _) fa_5 (by decide)) wf_7 hp_8 hp_9 hp_10 (by rw [show v_25.toInt.toNat = (x_1.toInt.toNat) + 1 from by omega]; show _ = mo_xh1 (mx_D fv ar) (mx_G ar) a.toInt (mo_fo (mo_xh1 (mx_D fv ar) (mx_G ar) a.toInt) (mx_S fv ar) ((x_1.toInt.toNat))) (x_1.toInt.toNat); rw [← q_11]; have hl9 : (mx_D fv ar) 2 (x_1.toInt.toNat) = v_22 := (by show ar 9 (x_1.toInt.toNat) = _; exact ((show v_22 = ar 9 (x_1.toInt.toNat) from by rw [ev_22, show ar_4 9 = ar 9 from ((fA_call (fA_rf [45, 46, 47, 49, 62, 63, 64] _) fa_5 (by decide)) 9 rfl)]; exact congrArg (ar 9) (show x_1.toInt.toNat = (x_1.toInt.toNat) from by omega))).symm); unfold mo_xh1; rw [hl9, if_neg (by omega)]) (by omega) hP hS (lv_sub hl [1, 2, 0] rfl)
        · skip
          have i_28 : 0 ≤ v_22.toInt ∧ v_22.toInt ≤ 839 := iv_eq1 h_a c_23
          have k_29 := congrArg Int32.toInt c_23
          refine lv_aload_n hx hb dX1_leaveHomes_32 rfl (lv_at hl 0 rfl) ?_
          refine lv_iload_n hx hb dX1_leaveHomes_33 rfl (lv_at hl 2 rfl) ?_
          refine lv_aload_n hx hb dX1_leaveHomes_34 rfl (lv_at hl 0 rfl) ?_
          refine gX_X1_9 hx hb htg hown hK hP dX1_leaveHomes_35 ?_
          refine gX_X1_129 hx hb htg hown hK hP dX1_leaveHomes_38 ?_
          refine gX_X1_186 hx hb htg hown hK hP dX1_leaveHomes_41 ?_
          refine lv_iload_n hx hb dX1_leaveHomes_44 rfl (lv_at hl 2 rfl) ?_
          refine lX_6 hx hb hK hP (iv_in i_19 (by decide) (by decide)) dX1_leaveHomes_45 (fun v_30 ev_30 => ?_)
          have i_31 : 0 ≤ v_30.toInt ∧ v_30.toInt ≤ 11 := ev_30 ▸ hA_ar_4 6 _
          refine lv_iload_n hx hb dX1_leaveHomes_46 rfl (lv_at hl 1 rfl) ?_
          refine lv_iload_n hx hb dX1_leaveHomes_47 rfl (lv_at hl 1 rfl) ?_
          have z_32 : (fv_2 10).toInt = (fv 10).toInt := congrArg Int32.toInt ((fr_3 10 rfl))
          have z_33 : 0 ≤ (fv_2 10).toInt ∧ (fv_2 10).toInt ≤ 40 := hF_fv_2 10
          refine va_callv (va_runV (As := [.int x_1, .int v_30, .int a, .int a]) (rest := []) ⟨hx, hb, hml, hown, hts⟩ (x_chooseE l dC dI H.size ob ad cA hd fv_2 wd_6 ar_4 hF_fv_2 hA_ar_4 x_1 v_30 a a i_19 i_31 h_a (by omega) hp_9 hp_10 hp_8) (cwV 4 hts (gV kw_5_122 kw_5_124 kw_p_29 kw_1_12 kw_5_125) rfl rfl rfl (by decide +kernel) ⟨Nat.le_of_ble_eq_true rfl, Nat.le_of_ble_eq_true rfl⟩) ⟨fun a U g mk q => ⟨q.1, q.2.1, q.2.2.1, va_K.moved (u := U) (U := U.calling g mk a) (Vm.Alike.refl U.vm) q.2.2.2⟩, va_recv hK hP (ci := 2) (q0 := 8) rfl rfl, fun U hU hW => ⟨rfl, by rw [hU], by rw [hU]; exact hP, va_K.moved hW.alike hK⟩⟩ rfl rfl hl.1 rfl (lv_room (Nat.le_of_ble_eq_true rfl)) dX1_leaveHomes_48 ⟨Nat.le_of_ble_eq_true rfl, Nat.le_of_ble_eq_true rfl⟩) hS (fun q _ h9 => aX_up hS q h9) (aX_up hS) (fun u t H1 locs ht _ hw hB _ hk1 hS => ?_)
          obtain ⟨fv_37, wd_38, ar_39⟩ := u
          obtain ⟨hF_fv_37, hA_ar_39, fr_40, fa_41, wf_42, p_35, p_36, -⟩ := hw
          have wf_42 : wd_38.2 = wd_6.2 := wf_42
          have hP : va_P (dC, dI) vwCl (wsX ob ad cA fv_37 wd_38 ar_39) H1 := by have h9 := hB.1; rw [ht] at h9; exact h9
          have fr_40 : fM [] fv_2 fv_37 := fr_40
          have fa_41 : fA [45, 46, 47, 49, 62, 63, 64] ar_4 ar_39 := fa_41
          have p_36 : mx_C fv_37 ar_39 := p_36
          have p_35 : mx_S fv_37 ar_39 = mo_xc (mx_D fv_2 ar_4) (mx_G ar_4) (mx_S fv_2 ar_4) (x_1.toInt.toNat) (v_30.toInt.toNat) a.toInt a.toInt := p_35
          generalize H1 = H at hP hS ⊢
          have k_43 : mx_S fv_37 ar_39 = mo_xc (mx_D fv ar) (mx_G ar) (mx_S fv_2 ar_4) (x_1.toInt.toNat) (v_30.toInt.toNat) (a.toInt) (a.toInt) := by have h9 := p_35; rw [show mx_D fv_2 ar_4 = mx_D fv ar from (mx_D_fr (fM_call (fM_rf [] _) fr_3 (by decide)) (fA_call (fA_rf [45, 46, 47, 49, 62, 63, 64] _) fa_5 (by decide)) rfl rfl), show mx_G ar_4 = mx_G ar from by unfold mx_G; rw [show ar_4 5 = ar 5 from ((fA_call (fA_rf [45, 46, 47, 49, 62, 63, 64] _) fa_5 (by decide)) 5 rfl)]] at h9; exact h9
          obtain ⟨v_44, ev_44⟩ : ∃ z : Int32, z = x_1 + 1 := ⟨_, rfl⟩
          refine lv_iinc (v := v_44) (lv' := [(2, .int v_44), (0, .ref (ob 8)), (1, .int a)]) hx hb dX1_leaveHomes_51 hl (k := 2) rfl (by rw [ev_44]; rfl) (by decide) rfl (fun ls hl => ?_)
          have t_45 : v_44.toInt = x_1.toInt + 1 ∧ 1 ≤ v_44.toInt ∧ v_44.toInt ≤ 40 := iv_addc ev_44 i_19 (by decide) (by decide) (by decide)
          refine lv_goto (tgt := 2) hx hb dX1_leaveHomes_54 (by decide) ?_
          have z_49 : (fv_37 10).toInt = (fv 10).toInt := congrArg Int32.toInt ((fr_40 10 rfl).trans ((fr_3 10 rfl)))
          have z_50 : 0 ≤ (fv_37 10).toInt ∧ (fv_37 10).toInt ≤ 40 := hF_fv_37 10
          exact ih_13 v_44 fv_37 ar_39 wd_38 _ _ ls (by omega) (iv_w t_45.2 (by decide) (by decide)) hF_fv_37 (fM_call (fM_call (fM_rf [] _) fr_3 (by decide)) fr_40 (by decide)) hA_ar_39 (fA_call (fA_call (fA_rf [45, 46, 47, 49, 62, 63, 64] _) fa_5 (by decide)) fa_41 (by decide)) (wf_42.trans wf_7) p_36 (mx_R_fr hp_9 (fM_call (fM_rf [] _) fr_40 (by decide)) (fA_call (fA_rf [45, 46, 47, 49, 62, 63, 64] _) fa_41 (by decide)) rfl rfl rfl rfl rfl rfl rfl rfl rfl rfl rfl rfl rfl rfl rfl rfl rfl rfl rfl rfl rfl rfl rfl rfl rfl rfl rfl) (mx_Y_fr hp_10 (fM_call (fM_rf [] _) fr_40 (by decide)) (fA_call (fA_rf [45, 46, 47, 49, 62, 63, 64] _) fa_41 (by decide)) rfl rfl rfl rfl rfl rfl rfl rfl rfl rfl rfl rfl rfl rfl rfl rfl rfl rfl rfl rfl rfl rfl rfl rfl rfl rfl rfl rfl rfl rfl rfl rfl) (by rw [show v_44.toInt.toNat = (x_1.toInt.toNat) + 1 from by omega]; show _ = mo_xh1 (mx_D fv ar) (mx_G ar) a.toInt (mo_fo (mo_xh1 (mx_D fv ar) (mx_G ar) a.toInt) (mx_S fv ar) ((x_1.toInt.toNat))) (x_1.toInt.toNat); rw [← q_11]; have hl9 : (mx_D fv ar) 2 (x_1.toInt.toNat) = v_22 := (by show ar 9 (x_1.toInt.toNat) = _; exact ((show v_22 = ar 9 (x_1.toInt.toNat) from by rw [ev_22, show ar_4 9 = ar 9 from ((fA_call (fA_rf [45, 46, 47, 49, 62, 63, 64] _) fa_5 (by decide)) 9 rfl)]; exact congrArg (ar 9) (show x_1.toInt.toNat = (x_1.toInt.toNat) from by omega))).symm); unfold mo_xh1; rw [hl9, if_pos (by omega), k_43]; show _ = mo_xc (mx_D fv ar) (mx_G ar) _ _ ((ar 6 (x_1.toInt.toNat)).toInt.toNat) _ _; rw [show ar 6 (x_1.toInt.toNat) = v_30 from ((show v_30 = ar 6 (x_1.toInt.toNat) from by rw [ev_30, show ar_4 6 = ar 6 from ((fA_call (fA_rf [45, 46, 47, 49, 62, 63, 64] _) fa_5 (by decide)) 6 rfl)]; exact congrArg (ar 6) (show x_1.toInt.toNat = (x_1.toInt.toNat) from by omega))).symm]) (by omega) hP hS (lv_sub hl [1, 2, 0] rfl)
  · skip
    have z_51 : (0 : Int32).toInt = 0 := by decide
    have z_52 : 0 ≤ (fv 10).toInt ∧ (fv 10).toInt ≤ 40 := hF_fv 10
    exact hj_15 41 0 fv ar wd _ _ ls (by first | decide | omega) (iv_w (⟨by decide, by decide⟩ : (0 : Int) ≤ (0 : Int32).toInt ∧ (0 : Int32).toInt ≤ 0) (by decide) (by decide)) hF_fv (fM_rf [] _) hA_ar (fA_rf [45, 46, 47, 49, 62, 63, 64] _) rfl hp_mC hp_mR hp_mY (by rw [show (0 : Int32).toInt.toNat = 0 from by decide]; rfl) (by omega) hP hS (lv_sub hl [1, 2, 0] rfl)
set_option maxHeartbeats 4000000 in
set_option maxRecDepth 100000 in
theorem x_chooseAgainE (l : Launch) (dC : Nat → ClassId) (dI : Nat → Nat → Nat) (sz : Nat) (ob ad : Nat → Nat) (cA : Nat → ClassId) (hd : dX ob ad) (fv : Nat → Int32) (wd : xT) (ar : Nat → Nat → Int32) (hF_fv : rX fv) (hA_ar : rB ar) (a : Int32) (h_a : 0 ≤ a.toInt ∧ a.toInt ≤ 839) (hp_mR : mx_R fv ar) (hp_mY : mx_Y fv ar) (hp_mC : mx_C fv ar) : Met l yX1_chooseAgain (.code yX1_chooseAgain cX1_chooseAgain 4 none :: lw_good) ({ frames := 7, cells := 0, slots := 0, locals := 168 }) (va_Pc [.ref (ob 8), .int a] (prX dC dI ob ad cA fv wd ar sz)) (va_Qv (fun (u : xS) => rX u.1 ∧ rB u.2.2 ∧ fM [] fv u.1 ∧ fA [45, 46, 47, 49, 62, 63, 64] ar u.2.2 ∧ u.2.1.2 = wd.2 ∧ (mx_S u.1 u.2.2 = mo_fo (mo_xa1 (mx_D fv ar) (mx_G ar) a.toInt) (mx_S fv ar) (((fv 10).toInt.toNat))) ∧ (mx_C u.1 u.2.2) ∧ True) (enX dC dI ob ad cA) (aX ob ad sz)) 0 0 (aX ob ad sz) := by
  refine Met.ofW (cc := cX1_chooseAgain) (maxL := 4) (ret := none) (by decide) rfl ?_
  intro p e s m args below meth c s₁ B hml hv
  obtain ⟨rfl, hsz, hP, hK⟩ := hv
  have hx := B.exec
  have hb := B.bytes
  have hr := B.returns
  have hts := atoms_spec (ws := (.code yX1_chooseAgain cX1_chooseAgain 4 none :: lw_good)) B.pre
  have htg : ∀ w ∈ lw_good, w.before _ s = true := fun w hw => hts w (List.mem_cons_of_mem _ hw)
  have hown : s.vm.findClass RX1 = some m.cls := findClass_of_methodNamed B.named
  have hlocks := B.notSynchronized
  subst hsz
  have hS : va_S (aX ob ad s.heap.size) s.heap s.heap [] := va_S.rf
  have hl := lv_entry ([.ref (ob 8), .int a]) (n := 4) (Nat.le_of_ble_eq_true rfl)
  rw [lg_entry_eq]
  generalize (lg_sl ([.ref (ob 8), .int a]) ++ List.replicate (4 - (lg_sl ([.ref (ob 8), .int a])).length) Slot.unset).toArray = ls at hl ⊢
  have hl : lv_has ls 4 [(0, .ref (ob 8)), (1, .int a)] := hl
  refine lv_iconst (v := 0) hx hb dX1_chooseAgain_0 (by decide) ?_
  refine lv_istore_n (lv' := [(2, .int 0), (0, .ref (ob 8)), (1, .int a)]) hx hb dX1_chooseAgain_1 rfl hl (by decide) rfl (fun ls hl => ?_)
  refine my_cut (P := fun R9 a9 Q9 => ∀ (n_13 : Nat) (x_1 : Int32) (fv_2 : Nat → Int32) (ar_4 : Nat → Nat → Int32) (wd_6 : xT) (H : Heap) (locs : List Loc) (ls : Array Slot), 40 - x_1.toInt < (n_13 : Int) → (0 ≤ x_1.toInt ∧ x_1.toInt ≤ 40) → rX fv_2 → fM [] fv fv_2 → rB ar_4 → fA [45, 46, 47, 49, 62, 63, 64] ar ar_4 → wd_6.2 = wd.2 → mx_C fv_2 ar_4 → mx_R fv_2 ar_4 → mx_Y fv_2 ar_4 → (mx_S fv_2 ar_4 = mo_fo (mo_xa1 (mx_D fv ar) (mx_G ar) a.toInt) (mx_S fv ar) (x_1.toInt.toNat)) → (x_1.toInt ≤ (fv 10).toInt) → va_P (dC, dI) vwCl (wsX ob ad cA fv_2 wd_6 ar_4) H → va_S (aX ob ad s.heap.size) s.heap H locs → lv_has ls 4 [(0, .ref (ob 8)), (1, .int a), (2, .int x_1)] → W p l e R9 s m a9 below meth c H locs 0 0 Q9 (F0 m 2 ls [])) ?_ (fun hj_15 => ?_)
  · intro n_13
    induction n_13 with
    | zero => intro x_1 fv_2 ar_4 wd_6 H locs ls fu_14 i_x_1 hF_fv_2 fr_3 hA_ar_4 fa_5 wf_7 hp_8 hp_9 hp_10 q_11 q_12; exfalso; omega
    | succ n_13 ih_13 =>
      intro x_1 fv_2 ar_4 wd_6 H locs ls fu_14 i_x_1 hF_fv_2 fr_3 hA_ar_4 fa_5 wf_7 hp_8 hp_9 hp_10 q_11 q_12 hP hS hl
      refine lv_iload_n hx hb dX1_chooseAgain_2 rfl (lv_at hl 2 rfl) ?_
      refine lv_aload_n hx hb dX1_chooseAgain_3 rfl (lv_at hl 0 rfl) ?_
      refine gX_X1_9 hx hb htg hown hK hP dX1_chooseAgain_4 ?_
      refine gX_X1_129 hx hb htg hown hK hP dX1_chooseAgain_7 ?_
      refine gX_X1_133 hx hb htg hown hK hP dX1_chooseAgain_10 ?_
      refine my_ti (y := fv 10) ((fr_3 10 rfl)) ?_
      have i_16 : 0 ≤ (fv 10).toInt ∧ (fv 10).toInt ≤ 40 := hF_fv 10
      refine lv_icmp_ge (tgt := 79) hx hb dX1_chooseAgain_13 (by decide) (fun c_17 => ?_) (fun c_17 => ?_)
      · skip
        have k_18 := Int32.le_iff_toInt_le.mp c_17
        exact W.vret hx hb hr (fun t ht hW => ⟨⟨(fv_2, wd_6, ar_4), rfl, ⟨hF_fv_2, hA_ar_4, (fM_call (fM_rf [] _) fr_3 (by decide)), (fA_call (fA_rf [45, 46, 47, 49, 62, 63, 64] _) fa_5 (by decide)), wf_7, (show mx_S fv_2 ar_4 = mo_fo (mo_xa1 (mx_D fv ar) (mx_G ar) a.toInt) (mx_S fv ar) (((fv 10).toInt.toNat)) from by have h9 := q_11; rw [show x_1.toInt.toNat = (fv 10).toInt.toNat from by omega] at h9; exact h9), hp_8, trivial⟩, ⟨by rw [ht]; exact hP, va_K.moved hW.alike hK⟩⟩, hS.F ht⟩) hS.2.2 dX1_chooseAgain_79
      · skip
        have i_19 : 0 ≤ x_1.toInt ∧ x_1.toInt ≤ 39 := iv_lt1 i_x_1 i_16 (Int32.not_le.mp c_17)
        have i_20 : 1 ≤ (fv 10).toInt ∧ (fv 10).toInt ≤ 40 := iv_lt2 i_x_1 i_16 (Int32.not_le.mp c_17)
        have k_21 := Int32.lt_iff_toInt_lt.mp (Int32.not_le.mp c_17)
        refine lv_aload_n hx hb dX1_chooseAgain_16 rfl (lv_at hl 0 rfl) ?_
        refine gX_X1_51 hx hb htg hown hK hP dX1_chooseAgain_17 ?_
        refine lv_iload_n hx hb dX1_chooseAgain_20 rfl (lv_at hl 2 rfl) ?_
        refine lX_49 hx hb hK hP (iv_in i_19 (by decide) (by decide)) dX1_chooseAgain_21 (fun v_22 ev_22 => ?_)
        have i_23 : (-1) ≤ v_22.toInt ∧ v_22.toInt ≤ 79 := ev_22 ▸ hA_ar_4 49 _
        refine lv_istore_n (lv' := [(3, .int v_22), (0, .ref (ob 8)), (1, .int a), (2, .int x_1)]) hx hb dX1_chooseAgain_22 rfl hl (by decide) rfl (fun ls hl => ?_)
        refine lv_iload_n hx hb dX1_chooseAgain_23 rfl (lv_at hl 0 rfl) ?_
        refine lv_iconst (v := (-1)) hx hb dX1_chooseAgain_24 (by decide) ?_
        refine lv_icmp_eq (tgt := 73) hx hb dX1_chooseAgain_25 (by decide) (fun c_24 => ?_) (fun c_24 => ?_)
        · skip
          have i_25 : (-1) ≤ v_22.toInt ∧ v_22.toInt ≤ (-1) := iv_eq1 (⟨by decide, by decide⟩ : (-1 : Int) ≤ ((-1) : Int32).toInt ∧ ((-1) : Int32).toInt ≤ -1) c_24
          obtain ⟨v_27, ev_27⟩ : ∃ z : Int32, z = x_1 + 1 := ⟨_, rfl⟩
          refine lv_iinc (v := v_27) (lv' := [(2, .int v_27), (3, .int v_22), (0, .ref (ob 8)), (1, .int a)]) hx hb dX1_chooseAgain_73 hl (k := 3) rfl (by rw [ev_27]; rfl) (by decide) rfl (fun ls hl => ?_)
          have t_28 : v_27.toInt = x_1.toInt + 1 ∧ 1 ≤ v_27.toInt ∧ v_27.toInt ≤ 40 := iv_addc ev_27 i_19 (by decide) (by decide) (by decide)
          refine lv_goto (tgt := 2) hx hb dX1_chooseAgain_76 (by decide) ?_
          have z_62 : (fv_2 10).toInt = (fv 10).toInt := congrArg Int32.toInt ((fr_3 10 rfl))
          have z_63 : 0 ≤ (fv_2 10).toInt ∧ (fv_2 10).toInt ≤ 40 := hF_fv_2 10
          exact ih_13 v_27 fv_2 ar_4 wd_6 _ _ ls (by omega) (iv_w t_28.2 (by decide) (by decide)) hF_fv_2 (fM_call (fM_rf [] _) fr_3 (by decide)) hA_ar_4 (fA_call (fA_rf [45, 46, 47, 49, 62, 63, 64] _) fa_5 (by decide)) wf_7 hp_8 hp_9 hp_10 (by rw [show v_27.toInt.toNat = (x_1.toInt.toNat) + 1 from by omega]; show _ = mo_xa1 (mx_D fv ar) (mx_G ar) a.toInt (mo_fo (mo_xa1 (mx_D fv ar) (mx_G ar) a.toInt) (mx_S fv ar) ((x_1.toInt.toNat))) (x_1.toInt.toNat); rw [← q_11]; have hs5 : mx_S fv_2 ar_4 5 (x_1.toInt.toNat) = v_22 := (by show ar_4 49 (x_1.toInt.toNat) = _; exact ((show v_22 = ar_4 49 (x_1.toInt.toNat) from by rw [ev_22]; exact congrArg (ar_4 49) (show x_1.toInt.toNat = (x_1.toInt.toNat) from by omega))).symm); unfold mo_xa1; rw [hs5, if_neg (fun w => w.1 (by omega))]) (by omega) hP hS (lv_sub hl [2, 3, 0] rfl)
        · skip
          have i_30 : 0 ≤ v_22.toInt ∧ v_22.toInt ≤ 79 := iv_nel i_23 (by decide) c_24
          have k_31 : ¬ v_22.toInt = (-1) := fun q => c_24 (Int32.toInt_inj.mp q)
          refine lv_aload_n hx hb dX1_chooseAgain_28 rfl (lv_at hl 1 rfl) ?_
          refine gX_X1_9 hx hb htg hown hK hP dX1_chooseAgain_29 ?_
          refine gX_X1_157 hx hb htg hown hK hP dX1_chooseAgain_32 ?_
          refine gX_X1_166 hx hb htg hown hK hP dX1_chooseAgain_35 ?_
          refine lv_iload_n hx hb dX1_chooseAgain_38 rfl (lv_at hl 0 rfl) ?_
          refine lX_31 hx hb hK hP (iv_in i_30 (by decide) (by decide)) dX1_chooseAgain_39 (fun v_32 ev_32 => ?_)
          refine lv_iload_n hx hb dX1_chooseAgain_40 rfl (lv_at hl 2 rfl) ?_
          refine lv_icmp_ne (tgt := 73) hx hb dX1_chooseAgain_41 (by decide) (fun c_33 => ?_) (fun c_33 => ?_)
          · skip
            have k_34 : ¬ v_32.toInt = a.toInt := fun q => c_33 (Int32.toInt_inj.mp q)
            obtain ⟨v_35, ev_35⟩ : ∃ z : Int32, z = x_1 + 1 := ⟨_, rfl⟩
            refine lv_iinc (v := v_35) (lv' := [(2, .int v_35), (3, .int v_22), (0, .ref (ob 8)), (1, .int a)]) hx hb dX1_chooseAgain_73 hl (k := 3) rfl (by rw [ev_35]; rfl) (by decide) rfl (fun ls hl => ?_)
            have t_36 : v_35.toInt = x_1.toInt + 1 ∧ 1 ≤ v_35.toInt ∧ v_35.toInt ≤ 40 := iv_addc ev_35 i_19 (by decide) (by decide) (by decide)
            refine lv_goto (tgt := 2) hx hb dX1_chooseAgain_76 (by decide) ?_
            have z_64 : (fv_2 10).toInt = (fv 10).toInt := congrArg Int32.toInt ((fr_3 10 rfl))
            have z_65 : 0 ≤ (fv_2 10).toInt ∧ (fv_2 10).toInt ≤ 40 := hF_fv_2 10
            exact ih_13 v_35 fv_2 ar_4 wd_6 _ _ ls (by omega) (iv_w t_36.2 (by decide) (by decide)) hF_fv_2 (fM_call (fM_rf [] _) fr_3 (by decide)) hA_ar_4 (fA_call (fA_rf [45, 46, 47, 49, 62, 63, 64] _) fa_5 (by decide)) wf_7 hp_8 hp_9 hp_10 (by rw [show v_35.toInt.toNat = (x_1.toInt.toNat) + 1 from by omega]; show _ = mo_xa1 (mx_D fv ar) (mx_G ar) a.toInt (mo_fo (mo_xa1 (mx_D fv ar) (mx_G ar) a.toInt) (mx_S fv ar) ((x_1.toInt.toNat))) (x_1.toInt.toNat); rw [← q_11]; have hs5 : mx_S fv_2 ar_4 5 (x_1.toInt.toNat) = v_22 := (by show ar_4 49 (x_1.toInt.toNat) = _; exact ((show v_22 = ar_4 49 (x_1.toInt.toNat) from by rw [ev_22]; exact congrArg (ar_4 49) (show x_1.toInt.toNat = (x_1.toInt.toNat) from by omega))).symm); have hm9 : (mx_D fv ar) 14 (v_22.toInt.toNat) = v_32 := (by show ar 31 _ = _; exact ((show v_32 = ar 31 (v_22.toInt.toNat) from by rw [ev_32, show ar_4 31 = ar 31 from ((fA_call (fA_rf [45, 46, 47, 49, 62, 63, 64] _) fa_5 (by decide)) 31 rfl)]; exact congrArg (ar 31) (show v_22.toInt.toNat = (v_22.toInt.toNat) from by omega))).symm); unfold mo_xa1; rw [hs5, hm9, if_neg (fun w => by have w2 := w.2; omega)]) (by omega) hP hS (lv_sub hl [2, 3, 0] rfl)
          · skip
            have i_38 : 0 ≤ v_32.toInt ∧ v_32.toInt ≤ 839 := iv_eq1 h_a c_33
            have k_39 := congrArg Int32.toInt c_33
            refine lv_aload_n hx hb dX1_chooseAgain_44 rfl (lv_at hl 1 rfl) ?_
            refine lv_iload_n hx hb dX1_chooseAgain_45 rfl (lv_at hl 3 rfl) ?_
            refine lv_aload_n hx hb dX1_chooseAgain_46 rfl (lv_at hl 1 rfl) ?_
            refine gX_X1_9 hx hb htg hown hK hP dX1_chooseAgain_47 ?_
            refine gX_X1_179 hx hb htg hown hK hP dX1_chooseAgain_50 ?_
            refine lv_aload_n hx hb dX1_chooseAgain_53 rfl (lv_at hl 1 rfl) ?_
            refine gX_X1_9 hx hb htg hown hK hP dX1_chooseAgain_54 ?_
            refine gX_X1_157 hx hb htg hown hK hP dX1_chooseAgain_57 ?_
            refine gX_X1_189 hx hb htg hown hK hP dX1_chooseAgain_60 ?_
            refine lv_iload_n hx hb dX1_chooseAgain_63 rfl (lv_at hl 0 rfl) ?_
            refine lX_29 hx hb hK hP (iv_in i_30 (by decide) (by decide)) dX1_chooseAgain_64 (fun v_40 ev_40 => ?_)
            have i_41 : 0 ≤ v_40.toInt ∧ v_40.toInt ≤ 7 := ev_40 ▸ hA_ar_4 29 _
            refine lX_2 hx hb hK hP (iv_in i_41 (by decide) (by decide)) dX1_chooseAgain_65 (fun v_42 ev_42 => ?_)
            have i_43 : 0 ≤ v_42.toInt ∧ v_42.toInt ≤ 11 := ev_42 ▸ hA_ar_4 2 _
            refine lv_iload_n hx hb dX1_chooseAgain_66 rfl (lv_at hl 2 rfl) ?_
            refine lv_iload_n hx hb dX1_chooseAgain_67 rfl (lv_at hl 2 rfl) ?_
            refine lv_iconst (v := 1) hx hb dX1_chooseAgain_68 (by decide) ?_
            refine lv_iadd hx hb dX1_chooseAgain_69 ?_
            refine lv_topi (fun v_44 ev_44 => ?_)
            have t_45 : v_44.toInt = a.toInt + 1 ∧ 1 ≤ v_44.toInt ∧ v_44.toInt ≤ 840 := iv_addc ev_44 h_a (by decide) (by decide) (by decide)
            have z_47 : (fv_2 10).toInt = (fv 10).toInt := congrArg Int32.toInt ((fr_3 10 rfl))
            have z_48 : 0 ≤ (fv_2 10).toInt ∧ (fv_2 10).toInt ≤ 40 := hF_fv_2 10
            refine va_callv (va_runV (As := [.int x_1, .int v_42, .int a, .int v_44]) (rest := []) ⟨hx, hb, hml, hown, hts⟩ (x_chooseE l dC dI H.size ob ad cA hd fv_2 wd_6 ar_4 hF_fv_2 hA_ar_4 x_1 v_42 a v_44 i_19 i_43 h_a (by omega) hp_9 hp_10 hp_8) (cwV 4 hts (gV kw_5_122 kw_5_124 kw_p_29 kw_1_12 kw_5_125) rfl rfl rfl (by decide +kernel) ⟨Nat.le_of_ble_eq_true rfl, Nat.le_of_ble_eq_true rfl⟩) ⟨fun a U g mk q => ⟨q.1, q.2.1, q.2.2.1, va_K.moved (u := U) (U := U.calling g mk a) (Vm.Alike.refl U.vm) q.2.2.2⟩, va_recv hK hP (ci := 2) (q0 := 8) rfl rfl, fun U hU hW => ⟨rfl, by rw [hU], by rw [hU]; exact hP, va_K.moved hW.alike hK⟩⟩ rfl rfl hl.1 rfl (lv_room (Nat.le_of_ble_eq_true rfl)) dX1_chooseAgain_70 ⟨Nat.le_of_ble_eq_true rfl, Nat.le_of_ble_eq_true rfl⟩) hS (fun q _ h9 => aX_up hS q h9) (aX_up hS) (fun u t H1 locs ht _ hw hB _ hk1 hS => ?_)
            obtain ⟨fv_52, wd_53, ar_54⟩ := u
            obtain ⟨hF_fv_52, hA_ar_54, fr_55, fa_56, wf_57, p_50, p_51, -⟩ := hw
            have wf_57 : wd_53.2 = wd_6.2 := wf_57
            have hP : va_P (dC, dI) vwCl (wsX ob ad cA fv_52 wd_53 ar_54) H1 := by have h9 := hB.1; rw [ht] at h9; exact h9
            have fr_55 : fM [] fv_2 fv_52 := fr_55
            have fa_56 : fA [45, 46, 47, 49, 62, 63, 64] ar_4 ar_54 := fa_56
            have p_51 : mx_C fv_52 ar_54 := p_51
            have p_50 : mx_S fv_52 ar_54 = mo_xc (mx_D fv_2 ar_4) (mx_G ar_4) (mx_S fv_2 ar_4) (x_1.toInt.toNat) (v_42.toInt.toNat) a.toInt v_44.toInt := p_50
            generalize H1 = H at hP hS ⊢
            have k_58 : mx_S fv_52 ar_54 = mo_xc (mx_D fv ar) (mx_G ar) (mx_S fv_2 ar_4) (x_1.toInt.toNat) (v_42.toInt.toNat) (a.toInt) (v_44.toInt) := by have h9 := p_50; rw [show mx_D fv_2 ar_4 = mx_D fv ar from (mx_D_fr (fM_call (fM_rf [] _) fr_3 (by decide)) (fA_call (fA_rf [45, 46, 47, 49, 62, 63, 64] _) fa_5 (by decide)) rfl rfl), show mx_G ar_4 = mx_G ar from by unfold mx_G; rw [show ar_4 5 = ar 5 from ((fA_call (fA_rf [45, 46, 47, 49, 62, 63, 64] _) fa_5 (by decide)) 5 rfl)]] at h9; exact h9
            obtain ⟨v_59, ev_59⟩ : ∃ z : Int32, z = x_1 + 1 := ⟨_, rfl⟩
            refine lv_iinc (v := v_59) (lv' := [(2, .int v_59), (3, .int v_22), (0, .ref (ob 8)), (1, .int a)]) hx hb dX1_chooseAgain_73 hl (k := 3) rfl (by rw [ev_59]; rfl) (by decide) rfl (fun ls hl => ?_)
            have t_60 : v_59.toInt = x_1.toInt + 1 ∧ 1 ≤ v_59.toInt ∧ v_59.toInt ≤ 40 := iv_addc ev_59 i_19 (by decide) (by decide) (by decide)
            refine lv_goto (tgt := 2) hx hb dX1_chooseAgain_76 (by decide) ?_
            have z_66 : (fv_52 10).toInt = (fv 10).toInt := congrArg Int32.toInt ((fr_55 10 rfl).trans ((fr_3 10 rfl)))
            have z_67 : 0 ≤ (fv_52 10).toInt ∧ (fv_52 10).toInt ≤ 40 := hF_fv_52 10
            exact ih_13 v_59 fv_52 ar_54 wd_53 _ _ ls (by omega) (iv_w t_60.2 (by decide) (by decide)) hF_fv_52 (fM_call (fM_call (fM_rf [] _) fr_3 (by decide)) fr_55 (by decide)) hA_ar_54 (fA_call (fA_call (fA_rf [45, 46, 47, 49, 62, 63, 64] _) fa_5 (by decide)) fa_56 (by decide)) (wf_57.trans wf_7) p_51 (mx_R_fr hp_9 (fM_call (fM_rf [] _) fr_55 (by decide)) (fA_call (fA_rf [45, 46, 47, 49, 62, 63, 64] _) fa_56 (by decide)) rfl rfl rfl rfl rfl rfl rfl rfl rfl rfl rfl rfl rfl rfl rfl rfl rfl rfl rfl rfl rfl rfl rfl rfl rfl rfl rfl) (mx_Y_fr hp_10 (fM_call (fM_rf [] _) fr_55 (by decide)) (fA_call (fA_rf [45, 46, 47, 49, 62, 63, 64] _) fa_56 (by decide)) rfl rfl rfl rfl rfl rfl rfl rfl rfl rfl rfl rfl rfl rfl rfl rfl rfl rfl rfl rfl rfl rfl rfl rfl rfl rfl rfl rfl rfl rfl rfl rfl) (by rw [show v_59.toInt.toNat = (x_1.toInt.toNat) + 1 from by omega]; show _ = mo_xa1 (mx_D fv ar) (mx_G ar) a.toInt (mo_fo (mo_xa1 (mx_D fv ar) (mx_G ar) a.toInt) (mx_S fv ar) ((x_1.toInt.toNat))) (x_1.toInt.toNat); rw [← q_11]; have hs5 : mx_S fv_2 ar_4 5 (x_1.toInt.toNat) = v_22 := (by show ar_4 49 (x_1.toInt.toNat) = _; exact ((show v_22 = ar_4 49 (x_1.toInt.toNat) from by rw [ev_22]; exact congrArg (ar_4 49) (show x_1.toInt.toNat = (x_1.toInt.toNat) from by omega))).symm); have hm9 : (mx_D fv ar) 14 (v_22.toInt.toNat) = v_32 := (by show ar 31 _ = _; exact ((show v_32 = ar 31 (v_22.toInt.toNat) from by rw [ev_32, show ar_4 31 = ar 31 from ((fA_call (fA_rf [45, 46, 47, 49, 62, 63, 64] _) fa_5 (by decide)) 31 rfl)]; exact congrArg (ar 31) (show v_22.toInt.toNat = (v_22.toInt.toNat) from by omega))).symm); unfold mo_xa1; rw [hs5, hm9, if_pos ⟨by omega, by omega⟩, k_58, show v_44.toInt = a.toInt + 1 from by omega]; show _ = mo_xc (mx_D fv ar) (mx_G ar) _ _ ((ar 2 ((ar 29 (v_22.toInt.toNat)).toInt.toNat)).toInt.toNat) _ _; rw [show ar 29 (v_22.toInt.toNat) = v_40 from ((show v_40 = ar 29 (v_22.toInt.toNat) from by rw [ev_40, show ar_4 29 = ar 29 from ((fA_call (fA_rf [45, 46, 47, 49, 62, 63, 64] _) fa_5 (by decide)) 29 rfl)]; exact congrArg (ar 29) (show v_22.toInt.toNat = (v_22.toInt.toNat) from by omega))).symm, show ar 2 (v_40.toInt.toNat) = v_42 from ((show v_42 = ar 2 (v_40.toInt.toNat) from by rw [ev_42, show ar_4 2 = ar 2 from ((fA_call (fA_rf [45, 46, 47, 49, 62, 63, 64] _) fa_5 (by decide)) 2 rfl)]; exact congrArg (ar 2) (show v_40.toInt.toNat = (v_40.toInt.toNat) from by omega))).symm]) (by omega) hP hS (lv_sub hl [2, 3, 0] rfl)
  · skip
    have z_68 : (0 : Int32).toInt = 0 := by decide
    have z_69 : 0 ≤ (fv 10).toInt ∧ (fv 10).toInt ≤ 40 := hF_fv 10
    exact hj_15 41 0 fv ar wd _ _ ls (by first | decide | omega) (iv_w (⟨by decide, by decide⟩ : (0 : Int) ≤ (0 : Int32).toInt ∧ (0 : Int32).toInt ≤ 0) (by decide) (by decide)) hF_fv (fM_rf [] _) hA_ar (fA_rf [45, 46, 47, 49, 62, 63, 64] _) rfl hp_mC hp_mR hp_mY (by rw [show (0 : Int32).toInt.toNat = 0 from by decide]; rfl) (by omega) hP hS (lv_sub hl [1, 2, 0] rfl)

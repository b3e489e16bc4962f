set_option maxHeartbeats 4000000 in
set_option maxRecDepth 100000 in
theorem m_askE (l : Launch) (dC : Nat → ClassId) (dI : Nat → Nat → Nat) (sz h : Nat) (ad : Nat → Nat) (cA : Nat → ClassId) (hd : dM h ad) (fv : Nat → Int32) (wd : Int64) (ar : Nat → Nat → Int32) (hF_fv : rF fv) (hA_ar : rA ar) (kk : Int32) (v : Int32) (d : Int32) (h_kk : 0 ≤ kk.toInt ∧ kk.toInt ≤ 79) : Met l yX12_ask (.code yX12_ask cX12_ask 6 none :: lw_good) ({ frames := 3, cells := 0, slots := 0, locals := 61 }) (va_Pc [.ref h, .int kk, .int v, .int d] (prM dC dI h ad cA fv wd ar sz)) (va_Qv (fun (u : mS) => rF u.1 ∧ rA u.2.2 ∧ fM [] fv u.1 ∧ fA [64] ar u.2.2 ∧ (cd_f (u.2.2 64) = (cd_fc (ar 20 ((ar 25 (kk.toInt.toNat)).toInt.toNat)).toInt (ar 23 ((ar 25 (kk.toInt.toNat)).toInt.toNat)).toInt (ar 22 ((ar 25 (kk.toInt.toNat)).toInt.toNat)).toInt (wt_rf (fv 3) (fv 7) (ar 5)) (ar 28 (kk.toInt.toNat)).toInt (fv 3).toInt (ar 26 (kk.toInt.toNat)).toInt (ar 27 (kk.toInt.toNat)).toInt v.toInt d.toInt)) ∧ True) (enM dC dI h ad cA) (aM h ad sz)) 0 0 (aM h ad sz) := by
  refine Met.ofW (cc := cX12_ask) (maxL := 6) (ret := none) (by decide) rfl ?_
  intro p e s m args below meth c s₁ B hml hv
  obtain ⟨rfl, hsz, hP, hK⟩ := hv
  have hx := B.exec
  have hb := B.bytes
  have hr := B.returns
  have hts := atoms_spec (ws := (.code yX12_ask cX12_ask 6 none :: lw_good)) B.pre
  have htg : ∀ w ∈ lw_good, w.before _ s = true := fun w hw => hts w (List.mem_cons_of_mem _ hw)
  have hown : s.vm.findClass RX12 = some m.cls := findClass_of_methodNamed B.named
  have hlocks := B.notSynchronized
  subst hsz
  have hS : va_S (aM h ad s.heap.size) s.heap s.heap [] := va_S.rf
  have hl := lv_entry ([.ref h, .int kk, .int v, .int d]) (n := 6) (Nat.le_of_ble_eq_true rfl)
  rw [lg_entry_eq]
  generalize (lg_sl ([.ref h, .int kk, .int v, .int d]) ++ List.replicate (6 - (lg_sl ([.ref h, .int kk, .int v, .int d])).length) Slot.unset).toArray = ls at hl ⊢
  have hl : lv_has ls 6 [(0, .ref h), (1, .int kk), (2, .int v), (3, .int d)] := hl
  refine lv_aload_n hx hb dX12_ask_0 rfl (lv_at hl 0 rfl) ?_
  refine gM_25 hx hb htg hown hK hP dX12_ask_1 ?_
  refine lv_iload_n hx hb dX12_ask_4 rfl (lv_at hl 1 rfl) ?_
  refine lM_25 hx hb hK hP (iv_in h_kk (by decide) (by decide)) dX12_ask_5 (fun v_1 ev_1 => ?_)
  have i_2 : 0 ≤ v_1.toInt ∧ v_1.toInt ≤ 19 := ev_1 ▸ hA_ar 25 _
  refine lv_istore (lv' := [(4, .int v_1), (0, .ref h), (1, .int kk), (2, .int v), (3, .int d)]) hx hb dX12_ask_6 hl (by decide) rfl (fun ls hl => ?_)
  refine lv_aload_n hx hb dX12_ask_8 rfl (lv_at hl 1 rfl) ?_
  refine gM_64 hx hb htg hown hK hP dX12_ask_9 ?_
  refine lv_iconst (v := 4) hx hb dX12_ask_12 (by decide) ?_
  refine lv_iload_n hx hb dX12_ask_13 rfl (lv_at hl 3 rfl) ?_
  refine sM_64 hx hb hK hP hS hd (iv_in (⟨by decide, by decide⟩ : (4 : Int) ≤ (4 : Int32).toInt ∧ (4 : Int32).toInt ≤ 4) (by decide) (by decide)) dX12_ask_14 (fun H locs ar_3 ear_3 hP hS => ?_)
  have hA_ar_3 : rA ar_3 := rA_put hA_ar ear_3 (iv_any _)
  refine lv_aload_n hx hb dX12_ask_15 rfl (lv_at hl 1 rfl) ?_
  refine gM_64 hx hb htg hown hK hP dX12_ask_16 ?_
  refine lv_iconst (v := 5) hx hb dX12_ask_19 (by decide) ?_
  refine lv_aload_n hx hb dX12_ask_20 rfl (lv_at hl 1 rfl) ?_
  refine gM_22 hx hb htg hown hK hP dX12_ask_21 ?_
  refine lv_iload hx hb dX12_ask_24 (lv_at hl 0 rfl) ?_
  refine lM_22 hx hb hK hP (iv_in i_2 (by decide) (by decide)) dX12_ask_26 (fun v_4 ev_4 => ?_)
  refine sM_64 hx hb hK hP hS hd (iv_in (⟨by decide, by decide⟩ : (5 : Int) ≤ (5 : Int32).toInt ∧ (5 : Int32).toInt ≤ 5) (by decide) (by decide)) dX12_ask_27 (fun H locs ar_5 ear_5 hP hS => ?_)
  have hA_ar_5 : rA ar_5 := rA_put hA_ar_3 ear_5 (iv_any _)
  refine lv_aload_n hx hb dX12_ask_28 rfl (lv_at hl 1 rfl) ?_
  refine gM_64 hx hb htg hown hK hP dX12_ask_29 ?_
  refine lv_bipush (v := 6) hx hb dX12_ask_32 (by decide) ?_
  refine lv_aload_n hx hb dX12_ask_34 rfl (lv_at hl 1 rfl) ?_
  refine lv_aload_n hx hb dX12_ask_35 rfl (lv_at hl 1 rfl) ?_
  refine gM_3 hx hb htg hown hK hP dX12_ask_36 ?_
  have i_6 : 0 ≤ (fv 3).toInt ∧ (fv 3).toInt ≤ 199 := hF_fv 3
  have z_7 : 0 ≤ (fv 7).toInt ∧ (fv 7).toInt ≤ 200 := hF_fv 7
  refine va_calli (va_runV (As := [.int (fv 3)]) (rest := [.int 6, .ref (ad 64)]) ⟨hx, hb, hml, hown, hts⟩ (m_rainOfC l dC dI H.size h ad cA hd fv wd ar_5 hF_fv hA_ar_5 (fv 3) i_6) (cwV 1 hts (gV kw_8_16 kw_8_18 kw_p_61 kw_1_15 kw_8_19) rfl rfl rfl (by decide +kernel) ⟨Nat.le_of_ble_eq_true rfl, Nat.le_of_ble_eq_true rfl⟩) ⟨fun a U g mk q => ⟨q.1, q.2.1, q.2.2.1, va_K.moved (u := U) (U := U.calling g mk a) (Vm.Alike.refl U.vm) q.2.2.2⟩, va_recv hK hP (ci := 12) (q0 := 0) rfl rfl, fun U hU hW => ⟨rfl, by rw [hU], by rw [hU]; exact hP, va_K.moved hW.alike hK⟩⟩ rfl rfl hl.1 rfl (lv_room (Nat.le_of_ble_eq_true rfl)) dX12_ask_39 ⟨Nat.le_of_ble_eq_true rfl, Nat.le_of_ble_eq_true rfl⟩) hS (fun q _ h9 => aM_up hS q h9) (aM_up hS) (fun r_8 u t H1 locs ht _ hw hB _ hk1 hS => ?_)
  obtain ⟨fv_10, wd_11, ar_12⟩ := u
  obtain ⟨hF_fv_10, hA_ar_12, fr_13, fa_14, p_9, -⟩ := hw
  have hP : va_P (dC, dI) vwCl (wsM h ad cA fv_10 wd_11 ar_12) H1 := by have h9 := hB.1; rw [ht] at h9; exact h9
  have fr_13 : fM [] fv fv_10 := fr_13
  have fa_14 : fA [] ar_5 ar_12 := fa_14
  have p_9 : wt_on r_8 (fv 3) (fv 7) (ar_5 5) := p_9
  generalize H1 = H at hP hS ⊢
  have rn_15 : r_8.toInt = wt_rf (fv 3) (fv 7) (ar 5) := by have h9 := wt_on_rf p_9; rw [show ar_5 5 = ar 5 from ((fA_put (fA_put (fA_rf [64] _) ear_3 (by decide)) ear_5 (by decide)) 5 rfl)] at h9; exact h9
  refine sM_64 hx hb hK hP hS hd (iv_in (⟨by decide, by decide⟩ : (6 : Int) ≤ (6 : Int32).toInt ∧ (6 : Int32).toInt ≤ 6) (by decide) (by decide)) dX12_ask_42 (fun H locs ar_16 ear_16 hP hS => ?_)
  have hA_ar_16 : rA ar_16 := rA_put hA_ar_12 ear_16 (iv_any _)
  refine lv_aload_n hx hb dX12_ask_43 rfl (lv_at hl 1 rfl) ?_
  refine gM_64 hx hb htg hown hK hP dX12_ask_44 ?_
  refine lv_bipush (v := 7) hx hb dX12_ask_47 (by decide) ?_
  refine lv_aload_n hx hb dX12_ask_49 rfl (lv_at hl 1 rfl) ?_
  refine gM_28 hx hb htg hown hK hP dX12_ask_50 ?_
  refine lv_iload_n hx hb dX12_ask_53 rfl (lv_at hl 2 rfl) ?_
  refine lM_28 hx hb hK hP (iv_in h_kk (by decide) (by decide)) dX12_ask_54 (fun v_17 ev_17 => ?_)
  refine sM_64 hx hb hK hP hS hd (iv_in (⟨by decide, by decide⟩ : (7 : Int) ≤ (7 : Int32).toInt ∧ (7 : Int32).toInt ≤ 7) (by decide) (by decide)) dX12_ask_55 (fun H locs ar_18 ear_18 hP hS => ?_)
  have hA_ar_18 : rA ar_18 := rA_put hA_ar_16 ear_18 (iv_any _)
  refine lv_aload_n hx hb dX12_ask_56 rfl (lv_at hl 1 rfl) ?_
  refine gM_64 hx hb htg hown hK hP dX12_ask_57 ?_
  refine lv_bipush (v := 8) hx hb dX12_ask_60 (by decide) ?_
  refine lv_aload_n hx hb dX12_ask_62 rfl (lv_at hl 1 rfl) ?_
  refine gM_3 hx hb htg hown hK hP dX12_ask_63 ?_
  refine my_ti (y := fv 3) ((fr_13 3 rfl)) ?_
  refine sM_64 hx hb hK hP hS hd (iv_in (⟨by decide, by decide⟩ : (8 : Int) ≤ (8 : Int32).toInt ∧ (8 : Int32).toInt ≤ 8) (by decide) (by decide)) dX12_ask_66 (fun H locs ar_19 ear_19 hP hS => ?_)
  have hA_ar_19 : rA ar_19 := rA_put hA_ar_18 ear_19 (iv_any _)
  refine lv_aload_n hx hb dX12_ask_67 rfl (lv_at hl 1 rfl) ?_
  refine gM_64 hx hb htg hown hK hP dX12_ask_68 ?_
  refine lv_bipush (v := 9) hx hb dX12_ask_71 (by decide) ?_
  refine lv_aload_n hx hb dX12_ask_73 rfl (lv_at hl 1 rfl) ?_
  refine gM_26 hx hb htg hown hK hP dX12_ask_74 ?_
  refine lv_iload_n hx hb dX12_ask_77 rfl (lv_at hl 2 rfl) ?_
  refine lM_26 hx hb hK hP (iv_in h_kk (by decide) (by decide)) dX12_ask_78 (fun v_20 ev_20 => ?_)
  have i_21 : 0 ≤ v_20.toInt ∧ v_20.toInt ≤ 7 := ev_20 ▸ hA_ar_19 26 _
  refine sM_64 hx hb hK hP hS hd (iv_in (⟨by decide, by decide⟩ : (9 : Int) ≤ (9 : Int32).toInt ∧ (9 : Int32).toInt ≤ 9) (by decide) (by decide)) dX12_ask_79 (fun H locs ar_22 ear_22 hP hS => ?_)
  have hA_ar_22 : rA ar_22 := rA_put hA_ar_19 ear_22 (iv_any _)
  refine lv_aload_n hx hb dX12_ask_80 rfl (lv_at hl 1 rfl) ?_
  refine gM_64 hx hb htg hown hK hP dX12_ask_81 ?_
  refine lv_bipush (v := 10) hx hb dX12_ask_84 (by decide) ?_
  refine lv_aload_n hx hb dX12_ask_86 rfl (lv_at hl 1 rfl) ?_
  refine gM_27 hx hb htg hown hK hP dX12_ask_87 ?_
  refine lv_iload_n hx hb dX12_ask_90 rfl (lv_at hl 2 rfl) ?_
  refine lM_27 hx hb hK hP (iv_in h_kk (by decide) (by decide)) dX12_ask_91 (fun v_23 ev_23 => ?_)
  have i_24 : 0 ≤ v_23.toInt ∧ v_23.toInt ≤ 7 := ev_23 ▸ hA_ar_22 27 _
  refine sM_64 hx hb hK hP hS hd (iv_in (⟨by decide, by decide⟩ : (10 : Int) ≤ (10 : Int32).toInt ∧ (10 : Int32).toInt ≤ 10) (by decide) (by decide)) dX12_ask_92 (fun H locs ar_25 ear_25 hP hS => ?_)
  have hA_ar_25 : rA ar_25 := rA_put hA_ar_22 ear_25 (iv_any _)
  refine lv_aload_n hx hb dX12_ask_93 rfl (lv_at hl 1 rfl) ?_
  refine gM_64 hx hb htg hown hK hP dX12_ask_94 ?_
  refine lv_bipush (v := 11) hx hb dX12_ask_97 (by decide) ?_
  refine lv_iload_n hx hb dX12_ask_99 rfl (lv_at hl 4 rfl) ?_
  refine sM_64 hx hb hK hP hS hd (iv_in (⟨by decide, by decide⟩ : (11 : Int) ≤ (11 : Int32).toInt ∧ (11 : Int32).toInt ≤ 11) (by decide) (by decide)) dX12_ask_100 (fun H locs ar_26 ear_26 hP hS => ?_)
  have hA_ar_26 : rA ar_26 := rA_put hA_ar_25 ear_26 (iv_any _)
  refine lv_aload_n hx hb dX12_ask_101 rfl (lv_at hl 1 rfl) ?_
  refine gM_64 hx hb htg hown hK hP dX12_ask_102 ?_
  refine lv_iconst (v := 3) hx hb dX12_ask_105 (by decide) ?_
  refine lv_aload_n hx hb dX12_ask_106 rfl (lv_at hl 1 rfl) ?_
  refine gM_3 hx hb htg hown hK hP dX12_ask_107 ?_
  refine my_ti (y := fv 3) ((fr_13 3 rfl)) ?_
  refine lv_aload_n hx hb dX12_ask_110 rfl (lv_at hl 1 rfl) ?_
  refine gM_23 hx hb htg hown hK hP dX12_ask_111 ?_
  refine lv_iload hx hb dX12_ask_114 (lv_at hl 0 rfl) ?_
  refine lM_23 hx hb hK hP (iv_in i_2 (by decide) (by decide)) dX12_ask_116 (fun v_27 ev_27 => ?_)
  refine my_cut (P := fun R9 a9 Q9 => ∀ (x_33 : Int32) (H : Heap) (locs : List Loc) (ls : Array Slot), (0 ≤ x_33.toInt ∧ x_33.toInt ≤ 1) → (x_33.toInt = (if (fv 3).toInt ≤ (ar 23 ((ar 25 (kk.toInt.toNat)).toInt.toNat)).toInt then 1 else 0)) → va_P (dC, dI) vwCl (wsM h ad cA fv_10 wd_11 ar_26) H → va_S (aM h ad s.heap.size) s.heap H locs → lv_has ls 6 [(0, .ref h), (4, .int v_1)] → W p l e R9 s m a9 below meth c H locs 0 0 Q9 (F0 m 125 ls [.int x_33, .int 3, .ref (ad 64)])) ?_ (fun hj_35 => ?_)
  · intro x_33 H locs ls i_x_33 q_34 hP hS hl
    refine sM_64 hx hb hK hP hS hd (iv_in (⟨by decide, by decide⟩ : (3 : Int) ≤ (3 : Int32).toInt ∧ (3 : Int32).toInt ≤ 3) (by decide) (by decide)) dX12_ask_125 (fun H locs ar_36 ear_36 hP hS => ?_)
    have hA_ar_36 : rA ar_36 := rA_put hA_ar_26 ear_36 (iv_any _)
    refine lv_iconst (v := 0) hx hb dX12_ask_126 (by decide) ?_
    refine lv_istore (lv' := [(5, .int 0), (0, .ref h), (4, .int v_1)]) hx hb dX12_ask_127 hl (by decide) rfl (fun ls hl => ?_)
    refine lv_iload hx hb dX12_ask_129 (lv_at hl 0 rfl) ?_
    refine lv_iconst (v := 2) hx hb dX12_ask_131 (by decide) ?_
    refine lv_icmp_gt (tgt := 165) hx hb dX12_ask_132 (by decide) (fun c_37 => ?_) (fun c_37 => ?_)
    · skip
      exact absurd c_37 (by decide)
    · skip
      refine lv_aload_n hx hb dX12_ask_135 rfl (lv_at hl 1 rfl) ?_
      refine gM_64 hx hb htg hown hK hP dX12_ask_136 ?_
      refine lv_iload hx hb dX12_ask_139 (lv_at hl 0 rfl) ?_
      refine lv_aload_n hx hb dX12_ask_141 rfl (lv_at hl 1 rfl) ?_
      refine gM_20 hx hb htg hown hK hP dX12_ask_142 ?_
      refine lv_iload hx hb dX12_ask_145 (lv_at hl 2 rfl) ?_
      refine lM_20 hx hb hK hP (iv_in i_2 (by decide) (by decide)) dX12_ask_147 (fun v_38 ev_38 => ?_)
      refine lv_iload hx hb dX12_ask_148 (lv_at hl 0 rfl) ?_
      refine my_cut (P := fun R9 a9 Q9 => ∀ (x_43 : Int32) (H : Heap) (locs : List Loc) (ls : Array Slot), (0 ≤ x_43.toInt ∧ x_43.toInt ≤ 1) → (x_43.toInt = (if (ar 20 ((ar 25 (kk.toInt.toNat)).toInt.toNat)).toInt = 0 then 1 else 0)) → va_P (dC, dI) vwCl (wsM h ad cA fv_10 wd_11 ar_36) H → va_S (aM h ad s.heap.size) s.heap H locs → lv_has ls 6 [(0, .ref h), (4, .int v_1), (5, .int 0)] → W p l e R9 s m a9 below meth c H locs 0 0 Q9 (F0 m 158 ls [.int x_43, .int 0, .ref (ad 64)])) ?_ (fun hj_45 => ?_)
      · intro x_43 H locs ls i_x_43 q_44 hP hS hl
        refine sM_64 hx hb hK hP hS hd (iv_in (⟨by decide, by decide⟩ : (0 : Int) ≤ (0 : Int32).toInt ∧ (0 : Int32).toInt ≤ 0) (by decide) (by decide)) dX12_ask_158 (fun H locs ar_46 ear_46 hP hS => ?_)
        have hA_ar_46 : rA ar_46 := rA_put hA_ar_36 ear_46 (iv_any _)
        refine lv_iinc (v := 1) (lv' := [(5, .int 1), (0, .ref h), (4, .int v_1)]) hx hb dX12_ask_159 hl (k := 2) rfl (by decide) (by decide) rfl (fun ls hl => ?_)
        refine lv_goto (tgt := 129) hx hb dX12_ask_162 (by decide) ?_
        refine lv_iload hx hb dX12_ask_129 (lv_at hl 0 rfl) ?_
        refine lv_iconst (v := 2) hx hb dX12_ask_131 (by decide) ?_
        refine lv_icmp_gt (tgt := 165) hx hb dX12_ask_132 (by decide) (fun c_47 => ?_) (fun c_47 => ?_)
        · skip
          exact absurd c_47 (by decide)
        · skip
          refine lv_aload_n hx hb dX12_ask_135 rfl (lv_at hl 1 rfl) ?_
          refine gM_64 hx hb htg hown hK hP dX12_ask_136 ?_
          refine lv_iload hx hb dX12_ask_139 (lv_at hl 0 rfl) ?_
          refine lv_aload_n hx hb dX12_ask_141 rfl (lv_at hl 1 rfl) ?_
          refine gM_20 hx hb htg hown hK hP dX12_ask_142 ?_
          refine lv_iload hx hb dX12_ask_145 (lv_at hl 2 rfl) ?_
          refine lM_20 hx hb hK hP (iv_in i_2 (by decide) (by decide)) dX12_ask_147 (fun v_48 ev_48 => ?_)
          obtain rfl : v_38 = v_48 := ev_38.trans ((congrFun ((fA_put (fA_rf [64] _) ear_46 (by decide)) 20 rfl) _).symm.trans ev_48.symm)
          refine lv_iload hx hb dX12_ask_148 (lv_at hl 0 rfl) ?_
          refine my_cut (P := fun R9 a9 Q9 => ∀ (x_53 : Int32) (H : Heap) (locs : List Loc) (ls : Array Slot), (0 ≤ x_53.toInt ∧ x_53.toInt ≤ 1) → (x_53.toInt = (if (ar 20 ((ar 25 (kk.toInt.toNat)).toInt.toNat)).toInt = 1 then 1 else 0)) → va_P (dC, dI) vwCl (wsM h ad cA fv_10 wd_11 ar_46) H → va_S (aM h ad s.heap.size) s.heap H locs → lv_has ls 6 [(0, .ref h), (4, .int v_1), (5, .int 1)] → W p l e R9 s m a9 below meth c H locs 0 0 Q9 (F0 m 158 ls [.int x_53, .int 1, .ref (ad 64)])) ?_ (fun hj_55 => ?_)
          · intro x_53 H locs ls i_x_53 q_54 hP hS hl
            refine sM_64 hx hb hK hP hS hd (iv_in (⟨by decide, by decide⟩ : (1 : Int) ≤ (1 : Int32).toInt ∧ (1 : Int32).toInt ≤ 1) (by decide) (by decide)) dX12_ask_158 (fun H locs ar_56 ear_56 hP hS => ?_)
            have hA_ar_56 : rA ar_56 := rA_put hA_ar_46 ear_56 (iv_any _)
            refine lv_iinc (v := 2) (lv' := [(5, .int 2), (0, .ref h), (4, .int v_1)]) hx hb dX12_ask_159 hl (k := 2) rfl (by decide) (by decide) rfl (fun ls hl => ?_)
            refine lv_goto (tgt := 129) hx hb dX12_ask_162 (by decide) ?_
            refine lv_iload hx hb dX12_ask_129 (lv_at hl 0 rfl) ?_
            refine lv_iconst (v := 2) hx hb dX12_ask_131 (by decide) ?_
            refine lv_icmp_gt (tgt := 165) hx hb dX12_ask_132 (by decide) (fun c_57 => ?_) (fun c_57 => ?_)
            · skip
              exact absurd c_57 (by decide)
            · skip
              refine lv_aload_n hx hb dX12_ask_135 rfl (lv_at hl 1 rfl) ?_
              refine gM_64 hx hb htg hown hK hP dX12_ask_136 ?_
              refine lv_iload hx hb dX12_ask_139 (lv_at hl 0 rfl) ?_
              refine lv_aload_n hx hb dX12_ask_141 rfl (lv_at hl 1 rfl) ?_
              refine gM_20 hx hb htg hown hK hP dX12_ask_142 ?_
              refine lv_iload hx hb dX12_ask_145 (lv_at hl 2 rfl) ?_
              refine lM_20 hx hb hK hP (iv_in i_2 (by decide) (by decide)) dX12_ask_147 (fun v_58 ev_58 => ?_)
              obtain rfl : v_38 = v_58 := ev_38.trans ((congrFun ((fA_put (fA_put (fA_rf [64] _) ear_46 (by decide)) ear_56 (by decide)) 20 rfl) _).symm.trans ev_58.symm)
              refine lv_iload hx hb dX12_ask_148 (lv_at hl 0 rfl) ?_
              refine my_cut (P := fun R9 a9 Q9 => ∀ (x_63 : Int32) (H : Heap) (locs : List Loc) (ls : Array Slot), (0 ≤ x_63.toInt ∧ x_63.toInt ≤ 1) → (x_63.toInt = (if (ar 20 ((ar 25 (kk.toInt.toNat)).toInt.toNat)).toInt = 2 then 1 else 0)) → va_P (dC, dI) vwCl (wsM h ad cA fv_10 wd_11 ar_56) H → va_S (aM h ad s.heap.size) s.heap H locs → lv_has ls 6 [(0, .ref h), (4, .int v_1), (5, .int 2)] → W p l e R9 s m a9 below meth c H locs 0 0 Q9 (F0 m 158 ls [.int x_63, .int 2, .ref (ad 64)])) ?_ (fun hj_65 => ?_)
              · intro x_63 H locs ls i_x_63 q_64 hP hS hl
                refine sM_64 hx hb hK hP hS hd (iv_in (⟨by decide, by decide⟩ : (2 : Int) ≤ (2 : Int32).toInt ∧ (2 : Int32).toInt ≤ 2) (by decide) (by decide)) dX12_ask_158 (fun H locs ar_66 ear_66 hP hS => ?_)
                have hA_ar_66 : rA ar_66 := rA_put hA_ar_56 ear_66 (iv_any _)
                refine lv_iinc (v := 3) (lv' := [(5, .int 3), (0, .ref h), (4, .int v_1)]) hx hb dX12_ask_159 hl (k := 2) rfl (by decide) (by decide) rfl (fun ls hl => ?_)
                refine lv_goto (tgt := 129) hx hb dX12_ask_162 (by decide) ?_
                refine lv_iload hx hb dX12_ask_129 (lv_at hl 0 rfl) ?_
                refine lv_iconst (v := 2) hx hb dX12_ask_131 (by decide) ?_
                refine lv_icmp_gt (tgt := 165) hx hb dX12_ask_132 (by decide) (fun c_67 => ?_) (fun c_67 => ?_)
                · skip
                  exact W.vret hx hb hr (fun t ht hW => ⟨⟨(fv_10, wd_11, ar_66), rfl, ⟨hF_fv_10, hA_ar_66, (fM_call (fM_rf [] _) fr_13 (by decide)), (fA_put (fA_put (fA_put (fA_put (fA_put (fA_put (fA_put (fA_put (fA_put (fA_put (fA_call (fA_put (fA_put (fA_rf [64] _) ear_3 (by decide)) ear_5 (by decide)) fa_14 (by decide)) ear_16 (by decide)) ear_18 (by decide)) ear_19 (by decide)) ear_22 (by decide)) ear_25 (by decide)) ear_26 (by decide)) ear_36 (by decide)) ear_46 (by decide)) ear_56 (by decide)) ear_66 (by decide)), (show cd_f (ar_66 64) = (cd_fc (ar 20 ((ar 25 (kk.toInt.toNat)).toInt.toNat)).toInt (ar 23 ((ar 25 (kk.toInt.toNat)).toInt.toNat)).toInt (ar 22 ((ar 25 (kk.toInt.toNat)).toInt.toNat)).toInt (wt_rf (fv 3) (fv 7) (ar 5)) (ar 28 (kk.toInt.toNat)).toInt (fv 3).toInt (ar 26 (kk.toInt.toNat)).toInt (ar 27 (kk.toInt.toNat)).toInt v.toInt d.toInt) from by have hw9 : v_1 = ar 25 (kk.toInt.toNat) := (show v_1 = ar 25 ((kk.toInt.toNat)) from by rw [ev_1]; exact congrArg (ar 25) (show kk.toInt.toNat = (kk.toInt.toNat) from by omega)); have hw8 : v_1.toInt.toNat = ((ar 25 (kk.toInt.toNat)).toInt.toNat) := (by rw [hw9]); have hrow : ar_66 64 = upd (upd (upd (upd (upd (upd (upd (upd (upd (upd (upd (upd (ar 64) 4 v) 5 v_4) 6 r_8) 7 v_17) 8 (fv 3)) 9 v_20) 10 v_23) 11 d) 3 x_33) 0 x_43) 1 x_53) 2 x_63 := (by rw [show ar_66 64 = upd (ar_56 64) (Int32.toNatClampNeg (2 : Int32)) x_63 from by rw [ear_66]; rfl, show ar_56 64 = upd (ar_46 64) (Int32.toNatClampNeg (1 : Int32)) x_53 from by rw [ear_56]; rfl, show ar_46 64 = upd (ar_36 64) (Int32.toNatClampNeg (0 : Int32)) x_43 from by rw [ear_46]; rfl, show ar_36 64 = upd (ar_26 64) (Int32.toNatClampNeg (3 : Int32)) x_33 from by rw [ear_36]; rfl, show ar_26 64 = upd (ar_25 64) (Int32.toNatClampNeg (11 : Int32)) d from by rw [ear_26]; rfl, show ar_25 64 = upd (ar_22 64) (Int32.toNatClampNeg (10 : Int32)) v_23 from by rw [ear_25]; rfl, show ar_22 64 = upd (ar_19 64) (Int32.toNatClampNeg (9 : Int32)) v_20 from by rw [ear_22]; rfl, show ar_19 64 = upd (ar_18 64) (Int32.toNatClampNeg (8 : Int32)) (fv 3) from by rw [ear_19]; rfl, show ar_18 64 = upd (ar_16 64) (Int32.toNatClampNeg (7 : Int32)) v_17 from by rw [ear_18]; rfl, show ar_16 64 = upd (ar_12 64) (Int32.toNatClampNeg (6 : Int32)) r_8 from by rw [ear_16]; rfl, show ar_12 64 = ar_5 64 from ((fA_call (fA_rf [] _) fa_14 (by decide)) 64 rfl), show ar_5 64 = upd (ar_3 64) (Int32.toNatClampNeg (5 : Int32)) v_4 from by rw [ear_5]; rfl, show ar_3 64 = upd (ar 64) (Int32.toNatClampNeg (4 : Int32)) v from by rw [ear_3]; rfl]; rfl); have hv5 : v_4.toInt = (ar 22 ((ar 25 (kk.toInt.toNat)).toInt.toNat)).toInt := congrArg Int32.toInt (show v_4 = ar 22 (((ar 25 (kk.toInt.toNat)).toInt.toNat)) from by rw [ev_4, show ar_3 22 = ar 22 from ((fA_put (fA_rf [64] _) ear_3 (by decide)) 22 rfl)]; exact congrArg (ar 22) (show v_1.toInt.toNat = ((ar 25 (kk.toInt.toNat)).toInt.toNat) from by omega)); have hv7 : v_17.toInt = (ar 28 (kk.toInt.toNat)).toInt := congrArg Int32.toInt (show v_17 = ar 28 ((kk.toInt.toNat)) from by rw [ev_17, show ar_16 28 = ar 28 from ((fA_put (fA_call (fA_put (fA_put (fA_rf [64] _) ear_3 (by decide)) ear_5 (by decide)) fa_14 (by decide)) ear_16 (by decide)) 28 rfl)]; exact congrArg (ar 28) (show kk.toInt.toNat = (kk.toInt.toNat) from by omega)); have hv9 : v_20.toInt = (ar 26 (kk.toInt.toNat)).toInt := congrArg Int32.toInt (show v_20 = ar 26 ((kk.toInt.toNat)) from by rw [ev_20, show ar_19 26 = ar 26 from ((fA_put (fA_put (fA_put (fA_call (fA_put (fA_put (fA_rf [64] _) ear_3 (by decide)) ear_5 (by decide)) fa_14 (by decide)) ear_16 (by decide)) ear_18 (by decide)) ear_19 (by decide)) 26 rfl)]; exact congrArg (ar 26) (show kk.toInt.toNat = (kk.toInt.toNat) from by omega)); have hv10 : v_23.toInt = (ar 27 (kk.toInt.toNat)).toInt := congrArg Int32.toInt (show v_23 = ar 27 ((kk.toInt.toNat)) from by rw [ev_23, show ar_22 27 = ar 27 from ((fA_put (fA_put (fA_put (fA_put (fA_call (fA_put (fA_put (fA_rf [64] _) ear_3 (by decide)) ear_5 (by decide)) fa_14 (by decide)) ear_16 (by decide)) ear_18 (by decide)) ear_19 (by decide)) ear_22 (by decide)) 27 rfl)]; exact congrArg (ar 27) (show kk.toInt.toNat = (kk.toInt.toNat) from by omega)); funext k; unfold cd_f; rw [hrow]; have hk12 : k = 0 ∨ k = 1 ∨ k = 2 ∨ k = 3 ∨ k = 4 ∨ k = 5 ∨ k = 6 ∨ k = 7 ∨ k = 8 ∨ k = 9 ∨ k = 10 ∨ k = 11 ∨ 12 ≤ k := (by omega); rcases hk12 with h9 | h9 | h9 | h9 | h9 | h9 | h9 | h9 | h9 | h9 | h9 | h9 | h9; (subst h9; exact q_44); (subst h9; exact q_54); (subst h9; exact q_64); (subst h9; exact q_34); (subst h9; exact rfl); (subst h9; exact hv5); (subst h9; exact rn_15); (subst h9; exact hv7); (subst h9; exact rfl); (subst h9; exact hv9); (subst h9; exact hv10); (subst h9; exact rfl); (unfold cd_fc; rw [if_neg (by omega)]; repeat rw [if_neg (by omega)])), trivial⟩, ⟨by rw [ht]; exact hP, va_K.moved hW.alike hK⟩⟩, hS.F ht⟩) hS.2.2 dX12_ask_165
                · skip
                  exact absurd (Int32.not_lt.mp c_67) (by decide)
              · skip
                refine lv_icmp_ne (tgt := 157) hx hb dX12_ask_150 (by decide) (fun c_59 => ?_) (fun c_59 => ?_)
                · skip
                  have k_60 : ¬ v_38.toInt = 2 := fun q => c_59 (Int32.toInt_inj.mp q)
                  refine lv_iconst (v := 0) hx hb dX12_ask_157 (by decide) ?_
                  have z_68 : (0 : Int32).toInt = 0 := by decide
                  exact hj_65 0 _ _ ls (iv_w (⟨by decide, by decide⟩ : (0 : Int) ≤ (0 : Int32).toInt ∧ (0 : Int32).toInt ≤ 0) (by decide) (by decide)) (by have hw9 : v_1 = ar 25 (kk.toInt.toNat) := (show v_1 = ar 25 ((kk.toInt.toNat)) from by rw [ev_1]; exact congrArg (ar 25) (show kk.toInt.toNat = (kk.toInt.toNat) from by omega)); have hw8 : v_1.toInt.toNat = ((ar 25 (kk.toInt.toNat)).toInt.toNat) := (by rw [hw9]); have hk9 : v_38 = ar 20 ((ar 25 (kk.toInt.toNat)).toInt.toNat) := (show v_38 = ar 20 (((ar 25 (kk.toInt.toNat)).toInt.toNat)) from by rw [ev_38, show ar_36 20 = ar 20 from ((fA_put (fA_put (fA_put (fA_put (fA_put (fA_put (fA_put (fA_call (fA_put (fA_put (fA_rf [64] _) ear_3 (by decide)) ear_5 (by decide)) fa_14 (by decide)) ear_16 (by decide)) ear_18 (by decide)) ear_19 (by decide)) ear_22 (by decide)) ear_25 (by decide)) ear_26 (by decide)) ear_36 (by decide)) 20 rfl)]; exact congrArg (ar 20) (show v_1.toInt.toNat = ((ar 25 (kk.toInt.toNat)).toInt.toNat) from by omega)); rw [← hk9, if_neg (by omega)]; decide) hP hS (lv_sub hl [1, 2, 0] rfl)
                · skip
                  have i_61 : 2 ≤ v_38.toInt ∧ v_38.toInt ≤ 2 := iv_eq1 (⟨by decide, by decide⟩ : (2 : Int) ≤ (2 : Int32).toInt ∧ (2 : Int32).toInt ≤ 2) c_59
                  refine lv_iconst (v := 1) hx hb dX12_ask_153 (by decide) ?_
                  refine lv_goto (tgt := 158) hx hb dX12_ask_154 (by decide) ?_
                  have z_69 : (1 : Int32).toInt = 1 := by decide
                  exact hj_65 1 _ _ ls (iv_w (⟨by decide, by decide⟩ : (1 : Int) ≤ (1 : Int32).toInt ∧ (1 : Int32).toInt ≤ 1) (by decide) (by decide)) (by have hw9 : v_1 = ar 25 (kk.toInt.toNat) := (show v_1 = ar 25 ((kk.toInt.toNat)) from by rw [ev_1]; exact congrArg (ar 25) (show kk.toInt.toNat = (kk.toInt.toNat) from by omega)); have hw8 : v_1.toInt.toNat = ((ar 25 (kk.toInt.toNat)).toInt.toNat) := (by rw [hw9]); have hk9 : v_38 = ar 20 ((ar 25 (kk.toInt.toNat)).toInt.toNat) := (show v_38 = ar 20 (((ar 25 (kk.toInt.toNat)).toInt.toNat)) from by rw [ev_38, show ar_36 20 = ar 20 from ((fA_put (fA_put (fA_put (fA_put (fA_put (fA_put (fA_put (fA_call (fA_put (fA_put (fA_rf [64] _) ear_3 (by decide)) ear_5 (by decide)) fa_14 (by decide)) ear_16 (by decide)) ear_18 (by decide)) ear_19 (by decide)) ear_22 (by decide)) ear_25 (by decide)) ear_26 (by decide)) ear_36 (by decide)) 20 rfl)]; exact congrArg (ar 20) (show v_1.toInt.toNat = ((ar 25 (kk.toInt.toNat)).toInt.toNat) from by omega)); rw [← hk9, if_pos (by omega)]; decide) hP hS (lv_sub hl [1, 2, 0] rfl)
          · skip
            refine lv_icmp_ne (tgt := 157) hx hb dX12_ask_150 (by decide) (fun c_49 => ?_) (fun c_49 => ?_)
            · skip
              have k_50 : ¬ v_38.toInt = 1 := fun q => c_49 (Int32.toInt_inj.mp q)
              refine lv_iconst (v := 0) hx hb dX12_ask_157 (by decide) ?_
              have z_70 : (0 : Int32).toInt = 0 := by decide
              exact hj_55 0 _ _ ls (iv_w (⟨by decide, by decide⟩ : (0 : Int) ≤ (0 : Int32).toInt ∧ (0 : Int32).toInt ≤ 0) (by decide) (by decide)) (by have hw9 : v_1 = ar 25 (kk.toInt.toNat) := (show v_1 = ar 25 ((kk.toInt.toNat)) from by rw [ev_1]; exact congrArg (ar 25) (show kk.toInt.toNat = (kk.toInt.toNat) from by omega)); have hw8 : v_1.toInt.toNat = ((ar 25 (kk.toInt.toNat)).toInt.toNat) := (by rw [hw9]); have hk9 : v_38 = ar 20 ((ar 25 (kk.toInt.toNat)).toInt.toNat) := (show v_38 = ar 20 (((ar 25 (kk.toInt.toNat)).toInt.toNat)) from by rw [ev_38, show ar_36 20 = ar 20 from ((fA_put (fA_put (fA_put (fA_put (fA_put (fA_put (fA_put (fA_call (fA_put (fA_put (fA_rf [64] _) ear_3 (by decide)) ear_5 (by decide)) fa_14 (by decide)) ear_16 (by decide)) ear_18 (by decide)) ear_19 (by decide)) ear_22 (by decide)) ear_25 (by decide)) ear_26 (by decide)) ear_36 (by decide)) 20 rfl)]; exact congrArg (ar 20) (show v_1.toInt.toNat = ((ar 25 (kk.toInt.toNat)).toInt.toNat) from by omega)); rw [← hk9, if_neg (by omega)]; decide) hP hS (lv_sub hl [1, 2, 0] rfl)
            · skip
              have i_51 : 1 ≤ v_38.toInt ∧ v_38.toInt ≤ 1 := iv_eq1 (⟨by decide, by decide⟩ : (1 : Int) ≤ (1 : Int32).toInt ∧ (1 : Int32).toInt ≤ 1) c_49
              refine lv_iconst (v := 1) hx hb dX12_ask_153 (by decide) ?_
              refine lv_goto (tgt := 158) hx hb dX12_ask_154 (by decide) ?_
              have z_71 : (1 : Int32).toInt = 1 := by decide
              exact hj_55 1 _ _ ls (iv_w (⟨by decide, by decide⟩ : (1 : Int) ≤ (1 : Int32).toInt ∧ (1 : Int32).toInt ≤ 1) (by decide) (by decide)) (by have hw9 : v_1 = ar 25 (kk.toInt.toNat) := (show v_1 = ar 25 ((kk.toInt.toNat)) from by rw [ev_1]; exact congrArg (ar 25) (show kk.toInt.toNat = (kk.toInt.toNat) from by omega)); have hw8 : v_1.toInt.toNat = ((ar 25 (kk.toInt.toNat)).toInt.toNat) := (by rw [hw9]); have hk9 : v_38 = ar 20 ((ar 25 (kk.toInt.toNat)).toInt.toNat) := (show v_38 = ar 20 (((ar 25 (kk.toInt.toNat)).toInt.toNat)) from by rw [ev_38, show ar_36 20 = ar 20 from ((fA_put (fA_put (fA_put (fA_put (fA_put (fA_put (fA_put (fA_call (fA_put (fA_put (fA_rf [64] _) ear_3 (by decide)) ear_5 (by decide)) fa_14 (by decide)) ear_16 (by decide)) ear_18 (by decide)) ear_19 (by decide)) ear_22 (by decide)) ear_25 (by decide)) ear_26 (by decide)) ear_36 (by decide)) 20 rfl)]; exact congrArg (ar 20) (show v_1.toInt.toNat = ((ar 25 (kk.toInt.toNat)).toInt.toNat) from by omega)); rw [← hk9, if_pos (by omega)]; decide) hP hS (lv_sub hl [1, 2, 0] rfl)
      · skip
        refine lv_icmp_ne (tgt := 157) hx hb dX12_ask_150 (by decide) (fun c_39 => ?_) (fun c_39 => ?_)
        · skip
          have k_40 : ¬ v_38.toInt = 0 := fun q => c_39 (Int32.toInt_inj.mp q)
          refine lv_iconst (v := 0) hx hb dX12_ask_157 (by decide) ?_
          have z_72 : (0 : Int32).toInt = 0 := by decide
          exact hj_45 0 _ _ ls (iv_w (⟨by decide, by decide⟩ : (0 : Int) ≤ (0 : Int32).toInt ∧ (0 : Int32).toInt ≤ 0) (by decide) (by decide)) (by have hw9 : v_1 = ar 25 (kk.toInt.toNat) := (show v_1 = ar 25 ((kk.toInt.toNat)) from by rw [ev_1]; exact congrArg (ar 25) (show kk.toInt.toNat = (kk.toInt.toNat) from by omega)); have hw8 : v_1.toInt.toNat = ((ar 25 (kk.toInt.toNat)).toInt.toNat) := (by rw [hw9]); have hk9 : v_38 = ar 20 ((ar 25 (kk.toInt.toNat)).toInt.toNat) := (show v_38 = ar 20 (((ar 25 (kk.toInt.toNat)).toInt.toNat)) from by rw [ev_38, show ar_36 20 = ar 20 from ((fA_put (fA_put (fA_put (fA_put (fA_put (fA_put (fA_put (fA_call (fA_put (fA_put (fA_rf [64] _) ear_3 (by decide)) ear_5 (by decide)) fa_14 (by decide)) ear_16 (by decide)) ear_18 (by decide)) ear_19 (by decide)) ear_22 (by decide)) ear_25 (by decide)) ear_26 (by decide)) ear_36 (by decide)) 20 rfl)]; exact congrArg (ar 20) (show v_1.toInt.toNat = ((ar 25 (kk.toInt.toNat)).toInt.toNat) from by omega)); rw [← hk9, if_neg (by omega)]; decide) hP hS (lv_sub hl [1, 2, 0] rfl)
        · skip
          have i_41 : 0 ≤ v_38.toInt ∧ v_38.toInt ≤ 0 := iv_eq1 (⟨by decide, by decide⟩ : (0 : Int) ≤ (0 : Int32).toInt ∧ (0 : Int32).toInt ≤ 0) c_39
          refine lv_iconst (v := 1) hx hb dX12_ask_153 (by decide) ?_
          refine lv_goto (tgt := 158) hx hb dX12_ask_154 (by decide) ?_
          have z_73 : (1 : Int32).toInt = 1 := by decide
          exact hj_45 1 _ _ ls (iv_w (⟨by decide, by decide⟩ : (1 : Int) ≤ (1 : Int32).toInt ∧ (1 : Int32).toInt ≤ 1) (by decide) (by decide)) (by have hw9 : v_1 = ar 25 (kk.toInt.toNat) := (show v_1 = ar 25 ((kk.toInt.toNat)) from by rw [ev_1]; exact congrArg (ar 25) (show kk.toInt.toNat = (kk.toInt.toNat) from by omega)); have hw8 : v_1.toInt.toNat = ((ar 25 (kk.toInt.toNat)).toInt.toNat) := (by rw [hw9]); have hk9 : v_38 = ar 20 ((ar 25 (kk.toInt.toNat)).toInt.toNat) := (show v_38 = ar 20 (((ar 25 (kk.toInt.toNat)).toInt.toNat)) from by rw [ev_38, show ar_36 20 = ar 20 from ((fA_put (fA_put (fA_put (fA_put (fA_put (fA_put (fA_put (fA_call (fA_put (fA_put (fA_rf [64] _) ear_3 (by decide)) ear_5 (by decide)) fa_14 (by decide)) ear_16 (by decide)) ear_18 (by decide)) ear_19 (by decide)) ear_22 (by decide)) ear_25 (by decide)) ear_26 (by decide)) ear_36 (by decide)) 20 rfl)]; exact congrArg (ar 20) (show v_1.toInt.toNat = ((ar 25 (kk.toInt.toNat)).toInt.toNat) from by omega)); rw [← hk9, if_pos (by omega)]; decide) hP hS (lv_sub hl [1, 2, 0] rfl)
  · skip
    refine lv_icmp_gt (tgt := 124) hx hb dX12_ask_117 (by decide) (fun c_28 => ?_) (fun c_28 => ?_)
    · skip
      have i_29 : (-2147483648) ≤ v_27.toInt ∧ v_27.toInt ≤ 198 := iv_lt1 (iv_any v_27) i_6 c_28
      have k_30 := Int32.lt_iff_toInt_lt.mp c_28
      refine lv_iconst (v := 0) hx hb dX12_ask_124 (by decide) ?_
      have z_74 : (0 : Int32).toInt = 0 := by decide
      exact hj_35 0 _ _ ls (iv_w (⟨by decide, by decide⟩ : (0 : Int) ≤ (0 : Int32).toInt ∧ (0 : Int32).toInt ≤ 0) (by decide) (by decide)) (by have hw9 : v_1 = ar 25 (kk.toInt.toNat) := (show v_1 = ar 25 ((kk.toInt.toNat)) from by rw [ev_1]; exact congrArg (ar 25) (show kk.toInt.toNat = (kk.toInt.toNat) from by omega)); have hw8 : v_1.toInt.toNat = ((ar 25 (kk.toInt.toNat)).toInt.toNat) := (by rw [hw9]); have hk9 : v_27 = ar 23 ((ar 25 (kk.toInt.toNat)).toInt.toNat) := (show v_27 = ar 23 (((ar 25 (kk.toInt.toNat)).toInt.toNat)) from by rw [ev_27, show ar_26 23 = ar 23 from ((fA_put (fA_put (fA_put (fA_put (fA_put (fA_put (fA_call (fA_put (fA_put (fA_rf [64] _) ear_3 (by decide)) ear_5 (by decide)) fa_14 (by decide)) ear_16 (by decide)) ear_18 (by decide)) ear_19 (by decide)) ear_22 (by decide)) ear_25 (by decide)) ear_26 (by decide)) 23 rfl)]; exact congrArg (ar 23) (show v_1.toInt.toNat = ((ar 25 (kk.toInt.toNat)).toInt.toNat) from by omega)); rw [← hk9, if_neg (by omega)]; decide) hP hS (lv_sub hl [1, 0] rfl)
    · skip
      have i_31 : 0 ≤ v_27.toInt ∧ v_27.toInt ≤ 2147483647 := iv_le2 i_6 (iv_any v_27) (Int32.not_lt.mp c_28)
      have k_32 := Int32.le_iff_toInt_le.mp (Int32.not_lt.mp c_28)
      refine lv_iconst (v := 1) hx hb dX12_ask_120 (by decide) ?_
      refine lv_goto (tgt := 125) hx hb dX12_ask_121 (by decide) ?_
      have z_75 : (1 : Int32).toInt = 1 := by decide
      exact hj_35 1 _ _ ls (iv_w (⟨by decide, by decide⟩ : (1 : Int) ≤ (1 : Int32).toInt ∧ (1 : Int32).toInt ≤ 1) (by decide) (by decide)) (by have hw9 : v_1 = ar 25 (kk.toInt.toNat) := (show v_1 = ar 25 ((kk.toInt.toNat)) from by rw [ev_1]; exact congrArg (ar 25) (show kk.toInt.toNat = (kk.toInt.toNat) from by omega)); have hw8 : v_1.toInt.toNat = ((ar 25 (kk.toInt.toNat)).toInt.toNat) := (by rw [hw9]); have hk9 : v_27 = ar 23 ((ar 25 (kk.toInt.toNat)).toInt.toNat) := (show v_27 = ar 23 (((ar 25 (kk.toInt.toNat)).toInt.toNat)) from by rw [ev_27, show ar_26 23 = ar 23 from ((fA_put (fA_put (fA_put (fA_put (fA_put (fA_put (fA_call (fA_put (fA_put (fA_rf [64] _) ear_3 (by decide)) ear_5 (by decide)) fa_14 (by decide)) ear_16 (by decide)) ear_18 (by decide)) ear_19 (by decide)) ear_22 (by decide)) ear_25 (by decide)) ear_26 (by decide)) 23 rfl)]; exact congrArg (ar 23) (show v_1.toInt.toNat = ((ar 25 (kk.toInt.toNat)).toInt.toNat) from by omega)); rw [← hk9, if_pos (by omega)]; decide) hP hS (lv_sub hl [1, 0] rfl)
set_option maxHeartbeats 4000000 in
set_option maxRecDepth 100000 in
theorem m_usualE (l : Launch) (sz : Nat) (b : Int32) (z : Int32) (h_b : 0 ≤ b.toInt ∧ b.toInt ≤ 5) (h_z : 0 ≤ z.toInt ∧ z.toInt ≤ 1) (h50 : ¬ (b.toInt = 5 ∧ z.toInt = 1)) : Met l yX12_usual (.code yX12_usual cX12_usual 2 (some .int) :: lw_good) ({ frames := 2, cells := 0, slots := 0, locals := 40 }) (va_Pc [.int b, .int z] (fun U => U.heap.size = sz)) (va_Qi (fun (r : Int32) (_ : Unit) => (r.toInt = cd_pl b.toInt (decide (z.toInt = 1))) ∧ True) (fun (_ : Unit) (_ : State) => True) (fun q => sz ≤ q)) 0 0 (fun q => sz ≤ q) := by
  refine Met.ofW (cc := cX12_usual) (maxL := 2) (ret := (some .int)) (by decide) rfl ?_
  intro p e s m args below meth c s₁ B hml hv
  obtain ⟨rfl, hsz⟩ := hv
  have hx := B.exec
  have hb := B.bytes
  have hr := B.returns
  have hts := atoms_spec (ws := (.code yX12_usual cX12_usual 2 (some .int) :: lw_good)) B.pre
  have htg : ∀ w ∈ lw_good, w.before _ s = true := fun w hw => hts w (List.mem_cons_of_mem _ hw)
  have hown : s.vm.findClass RX12 = some m.cls := findClass_of_methodNamed B.named
  have hlocks := B.notSynchronized
  subst hsz
  have hS : va_S (fun q => s.heap.size ≤ q) s.heap s.heap [] := va_S.rf
  have hl := lv_entry ([.int b, .int z]) (n := 2) (Nat.le_of_ble_eq_true rfl)
  rw [lg_entry_eq]
  generalize (lg_sl ([.int b, .int z]) ++ List.replicate (2 - (lg_sl ([.int b, .int z])).length) Slot.unset).toArray = ls at hl ⊢
  have hl : lv_has ls 2 [(0, .int b), (1, .int z)] := hl
  refine lv_iload_n hx hb dX12_usual_0 rfl (lv_at hl 0 rfl) ?_
  rcases iv_sw_0_5 b with w_1 | w_1 | w_1 | w_1 | w_1 | w_1 | w_1
  · skip
    refine lv_tableOut (tgt := 58) hx hb dX12_usual_1 (Or.inl w_1) (by decide) ?_
    refine lv_bipush (v := 20) hx hb dX12_usual_58 (by decide) ?_
    have z_2 : (20 : Int32).toInt = 20 := by decide
    exact W.iret (v := 20) hx hb hr (fun t ht hW => ⟨⟨20, (), rfl, ⟨(show (20 : Int32).toInt = cd_pl b.toInt (decide (z.toInt = 1)) from by have hk9 : b.toInt = 5 := (by omega); rw [show decide (z.toInt = 1) = false from decide_eq_false (by omega)]; unfold cd_pl; rw [if_neg (by omega), if_neg (by omega), if_neg (by omega), if_neg (by omega), if_pos (by omega)]; decide), trivial⟩, trivial⟩, hS.F ht⟩) hS.2.2 dX12_usual_60
  · skip
    refine lv_tableOut (tgt := 58) hx hb dX12_usual_1 (Or.inr w_1) (by decide) ?_
    refine lv_bipush (v := 20) hx hb dX12_usual_58 (by decide) ?_
    have z_3 : (20 : Int32).toInt = 20 := by decide
    exact W.iret (v := 20) hx hb hr (fun t ht hW => ⟨⟨20, (), rfl, ⟨(show (20 : Int32).toInt = cd_pl b.toInt (decide (z.toInt = 1)) from by have hk9 : b.toInt = 5 := (by omega); rw [show decide (z.toInt = 1) = false from decide_eq_false (by omega)]; unfold cd_pl; rw [if_neg (by omega), if_neg (by omega), if_neg (by omega), if_neg (by omega), if_pos (by omega)]; decide), trivial⟩, trivial⟩, hS.F ht⟩) hS.2.2 dX12_usual_60
  · skip
    refine lv_tableIn (off := 35) (tgt := 36) hx hb dX12_usual_1 (by rw [w_1]; decide) (by rw [w_1]; decide) (by rw [w_1]; rfl) (by decide) ?_
    refine lv_iconst (v := 1) hx hb dX12_usual_36 (by decide) ?_
    have z_4 : (1 : Int32).toInt = 1 := by decide
    exact W.iret (v := 1) hx hb hr (fun t ht hW => ⟨⟨1, (), rfl, ⟨(show (1 : Int32).toInt = cd_pl b.toInt (decide (z.toInt = 1)) from by have hk9 : b.toInt = 0 := (congrArg Int32.toInt (by assumption : b = (0 : Int32))).trans (by decide); unfold cd_pl; rw [if_pos (by omega)]; decide), trivial⟩, trivial⟩, hS.F ht⟩) hS.2.2 dX12_usual_37
  · skip
    refine lv_tableIn (off := 37) (tgt := 38) hx hb dX12_usual_1 (by rw [w_1]; decide) (by rw [w_1]; decide) (by rw [w_1]; rfl) (by decide) ?_
    refine lv_iconst (v := 0) hx hb dX12_usual_38 (by decide) ?_
    have z_5 : (0 : Int32).toInt = 0 := by decide
    exact W.iret (v := 0) hx hb hr (fun t ht hW => ⟨⟨0, (), rfl, ⟨(show (0 : Int32).toInt = cd_pl b.toInt (decide (z.toInt = 1)) from by have hk9 : b.toInt = 1 := (congrArg Int32.toInt (by assumption : b = (1 : Int32))).trans (by decide); unfold cd_pl; rw [if_neg (by omega), if_neg (by omega), if_neg (by omega), if_neg (by omega), if_neg (by omega)]; decide), trivial⟩, trivial⟩, hS.F ht⟩) hS.2.2 dX12_usual_39
  · skip
    refine lv_tableIn (off := 39) (tgt := 40) hx hb dX12_usual_1 (by rw [w_1]; decide) (by rw [w_1]; decide) (by rw [w_1]; rfl) (by decide) ?_
    refine lv_iload_n hx hb dX12_usual_40 rfl (lv_at hl 1 rfl) ?_
    refine lv_if_eq (tgt := 49) hx hb dX12_usual_41 (by decide) (fun c_6 => ?_) (fun c_6 => ?_)
    · skip
      have i_7 : 0 ≤ z.toInt ∧ z.toInt ≤ 0 := iv_eq1 (⟨by decide, by decide⟩ : (0 : Int) ≤ (0 : Int32).toInt ∧ (0 : Int32).toInt ≤ 0) c_6
      refine lv_iconst (v := 0) hx hb dX12_usual_49 (by decide) ?_
      have z_9 : (0 : Int32).toInt = 0 := by decide
      exact W.iret (v := 0) hx hb hr (fun t ht hW => ⟨⟨0, (), rfl, ⟨(show (0 : Int32).toInt = cd_pl b.toInt (decide (z.toInt = 1)) from by have hk9 : b.toInt = 2 := (congrArg Int32.toInt (by assumption : b = (2 : Int32))).trans (by decide); rw [show decide (z.toInt = 1) = false from decide_eq_false (by omega)]; unfold cd_pl; rw [if_neg (by omega), if_pos (by omega)]; decide), trivial⟩, trivial⟩, hS.F ht⟩) hS.2.2 dX12_usual_50
    · skip
      have i_10 : 1 ≤ z.toInt ∧ z.toInt ≤ 1 := iv_nel h_z (by decide) c_6
      have k_11 : ¬ z.toInt = 0 := fun q => c_6 (Int32.toInt_inj.mp q)
      refine lv_bipush (v := 10) hx hb dX12_usual_44 (by decide) ?_
      refine lv_goto (tgt := 50) hx hb dX12_usual_46 (by decide) ?_
      have z_12 : (10 : Int32).toInt = 10 := by decide
      exact W.iret (v := 10) hx hb hr (fun t ht hW => ⟨⟨10, (), rfl, ⟨(show (10 : Int32).toInt = cd_pl b.toInt (decide (z.toInt = 1)) from by have hk9 : b.toInt = 2 := (congrArg Int32.toInt (by assumption : b = (2 : Int32))).trans (by decide); rw [show decide (z.toInt = 1) = true from decide_eq_true (by omega)]; unfold cd_pl; rw [if_neg (by omega), if_pos (by omega)]; decide), trivial⟩, trivial⟩, hS.F ht⟩) hS.2.2 dX12_usual_50
  · skip
    refine lv_tableIn (off := 50) (tgt := 51) hx hb dX12_usual_1 (by rw [w_1]; decide) (by rw [w_1]; decide) (by rw [w_1]; rfl) (by decide) ?_
    refine lv_bipush (v := 15) hx hb dX12_usual_51 (by decide) ?_
    have z_13 : (15 : Int32).toInt = 15 := by decide
    exact W.iret (v := 15) hx hb hr (fun t ht hW => ⟨⟨15, (), rfl, ⟨(show (15 : Int32).toInt = cd_pl b.toInt (decide (z.toInt = 1)) from by have hk9 : b.toInt = 3 := (congrArg Int32.toInt (by assumption : b = (3 : Int32))).trans (by decide); unfold cd_pl; rw [if_neg (by omega), if_neg (by omega), if_pos (by omega)]; decide), trivial⟩, trivial⟩, hS.F ht⟩) hS.2.2 dX12_usual_53
  · skip
    refine lv_tableIn (off := 53) (tgt := 54) hx hb dX12_usual_1 (by rw [w_1]; decide) (by rw [w_1]; decide) (by rw [w_1]; rfl) (by decide) ?_
    refine lv_sipush (v := 500) hx hb dX12_usual_54 (by decide) ?_
    have z_14 : (500 : Int32).toInt = 500 := by decide
    exact W.iret (v := 500) hx hb hr (fun t ht hW => ⟨⟨500, (), rfl, ⟨(show (500 : Int32).toInt = cd_pl b.toInt (decide (z.toInt = 1)) from by have hk9 : b.toInt = 4 := (congrArg Int32.toInt (by assumption : b = (4 : Int32))).trans (by decide); unfold cd_pl; rw [if_neg (by omega), if_neg (by omega), if_neg (by omega), if_pos (by omega)]; decide), trivial⟩, trivial⟩, hS.F ht⟩) hS.2.2 dX12_usual_57
set_option maxHeartbeats 4000000 in
set_option maxRecDepth 100000 in
theorem m_bylawNowE (l : Launch) (dC : Nat → ClassId) (dI : Nat → Nat → Nat) (sz h : Nat) (ad : Nat → Nat) (cA : Nat → ClassId) (hd : dM h ad) (fv : Nat → Int32) (wd : Int64) (ar : Nat → Nat → Int32) (hF_fv : rF fv) (hA_ar : rA ar) (hfd : ∀ i : Nat, (i : Int) < (fv 58).toInt → 0 ≤ (ar 49 i).toInt) : Met l yX12_bylawNow (.code yX12_bylawNow cX12_bylawNow 3 (some .int) :: lw_good) ({ frames := 2, cells := 0, slots := 0, locals := 40 }) (va_Pc [.ref h] (prM dC dI h ad cA fv wd ar sz)) (va_Qi (fun (r : Int32) (u : mS) => rF u.1 ∧ rA u.2.2 ∧ fM [] fv u.1 ∧ fA [] ar u.2.2 ∧ ((-1) ≤ r.toInt ∧ r.toInt ≤ 9) ∧ (r.toInt < (fv 58).toInt) ∧ (r.toInt + 1 = (((cd_nw (fun i => (ar 49 (i - 1)).toInt) (fv 3).toInt ((fv 58).toInt.toNat)).1 : Nat) : Int)) ∧ True) (enM dC dI h ad cA) (aM h ad sz)) 0 0 (aM h ad sz) := by
  refine Met.ofW (cc := cX12_bylawNow) (maxL := 3) (ret := (some .int)) (by decide) rfl ?_
  intro p e s m args below meth c s₁ B hml hv
  obtain ⟨rfl, hsz, hP, hK⟩ := hv
  have hx := B.exec
  have hb := B.bytes
  have hr := B.returns
  have hts := atoms_spec (ws := (.code yX12_bylawNow cX12_bylawNow 3 (some .int) :: lw_good)) B.pre
  have htg : ∀ w ∈ lw_good, w.before _ s = true := fun w hw => hts w (List.mem_cons_of_mem _ hw)
  have hown : s.vm.findClass RX12 = some m.cls := findClass_of_methodNamed B.named
  have hlocks := B.notSynchronized
  subst hsz
  have hS : va_S (aM h ad s.heap.size) s.heap s.heap [] := va_S.rf
  have hl := lv_entry ([.ref h]) (n := 3) (Nat.le_of_ble_eq_true rfl)
  rw [lg_entry_eq]
  generalize (lg_sl ([.ref h]) ++ List.replicate (3 - (lg_sl ([.ref h])).length) Slot.unset).toArray = ls at hl ⊢
  have hl : lv_has ls 3 [(0, .ref h)] := hl
  refine lv_iconst (v := (-1)) hx hb dX12_bylawNow_0 (by decide) ?_
  refine lv_istore_n (lv' := [(1, .int (-1)), (0, .ref h)]) hx hb dX12_bylawNow_1 rfl hl (by decide) rfl (fun ls hl => ?_)
  refine lv_iconst (v := 0) hx hb dX12_bylawNow_2 (by decide) ?_
  refine lv_istore_n (lv' := [(2, .int 0), (1, .int (-1)), (0, .ref h)]) hx hb dX12_bylawNow_3 rfl hl (by decide) rfl (fun ls hl => ?_)
  refine my_cut (P := fun R9 a9 Q9 => ∀ (n_7 : Nat) (x_1 : Int32) (x_2 : Int32) (H : Heap) (locs : List Loc) (ls : Array Slot), 10 - x_2.toInt < (n_7 : Int) → ((-1) ≤ x_1.toInt ∧ x_1.toInt ≤ 9) → (0 ≤ x_2.toInt ∧ x_2.toInt ≤ 10) → (x_1.toInt + 1 = (((cd_nw (fun i => (ar 49 (i - 1)).toInt) (fv 3).toInt (x_2.toInt.toNat)).1 : Nat) : Int)) → ((cd_nw (fun i => (ar 49 (i - 1)).toInt) (fv 3).toInt (x_2.toInt.toNat)).2 = (if x_1.toInt = -1 then -1 else (ar 49 (x_1.toInt.toNat)).toInt)) → (x_1.toInt < x_2.toInt ∨ x_1.toInt = -1) → (x_2.toInt ≤ (fv 58).toInt) → va_P (dC, dI) vwCl (wsM h ad cA fv wd ar) H → va_S (aM h ad s.heap.size) s.heap H locs → lv_has ls 3 [(0, .ref h), (1, .int x_1), (2, .int x_2)] → W p l e R9 s m a9 below meth c H locs 0 0 Q9 (F0 m 4 ls [])) ?_ (fun hj_9 => ?_)
  · intro n_7
    induction n_7 with
    | zero => intro x_1 x_2 H locs ls fu_8 i_x_1 i_x_2 q_3 q_4 q_5 q_6; exfalso; omega
    | succ n_7 ih_7 =>
      intro x_1 x_2 H locs ls fu_8 i_x_1 i_x_2 q_3 q_4 q_5 q_6 hP hS hl
      refine lv_iload_n hx hb dX12_bylawNow_4 rfl (lv_at hl 2 rfl) ?_
      refine lv_aload_n hx hb dX12_bylawNow_5 rfl (lv_at hl 0 rfl) ?_
      refine gM_58 hx hb htg hown hK hP dX12_bylawNow_6 ?_
      have i_10 : 0 ≤ (fv 58).toInt ∧ (fv 58).toInt ≤ 10 := hF_fv 58
      refine lv_icmp_ge (tgt := 53) hx hb dX12_bylawNow_9 (by decide) (fun c_11 => ?_) (fun c_11 => ?_)
      · skip
        have k_12 := Int32.le_iff_toInt_le.mp c_11
        refine lv_iload_n hx hb dX12_bylawNow_53 rfl (lv_at hl 1 rfl) ?_
        exact W.iret (v := x_1) hx hb hr (fun t ht hW => ⟨⟨x_1, (fv, wd, ar), rfl, ⟨hF_fv, hA_ar, (fM_rf [] _), (fA_rf [] _), i_x_1, (show x_1.toInt < (fv 58).toInt from by have h9 := q_5; have h58 : (0 : Int) ≤ (fv 58).toInt ∧ (fv 58).toInt ≤ 10 := hF_fv 58; omega), (show x_1.toInt + 1 = (((cd_nw (fun i => (ar 49 (i - 1)).toInt) (fv 3).toInt ((fv 58).toInt.toNat)).1 : Nat) : Int) from by have h9 := q_3; rw [show x_2.toInt.toNat = (fv 58).toInt.toNat from by omega] at h9; exact h9), trivial⟩, ⟨by rw [ht]; exact hP, va_K.moved hW.alike hK⟩⟩, hS.F ht⟩) hS.2.2 dX12_bylawNow_54
      · skip
        have i_13 : 0 ≤ x_2.toInt ∧ x_2.toInt ≤ 9 := iv_lt1 i_x_2 i_10 (Int32.not_le.mp c_11)
        have i_14 : 1 ≤ (fv 58).toInt ∧ (fv 58).toInt ≤ 10 := iv_lt2 i_x_2 i_10 (Int32.not_le.mp c_11)
        have k_15 := Int32.lt_iff_toInt_lt.mp (Int32.not_le.mp c_11)
        refine lv_aload_n hx hb dX12_bylawNow_12 rfl (lv_at hl 0 rfl) ?_
        refine gM_49 hx hb htg hown hK hP dX12_bylawNow_13 ?_
        refine lv_iload_n hx hb dX12_bylawNow_16 rfl (lv_at hl 2 rfl) ?_
        refine lM_49 hx hb hK hP (iv_in i_13 (by decide) (by decide)) dX12_bylawNow_17 (fun v_16 ev_16 => ?_)
        refine lv_aload_n hx hb dX12_bylawNow_18 rfl (lv_at hl 0 rfl) ?_
        refine gM_3 hx hb htg hown hK hP dX12_bylawNow_19 ?_
        have i_17 : 0 ≤ (fv 3).toInt ∧ (fv 3).toInt ≤ 199 := hF_fv 3
        refine lv_icmp_gt (tgt := 47) hx hb dX12_bylawNow_22 (by decide) (fun c_18 => ?_) (fun c_18 => ?_)
        · skip
          have i_19 : 1 ≤ v_16.toInt ∧ v_16.toInt ≤ 2147483647 := iv_lt2 i_17 (iv_any v_16) c_18
          have k_20 := Int32.lt_iff_toInt_lt.mp c_18
          obtain ⟨v_21, ev_21⟩ : ∃ z : Int32, z = x_2 + 1 := ⟨_, rfl⟩
          refine lv_iinc (v := v_21) (lv' := [(2, .int v_21), (0, .ref h), (1, .int x_1)]) hx hb dX12_bylawNow_47 hl (k := 2) rfl (by rw [ev_21]; rfl) (by decide) rfl (fun ls hl => ?_)
          have t_22 : v_21.toInt = x_2.toInt + 1 ∧ 1 ≤ v_21.toInt ∧ v_21.toInt ≤ 10 := iv_addc ev_21 i_13 (by decide) (by decide) (by decide)
          refine lv_goto (tgt := 4) hx hb dX12_bylawNow_50 (by decide) ?_
          exact ih_7 x_1 v_21 _ _ ls (by omega) i_x_1 (iv_w t_22.2 (by decide) (by decide)) (by have hv9 : ar 49 (x_2.toInt.toNat) = v_16 := (show v_16 = ar 49 (x_2.toInt.toNat) from by rw [ev_16]; exact congrArg (ar 49) (show x_2.toInt.toNat = x_2.toInt.toNat from by omega)).symm; have hm1 : ((-1) : Int32).toInt = -1 := (by decide); have hf9 : (fun i => (ar 49 (i - 1)).toInt) (x_2.toInt.toNat + 1) = v_16.toInt := (by show (ar 49 (x_2.toInt.toNat + 1 - 1)).toInt = _; rw [Nat.add_sub_cancel, hv9]); have hq1 := q_3; have hq2 := q_4; have hy9 : ¬ ((fun i => (ar 49 (i - 1)).toInt) (x_2.toInt.toNat + 1) ≤ (fv 3).toInt ∧ (cd_nw (fun i => (ar 49 (i - 1)).toInt) (fv 3).toInt (x_2.toInt.toNat)).2 ≤ (fun i => (ar 49 (i - 1)).toInt) (x_2.toInt.toNat + 1)) := (by rw [hf9]; omega); rw [show v_21.toInt.toNat = x_2.toInt.toNat + 1 from by omega, cd_nw_n hy9]; exact hq1) (by have hv9 : ar 49 (x_2.toInt.toNat) = v_16 := (show v_16 = ar 49 (x_2.toInt.toNat) from by rw [ev_16]; exact congrArg (ar 49) (show x_2.toInt.toNat = x_2.toInt.toNat from by omega)).symm; have hm1 : ((-1) : Int32).toInt = -1 := (by decide); have hf9 : (fun i => (ar 49 (i - 1)).toInt) (x_2.toInt.toNat + 1) = v_16.toInt := (by show (ar 49 (x_2.toInt.toNat + 1 - 1)).toInt = _; rw [Nat.add_sub_cancel, hv9]); have hq1 := q_3; have hq2 := q_4; have hy9 : ¬ ((fun i => (ar 49 (i - 1)).toInt) (x_2.toInt.toNat + 1) ≤ (fv 3).toInt ∧ (cd_nw (fun i => (ar 49 (i - 1)).toInt) (fv 3).toInt (x_2.toInt.toNat)).2 ≤ (fun i => (ar 49 (i - 1)).toInt) (x_2.toInt.toNat + 1)) := (by rw [hf9]; omega); rw [show v_21.toInt.toNat = x_2.toInt.toNat + 1 from by omega, cd_nw_n hy9]; exact hq2) (by have h9 := q_5; omega) (by omega) hP hS (lv_sub hl [1, 2, 0] rfl)
        · skip
          have i_24 : (-2147483648) ≤ v_16.toInt ∧ v_16.toInt ≤ 199 := iv_le1 (iv_any v_16) i_17 (Int32.not_lt.mp c_18)
          have k_25 := Int32.le_iff_toInt_le.mp (Int32.not_lt.mp c_18)
          refine lv_iload_n hx hb dX12_bylawNow_25 rfl (lv_at hl 1 rfl) ?_
          refine lv_iconst (v := (-1)) hx hb dX12_bylawNow_26 (by decide) ?_
          refine lv_icmp_eq (tgt := 45) hx hb dX12_bylawNow_27 (by decide) (fun c_26 => ?_) (fun c_26 => ?_)
          · skip
            have i_27 : (-1) ≤ x_1.toInt ∧ x_1.toInt ≤ (-1) := iv_eq1 (⟨by decide, by decide⟩ : (-1 : Int) ≤ ((-1) : Int32).toInt ∧ ((-1) : Int32).toInt ≤ -1) c_26
            refine lv_iload_n hx hb dX12_bylawNow_45 rfl (lv_at hl 2 rfl) ?_
            refine lv_istore_n (lv' := [(1, .int x_2), (0, .ref h), (2, .int x_2)]) hx hb dX12_bylawNow_46 rfl hl (by decide) rfl (fun ls hl => ?_)
            obtain ⟨v_29, ev_29⟩ : ∃ z : Int32, z = x_2 + 1 := ⟨_, rfl⟩
            refine lv_iinc (v := v_29) (lv' := [(2, .int v_29), (1, .int x_2), (0, .ref h)]) hx hb dX12_bylawNow_47 hl (k := 2) rfl (by rw [ev_29]; rfl) (by decide) rfl (fun ls hl => ?_)
            have t_30 : v_29.toInt = x_2.toInt + 1 ∧ 1 ≤ v_29.toInt ∧ v_29.toInt ≤ 10 := iv_addc ev_29 i_13 (by decide) (by decide) (by decide)
            refine lv_goto (tgt := 4) hx hb dX12_bylawNow_50 (by decide) ?_
            exact ih_7 x_2 v_29 _ _ ls (by omega) (iv_w i_13 (by decide) (by decide)) (iv_w t_30.2 (by decide) (by decide)) (by have hv9 : ar 49 (x_2.toInt.toNat) = v_16 := (show v_16 = ar 49 (x_2.toInt.toNat) from by rw [ev_16]; exact congrArg (ar 49) (show x_2.toInt.toNat = x_2.toInt.toNat from by omega)).symm; have hm1 : ((-1) : Int32).toInt = -1 := (by decide); have hf9 : (fun i => (ar 49 (i - 1)).toInt) (x_2.toInt.toNat + 1) = v_16.toInt := (by show (ar 49 (x_2.toInt.toNat + 1 - 1)).toInt = _; rw [Nat.add_sub_cancel, hv9]); have hq1 := q_3; have hq2 := q_4; have hd9 := hfd x_2.toInt.toNat (by omega); rw [hv9] at hd9; rw [if_pos (by omega)] at hq2; have hy9 : (fun i => (ar 49 (i - 1)).toInt) (x_2.toInt.toNat + 1) ≤ (fv 3).toInt ∧ (cd_nw (fun i => (ar 49 (i - 1)).toInt) (fv 3).toInt (x_2.toInt.toNat)).2 ≤ (fun i => (ar 49 (i - 1)).toInt) (x_2.toInt.toNat + 1) := ⟨by rw [hf9]; omega, by rw [hf9, hq2]; omega⟩; rw [show v_29.toInt.toNat = x_2.toInt.toNat + 1 from by omega, cd_nw_y hy9]; show _ = ((x_2.toInt.toNat + 1 : Nat) : Int); omega) (by have hv9 : ar 49 (x_2.toInt.toNat) = v_16 := (show v_16 = ar 49 (x_2.toInt.toNat) from by rw [ev_16]; exact congrArg (ar 49) (show x_2.toInt.toNat = x_2.toInt.toNat from by omega)).symm; have hm1 : ((-1) : Int32).toInt = -1 := (by decide); have hf9 : (fun i => (ar 49 (i - 1)).toInt) (x_2.toInt.toNat + 1) = v_16.toInt := (by show (ar 49 (x_2.toInt.toNat + 1 - 1)).toInt = _; rw [Nat.add_sub_cancel, hv9]); have hq1 := q_3; have hq2 := q_4; have hd9 := hfd x_2.toInt.toNat (by omega); rw [hv9] at hd9; rw [if_pos (by omega)] at hq2; have hy9 : (fun i => (ar 49 (i - 1)).toInt) (x_2.toInt.toNat + 1) ≤ (fv 3).toInt ∧ (cd_nw (fun i => (ar 49 (i - 1)).toInt) (fv 3).toInt (x_2.toInt.toNat)).2 ≤ (fun i => (ar 49 (i - 1)).toInt) (x_2.toInt.toNat + 1) := ⟨by rw [hf9]; omega, by rw [hf9, hq2]; omega⟩; rw [show v_29.toInt.toNat = x_2.toInt.toNat + 1 from by omega, cd_nw_y hy9, if_neg (by omega)]; show (fun i => (ar 49 (i - 1)).toInt) (x_2.toInt.toNat + 1) = _; rw [hf9, hv9]) (Or.inl (by omega)) (by omega) hP hS (lv_sub hl [2, 1, 0] rfl)
          · skip
            have i_32 : 0 ≤ x_1.toInt ∧ x_1.toInt ≤ 9 := iv_nel i_x_1 (by decide) c_26
            have k_33 : ¬ x_1.toInt = (-1) := fun q => c_26 (Int32.toInt_inj.mp q)
            refine lv_aload_n hx hb dX12_bylawNow_30 rfl (lv_at hl 0 rfl) ?_
            refine gM_49 hx hb htg hown hK hP dX12_bylawNow_31 ?_
            refine lv_iload_n hx hb dX12_bylawNow_34 rfl (lv_at hl 2 rfl) ?_
            refine lM_49 hx hb hK hP (iv_in i_13 (by decide) (by decide)) dX12_bylawNow_35 (fun v_34 ev_34 => ?_)
            obtain rfl : v_16 = v_34 := ev_16.trans ev_34.symm
            refine lv_aload_n hx hb dX12_bylawNow_36 rfl (lv_at hl 0 rfl) ?_
            refine gM_49 hx hb htg hown hK hP dX12_bylawNow_37 ?_
            refine lv_iload_n hx hb dX12_bylawNow_40 rfl (lv_at hl 1 rfl) ?_
            refine lM_49 hx hb hK hP (iv_in i_32 (by decide) (by decide)) dX12_bylawNow_41 (fun v_35 ev_35 => ?_)
            refine lv_icmp_lt (tgt := 47) hx hb dX12_bylawNow_42 (by decide) (fun c_36 => ?_) (fun c_36 => ?_)
            · skip
              have i_37 : (-2147483647) ≤ v_35.toInt ∧ v_35.toInt ≤ 2147483647 := iv_lt2 i_24 (iv_any v_35) c_36
              have k_38 := Int32.lt_iff_toInt_lt.mp c_36
              obtain ⟨v_39, ev_39⟩ : ∃ z : Int32, z = x_2 + 1 := ⟨_, rfl⟩
              refine lv_iinc (v := v_39) (lv' := [(2, .int v_39), (0, .ref h), (1, .int x_1)]) hx hb dX12_bylawNow_47 hl (k := 2) rfl (by rw [ev_39]; rfl) (by decide) rfl (fun ls hl => ?_)
              have t_40 : v_39.toInt = x_2.toInt + 1 ∧ 1 ≤ v_39.toInt ∧ v_39.toInt ≤ 10 := iv_addc ev_39 i_13 (by decide) (by decide) (by decide)
              refine lv_goto (tgt := 4) hx hb dX12_bylawNow_50 (by decide) ?_
              exact ih_7 x_1 v_39 _ _ ls (by omega) (iv_w i_32 (by decide) (by decide)) (iv_w t_40.2 (by decide) (by decide)) (by have hv9 : ar 49 (x_2.toInt.toNat) = v_16 := (show v_16 = ar 49 (x_2.toInt.toNat) from by rw [ev_16]; exact congrArg (ar 49) (show x_2.toInt.toNat = x_2.toInt.toNat from by omega)).symm; have hm1 : ((-1) : Int32).toInt = -1 := (by decide); have hf9 : (fun i => (ar 49 (i - 1)).toInt) (x_2.toInt.toNat + 1) = v_16.toInt := (by show (ar 49 (x_2.toInt.toNat + 1 - 1)).toInt = _; rw [Nat.add_sub_cancel, hv9]); have hq1 := q_3; have hq2 := q_4; have hb9 : ar 49 (x_1.toInt.toNat) = v_35 := (show v_35 = ar 49 (x_1.toInt.toNat) from by rw [ev_35]; exact congrArg (ar 49) (show x_1.toInt.toNat = x_1.toInt.toNat from by omega)).symm; rw [if_neg (by omega), hb9] at hq2; have hy9 : ¬ ((fun i => (ar 49 (i - 1)).toInt) (x_2.toInt.toNat + 1) ≤ (fv 3).toInt ∧ (cd_nw (fun i => (ar 49 (i - 1)).toInt) (fv 3).toInt (x_2.toInt.toNat)).2 ≤ (fun i => (ar 49 (i - 1)).toInt) (x_2.toInt.toNat + 1)) := (by rw [hf9, hq2]; omega); rw [show v_39.toInt.toNat = x_2.toInt.toNat + 1 from by omega, cd_nw_n hy9]; exact hq1) (by have hv9 : ar 49 (x_2.toInt.toNat) = v_16 := (show v_16 = ar 49 (x_2.toInt.toNat) from by rw [ev_16]; exact congrArg (ar 49) (show x_2.toInt.toNat = x_2.toInt.toNat from by omega)).symm; have hm1 : ((-1) : Int32).toInt = -1 := (by decide); have hf9 : (fun i => (ar 49 (i - 1)).toInt) (x_2.toInt.toNat + 1) = v_16.toInt := (by show (ar 49 (x_2.toInt.toNat + 1 - 1)).toInt = _; rw [Nat.add_sub_cancel, hv9]); have hq1 := q_3; have hq2 := q_4; have hb9 : ar 49 (x_1.toInt.toNat) = v_35 := (show v_35 = ar 49 (x_1.toInt.toNat) from by rw [ev_35]; exact congrArg (ar 49) (show x_1.toInt.toNat = x_1.toInt.toNat from by omega)).symm; have hq3 := hq2; rw [if_neg (by omega), hb9] at hq2; have hy9 : ¬ ((fun i => (ar 49 (i - 1)).toInt) (x_2.toInt.toNat + 1) ≤ (fv 3).toInt ∧ (cd_nw (fun i => (ar 49 (i - 1)).toInt) (fv 3).toInt (x_2.toInt.toNat)).2 ≤ (fun i => (ar 49 (i - 1)).toInt) (x_2.toInt.toNat + 1)) := (by rw [hf9, hq2]; omega); rw [show v_39.toInt.toNat = x_2.toInt.toNat + 1 from by omega, cd_nw_n hy9]; exact hq3) (by have h9 := q_5; omega) (by omega) hP hS (lv_sub hl [1, 2, 0] rfl)
            · skip
              have i_42 : (-2147483648) ≤ v_35.toInt ∧ v_35.toInt ≤ 199 := iv_le1 (iv_any v_35) i_24 (Int32.not_lt.mp c_36)
              have k_43 := Int32.le_iff_toInt_le.mp (Int32.not_lt.mp c_36)
              refine lv_iload_n hx hb dX12_bylawNow_45 rfl (lv_at hl 2 rfl) ?_
              refine lv_istore_n (lv' := [(1, .int x_2), (0, .ref h), (2, .int x_2)]) hx hb dX12_bylawNow_46 rfl hl (by decide) rfl (fun ls hl => ?_)
              obtain ⟨v_44, ev_44⟩ : ∃ z : Int32, z = x_2 + 1 := ⟨_, rfl⟩
              refine lv_iinc (v := v_44) (lv' := [(2, .int v_44), (1, .int x_2), (0, .ref h)]) hx hb dX12_bylawNow_47 hl (k := 2) rfl (by rw [ev_44]; rfl) (by decide) rfl (fun ls hl => ?_)
              have t_45 : v_44.toInt = x_2.toInt + 1 ∧ 1 ≤ v_44.toInt ∧ v_44.toInt ≤ 10 := iv_addc ev_44 i_13 (by decide) (by decide) (by decide)
              refine lv_goto (tgt := 4) hx hb dX12_bylawNow_50 (by decide) ?_
              exact ih_7 x_2 v_44 _ _ ls (by omega) (iv_w i_13 (by decide) (by decide)) (iv_w t_45.2 (by decide) (by decide)) (by have hv9 : ar 49 (x_2.toInt.toNat) = v_16 := (show v_16 = ar 49 (x_2.toInt.toNat) from by rw [ev_16]; exact congrArg (ar 49) (show x_2.toInt.toNat = x_2.toInt.toNat from by omega)).symm; have hm1 : ((-1) : Int32).toInt = -1 := (by decide); have hf9 : (fun i => (ar 49 (i - 1)).toInt) (x_2.toInt.toNat + 1) = v_16.toInt := (by show (ar 49 (x_2.toInt.toNat + 1 - 1)).toInt = _; rw [Nat.add_sub_cancel, hv9]); have hq1 := q_3; have hq2 := q_4; have hb9 : ar 49 (x_1.toInt.toNat) = v_35 := (show v_35 = ar 49 (x_1.toInt.toNat) from by rw [ev_35]; exact congrArg (ar 49) (show x_1.toInt.toNat = x_1.toInt.toNat from by omega)).symm; have hd9 := hfd x_2.toInt.toNat (by omega); rw [hv9] at hd9; rw [if_neg (by omega), hb9] at hq2; have hy9 : (fun i => (ar 49 (i - 1)).toInt) (x_2.toInt.toNat + 1) ≤ (fv 3).toInt ∧ (cd_nw (fun i => (ar 49 (i - 1)).toInt) (fv 3).toInt (x_2.toInt.toNat)).2 ≤ (fun i => (ar 49 (i - 1)).toInt) (x_2.toInt.toNat + 1) := ⟨by rw [hf9]; omega, by rw [hf9, hq2]; omega⟩; rw [show v_44.toInt.toNat = x_2.toInt.toNat + 1 from by omega, cd_nw_y hy9]; show _ = ((x_2.toInt.toNat + 1 : Nat) : Int); omega) (by have hv9 : ar 49 (x_2.toInt.toNat) = v_16 := (show v_16 = ar 49 (x_2.toInt.toNat) from by rw [ev_16]; exact congrArg (ar 49) (show x_2.toInt.toNat = x_2.toInt.toNat from by omega)).symm; have hm1 : ((-1) : Int32).toInt = -1 := (by decide); have hf9 : (fun i => (ar 49 (i - 1)).toInt) (x_2.toInt.toNat + 1) = v_16.toInt := (by show (ar 49 (x_2.toInt.toNat + 1 - 1)).toInt = _; rw [Nat.add_sub_cancel, hv9]); have hq1 := q_3; have hq2 := q_4; have hb9 : ar 49 (x_1.toInt.toNat) = v_35 := (show v_35 = ar 49 (x_1.toInt.toNat) from by rw [ev_35]; exact congrArg (ar 49) (show x_1.toInt.toNat = x_1.toInt.toNat from by omega)).symm; have hd9 := hfd x_2.toInt.toNat (by omega); rw [hv9] at hd9; rw [if_neg (by omega), hb9] at hq2; have hy9 : (fun i => (ar 49 (i - 1)).toInt) (x_2.toInt.toNat + 1) ≤ (fv 3).toInt ∧ (cd_nw (fun i => (ar 49 (i - 1)).toInt) (fv 3).toInt (x_2.toInt.toNat)).2 ≤ (fun i => (ar 49 (i - 1)).toInt) (x_2.toInt.toNat + 1) := ⟨by rw [hf9]; omega, by rw [hf9, hq2]; omega⟩; rw [show v_44.toInt.toNat = x_2.toInt.toNat + 1 from by omega, cd_nw_y hy9, if_neg (by omega)]; show (fun i => (ar 49 (i - 1)).toInt) (x_2.toInt.toNat + 1) = _; rw [hf9, hv9]) (Or.inl (by omega)) (by omega) hP hS (lv_sub hl [2, 1, 0] rfl)
  · skip
    have z_47 : ((-1) : Int32).toInt = (-1) := by decide
    have z_48 : (0 : Int32).toInt = 0 := by decide
    exact hj_9 11 (-1) 0 _ _ ls (by first | decide | omega) (iv_w (⟨by decide, by decide⟩ : (-1 : Int) ≤ ((-1) : Int32).toInt ∧ ((-1) : Int32).toInt ≤ -1) (by decide) (by decide)) (iv_w (⟨by decide, by decide⟩ : (0 : Int) ≤ (0 : Int32).toInt ∧ (0 : Int32).toInt ≤ 0) (by decide) (by decide)) (by rw [show (0 : Int32).toInt.toNat = 0 from by decide]; rfl) (by rw [show (0 : Int32).toInt.toNat = 0 from by decide, if_pos (by decide)]; rfl) (Or.inr (by decide)) (by rw [show (0 : Int32).toInt = 0 from by decide]; exact (show (0 : Int) ≤ (fv 58).toInt ∧ (fv 58).toInt ≤ 10 from hF_fv 58).1) hP hS (lv_sub hl [2, 1, 0] rfl)

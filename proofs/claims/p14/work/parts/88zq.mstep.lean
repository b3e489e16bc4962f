set_option maxHeartbeats 4000000 in
set_option maxRecDepth 100000 in
theorem m_stepE (l : Launch) (dC : Nat → ClassId) (dI : Nat → Nat → Nat) (sz h : Nat) (ad : Nat → Nat) (cA : Nat → ClassId) (hd : dM h ad) (fv : Nat → Int32) (wd : Int64) (ar : Nat → Nat → Int32) (hF_fv : rF fv) (hA_ar : rA ar) (G9 : Nat → Int) (w9 : Nat → Int32) (hor : mo_or (mm_D w9 fv ar) (mo_gt (mm_D w9 fv ar)) ((fv 35).toInt.toNat) ((fv 87).toInt.toNat) (ar 83)) (hwh : mo_wh (mm_D w9 fv ar)) (hp_sW : sW ar) (hp_vM : vM fv ar) (hp_nR : mm_R G9 fv ar) (hp_nL : mm_L fv ar) (hp_nG : mm_9 fv ar) (hp_nC : mm_c fv ar) (hp_mF : wt_fm G9 (fv 8) (ar 4)) : Met l yX12_step (.code yX12_step cX12_step 2 none :: lw_good) ({ frames := 8, cells := 0, slots := 0, locals := 180 }) (va_Pc [.ref h] (prM dC dI h ad cA fv wd ar sz)) (va_Qv (fun (u : mS) => rF u.1 ∧ rA u.2.2 ∧ fM [8, 36, 66] fv u.1 ∧ fA [4, 15, 16, 18, 24, 64, 65, 68, 69, 70, 71, 72, 74, 75, 76, 77, 78, 79, 80, 82] ar u.2.2 ∧ (mm_T u.1 u.2.2 = mo_mph (mm_D w9 fv ar) G9 (mo_A (mm_D w9 fv ar) (mm_W fv ar)) ((fv 32).toInt.toNat) ((fv 34).toInt.toNat) (fv 85).toInt (mm_T fv ar)) ∧ (sW u.2.2) ∧ (mm_9 u.1 u.2.2) ∧ (mm_c u.1 u.2.2) ∧ (wt_fm G9 (u.1 8) (u.2.2 4)) ∧ True) (enM dC dI h ad cA) (aM h ad sz)) 0 0 (aM h ad sz) := by
  refine Met.ofW (cc := cX12_step) (maxL := 2) (ret := none) (by decide) rfl ?_
  intro p e s m args below meth c s₁ B hml hv
  obtain ⟨rfl, hsz, hP, hK⟩ := hv
  have hx := B.exec
  have hb := B.bytes
  have hr := B.returns
  have hts := atoms_spec (ws := (.code yX12_step cX12_step 2 none :: lw_good)) B.pre
  have htg : ∀ w ∈ lw_good, w.before _ s = true := fun w hw => hts w (List.mem_cons_of_mem _ hw)
  have hown : s.vm.findClass RX12 = some m.cls := findClass_of_methodNamed B.named
  have hlocks := B.notSynchronized
  subst hsz
  have hS : va_S (aM h ad s.heap.size) s.heap s.heap [] := va_S.rf
  have hl := lv_entry ([.ref h]) (n := 2) (Nat.le_of_ble_eq_true rfl)
  rw [lg_entry_eq]
  generalize (lg_sl ([.ref h]) ++ List.replicate (2 - (lg_sl ([.ref h])).length) Slot.unset).toArray = ls at hl ⊢
  have hl : lv_has ls 2 [(0, .ref h)] := hl
  refine lv_iconst (v := 0) hx hb dX12_step_0 (by decide) ?_
  refine lv_istore_n (lv' := [(1, .int 0), (0, .ref h)]) hx hb dX12_step_1 rfl hl (by decide) rfl (fun ls hl => ?_)
  refine my_cut (P := fun R9 a9 Q9 => ∀ (n_13 : Nat) (x_1 : Int32) (ar_2 : Nat → Nat → Int32) (H : Heap) (locs : List Loc) (ls : Array Slot), 20 - x_1.toInt < (n_13 : Int) → (0 ≤ x_1.toInt ∧ x_1.toInt ≤ 20) → rA ar_2 → fA [77] ar ar_2 → wt_fm G9 (fv 8) (ar_2 4) → mm_c fv ar_2 → mm_9 fv ar_2 → mm_L fv ar_2 → mm_R G9 fv ar_2 → sW ar_2 → vM fv ar_2 → (mm_T fv ar_2 = mo_fo (mo_xl2 (fv 85).toInt) (mm_T fv ar) ((x_1.toInt.toNat))) → (x_1.toInt ≤ (fv 34).toInt) → va_P (dC, dI) vwCl (wsM h ad cA fv wd ar_2) H → va_S (aM h ad s.heap.size) s.heap H locs → lv_has ls 2 [(0, .ref h), (1, .int x_1)] → W p l e R9 s m a9 below meth c H locs 0 0 Q9 (F0 m 2 ls [])) ?_ (fun hj_15 => ?_)
  · intro n_13
    induction n_13 with
    | zero => intro x_1 ar_2 H locs ls fu_14 i_x_1 hA_ar_2 fa_3 hp_4 hp_5 hp_6 hp_7 hp_8 hp_9 hp_10 q_11 q_12; exfalso; omega
    | succ n_13 ih_13 =>
      intro x_1 ar_2 H locs ls fu_14 i_x_1 hA_ar_2 fa_3 hp_4 hp_5 hp_6 hp_7 hp_8 hp_9 hp_10 q_11 q_12 hP hS hl
      refine lv_iload_n hx hb dX12_step_2 rfl (lv_at hl 1 rfl) ?_
      refine lv_aload_n hx hb dX12_step_3 rfl (lv_at hl 0 rfl) ?_
      refine gM_34 hx hb htg hown hK hP dX12_step_4 ?_
      have i_16 : 0 ≤ (fv 34).toInt ∧ (fv 34).toInt ≤ 20 := hF_fv 34
      refine lv_icmp_ge (tgt := 36) hx hb dX12_step_7 (by decide) (fun c_17 => ?_) (fun c_17 => ?_)
      · skip
        have k_18 := Int32.le_iff_toInt_le.mp c_17
        refine lv_iconst (v := 0) hx hb dX12_step_36 (by decide) ?_
        refine lv_istore_n (lv' := [(1, .int 0), (0, .ref h)]) hx hb dX12_step_37 rfl hl (by decide) rfl (fun ls hl => ?_)
        refine my_cut (P := fun R9 a9 Q9 => ∀ (n_50 : Nat) (x_35 : Int32) (fv_36 : Nat → Int32) (ar_38 : Nat → Nat → Int32) (wd_40 : Int64) (H : Heap) (locs : List Loc) (ls : Array Slot), 40 - x_35.toInt < (n_50 : Int) → (0 ≤ x_35.toInt ∧ x_35.toInt ≤ 40) → rF fv_36 → fM [8] fv fv_36 → rA ar_38 → fA [4, 15, 18, 68, 69, 70, 71, 72, 74, 82] ar_2 ar_38 → wt_fm G9 (fv_36 8) (ar_38 4) → mm_c fv_36 ar_38 → mm_9 fv_36 ar_38 → mm_L fv_36 ar_38 → mm_R G9 fv_36 ar_38 → sW ar_38 → vM fv_36 ar_38 → (mm_T fv_36 ar_38 = mo_fo (mo_ml1 (mm_D w9 fv ar) G9 (fv 85).toInt) (mm_T fv ar_2) ((x_35.toInt.toNat))) → (x_35.toInt ≤ (fv 32).toInt) → va_P (dC, dI) vwCl (wsM h ad cA fv_36 wd_40 ar_38) H → va_S (aM h ad s.heap.size) s.heap H locs → lv_has ls 2 [(0, .ref h), (1, .int x_35)] → W p l e R9 s m a9 below meth c H locs 0 0 Q9 (F0 m 38 ls [])) ?_ (fun hj_52 => ?_)
        · intro n_50
          induction n_50 with
          | zero => intro x_35 fv_36 ar_38 wd_40 H locs ls fu_51 i_x_35 hF_fv_36 fr_37 hA_ar_38 fa_39 hp_41 hp_42 hp_43 hp_44 hp_45 hp_46 hp_47 q_48 q_49; exfalso; omega
          | succ n_50 ih_50 =>
            intro x_35 fv_36 ar_38 wd_40 H locs ls fu_51 i_x_35 hF_fv_36 fr_37 hA_ar_38 fa_39 hp_41 hp_42 hp_43 hp_44 hp_45 hp_46 hp_47 q_48 q_49 hP hS hl
            refine lv_iload_n hx hb dX12_step_38 rfl (lv_at hl 1 rfl) ?_
            refine lv_aload_n hx hb dX12_step_39 rfl (lv_at hl 0 rfl) ?_
            refine gM_32 hx hb htg hown hK hP dX12_step_40 ?_
            refine my_ti (y := fv 32) ((fr_37 32 rfl)) ?_
            have i_53 : 0 ≤ (fv 32).toInt ∧ (fv 32).toInt ≤ 40 := hF_fv 32
            refine lv_icmp_ge (tgt := 116) hx hb dX12_step_43 (by decide) (fun c_54 => ?_) (fun c_54 => ?_)
            · skip
              have k_55 := Int32.le_iff_toInt_le.mp c_54
              refine lv_iconst (v := 0) hx hb dX12_step_116 (by decide) ?_
              refine lv_istore_n (lv' := [(1, .int 0), (0, .ref h)]) hx hb dX12_step_117 rfl hl (by decide) rfl (fun ls hl => ?_)
              refine my_cut (P := fun R9 a9 Q9 => ∀ (n_122 : Nat) (x_107 : Int32) (fv_108 : Nat → Int32) (ar_110 : Nat → Nat → Int32) (wd_112 : Int64) (H : Heap) (locs : List Loc) (ls : Array Slot), 40 - x_107.toInt < (n_122 : Int) → (0 ≤ x_107.toInt ∧ x_107.toInt ≤ 40) → rF fv_108 → fM [8] fv_36 fv_108 → rA ar_110 → fA [4, 15, 18, 68, 69, 70, 71, 72, 74, 82] ar_38 ar_110 → wt_fm G9 (fv_108 8) (ar_110 4) → mm_c fv_108 ar_110 → mm_9 fv_108 ar_110 → mm_L fv_108 ar_110 → mm_R G9 fv_108 ar_110 → sW ar_110 → vM fv_108 ar_110 → (mm_T fv_108 ar_110 = mo_fo (mo_mh1 (mm_D w9 fv ar) G9 (fv 85).toInt) (mm_T fv_36 ar_38) ((x_107.toInt.toNat))) → (x_107.toInt ≤ (fv 32).toInt) → va_P (dC, dI) vwCl (wsM h ad cA fv_108 wd_112 ar_110) H → va_S (aM h ad s.heap.size) s.heap H locs → lv_has ls 2 [(0, .ref h), (1, .int x_107)] → W p l e R9 s m a9 below meth c H locs 0 0 Q9 (F0 m 118 ls [])) ?_ (fun hj_124 => ?_)
              · intro n_122
                induction n_122 with
                | zero => intro x_107 fv_108 ar_110 wd_112 H locs ls fu_123 i_x_107 hF_fv_108 fr_109 hA_ar_110 fa_111 hp_113 hp_114 hp_115 hp_116 hp_117 hp_118 hp_119 q_120 q_121; exfalso; omega
                | succ n_122 ih_122 =>
                  intro x_107 fv_108 ar_110 wd_112 H locs ls fu_123 i_x_107 hF_fv_108 fr_109 hA_ar_110 fa_111 hp_113 hp_114 hp_115 hp_116 hp_117 hp_118 hp_119 q_120 q_121 hP hS hl
                  refine lv_iload_n hx hb dX12_step_118 rfl (lv_at hl 1 rfl) ?_
                  refine lv_aload_n hx hb dX12_step_119 rfl (lv_at hl 0 rfl) ?_
                  refine gM_32 hx hb htg hown hK hP dX12_step_120 ?_
                  refine my_ti (y := fv 32) ((fr_109 32 rfl).trans ((fr_37 32 rfl))) ?_
                  refine lv_icmp_ge (tgt := 204) hx hb dX12_step_123 (by decide) (fun c_125 => ?_) (fun c_125 => ?_)
                  · skip
                    have k_126 := Int32.le_iff_toInt_le.mp c_125
                    refine lv_iconst (v := 0) hx hb dX12_step_204 (by decide) ?_
                    refine lv_istore_n (lv' := [(1, .int 0), (0, .ref h)]) hx hb dX12_step_205 rfl hl (by decide) rfl (fun ls hl => ?_)
                    refine my_cut (P := fun R9 a9 Q9 => ∀ (n_246 : Nat) (x_231 : Int32) (fv_232 : Nat → Int32) (ar_234 : Nat → Nat → Int32) (wd_236 : Int64) (H : Heap) (locs : List Loc) (ls : Array Slot), 80 - x_231.toInt < (n_246 : Int) → (0 ≤ x_231.toInt ∧ x_231.toInt ≤ 80) → rF fv_232 → fM [8, 36, 66] fv_108 fv_232 → rA ar_234 → fA [4, 16, 24, 64, 65, 68, 75, 76, 77, 78, 79, 80] ar_110 ar_234 → wt_fm G9 (fv_232 8) (ar_234 4) → mm_c fv_232 ar_234 → mm_9 fv_232 ar_234 → mm_L fv_232 ar_234 → mm_R G9 fv_232 ar_234 → sW ar_234 → vM fv_232 ar_234 → (mm_T fv_232 ar_234 = mo_fo (mo_mt1 (mm_D w9 fv ar) G9 (mo_A (mm_D w9 fv ar) (mm_W fv ar)) ((fv 32).toInt.toNat) (fv 85).toInt) (mm_T fv_108 ar_110) ((x_231.toInt.toNat))) → (x_231.toInt ≤ (fv 35).toInt) → va_P (dC, dI) vwCl (wsM h ad cA fv_232 wd_236 ar_234) H → va_S (aM h ad s.heap.size) s.heap H locs → lv_has ls 2 [(0, .ref h), (1, .int x_231)] → W p l e R9 s m a9 below meth c H locs 0 0 Q9 (F0 m 206 ls [])) ?_ (fun hj_248 => ?_)
                    · intro n_246
                      induction n_246 with
                      | zero => intro x_231 fv_232 ar_234 wd_236 H locs ls fu_247 i_x_231 hF_fv_232 fr_233 hA_ar_234 fa_235 hp_237 hp_238 hp_239 hp_240 hp_241 hp_242 hp_243 q_244 q_245; exfalso; omega
                      | succ n_246 ih_246 =>
                        intro x_231 fv_232 ar_234 wd_236 H locs ls fu_247 i_x_231 hF_fv_232 fr_233 hA_ar_234 fa_235 hp_237 hp_238 hp_239 hp_240 hp_241 hp_242 hp_243 q_244 q_245 hP hS hl
                        refine lv_iload_n hx hb dX12_step_206 rfl (lv_at hl 1 rfl) ?_
                        refine lv_aload_n hx hb dX12_step_207 rfl (lv_at hl 0 rfl) ?_
                        refine gM_35 hx hb htg hown hK hP dX12_step_208 ?_
                        refine my_ti (y := fv 35) ((fr_233 35 rfl).trans ((fr_109 35 rfl).trans ((fr_37 35 rfl)))) ?_
                        have i_249 : 0 ≤ (fv 35).toInt ∧ (fv 35).toInt ≤ 80 := hF_fv 35
                        refine lv_icmp_ge (tgt := 246) hx hb dX12_step_211 (by decide) (fun c_250 => ?_) (fun c_250 => ?_)
                        · skip
                          have k_251 := Int32.le_iff_toInt_le.mp c_250
                          refine lv_iconst (v := 0) hx hb dX12_step_246 (by decide) ?_
                          refine lv_istore_n (lv' := [(1, .int 0), (0, .ref h)]) hx hb dX12_step_247 rfl hl (by decide) rfl (fun ls hl => ?_)
                          refine my_cut (P := fun R9 a9 Q9 => ∀ (n_315 : Nat) (x_300 : Int32) (fv_301 : Nat → Int32) (ar_303 : Nat → Nat → Int32) (wd_305 : Int64) (H : Heap) (locs : List Loc) (ls : Array Slot), 40 - x_300.toInt < (n_315 : Int) → (0 ≤ x_300.toInt ∧ x_300.toInt ≤ 40) → rF fv_301 → fM [8] fv_232 fv_301 → rA ar_303 → fA [4, 15, 18, 68, 69, 70, 71, 72, 74, 82] ar_234 ar_303 → wt_fm G9 (fv_301 8) (ar_303 4) → mm_c fv_301 ar_303 → mm_9 fv_301 ar_303 → mm_L fv_301 ar_303 → mm_R G9 fv_301 ar_303 → sW ar_303 → vM fv_301 ar_303 → (mm_T fv_301 ar_303 = mo_fo (mo_ma1 (mm_D w9 fv ar) G9 (fv 85).toInt) (mm_T fv_232 ar_234) ((x_300.toInt.toNat))) → (x_300.toInt ≤ (fv 32).toInt) → va_P (dC, dI) vwCl (wsM h ad cA fv_301 wd_305 ar_303) H → va_S (aM h ad s.heap.size) s.heap H locs → lv_has ls 2 [(0, .ref h), (1, .int x_300)] → W p l e R9 s m a9 below meth c H locs 0 0 Q9 (F0 m 248 ls [])) ?_ (fun hj_317 => ?_)
                          · intro n_315
                            induction n_315 with
                            | zero => intro x_300 fv_301 ar_303 wd_305 H locs ls fu_316 i_x_300 hF_fv_301 fr_302 hA_ar_303 fa_304 hp_306 hp_307 hp_308 hp_309 hp_310 hp_311 hp_312 q_313 q_314; exfalso; omega
                            | succ n_315 ih_315 =>
                              intro x_300 fv_301 ar_303 wd_305 H locs ls fu_316 i_x_300 hF_fv_301 fr_302 hA_ar_303 fa_304 hp_306 hp_307 hp_308 hp_309 hp_310 hp_311 hp_312 q_313 q_314 hP hS hl
                              refine lv_iload_n hx hb dX12_step_248 rfl (lv_at hl 1 rfl) ?_
                              refine lv_aload_n hx hb dX12_step_249 rfl (lv_at hl 0 rfl) ?_
                              refine gM_32 hx hb htg hown hK hP dX12_step_250 ?_
                              refine my_ti (y := fv 32) ((fr_302 32 rfl).trans ((fr_233 32 rfl).trans ((fr_109 32 rfl).trans ((fr_37 32 rfl))))) ?_
                              refine lv_icmp_ge (tgt := 304) hx hb dX12_step_253 (by decide) (fun c_318 => ?_) (fun c_318 => ?_)
                              · skip
                                have k_319 := Int32.le_iff_toInt_le.mp c_318
                                exact W.vret hx hb hr (fun t ht hW => ⟨⟨(fv_301, wd_305, ar_303), rfl, ⟨hF_fv_301, hA_ar_303, (fM_call (fM_call (fM_call (fM_call (fM_rf [8, 36, 66] _) fr_37 (by decide)) fr_109 (by decide)) fr_233 (by decide)) fr_302 (by decide)), (fA_call (fA_call (fA_call (fA_call (fA_call (fA_rf [4, 15, 16, 18, 24, 64, 65, 68, 69, 70, 71, 72, 74, 75, 76, 77, 78, 79, 80, 82] _) fa_3 (by decide)) fa_39 (by decide)) fa_111 (by decide)) fa_235 (by decide)) fa_304 (by decide)), (show mm_T fv_301 ar_303 = mo_mph (mm_D w9 fv ar) G9 (mo_A (mm_D w9 fv ar) (mm_W fv ar)) ((fv 32).toInt.toNat) ((fv 34).toInt.toNat) (fv 85).toInt (mm_T fv ar) from by have he2 : mm_T fv ar_2 = mo_fo (mo_xl2 (fv 85).toInt) (mm_T fv ar) ((fv 34).toInt.toNat) := (by have h9 := q_11; rw [show (x_1.toInt.toNat) = ((fv 34).toInt.toNat) from by omega] at h9; exact h9); have he38 : mm_T fv_36 ar_38 = mo_fo (mo_ml1 (mm_D w9 fv ar) G9 (fv 85).toInt) (mm_T fv ar_2) ((fv 32).toInt.toNat) := (by have h9 := q_48; rw [show (x_35.toInt.toNat) = ((fv 32).toInt.toNat) from by omega] at h9; exact h9); have he118 : mm_T fv_108 ar_110 = mo_fo (mo_mh1 (mm_D w9 fv ar) G9 (fv 85).toInt) (mm_T fv_36 ar_38) ((fv 32).toInt.toNat) := (by have h9 := q_120; rw [show (x_107.toInt.toNat) = ((fv 32).toInt.toNat) from by omega] at h9; exact h9); have he206 : mm_T fv_232 ar_234 = mo_fo (mo_mt1 (mm_D w9 fv ar) G9 (mo_A (mm_D w9 fv ar) (mm_W fv ar)) ((fv 32).toInt.toNat) (fv 85).toInt) (mm_T fv_108 ar_110) ((fv 35).toInt.toNat) := (by have h9 := q_244; rw [show (x_231.toInt.toNat) = ((fv 35).toInt.toNat) from by omega] at h9; exact h9); have he248 : mm_T fv_301 ar_303 = mo_fo (mo_ma1 (mm_D w9 fv ar) G9 (fv 85).toInt) (mm_T fv_232 ar_234) ((fv 32).toInt.toNat) := (by have h9 := q_313; rw [show (x_300.toInt.toNat) = ((fv 32).toInt.toNat) from by omega] at h9; exact h9); rw [he248, he206, he118, he38, he2]; rfl), hp_311, hp_308, hp_307, hp_306, trivial⟩, ⟨by rw [ht]; exact hP, va_K.moved hW.alike hK⟩⟩, hS.F ht⟩) hS.2.2 dX12_step_304
                              · skip
                                have i_320 : 0 ≤ x_300.toInt ∧ x_300.toInt ≤ 39 := iv_lt1 i_x_300 i_53 (Int32.not_le.mp c_318)
                                have i_321 : 1 ≤ (fv 32).toInt ∧ (fv 32).toInt ≤ 40 := iv_lt2 i_x_300 i_53 (Int32.not_le.mp c_318)
                                have k_322 := Int32.lt_iff_toInt_lt.mp (Int32.not_le.mp c_318)
                                refine lv_aload_n hx hb dX12_step_256 rfl (lv_at hl 0 rfl) ?_
                                refine gM_68 hx hb htg hown hK hP dX12_step_257 ?_
                                refine lv_iload_n hx hb dX12_step_260 rfl (lv_at hl 1 rfl) ?_
                                refine lM_68 hx hb hK hP (iv_in i_320 (by decide) (by decide)) dX12_step_261 (fun v_323 ev_323 => ?_)
                                refine lv_iconst (v := 2) hx hb dX12_step_262 (by decide) ?_
                                refine lv_icmp_ne (tgt := 298) hx hb dX12_step_263 (by decide) (fun c_324 => ?_) (fun c_324 => ?_)
                                · skip
                                  have k_325 : ¬ v_323.toInt = 2 := fun q => c_324 (Int32.toInt_inj.mp q)
                                  obtain ⟨v_326, ev_326⟩ : ∃ z : Int32, z = x_300 + 1 := ⟨_, rfl⟩
                                  refine lv_iinc (v := v_326) (lv' := [(1, .int v_326), (0, .ref h)]) hx hb dX12_step_298 hl (k := 1) rfl (by rw [ev_326]; rfl) (by decide) rfl (fun ls hl => ?_)
                                  have t_327 : v_326.toInt = x_300.toInt + 1 ∧ 1 ≤ v_326.toInt ∧ v_326.toInt ≤ 40 := iv_addc ev_326 i_320 (by decide) (by decide) (by decide)
                                  refine lv_goto (tgt := 248) hx hb dX12_step_301 (by decide) ?_
                                  have z_367 : (fv_301 32).toInt = (fv 32).toInt := congrArg Int32.toInt ((fr_302 32 rfl).trans ((fr_233 32 rfl).trans ((fr_109 32 rfl).trans ((fr_37 32 rfl)))))
                                  have z_368 : 0 ≤ (fv_301 32).toInt ∧ (fv_301 32).toInt ≤ 40 := hF_fv_301 32
                                  exact ih_315 v_326 fv_301 ar_303 wd_305 _ _ ls (by omega) (iv_w t_327.2 (by decide) (by decide)) hF_fv_301 (fM_call (fM_rf [8] _) fr_302 (by decide)) hA_ar_303 (fA_call (fA_rf [4, 15, 18, 68, 69, 70, 71, 72, 74, 82] _) fa_304 (by decide)) hp_306 hp_307 hp_308 hp_309 hp_310 hp_311 hp_312 (by rw [show v_326.toInt.toNat = (x_300.toInt.toNat) + 1 from by omega]; show _ = mo_ma1 (mm_D w9 fv ar) G9 (fv 85).toInt (mo_fo (mo_ma1 (mm_D w9 fv ar) G9 (fv 85).toInt) (mm_T fv_232 ar_234) (x_300.toInt.toNat)) (x_300.toInt.toNat); rw [← q_313]; unfold mo_ma1; have hs6 : mm_T fv_301 ar_303 6 (x_300.toInt.toNat) = v_323 := (by show ar_303 68 (x_300.toInt.toNat) = _; exact ((show v_323 = ar_303 68 (x_300.toInt.toNat) from by rw [ev_323]; exact congrArg (ar_303 68) (show x_300.toInt.toNat = (x_300.toInt.toNat) from by omega))).symm); rw [hs6, if_neg (fun w => by have w1 := w.1; omega)]) (by have h32 := (show (0 : Int) ≤ (fv 32).toInt ∧ (fv 32).toInt ≤ 40 from hF_fv 32); omega) hP hS (lv_sub hl [1, 0] rfl)
                                · skip
                                  have i_329 : 2 ≤ v_323.toInt ∧ v_323.toInt ≤ 2 := iv_eq1 (⟨by decide, by decide⟩ : (2 : Int) ≤ (2 : Int32).toInt ∧ (2 : Int32).toInt ≤ 2) c_324
                                  refine lv_aload_n hx hb dX12_step_266 rfl (lv_at hl 0 rfl) ?_
                                  refine gM_28 hx hb htg hown hK hP dX12_step_267 ?_
                                  refine lv_aload_n hx hb dX12_step_270 rfl (lv_at hl 0 rfl) ?_
                                  refine gM_71 hx hb htg hown hK hP dX12_step_271 ?_
                                  refine lv_iload_n hx hb dX12_step_274 rfl (lv_at hl 1 rfl) ?_
                                  refine lM_71 hx hb hK hP (iv_in i_320 (by decide) (by decide)) dX12_step_275 (fun v_331 ev_331 => ?_)
                                  have i_332 : (-1) ≤ v_331.toInt ∧ v_331.toInt ≤ 79 := ev_331 ▸ hA_ar_303 71 _
                                  have i_333 : 0 ≤ v_331.toInt ∧ v_331.toInt ≤ 79 := ⟨by have h9 := hp_311 x_300.toNatClampNeg; rw [← ev_323, ← ev_331] at h9; exact h9 (Int.le_trans (by decide) (i_329).1) (Int.le_trans (i_329).2 (by decide)), (i_332).2⟩
                                  refine lM_28 hx hb hK hP (iv_in i_333 (by decide) (by decide)) dX12_step_276 (fun v_334 ev_334 => ?_)
                                  have i_335 : 0 ≤ v_334.toInt ∧ v_334.toInt ≤ 719 := (by rw [ev_334, show ar_303 28 = ar 28 from ((fA_call (fA_call (fA_call (fA_call (fA_call (fA_rf [4, 15, 16, 18, 24, 64, 65, 68, 69, 70, 71, 72, 74, 75, 76, 77, 78, 79, 80, 82] _) fa_3 (by decide)) fa_39 (by decide)) fa_111 (by decide)) fa_235 (by decide)) fa_304 (by decide)) 28 rfl)]; exact hp_nR.1.2.2.1 _)
                                  refine lv_aload_n hx hb dX12_step_277 rfl (lv_at hl 0 rfl) ?_
                                  refine gM_85 hx hb htg hown hK hP dX12_step_278 ?_
                                  refine my_ti (y := fv 85) ((fr_302 85 rfl).trans ((fr_233 85 rfl).trans ((fr_109 85 rfl).trans ((fr_37 85 rfl))))) ?_
                                  have i_336 : 0 ≤ (fv 85).toInt ∧ (fv 85).toInt ≤ 840 := hF_fv 85
                                  refine lv_icmp_eq (tgt := 287) hx hb dX12_step_281 (by decide) (fun c_337 => ?_) (fun c_337 => ?_)
                                  · skip
                                    have i_338 : 0 ≤ (fv 85).toInt ∧ (fv 85).toInt ≤ 719 := iv_eq1 i_335 c_337.symm
                                    have k_339 := congrArg Int32.toInt c_337
                                    refine lv_aload_n hx hb dX12_step_287 rfl (lv_at hl 0 rfl) ?_
                                    refine lv_iload_n hx hb dX12_step_288 rfl (lv_at hl 1 rfl) ?_
                                    refine lv_aload_n hx hb dX12_step_289 rfl (lv_at hl 0 rfl) ?_
                                    refine gM_85 hx hb htg hown hK hP dX12_step_290 ?_
                                    refine my_ti (y := fv 85) ((fr_302 85 rfl).trans ((fr_233 85 rfl).trans ((fr_109 85 rfl).trans ((fr_37 85 rfl))))) ?_
                                    refine lv_iconst (v := 1) hx hb dX12_step_293 (by decide) ?_
                                    refine lv_iadd hx hb dX12_step_294 ?_
                                    refine lv_topi (fun v_340 ev_340 => ?_)
                                    have t_341 : v_340.toInt = (fv 85).toInt + 1 ∧ 1 ≤ v_340.toInt ∧ v_340.toInt ≤ 720 := iv_addc ev_340 i_338 (by decide) (by decide) (by decide)
                                    have z_343 : (fv_301 35).toInt = (fv 35).toInt := congrArg Int32.toInt ((fr_302 35 rfl).trans ((fr_233 35 rfl).trans ((fr_109 35 rfl).trans ((fr_37 35 rfl)))))
                                    have z_344 : 0 ≤ (fv_301 35).toInt ∧ (fv_301 35).toInt ≤ 80 := hF_fv_301 35
                                    have z_345 : (fv_301 87).toInt = (fv 87).toInt := congrArg Int32.toInt ((fr_302 87 rfl).trans ((fr_233 87 rfl).trans ((fr_109 87 rfl).trans ((fr_37 87 rfl)))))
                                    have z_346 : 0 ≤ (fv_301 87).toInt ∧ (fv_301 87).toInt ≤ 80 := hF_fv_301 87
                                    have z_347 : (fv_301 85).toInt = (fv 85).toInt := congrArg Int32.toInt ((fr_302 85 rfl).trans ((fr_233 85 rfl).trans ((fr_109 85 rfl).trans ((fr_37 85 rfl)))))
                                    have z_348 : 0 ≤ (fv_301 85).toInt ∧ (fv_301 85).toInt ≤ 840 := hF_fv_301 85
                                    refine va_callv (va_runV (As := [.int x_300, .int v_340]) (rest := []) ⟨hx, hb, hml, hown, hts⟩ (m_chooseE l dC dI H.size h ad cA hd fv_301 wd_305 ar_303 hF_fv_301 hA_ar_303 G9 w9 x_300 v_340 i_320 (by rw [show mm_D w9 fv_301 ar_303 = mm_D w9 fv ar from (mm_D_fr (fM_call (fM_call (fM_call (fM_call (fM_rf [8, 36, 66] _) fr_37 (by decide)) fr_109 (by decide)) fr_233 (by decide)) fr_302 (by decide)) (fA_call (fA_call (fA_call (fA_call (fA_call (fA_rf [4, 15, 16, 18, 24, 64, 65, 68, 69, 70, 71, 72, 74, 75, 76, 77, 78, 79, 80, 82] _) fa_3 (by decide)) fa_39 (by decide)) fa_111 (by decide)) fa_235 (by decide)) fa_304 (by decide)) rfl rfl), show fv_301 35 = fv 35 from ((fM_call (fM_call (fM_call (fM_call (fM_rf [8, 36, 66] _) fr_37 (by decide)) fr_109 (by decide)) fr_233 (by decide)) fr_302 (by decide)) 35 rfl), show fv_301 87 = fv 87 from ((fM_call (fM_call (fM_call (fM_call (fM_rf [8, 36, 66] _) fr_37 (by decide)) fr_109 (by decide)) fr_233 (by decide)) fr_302 (by decide)) 87 rfl), show ar_303 83 = ar 83 from ((fA_call (fA_call (fA_call (fA_call (fA_call (fA_rf [4, 15, 16, 18, 24, 64, 65, 68, 69, 70, 71, 72, 74, 75, 76, 77, 78, 79, 80, 82] _) fa_3 (by decide)) fa_39 (by decide)) fa_111 (by decide)) fa_235 (by decide)) fa_304 (by decide)) 83 rfl)]; exact hor) hp_311 hp_310 hp_307 hp_306) (cwV 2 hts (gV kw_8_188 kw_8_190 kw_p_87 kw_1_15 kw_8_191) rfl rfl rfl (by decide +kernel) ⟨Nat.le_of_ble_eq_true rfl, Nat.le_of_ble_eq_true rfl⟩) ⟨fun a U g mk q => ⟨q.1, q.2.1, q.2.2.1, va_K.moved (u := U) (U := U.calling g mk a) (Vm.Alike.refl U.vm) q.2.2.2⟩, va_recv hK hP (ci := 12) (q0 := 0) rfl rfl, fun U hU hW => ⟨rfl, by rw [hU], by rw [hU]; exact hP, va_K.moved hW.alike hK⟩⟩ rfl rfl hl.1 rfl (lv_room (Nat.le_of_ble_eq_true rfl)) dX12_step_295 ⟨Nat.le_of_ble_eq_true rfl, Nat.le_of_ble_eq_true rfl⟩) hS (fun q _ h9 => aM_up hS q h9) (aM_up hS) (fun u t H1 locs ht _ hw hB _ hk1 hS => ?_)
                                    obtain ⟨fv_354, wd_355, ar_356⟩ := u
                                    obtain ⟨hF_fv_354, hA_ar_356, fr_357, fa_358, p_350, p_351, p_352, p_353, -⟩ := hw
                                    have hP : va_P (dC, dI) vwCl (wsM h ad cA fv_354 wd_355 ar_356) H1 := by have h9 := hB.1; rw [ht] at h9; exact h9
                                    have fr_357 : fM [8] fv_301 fv_354 := fr_357
                                    have fa_358 : fA [4, 15, 18, 68, 69, 70, 71, 72, 74, 82] ar_303 ar_356 := fa_358
                                    have p_351 : sW ar_356 := p_351
                                    have p_352 : mm_c fv_354 ar_356 := p_352
                                    have p_353 : wt_fm G9 (fv_354 8) (ar_356 4) := p_353
                                    have p_350 : mm_T fv_354 ar_356 = mo_mc (mm_D w9 fv_301 ar_303) G9 (mm_T fv_301 ar_303) (x_300.toInt.toNat) (fv_301 85).toInt v_340.toInt := p_350
                                    generalize H1 = H at hP hS ⊢
                                    have ch_359 : mm_T fv_354 ar_356 = mo_mc (mm_D w9 fv ar) G9 (mm_T fv_301 ar_303) (x_300.toInt.toNat) (fv 85).toInt v_340.toInt := by have h9 := p_350; rw [show mm_D w9 fv_301 ar_303 = mm_D w9 fv ar from (mm_D_fr (fM_call (fM_call (fM_call (fM_call (fM_rf [8, 36, 66] _) fr_37 (by decide)) fr_109 (by decide)) fr_233 (by decide)) fr_302 (by decide)) (fA_call (fA_call (fA_call (fA_call (fA_call (fA_rf [4, 15, 16, 18, 24, 64, 65, 68, 69, 70, 71, 72, 74, 75, 76, 77, 78, 79, 80, 82] _) fa_3 (by decide)) fa_39 (by decide)) fa_111 (by decide)) fa_235 (by decide)) fa_304 (by decide)) rfl rfl), show fv_301 85 = fv 85 from ((fM_call (fM_call (fM_call (fM_call (fM_rf [8, 36, 66] _) fr_37 (by decide)) fr_109 (by decide)) fr_233 (by decide)) fr_302 (by decide)) 85 rfl)] at h9; exact h9
                                    obtain ⟨v_360, ev_360⟩ : ∃ z : Int32, z = x_300 + 1 := ⟨_, rfl⟩
                                    refine lv_iinc (v := v_360) (lv' := [(1, .int v_360), (0, .ref h)]) hx hb dX12_step_298 hl (k := 1) rfl (by rw [ev_360]; rfl) (by decide) rfl (fun ls hl => ?_)
                                    have t_361 : v_360.toInt = x_300.toInt + 1 ∧ 1 ≤ v_360.toInt ∧ v_360.toInt ≤ 40 := iv_addc ev_360 i_320 (by decide) (by decide) (by decide)
                                    refine lv_goto (tgt := 248) hx hb dX12_step_301 (by decide) ?_
                                    have z_369 : (fv_354 32).toInt = (fv 32).toInt := congrArg Int32.toInt ((fr_357 32 rfl).trans ((fr_302 32 rfl).trans ((fr_233 32 rfl).trans ((fr_109 32 rfl).trans ((fr_37 32 rfl))))))
                                    have z_370 : 0 ≤ (fv_354 32).toInt ∧ (fv_354 32).toInt ≤ 40 := hF_fv_354 32
                                    exact ih_315 v_360 fv_354 ar_356 wd_355 _ _ ls (by omega) (iv_w t_361.2 (by decide) (by decide)) hF_fv_354 (fM_call (fM_call (fM_rf [8] _) fr_302 (by decide)) fr_357 (by decide)) hA_ar_356 (fA_call (fA_call (fA_rf [4, 15, 18, 68, 69, 70, 71, 72, 74, 82] _) fa_304 (by decide)) fa_358 (by decide)) p_353 p_352 (mm_9_fr hp_308 (fM_call (fM_rf [8] _) fr_357 (by decide)) (fA_call (fA_rf [4, 15, 18, 68, 69, 70, 71, 72, 74, 82] _) fa_358 (by decide)) rfl rfl) (mm_L_fr hp_309 (fM_call (fM_rf [8] _) fr_357 (by decide)) (fA_call (fA_rf [4, 15, 18, 68, 69, 70, 71, 72, 74, 82] _) fa_358 (by decide)) rfl rfl rfl rfl rfl rfl rfl rfl rfl rfl) (mm_R_fr hp_310 (fM_call (fM_rf [8] _) fr_357 (by decide)) (fA_call (fA_rf [4, 15, 18, 68, 69, 70, 71, 72, 74, 82] _) fa_358 (by decide)) rfl rfl rfl rfl rfl rfl rfl rfl rfl rfl rfl) p_351 (vM_fr hp_312 (fM_call (fM_rf [8] _) fr_357 (by decide)) (fA_call (fA_rf [4, 15, 18, 68, 69, 70, 71, 72, 74, 82] _) fa_358 (by decide)) rfl rfl rfl rfl rfl) (by rw [show v_360.toInt.toNat = (x_300.toInt.toNat) + 1 from by omega]; show _ = mo_ma1 (mm_D w9 fv ar) G9 (fv 85).toInt (mo_fo (mo_ma1 (mm_D w9 fv ar) G9 (fv 85).toInt) (mm_T fv_232 ar_234) (x_300.toInt.toNat)) (x_300.toInt.toNat); rw [← q_313]; unfold mo_ma1; have hs6 : mm_T fv_301 ar_303 6 (x_300.toInt.toNat) = v_323 := (by show ar_303 68 (x_300.toInt.toNat) = _; exact ((show v_323 = ar_303 68 (x_300.toInt.toNat) from by rw [ev_323]; exact congrArg (ar_303 68) (show x_300.toInt.toNat = (x_300.toInt.toNat) from by omega))).symm); have hs5 : mm_T fv_301 ar_303 5 (x_300.toInt.toNat) = v_331 := (by show ar_303 71 (x_300.toInt.toNat) = _; exact ((show v_331 = ar_303 71 (x_300.toInt.toNat) from by rw [ev_331]; exact congrArg (ar_303 71) (show x_300.toInt.toNat = (x_300.toInt.toNat) from by omega))).symm); have hm9 : (mm_D w9 fv ar) 14 (v_331.toInt.toNat) = v_334 := (by show ar 28 (v_331.toInt.toNat) = _; exact ((show v_334 = ar 28 (v_331.toInt.toNat) from by rw [ev_334, show ar_303 28 = ar 28 from ((fA_call (fA_call (fA_call (fA_call (fA_call (fA_rf [4, 15, 16, 18, 24, 64, 65, 68, 69, 70, 71, 72, 74, 75, 76, 77, 78, 79, 80, 82] _) fa_3 (by decide)) fa_39 (by decide)) fa_111 (by decide)) fa_235 (by decide)) fa_304 (by decide)) 28 rfl)]; exact congrArg (ar 28) (show v_331.toInt.toNat = (v_331.toInt.toNat) from by omega))).symm); rw [hs6, hs5, hm9, if_pos ⟨by omega, by omega⟩, show (fv 85).toInt + 1 = v_340.toInt from by omega]; exact ch_359) (by have h32 := (show (0 : Int) ≤ (fv 32).toInt ∧ (fv 32).toInt ≤ 40 from hF_fv 32); omega) hP hS (lv_sub hl [1, 0] rfl)
                                  · skip
                                    have k_363 : ¬ v_334.toInt = (fv 85).toInt := fun q => c_337 (Int32.toInt_inj.mp q)
                                    refine lv_goto (tgt := 298) hx hb dX12_step_284 (by decide) ?_
                                    obtain ⟨v_364, ev_364⟩ : ∃ z : Int32, z = x_300 + 1 := ⟨_, rfl⟩
                                    refine lv_iinc (v := v_364) (lv' := [(1, .int v_364), (0, .ref h)]) hx hb dX12_step_298 hl (k := 1) rfl (by rw [ev_364]; rfl) (by decide) rfl (fun ls hl => ?_)
                                    have t_365 : v_364.toInt = x_300.toInt + 1 ∧ 1 ≤ v_364.toInt ∧ v_364.toInt ≤ 40 := iv_addc ev_364 i_320 (by decide) (by decide) (by decide)
                                    refine lv_goto (tgt := 248) hx hb dX12_step_301 (by decide) ?_
                                    have z_371 : (fv_301 32).toInt = (fv 32).toInt := congrArg Int32.toInt ((fr_302 32 rfl).trans ((fr_233 32 rfl).trans ((fr_109 32 rfl).trans ((fr_37 32 rfl)))))
                                    have z_372 : 0 ≤ (fv_301 32).toInt ∧ (fv_301 32).toInt ≤ 40 := hF_fv_301 32
                                    exact ih_315 v_364 fv_301 ar_303 wd_305 _ _ ls (by omega) (iv_w t_365.2 (by decide) (by decide)) hF_fv_301 (fM_call (fM_rf [8] _) fr_302 (by decide)) hA_ar_303 (fA_call (fA_rf [4, 15, 18, 68, 69, 70, 71, 72, 74, 82] _) fa_304 (by decide)) hp_306 hp_307 hp_308 hp_309 hp_310 hp_311 hp_312 (by rw [show v_364.toInt.toNat = (x_300.toInt.toNat) + 1 from by omega]; show _ = mo_ma1 (mm_D w9 fv ar) G9 (fv 85).toInt (mo_fo (mo_ma1 (mm_D w9 fv ar) G9 (fv 85).toInt) (mm_T fv_232 ar_234) (x_300.toInt.toNat)) (x_300.toInt.toNat); rw [← q_313]; unfold mo_ma1; have hs6 : mm_T fv_301 ar_303 6 (x_300.toInt.toNat) = v_323 := (by show ar_303 68 (x_300.toInt.toNat) = _; exact ((show v_323 = ar_303 68 (x_300.toInt.toNat) from by rw [ev_323]; exact congrArg (ar_303 68) (show x_300.toInt.toNat = (x_300.toInt.toNat) from by omega))).symm); have hs5 : mm_T fv_301 ar_303 5 (x_300.toInt.toNat) = v_331 := (by show ar_303 71 (x_300.toInt.toNat) = _; exact ((show v_331 = ar_303 71 (x_300.toInt.toNat) from by rw [ev_331]; exact congrArg (ar_303 71) (show x_300.toInt.toNat = (x_300.toInt.toNat) from by omega))).symm); have hm9 : (mm_D w9 fv ar) 14 (v_331.toInt.toNat) = v_334 := (by show ar 28 (v_331.toInt.toNat) = _; exact ((show v_334 = ar 28 (v_331.toInt.toNat) from by rw [ev_334, show ar_303 28 = ar 28 from ((fA_call (fA_call (fA_call (fA_call (fA_call (fA_rf [4, 15, 16, 18, 24, 64, 65, 68, 69, 70, 71, 72, 74, 75, 76, 77, 78, 79, 80, 82] _) fa_3 (by decide)) fa_39 (by decide)) fa_111 (by decide)) fa_235 (by decide)) fa_304 (by decide)) 28 rfl)]; exact congrArg (ar 28) (show v_331.toInt.toNat = (v_331.toInt.toNat) from by omega))).symm); rw [hs6, hs5, hm9, if_neg (fun w => by have w1 := w.2; omega)]) (by have h32 := (show (0 : Int) ≤ (fv 32).toInt ∧ (fv 32).toInt ≤ 40 from hF_fv 32); omega) hP hS (lv_sub hl [1, 0] rfl)
                          · skip
                            have z_373 : (0 : Int32).toInt = 0 := by decide
                            have z_374 : (fv_232 32).toInt = (fv 32).toInt := congrArg Int32.toInt ((fr_233 32 rfl).trans ((fr_109 32 rfl).trans ((fr_37 32 rfl))))
                            have z_375 : 0 ≤ (fv_232 32).toInt ∧ (fv_232 32).toInt ≤ 40 := hF_fv_232 32
                            exact hj_317 41 0 fv_232 ar_234 wd_236 _ _ ls (by first | decide | omega) (iv_w (⟨by decide, by decide⟩ : (0 : Int) ≤ (0 : Int32).toInt ∧ (0 : Int32).toInt ≤ 0) (by decide) (by decide)) hF_fv_232 (fM_rf [8] _) hA_ar_234 (fA_rf [4, 15, 18, 68, 69, 70, 71, 72, 74, 82] _) hp_237 hp_238 hp_239 hp_240 hp_241 hp_242 hp_243 (by rw [show (0 : Int32).toInt.toNat = 0 from by decide]; rfl) (by have h32 := (show (0 : Int) ≤ (fv 32).toInt ∧ (fv 32).toInt ≤ 40 from hF_fv 32); omega) hP hS (lv_sub hl [1, 0] rfl)
                        · skip
                          have i_252 : 0 ≤ x_231.toInt ∧ x_231.toInt ≤ 79 := iv_lt1 i_x_231 i_249 (Int32.not_le.mp c_250)
                          have i_253 : 1 ≤ (fv 35).toInt ∧ (fv 35).toInt ≤ 80 := iv_lt2 i_x_231 i_249 (Int32.not_le.mp c_250)
                          have k_254 := Int32.lt_iff_toInt_lt.mp (Int32.not_le.mp c_250)
                          refine lv_aload_n hx hb dX12_step_214 rfl (lv_at hl 0 rfl) ?_
                          refine gM_28 hx hb htg hown hK hP dX12_step_215 ?_
                          refine lv_iload_n hx hb dX12_step_218 rfl (lv_at hl 1 rfl) ?_
                          refine lM_28 hx hb hK hP (iv_in i_252 (by decide) (by decide)) dX12_step_219 (fun v_255 ev_255 => ?_)
                          have i_256 : 0 ≤ v_255.toInt ∧ v_255.toInt ≤ 719 := (by rw [ev_255, show ar_234 28 = ar 28 from ((fA_call (fA_call (fA_call (fA_call (fA_rf [4, 15, 16, 18, 24, 64, 65, 68, 69, 70, 71, 72, 74, 75, 76, 77, 78, 79, 80, 82] _) fa_3 (by decide)) fa_39 (by decide)) fa_111 (by decide)) fa_235 (by decide)) 28 rfl)]; exact hp_nR.1.2.2.1 _)
                          refine lv_aload_n hx hb dX12_step_220 rfl (lv_at hl 0 rfl) ?_
                          refine gM_85 hx hb htg hown hK hP dX12_step_221 ?_
                          refine my_ti (y := fv 85) ((fr_233 85 rfl).trans ((fr_109 85 rfl).trans ((fr_37 85 rfl)))) ?_
                          have i_257 : 0 ≤ (fv 85).toInt ∧ (fv 85).toInt ≤ 840 := hF_fv 85
                          refine lv_icmp_ne (tgt := 240) hx hb dX12_step_224 (by decide) (fun c_258 => ?_) (fun c_258 => ?_)
                          · skip
                            have k_259 : ¬ v_255.toInt = (fv 85).toInt := fun q => c_258 (Int32.toInt_inj.mp q)
                            obtain ⟨v_260, ev_260⟩ : ∃ z : Int32, z = x_231 + 1 := ⟨_, rfl⟩
                            refine lv_iinc (v := v_260) (lv' := [(1, .int v_260), (0, .ref h)]) hx hb dX12_step_240 hl (k := 1) rfl (by rw [ev_260]; rfl) (by decide) rfl (fun ls hl => ?_)
                            have t_261 : v_260.toInt = x_231.toInt + 1 ∧ 1 ≤ v_260.toInt ∧ v_260.toInt ≤ 80 := iv_addc ev_260 i_252 (by decide) (by decide) (by decide)
                            refine lv_goto (tgt := 206) hx hb dX12_step_243 (by decide) ?_
                            have z_376 : (fv_232 35).toInt = (fv 35).toInt := congrArg Int32.toInt ((fr_233 35 rfl).trans ((fr_109 35 rfl).trans ((fr_37 35 rfl))))
                            have z_377 : 0 ≤ (fv_232 35).toInt ∧ (fv_232 35).toInt ≤ 80 := hF_fv_232 35
                            exact ih_246 v_260 fv_232 ar_234 wd_236 _ _ ls (by omega) (iv_w t_261.2 (by decide) (by decide)) hF_fv_232 (fM_call (fM_rf [8, 36, 66] _) fr_233 (by decide)) hA_ar_234 (fA_call (fA_rf [4, 16, 24, 64, 65, 68, 75, 76, 77, 78, 79, 80] _) fa_235 (by decide)) hp_237 hp_238 hp_239 hp_240 hp_241 hp_242 hp_243 (by rw [show v_260.toInt.toNat = (x_231.toInt.toNat) + 1 from by omega]; show _ = mo_mt1 (mm_D w9 fv ar) G9 (mo_A (mm_D w9 fv ar) (mm_W fv ar)) ((fv 32).toInt.toNat) (fv 85).toInt (mo_fo (mo_mt1 (mm_D w9 fv ar) G9 (mo_A (mm_D w9 fv ar) (mm_W fv ar)) ((fv 32).toInt.toNat) (fv 85).toInt) (mm_T fv_108 ar_110) (x_231.toInt.toNat)) (x_231.toInt.toNat); rw [← q_244]; unfold mo_mt1; have hm9 : (mm_D w9 fv ar) 14 (x_231.toInt.toNat) = v_255 := (by show ar 28 (x_231.toInt.toNat) = _; exact ((show v_255 = ar 28 (x_231.toInt.toNat) from by rw [ev_255, show ar_234 28 = ar 28 from ((fA_call (fA_call (fA_call (fA_call (fA_rf [4, 15, 16, 18, 24, 64, 65, 68, 69, 70, 71, 72, 74, 75, 76, 77, 78, 79, 80, 82] _) fa_3 (by decide)) fa_39 (by decide)) fa_111 (by decide)) fa_235 (by decide)) 28 rfl)]; exact congrArg (ar 28) (show x_231.toInt.toNat = (x_231.toInt.toNat) from by omega))).symm); rw [mo_ii_n (fun w => by have w1 := w.1; rw [hm9] at w1; omega)]) (by have h32 := (show (0 : Int) ≤ (fv 35).toInt ∧ (fv 35).toInt ≤ 80 from hF_fv 35); omega) hP hS (lv_sub hl [1, 0] rfl)
                          · skip
                            have i_263 : 0 ≤ (fv 85).toInt ∧ (fv 85).toInt ≤ 719 := iv_eq1 i_256 c_258.symm
                            have k_264 := congrArg Int32.toInt c_258
                            refine lv_aload_n hx hb dX12_step_227 rfl (lv_at hl 0 rfl) ?_
                            refine lv_iload_n hx hb dX12_step_228 rfl (lv_at hl 1 rfl) ?_
                            refine va_calli (va_runV (As := [.int x_231]) (rest := []) ⟨hx, hb, hml, hown, hts⟩ (m_runsTodayE l dC dI H.size h ad cA hd fv_232 wd_236 ar_234 hF_fv_232 hA_ar_234 w9 x_231 i_252) (cwV 1 hts (gV kw_8_180 kw_8_182 kw_p_85 kw_1_15 kw_8_183) rfl rfl rfl (by decide +kernel) ⟨Nat.le_of_ble_eq_true rfl, Nat.le_of_ble_eq_true rfl⟩) ⟨fun a U g mk q => ⟨q.1, q.2.1, q.2.2.1, va_K.moved (u := U) (U := U.calling g mk a) (Vm.Alike.refl U.vm) q.2.2.2⟩, va_recv hK hP (ci := 12) (q0 := 0) rfl rfl, fun U hU hW => ⟨rfl, by rw [hU], by rw [hU]; exact hP, va_K.moved hW.alike hK⟩⟩ rfl rfl hl.1 rfl (lv_room (Nat.le_of_ble_eq_true rfl)) dX12_step_229 ⟨Nat.le_of_ble_eq_true rfl, Nat.le_of_ble_eq_true rfl⟩) hS (fun q _ h9 => aM_up hS q h9) (aM_up hS) (fun r_265 u t H1 locs ht _ hw hB _ hk1 hS => ?_)
                            obtain ⟨fv_268, wd_269, ar_270⟩ := u
                            obtain ⟨hF_fv_268, hA_ar_270, fr_271, fa_272, p_266, p_267, -⟩ := hw
                            have hP : va_P (dC, dI) vwCl (wsM h ad cA fv_268 wd_269 ar_270) H1 := by have h9 := hB.1; rw [ht] at h9; exact h9
                            have fr_271 : fM [] fv_232 fv_268 := fr_271
                            have fa_272 : fA [] ar_234 ar_270 := fa_272
                            generalize H1 = H at hP hS ⊢
                            rcases p_267 with ⟨rfl, p_267⟩ | ⟨rfl, p_267⟩
                            · skip
                              have q_273 : ¬ mo_gt (mm_D w9 fv_232 ar_234) (x_231.toInt.toNat) := p_267
                              refine lv_if_eq (tgt := 240) hx hb dX12_step_232 (by decide) (fun c_274 => ?_) (fun c_274 => ?_)
                              · skip
                                obtain ⟨v_275, ev_275⟩ : ∃ z : Int32, z = x_231 + 1 := ⟨_, rfl⟩
                                refine lv_iinc (v := v_275) (lv' := [(1, .int v_275), (0, .ref h)]) hx hb dX12_step_240 hl (k := 1) rfl (by rw [ev_275]; rfl) (by decide) rfl (fun ls hl => ?_)
                                have t_276 : v_275.toInt = x_231.toInt + 1 ∧ 1 ≤ v_275.toInt ∧ v_275.toInt ≤ 80 := iv_addc ev_275 i_252 (by decide) (by decide) (by decide)
                                refine lv_goto (tgt := 206) hx hb dX12_step_243 (by decide) ?_
                                have z_378 : (fv_268 35).toInt = (fv 35).toInt := congrArg Int32.toInt ((fr_271 35 rfl).trans ((fr_233 35 rfl).trans ((fr_109 35 rfl).trans ((fr_37 35 rfl)))))
                                have z_379 : 0 ≤ (fv_268 35).toInt ∧ (fv_268 35).toInt ≤ 80 := hF_fv_268 35
                                exact ih_246 v_275 fv_268 ar_270 wd_269 _ _ ls (by omega) (iv_w t_276.2 (by decide) (by decide)) hF_fv_268 (fM_call (fM_call (fM_rf [8, 36, 66] _) fr_233 (by decide)) fr_271 (by decide)) hA_ar_270 (fA_call (fA_call (fA_rf [4, 16, 24, 64, 65, 68, 75, 76, 77, 78, 79, 80] _) fa_235 (by decide)) fa_272 (by decide)) (mF_fr hp_237 (fM_call (fM_rf [] _) fr_271 (by decide)) (fA_call (fA_rf [] _) fa_272 (by decide)) rfl rfl) (mm_c_fr hp_238 (fM_call (fM_rf [] _) fr_271 (by decide)) (fA_call (fA_rf [] _) fa_272 (by decide)) rfl rfl) (mm_9_fr hp_239 (fM_call (fM_rf [] _) fr_271 (by decide)) (fA_call (fA_rf [] _) fa_272 (by decide)) rfl rfl) (mm_L_fr hp_240 (fM_call (fM_rf [] _) fr_271 (by decide)) (fA_call (fA_rf [] _) fa_272 (by decide)) rfl rfl rfl rfl rfl rfl rfl rfl rfl rfl) (mm_R_fr hp_241 (fM_call (fM_rf [] _) fr_271 (by decide)) (fA_call (fA_rf [] _) fa_272 (by decide)) rfl rfl rfl rfl rfl rfl rfl rfl rfl rfl rfl) (sW_fr hp_242 (fA_call (fA_rf [] _) fa_272 (by decide)) rfl rfl) (vM_fr hp_243 (fM_call (fM_rf [] _) fr_271 (by decide)) (fA_call (fA_rf [] _) fa_272 (by decide)) rfl rfl rfl rfl rfl) (by rw [show v_275.toInt.toNat = (x_231.toInt.toNat) + 1 from by omega]; show _ = mo_mt1 (mm_D w9 fv ar) G9 (mo_A (mm_D w9 fv ar) (mm_W fv ar)) ((fv 32).toInt.toNat) (fv 85).toInt (mo_fo (mo_mt1 (mm_D w9 fv ar) G9 (mo_A (mm_D w9 fv ar) (mm_W fv ar)) ((fv 32).toInt.toNat) (fv 85).toInt) (mm_T fv_108 ar_110) (x_231.toInt.toNat)) (x_231.toInt.toNat); rw [← q_244]; unfold mo_mt1; have hm9 : (mm_D w9 fv ar) 14 (x_231.toInt.toNat) = v_255 := (by show ar 28 (x_231.toInt.toNat) = _; exact ((show v_255 = ar 28 (x_231.toInt.toNat) from by rw [ev_255, show ar_234 28 = ar 28 from ((fA_call (fA_call (fA_call (fA_call (fA_rf [4, 15, 16, 18, 24, 64, 65, 68, 69, 70, 71, 72, 74, 75, 76, 77, 78, 79, 80, 82] _) fa_3 (by decide)) fa_39 (by decide)) fa_111 (by decide)) fa_235 (by decide)) 28 rfl)]; exact congrArg (ar 28) (show x_231.toInt.toNat = (x_231.toInt.toNat) from by omega))).symm); rw [mo_ii_n (fun w => absurd w.2 (by have h9 := q_273; rw [show mm_D w9 fv_232 ar_234 = mm_D w9 fv ar from (mm_D_fr (fM_call (fM_call (fM_call (fM_rf [8, 36, 66] _) fr_37 (by decide)) fr_109 (by decide)) fr_233 (by decide)) (fA_call (fA_call (fA_call (fA_call (fA_rf [4, 15, 16, 18, 24, 64, 65, 68, 69, 70, 71, 72, 74, 75, 76, 77, 78, 79, 80, 82] _) fa_3 (by decide)) fa_39 (by decide)) fa_111 (by decide)) fa_235 (by decide)) rfl rfl)] at h9; exact h9))]; exact (mm_T_fr (fM_call (fM_rf [] _) fr_271 (by decide)) (fA_call (fA_rf [] _) fa_272 (by decide)) rfl rfl)) (by have h32 := (show (0 : Int) ≤ (fv 35).toInt ∧ (fv 35).toInt ≤ 80 from hF_fv 35); omega) hP hS (lv_sub hl [1, 0] rfl)
                              · skip
                                exact absurd c_274 (by decide)
                            · skip
                              have q_278 : mo_gt (mm_D w9 fv_232 ar_234) (x_231.toInt.toNat) := p_267
                              refine lv_if_eq (tgt := 240) hx hb dX12_step_232 (by decide) (fun c_279 => ?_) (fun c_279 => ?_)
                              · skip
                                exact absurd c_279 (by decide)
                              · skip
                                refine lv_aload_n hx hb dX12_step_235 rfl (lv_at hl 0 rfl) ?_
                                refine lv_iload_n hx hb dX12_step_236 rfl (lv_at hl 1 rfl) ?_
                                have z_280 : (fv_268 34).toInt = (fv 34).toInt := congrArg Int32.toInt ((fr_271 34 rfl).trans ((fr_233 34 rfl).trans ((fr_109 34 rfl).trans ((fr_37 34 rfl)))))
                                have z_281 : 0 ≤ (fv_268 34).toInt ∧ (fv_268 34).toInt ≤ 20 := hF_fv_268 34
                                have z_282 : (fv_268 32).toInt = (fv 32).toInt := congrArg Int32.toInt ((fr_271 32 rfl).trans ((fr_233 32 rfl).trans ((fr_109 32 rfl).trans ((fr_37 32 rfl)))))
                                have z_283 : 0 ≤ (fv_268 32).toInt ∧ (fv_268 32).toInt ≤ 40 := hF_fv_268 32
                                have z_284 : (fv_268 85).toInt = (fv 85).toInt := congrArg Int32.toInt ((fr_271 85 rfl).trans ((fr_233 85 rfl).trans ((fr_109 85 rfl).trans ((fr_37 85 rfl)))))
                                have z_285 : 0 ≤ (fv_268 85).toInt ∧ (fv_268 85).toInt ≤ 840 := hF_fv_268 85
                                refine va_callv (va_runV (As := [.int x_231]) (rest := []) ⟨hx, hb, hml, hown, hts⟩ (m_leaveE l dC dI H.size h ad cA hd fv_268 wd_269 ar_270 hF_fv_268 hA_ar_270 G9 w9 x_231 i_252 (by rw [show ar_270 25 = ar 25 from ((fA_call (fA_call (fA_call (fA_call (fA_call (fA_rf [4, 15, 16, 18, 24, 64, 65, 68, 69, 70, 71, 72, 74, 75, 76, 77, 78, 79, 80, 82] _) fa_3 (by decide)) fa_39 (by decide)) fa_111 (by decide)) fa_235 (by decide)) fa_272 (by decide)) 25 rfl), show fv_268 34 = fv 34 from ((fM_call (fM_call (fM_call (fM_call (fM_rf [8, 36, 66] _) fr_37 (by decide)) fr_109 (by decide)) fr_233 (by decide)) fr_271 (by decide)) 34 rfl)]; exact (hwh (x_231.toInt.toNat) (by show (x_231.toInt.toNat) < (fv 35).toInt.toNat; omega)).2) (sW_fr hp_242 (fA_call (fA_rf [] _) fa_272 (by decide)) rfl rfl) (vM_fr hp_243 (fM_call (fM_rf [] _) fr_271 (by decide)) (fA_call (fA_rf [] _) fa_272 (by decide)) rfl rfl rfl rfl rfl) (mm_R_fr hp_241 (fM_call (fM_rf [] _) fr_271 (by decide)) (fA_call (fA_rf [] _) fa_272 (by decide)) rfl rfl rfl rfl rfl rfl rfl rfl rfl rfl rfl) (mm_L_fr hp_240 (fM_call (fM_rf [] _) fr_271 (by decide)) (fA_call (fA_rf [] _) fa_272 (by decide)) rfl rfl rfl rfl rfl rfl rfl rfl rfl rfl) (mm_9_fr hp_239 (fM_call (fM_rf [] _) fr_271 (by decide)) (fA_call (fA_rf [] _) fa_272 (by decide)) rfl rfl) (mF_fr hp_237 (fM_call (fM_rf [] _) fr_271 (by decide)) (fA_call (fA_rf [] _) fa_272 (by decide)) rfl rfl)) (cwV 1 hts (gV kw_8_224 kw_8_226 kw_p_96 kw_1_15 kw_8_227) rfl rfl rfl (by decide +kernel) ⟨Nat.le_of_ble_eq_true rfl, Nat.le_of_ble_eq_true rfl⟩) ⟨fun a U g mk q => ⟨q.1, q.2.1, q.2.2.1, va_K.moved (u := U) (U := U.calling g mk a) (Vm.Alike.refl U.vm) q.2.2.2⟩, va_recv hK hP (ci := 12) (q0 := 0) rfl rfl, fun U hU hW => ⟨rfl, by rw [hU], by rw [hU]; exact hP, va_K.moved hW.alike hK⟩⟩ rfl rfl hl.1 rfl (lv_room (Nat.le_of_ble_eq_true rfl)) dX12_step_237 ⟨Nat.le_of_ble_eq_true rfl, Nat.le_of_ble_eq_true rfl⟩) hS (fun q _ h9 => aM_up hS q h9) (aM_up hS) (fun u t H1 locs ht _ hw hB _ hk1 hS => ?_)
                                obtain ⟨fv_291, wd_292, ar_293⟩ := u
                                obtain ⟨hF_fv_291, hA_ar_293, fr_294, fa_295, p_287, p_288, p_289, p_290, -⟩ := hw
                                have hP : va_P (dC, dI) vwCl (wsM h ad cA fv_291 wd_292 ar_293) H1 := by have h9 := hB.1; rw [ht] at h9; exact h9
                                have fr_294 : fM [8, 36, 66] fv_268 fv_291 := fr_294
                                have fa_295 : fA [4, 16, 24, 64, 65, 68, 75, 76, 77, 78, 79, 80] ar_270 ar_293 := fa_295
                                have p_288 : sW ar_293 := p_288
                                have p_289 : mm_9 fv_291 ar_293 := p_289
                                have p_290 : wt_fm G9 (fv_291 8) (ar_293 4) := p_290
                                have p_287 : mm_T fv_291 ar_293 = mo_mlv (mm_D w9 fv_268 ar_270) G9 (mo_A (mm_D w9 fv_268 ar_270) (mm_W fv_268 ar_270)) ((fv_268 32).toInt.toNat) (x_231.toInt.toNat) (fv_268 85).toInt (mm_T fv_268 ar_270) := p_287
                                generalize H1 = H at hP hS ⊢
                                have lv_296 : mm_T fv_291 ar_293 = mo_mlv (mm_D w9 fv ar) G9 (mo_A (mm_D w9 fv ar) (mm_W fv ar)) ((fv 32).toInt.toNat) (x_231.toInt.toNat) (fv 85).toInt (mm_T fv_268 ar_270) := by have h9 := p_287; rw [show mm_D w9 fv_268 ar_270 = mm_D w9 fv ar from (mm_D_fr (fM_call (fM_call (fM_call (fM_call (fM_rf [8, 36, 66] _) fr_37 (by decide)) fr_109 (by decide)) fr_233 (by decide)) fr_271 (by decide)) (fA_call (fA_call (fA_call (fA_call (fA_call (fA_rf [4, 15, 16, 18, 24, 64, 65, 68, 69, 70, 71, 72, 74, 75, 76, 77, 78, 79, 80, 82] _) fa_3 (by decide)) fa_39 (by decide)) fa_111 (by decide)) fa_235 (by decide)) fa_272 (by decide)) rfl rfl), show mm_W fv_268 ar_270 = mm_W fv ar from mm_W_fr (fM_call (fM_call (fM_call (fM_call (fM_rf [8, 36, 66] _) fr_37 (by decide)) fr_109 (by decide)) fr_233 (by decide)) fr_271 (by decide)) (fA_call (fA_call (fA_call (fA_call (fA_call (fA_rf [4, 15, 16, 18, 24, 64, 65, 68, 69, 70, 71, 72, 74, 75, 76, 77, 78, 79, 80, 82] _) fa_3 (by decide)) fa_39 (by decide)) fa_111 (by decide)) fa_235 (by decide)) fa_272 (by decide)) rfl rfl, show fv_268 85 = fv 85 from ((fM_call (fM_call (fM_call (fM_call (fM_rf [8, 36, 66] _) fr_37 (by decide)) fr_109 (by decide)) fr_233 (by decide)) fr_271 (by decide)) 85 rfl), show fv_268 32 = fv 32 from ((fM_call (fM_call (fM_call (fM_call (fM_rf [8, 36, 66] _) fr_37 (by decide)) fr_109 (by decide)) fr_233 (by decide)) fr_271 (by decide)) 32 rfl)] at h9; exact h9
                                obtain ⟨v_297, ev_297⟩ : ∃ z : Int32, z = x_231 + 1 := ⟨_, rfl⟩
                                refine lv_iinc (v := v_297) (lv' := [(1, .int v_297), (0, .ref h)]) hx hb dX12_step_240 hl (k := 1) rfl (by rw [ev_297]; rfl) (by decide) rfl (fun ls hl => ?_)
                                have t_298 : v_297.toInt = x_231.toInt + 1 ∧ 1 ≤ v_297.toInt ∧ v_297.toInt ≤ 80 := iv_addc ev_297 i_252 (by decide) (by decide) (by decide)
                                refine lv_goto (tgt := 206) hx hb dX12_step_243 (by decide) ?_
                                have z_380 : (fv_291 35).toInt = (fv 35).toInt := congrArg Int32.toInt ((fr_294 35 rfl).trans ((fr_271 35 rfl).trans ((fr_233 35 rfl).trans ((fr_109 35 rfl).trans ((fr_37 35 rfl))))))
                                have z_381 : 0 ≤ (fv_291 35).toInt ∧ (fv_291 35).toInt ≤ 80 := hF_fv_291 35
                                exact ih_246 v_297 fv_291 ar_293 wd_292 _ _ ls (by omega) (iv_w t_298.2 (by decide) (by decide)) hF_fv_291 (fM_call (fM_call (fM_call (fM_rf [8, 36, 66] _) fr_233 (by decide)) fr_271 (by decide)) fr_294 (by decide)) hA_ar_293 (fA_call (fA_call (fA_call (fA_rf [4, 16, 24, 64, 65, 68, 75, 76, 77, 78, 79, 80] _) fa_235 (by decide)) fa_272 (by decide)) fa_295 (by decide)) p_290 (mm_c_fr hp_238 (fM_call (fM_call (fM_rf [8, 36, 66] _) fr_271 (by decide)) fr_294 (by decide)) (fA_call (fA_call (fA_rf [4, 16, 24, 64, 65, 68, 75, 76, 77, 78, 79, 80] _) fa_272 (by decide)) fa_295 (by decide)) rfl rfl) p_289 (mm_L_fr hp_240 (fM_call (fM_call (fM_rf [8, 36, 66] _) fr_271 (by decide)) fr_294 (by decide)) (fA_call (fA_call (fA_rf [4, 16, 24, 64, 65, 68, 75, 76, 77, 78, 79, 80] _) fa_272 (by decide)) fa_295 (by decide)) rfl rfl rfl rfl rfl rfl rfl rfl rfl rfl) (mm_R_fr hp_241 (fM_call (fM_call (fM_rf [8, 36, 66] _) fr_271 (by decide)) fr_294 (by decide)) (fA_call (fA_call (fA_rf [4, 16, 24, 64, 65, 68, 75, 76, 77, 78, 79, 80] _) fa_272 (by decide)) fa_295 (by decide)) rfl rfl rfl rfl rfl rfl rfl rfl rfl rfl rfl) p_288 (vM_fr hp_243 (fM_call (fM_call (fM_rf [8, 36, 66] _) fr_271 (by decide)) fr_294 (by decide)) (fA_call (fA_call (fA_rf [4, 16, 24, 64, 65, 68, 75, 76, 77, 78, 79, 80] _) fa_272 (by decide)) fa_295 (by decide)) rfl rfl rfl rfl rfl) (by rw [show v_297.toInt.toNat = (x_231.toInt.toNat) + 1 from by omega]; show _ = mo_mt1 (mm_D w9 fv ar) G9 (mo_A (mm_D w9 fv ar) (mm_W fv ar)) ((fv 32).toInt.toNat) (fv 85).toInt (mo_fo (mo_mt1 (mm_D w9 fv ar) G9 (mo_A (mm_D w9 fv ar) (mm_W fv ar)) ((fv 32).toInt.toNat) (fv 85).toInt) (mm_T fv_108 ar_110) (x_231.toInt.toNat)) (x_231.toInt.toNat); rw [← q_244]; unfold mo_mt1; have hm9 : (mm_D w9 fv ar) 14 (x_231.toInt.toNat) = v_255 := (by show ar 28 (x_231.toInt.toNat) = _; exact ((show v_255 = ar 28 (x_231.toInt.toNat) from by rw [ev_255, show ar_234 28 = ar 28 from ((fA_call (fA_call (fA_call (fA_call (fA_rf [4, 15, 16, 18, 24, 64, 65, 68, 69, 70, 71, 72, 74, 75, 76, 77, 78, 79, 80, 82] _) fa_3 (by decide)) fa_39 (by decide)) fa_111 (by decide)) fa_235 (by decide)) 28 rfl)]; exact congrArg (ar 28) (show x_231.toInt.toNat = (x_231.toInt.toNat) from by omega))).symm); rw [mo_ii_y ⟨by rw [hm9]; omega, (by have h9 := q_278; rw [show mm_D w9 fv_232 ar_234 = mm_D w9 fv ar from (mm_D_fr (fM_call (fM_call (fM_call (fM_rf [8, 36, 66] _) fr_37 (by decide)) fr_109 (by decide)) fr_233 (by decide)) (fA_call (fA_call (fA_call (fA_call (fA_rf [4, 15, 16, 18, 24, 64, 65, 68, 69, 70, 71, 72, 74, 75, 76, 77, 78, 79, 80, 82] _) fa_3 (by decide)) fa_39 (by decide)) fa_111 (by decide)) fa_235 (by decide)) rfl rfl)] at h9; exact h9)⟩]; exact (lv_296.trans (congrArg (fun z9 => (mo_mlv (mm_D w9 fv ar) G9 (mo_A (mm_D w9 fv ar) (mm_W fv ar)) ((fv 32).toInt.toNat) (x_231.toInt.toNat) (fv 85).toInt z9)) (mm_T_fr (fM_call (fM_rf [] _) fr_271 (by decide)) (fA_call (fA_rf [] _) fa_272 (by decide)) rfl rfl)))) (by have h32 := (show (0 : Int) ≤ (fv 35).toInt ∧ (fv 35).toInt ≤ 80 from hF_fv 35); omega) hP hS (lv_sub hl [1, 0] rfl)
                    · skip
                      have z_382 : (0 : Int32).toInt = 0 := by decide
                      have z_383 : (fv_108 35).toInt = (fv 35).toInt := congrArg Int32.toInt ((fr_109 35 rfl).trans ((fr_37 35 rfl)))
                      have z_384 : 0 ≤ (fv_108 35).toInt ∧ (fv_108 35).toInt ≤ 80 := hF_fv_108 35
                      exact hj_248 81 0 fv_108 ar_110 wd_112 _ _ ls (by first | decide | omega) (iv_w (⟨by decide, by decide⟩ : (0 : Int) ≤ (0 : Int32).toInt ∧ (0 : Int32).toInt ≤ 0) (by decide) (by decide)) hF_fv_108 (fM_rf [8, 36, 66] _) hA_ar_110 (fA_rf [4, 16, 24, 64, 65, 68, 75, 76, 77, 78, 79, 80] _) hp_113 hp_114 hp_115 hp_116 hp_117 hp_118 hp_119 (by rw [show (0 : Int32).toInt.toNat = 0 from by decide]; rfl) (by have h32 := (show (0 : Int) ≤ (fv 35).toInt ∧ (fv 35).toInt ≤ 80 from hF_fv 35); omega) hP hS (lv_sub hl [1, 0] rfl)
                  · skip
                    have i_127 : 0 ≤ x_107.toInt ∧ x_107.toInt ≤ 39 := iv_lt1 i_x_107 i_53 (Int32.not_le.mp c_125)
                    have i_128 : 1 ≤ (fv 32).toInt ∧ (fv 32).toInt ≤ 40 := iv_lt2 i_x_107 i_53 (Int32.not_le.mp c_125)
                    have k_129 := Int32.lt_iff_toInt_lt.mp (Int32.not_le.mp c_125)
                    refine lv_aload_n hx hb dX12_step_126 rfl (lv_at hl 0 rfl) ?_
                    refine gM_68 hx hb htg hown hK hP dX12_step_127 ?_
                    refine lv_iload_n hx hb dX12_step_130 rfl (lv_at hl 1 rfl) ?_
                    refine lM_68 hx hb hK hP (iv_in i_127 (by decide) (by decide)) dX12_step_131 (fun v_130 ev_130 => ?_)
                    refine lv_if_ne (tgt := 160) hx hb dX12_step_132 (by decide) (fun c_131 => ?_) (fun c_131 => ?_)
                    · skip
                      have k_132 : ¬ v_130.toInt = 0 := fun q => c_131 (Int32.toInt_inj.mp q)
                      refine lv_aload_n hx hb dX12_step_160 rfl (lv_at hl 0 rfl) ?_
                      refine gM_68 hx hb htg hown hK hP dX12_step_161 ?_
                      refine lv_iload_n hx hb dX12_step_164 rfl (lv_at hl 1 rfl) ?_
                      refine lM_68 hx hb hK hP (iv_in i_127 (by decide) (by decide)) dX12_step_165 (fun v_133 ev_133 => ?_)
                      obtain rfl : v_130 = v_133 := ev_130.trans ev_133.symm
                      refine lv_iconst (v := 1) hx hb dX12_step_166 (by decide) ?_
                      refine lv_icmp_eq (tgt := 180) hx hb dX12_step_167 (by decide) (fun c_134 => ?_) (fun c_134 => ?_)
                      · skip
                        have i_135 : 1 ≤ v_130.toInt ∧ v_130.toInt ≤ 1 := iv_eq1 (⟨by decide, by decide⟩ : (1 : Int) ≤ (1 : Int32).toInt ∧ (1 : Int32).toInt ≤ 1) c_134
                        refine lv_aload_n hx hb dX12_step_180 rfl (lv_at hl 0 rfl) ?_
                        refine gM_70 hx hb htg hown hK hP dX12_step_181 ?_
                        refine lv_iload_n hx hb dX12_step_184 rfl (lv_at hl 1 rfl) ?_
                        refine lM_70 hx hb hK hP (iv_in i_127 (by decide) (by decide)) dX12_step_185 (fun v_137 ev_137 => ?_)
                        refine lv_aload_n hx hb dX12_step_186 rfl (lv_at hl 0 rfl) ?_
                        refine gM_85 hx hb htg hown hK hP dX12_step_187 ?_
                        refine my_ti (y := fv 85) ((fr_109 85 rfl).trans ((fr_37 85 rfl))) ?_
                        have i_138 : 0 ≤ (fv 85).toInt ∧ (fv 85).toInt ≤ 840 := hF_fv 85
                        refine lv_icmp_ne (tgt := 198) hx hb dX12_step_190 (by decide) (fun c_139 => ?_) (fun c_139 => ?_)
                        · skip
                          have k_140 : ¬ v_137.toInt = (fv 85).toInt := fun q => c_139 (Int32.toInt_inj.mp q)
                          obtain ⟨v_141, ev_141⟩ : ∃ z : Int32, z = x_107 + 1 := ⟨_, rfl⟩
                          refine lv_iinc (v := v_141) (lv' := [(1, .int v_141), (0, .ref h)]) hx hb dX12_step_198 hl (k := 1) rfl (by rw [ev_141]; rfl) (by decide) rfl (fun ls hl => ?_)
                          have t_142 : v_141.toInt = x_107.toInt + 1 ∧ 1 ≤ v_141.toInt ∧ v_141.toInt ≤ 40 := iv_addc ev_141 i_127 (by decide) (by decide) (by decide)
                          refine lv_goto (tgt := 118) hx hb dX12_step_201 (by decide) ?_
                          have z_385 : (fv_108 32).toInt = (fv 32).toInt := congrArg Int32.toInt ((fr_109 32 rfl).trans ((fr_37 32 rfl)))
                          have z_386 : 0 ≤ (fv_108 32).toInt ∧ (fv_108 32).toInt ≤ 40 := hF_fv_108 32
                          exact ih_122 v_141 fv_108 ar_110 wd_112 _ _ ls (by omega) (iv_w t_142.2 (by decide) (by decide)) hF_fv_108 (fM_call (fM_rf [8] _) fr_109 (by decide)) hA_ar_110 (fA_call (fA_rf [4, 15, 18, 68, 69, 70, 71, 72, 74, 82] _) fa_111 (by decide)) hp_113 hp_114 hp_115 hp_116 hp_117 hp_118 hp_119 (by rw [show v_141.toInt.toNat = (x_107.toInt.toNat) + 1 from by omega]; show _ = mo_mh1 (mm_D w9 fv ar) G9 (fv 85).toInt (mo_fo (mo_mh1 (mm_D w9 fv ar) G9 (fv 85).toInt) (mm_T fv_36 ar_38) (x_107.toInt.toNat)) (x_107.toInt.toNat); rw [← q_120]; unfold mo_mh1; have hs6 : mm_T fv_108 ar_110 6 (x_107.toInt.toNat) = v_130 := (by show ar_110 68 (x_107.toInt.toNat) = _; exact ((show v_130 = ar_110 68 (x_107.toInt.toNat) from by rw [ev_130]; exact congrArg (ar_110 68) (show x_107.toInt.toNat = (x_107.toInt.toNat) from by omega))).symm); have hs15 : mm_T fv_108 ar_110 15 (x_107.toInt.toNat) = v_137 := (by show ar_110 70 (x_107.toInt.toNat) = _; exact ((show v_137 = ar_110 70 (x_107.toInt.toNat) from by rw [ev_137]; exact congrArg (ar_110 70) (show x_107.toInt.toNat = (x_107.toInt.toNat) from by omega))).symm); rw [hs6, if_neg (fun w => by obtain ⟨w1, w2⟩ := w; omega), hs15, if_neg (fun w => by obtain ⟨w1, w2⟩ := w; omega)]) (by have h32 := (show (0 : Int) ≤ (fv 32).toInt ∧ (fv 32).toInt ≤ 40 from hF_fv 32); omega) hP hS (lv_sub hl [1, 0] rfl)
                        · skip
                          have i_144 : 0 ≤ v_137.toInt ∧ v_137.toInt ≤ 840 := iv_eq1 i_138 c_139
                          have k_145 := congrArg Int32.toInt c_139
                          refine lv_aload_n hx hb dX12_step_193 rfl (lv_at hl 0 rfl) ?_
                          refine lv_iload_n hx hb dX12_step_194 rfl (lv_at hl 1 rfl) ?_
                          have z_146 : (fv_108 85).toInt = (fv 85).toInt := congrArg Int32.toInt ((fr_109 85 rfl).trans ((fr_37 85 rfl)))
                          have z_147 : 0 ≤ (fv_108 85).toInt ∧ (fv_108 85).toInt ≤ 840 := hF_fv_108 85
                          refine va_callv (va_runV (As := [.int x_107]) (rest := []) ⟨hx, hb, hml, hown, hts⟩ (m_arriveE l dC dI H.size h ad cA hd fv_108 wd_112 ar_110 hF_fv_108 hA_ar_110 G9 x_107 i_127 hp_118 hp_117 hp_114) (cwV 1 hts (gV kw_8_220 kw_8_222 kw_p_95 kw_1_15 kw_8_223) rfl rfl rfl (by decide +kernel) ⟨Nat.le_of_ble_eq_true rfl, Nat.le_of_ble_eq_true rfl⟩) ⟨fun a U g mk q => ⟨q.1, q.2.1, q.2.2.1, va_K.moved (u := U) (U := U.calling g mk a) (Vm.Alike.refl U.vm) q.2.2.2⟩, va_recv hK hP (ci := 12) (q0 := 0) rfl rfl, fun U hU hW => ⟨rfl, by rw [hU], by rw [hU]; exact hP, va_K.moved hW.alike hK⟩⟩ rfl rfl hl.1 rfl (lv_room (Nat.le_of_ble_eq_true rfl)) dX12_step_195 ⟨Nat.le_of_ble_eq_true rfl, Nat.le_of_ble_eq_true rfl⟩) hS (fun q _ h9 => aM_up hS q h9) (aM_up hS) (fun u t H1 locs ht _ hw hB _ hk1 hS => ?_)
                          obtain ⟨fv_152, wd_153, ar_154⟩ := u
                          obtain ⟨hF_fv_152, hA_ar_154, fr_155, fa_156, p_149, p_150, p_151, -⟩ := hw
                          have hP : va_P (dC, dI) vwCl (wsM h ad cA fv_152 wd_153 ar_154) H1 := by have h9 := hB.1; rw [ht] at h9; exact h9
                          have fr_155 : fM [] fv_108 fv_152 := fr_155
                          have fa_156 : fA [68, 72] ar_110 ar_154 := fa_156
                          have p_150 : sW ar_154 := p_150
                          have p_151 : mm_c fv_152 ar_154 := p_151
                          have p_149 : mm_T fv_152 ar_154 = mo_ar (mm_T fv_108 ar_110) (x_107.toInt.toNat) (fv_108 85).toInt := p_149
                          generalize H1 = H at hP hS ⊢
                          have ar9_157 : mm_T fv_152 ar_154 = mo_ar (mm_T fv_108 ar_110) (x_107.toInt.toNat) (fv 85).toInt := by have h9 := p_149; rw [show fv_108 85 = fv 85 from ((fM_call (fM_call (fM_rf [8] _) fr_37 (by decide)) fr_109 (by decide)) 85 rfl)] at h9; exact h9
                          obtain ⟨v_158, ev_158⟩ : ∃ z : Int32, z = x_107 + 1 := ⟨_, rfl⟩
                          refine lv_iinc (v := v_158) (lv' := [(1, .int v_158), (0, .ref h)]) hx hb dX12_step_198 hl (k := 1) rfl (by rw [ev_158]; rfl) (by decide) rfl (fun ls hl => ?_)
                          have t_159 : v_158.toInt = x_107.toInt + 1 ∧ 1 ≤ v_158.toInt ∧ v_158.toInt ≤ 40 := iv_addc ev_158 i_127 (by decide) (by decide) (by decide)
                          refine lv_goto (tgt := 118) hx hb dX12_step_201 (by decide) ?_
                          have z_387 : (fv_152 32).toInt = (fv 32).toInt := congrArg Int32.toInt ((fr_155 32 rfl).trans ((fr_109 32 rfl).trans ((fr_37 32 rfl))))
                          have z_388 : 0 ≤ (fv_152 32).toInt ∧ (fv_152 32).toInt ≤ 40 := hF_fv_152 32
                          exact ih_122 v_158 fv_152 ar_154 wd_153 _ _ ls (by omega) (iv_w t_159.2 (by decide) (by decide)) hF_fv_152 (fM_call (fM_call (fM_rf [8] _) fr_109 (by decide)) fr_155 (by decide)) hA_ar_154 (fA_call (fA_call (fA_rf [4, 15, 18, 68, 69, 70, 71, 72, 74, 82] _) fa_111 (by decide)) fa_156 (by decide)) (mF_fr hp_113 (fM_call (fM_rf [] _) fr_155 (by decide)) (fA_call (fA_rf [68, 72] _) fa_156 (by decide)) rfl rfl) p_151 (mm_9_fr hp_115 (fM_call (fM_rf [] _) fr_155 (by decide)) (fA_call (fA_rf [68, 72] _) fa_156 (by decide)) rfl rfl) (mm_L_fr hp_116 (fM_call (fM_rf [] _) fr_155 (by decide)) (fA_call (fA_rf [68, 72] _) fa_156 (by decide)) rfl rfl rfl rfl rfl rfl rfl rfl rfl rfl) (mm_R_fr hp_117 (fM_call (fM_rf [] _) fr_155 (by decide)) (fA_call (fA_rf [68, 72] _) fa_156 (by decide)) rfl rfl rfl rfl rfl rfl rfl rfl rfl rfl rfl) p_150 (vM_fr hp_119 (fM_call (fM_rf [] _) fr_155 (by decide)) (fA_call (fA_rf [68, 72] _) fa_156 (by decide)) rfl rfl rfl rfl rfl) (by rw [show v_158.toInt.toNat = (x_107.toInt.toNat) + 1 from by omega]; show _ = mo_mh1 (mm_D w9 fv ar) G9 (fv 85).toInt (mo_fo (mo_mh1 (mm_D w9 fv ar) G9 (fv 85).toInt) (mm_T fv_36 ar_38) (x_107.toInt.toNat)) (x_107.toInt.toNat); rw [← q_120]; unfold mo_mh1; have hs6 : mm_T fv_108 ar_110 6 (x_107.toInt.toNat) = v_130 := (by show ar_110 68 (x_107.toInt.toNat) = _; exact ((show v_130 = ar_110 68 (x_107.toInt.toNat) from by rw [ev_130]; exact congrArg (ar_110 68) (show x_107.toInt.toNat = (x_107.toInt.toNat) from by omega))).symm); have hs15 : mm_T fv_108 ar_110 15 (x_107.toInt.toNat) = v_137 := (by show ar_110 70 (x_107.toInt.toNat) = _; exact ((show v_137 = ar_110 70 (x_107.toInt.toNat) from by rw [ev_137]; exact congrArg (ar_110 70) (show x_107.toInt.toNat = (x_107.toInt.toNat) from by omega))).symm); rw [hs6, if_neg (fun w => by obtain ⟨w1, w2⟩ := w; omega), hs15, if_pos ⟨by omega, by omega⟩]; exact ar9_157) (by have h32 := (show (0 : Int) ≤ (fv 32).toInt ∧ (fv 32).toInt ≤ 40 from hF_fv 32); omega) hP hS (lv_sub hl [1, 0] rfl)
                      · skip
                        have k_161 : ¬ v_130.toInt = 1 := fun q => c_134 (Int32.toInt_inj.mp q)
                        refine lv_aload_n hx hb dX12_step_170 rfl (lv_at hl 0 rfl) ?_
                        refine gM_68 hx hb htg hown hK hP dX12_step_171 ?_
                        refine lv_iload_n hx hb dX12_step_174 rfl (lv_at hl 1 rfl) ?_
                        refine lM_68 hx hb hK hP (iv_in i_127 (by decide) (by decide)) dX12_step_175 (fun v_162 ev_162 => ?_)
                        obtain rfl : v_130 = v_162 := ev_130.trans ev_162.symm
                        refine lv_iconst (v := 4) hx hb dX12_step_176 (by decide) ?_
                        refine lv_icmp_ne (tgt := 198) hx hb dX12_step_177 (by decide) (fun c_163 => ?_) (fun c_163 => ?_)
                        · skip
                          have k_164 : ¬ v_130.toInt = 4 := fun q => c_163 (Int32.toInt_inj.mp q)
                          obtain ⟨v_165, ev_165⟩ : ∃ z : Int32, z = x_107 + 1 := ⟨_, rfl⟩
                          refine lv_iinc (v := v_165) (lv' := [(1, .int v_165), (0, .ref h)]) hx hb dX12_step_198 hl (k := 1) rfl (by rw [ev_165]; rfl) (by decide) rfl (fun ls hl => ?_)
                          have t_166 : v_165.toInt = x_107.toInt + 1 ∧ 1 ≤ v_165.toInt ∧ v_165.toInt ≤ 40 := iv_addc ev_165 i_127 (by decide) (by decide) (by decide)
                          refine lv_goto (tgt := 118) hx hb dX12_step_201 (by decide) ?_
                          have z_389 : (fv_108 32).toInt = (fv 32).toInt := congrArg Int32.toInt ((fr_109 32 rfl).trans ((fr_37 32 rfl)))
                          have z_390 : 0 ≤ (fv_108 32).toInt ∧ (fv_108 32).toInt ≤ 40 := hF_fv_108 32
                          exact ih_122 v_165 fv_108 ar_110 wd_112 _ _ ls (by omega) (iv_w t_166.2 (by decide) (by decide)) hF_fv_108 (fM_call (fM_rf [8] _) fr_109 (by decide)) hA_ar_110 (fA_call (fA_rf [4, 15, 18, 68, 69, 70, 71, 72, 74, 82] _) fa_111 (by decide)) hp_113 hp_114 hp_115 hp_116 hp_117 hp_118 hp_119 (by rw [show v_165.toInt.toNat = (x_107.toInt.toNat) + 1 from by omega]; show _ = mo_mh1 (mm_D w9 fv ar) G9 (fv 85).toInt (mo_fo (mo_mh1 (mm_D w9 fv ar) G9 (fv 85).toInt) (mm_T fv_36 ar_38) (x_107.toInt.toNat)) (x_107.toInt.toNat); rw [← q_120]; unfold mo_mh1; have hs6 : mm_T fv_108 ar_110 6 (x_107.toInt.toNat) = v_130 := (by show ar_110 68 (x_107.toInt.toNat) = _; exact ((show v_130 = ar_110 68 (x_107.toInt.toNat) from by rw [ev_130]; exact congrArg (ar_110 68) (show x_107.toInt.toNat = (x_107.toInt.toNat) from by omega))).symm); rw [hs6, if_neg (fun w => by obtain ⟨w1, w2⟩ := w; omega), if_neg (fun w => by obtain ⟨w1, w2⟩ := w; omega)]) (by have h32 := (show (0 : Int) ≤ (fv 32).toInt ∧ (fv 32).toInt ≤ 40 from hF_fv 32); omega) hP hS (lv_sub hl [1, 0] rfl)
                        · skip
                          have i_168 : 4 ≤ v_130.toInt ∧ v_130.toInt ≤ 4 := iv_eq1 (⟨by decide, by decide⟩ : (4 : Int) ≤ (4 : Int32).toInt ∧ (4 : Int32).toInt ≤ 4) c_163
                          refine lv_aload_n hx hb dX12_step_180 rfl (lv_at hl 0 rfl) ?_
                          refine gM_70 hx hb htg hown hK hP dX12_step_181 ?_
                          refine lv_iload_n hx hb dX12_step_184 rfl (lv_at hl 1 rfl) ?_
                          refine lM_70 hx hb hK hP (iv_in i_127 (by decide) (by decide)) dX12_step_185 (fun v_170 ev_170 => ?_)
                          refine lv_aload_n hx hb dX12_step_186 rfl (lv_at hl 0 rfl) ?_
                          refine gM_85 hx hb htg hown hK hP dX12_step_187 ?_
                          refine my_ti (y := fv 85) ((fr_109 85 rfl).trans ((fr_37 85 rfl))) ?_
                          have i_171 : 0 ≤ (fv 85).toInt ∧ (fv 85).toInt ≤ 840 := hF_fv 85
                          refine lv_icmp_ne (tgt := 198) hx hb dX12_step_190 (by decide) (fun c_172 => ?_) (fun c_172 => ?_)
                          · skip
                            have k_173 : ¬ v_170.toInt = (fv 85).toInt := fun q => c_172 (Int32.toInt_inj.mp q)
                            obtain ⟨v_174, ev_174⟩ : ∃ z : Int32, z = x_107 + 1 := ⟨_, rfl⟩
                            refine lv_iinc (v := v_174) (lv' := [(1, .int v_174), (0, .ref h)]) hx hb dX12_step_198 hl (k := 1) rfl (by rw [ev_174]; rfl) (by decide) rfl (fun ls hl => ?_)
                            have t_175 : v_174.toInt = x_107.toInt + 1 ∧ 1 ≤ v_174.toInt ∧ v_174.toInt ≤ 40 := iv_addc ev_174 i_127 (by decide) (by decide) (by decide)
                            refine lv_goto (tgt := 118) hx hb dX12_step_201 (by decide) ?_
                            have z_391 : (fv_108 32).toInt = (fv 32).toInt := congrArg Int32.toInt ((fr_109 32 rfl).trans ((fr_37 32 rfl)))
                            have z_392 : 0 ≤ (fv_108 32).toInt ∧ (fv_108 32).toInt ≤ 40 := hF_fv_108 32
                            exact ih_122 v_174 fv_108 ar_110 wd_112 _ _ ls (by omega) (iv_w t_175.2 (by decide) (by decide)) hF_fv_108 (fM_call (fM_rf [8] _) fr_109 (by decide)) hA_ar_110 (fA_call (fA_rf [4, 15, 18, 68, 69, 70, 71, 72, 74, 82] _) fa_111 (by decide)) hp_113 hp_114 hp_115 hp_116 hp_117 hp_118 hp_119 (by rw [show v_174.toInt.toNat = (x_107.toInt.toNat) + 1 from by omega]; show _ = mo_mh1 (mm_D w9 fv ar) G9 (fv 85).toInt (mo_fo (mo_mh1 (mm_D w9 fv ar) G9 (fv 85).toInt) (mm_T fv_36 ar_38) (x_107.toInt.toNat)) (x_107.toInt.toNat); rw [← q_120]; unfold mo_mh1; have hs6 : mm_T fv_108 ar_110 6 (x_107.toInt.toNat) = v_130 := (by show ar_110 68 (x_107.toInt.toNat) = _; exact ((show v_130 = ar_110 68 (x_107.toInt.toNat) from by rw [ev_130]; exact congrArg (ar_110 68) (show x_107.toInt.toNat = (x_107.toInt.toNat) from by omega))).symm); have hs15 : mm_T fv_108 ar_110 15 (x_107.toInt.toNat) = v_170 := (by show ar_110 70 (x_107.toInt.toNat) = _; exact ((show v_170 = ar_110 70 (x_107.toInt.toNat) from by rw [ev_170]; exact congrArg (ar_110 70) (show x_107.toInt.toNat = (x_107.toInt.toNat) from by omega))).symm); rw [hs6, if_neg (fun w => by obtain ⟨w1, w2⟩ := w; omega), hs15, if_neg (fun w => by obtain ⟨w1, w2⟩ := w; omega)]) (by have h32 := (show (0 : Int) ≤ (fv 32).toInt ∧ (fv 32).toInt ≤ 40 from hF_fv 32); omega) hP hS (lv_sub hl [1, 0] rfl)
                          · skip
                            have i_177 : 0 ≤ v_170.toInt ∧ v_170.toInt ≤ 840 := iv_eq1 i_171 c_172
                            have k_178 := congrArg Int32.toInt c_172
                            refine lv_aload_n hx hb dX12_step_193 rfl (lv_at hl 0 rfl) ?_
                            refine lv_iload_n hx hb dX12_step_194 rfl (lv_at hl 1 rfl) ?_
                            have z_179 : (fv_108 85).toInt = (fv 85).toInt := congrArg Int32.toInt ((fr_109 85 rfl).trans ((fr_37 85 rfl)))
                            have z_180 : 0 ≤ (fv_108 85).toInt ∧ (fv_108 85).toInt ≤ 840 := hF_fv_108 85
                            refine va_callv (va_runV (As := [.int x_107]) (rest := []) ⟨hx, hb, hml, hown, hts⟩ (m_arriveE l dC dI H.size h ad cA hd fv_108 wd_112 ar_110 hF_fv_108 hA_ar_110 G9 x_107 i_127 hp_118 hp_117 hp_114) (cwV 1 hts (gV kw_8_220 kw_8_222 kw_p_95 kw_1_15 kw_8_223) rfl rfl rfl (by decide +kernel) ⟨Nat.le_of_ble_eq_true rfl, Nat.le_of_ble_eq_true rfl⟩) ⟨fun a U g mk q => ⟨q.1, q.2.1, q.2.2.1, va_K.moved (u := U) (U := U.calling g mk a) (Vm.Alike.refl U.vm) q.2.2.2⟩, va_recv hK hP (ci := 12) (q0 := 0) rfl rfl, fun U hU hW => ⟨rfl, by rw [hU], by rw [hU]; exact hP, va_K.moved hW.alike hK⟩⟩ rfl rfl hl.1 rfl (lv_room (Nat.le_of_ble_eq_true rfl)) dX12_step_195 ⟨Nat.le_of_ble_eq_true rfl, Nat.le_of_ble_eq_true rfl⟩) hS (fun q _ h9 => aM_up hS q h9) (aM_up hS) (fun u t H1 locs ht _ hw hB _ hk1 hS => ?_)
                            obtain ⟨fv_185, wd_186, ar_187⟩ := u
                            obtain ⟨hF_fv_185, hA_ar_187, fr_188, fa_189, p_182, p_183, p_184, -⟩ := hw
                            have hP : va_P (dC, dI) vwCl (wsM h ad cA fv_185 wd_186 ar_187) H1 := by have h9 := hB.1; rw [ht] at h9; exact h9
                            have fr_188 : fM [] fv_108 fv_185 := fr_188
                            have fa_189 : fA [68, 72] ar_110 ar_187 := fa_189
                            have p_183 : sW ar_187 := p_183
                            have p_184 : mm_c fv_185 ar_187 := p_184
                            have p_182 : mm_T fv_185 ar_187 = mo_ar (mm_T fv_108 ar_110) (x_107.toInt.toNat) (fv_108 85).toInt := p_182
                            generalize H1 = H at hP hS ⊢
                            have ar9_190 : mm_T fv_185 ar_187 = mo_ar (mm_T fv_108 ar_110) (x_107.toInt.toNat) (fv 85).toInt := by have h9 := p_182; rw [show fv_108 85 = fv 85 from ((fM_call (fM_call (fM_rf [8] _) fr_37 (by decide)) fr_109 (by decide)) 85 rfl)] at h9; exact h9
                            obtain ⟨v_191, ev_191⟩ : ∃ z : Int32, z = x_107 + 1 := ⟨_, rfl⟩
                            refine lv_iinc (v := v_191) (lv' := [(1, .int v_191), (0, .ref h)]) hx hb dX12_step_198 hl (k := 1) rfl (by rw [ev_191]; rfl) (by decide) rfl (fun ls hl => ?_)
                            have t_192 : v_191.toInt = x_107.toInt + 1 ∧ 1 ≤ v_191.toInt ∧ v_191.toInt ≤ 40 := iv_addc ev_191 i_127 (by decide) (by decide) (by decide)
                            refine lv_goto (tgt := 118) hx hb dX12_step_201 (by decide) ?_
                            have z_393 : (fv_185 32).toInt = (fv 32).toInt := congrArg Int32.toInt ((fr_188 32 rfl).trans ((fr_109 32 rfl).trans ((fr_37 32 rfl))))
                            have z_394 : 0 ≤ (fv_185 32).toInt ∧ (fv_185 32).toInt ≤ 40 := hF_fv_185 32
                            exact ih_122 v_191 fv_185 ar_187 wd_186 _ _ ls (by omega) (iv_w t_192.2 (by decide) (by decide)) hF_fv_185 (fM_call (fM_call (fM_rf [8] _) fr_109 (by decide)) fr_188 (by decide)) hA_ar_187 (fA_call (fA_call (fA_rf [4, 15, 18, 68, 69, 70, 71, 72, 74, 82] _) fa_111 (by decide)) fa_189 (by decide)) (mF_fr hp_113 (fM_call (fM_rf [] _) fr_188 (by decide)) (fA_call (fA_rf [68, 72] _) fa_189 (by decide)) rfl rfl) p_184 (mm_9_fr hp_115 (fM_call (fM_rf [] _) fr_188 (by decide)) (fA_call (fA_rf [68, 72] _) fa_189 (by decide)) rfl rfl) (mm_L_fr hp_116 (fM_call (fM_rf [] _) fr_188 (by decide)) (fA_call (fA_rf [68, 72] _) fa_189 (by decide)) rfl rfl rfl rfl rfl rfl rfl rfl rfl rfl) (mm_R_fr hp_117 (fM_call (fM_rf [] _) fr_188 (by decide)) (fA_call (fA_rf [68, 72] _) fa_189 (by decide)) rfl rfl rfl rfl rfl rfl rfl rfl rfl rfl rfl) p_183 (vM_fr hp_119 (fM_call (fM_rf [] _) fr_188 (by decide)) (fA_call (fA_rf [68, 72] _) fa_189 (by decide)) rfl rfl rfl rfl rfl) (by rw [show v_191.toInt.toNat = (x_107.toInt.toNat) + 1 from by omega]; show _ = mo_mh1 (mm_D w9 fv ar) G9 (fv 85).toInt (mo_fo (mo_mh1 (mm_D w9 fv ar) G9 (fv 85).toInt) (mm_T fv_36 ar_38) (x_107.toInt.toNat)) (x_107.toInt.toNat); rw [← q_120]; unfold mo_mh1; have hs6 : mm_T fv_108 ar_110 6 (x_107.toInt.toNat) = v_130 := (by show ar_110 68 (x_107.toInt.toNat) = _; exact ((show v_130 = ar_110 68 (x_107.toInt.toNat) from by rw [ev_130]; exact congrArg (ar_110 68) (show x_107.toInt.toNat = (x_107.toInt.toNat) from by omega))).symm); have hs15 : mm_T fv_108 ar_110 15 (x_107.toInt.toNat) = v_170 := (by show ar_110 70 (x_107.toInt.toNat) = _; exact ((show v_170 = ar_110 70 (x_107.toInt.toNat) from by rw [ev_170]; exact congrArg (ar_110 70) (show x_107.toInt.toNat = (x_107.toInt.toNat) from by omega))).symm); rw [hs6, if_neg (fun w => by obtain ⟨w1, w2⟩ := w; omega), hs15, if_pos ⟨by omega, by omega⟩]; exact ar9_190) (by have h32 := (show (0 : Int) ≤ (fv 32).toInt ∧ (fv 32).toInt ≤ 40 from hF_fv 32); omega) hP hS (lv_sub hl [1, 0] rfl)
                    · skip
                      have i_194 : 0 ≤ v_130.toInt ∧ v_130.toInt ≤ 0 := iv_eq1 (⟨by decide, by decide⟩ : (0 : Int) ≤ (0 : Int32).toInt ∧ (0 : Int32).toInt ≤ 0) c_131
                      refine lv_aload_n hx hb dX12_step_135 rfl (lv_at hl 0 rfl) ?_
                      refine gM_12 hx hb htg hown hK hP dX12_step_136 ?_
                      refine lv_iload_n hx hb dX12_step_139 rfl (lv_at hl 1 rfl) ?_
                      refine lM_12 hx hb hK hP (iv_in i_127 (by decide) (by decide)) dX12_step_140 (fun v_196 ev_196 => ?_)
                      refine lv_aload_n hx hb dX12_step_141 rfl (lv_at hl 0 rfl) ?_
                      refine gM_85 hx hb htg hown hK hP dX12_step_142 ?_
                      refine my_ti (y := fv 85) ((fr_109 85 rfl).trans ((fr_37 85 rfl))) ?_
                      have i_197 : 0 ≤ (fv 85).toInt ∧ (fv 85).toInt ≤ 840 := hF_fv 85
                      refine lv_icmp_ne (tgt := 160) hx hb dX12_step_145 (by decide) (fun c_198 => ?_) (fun c_198 => ?_)
                      · skip
                        have k_199 : ¬ v_196.toInt = (fv 85).toInt := fun q => c_198 (Int32.toInt_inj.mp q)
                        refine lv_aload_n hx hb dX12_step_160 rfl (lv_at hl 0 rfl) ?_
                        refine gM_68 hx hb htg hown hK hP dX12_step_161 ?_
                        refine lv_iload_n hx hb dX12_step_164 rfl (lv_at hl 1 rfl) ?_
                        refine lM_68 hx hb hK hP (iv_in i_127 (by decide) (by decide)) dX12_step_165 (fun v_200 ev_200 => ?_)
                        obtain rfl : v_130 = v_200 := ev_130.trans ev_200.symm
                        refine lv_iconst (v := 1) hx hb dX12_step_166 (by decide) ?_
                        refine lv_icmp_eq (tgt := 180) hx hb dX12_step_167 (by decide) (fun c_201 => ?_) (fun c_201 => ?_)
                        · skip
                          exact absurd True.intro (by have h7 := i_194; have h8 := (⟨by decide, by decide⟩ : (1 : Int) ≤ (1 : Int32).toInt ∧ (1 : Int32).toInt ≤ 1); have h9 := congrArg Int32.toInt c_201; exfalso; omega)
                        · skip
                          have k_202 : ¬ v_130.toInt = 1 := fun q => c_201 (Int32.toInt_inj.mp q)
                          refine lv_aload_n hx hb dX12_step_170 rfl (lv_at hl 0 rfl) ?_
                          refine gM_68 hx hb htg hown hK hP dX12_step_171 ?_
                          refine lv_iload_n hx hb dX12_step_174 rfl (lv_at hl 1 rfl) ?_
                          refine lM_68 hx hb hK hP (iv_in i_127 (by decide) (by decide)) dX12_step_175 (fun v_203 ev_203 => ?_)
                          obtain rfl : v_130 = v_203 := ev_130.trans ev_203.symm
                          refine lv_iconst (v := 4) hx hb dX12_step_176 (by decide) ?_
                          refine lv_icmp_ne (tgt := 198) hx hb dX12_step_177 (by decide) (fun c_204 => ?_) (fun c_204 => ?_)
                          · skip
                            have k_205 : ¬ v_130.toInt = 4 := fun q => c_204 (Int32.toInt_inj.mp q)
                            obtain ⟨v_206, ev_206⟩ : ∃ z : Int32, z = x_107 + 1 := ⟨_, rfl⟩
                            refine lv_iinc (v := v_206) (lv' := [(1, .int v_206), (0, .ref h)]) hx hb dX12_step_198 hl (k := 1) rfl (by rw [ev_206]; rfl) (by decide) rfl (fun ls hl => ?_)
                            have t_207 : v_206.toInt = x_107.toInt + 1 ∧ 1 ≤ v_206.toInt ∧ v_206.toInt ≤ 40 := iv_addc ev_206 i_127 (by decide) (by decide) (by decide)
                            refine lv_goto (tgt := 118) hx hb dX12_step_201 (by decide) ?_
                            have z_395 : (fv_108 32).toInt = (fv 32).toInt := congrArg Int32.toInt ((fr_109 32 rfl).trans ((fr_37 32 rfl)))
                            have z_396 : 0 ≤ (fv_108 32).toInt ∧ (fv_108 32).toInt ≤ 40 := hF_fv_108 32
                            exact ih_122 v_206 fv_108 ar_110 wd_112 _ _ ls (by omega) (iv_w t_207.2 (by decide) (by decide)) hF_fv_108 (fM_call (fM_rf [8] _) fr_109 (by decide)) hA_ar_110 (fA_call (fA_rf [4, 15, 18, 68, 69, 70, 71, 72, 74, 82] _) fa_111 (by decide)) hp_113 hp_114 hp_115 hp_116 hp_117 hp_118 hp_119 (by rw [show v_206.toInt.toNat = (x_107.toInt.toNat) + 1 from by omega]; show _ = mo_mh1 (mm_D w9 fv ar) G9 (fv 85).toInt (mo_fo (mo_mh1 (mm_D w9 fv ar) G9 (fv 85).toInt) (mm_T fv_36 ar_38) (x_107.toInt.toNat)) (x_107.toInt.toNat); rw [← q_120]; unfold mo_mh1; have hs6 : mm_T fv_108 ar_110 6 (x_107.toInt.toNat) = v_130 := (by show ar_110 68 (x_107.toInt.toNat) = _; exact ((show v_130 = ar_110 68 (x_107.toInt.toNat) from by rw [ev_130]; exact congrArg (ar_110 68) (show x_107.toInt.toNat = (x_107.toInt.toNat) from by omega))).symm); have hd2 : (mm_D w9 fv ar) 2 (x_107.toInt.toNat) = v_196 := (by show ar 12 (x_107.toInt.toNat) = _; exact ((show v_196 = ar 12 (x_107.toInt.toNat) from by rw [ev_196, show ar_110 12 = ar 12 from ((fA_call (fA_call (fA_call (fA_rf [4, 15, 18, 68, 69, 70, 71, 72, 74, 77, 82] _) fa_3 (by decide)) fa_39 (by decide)) fa_111 (by decide)) 12 rfl)]; exact congrArg (ar 12) (show x_107.toInt.toNat = (x_107.toInt.toNat) from by omega))).symm); rw [hs6, hd2, if_neg (fun w => by obtain ⟨w1, w2⟩ := w; omega), if_neg (fun w => by obtain ⟨w1, w2⟩ := w; omega)]) (by have h32 := (show (0 : Int) ≤ (fv 32).toInt ∧ (fv 32).toInt ≤ 40 from hF_fv 32); omega) hP hS (lv_sub hl [1, 0] rfl)
                          · skip
                            exact absurd True.intro (by have h7 := i_194; have h8 := (⟨by decide, by decide⟩ : (4 : Int) ≤ (4 : Int32).toInt ∧ (4 : Int32).toInt ≤ 4); have h9 := congrArg Int32.toInt c_204; exfalso; omega)
                      · skip
                        have i_209 : 0 ≤ v_196.toInt ∧ v_196.toInt ≤ 840 := iv_eq1 i_197 c_198
                        have k_210 := congrArg Int32.toInt c_198
                        refine lv_aload_n hx hb dX12_step_148 rfl (lv_at hl 0 rfl) ?_
                        refine lv_iload_n hx hb dX12_step_149 rfl (lv_at hl 1 rfl) ?_
                        refine lv_aload_n hx hb dX12_step_150 rfl (lv_at hl 0 rfl) ?_
                        refine gM_85 hx hb htg hown hK hP dX12_step_151 ?_
                        refine my_ti (y := fv 85) ((fr_109 85 rfl).trans ((fr_37 85 rfl))) ?_
                        have z_211 : (fv_108 35).toInt = (fv 35).toInt := congrArg Int32.toInt ((fr_109 35 rfl).trans ((fr_37 35 rfl)))
                        have z_212 : 0 ≤ (fv_108 35).toInt ∧ (fv_108 35).toInt ≤ 80 := hF_fv_108 35
                        have z_213 : (fv_108 87).toInt = (fv 87).toInt := congrArg Int32.toInt ((fr_109 87 rfl).trans ((fr_37 87 rfl)))
                        have z_214 : 0 ≤ (fv_108 87).toInt ∧ (fv_108 87).toInt ≤ 80 := hF_fv_108 87
                        have z_215 : (fv_108 85).toInt = (fv 85).toInt := congrArg Int32.toInt ((fr_109 85 rfl).trans ((fr_37 85 rfl)))
                        have z_216 : 0 ≤ (fv_108 85).toInt ∧ (fv_108 85).toInt ≤ 840 := hF_fv_108 85
                        refine va_callv (va_runV (As := [.int x_107, .int (fv 85)]) (rest := []) ⟨hx, hb, hml, hown, hts⟩ (m_chooseE l dC dI H.size h ad cA hd fv_108 wd_112 ar_110 hF_fv_108 hA_ar_110 G9 w9 x_107 (fv 85) i_127 (by rw [show mm_D w9 fv_108 ar_110 = mm_D w9 fv ar from (mm_D_fr (fM_call (fM_call (fM_rf [8] _) fr_37 (by decide)) fr_109 (by decide)) (fA_call (fA_call (fA_call (fA_rf [4, 15, 18, 68, 69, 70, 71, 72, 74, 77, 82] _) fa_3 (by decide)) fa_39 (by decide)) fa_111 (by decide)) rfl rfl), show fv_108 35 = fv 35 from ((fM_call (fM_call (fM_rf [8] _) fr_37 (by decide)) fr_109 (by decide)) 35 rfl), show fv_108 87 = fv 87 from ((fM_call (fM_call (fM_rf [8] _) fr_37 (by decide)) fr_109 (by decide)) 87 rfl), show ar_110 83 = ar 83 from ((fA_call (fA_call (fA_call (fA_rf [4, 15, 18, 68, 69, 70, 71, 72, 74, 77, 82] _) fa_3 (by decide)) fa_39 (by decide)) fa_111 (by decide)) 83 rfl)]; exact hor) hp_118 hp_117 hp_114 hp_113) (cwV 2 hts (gV kw_8_188 kw_8_190 kw_p_87 kw_1_15 kw_8_191) rfl rfl rfl (by decide +kernel) ⟨Nat.le_of_ble_eq_true rfl, Nat.le_of_ble_eq_true rfl⟩) ⟨fun a U g mk q => ⟨q.1, q.2.1, q.2.2.1, va_K.moved (u := U) (U := U.calling g mk a) (Vm.Alike.refl U.vm) q.2.2.2⟩, va_recv hK hP (ci := 12) (q0 := 0) rfl rfl, fun U hU hW => ⟨rfl, by rw [hU], by rw [hU]; exact hP, va_K.moved hW.alike hK⟩⟩ rfl rfl hl.1 rfl (lv_room (Nat.le_of_ble_eq_true rfl)) dX12_step_154 ⟨Nat.le_of_ble_eq_true rfl, Nat.le_of_ble_eq_true rfl⟩) hS (fun q _ h9 => aM_up hS q h9) (aM_up hS) (fun u t H1 locs ht _ hw hB _ hk1 hS => ?_)
                        obtain ⟨fv_222, wd_223, ar_224⟩ := u
                        obtain ⟨hF_fv_222, hA_ar_224, fr_225, fa_226, p_218, p_219, p_220, p_221, -⟩ := hw
                        have hP : va_P (dC, dI) vwCl (wsM h ad cA fv_222 wd_223 ar_224) H1 := by have h9 := hB.1; rw [ht] at h9; exact h9
                        have fr_225 : fM [8] fv_108 fv_222 := fr_225
                        have fa_226 : fA [4, 15, 18, 68, 69, 70, 71, 72, 74, 82] ar_110 ar_224 := fa_226
                        have p_219 : sW ar_224 := p_219
                        have p_220 : mm_c fv_222 ar_224 := p_220
                        have p_221 : wt_fm G9 (fv_222 8) (ar_224 4) := p_221
                        have p_218 : mm_T fv_222 ar_224 = mo_mc (mm_D w9 fv_108 ar_110) G9 (mm_T fv_108 ar_110) (x_107.toInt.toNat) (fv_108 85).toInt (fv 85).toInt := p_218
                        generalize H1 = H at hP hS ⊢
                        have ch_227 : mm_T fv_222 ar_224 = mo_mc (mm_D w9 fv ar) G9 (mm_T fv_108 ar_110) (x_107.toInt.toNat) (fv 85).toInt (fv 85).toInt := by have h9 := p_218; rw [show mm_D w9 fv_108 ar_110 = mm_D w9 fv ar from (mm_D_fr (fM_call (fM_call (fM_rf [8] _) fr_37 (by decide)) fr_109 (by decide)) (fA_call (fA_call (fA_call (fA_rf [4, 15, 18, 68, 69, 70, 71, 72, 74, 77, 82] _) fa_3 (by decide)) fa_39 (by decide)) fa_111 (by decide)) rfl rfl), show fv_108 85 = fv 85 from ((fM_call (fM_call (fM_rf [8] _) fr_37 (by decide)) fr_109 (by decide)) 85 rfl)] at h9; exact h9
                        refine lv_goto (tgt := 198) hx hb dX12_step_157 (by decide) ?_
                        obtain ⟨v_228, ev_228⟩ : ∃ z : Int32, z = x_107 + 1 := ⟨_, rfl⟩
                        refine lv_iinc (v := v_228) (lv' := [(1, .int v_228), (0, .ref h)]) hx hb dX12_step_198 hl (k := 1) rfl (by rw [ev_228]; rfl) (by decide) rfl (fun ls hl => ?_)
                        have t_229 : v_228.toInt = x_107.toInt + 1 ∧ 1 ≤ v_228.toInt ∧ v_228.toInt ≤ 40 := iv_addc ev_228 i_127 (by decide) (by decide) (by decide)
                        refine lv_goto (tgt := 118) hx hb dX12_step_201 (by decide) ?_
                        have z_397 : (fv_222 32).toInt = (fv 32).toInt := congrArg Int32.toInt ((fr_225 32 rfl).trans ((fr_109 32 rfl).trans ((fr_37 32 rfl))))
                        have z_398 : 0 ≤ (fv_222 32).toInt ∧ (fv_222 32).toInt ≤ 40 := hF_fv_222 32
                        exact ih_122 v_228 fv_222 ar_224 wd_223 _ _ ls (by omega) (iv_w t_229.2 (by decide) (by decide)) hF_fv_222 (fM_call (fM_call (fM_rf [8] _) fr_109 (by decide)) fr_225 (by decide)) hA_ar_224 (fA_call (fA_call (fA_rf [4, 15, 18, 68, 69, 70, 71, 72, 74, 82] _) fa_111 (by decide)) fa_226 (by decide)) p_221 p_220 (mm_9_fr hp_115 (fM_call (fM_rf [8] _) fr_225 (by decide)) (fA_call (fA_rf [4, 15, 18, 68, 69, 70, 71, 72, 74, 82] _) fa_226 (by decide)) rfl rfl) (mm_L_fr hp_116 (fM_call (fM_rf [8] _) fr_225 (by decide)) (fA_call (fA_rf [4, 15, 18, 68, 69, 70, 71, 72, 74, 82] _) fa_226 (by decide)) rfl rfl rfl rfl rfl rfl rfl rfl rfl rfl) (mm_R_fr hp_117 (fM_call (fM_rf [8] _) fr_225 (by decide)) (fA_call (fA_rf [4, 15, 18, 68, 69, 70, 71, 72, 74, 82] _) fa_226 (by decide)) rfl rfl rfl rfl rfl rfl rfl rfl rfl rfl rfl) p_219 (vM_fr hp_119 (fM_call (fM_rf [8] _) fr_225 (by decide)) (fA_call (fA_rf [4, 15, 18, 68, 69, 70, 71, 72, 74, 82] _) fa_226 (by decide)) rfl rfl rfl rfl rfl) (by rw [show v_228.toInt.toNat = (x_107.toInt.toNat) + 1 from by omega]; show _ = mo_mh1 (mm_D w9 fv ar) G9 (fv 85).toInt (mo_fo (mo_mh1 (mm_D w9 fv ar) G9 (fv 85).toInt) (mm_T fv_36 ar_38) (x_107.toInt.toNat)) (x_107.toInt.toNat); rw [← q_120]; unfold mo_mh1; have hs6 : mm_T fv_108 ar_110 6 (x_107.toInt.toNat) = v_130 := (by show ar_110 68 (x_107.toInt.toNat) = _; exact ((show v_130 = ar_110 68 (x_107.toInt.toNat) from by rw [ev_130]; exact congrArg (ar_110 68) (show x_107.toInt.toNat = (x_107.toInt.toNat) from by omega))).symm); have hd2 : (mm_D w9 fv ar) 2 (x_107.toInt.toNat) = v_196 := (by show ar 12 (x_107.toInt.toNat) = _; exact ((show v_196 = ar 12 (x_107.toInt.toNat) from by rw [ev_196, show ar_110 12 = ar 12 from ((fA_call (fA_call (fA_call (fA_rf [4, 15, 18, 68, 69, 70, 71, 72, 74, 77, 82] _) fa_3 (by decide)) fa_39 (by decide)) fa_111 (by decide)) 12 rfl)]; exact congrArg (ar 12) (show x_107.toInt.toNat = (x_107.toInt.toNat) from by omega))).symm); rw [hs6, hd2, if_pos ⟨by omega, by omega⟩]; exact ch_227) (by have h32 := (show (0 : Int) ≤ (fv 32).toInt ∧ (fv 32).toInt ≤ 40 from hF_fv 32); omega) hP hS (lv_sub hl [1, 0] rfl)
              · skip
                have z_399 : (0 : Int32).toInt = 0 := by decide
                have z_400 : (fv_36 32).toInt = (fv 32).toInt := congrArg Int32.toInt ((fr_37 32 rfl))
                have z_401 : 0 ≤ (fv_36 32).toInt ∧ (fv_36 32).toInt ≤ 40 := hF_fv_36 32
                exact hj_124 41 0 fv_36 ar_38 wd_40 _ _ ls (by first | decide | omega) (iv_w (⟨by decide, by decide⟩ : (0 : Int) ≤ (0 : Int32).toInt ∧ (0 : Int32).toInt ≤ 0) (by decide) (by decide)) hF_fv_36 (fM_rf [8] _) hA_ar_38 (fA_rf [4, 15, 18, 68, 69, 70, 71, 72, 74, 82] _) hp_41 hp_42 hp_43 hp_44 hp_45 hp_46 hp_47 (by rw [show (0 : Int32).toInt.toNat = 0 from by decide]; rfl) (by have h32 := (show (0 : Int) ≤ (fv 32).toInt ∧ (fv 32).toInt ≤ 40 from hF_fv 32); omega) hP hS (lv_sub hl [1, 0] rfl)
            · skip
              have i_56 : 0 ≤ x_35.toInt ∧ x_35.toInt ≤ 39 := iv_lt1 i_x_35 i_53 (Int32.not_le.mp c_54)
              have i_57 : 1 ≤ (fv 32).toInt ∧ (fv 32).toInt ≤ 40 := iv_lt2 i_x_35 i_53 (Int32.not_le.mp c_54)
              have k_58 := Int32.lt_iff_toInt_lt.mp (Int32.not_le.mp c_54)
              refine lv_aload_n hx hb dX12_step_46 rfl (lv_at hl 0 rfl) ?_
              refine gM_68 hx hb htg hown hK hP dX12_step_47 ?_
              refine lv_iload_n hx hb dX12_step_50 rfl (lv_at hl 1 rfl) ?_
              refine lM_68 hx hb hK hP (iv_in i_56 (by decide) (by decide)) dX12_step_51 (fun v_59 ev_59 => ?_)
              refine lv_iconst (v := 3) hx hb dX12_step_52 (by decide) ?_
              refine lv_icmp_ne (tgt := 110) hx hb dX12_step_53 (by decide) (fun c_60 => ?_) (fun c_60 => ?_)
              · skip
                have k_61 : ¬ v_59.toInt = 3 := fun q => c_60 (Int32.toInt_inj.mp q)
                obtain ⟨v_62, ev_62⟩ : ∃ z : Int32, z = x_35 + 1 := ⟨_, rfl⟩
                refine lv_iinc (v := v_62) (lv' := [(1, .int v_62), (0, .ref h)]) hx hb dX12_step_110 hl (k := 1) rfl (by rw [ev_62]; rfl) (by decide) rfl (fun ls hl => ?_)
                have t_63 : v_62.toInt = x_35.toInt + 1 ∧ 1 ≤ v_62.toInt ∧ v_62.toInt ≤ 40 := iv_addc ev_62 i_56 (by decide) (by decide) (by decide)
                refine lv_goto (tgt := 38) hx hb dX12_step_113 (by decide) ?_
                have z_402 : (fv_36 32).toInt = (fv 32).toInt := congrArg Int32.toInt ((fr_37 32 rfl))
                have z_403 : 0 ≤ (fv_36 32).toInt ∧ (fv_36 32).toInt ≤ 40 := hF_fv_36 32
                exact ih_50 v_62 fv_36 ar_38 wd_40 _ _ ls (by omega) (iv_w t_63.2 (by decide) (by decide)) hF_fv_36 (fM_call (fM_rf [8] _) fr_37 (by decide)) hA_ar_38 (fA_call (fA_rf [4, 15, 18, 68, 69, 70, 71, 72, 74, 82] _) fa_39 (by decide)) hp_41 hp_42 hp_43 hp_44 hp_45 hp_46 hp_47 (by rw [show v_62.toInt.toNat = (x_35.toInt.toNat) + 1 from by omega]; show _ = mo_ml1 (mm_D w9 fv ar) G9 (fv 85).toInt (mo_fo (mo_ml1 (mm_D w9 fv ar) G9 (fv 85).toInt) (mm_T fv ar_2) (x_35.toInt.toNat)) (x_35.toInt.toNat); rw [← q_48]; unfold mo_ml1; have hs6 : mm_T fv_36 ar_38 6 (x_35.toInt.toNat) = v_59 := (by show ar_38 68 (x_35.toInt.toNat) = _; exact ((show v_59 = ar_38 68 (x_35.toInt.toNat) from by rw [ev_59]; exact congrArg (ar_38 68) (show x_35.toInt.toNat = (x_35.toInt.toNat) from by omega))).symm); rw [hs6, if_neg (fun w => by have w1 := w.1; omega)]) (by have h32 := (show (0 : Int) ≤ (fv 32).toInt ∧ (fv 32).toInt ≤ 40 from hF_fv 32); omega) hP hS (lv_sub hl [1, 0] rfl)
              · skip
                have i_65 : 3 ≤ v_59.toInt ∧ v_59.toInt ≤ 3 := iv_eq1 (⟨by decide, by decide⟩ : (3 : Int) ≤ (3 : Int32).toInt ∧ (3 : Int32).toInt ≤ 3) c_60
                refine lv_aload_n hx hb dX12_step_56 rfl (lv_at hl 0 rfl) ?_
                refine gM_77 hx hb htg hown hK hP dX12_step_57 ?_
                refine lv_aload_n hx hb dX12_step_60 rfl (lv_at hl 0 rfl) ?_
                refine gM_25 hx hb htg hown hK hP dX12_step_61 ?_
                refine lv_aload_n hx hb dX12_step_64 rfl (lv_at hl 0 rfl) ?_
                refine gM_71 hx hb htg hown hK hP dX12_step_65 ?_
                refine lv_iload_n hx hb dX12_step_68 rfl (lv_at hl 1 rfl) ?_
                refine lM_71 hx hb hK hP (iv_in i_56 (by decide) (by decide)) dX12_step_69 (fun v_67 ev_67 => ?_)
                have i_68 : (-1) ≤ v_67.toInt ∧ v_67.toInt ≤ 79 := ev_67 ▸ hA_ar_38 71 _
                have i_69 : 0 ≤ v_67.toInt ∧ v_67.toInt ≤ 79 := ⟨by have h9 := hp_46 x_35.toNatClampNeg; rw [← ev_59, ← ev_67] at h9; exact h9 (Int.le_trans (by decide) (i_65).1) (Int.le_trans (i_65).2 (by decide)), (i_68).2⟩
                refine lM_25 hx hb hK hP (iv_in i_69 (by decide) (by decide)) dX12_step_70 (fun v_70 ev_70 => ?_)
                have i_71 : 0 ≤ v_70.toInt ∧ v_70.toInt ≤ 19 := ev_70 ▸ hA_ar_38 25 _
                refine lM_77 hx hb hK hP (iv_in i_71 (by decide) (by decide)) dX12_step_71 (fun v_72 ev_72 => ?_)
                refine lv_iconst (v := (-1)) hx hb dX12_step_72 (by decide) ?_
                refine lv_icmp_eq (tgt := 79) hx hb dX12_step_73 (by decide) (fun c_73 => ?_) (fun c_73 => ?_)
                · skip
                  have i_74 : (-1) ≤ v_72.toInt ∧ v_72.toInt ≤ (-1) := iv_eq1 (⟨by decide, by decide⟩ : (-1 : Int) ≤ ((-1) : Int32).toInt ∧ ((-1) : Int32).toInt ≤ -1) c_73
                  refine lv_aload_n hx hb dX12_step_79 rfl (lv_at hl 0 rfl) ?_
                  refine gM_69 hx hb htg hown hK hP dX12_step_80 ?_
                  refine lv_iload_n hx hb dX12_step_83 rfl (lv_at hl 1 rfl) ?_
                  refine lv_aload_n hx hb dX12_step_84 rfl (lv_at hl 0 rfl) ?_
                  refine gM_19 hx hb htg hown hK hP dX12_step_85 ?_
                  refine lv_aload_n hx hb dX12_step_88 rfl (lv_at hl 0 rfl) ?_
                  refine gM_27 hx hb htg hown hK hP dX12_step_89 ?_
                  refine lv_aload_n hx hb dX12_step_92 rfl (lv_at hl 0 rfl) ?_
                  refine gM_71 hx hb htg hown hK hP dX12_step_93 ?_
                  refine lv_iload_n hx hb dX12_step_96 rfl (lv_at hl 1 rfl) ?_
                  refine lM_71 hx hb hK hP (iv_in i_56 (by decide) (by decide)) dX12_step_97 (fun v_76 ev_76 => ?_)
                  obtain rfl : v_67 = v_76 := ev_67.trans ev_76.symm
                  refine lM_27 hx hb hK hP (iv_in i_69 (by decide) (by decide)) dX12_step_98 (fun v_77 ev_77 => ?_)
                  have i_78 : 0 ≤ v_77.toInt ∧ v_77.toInt ≤ 7 := ev_77 ▸ hA_ar_38 27 _
                  refine lM_19 hx hb hK hP (iv_in i_78 (by decide) (by decide)) dX12_step_99 (fun v_79 ev_79 => ?_)
                  have i_80 : 0 ≤ v_79.toInt ∧ v_79.toInt ≤ 11 := ev_79 ▸ hA_ar_38 19 _
                  refine sM_69 hx hb hK hP hS hd (iv_in i_56 (by decide) (by decide)) dX12_step_100 (fun H locs ar_81 ear_81 hP hS => ?_)
                  have hA_ar_81 : rA ar_81 := rA_put hA_ar_38 ear_81 i_80
                  refine lv_aload_n hx hb dX12_step_101 rfl (lv_at hl 0 rfl) ?_
                  refine lv_iload_n hx hb dX12_step_102 rfl (lv_at hl 1 rfl) ?_
                  refine lv_aload_n hx hb dX12_step_103 rfl (lv_at hl 0 rfl) ?_
                  refine gM_85 hx hb htg hown hK hP dX12_step_104 ?_
                  refine my_ti (y := fv 85) ((fr_37 85 rfl)) ?_
                  have i_82 : 0 ≤ (fv 85).toInt ∧ (fv 85).toInt ≤ 840 := hF_fv 85
                  have z_83 : (fv_36 35).toInt = (fv 35).toInt := congrArg Int32.toInt ((fr_37 35 rfl))
                  have z_84 : 0 ≤ (fv_36 35).toInt ∧ (fv_36 35).toInt ≤ 80 := hF_fv_36 35
                  have z_85 : (fv_36 87).toInt = (fv 87).toInt := congrArg Int32.toInt ((fr_37 87 rfl))
                  have z_86 : 0 ≤ (fv_36 87).toInt ∧ (fv_36 87).toInt ≤ 80 := hF_fv_36 87
                  have z_87 : (fv_36 85).toInt = (fv 85).toInt := congrArg Int32.toInt ((fr_37 85 rfl))
                  have z_88 : 0 ≤ (fv_36 85).toInt ∧ (fv_36 85).toInt ≤ 840 := hF_fv_36 85
                  refine va_callv (va_runV (As := [.int x_35, .int (fv 85)]) (rest := []) ⟨hx, hb, hml, hown, hts⟩ (m_chooseE l dC dI H.size h ad cA hd fv_36 wd_40 ar_81 hF_fv_36 hA_ar_81 G9 w9 x_35 (fv 85) i_56 (by rw [show mm_D w9 fv_36 ar_81 = mm_D w9 fv ar from (mm_D_fr (fM_call (fM_rf [8] _) fr_37 (by decide)) (fA_put (fA_call (fA_call (fA_rf [4, 15, 18, 68, 69, 70, 71, 72, 74, 77, 82] _) fa_3 (by decide)) fa_39 (by decide)) ear_81 (by decide)) rfl rfl), show fv_36 35 = fv 35 from ((fM_call (fM_rf [8] _) fr_37 (by decide)) 35 rfl), show fv_36 87 = fv 87 from ((fM_call (fM_rf [8] _) fr_37 (by decide)) 87 rfl), show ar_81 83 = ar 83 from ((fA_put (fA_call (fA_call (fA_rf [4, 15, 18, 68, 69, 70, 71, 72, 74, 77, 82] _) fa_3 (by decide)) fa_39 (by decide)) ear_81 (by decide)) 83 rfl)]; exact hor) (sW_fr hp_46 (fA_put (fA_rf [69] _) ear_81 (by decide)) rfl rfl) (mm_R_fr hp_45 (fM_rf [] _) (fA_put (fA_rf [69] _) ear_81 (by decide)) rfl rfl rfl rfl rfl rfl rfl rfl rfl rfl rfl) (mm_c_fr hp_42 (fM_rf [] _) (fA_put (fA_rf [69] _) ear_81 (by decide)) rfl rfl) (mF_fr hp_41 (fM_rf [] _) (fA_put (fA_rf [69] _) ear_81 (by decide)) rfl rfl)) (cwV 2 hts (gV kw_8_188 kw_8_190 kw_p_87 kw_1_15 kw_8_191) rfl rfl rfl (by decide +kernel) ⟨Nat.le_of_ble_eq_true rfl, Nat.le_of_ble_eq_true rfl⟩) ⟨fun a U g mk q => ⟨q.1, q.2.1, q.2.2.1, va_K.moved (u := U) (U := U.calling g mk a) (Vm.Alike.refl U.vm) q.2.2.2⟩, va_recv hK hP (ci := 12) (q0 := 0) rfl rfl, fun U hU hW => ⟨rfl, by rw [hU], by rw [hU]; exact hP, va_K.moved hW.alike hK⟩⟩ rfl rfl hl.1 rfl (lv_room (Nat.le_of_ble_eq_true rfl)) dX12_step_107 ⟨Nat.le_of_ble_eq_true rfl, Nat.le_of_ble_eq_true rfl⟩) hS (fun q _ h9 => aM_up hS q h9) (aM_up hS) (fun u t H1 locs ht _ hw hB _ hk1 hS => ?_)
                  obtain ⟨fv_94, wd_95, ar_96⟩ := u
                  obtain ⟨hF_fv_94, hA_ar_96, fr_97, fa_98, p_90, p_91, p_92, p_93, -⟩ := hw
                  have hP : va_P (dC, dI) vwCl (wsM h ad cA fv_94 wd_95 ar_96) H1 := by have h9 := hB.1; rw [ht] at h9; exact h9
                  have fr_97 : fM [8] fv_36 fv_94 := fr_97
                  have fa_98 : fA [4, 15, 18, 68, 69, 70, 71, 72, 74, 82] ar_81 ar_96 := fa_98
                  have p_91 : sW ar_96 := p_91
                  have p_92 : mm_c fv_94 ar_96 := p_92
                  have p_93 : wt_fm G9 (fv_94 8) (ar_96 4) := p_93
                  have p_90 : mm_T fv_94 ar_96 = mo_mc (mm_D w9 fv_36 ar_81) G9 (mm_T fv_36 ar_81) (x_35.toInt.toNat) (fv_36 85).toInt (fv 85).toInt := p_90
                  generalize H1 = H at hP hS ⊢
                  have ch_99 : mm_T fv_94 ar_96 = mo_mc (mm_D w9 fv ar) G9 (mm_T fv_36 ar_81) (x_35.toInt.toNat) (fv 85).toInt (fv 85).toInt := by have h9 := p_90; rw [show mm_D w9 fv_36 ar_81 = mm_D w9 fv ar from (mm_D_fr (fM_call (fM_rf [8] _) fr_37 (by decide)) (fA_put (fA_call (fA_call (fA_rf [4, 15, 18, 68, 69, 70, 71, 72, 74, 77, 82] _) fa_3 (by decide)) fa_39 (by decide)) ear_81 (by decide)) rfl rfl), show fv_36 85 = fv 85 from ((fM_call (fM_rf [8] _) fr_37 (by decide)) 85 rfl)] at h9; exact h9
                  obtain ⟨v_100, ev_100⟩ : ∃ z : Int32, z = x_35 + 1 := ⟨_, rfl⟩
                  refine lv_iinc (v := v_100) (lv' := [(1, .int v_100), (0, .ref h)]) hx hb dX12_step_110 hl (k := 1) rfl (by rw [ev_100]; rfl) (by decide) rfl (fun ls hl => ?_)
                  have t_101 : v_100.toInt = x_35.toInt + 1 ∧ 1 ≤ v_100.toInt ∧ v_100.toInt ≤ 40 := iv_addc ev_100 i_56 (by decide) (by decide) (by decide)
                  refine lv_goto (tgt := 38) hx hb dX12_step_113 (by decide) ?_
                  have z_404 : (fv_94 32).toInt = (fv 32).toInt := congrArg Int32.toInt ((fr_97 32 rfl).trans ((fr_37 32 rfl)))
                  have z_405 : 0 ≤ (fv_94 32).toInt ∧ (fv_94 32).toInt ≤ 40 := hF_fv_94 32
                  exact ih_50 v_100 fv_94 ar_96 wd_95 _ _ ls (by omega) (iv_w t_101.2 (by decide) (by decide)) hF_fv_94 (fM_call (fM_call (fM_rf [8] _) fr_37 (by decide)) fr_97 (by decide)) hA_ar_96 (fA_call (fA_put (fA_call (fA_rf [4, 15, 18, 68, 69, 70, 71, 72, 74, 82] _) fa_39 (by decide)) ear_81 (by decide)) fa_98 (by decide)) p_93 p_92 (mm_9_fr hp_43 (fM_call (fM_rf [8] _) fr_97 (by decide)) (fA_call (fA_put (fA_rf [4, 15, 18, 68, 69, 70, 71, 72, 74, 82] _) ear_81 (by decide)) fa_98 (by decide)) rfl rfl) (mm_L_fr hp_44 (fM_call (fM_rf [8] _) fr_97 (by decide)) (fA_call (fA_put (fA_rf [4, 15, 18, 68, 69, 70, 71, 72, 74, 82] _) ear_81 (by decide)) fa_98 (by decide)) rfl rfl rfl rfl rfl rfl rfl rfl rfl rfl) (mm_R_fr hp_45 (fM_call (fM_rf [8] _) fr_97 (by decide)) (fA_call (fA_put (fA_rf [4, 15, 18, 68, 69, 70, 71, 72, 74, 82] _) ear_81 (by decide)) fa_98 (by decide)) rfl rfl rfl rfl rfl rfl rfl rfl rfl rfl rfl) p_91 (vM_fr hp_47 (fM_call (fM_rf [8] _) fr_97 (by decide)) (fA_call (fA_put (fA_rf [4, 15, 18, 68, 69, 70, 71, 72, 74, 82] _) ear_81 (by decide)) fa_98 (by decide)) rfl rfl rfl rfl rfl) (by rw [show v_100.toInt.toNat = (x_35.toInt.toNat) + 1 from by omega]; show _ = mo_ml1 (mm_D w9 fv ar) G9 (fv 85).toInt (mo_fo (mo_ml1 (mm_D w9 fv ar) G9 (fv 85).toInt) (mm_T fv ar_2) (x_35.toInt.toNat)) (x_35.toInt.toNat); rw [← q_48]; unfold mo_ml1; have hs6 : mm_T fv_36 ar_38 6 (x_35.toInt.toNat) = v_59 := (by show ar_38 68 (x_35.toInt.toNat) = _; exact ((show v_59 = ar_38 68 (x_35.toInt.toNat) from by rw [ev_59]; exact congrArg (ar_38 68) (show x_35.toInt.toNat = (x_35.toInt.toNat) from by omega))).symm); have hs5 : mm_T fv_36 ar_38 5 (x_35.toInt.toNat) = v_67 := (by show ar_38 71 (x_35.toInt.toNat) = _; exact ((show v_67 = ar_38 71 (x_35.toInt.toNat) from by rw [ev_67]; exact congrArg (ar_38 71) (show x_35.toInt.toNat = (x_35.toInt.toNat) from by omega))).symm); have hd11 : (mm_D w9 fv ar) 11 (v_67.toInt.toNat) = v_70 := (by show ar 25 (v_67.toInt.toNat) = _; exact ((show v_70 = ar 25 (v_67.toInt.toNat) from by rw [ev_70, show ar_38 25 = ar 25 from ((fA_call (fA_call (fA_rf [4, 15, 18, 68, 69, 70, 71, 72, 74, 77, 82] _) fa_3 (by decide)) fa_39 (by decide)) 25 rfl)]; exact congrArg (ar 25) (show v_67.toInt.toNat = (v_67.toInt.toNat) from by omega))).symm); have hs11 : mm_T fv_36 ar_38 11 (v_70.toInt.toNat) = v_72 := (by show ar_38 77 (v_70.toInt.toNat) = _; exact ((show v_72 = ar_38 77 (v_70.toInt.toNat) from by rw [ev_72]; exact congrArg (ar_38 77) (show v_70.toInt.toNat = (v_70.toInt.toNat) from by omega))).symm); have hd13 : (mm_D w9 fv ar) 13 (v_67.toInt.toNat) = v_77 := (by show ar 27 (v_67.toInt.toNat) = _; exact ((show v_77 = ar 27 (v_67.toInt.toNat) from by rw [ev_77, show ar_38 27 = ar 27 from ((fA_call (fA_call (fA_rf [4, 15, 18, 68, 69, 70, 71, 72, 74, 77, 82] _) fa_3 (by decide)) fa_39 (by decide)) 27 rfl)]; exact congrArg (ar 27) (show v_67.toInt.toNat = (v_67.toInt.toNat) from by omega))).symm); have hd18 : (mm_D w9 fv ar) 18 (v_77.toInt.toNat) = v_79 := (by show ar 19 (v_77.toInt.toNat) = _; exact ((show v_79 = ar 19 (v_77.toInt.toNat) from by rw [ev_79, show ar_38 19 = ar 19 from ((fA_call (fA_call (fA_rf [4, 15, 18, 68, 69, 70, 71, 72, 74, 77, 82] _) fa_3 (by decide)) fa_39 (by decide)) 19 rfl)]; exact congrArg (ar 19) (show v_77.toInt.toNat = (v_77.toInt.toNat) from by omega))).symm); rw [hs6, hs5, hd11, hs11, if_pos ⟨by omega, by omega⟩, hd13, hd18]; exact (ch_99.trans (congrArg (fun z9 => (mo_mc (mm_D w9 fv ar) G9 z9 (x_35.toInt.toNat) (fv 85).toInt (fv 85).toInt)) (mm_T_put (f := fv_36) (r := 14) (n := (x_35.toInt.toNat)) (by decide) (by decide) ear_81)))) (by have h32 := (show (0 : Int) ≤ (fv 32).toInt ∧ (fv 32).toInt ≤ 40 from hF_fv 32); omega) hP hS (lv_sub hl [1, 0] rfl)
                · skip
                  have k_103 : ¬ v_72.toInt = (-1) := fun q => c_73 (Int32.toInt_inj.mp q)
                  refine lv_goto (tgt := 110) hx hb dX12_step_76 (by decide) ?_
                  obtain ⟨v_104, ev_104⟩ : ∃ z : Int32, z = x_35 + 1 := ⟨_, rfl⟩
                  refine lv_iinc (v := v_104) (lv' := [(1, .int v_104), (0, .ref h)]) hx hb dX12_step_110 hl (k := 1) rfl (by rw [ev_104]; rfl) (by decide) rfl (fun ls hl => ?_)
                  have t_105 : v_104.toInt = x_35.toInt + 1 ∧ 1 ≤ v_104.toInt ∧ v_104.toInt ≤ 40 := iv_addc ev_104 i_56 (by decide) (by decide) (by decide)
                  refine lv_goto (tgt := 38) hx hb dX12_step_113 (by decide) ?_
                  have z_406 : (fv_36 32).toInt = (fv 32).toInt := congrArg Int32.toInt ((fr_37 32 rfl))
                  have z_407 : 0 ≤ (fv_36 32).toInt ∧ (fv_36 32).toInt ≤ 40 := hF_fv_36 32
                  exact ih_50 v_104 fv_36 ar_38 wd_40 _ _ ls (by omega) (iv_w t_105.2 (by decide) (by decide)) hF_fv_36 (fM_call (fM_rf [8] _) fr_37 (by decide)) hA_ar_38 (fA_call (fA_rf [4, 15, 18, 68, 69, 70, 71, 72, 74, 82] _) fa_39 (by decide)) hp_41 hp_42 hp_43 hp_44 hp_45 hp_46 hp_47 (by rw [show v_104.toInt.toNat = (x_35.toInt.toNat) + 1 from by omega]; show _ = mo_ml1 (mm_D w9 fv ar) G9 (fv 85).toInt (mo_fo (mo_ml1 (mm_D w9 fv ar) G9 (fv 85).toInt) (mm_T fv ar_2) (x_35.toInt.toNat)) (x_35.toInt.toNat); rw [← q_48]; unfold mo_ml1; have hs6 : mm_T fv_36 ar_38 6 (x_35.toInt.toNat) = v_59 := (by show ar_38 68 (x_35.toInt.toNat) = _; exact ((show v_59 = ar_38 68 (x_35.toInt.toNat) from by rw [ev_59]; exact congrArg (ar_38 68) (show x_35.toInt.toNat = (x_35.toInt.toNat) from by omega))).symm); have hs5 : mm_T fv_36 ar_38 5 (x_35.toInt.toNat) = v_67 := (by show ar_38 71 (x_35.toInt.toNat) = _; exact ((show v_67 = ar_38 71 (x_35.toInt.toNat) from by rw [ev_67]; exact congrArg (ar_38 71) (show x_35.toInt.toNat = (x_35.toInt.toNat) from by omega))).symm); have hd11 : (mm_D w9 fv ar) 11 (v_67.toInt.toNat) = v_70 := (by show ar 25 (v_67.toInt.toNat) = _; exact ((show v_70 = ar 25 (v_67.toInt.toNat) from by rw [ev_70, show ar_38 25 = ar 25 from ((fA_call (fA_call (fA_rf [4, 15, 18, 68, 69, 70, 71, 72, 74, 77, 82] _) fa_3 (by decide)) fa_39 (by decide)) 25 rfl)]; exact congrArg (ar 25) (show v_67.toInt.toNat = (v_67.toInt.toNat) from by omega))).symm); have hs11 : mm_T fv_36 ar_38 11 (v_70.toInt.toNat) = v_72 := (by show ar_38 77 (v_70.toInt.toNat) = _; exact ((show v_72 = ar_38 77 (v_70.toInt.toNat) from by rw [ev_72]; exact congrArg (ar_38 77) (show v_70.toInt.toNat = (v_70.toInt.toNat) from by omega))).symm); rw [hs6, hs5, hd11, hs11, if_neg (fun w => by have w1 := w.2; omega)]) (by have h32 := (show (0 : Int) ≤ (fv 32).toInt ∧ (fv 32).toInt ≤ 40 from hF_fv 32); omega) hP hS (lv_sub hl [1, 0] rfl)
        · skip
          have z_408 : (0 : Int32).toInt = 0 := by decide
          have z_409 : 0 ≤ (fv 32).toInt ∧ (fv 32).toInt ≤ 40 := hF_fv 32
          exact hj_52 41 0 fv ar_2 wd _ _ ls (by first | decide | omega) (iv_w (⟨by decide, by decide⟩ : (0 : Int) ≤ (0 : Int32).toInt ∧ (0 : Int32).toInt ≤ 0) (by decide) (by decide)) hF_fv (fM_rf [8] _) hA_ar_2 (fA_rf [4, 15, 18, 68, 69, 70, 71, 72, 74, 82] _) hp_4 hp_5 hp_6 hp_7 hp_8 hp_9 hp_10 (by rw [show (0 : Int32).toInt.toNat = 0 from by decide]; rfl) (by have h32 := (show (0 : Int) ≤ (fv 32).toInt ∧ (fv 32).toInt ≤ 40 from hF_fv 32); omega) hP hS (lv_sub hl [1, 0] rfl)
      · skip
        have i_19 : 0 ≤ x_1.toInt ∧ x_1.toInt ≤ 19 := iv_lt1 i_x_1 i_16 (Int32.not_le.mp c_17)
        have i_20 : 1 ≤ (fv 34).toInt ∧ (fv 34).toInt ≤ 20 := iv_lt2 i_x_1 i_16 (Int32.not_le.mp c_17)
        have k_21 := Int32.lt_iff_toInt_lt.mp (Int32.not_le.mp c_17)
        refine lv_aload_n hx hb dX12_step_10 rfl (lv_at hl 0 rfl) ?_
        refine gM_77 hx hb htg hown hK hP dX12_step_11 ?_
        refine lv_iload_n hx hb dX12_step_14 rfl (lv_at hl 1 rfl) ?_
        refine lM_77 hx hb hK hP (iv_in i_19 (by decide) (by decide)) dX12_step_15 (fun v_22 ev_22 => ?_)
        refine lv_aload_n hx hb dX12_step_16 rfl (lv_at hl 0 rfl) ?_
        refine gM_85 hx hb htg hown hK hP dX12_step_17 ?_
        have i_23 : 0 ≤ (fv 85).toInt ∧ (fv 85).toInt ≤ 840 := hF_fv 85
        refine lv_icmp_ne (tgt := 30) hx hb dX12_step_20 (by decide) (fun c_24 => ?_) (fun c_24 => ?_)
        · skip
          have k_25 : ¬ v_22.toInt = (fv 85).toInt := fun q => c_24 (Int32.toInt_inj.mp q)
          obtain ⟨v_26, ev_26⟩ : ∃ z : Int32, z = x_1 + 1 := ⟨_, rfl⟩
          refine lv_iinc (v := v_26) (lv' := [(1, .int v_26), (0, .ref h)]) hx hb dX12_step_30 hl (k := 1) rfl (by rw [ev_26]; rfl) (by decide) rfl (fun ls hl => ?_)
          have t_27 : v_26.toInt = x_1.toInt + 1 ∧ 1 ≤ v_26.toInt ∧ v_26.toInt ≤ 20 := iv_addc ev_26 i_19 (by decide) (by decide) (by decide)
          refine lv_goto (tgt := 2) hx hb dX12_step_33 (by decide) ?_
          have z_410 : 0 ≤ (fv 34).toInt ∧ (fv 34).toInt ≤ 20 := hF_fv 34
          exact ih_13 v_26 ar_2 _ _ ls (by omega) (iv_w t_27.2 (by decide) (by decide)) hA_ar_2 (fA_call (fA_rf [77] _) fa_3 (by decide)) hp_4 hp_5 hp_6 hp_7 hp_8 hp_9 hp_10 (by rw [show v_26.toInt.toNat = (x_1.toInt.toNat) + 1 from by omega]; show _ = mo_xl2 (fv 85).toInt (mo_fo (mo_xl2 (fv 85).toInt) (mm_T fv ar) (x_1.toInt.toNat)) (x_1.toInt.toNat); rw [← q_11]; unfold mo_xl2; have hs11 : mm_T fv ar_2 11 (x_1.toInt.toNat) = v_22 := (by show ar_2 77 (x_1.toInt.toNat) = _; exact ((show v_22 = ar_2 77 (x_1.toInt.toNat) from by rw [ev_22]; exact congrArg (ar_2 77) (show x_1.toInt.toNat = (x_1.toInt.toNat) from by omega))).symm); rw [hs11, if_neg (by omega)]) (by have h32 := (show (0 : Int) ≤ (fv 34).toInt ∧ (fv 34).toInt ≤ 20 from hF_fv 34); omega) hP hS (lv_sub hl [1, 0] rfl)
        · skip
          have i_29 : 0 ≤ v_22.toInt ∧ v_22.toInt ≤ 840 := iv_eq1 i_23 c_24
          have k_30 := congrArg Int32.toInt c_24
          refine lv_aload_n hx hb dX12_step_23 rfl (lv_at hl 0 rfl) ?_
          refine gM_77 hx hb htg hown hK hP dX12_step_24 ?_
          refine lv_iload_n hx hb dX12_step_27 rfl (lv_at hl 1 rfl) ?_
          refine lv_iconst (v := (-1)) hx hb dX12_step_28 (by decide) ?_
          refine sM_77 hx hb hK hP hS hd (iv_in i_19 (by decide) (by decide)) dX12_step_29 (fun H locs ar_31 ear_31 hP hS => ?_)
          have hA_ar_31 : rA ar_31 := rA_put hA_ar_2 ear_31 (iv_any _)
          obtain ⟨v_32, ev_32⟩ : ∃ z : Int32, z = x_1 + 1 := ⟨_, rfl⟩
          refine lv_iinc (v := v_32) (lv' := [(1, .int v_32), (0, .ref h)]) hx hb dX12_step_30 hl (k := 1) rfl (by rw [ev_32]; rfl) (by decide) rfl (fun ls hl => ?_)
          have t_33 : v_32.toInt = x_1.toInt + 1 ∧ 1 ≤ v_32.toInt ∧ v_32.toInt ≤ 20 := iv_addc ev_32 i_19 (by decide) (by decide) (by decide)
          refine lv_goto (tgt := 2) hx hb dX12_step_33 (by decide) ?_
          have z_411 : 0 ≤ (fv 34).toInt ∧ (fv 34).toInt ≤ 20 := hF_fv 34
          exact ih_13 v_32 ar_31 _ _ ls (by omega) (iv_w t_33.2 (by decide) (by decide)) hA_ar_31 (fA_put (fA_call (fA_rf [77] _) fa_3 (by decide)) ear_31 (by decide)) (mF_fr hp_4 (fM_rf [] _) (fA_put (fA_rf [77] _) ear_31 (by decide)) rfl rfl) (mm_c_fr hp_5 (fM_rf [] _) (fA_put (fA_rf [77] _) ear_31 (by decide)) rfl rfl) (mm_9_fr hp_6 (fM_rf [] _) (fA_put (fA_rf [77] _) ear_31 (by decide)) rfl rfl) (mm_L_fr hp_7 (fM_rf [] _) (fA_put (fA_rf [77] _) ear_31 (by decide)) rfl rfl rfl rfl rfl rfl rfl rfl rfl rfl) (mm_R_fr hp_8 (fM_rf [] _) (fA_put (fA_rf [77] _) ear_31 (by decide)) rfl rfl rfl rfl rfl rfl rfl rfl rfl rfl rfl) (sW_fr hp_9 (fA_put (fA_rf [77] _) ear_31 (by decide)) rfl rfl) (vM_fr hp_10 (fM_rf [] _) (fA_put (fA_rf [77] _) ear_31 (by decide)) rfl rfl rfl rfl rfl) (by rw [show v_32.toInt.toNat = (x_1.toInt.toNat) + 1 from by omega]; show _ = mo_xl2 (fv 85).toInt (mo_fo (mo_xl2 (fv 85).toInt) (mm_T fv ar) (x_1.toInt.toNat)) (x_1.toInt.toNat); rw [← q_11]; unfold mo_xl2; have hs11 : mm_T fv ar_2 11 (x_1.toInt.toNat) = v_22 := (by show ar_2 77 (x_1.toInt.toNat) = _; exact ((show v_22 = ar_2 77 (x_1.toInt.toNat) from by rw [ev_22]; exact congrArg (ar_2 77) (show x_1.toInt.toNat = (x_1.toInt.toNat) from by omega))).symm); rw [hs11, if_pos (by omega)]; exact (mm_T_put (f := fv) (r := 11) (n := (x_1.toInt.toNat)) (by decide) (by decide) ear_31)) (by have h32 := (show (0 : Int) ≤ (fv 34).toInt ∧ (fv 34).toInt ≤ 20 from hF_fv 34); omega) hP hS (lv_sub hl [1, 0] rfl)
  · skip
    have z_412 : (0 : Int32).toInt = 0 := by decide
    have z_413 : 0 ≤ (fv 34).toInt ∧ (fv 34).toInt ≤ 20 := hF_fv 34
    exact hj_15 21 0 ar _ _ ls (by first | decide | omega) (iv_w (⟨by decide, by decide⟩ : (0 : Int) ≤ (0 : Int32).toInt ∧ (0 : Int32).toInt ≤ 0) (by decide) (by decide)) hA_ar (fA_rf [77] _) hp_mF hp_nC hp_nG hp_nL hp_nR hp_sW hp_vM (by rw [show (0 : Int32).toInt.toNat = 0 from by decide]; rfl) (by have h32 := (show (0 : Int) ≤ (fv 34).toInt ∧ (fv 34).toInt ≤ 20 from hF_fv 34); omega) hP hS (lv_sub hl [1, 0] rfl)

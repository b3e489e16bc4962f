theorem dX12_readCond_0 : decode cX12_readCond 0 = .ok (.aload_n 0, 1) := by decide +kernel
theorem dX12_readCond_1 : decode cX12_readCond 1 = .ok (.iconst 0, 1) := by decide +kernel
theorem dX12_readCond_2 : decode cX12_readCond 2 = .ok (.putfield 340, 3) := by decide +kernel
theorem dX12_readCond_5 : decode cX12_readCond 5 = .ok (.aload_n 0, 1) := by decide +kernel
theorem dX12_readCond_6 : decode cX12_readCond 6 = .ok (.invokevirtual 372, 3) := by decide +kernel
theorem dX12_readCond_9 : decode cX12_readCond 9 = .ok (.ifCond .ne 5, 3) := by decide +kernel
theorem dX12_readCond_12 : decode cX12_readCond 12 = .ok (.iconst 0, 1) := by decide +kernel
theorem dX12_readCond_13 : decode cX12_readCond 13 = .ok (.ireturn, 1) := by decide +kernel
theorem dX12_readCond_14 : decode cX12_readCond 14 = .ok (.aload_n 0, 1) := by decide +kernel
theorem dX12_readCond_15 : decode cX12_readCond 15 = .ok (.bipush 41, 2) := by decide +kernel
theorem dX12_readCond_17 : decode cX12_readCond 17 = .ok (.invokevirtual 354, 3) := by decide +kernel
theorem dX12_readCond_20 : decode cX12_readCond 20 = .ok (.ifCond .eq 49, 3) := by decide +kernel
theorem dX12_readCond_23 : decode cX12_readCond 23 = .ok (.aload_n 0, 1) := by decide +kernel
theorem dX12_readCond_24 : decode cX12_readCond 24 = .ok (.invokevirtual 375, 3) := by decide +kernel
theorem dX12_readCond_27 : decode cX12_readCond 27 = .ok (.ifCond .eq 42, 3) := by decide +kernel
theorem dX12_readCond_30 : decode cX12_readCond 30 = .ok (.aload_n 0, 1) := by decide +kernel
theorem dX12_readCond_31 : decode cX12_readCond 31 = .ok (.bipush 13, 2) := by decide +kernel
theorem dX12_readCond_33 : decode cX12_readCond 33 = .ok (.bipush 14, 2) := by decide +kernel
theorem dX12_readCond_35 : decode cX12_readCond 35 = .ok (.invokevirtual 378, 3) := by decide +kernel
theorem dX12_readCond_38 : decode cX12_readCond 38 = .ok (.aload_n 0, 1) := by decide +kernel
theorem dX12_readCond_39 : decode cX12_readCond 39 = .ok (.dup, 1) := by decide +kernel
theorem dX12_readCond_40 : decode cX12_readCond 40 = .ok (.getfield 340, 3) := by decide +kernel
theorem dX12_readCond_43 : decode cX12_readCond 43 = .ok (.iconst 1, 1) := by decide +kernel
theorem dX12_readCond_44 : decode cX12_readCond 44 = .ok (.isub, 1) := by decide +kernel
theorem dX12_readCond_45 : decode cX12_readCond 45 = .ok (.putfield 340, 3) := by decide +kernel
theorem dX12_readCond_48 : decode cX12_readCond 48 = .ok (.aload_n 0, 1) := by decide +kernel
theorem dX12_readCond_49 : decode cX12_readCond 49 = .ok (.dup, 1) := by decide +kernel
theorem dX12_readCond_50 : decode cX12_readCond 50 = .ok (.getfield 363, 3) := by decide +kernel
theorem dX12_readCond_53 : decode cX12_readCond 53 = .ok (.iconst 1, 1) := by decide +kernel
theorem dX12_readCond_54 : decode cX12_readCond 54 = .ok (.isub, 1) := by decide +kernel
theorem dX12_readCond_55 : decode cX12_readCond 55 = .ok (.putfield 363, 3) := by decide +kernel
theorem dX12_readCond_58 : decode cX12_readCond 58 = .ok (.aload_n 0, 1) := by decide +kernel
theorem dX12_readCond_59 : decode cX12_readCond 59 = .ok (.invokevirtual 366, 3) := by decide +kernel
theorem dX12_readCond_62 : decode cX12_readCond 62 = .ok (.aload_n 0, 1) := by decide +kernel
theorem dX12_readCond_63 : decode cX12_readCond 63 = .ok (.invokevirtual 369, 3) := by decide +kernel
theorem dX12_readCond_66 : decode cX12_readCond 66 = .ok (.goto (-52), 3) := by decide +kernel
theorem dX12_readCond_69 : decode cX12_readCond 69 = .ok (.aload_n 0, 1) := by decide +kernel
theorem dX12_readCond_70 : decode cX12_readCond 70 = .ok (.bipush 97, 2) := by decide +kernel
theorem dX12_readCond_72 : decode cX12_readCond 72 = .ok (.bipush 110, 2) := by decide +kernel
theorem dX12_readCond_74 : decode cX12_readCond 74 = .ok (.bipush 100, 2) := by decide +kernel
theorem dX12_readCond_76 : decode cX12_readCond 76 = .ok (.iconst 0, 1) := by decide +kernel
theorem dX12_readCond_77 : decode cX12_readCond 77 = .ok (.iconst 0, 1) := by decide +kernel
theorem dX12_readCond_78 : decode cX12_readCond 78 = .ok (.invokestatic 323, 3) := by decide +kernel
theorem dX12_readCond_81 : decode cX12_readCond 81 = .ok (.invokevirtual 327, 3) := by decide +kernel
theorem dX12_readCond_84 : decode cX12_readCond 84 = .ok (.istore_n 1, 1) := by decide +kernel
theorem dX12_readCond_85 : decode cX12_readCond 85 = .ok (.iload_n 1, 1) := by decide +kernel
theorem dX12_readCond_86 : decode cX12_readCond 86 = .ok (.ifCond .ne 43, 3) := by decide +kernel
theorem dX12_readCond_89 : decode cX12_readCond 89 = .ok (.aload_n 0, 1) := by decide +kernel
theorem dX12_readCond_90 : decode cX12_readCond 90 = .ok (.bipush 111, 2) := by decide +kernel
theorem dX12_readCond_92 : decode cX12_readCond 92 = .ok (.bipush 114, 2) := by decide +kernel
theorem dX12_readCond_94 : decode cX12_readCond 94 = .ok (.iconst 0, 1) := by decide +kernel
theorem dX12_readCond_95 : decode cX12_readCond 95 = .ok (.iconst 0, 1) := by decide +kernel
theorem dX12_readCond_96 : decode cX12_readCond 96 = .ok (.iconst 0, 1) := by decide +kernel
theorem dX12_readCond_97 : decode cX12_readCond 97 = .ok (.invokestatic 323, 3) := by decide +kernel
theorem dX12_readCond_100 : decode cX12_readCond 100 = .ok (.invokevirtual 327, 3) := by decide +kernel
theorem dX12_readCond_103 : decode cX12_readCond 103 = .ok (.ifCond .ne 26, 3) := by decide +kernel
theorem dX12_readCond_106 : decode cX12_readCond 106 = .ok (.aload_n 0, 1) := by decide +kernel
theorem dX12_readCond_107 : decode cX12_readCond 107 = .ok (.invokevirtual 375, 3) := by decide +kernel
theorem dX12_readCond_110 : decode cX12_readCond 110 = .ok (.ifCond .eq 9, 3) := by decide +kernel
theorem dX12_readCond_113 : decode cX12_readCond 113 = .ok (.aload_n 0, 1) := by decide +kernel
theorem dX12_readCond_114 : decode cX12_readCond 114 = .ok (.iconst 1, 1) := by decide +kernel
theorem dX12_readCond_115 : decode cX12_readCond 115 = .ok (.invokevirtual 357, 3) := by decide +kernel
theorem dX12_readCond_118 : decode cX12_readCond 118 = .ok (.ireturn, 1) := by decide +kernel
theorem dX12_readCond_119 : decode cX12_readCond 119 = .ok (.aload_n 0, 1) := by decide +kernel
theorem dX12_readCond_120 : decode cX12_readCond 120 = .ok (.bipush 13, 2) := by decide +kernel
theorem dX12_readCond_122 : decode cX12_readCond 122 = .ok (.bipush 14, 2) := by decide +kernel
theorem dX12_readCond_124 : decode cX12_readCond 124 = .ok (.invokevirtual 378, 3) := by decide +kernel
theorem dX12_readCond_127 : decode cX12_readCond 127 = .ok (.iconst 1, 1) := by decide +kernel
theorem dX12_readCond_128 : decode cX12_readCond 128 = .ok (.ireturn, 1) := by decide +kernel
theorem dX12_readCond_129 : decode cX12_readCond 129 = .ok (.aload_n 0, 1) := by decide +kernel
theorem dX12_readCond_130 : decode cX12_readCond 130 = .ok (.bipush 13, 2) := by decide +kernel
theorem dX12_readCond_132 : decode cX12_readCond 132 = .ok (.iload_n 1, 1) := by decide +kernel
theorem dX12_readCond_133 : decode cX12_readCond 133 = .ok (.ifCond .eq 8, 3) := by decide +kernel
theorem dX12_readCond_136 : decode cX12_readCond 136 = .ok (.bipush 13, 2) := by decide +kernel
theorem dX12_readCond_138 : decode cX12_readCond 138 = .ok (.goto 5, 3) := by decide +kernel
theorem dX12_readCond_141 : decode cX12_readCond 141 = .ok (.bipush 14, 2) := by decide +kernel
theorem dX12_readCond_143 : decode cX12_readCond 143 = .ok (.invokevirtual 378, 3) := by decide +kernel
theorem dX12_readCond_146 : decode cX12_readCond 146 = .ok (.aload_n 0, 1) := by decide +kernel
theorem dX12_readCond_147 : decode cX12_readCond 147 = .ok (.getfield 118, 3) := by decide +kernel
theorem dX12_readCond_150 : decode cX12_readCond 150 = .ok (.aload_n 0, 1) := by decide +kernel
theorem dX12_readCond_151 : decode cX12_readCond 151 = .ok (.getfield 340, 3) := by decide +kernel
theorem dX12_readCond_154 : decode cX12_readCond 154 = .ok (.iload_n 1, 1) := by decide +kernel
theorem dX12_readCond_155 : decode cX12_readCond 155 = .ok (.ifCond .eq 8, 3) := by decide +kernel
theorem dX12_readCond_158 : decode cX12_readCond 158 = .ok (.bipush 13, 2) := by decide +kernel
theorem dX12_readCond_160 : decode cX12_readCond 160 = .ok (.goto 5, 3) := by decide +kernel
theorem dX12_readCond_163 : decode cX12_readCond 163 = .ok (.bipush 14, 2) := by decide +kernel
theorem dX12_readCond_165 : decode cX12_readCond 165 = .ok (.iastore, 1) := by decide +kernel
theorem dX12_readCond_166 : decode cX12_readCond 166 = .ok (.aload_n 0, 1) := by decide +kernel
theorem dX12_readCond_167 : decode cX12_readCond 167 = .ok (.dup, 1) := by decide +kernel
theorem dX12_readCond_168 : decode cX12_readCond 168 = .ok (.getfield 340, 3) := by decide +kernel
theorem dX12_readCond_171 : decode cX12_readCond 171 = .ok (.iconst 1, 1) := by decide +kernel
theorem dX12_readCond_172 : decode cX12_readCond 172 = .ok (.iadd, 1) := by decide +kernel
theorem dX12_readCond_173 : decode cX12_readCond 173 = .ok (.putfield 340, 3) := by decide +kernel
theorem dX12_readCond_176 : decode cX12_readCond 176 = .ok (.aload_n 0, 1) := by decide +kernel
theorem dX12_readCond_177 : decode cX12_readCond 177 = .ok (.invokevirtual 366, 3) := by decide +kernel
theorem dX12_readCond_180 : decode cX12_readCond 180 = .ok (.goto (-175), 3) := by decide +kernel
set_option maxHeartbeats 4000000 in
set_option maxRecDepth 100000 in
theorem m_readCond (l : Launch) (dC : Nat → ClassId) (dI : Nat → Nat → Nat) (sz h : Nat) (ad : Nat → Nat) (cA : Nat → ClassId) (hd : dM h ad) (fv : Nat → Int32) (wd : Int64) (ar : Nat → Nat → Int32) (hF_fv : rF fv) (hA_ar : rA ar) (n1 : (fv 60).toInt ≤ 2 * (fv 62).toInt) (n2 : 0 ≤ (fv 63).toInt + (fv 62).toInt) (hp_vM : vM fv ar) : Met l yX12_readCond (.code yX12_readCond cX12_readCond 2 (some .boolean) :: lw_good) ({ frames := 5, cells := 0, slots := 0, locals := 108 }) (va_Pc [.ref h] (prM dC dI h ad cA fv wd ar sz)) (va_Qi (fun (r : Int32) (u : mS) => rF u.1 ∧ rA u.2.2 ∧ fM [38, 39, 40, 41, 42, 43, 44, 60, 61, 62, 63] fv u.1 ∧ fA [54, 55, 56, 57] ar u.2.2 ∧ (0 ≤ r.toInt ∧ r.toInt ≤ 1) ∧ ((r = 0 ∧ True) ∨ (r = 1 ∧ (vP (u.2.2 54) (1200 + (fv 60).toInt.toNat) (1200 + (u.1 60).toInt.toNat)) ∧ (pK (1200 + (fv 60).toInt.toNat) (ar 54) (u.2.2 54)) ∧ ((fv 60).toInt ≤ (u.1 60).toInt) ∧ ((u.1 60).toInt ≤ 2 * (u.1 62).toInt) ∧ (0 ≤ (u.1 63).toInt + (u.1 62).toInt))) ∧ (vM u.1 u.2.2) ∧ True) (enM dC dI h ad cA) (aM h ad sz)) 0 0 (aM h ad sz) := by
  refine Met.ofW (cc := cX12_readCond) (maxL := 2) (ret := (some .boolean)) (by decide) rfl ?_
  intro p e s m args below meth c s₁ B hml hv
  obtain ⟨rfl, hsz, hP, hK⟩ := hv
  have hx := B.exec
  have hb := B.bytes
  have hr := B.returns
  have hts := atoms_spec (ws := (.code yX12_readCond cX12_readCond 2 (some .boolean) :: lw_good)) B.pre
  have htg : ∀ w ∈ lw_good, w.before _ s = true := fun w hw => hts w (List.mem_cons_of_mem _ hw)
  have hown : s.vm.findClass RX12 = some m.cls := findClass_of_methodNamed B.named
  have hlocks := B.notSynchronized
  subst hsz
  have hS : va_S (aM h ad s.heap.size) s.heap s.heap [] := va_S.rf
  have hl := lv_entry ([.ref h]) (n := 2) (Nat.le_of_ble_eq_true rfl)
  rw [lg_entry_eq]
  generalize (lg_sl ([.ref h]) ++ List.replicate (2 - (lg_sl ([.ref h])).length) Slot.unset).toArray = ls at hl ⊢
  have hl : lv_has ls 2 [(0, .ref h)] := hl
  refine lv_aload_n hx hb dX12_readCond_0 rfl (lv_at hl 0 rfl) ?_
  refine lv_iconst (v := 0) hx hb dX12_readCond_1 (by decide) ?_
  refine pM_61 hx hb htg hown hK hP hS hd dX12_readCond_2 (fun H locs fv_1 efv_1 hP hS => ?_)
  have hF_fv_1 : rF fv_1 := rF_put hF_fv efv_1 (iv_w (⟨by decide, by decide⟩ : (0 : Int) ≤ (0 : Int32).toInt ∧ (0 : Int32).toInt ≤ 0) (by decide) (by decide))
  obtain ⟨FF, hFF⟩ : ∃ z : Nat, z = (1200 + (fv 60).toInt.toNat) := ⟨_, rfl⟩
  obtain ⟨g0, hg0⟩ : ∃ z : Nat → Int32, z = ar 54 := ⟨_, rfl⟩
  have z_2 : (fv_1 60).toInt = (fv 60).toInt := congrArg Int32.toInt ((congrFun efv_1 60))
  have z_3 : 0 ≤ (fv_1 60).toInt ∧ (fv_1 60).toInt ≤ 120 := hF_fv_1 60
  have z_4 : (fv_1 61).toInt = (0 : Int32).toInt := congrArg Int32.toInt ((congrFun efv_1 61))
  have z_5 : (0 : Int32).toInt = 0 := by decide
  have z_6 : 0 ≤ (fv_1 61).toInt ∧ (fv_1 61).toInt ≤ 64 := hF_fv_1 61
  have z_7 : (fv_1 62).toInt = (fv 62).toInt := congrArg Int32.toInt ((congrFun efv_1 62))
  have z_8 : 0 ≤ (fv_1 62).toInt ∧ (fv_1 62).toInt ≤ 50 := hF_fv_1 62
  have z_9 : (fv_1 63).toInt = (fv 63).toInt := congrArg Int32.toInt ((congrFun efv_1 63))
  have z_10 : (-100) ≤ (fv_1 63).toInt ∧ (fv_1 63).toInt ≤ 10 := hF_fv_1 63
  have hp_11 : cX FF g0 0 (fv_1 60).toInt (fv_1 61).toInt (fv_1 62).toInt (fv_1 63).toInt (ar 54) (ar 57) := (by rw [hg0]; exact cX_start (by omega) (by omega) (by rw [hFF]; omega) (by omega) (by omega) (by omega) (by omega))
  refine my_cut (P := fun R9 a9 Q9 => ∀ (n_20 : Nat) (fv_12 : Nat → Int32) (ar_14 : Nat → Nat → Int32) (wd_16 : Int64) (H : Heap) (locs : List Loc) (ls : Array Slot), 50 - (fv_12 62).toInt < (n_20 : Int) → rF fv_12 → fM [38, 39, 40, 41, 42, 43, 44, 60, 61, 62, 63] fv_1 fv_12 → rA ar_14 → fA [54, 55, 56, 57] ar ar_14 → cX FF g0 0 (fv_12 60).toInt (fv_12 61).toInt (fv_12 62).toInt (fv_12 63).toInt (ar_14 54) (ar_14 57) → vM fv_12 ar_14 → (0 ≤ (fv_12 62).toInt ∧ (fv_12 62).toInt ≤ 50) → va_P (dC, dI) vwCl (wsM h ad cA fv_12 wd_16 ar_14) H → va_S (aM h ad s.heap.size) s.heap H locs → lv_has ls 2 [(0, .ref h)] → W p l e R9 s m a9 below meth c H locs 0 0 Q9 (F0 m 5 ls [])) ?_ (fun hj_22 => ?_)
  · intro n_20
    induction n_20 with
    | zero => intro fv_12 ar_14 wd_16 H locs ls fu_21 hF_fv_12 fr_13 hA_ar_14 fa_15 hp_17 hp_18 q_19; exfalso; omega
    | succ n_20 ih_20 =>
      intro fv_12 ar_14 wd_16 H locs ls fu_21 hF_fv_12 fr_13 hA_ar_14 fa_15 hp_17 hp_18 q_19 hP hS hl
      refine lv_aload_n hx hb dX12_readCond_5 rfl (lv_at hl 0 rfl) ?_
      have z_23 : 0 ≤ (fv_12 62).toInt ∧ (fv_12 62).toInt ≤ 50 := hF_fv_12 62
      refine va_calli (va_runV (As := []) (rest := []) ⟨hx, hb, hml, hown, hts⟩ (m_readOne l dC dI H.size h ad cA hd fv_12 wd_16 ar_14 hF_fv_12 hA_ar_14 FF g0 hp_17 hp_18) (cwV 0 hts (gV kw_8_106 kw_8_108 kw_p_72 kw_1_15 kw_8_109) rfl rfl rfl (by decide +kernel) ⟨Nat.le_of_ble_eq_true rfl, Nat.le_of_ble_eq_true rfl⟩) ⟨fun a U g mk q => ⟨q.1, q.2.1, q.2.2.1, va_K.moved (u := U) (U := U.calling g mk a) (Vm.Alike.refl U.vm) q.2.2.2⟩, va_recv hK hP (ci := 12) (q0 := 0) rfl rfl, fun U hU hW => ⟨rfl, by rw [hU], by rw [hU]; exact hP, va_K.moved hW.alike hK⟩⟩ rfl rfl hl.1 rfl (lv_room (Nat.le_of_ble_eq_true rfl)) dX12_readCond_6 ⟨Nat.le_of_ble_eq_true rfl, Nat.le_of_ble_eq_true rfl⟩) hS (fun q _ h9 => aM_up hS q h9) (aM_up hS) (fun r_24 u t H1 locs ht _ hw hB _ hk1 hS => ?_)
      obtain ⟨fv_28, wd_29, ar_30⟩ := u
      obtain ⟨hF_fv_28, hA_ar_30, fr_31, fa_32, p_25, p_26, p_27, -⟩ := hw
      have hP : va_P (dC, dI) vwCl (wsM h ad cA fv_28 wd_29 ar_30) H1 := by have h9 := hB.1; rw [ht] at h9; exact h9
      have fr_31 : fM [38, 39, 40, 41, 42, 43, 44, 60, 61, 62, 63] fv_12 fv_28 := fr_31
      have fa_32 : fA [54, 55, 56, 57] ar_14 ar_30 := fa_32
      have p_27 : vM fv_28 ar_30 := p_27
      generalize H1 = H at hP hS ⊢
      rcases p_26 with ⟨rfl, p_26⟩ | ⟨rfl, p_26⟩
      · skip
        refine lv_if_ne (tgt := 14) hx hb dX12_readCond_9 (by decide) (fun c_33 => ?_) (fun c_33 => ?_)
        · skip
          exact absurd c_33 (by decide)
        · skip
          refine lv_iconst (v := 0) hx hb dX12_readCond_12 (by decide) ?_
          exact W.zret (v := 0) hx hb hr (by decide) (fun t ht hW => ⟨⟨0, (fv_28, wd_29, ar_30), rfl, ⟨hF_fv_28, hA_ar_30, (fM_call (fM_call (fM_put (fM_rf [38, 39, 40, 41, 42, 43, 44, 60, 61, 62, 63] _) efv_1 (by decide)) fr_13 (by decide)) fr_31 (by decide)), (fA_call (fA_call (fA_rf [54, 55, 56, 57] _) fa_15 (by decide)) fa_32 (by decide)), (iv_w (⟨by decide, by decide⟩ : (0 : Int) ≤ (0 : Int32).toInt ∧ (0 : Int32).toInt ≤ 0) (by decide) (by decide)), (Or.inl ⟨rfl, trivial⟩), p_27, trivial⟩, ⟨by rw [ht]; exact hP, va_K.moved hW.alike hK⟩⟩, hS.F ht⟩) hS.2.2 dX12_readCond_13
      · skip
        have hp_34 : cX FF g0 1 (fv_28 60).toInt (fv_28 61).toInt (fv_28 62).toInt (fv_28 63).toInt (ar_30 54) (ar_30 57) := p_26.1
        have q_35 : (fv_12 62).toInt + 1 ≤ (fv_28 62).toInt := p_26.2
        refine lv_if_ne (tgt := 14) hx hb dX12_readCond_9 (by decide) (fun c_36 => ?_) (fun c_36 => ?_)
        · skip
          refine my_cut (P := fun R9 a9 Q9 => ∀ (n_45 : Nat) (fv_37 : Nat → Int32) (ar_39 : Nat → Nat → Int32) (wd_41 : Int64) (H : Heap) (locs : List Loc) (ls : Array Slot), (fv_37 61).toInt < (n_45 : Int) → rF fv_37 → fM [38, 39, 40, 41, 42, 60, 61, 63] fv_28 fv_37 → rA ar_39 → fA [54, 55, 56] ar_30 ar_39 → cX FF g0 1 (fv_37 60).toInt (fv_37 61).toInt (fv_37 62).toInt (fv_37 63).toInt (ar_39 54) (ar_39 57) → vM fv_37 ar_39 → (0 ≤ (fv_37 61).toInt ∧ (fv_37 61).toInt ≤ 64) → va_P (dC, dI) vwCl (wsM h ad cA fv_37 wd_41 ar_39) H → va_S (aM h ad s.heap.size) s.heap H locs → lv_has ls 2 [(0, .ref h)] → W p l e R9 s m a9 below meth c H locs 0 0 Q9 (F0 m 14 ls [])) ?_ (fun hj_47 => ?_)
          · intro n_45
            induction n_45 with
            | zero => intro fv_37 ar_39 wd_41 H locs ls fu_46 hF_fv_37 fr_38 hA_ar_39 fa_40 hp_42 hp_43 q_44; exfalso; omega
            | succ n_45 ih_45 =>
              intro fv_37 ar_39 wd_41 H locs ls fu_46 hF_fv_37 fr_38 hA_ar_39 fa_40 hp_42 hp_43 q_44 hP hS hl
              have z_48 : 0 ≤ (fv_37 60).toInt ∧ (fv_37 60).toInt ≤ 120 := hF_fv_37 60
              have z_49 : 0 ≤ (fv_37 61).toInt ∧ (fv_37 61).toInt ≤ 64 := hF_fv_37 61
              have z_50 : (fv_37 62).toInt = (fv_28 62).toInt := congrArg Int32.toInt ((fr_38 62 rfl))
              have z_51 : 0 ≤ (fv_37 62).toInt ∧ (fv_37 62).toInt ≤ 50 := hF_fv_37 62
              have z_52 : (-100) ≤ (fv_37 63).toInt ∧ (fv_37 63).toInt ≤ 10 := hF_fv_37 63
              have n_53 := cX_n hp_42
              refine lv_aload_n hx hb dX12_readCond_14 rfl (lv_at hl 0 rfl) ?_
              refine lv_bipush (v := 41) hx hb dX12_readCond_15 (by decide) ?_
              refine va_calli (va_runV (As := [.int 41]) (rest := []) ⟨hx, hb, hml, hown, hts⟩ (m_isSign l dC dI H.size h ad cA hd fv_37 wd_41 ar_39 hF_fv_37 hA_ar_39 41) (cwV 1 hts (gV kw_8_117 kw_8_119 kw_p_74 kw_1_15 kw_8_120) rfl rfl rfl (by decide +kernel) ⟨Nat.le_of_ble_eq_true rfl, Nat.le_of_ble_eq_true rfl⟩) ⟨fun a U g mk q => ⟨q.1, q.2.1, q.2.2.1, va_K.moved (u := U) (U := U.calling g mk a) (Vm.Alike.refl U.vm) q.2.2.2⟩, va_recv hK hP (ci := 12) (q0 := 0) rfl rfl, fun U hU hW => ⟨rfl, by rw [hU], by rw [hU]; exact hP, va_K.moved hW.alike hK⟩⟩ rfl rfl hl.1 rfl (lv_room (Nat.le_of_ble_eq_true rfl)) dX12_readCond_17 ⟨Nat.le_of_ble_eq_true rfl, Nat.le_of_ble_eq_true rfl⟩) hS (fun q _ h9 => aM_up hS q h9) (aM_up hS) (fun r_54 u t H1 locs ht _ hw hB _ hk1 hS => ?_)
              obtain ⟨fv_56, wd_57, ar_58⟩ := u
              obtain ⟨hF_fv_56, hA_ar_58, fr_59, fa_60, p_55, -⟩ := hw
              have hP : va_P (dC, dI) vwCl (wsM h ad cA fv_56 wd_57 ar_58) H1 := by have h9 := hB.1; rw [ht] at h9; exact h9
              have fr_59 : fM [] fv_37 fv_56 := fr_59
              have fa_60 : fA [] ar_39 ar_58 := fa_60
              generalize H1 = H at hP hS ⊢
              refine my_cut (P := fun R9 a9 Q9 => ∀ (fv_141 : Nat → Int32) (ar_143 : Nat → Nat → Int32) (wd_145 : Int64) (H : Heap) (locs : List Loc) (ls : Array Slot), rF fv_141 → fM [] fv_56 fv_141 → rA ar_143 → fA [] ar_58 ar_143 → cX FF g0 1 (fv_141 60).toInt (fv_141 61).toInt (fv_141 62).toInt (fv_141 63).toInt (ar_143 54) (ar_143 57) → vM fv_141 ar_143 → va_P (dC, dI) vwCl (wsM h ad cA fv_141 wd_145 ar_143) H → va_S (aM h ad s.heap.size) s.heap H locs → lv_has ls 2 [(0, .ref h)] → W p l e R9 s m a9 below meth c H locs 0 0 Q9 (F0 m 69 ls [])) ?_ (fun hj_148 => ?_)
              · intro fv_141 ar_143 wd_145 H locs ls hF_fv_141 fr_142 hA_ar_143 fa_144 hp_146 hp_147 hP hS hl
                refine lv_aload_n hx hb dX12_readCond_69 rfl (lv_at hl 0 rfl) ?_
                refine lv_bipush (v := 97) hx hb dX12_readCond_70 (by decide) ?_
                refine lv_bipush (v := 110) hx hb dX12_readCond_72 (by decide) ?_
                refine lv_bipush (v := 100) hx hb dX12_readCond_74 (by decide) ?_
                refine lv_iconst (v := 0) hx hb dX12_readCond_76 (by decide) ?_
                refine lv_iconst (v := 0) hx hb dX12_readCond_77 (by decide) ?_
                refine va_calll (va_runS (As := [.int 97, .int 110, .int 100, .int 0, .int 0]) (rest := [.ref h]) ⟨hx, hb, hml, hown, hts⟩ (m_spelt l H.size 97 110 100 0 0) (va_cwS 5 hts (gS kw_8_87 kw_8_88 kw_1_15 kw_8_89) rfl rfl rfl (by decide +kernel) ⟨Nat.le_of_ble_eq_true rfl, Nat.le_of_ble_eq_true rfl⟩) ⟨fun a U g mk q => ⟨q.1, q.2⟩, fun U hU hW => ⟨rfl, congrArg Array.size hU⟩⟩ rfl rfl hl.1 rfl (lv_room (Nat.le_of_ble_eq_true rfl)) dX12_readCond_78 ⟨Nat.le_of_ble_eq_true rfl, Nat.le_of_ble_eq_true rfl⟩) hS (fun q _ h9 => nM_up hS q h9) (nM_up hS) (fun r_149 u t H1 locs ht _ hw hB _ hk1 hS => ?_)
                have hP := my_keepM hP hk1
                generalize H1 = H at hP hS ⊢
                refine va_calli (va_runV (As := [.long r_149]) (rest := []) ⟨hx, hb, hml, hown, hts⟩ (m_isKey l dC dI H.size h ad cA hd fv_141 wd_145 ar_143 hF_fv_141 hA_ar_143 r_149) (cwV 1 hts (gV kw_8_90 kw_8_92 kw_p_68 kw_1_15 kw_8_93) rfl rfl rfl (by decide +kernel) ⟨Nat.le_of_ble_eq_true rfl, Nat.le_of_ble_eq_true rfl⟩) ⟨fun a U g mk q => ⟨q.1, q.2.1, q.2.2.1, va_K.moved (u := U) (U := U.calling g mk a) (Vm.Alike.refl U.vm) q.2.2.2⟩, va_recv hK hP (ci := 12) (q0 := 0) rfl rfl, fun U hU hW => ⟨rfl, by rw [hU], by rw [hU]; exact hP, va_K.moved hW.alike hK⟩⟩ rfl rfl hl.1 rfl (lv_room (Nat.le_of_ble_eq_true rfl)) dX12_readCond_81 ⟨Nat.le_of_ble_eq_true rfl, Nat.le_of_ble_eq_true rfl⟩) hS (fun q _ h9 => aM_up hS q h9) (aM_up hS) (fun r_150 u t H1 locs ht _ hw hB _ hk1 hS => ?_)
                obtain ⟨fv_152, wd_153, ar_154⟩ := u
                obtain ⟨hF_fv_152, hA_ar_154, fr_155, fa_156, p_151, -⟩ := hw
                have hP : va_P (dC, dI) vwCl (wsM h ad cA fv_152 wd_153 ar_154) H1 := by have h9 := hB.1; rw [ht] at h9; exact h9
                have fr_155 : fM [] fv_141 fv_152 := fr_155
                have fa_156 : fA [] ar_143 ar_154 := fa_156
                generalize H1 = H at hP hS ⊢
                refine lv_istore_n (lv' := [(1, .int r_150), (0, .ref h)]) hx hb dX12_readCond_84 rfl hl (by decide) rfl (fun ls hl => ?_)
                refine lv_iload_n hx hb dX12_readCond_85 rfl (lv_at hl 0 rfl) ?_
                refine lv_if_ne (tgt := 129) hx hb dX12_readCond_86 (by decide) (fun c_157 => ?_) (fun c_157 => ?_)
                · skip
                  have i_158 : 1 ≤ r_150.toInt ∧ r_150.toInt ≤ 1 := iv_nel p_151 (by decide) c_157
                  have k_159 : ¬ r_150.toInt = 0 := fun q => c_157 (Int32.toInt_inj.mp q)
                  refine lv_aload_n hx hb dX12_readCond_129 rfl (lv_at hl 1 rfl) ?_
                  refine lv_bipush (v := 13) hx hb dX12_readCond_130 (by decide) ?_
                  refine lv_iload_n hx hb dX12_readCond_132 rfl (lv_at hl 0 rfl) ?_
                  refine lv_if_eq (tgt := 141) hx hb dX12_readCond_133 (by decide) (fun c_160 => ?_) (fun c_160 => ?_)
                  · skip
                    exact absurd True.intro (by have h7 := i_158; have h8 := (⟨by decide, by decide⟩ : (0 : Int) ≤ (0 : Int32).toInt ∧ (0 : Int32).toInt ≤ 0); have h9 := congrArg Int32.toInt c_160; exfalso; omega)
                  · skip
                    have k_161 : ¬ r_150.toInt = 0 := fun q => c_160 (Int32.toInt_inj.mp q)
                    refine lv_bipush (v := 13) hx hb dX12_readCond_136 (by decide) ?_
                    refine lv_goto (tgt := 143) hx hb dX12_readCond_138 (by decide) ?_
                    have z_162 : (fv_152 61).toInt = (fv_37 61).toInt := congrArg Int32.toInt ((fr_155 61 rfl).trans ((fr_142 61 rfl).trans ((fr_59 61 rfl))))
                    have z_163 : 0 ≤ (fv_152 61).toInt ∧ (fv_152 61).toInt ≤ 64 := hF_fv_152 61
                    refine va_callv (va_runV (As := [.int 13, .int 13]) (rest := []) ⟨hx, hb, hml, hown, hts⟩ (m_drop l dC dI H.size h ad cA hd fv_152 wd_153 ar_154 hF_fv_152 hA_ar_154 FF g0 13 13 (⟨by decide, by decide⟩ : (13 : Int) ≤ (13 : Int32).toInt ∧ (13 : Int32).toInt ≤ 13) (iv_w (⟨by decide, by decide⟩ : (13 : Int) ≤ (13 : Int32).toInt ∧ (13 : Int32).toInt ≤ 13) (by decide) (by decide)) (cX_fr hp_146 (fM_call (fM_rf [] _) fr_155 (by decide)) (fA_call (fA_rf [] _) fa_156 (by decide)) rfl rfl rfl rfl rfl rfl) (vM_fr hp_147 (fM_call (fM_rf [] _) fr_155 (by decide)) (fA_call (fA_rf [] _) fa_156 (by decide)) rfl rfl rfl rfl rfl)) (cwV 2 hts (gV kw_8_133 kw_8_135 kw_p_78 kw_1_15 kw_8_136) rfl rfl rfl (by decide +kernel) ⟨Nat.le_of_ble_eq_true rfl, Nat.le_of_ble_eq_true rfl⟩) ⟨fun a U g mk q => ⟨q.1, q.2.1, q.2.2.1, va_K.moved (u := U) (U := U.calling g mk a) (Vm.Alike.refl U.vm) q.2.2.2⟩, va_recv hK hP (ci := 12) (q0 := 0) rfl rfl, fun U hU hW => ⟨rfl, by rw [hU], by rw [hU]; exact hP, va_K.moved hW.alike hK⟩⟩ rfl rfl hl.1 rfl (lv_room (Nat.le_of_ble_eq_true rfl)) dX12_readCond_143 ⟨Nat.le_of_ble_eq_true rfl, Nat.le_of_ble_eq_true rfl⟩) hS (fun q _ h9 => aM_up hS q h9) (aM_up hS) (fun u t H1 locs ht _ hw hB _ hk1 hS => ?_)
                    obtain ⟨fv_170, wd_171, ar_172⟩ := u
                    obtain ⟨hF_fv_170, hA_ar_172, fr_173, fa_174, p_165, p_166, p_167, p_168, p_169, -⟩ := hw
                    have hP : va_P (dC, dI) vwCl (wsM h ad cA fv_170 wd_171 ar_172) H1 := by have h9 := hB.1; rw [ht] at h9; exact h9
                    have fr_173 : fM [60, 61] fv_152 fv_170 := fr_173
                    have fa_174 : fA [54, 55, 56] ar_154 ar_172 := fa_174
                    have p_168 : cX FF g0 1 (fv_170 60).toInt (fv_170 61).toInt (fv_170 62).toInt (fv_170 63).toInt (ar_172 54) (ar_172 57) := p_168
                    have p_169 : vM fv_170 ar_172 := p_169
                    have p_165 : (fv_170 61).toInt ≤ (fv_152 61).toInt := p_165
                    have p_166 : ∀ j : Nat, (j : Int) < (fv_152 61).toInt → (ar_154 57 j).toInt = 15 → (j : Int) < (fv_170 61).toInt := p_166
                    have p_167 : (fv_170 61).toInt = 0 ∨ (ar_154 57 ((fv_170 61).toInt - 1).toNat).toInt < (13 : Int32).toInt ∨ (13 : Int32).toInt < (ar_154 57 ((fv_170 61).toInt - 1).toNat).toInt := p_167
                    generalize H1 = H at hP hS ⊢
                    have z_175 : 0 ≤ (fv_170 60).toInt ∧ (fv_170 60).toInt ≤ 120 := hF_fv_170 60
                    have z_176 : 0 ≤ (fv_170 61).toInt ∧ (fv_170 61).toInt ≤ 64 := hF_fv_170 61
                    have z_177 : (fv_170 62).toInt = (fv_28 62).toInt := congrArg Int32.toInt ((fr_173 62 rfl).trans ((fr_155 62 rfl).trans ((fr_142 62 rfl).trans ((fr_59 62 rfl).trans ((fr_38 62 rfl))))))
                    have z_178 : 0 ≤ (fv_170 62).toInt ∧ (fv_170 62).toInt ≤ 50 := hF_fv_170 62
                    have z_179 : (fv_170 63).toInt = (fv_37 63).toInt := congrArg Int32.toInt ((fr_173 63 rfl).trans ((fr_155 63 rfl).trans ((fr_142 63 rfl).trans ((fr_59 63 rfl)))))
                    have z_180 : (-100) ≤ (fv_170 63).toInt ∧ (fv_170 63).toInt ≤ 10 := hF_fv_170 63
                    have n_181 := cX_n p_168
                    refine lv_aload_n hx hb dX12_readCond_146 rfl (lv_at hl 1 rfl) ?_
                    refine gM_57 hx hb htg hown hK hP dX12_readCond_147 ?_
                    refine lv_aload_n hx hb dX12_readCond_150 rfl (lv_at hl 1 rfl) ?_
                    refine gM_61 hx hb htg hown hK hP dX12_readCond_151 ?_
                    have i_182 : 0 ≤ (fv_170 61).toInt ∧ (fv_170 61).toInt ≤ 64 := hF_fv_170 61
                    refine lv_iload_n hx hb dX12_readCond_154 rfl (lv_at hl 0 rfl) ?_
                    refine lv_if_eq (tgt := 163) hx hb dX12_readCond_155 (by decide) (fun c_183 => ?_) (fun c_183 => ?_)
                    · skip
                      exact absurd True.intro (by have h7 := i_158; have h8 := (⟨by decide, by decide⟩ : (0 : Int) ≤ (0 : Int32).toInt ∧ (0 : Int32).toInt ≤ 0); have h9 := congrArg Int32.toInt c_183; exfalso; omega)
                    · skip
                      have k_184 : ¬ r_150.toInt = 0 := fun q => c_183 (Int32.toInt_inj.mp q)
                      refine lv_bipush (v := 13) hx hb dX12_readCond_158 (by decide) ?_
                      refine lv_goto (tgt := 165) hx hb dX12_readCond_160 (by decide) ?_
                      refine sM_57 hx hb hK hP hS hd (vp_in_iff.mpr (by omega)) dX12_readCond_165 (fun H locs ar_185 ear_185 hP hS => ?_)
                      have hA_ar_185 : rA ar_185 := rA_put hA_ar_172 ear_185 (iv_w (⟨by decide, by decide⟩ : (13 : Int) ≤ (13 : Int32).toInt ∧ (13 : Int32).toInt ≤ 13) (by decide) (by decide))
                      refine lv_aload_n hx hb dX12_readCond_166 rfl (lv_at hl 1 rfl) ?_
                      refine lv_dup hx hb dX12_readCond_167 rfl ?_
                      refine gM_61 hx hb htg hown hK hP dX12_readCond_168 ?_
                      refine lv_iconst (v := 1) hx hb dX12_readCond_171 (by decide) ?_
                      refine lv_iadd hx hb dX12_readCond_172 ?_
                      refine lv_topi (fun v_186 ev_186 => ?_)
                      have t_187 : v_186.toInt = (fv_170 61).toInt + 1 ∧ 1 ≤ v_186.toInt ∧ v_186.toInt ≤ 65 := iv_addc ev_186 i_182 (by decide) (by decide) (by decide)
                      have i_189 : 0 ≤ v_186.toInt ∧ v_186.toInt ≤ 64 := (by omega)
                      refine pM_61 hx hb htg hown hK hP hS hd dX12_readCond_173 (fun H locs fv_190 efv_190 hP hS => ?_)
                      have hF_fv_190 : rF fv_190 := rF_put hF_fv_170 efv_190 i_189
                      have z_191 : (fv_190 60).toInt = (fv_170 60).toInt := congrArg Int32.toInt ((congrFun efv_190 60))
                      have z_192 : 0 ≤ (fv_190 60).toInt ∧ (fv_190 60).toInt ≤ 120 := hF_fv_190 60
                      have z_193 : (fv_190 61).toInt = v_186.toInt := congrArg Int32.toInt ((congrFun efv_190 61))
                      have z_194 : 0 ≤ (fv_190 61).toInt ∧ (fv_190 61).toInt ≤ 64 := hF_fv_190 61
                      have z_195 : (fv_190 62).toInt = (fv_28 62).toInt := congrArg Int32.toInt ((congrFun efv_190 62).trans ((fr_173 62 rfl).trans ((fr_155 62 rfl).trans ((fr_142 62 rfl).trans ((fr_59 62 rfl).trans ((fr_38 62 rfl)))))))
                      have z_196 : 0 ≤ (fv_190 62).toInt ∧ (fv_190 62).toInt ≤ 50 := hF_fv_190 62
                      have z_197 : (fv_190 63).toInt = (fv_37 63).toInt := congrArg Int32.toInt ((congrFun efv_190 63).trans ((fr_173 63 rfl).trans ((fr_155 63 rfl).trans ((fr_142 63 rfl).trans ((fr_59 63 rfl))))))
                      have z_198 : (-100) ≤ (fv_190 63).toInt ∧ (fv_190 63).toInt ≤ 10 := hF_fv_190 63
                      have g_199 : ar_185 57 = upd (ar_172 57) ((fv_170 61).toInt.toNat) (13 : Int32) := by rw [ear_185]; rfl
                      have hp_200 : cX FF g0 0 (fv_190 60).toInt (fv_190 61).toInt (fv_190 62).toInt (fv_190 63).toInt (ar_185 54) (ar_185 57) := cX_eq (cX_op (x := (13 : Int32)) (pl1 := ar_185 57) (pl := ar_172 57) (i := (fv_170 61).toInt.toNat) p_168 (by first | decide | omega) (p1 := (fv_190 60).toInt) (t1 := (fv_190 61).toInt) (o1 := (fv_190 62).toInt) (w1 := (fv_190 63).toInt) (by omega) (by omega) (by omega) (by omega) (by omega) (by rw [g_199])) rfl rfl rfl rfl ((fA_put (fA_rf [57] _) ear_185 (by decide)) 54 rfl) rfl
                      refine lv_aload_n hx hb dX12_readCond_176 rfl (lv_at hl 1 rfl) ?_
                      refine va_callv (va_runV (As := []) (rest := []) ⟨hx, hb, hml, hown, hts⟩ (m_go l dC dI H.size h ad cA hd fv_190 wd_171 ar_185 hF_fv_190 hA_ar_185) (cwV 0 hts (gV kw_8_60 kw_8_62 kw_p_64 kw_1_15 kw_8_63) rfl rfl rfl (by decide +kernel) ⟨Nat.le_of_ble_eq_true rfl, Nat.le_of_ble_eq_true rfl⟩) ⟨fun a U g mk q => ⟨q.1, q.2.1, q.2.2.1, va_K.moved (u := U) (U := U.calling g mk a) (Vm.Alike.refl U.vm) q.2.2.2⟩, va_recv hK hP (ci := 12) (q0 := 0) rfl rfl, fun U hU hW => ⟨rfl, by rw [hU], by rw [hU]; exact hP, va_K.moved hW.alike hK⟩⟩ rfl rfl hl.1 rfl (lv_room (Nat.le_of_ble_eq_true rfl)) dX12_readCond_177 ⟨Nat.le_of_ble_eq_true rfl, Nat.le_of_ble_eq_true rfl⟩) hS (fun q _ h9 => aM_up hS q h9) (aM_up hS) (fun u t H1 locs ht _ hw hB _ hk1 hS => ?_)
                      obtain ⟨fv_202, wd_203, ar_204⟩ := u
                      obtain ⟨hF_fv_202, hA_ar_204, fr_205, fa_206, -⟩ := hw
                      have hP : va_P (dC, dI) vwCl (wsM h ad cA fv_202 wd_203 ar_204) H1 := by have h9 := hB.1; rw [ht] at h9; exact h9
                      have fr_205 : fM [38, 39, 40, 41, 42] fv_190 fv_202 := fr_205
                      have fa_206 : fA [] ar_185 ar_204 := fa_206
                      generalize H1 = H at hP hS ⊢
                      refine lv_goto (tgt := 5) hx hb dX12_readCond_180 (by decide) ?_
                      have z_310 : (fv_202 62).toInt = (fv_28 62).toInt := congrArg Int32.toInt ((fr_205 62 rfl).trans ((congrFun efv_190 62).trans ((fr_173 62 rfl).trans ((fr_155 62 rfl).trans ((fr_142 62 rfl).trans ((fr_59 62 rfl).trans ((fr_38 62 rfl))))))))
                      have z_311 : 0 ≤ (fv_202 62).toInt ∧ (fv_202 62).toInt ≤ 50 := hF_fv_202 62
                      exact ih_20 fv_202 ar_204 wd_203 _ _ ls (by omega) hF_fv_202 (fM_call (fM_put (fM_call (fM_call (fM_call (fM_call (fM_call (fM_call (fM_call (fM_rf [38, 39, 40, 41, 42, 43, 44, 60, 61, 62, 63] _) fr_13 (by decide)) fr_31 (by decide)) fr_38 (by decide)) fr_59 (by decide)) fr_142 (by decide)) fr_155 (by decide)) fr_173 (by decide)) efv_190 (by decide)) fr_205 (by decide)) hA_ar_204 (fA_call (fA_put (fA_call (fA_call (fA_call (fA_call (fA_call (fA_call (fA_call (fA_rf [54, 55, 56, 57] _) fa_15 (by decide)) fa_32 (by decide)) fa_40 (by decide)) fa_60 (by decide)) fa_144 (by decide)) fa_156 (by decide)) fa_174 (by decide)) ear_185 (by decide)) fa_206 (by decide)) (cX_fr hp_200 (fM_call (fM_rf [38, 39, 40, 41, 42] _) fr_205 (by decide)) (fA_call (fA_rf [] _) fa_206 (by decide)) rfl rfl rfl rfl rfl rfl) (vM_fr p_169 (fM_call (fM_put (fM_rf [38, 39, 40, 41, 42, 61] _) efv_190 (by decide)) fr_205 (by decide)) (fA_call (fA_put (fA_rf [57] _) ear_185 (by decide)) fa_206 (by decide)) rfl rfl rfl rfl rfl) (by omega) hP hS (lv_sub hl [1] rfl)
                · skip
                  have i_207 : 0 ≤ r_150.toInt ∧ r_150.toInt ≤ 0 := iv_eq1 (⟨by decide, by decide⟩ : (0 : Int) ≤ (0 : Int32).toInt ∧ (0 : Int32).toInt ≤ 0) c_157
                  refine lv_aload_n hx hb dX12_readCond_89 rfl (lv_at hl 1 rfl) ?_
                  refine lv_bipush (v := 111) hx hb dX12_readCond_90 (by decide) ?_
                  refine lv_bipush (v := 114) hx hb dX12_readCond_92 (by decide) ?_
                  refine lv_iconst (v := 0) hx hb dX12_readCond_94 (by decide) ?_
                  refine lv_iconst (v := 0) hx hb dX12_readCond_95 (by decide) ?_
                  refine lv_iconst (v := 0) hx hb dX12_readCond_96 (by decide) ?_
                  refine va_calll (va_runS (As := [.int 111, .int 114, .int 0, .int 0, .int 0]) (rest := [.ref h]) ⟨hx, hb, hml, hown, hts⟩ (m_spelt l H.size 111 114 0 0 0) (va_cwS 5 hts (gS kw_8_87 kw_8_88 kw_1_15 kw_8_89) rfl rfl rfl (by decide +kernel) ⟨Nat.le_of_ble_eq_true rfl, Nat.le_of_ble_eq_true rfl⟩) ⟨fun a U g mk q => ⟨q.1, q.2⟩, fun U hU hW => ⟨rfl, congrArg Array.size hU⟩⟩ rfl rfl hl.1 rfl (lv_room (Nat.le_of_ble_eq_true rfl)) dX12_readCond_97 ⟨Nat.le_of_ble_eq_true rfl, Nat.le_of_ble_eq_true rfl⟩) hS (fun q _ h9 => nM_up hS q h9) (nM_up hS) (fun r_209 u t H1 locs ht _ hw hB _ hk1 hS => ?_)
                  have hP := my_keepM hP hk1
                  generalize H1 = H at hP hS ⊢
                  refine va_calli (va_runV (As := [.long r_209]) (rest := []) ⟨hx, hb, hml, hown, hts⟩ (m_isKey l dC dI H.size h ad cA hd fv_152 wd_153 ar_154 hF_fv_152 hA_ar_154 r_209) (cwV 1 hts (gV kw_8_90 kw_8_92 kw_p_68 kw_1_15 kw_8_93) rfl rfl rfl (by decide +kernel) ⟨Nat.le_of_ble_eq_true rfl, Nat.le_of_ble_eq_true rfl⟩) ⟨fun a U g mk q => ⟨q.1, q.2.1, q.2.2.1, va_K.moved (u := U) (U := U.calling g mk a) (Vm.Alike.refl U.vm) q.2.2.2⟩, va_recv hK hP (ci := 12) (q0 := 0) rfl rfl, fun U hU hW => ⟨rfl, by rw [hU], by rw [hU]; exact hP, va_K.moved hW.alike hK⟩⟩ rfl rfl hl.1 rfl (lv_room (Nat.le_of_ble_eq_true rfl)) dX12_readCond_100 ⟨Nat.le_of_ble_eq_true rfl, Nat.le_of_ble_eq_true rfl⟩) hS (fun q _ h9 => aM_up hS q h9) (aM_up hS) (fun r_210 u t H1 locs ht _ hw hB _ hk1 hS => ?_)
                  obtain ⟨fv_212, wd_213, ar_214⟩ := u
                  obtain ⟨hF_fv_212, hA_ar_214, fr_215, fa_216, p_211, -⟩ := hw
                  have hP : va_P (dC, dI) vwCl (wsM h ad cA fv_212 wd_213 ar_214) H1 := by have h9 := hB.1; rw [ht] at h9; exact h9
                  have fr_215 : fM [] fv_152 fv_212 := fr_215
                  have fa_216 : fA [] ar_154 ar_214 := fa_216
                  generalize H1 = H at hP hS ⊢
                  refine lv_if_ne (tgt := 129) hx hb dX12_readCond_103 (by decide) (fun c_217 => ?_) (fun c_217 => ?_)
                  · skip
                    have i_218 : 1 ≤ r_210.toInt ∧ r_210.toInt ≤ 1 := iv_nel p_211 (by decide) c_217
                    have k_219 : ¬ r_210.toInt = 0 := fun q => c_217 (Int32.toInt_inj.mp q)
                    refine lv_aload_n hx hb dX12_readCond_129 rfl (lv_at hl 1 rfl) ?_
                    refine lv_bipush (v := 13) hx hb dX12_readCond_130 (by decide) ?_
                    refine lv_iload_n hx hb dX12_readCond_132 rfl (lv_at hl 0 rfl) ?_
                    refine lv_if_eq (tgt := 141) hx hb dX12_readCond_133 (by decide) (fun c_220 => ?_) (fun c_220 => ?_)
                    · skip
                      refine lv_bipush (v := 14) hx hb dX12_readCond_141 (by decide) ?_
                      have z_222 : (fv_212 61).toInt = (fv_37 61).toInt := congrArg Int32.toInt ((fr_215 61 rfl).trans ((fr_155 61 rfl).trans ((fr_142 61 rfl).trans ((fr_59 61 rfl)))))
                      have z_223 : 0 ≤ (fv_212 61).toInt ∧ (fv_212 61).toInt ≤ 64 := hF_fv_212 61
                      refine va_callv (va_runV (As := [.int 13, .int 14]) (rest := []) ⟨hx, hb, hml, hown, hts⟩ (m_drop l dC dI H.size h ad cA hd fv_212 wd_213 ar_214 hF_fv_212 hA_ar_214 FF g0 13 14 (⟨by decide, by decide⟩ : (13 : Int) ≤ (13 : Int32).toInt ∧ (13 : Int32).toInt ≤ 13) (iv_w (⟨by decide, by decide⟩ : (14 : Int) ≤ (14 : Int32).toInt ∧ (14 : Int32).toInt ≤ 14) (by decide) (by decide)) (cX_fr hp_146 (fM_call (fM_call (fM_rf [] _) fr_155 (by decide)) fr_215 (by decide)) (fA_call (fA_call (fA_rf [] _) fa_156 (by decide)) fa_216 (by decide)) rfl rfl rfl rfl rfl rfl) (vM_fr hp_147 (fM_call (fM_call (fM_rf [] _) fr_155 (by decide)) fr_215 (by decide)) (fA_call (fA_call (fA_rf [] _) fa_156 (by decide)) fa_216 (by decide)) rfl rfl rfl rfl rfl)) (cwV 2 hts (gV kw_8_133 kw_8_135 kw_p_78 kw_1_15 kw_8_136) rfl rfl rfl (by decide +kernel) ⟨Nat.le_of_ble_eq_true rfl, Nat.le_of_ble_eq_true rfl⟩) ⟨fun a U g mk q => ⟨q.1, q.2.1, q.2.2.1, va_K.moved (u := U) (U := U.calling g mk a) (Vm.Alike.refl U.vm) q.2.2.2⟩, va_recv hK hP (ci := 12) (q0 := 0) rfl rfl, fun U hU hW => ⟨rfl, by rw [hU], by rw [hU]; exact hP, va_K.moved hW.alike hK⟩⟩ rfl rfl hl.1 rfl (lv_room (Nat.le_of_ble_eq_true rfl)) dX12_readCond_143 ⟨Nat.le_of_ble_eq_true rfl, Nat.le_of_ble_eq_true rfl⟩) hS (fun q _ h9 => aM_up hS q h9) (aM_up hS) (fun u t H1 locs ht _ hw hB _ hk1 hS => ?_)
                      obtain ⟨fv_230, wd_231, ar_232⟩ := u
                      obtain ⟨hF_fv_230, hA_ar_232, fr_233, fa_234, p_225, p_226, p_227, p_228, p_229, -⟩ := hw
                      have hP : va_P (dC, dI) vwCl (wsM h ad cA fv_230 wd_231 ar_232) H1 := by have h9 := hB.1; rw [ht] at h9; exact h9
                      have fr_233 : fM [60, 61] fv_212 fv_230 := fr_233
                      have fa_234 : fA [54, 55, 56] ar_214 ar_232 := fa_234
                      have p_228 : cX FF g0 1 (fv_230 60).toInt (fv_230 61).toInt (fv_230 62).toInt (fv_230 63).toInt (ar_232 54) (ar_232 57) := p_228
                      have p_229 : vM fv_230 ar_232 := p_229
                      have p_225 : (fv_230 61).toInt ≤ (fv_212 61).toInt := p_225
                      have p_226 : ∀ j : Nat, (j : Int) < (fv_212 61).toInt → (ar_214 57 j).toInt = 15 → (j : Int) < (fv_230 61).toInt := p_226
                      have p_227 : (fv_230 61).toInt = 0 ∨ (ar_214 57 ((fv_230 61).toInt - 1).toNat).toInt < (13 : Int32).toInt ∨ (14 : Int32).toInt < (ar_214 57 ((fv_230 61).toInt - 1).toNat).toInt := p_227
                      generalize H1 = H at hP hS ⊢
                      have z_235 : 0 ≤ (fv_230 60).toInt ∧ (fv_230 60).toInt ≤ 120 := hF_fv_230 60
                      have z_236 : 0 ≤ (fv_230 61).toInt ∧ (fv_230 61).toInt ≤ 64 := hF_fv_230 61
                      have z_237 : (fv_230 62).toInt = (fv_28 62).toInt := congrArg Int32.toInt ((fr_233 62 rfl).trans ((fr_215 62 rfl).trans ((fr_155 62 rfl).trans ((fr_142 62 rfl).trans ((fr_59 62 rfl).trans ((fr_38 62 rfl)))))))
                      have z_238 : 0 ≤ (fv_230 62).toInt ∧ (fv_230 62).toInt ≤ 50 := hF_fv_230 62
                      have z_239 : (fv_230 63).toInt = (fv_37 63).toInt := congrArg Int32.toInt ((fr_233 63 rfl).trans ((fr_215 63 rfl).trans ((fr_155 63 rfl).trans ((fr_142 63 rfl).trans ((fr_59 63 rfl))))))
                      have z_240 : (-100) ≤ (fv_230 63).toInt ∧ (fv_230 63).toInt ≤ 10 := hF_fv_230 63
                      have n_241 := cX_n p_228
                      refine lv_aload_n hx hb dX12_readCond_146 rfl (lv_at hl 1 rfl) ?_
                      refine gM_57 hx hb htg hown hK hP dX12_readCond_147 ?_
                      refine lv_aload_n hx hb dX12_readCond_150 rfl (lv_at hl 1 rfl) ?_
                      refine gM_61 hx hb htg hown hK hP dX12_readCond_151 ?_
                      have i_242 : 0 ≤ (fv_230 61).toInt ∧ (fv_230 61).toInt ≤ 64 := hF_fv_230 61
                      refine lv_iload_n hx hb dX12_readCond_154 rfl (lv_at hl 0 rfl) ?_
                      refine lv_if_eq (tgt := 163) hx hb dX12_readCond_155 (by decide) (fun c_243 => ?_) (fun c_243 => ?_)
                      · skip
                        refine lv_bipush (v := 14) hx hb dX12_readCond_163 (by decide) ?_
                        refine sM_57 hx hb hK hP hS hd (vp_in_iff.mpr (by omega)) dX12_readCond_165 (fun H locs ar_245 ear_245 hP hS => ?_)
                        have hA_ar_245 : rA ar_245 := rA_put hA_ar_232 ear_245 (iv_w (⟨by decide, by decide⟩ : (14 : Int) ≤ (14 : Int32).toInt ∧ (14 : Int32).toInt ≤ 14) (by decide) (by decide))
                        refine lv_aload_n hx hb dX12_readCond_166 rfl (lv_at hl 1 rfl) ?_
                        refine lv_dup hx hb dX12_readCond_167 rfl ?_
                        refine gM_61 hx hb htg hown hK hP dX12_readCond_168 ?_
                        refine lv_iconst (v := 1) hx hb dX12_readCond_171 (by decide) ?_
                        refine lv_iadd hx hb dX12_readCond_172 ?_
                        refine lv_topi (fun v_246 ev_246 => ?_)
                        have t_247 : v_246.toInt = (fv_230 61).toInt + 1 ∧ 1 ≤ v_246.toInt ∧ v_246.toInt ≤ 65 := iv_addc ev_246 i_242 (by decide) (by decide) (by decide)
                        have i_249 : 0 ≤ v_246.toInt ∧ v_246.toInt ≤ 64 := (by omega)
                        refine pM_61 hx hb htg hown hK hP hS hd dX12_readCond_173 (fun H locs fv_250 efv_250 hP hS => ?_)
                        have hF_fv_250 : rF fv_250 := rF_put hF_fv_230 efv_250 i_249
                        have z_251 : (fv_250 60).toInt = (fv_230 60).toInt := congrArg Int32.toInt ((congrFun efv_250 60))
                        have z_252 : 0 ≤ (fv_250 60).toInt ∧ (fv_250 60).toInt ≤ 120 := hF_fv_250 60
                        have z_253 : (fv_250 61).toInt = v_246.toInt := congrArg Int32.toInt ((congrFun efv_250 61))
                        have z_254 : 0 ≤ (fv_250 61).toInt ∧ (fv_250 61).toInt ≤ 64 := hF_fv_250 61
                        have z_255 : (fv_250 62).toInt = (fv_28 62).toInt := congrArg Int32.toInt ((congrFun efv_250 62).trans ((fr_233 62 rfl).trans ((fr_215 62 rfl).trans ((fr_155 62 rfl).trans ((fr_142 62 rfl).trans ((fr_59 62 rfl).trans ((fr_38 62 rfl))))))))
                        have z_256 : 0 ≤ (fv_250 62).toInt ∧ (fv_250 62).toInt ≤ 50 := hF_fv_250 62
                        have z_257 : (fv_250 63).toInt = (fv_37 63).toInt := congrArg Int32.toInt ((congrFun efv_250 63).trans ((fr_233 63 rfl).trans ((fr_215 63 rfl).trans ((fr_155 63 rfl).trans ((fr_142 63 rfl).trans ((fr_59 63 rfl)))))))
                        have z_258 : (-100) ≤ (fv_250 63).toInt ∧ (fv_250 63).toInt ≤ 10 := hF_fv_250 63
                        have g_259 : ar_245 57 = upd (ar_232 57) ((fv_230 61).toInt.toNat) (14 : Int32) := by rw [ear_245]; rfl
                        have hp_260 : cX FF g0 0 (fv_250 60).toInt (fv_250 61).toInt (fv_250 62).toInt (fv_250 63).toInt (ar_245 54) (ar_245 57) := cX_eq (cX_op (x := (14 : Int32)) (pl1 := ar_245 57) (pl := ar_232 57) (i := (fv_230 61).toInt.toNat) p_228 (by first | decide | omega) (p1 := (fv_250 60).toInt) (t1 := (fv_250 61).toInt) (o1 := (fv_250 62).toInt) (w1 := (fv_250 63).toInt) (by omega) (by omega) (by omega) (by omega) (by omega) (by rw [g_259])) rfl rfl rfl rfl ((fA_put (fA_rf [57] _) ear_245 (by decide)) 54 rfl) rfl
                        refine lv_aload_n hx hb dX12_readCond_176 rfl (lv_at hl 1 rfl) ?_
                        refine va_callv (va_runV (As := []) (rest := []) ⟨hx, hb, hml, hown, hts⟩ (m_go l dC dI H.size h ad cA hd fv_250 wd_231 ar_245 hF_fv_250 hA_ar_245) (cwV 0 hts (gV kw_8_60 kw_8_62 kw_p_64 kw_1_15 kw_8_63) rfl rfl rfl (by decide +kernel) ⟨Nat.le_of_ble_eq_true rfl, Nat.le_of_ble_eq_true rfl⟩) ⟨fun a U g mk q => ⟨q.1, q.2.1, q.2.2.1, va_K.moved (u := U) (U := U.calling g mk a) (Vm.Alike.refl U.vm) q.2.2.2⟩, va_recv hK hP (ci := 12) (q0 := 0) rfl rfl, fun U hU hW => ⟨rfl, by rw [hU], by rw [hU]; exact hP, va_K.moved hW.alike hK⟩⟩ rfl rfl hl.1 rfl (lv_room (Nat.le_of_ble_eq_true rfl)) dX12_readCond_177 ⟨Nat.le_of_ble_eq_true rfl, Nat.le_of_ble_eq_true rfl⟩) hS (fun q _ h9 => aM_up hS q h9) (aM_up hS) (fun u t H1 locs ht _ hw hB _ hk1 hS => ?_)
                        obtain ⟨fv_262, wd_263, ar_264⟩ := u
                        obtain ⟨hF_fv_262, hA_ar_264, fr_265, fa_266, -⟩ := hw
                        have hP : va_P (dC, dI) vwCl (wsM h ad cA fv_262 wd_263 ar_264) H1 := by have h9 := hB.1; rw [ht] at h9; exact h9
                        have fr_265 : fM [38, 39, 40, 41, 42] fv_250 fv_262 := fr_265
                        have fa_266 : fA [] ar_245 ar_264 := fa_266
                        generalize H1 = H at hP hS ⊢
                        refine lv_goto (tgt := 5) hx hb dX12_readCond_180 (by decide) ?_
                        have z_312 : (fv_262 62).toInt = (fv_28 62).toInt := congrArg Int32.toInt ((fr_265 62 rfl).trans ((congrFun efv_250 62).trans ((fr_233 62 rfl).trans ((fr_215 62 rfl).trans ((fr_155 62 rfl).trans ((fr_142 62 rfl).trans ((fr_59 62 rfl).trans ((fr_38 62 rfl)))))))))
                        have z_313 : 0 ≤ (fv_262 62).toInt ∧ (fv_262 62).toInt ≤ 50 := hF_fv_262 62
                        exact ih_20 fv_262 ar_264 wd_263 _ _ ls (by omega) hF_fv_262 (fM_call (fM_put (fM_call (fM_call (fM_call (fM_call (fM_call (fM_call (fM_call (fM_call (fM_rf [38, 39, 40, 41, 42, 43, 44, 60, 61, 62, 63] _) fr_13 (by decide)) fr_31 (by decide)) fr_38 (by decide)) fr_59 (by decide)) fr_142 (by decide)) fr_155 (by decide)) fr_215 (by decide)) fr_233 (by decide)) efv_250 (by decide)) fr_265 (by decide)) hA_ar_264 (fA_call (fA_put (fA_call (fA_call (fA_call (fA_call (fA_call (fA_call (fA_call (fA_call (fA_rf [54, 55, 56, 57] _) fa_15 (by decide)) fa_32 (by decide)) fa_40 (by decide)) fa_60 (by decide)) fa_144 (by decide)) fa_156 (by decide)) fa_216 (by decide)) fa_234 (by decide)) ear_245 (by decide)) fa_266 (by decide)) (cX_fr hp_260 (fM_call (fM_rf [38, 39, 40, 41, 42] _) fr_265 (by decide)) (fA_call (fA_rf [] _) fa_266 (by decide)) rfl rfl rfl rfl rfl rfl) (vM_fr p_229 (fM_call (fM_put (fM_rf [38, 39, 40, 41, 42, 61] _) efv_250 (by decide)) fr_265 (by decide)) (fA_call (fA_put (fA_rf [57] _) ear_245 (by decide)) fa_266 (by decide)) rfl rfl rfl rfl rfl) (by omega) hP hS (lv_sub hl [1] rfl)
                      · skip
                        exact absurd True.intro (by have h7 := i_207; have h8 := (⟨by decide, by decide⟩ : (0 : Int) ≤ (0 : Int32).toInt ∧ (0 : Int32).toInt ≤ 0); have h9 : ¬ _ := fun q => c_243 (Int32.toInt_inj.mp q); exfalso; omega)
                    · skip
                      exact absurd True.intro (by have h7 := i_207; have h8 := (⟨by decide, by decide⟩ : (0 : Int) ≤ (0 : Int32).toInt ∧ (0 : Int32).toInt ≤ 0); have h9 : ¬ _ := fun q => c_220 (Int32.toInt_inj.mp q); exfalso; omega)
                  · skip
                    have i_267 : 0 ≤ r_210.toInt ∧ r_210.toInt ≤ 0 := iv_eq1 (⟨by decide, by decide⟩ : (0 : Int) ≤ (0 : Int32).toInt ∧ (0 : Int32).toInt ≤ 0) c_217
                    refine lv_aload_n hx hb dX12_readCond_106 rfl (lv_at hl 1 rfl) ?_
                    refine va_calli (va_runV (As := []) (rest := []) ⟨hx, hb, hml, hown, hts⟩ (m_isOpen l dC dI H.size h ad cA hd fv_212 wd_213 ar_214 hF_fv_212 hA_ar_214) (cwV 0 hts (gV kw_8_129 kw_8_131 kw_p_77 kw_1_15 kw_8_132) rfl rfl rfl (by decide +kernel) ⟨Nat.le_of_ble_eq_true rfl, Nat.le_of_ble_eq_true rfl⟩) ⟨fun a U g mk q => ⟨q.1, q.2.1, q.2.2.1, va_K.moved (u := U) (U := U.calling g mk a) (Vm.Alike.refl U.vm) q.2.2.2⟩, va_recv hK hP (ci := 12) (q0 := 0) rfl rfl, fun U hU hW => ⟨rfl, by rw [hU], by rw [hU]; exact hP, va_K.moved hW.alike hK⟩⟩ rfl rfl hl.1 rfl (lv_room (Nat.le_of_ble_eq_true rfl)) dX12_readCond_107 ⟨Nat.le_of_ble_eq_true rfl, Nat.le_of_ble_eq_true rfl⟩) hS (fun q _ h9 => aM_up hS q h9) (aM_up hS) (fun r_269 u t H1 locs ht _ hw hB _ hk1 hS => ?_)
                    obtain ⟨fv_272, wd_273, ar_274⟩ := u
                    obtain ⟨hF_fv_272, hA_ar_274, fr_275, fa_276, p_270, p_271, -⟩ := hw
                    have hP : va_P (dC, dI) vwCl (wsM h ad cA fv_272 wd_273 ar_274) H1 := by have h9 := hB.1; rw [ht] at h9; exact h9
                    have fr_275 : fM [] fv_212 fv_272 := fr_275
                    have fa_276 : fA [] ar_214 ar_274 := fa_276
                    generalize H1 = H at hP hS ⊢
                    rcases p_271 with ⟨rfl, p_271⟩ | ⟨rfl, p_271⟩
                    · skip
                      refine lv_if_eq (tgt := 119) hx hb dX12_readCond_110 (by decide) (fun c_277 => ?_) (fun c_277 => ?_)
                      · skip
                        refine lv_aload_n hx hb dX12_readCond_119 rfl (lv_at hl 1 rfl) ?_
                        refine lv_bipush (v := 13) hx hb dX12_readCond_120 (by decide) ?_
                        refine lv_bipush (v := 14) hx hb dX12_readCond_122 (by decide) ?_
                        have z_278 : (fv_272 61).toInt = (fv_37 61).toInt := congrArg Int32.toInt ((fr_275 61 rfl).trans ((fr_215 61 rfl).trans ((fr_155 61 rfl).trans ((fr_142 61 rfl).trans ((fr_59 61 rfl))))))
                        have z_279 : 0 ≤ (fv_272 61).toInt ∧ (fv_272 61).toInt ≤ 64 := hF_fv_272 61
                        refine va_callv (va_runV (As := [.int 13, .int 14]) (rest := []) ⟨hx, hb, hml, hown, hts⟩ (m_drop l dC dI H.size h ad cA hd fv_272 wd_273 ar_274 hF_fv_272 hA_ar_274 FF g0 13 14 (⟨by decide, by decide⟩ : (13 : Int) ≤ (13 : Int32).toInt ∧ (13 : Int32).toInt ≤ 13) (iv_w (⟨by decide, by decide⟩ : (14 : Int) ≤ (14 : Int32).toInt ∧ (14 : Int32).toInt ≤ 14) (by decide) (by decide)) (cX_fr hp_146 (fM_call (fM_call (fM_call (fM_rf [] _) fr_155 (by decide)) fr_215 (by decide)) fr_275 (by decide)) (fA_call (fA_call (fA_call (fA_rf [] _) fa_156 (by decide)) fa_216 (by decide)) fa_276 (by decide)) rfl rfl rfl rfl rfl rfl) (vM_fr hp_147 (fM_call (fM_call (fM_call (fM_rf [] _) fr_155 (by decide)) fr_215 (by decide)) fr_275 (by decide)) (fA_call (fA_call (fA_call (fA_rf [] _) fa_156 (by decide)) fa_216 (by decide)) fa_276 (by decide)) rfl rfl rfl rfl rfl)) (cwV 2 hts (gV kw_8_133 kw_8_135 kw_p_78 kw_1_15 kw_8_136) rfl rfl rfl (by decide +kernel) ⟨Nat.le_of_ble_eq_true rfl, Nat.le_of_ble_eq_true rfl⟩) ⟨fun a U g mk q => ⟨q.1, q.2.1, q.2.2.1, va_K.moved (u := U) (U := U.calling g mk a) (Vm.Alike.refl U.vm) q.2.2.2⟩, va_recv hK hP (ci := 12) (q0 := 0) rfl rfl, fun U hU hW => ⟨rfl, by rw [hU], by rw [hU]; exact hP, va_K.moved hW.alike hK⟩⟩ rfl rfl hl.1 rfl (lv_room (Nat.le_of_ble_eq_true rfl)) dX12_readCond_124 ⟨Nat.le_of_ble_eq_true rfl, Nat.le_of_ble_eq_true rfl⟩) hS (fun q _ h9 => aM_up hS q h9) (aM_up hS) (fun u t H1 locs ht _ hw hB _ hk1 hS => ?_)
                        obtain ⟨fv_286, wd_287, ar_288⟩ := u
                        obtain ⟨hF_fv_286, hA_ar_288, fr_289, fa_290, p_281, p_282, p_283, p_284, p_285, -⟩ := hw
                        have hP : va_P (dC, dI) vwCl (wsM h ad cA fv_286 wd_287 ar_288) H1 := by have h9 := hB.1; rw [ht] at h9; exact h9
                        have fr_289 : fM [60, 61] fv_272 fv_286 := fr_289
                        have fa_290 : fA [54, 55, 56] ar_274 ar_288 := fa_290
                        have p_284 : cX FF g0 1 (fv_286 60).toInt (fv_286 61).toInt (fv_286 62).toInt (fv_286 63).toInt (ar_288 54) (ar_288 57) := p_284
                        have p_285 : vM fv_286 ar_288 := p_285
                        have p_281 : (fv_286 61).toInt ≤ (fv_272 61).toInt := p_281
                        have p_282 : ∀ j : Nat, (j : Int) < (fv_272 61).toInt → (ar_274 57 j).toInt = 15 → (j : Int) < (fv_286 61).toInt := p_282
                        have p_283 : (fv_286 61).toInt = 0 ∨ (ar_274 57 ((fv_286 61).toInt - 1).toNat).toInt < (13 : Int32).toInt ∨ (14 : Int32).toInt < (ar_274 57 ((fv_286 61).toInt - 1).toNat).toInt := p_283
                        generalize H1 = H at hP hS ⊢
                        have z_291 : 0 ≤ (fv_286 60).toInt ∧ (fv_286 60).toInt ≤ 120 := hF_fv_286 60
                        have z_292 : 0 ≤ (fv_286 61).toInt ∧ (fv_286 61).toInt ≤ 64 := hF_fv_286 61
                        have z_293 : (fv_286 62).toInt = (fv_28 62).toInt := congrArg Int32.toInt ((fr_289 62 rfl).trans ((fr_275 62 rfl).trans ((fr_215 62 rfl).trans ((fr_155 62 rfl).trans ((fr_142 62 rfl).trans ((fr_59 62 rfl).trans ((fr_38 62 rfl))))))))
                        have z_294 : 0 ≤ (fv_286 62).toInt ∧ (fv_286 62).toInt ≤ 50 := hF_fv_286 62
                        have z_295 : (fv_286 63).toInt = (fv_37 63).toInt := congrArg Int32.toInt ((fr_289 63 rfl).trans ((fr_275 63 rfl).trans ((fr_215 63 rfl).trans ((fr_155 63 rfl).trans ((fr_142 63 rfl).trans ((fr_59 63 rfl)))))))
                        have z_296 : (-100) ≤ (fv_286 63).toInt ∧ (fv_286 63).toInt ≤ 10 := hF_fv_286 63
                        have n_297 := cX_n p_284
                        refine lv_iconst (v := 1) hx hb dX12_readCond_127 (by decide) ?_
                        exact W.zret (v := 1) hx hb hr (by decide) (fun t ht hW => ⟨⟨1, (fv_286, wd_287, ar_288), rfl, ⟨hF_fv_286, hA_ar_288, (fM_call (fM_call (fM_call (fM_call (fM_call (fM_call (fM_call (fM_call (fM_call (fM_put (fM_rf [38, 39, 40, 41, 42, 43, 44, 60, 61, 62, 63] _) efv_1 (by decide)) fr_13 (by decide)) fr_31 (by decide)) fr_38 (by decide)) fr_59 (by decide)) fr_142 (by decide)) fr_155 (by decide)) fr_215 (by decide)) fr_275 (by decide)) fr_289 (by decide)), (fA_call (fA_call (fA_call (fA_call (fA_call (fA_call (fA_call (fA_call (fA_call (fA_rf [54, 55, 56, 57] _) fa_15 (by decide)) fa_32 (by decide)) fa_40 (by decide)) fa_60 (by decide)) fa_144 (by decide)) fa_156 (by decide)) fa_216 (by decide)) fa_276 (by decide)) fa_290 (by decide)), (iv_w (⟨by decide, by decide⟩ : (1 : Int) ≤ (1 : Int32).toInt ∧ (1 : Int32).toInt ≤ 1) (by decide) (by decide)), (Or.inr (⟨rfl, ⟨by rw [← hFF]; exact (p_284).2.2.2.1, by rw [← hFF, ← hg0]; exact (p_284).2.2.1, show (fv 60).toInt ≤ (fv_286 60).toInt from by have h9 := (p_284).2.1; omega, show (fv_286 60).toInt ≤ 2 * (fv_286 62).toInt from by omega, show 0 ≤ (fv_286 63).toInt + (fv_286 62).toInt from by omega⟩⟩)), p_285, trivial⟩, ⟨by rw [ht]; exact hP, va_K.moved hW.alike hK⟩⟩, hS.F ht⟩) hS.2.2 dX12_readCond_128
                      · skip
                        exact absurd c_277 (by decide)
                    · skip
                      have q_298 : ∃ j : Nat, (j : Int) < (fv_212 61).toInt ∧ (ar_214 57 j).toInt = 15 := p_271
                      refine lv_if_eq (tgt := 119) hx hb dX12_readCond_110 (by decide) (fun c_299 => ?_) (fun c_299 => ?_)
                      · skip
                        exact absurd c_299 (by decide)
                      · skip
                        refine lv_aload_n hx hb dX12_readCond_113 rfl (lv_at hl 1 rfl) ?_
                        refine lv_iconst (v := 1) hx hb dX12_readCond_114 (by decide) ?_
                        refine va_calli (va_runV (As := [.int 1]) (rest := []) ⟨hx, hb, hml, hown, hts⟩ (m_bad l dC dI H.size h ad cA hd fv_272 wd_273 ar_274 hF_fv_272 hA_ar_274 1) (cwV 1 hts (gV kw_8_94 kw_8_96 kw_p_69 kw_1_15 kw_8_97) rfl rfl rfl (by decide +kernel) ⟨Nat.le_of_ble_eq_true rfl, Nat.le_of_ble_eq_true rfl⟩) ⟨fun a U g mk q => ⟨q.1, q.2.1, q.2.2.1, va_K.moved (u := U) (U := U.calling g mk a) (Vm.Alike.refl U.vm) q.2.2.2⟩, va_recv hK hP (ci := 12) (q0 := 0) rfl rfl, fun U hU hW => ⟨rfl, by rw [hU], by rw [hU]; exact hP, va_K.moved hW.alike hK⟩⟩ rfl rfl hl.1 rfl (lv_room (Nat.le_of_ble_eq_true rfl)) dX12_readCond_115 ⟨Nat.le_of_ble_eq_true rfl, Nat.le_of_ble_eq_true rfl⟩) hS (fun q _ h9 => aM_up hS q h9) (aM_up hS) (fun r_300 u t H1 locs ht _ hw hB _ hk1 hS => ?_)
                        obtain ⟨fv_303, wd_304, ar_305⟩ := u
                        obtain ⟨hF_fv_303, hA_ar_305, fr_306, fa_307, p_301, p_302, -⟩ := hw
                        have hP : va_P (dC, dI) vwCl (wsM h ad cA fv_303 wd_304 ar_305) H1 := by have h9 := hB.1; rw [ht] at h9; exact h9
                        have fr_306 : fM [43, 44] fv_272 fv_303 := fr_306
                        have fa_307 : fA [] ar_274 ar_305 := fa_307
                        generalize H1 = H at hP hS ⊢
                        rcases p_302 with ⟨rfl, p_302⟩
                        · skip
                          exact W.zret (v := 0) hx hb hr (by decide) (fun t ht hW => ⟨⟨0, (fv_303, wd_304, ar_305), rfl, ⟨hF_fv_303, hA_ar_305, (fM_call (fM_call (fM_call (fM_call (fM_call (fM_call (fM_call (fM_call (fM_call (fM_put (fM_rf [38, 39, 40, 41, 42, 43, 44, 60, 61, 62, 63] _) efv_1 (by decide)) fr_13 (by decide)) fr_31 (by decide)) fr_38 (by decide)) fr_59 (by decide)) fr_142 (by decide)) fr_155 (by decide)) fr_215 (by decide)) fr_275 (by decide)) fr_306 (by decide)), (fA_call (fA_call (fA_call (fA_call (fA_call (fA_call (fA_call (fA_call (fA_call (fA_rf [54, 55, 56, 57] _) fa_15 (by decide)) fa_32 (by decide)) fa_40 (by decide)) fa_60 (by decide)) fa_144 (by decide)) fa_156 (by decide)) fa_216 (by decide)) fa_276 (by decide)) fa_307 (by decide)), (iv_w (⟨by decide, by decide⟩ : (0 : Int) ≤ (0 : Int32).toInt ∧ (0 : Int32).toInt ≤ 0) (by decide) (by decide)), (Or.inl ⟨rfl, trivial⟩), (vM_fr hp_147 (fM_call (fM_call (fM_call (fM_call (fM_rf [43, 44] _) fr_155 (by decide)) fr_215 (by decide)) fr_275 (by decide)) fr_306 (by decide)) (fA_call (fA_call (fA_call (fA_call (fA_rf [] _) fa_156 (by decide)) fa_216 (by decide)) fa_276 (by decide)) fa_307 (by decide)) rfl rfl rfl rfl rfl), trivial⟩, ⟨by rw [ht]; exact hP, va_K.moved hW.alike hK⟩⟩, hS.F ht⟩) hS.2.2 dX12_readCond_118
              · skip
                refine lv_if_eq (tgt := 69) hx hb dX12_readCond_20 (by decide) (fun c_61 => ?_) (fun c_61 => ?_)
                · skip
                  have i_62 : 0 ≤ r_54.toInt ∧ r_54.toInt ≤ 0 := iv_eq1 (⟨by decide, by decide⟩ : (0 : Int) ≤ (0 : Int32).toInt ∧ (0 : Int32).toInt ≤ 0) c_61
                  exact hj_148 fv_56 ar_58 wd_57 _ _ ls hF_fv_56 (fM_rf [] _) hA_ar_58 (fA_rf [] _) (cX_fr hp_42 (fM_call (fM_rf [] _) fr_59 (by decide)) (fA_call (fA_rf [] _) fa_60 (by decide)) rfl rfl rfl rfl rfl rfl) (vM_fr hp_43 (fM_call (fM_rf [] _) fr_59 (by decide)) (fA_call (fA_rf [] _) fa_60 (by decide)) rfl rfl rfl rfl rfl) hP hS (lv_sub hl [0] rfl)
                · skip
                  have i_64 : 1 ≤ r_54.toInt ∧ r_54.toInt ≤ 1 := iv_nel p_55 (by decide) c_61
                  have k_65 : ¬ r_54.toInt = 0 := fun q => c_61 (Int32.toInt_inj.mp q)
                  refine lv_aload_n hx hb dX12_readCond_23 rfl (lv_at hl 0 rfl) ?_
                  have z_66 : (fv_56 61).toInt = (fv_37 61).toInt := congrArg Int32.toInt ((fr_59 61 rfl))
                  have z_67 : 0 ≤ (fv_56 61).toInt ∧ (fv_56 61).toInt ≤ 64 := hF_fv_56 61
                  refine va_calli (va_runV (As := []) (rest := []) ⟨hx, hb, hml, hown, hts⟩ (m_isOpen l dC dI H.size h ad cA hd fv_56 wd_57 ar_58 hF_fv_56 hA_ar_58) (cwV 0 hts (gV kw_8_129 kw_8_131 kw_p_77 kw_1_15 kw_8_132) rfl rfl rfl (by decide +kernel) ⟨Nat.le_of_ble_eq_true rfl, Nat.le_of_ble_eq_true rfl⟩) ⟨fun a U g mk q => ⟨q.1, q.2.1, q.2.2.1, va_K.moved (u := U) (U := U.calling g mk a) (Vm.Alike.refl U.vm) q.2.2.2⟩, va_recv hK hP (ci := 12) (q0 := 0) rfl rfl, fun U hU hW => ⟨rfl, by rw [hU], by rw [hU]; exact hP, va_K.moved hW.alike hK⟩⟩ rfl rfl hl.1 rfl (lv_room (Nat.le_of_ble_eq_true rfl)) dX12_readCond_24 ⟨Nat.le_of_ble_eq_true rfl, Nat.le_of_ble_eq_true rfl⟩) hS (fun q _ h9 => aM_up hS q h9) (aM_up hS) (fun r_68 u t H1 locs ht _ hw hB _ hk1 hS => ?_)
                  obtain ⟨fv_71, wd_72, ar_73⟩ := u
                  obtain ⟨hF_fv_71, hA_ar_73, fr_74, fa_75, p_69, p_70, -⟩ := hw
                  have hP : va_P (dC, dI) vwCl (wsM h ad cA fv_71 wd_72 ar_73) H1 := by have h9 := hB.1; rw [ht] at h9; exact h9
                  have fr_74 : fM [] fv_56 fv_71 := fr_74
                  have fa_75 : fA [] ar_58 ar_73 := fa_75
                  generalize H1 = H at hP hS ⊢
                  rcases p_70 with ⟨rfl, p_70⟩ | ⟨rfl, p_70⟩
                  · skip
                    refine lv_if_eq (tgt := 69) hx hb dX12_readCond_27 (by decide) (fun c_76 => ?_) (fun c_76 => ?_)
                    · skip
                      exact hj_148 fv_71 ar_73 wd_72 _ _ ls hF_fv_71 (fM_call (fM_rf [] _) fr_74 (by decide)) hA_ar_73 (fA_call (fA_rf [] _) fa_75 (by decide)) (cX_fr hp_42 (fM_call (fM_call (fM_rf [] _) fr_59 (by decide)) fr_74 (by decide)) (fA_call (fA_call (fA_rf [] _) fa_60 (by decide)) fa_75 (by decide)) rfl rfl rfl rfl rfl rfl) (vM_fr hp_43 (fM_call (fM_call (fM_rf [] _) fr_59 (by decide)) fr_74 (by decide)) (fA_call (fA_call (fA_rf [] _) fa_60 (by decide)) fa_75 (by decide)) rfl rfl rfl rfl rfl) hP hS (lv_sub hl [0] rfl)
                    · skip
                      exact absurd c_76 (by decide)
                  · skip
                    have q_77 : ∃ j : Nat, (j : Int) < (fv_56 61).toInt ∧ (ar_58 57 j).toInt = 15 := p_70
                    refine lv_if_eq (tgt := 69) hx hb dX12_readCond_27 (by decide) (fun c_78 => ?_) (fun c_78 => ?_)
                    · skip
                      exact absurd c_78 (by decide)
                    · skip
                      refine lv_aload_n hx hb dX12_readCond_30 rfl (lv_at hl 0 rfl) ?_
                      refine lv_bipush (v := 13) hx hb dX12_readCond_31 (by decide) ?_
                      refine lv_bipush (v := 14) hx hb dX12_readCond_33 (by decide) ?_
                      have z_79 : (fv_71 61).toInt = (fv_37 61).toInt := congrArg Int32.toInt ((fr_74 61 rfl).trans ((fr_59 61 rfl)))
                      have z_80 : 0 ≤ (fv_71 61).toInt ∧ (fv_71 61).toInt ≤ 64 := hF_fv_71 61
                      have z_81 : (fv_71 61).toInt = (fv_37 61).toInt := congrArg Int32.toInt ((fr_74 61 rfl).trans ((fr_59 61 rfl)))
                      have z_82 : 0 ≤ (fv_71 61).toInt ∧ (fv_71 61).toInt ≤ 64 := hF_fv_71 61
                      refine va_callv (va_runV (As := [.int 13, .int 14]) (rest := []) ⟨hx, hb, hml, hown, hts⟩ (m_drop l dC dI H.size h ad cA hd fv_71 wd_72 ar_73 hF_fv_71 hA_ar_73 FF g0 13 14 (⟨by decide, by decide⟩ : (13 : Int) ≤ (13 : Int32).toInt ∧ (13 : Int32).toInt ≤ 13) (iv_w (⟨by decide, by decide⟩ : (14 : Int) ≤ (14 : Int32).toInt ∧ (14 : Int32).toInt ≤ 14) (by decide) (by decide)) (cX_fr hp_42 (fM_call (fM_call (fM_rf [] _) fr_59 (by decide)) fr_74 (by decide)) (fA_call (fA_call (fA_rf [] _) fa_60 (by decide)) fa_75 (by decide)) rfl rfl rfl rfl rfl rfl) (vM_fr hp_43 (fM_call (fM_call (fM_rf [] _) fr_59 (by decide)) fr_74 (by decide)) (fA_call (fA_call (fA_rf [] _) fa_60 (by decide)) fa_75 (by decide)) rfl rfl rfl rfl rfl)) (cwV 2 hts (gV kw_8_133 kw_8_135 kw_p_78 kw_1_15 kw_8_136) rfl rfl rfl (by decide +kernel) ⟨Nat.le_of_ble_eq_true rfl, Nat.le_of_ble_eq_true rfl⟩) ⟨fun a U g mk q => ⟨q.1, q.2.1, q.2.2.1, va_K.moved (u := U) (U := U.calling g mk a) (Vm.Alike.refl U.vm) q.2.2.2⟩, va_recv hK hP (ci := 12) (q0 := 0) rfl rfl, fun U hU hW => ⟨rfl, by rw [hU], by rw [hU]; exact hP, va_K.moved hW.alike hK⟩⟩ rfl rfl hl.1 rfl (lv_room (Nat.le_of_ble_eq_true rfl)) dX12_readCond_35 ⟨Nat.le_of_ble_eq_true rfl, Nat.le_of_ble_eq_true rfl⟩) hS (fun q _ h9 => aM_up hS q h9) (aM_up hS) (fun u t H1 locs ht _ hw hB _ hk1 hS => ?_)
                      obtain ⟨fv_89, wd_90, ar_91⟩ := u
                      obtain ⟨hF_fv_89, hA_ar_91, fr_92, fa_93, p_84, p_85, p_86, p_87, p_88, -⟩ := hw
                      have hP : va_P (dC, dI) vwCl (wsM h ad cA fv_89 wd_90 ar_91) H1 := by have h9 := hB.1; rw [ht] at h9; exact h9
                      have fr_92 : fM [60, 61] fv_71 fv_89 := fr_92
                      have fa_93 : fA [54, 55, 56] ar_73 ar_91 := fa_93
                      have p_87 : cX FF g0 1 (fv_89 60).toInt (fv_89 61).toInt (fv_89 62).toInt (fv_89 63).toInt (ar_91 54) (ar_91 57) := p_87
                      have p_88 : vM fv_89 ar_91 := p_88
                      have p_84 : (fv_89 61).toInt ≤ (fv_71 61).toInt := p_84
                      have p_85 : ∀ j : Nat, (j : Int) < (fv_71 61).toInt → (ar_73 57 j).toInt = 15 → (j : Int) < (fv_89 61).toInt := p_85
                      have p_86 : (fv_89 61).toInt = 0 ∨ (ar_73 57 ((fv_89 61).toInt - 1).toNat).toInt < (13 : Int32).toInt ∨ (14 : Int32).toInt < (ar_73 57 ((fv_89 61).toInt - 1).toNat).toInt := p_86
                      generalize H1 = H at hP hS ⊢
                      have z_94 : 0 ≤ (fv_89 60).toInt ∧ (fv_89 60).toInt ≤ 120 := hF_fv_89 60
                      have z_95 : 0 ≤ (fv_89 61).toInt ∧ (fv_89 61).toInt ≤ 64 := hF_fv_89 61
                      have z_96 : (fv_89 62).toInt = (fv_28 62).toInt := congrArg Int32.toInt ((fr_92 62 rfl).trans ((fr_74 62 rfl).trans ((fr_59 62 rfl).trans ((fr_38 62 rfl)))))
                      have z_97 : 0 ≤ (fv_89 62).toInt ∧ (fv_89 62).toInt ≤ 50 := hF_fv_89 62
                      have z_98 : (fv_89 63).toInt = (fv_37 63).toInt := congrArg Int32.toInt ((fr_92 63 rfl).trans ((fr_74 63 rfl).trans ((fr_59 63 rfl))))
                      have z_99 : (-100) ≤ (fv_89 63).toInt ∧ (fv_89 63).toInt ≤ 10 := hF_fv_89 63
                      have n_100 := cX_n p_87
                      obtain ⟨j9, hj9, hj8⟩ := q_77
                      have hj7 := p_85 j9 (by omega) (by rw [((fA_call (fA_rf [] _) fa_75 (by decide)) 57 rfl)]; exact hj8)
                      have t13 : (13 : Int32).toInt = 13 := by decide
                      have t14 : (14 : Int32).toInt = 14 := by decide
                      have hj6 : ¬ ((ar_91 57 ((fv_89 61).toInt - 1).toNat).toInt = 13 ∨ (ar_91 57 ((fv_89 61).toInt - 1).toNat).toInt = 14) := by rw [((fA_call (fA_rf [54, 55, 56] _) fa_93 (by decide)) 57 rfl)]; omega
                      refine lv_aload_n hx hb dX12_readCond_38 rfl (lv_at hl 0 rfl) ?_
                      refine lv_dup hx hb dX12_readCond_39 rfl ?_
                      refine gM_61 hx hb htg hown hK hP dX12_readCond_40 ?_
                      have i_101 : 0 ≤ (fv_89 61).toInt ∧ (fv_89 61).toInt ≤ 64 := hF_fv_89 61
                      refine lv_iconst (v := 1) hx hb dX12_readCond_43 (by decide) ?_
                      refine lv_isub hx hb dX12_readCond_44 ?_
                      refine lv_topi (fun v_102 ev_102 => ?_)
                      have t_103 : v_102.toInt = (fv_89 61).toInt - 1 ∧ (-1) ≤ v_102.toInt ∧ v_102.toInt ≤ 63 := iv_subc ev_102 i_101 (by decide) (by decide) (by decide)
                      have i_105 : 0 ≤ v_102.toInt ∧ v_102.toInt ≤ 64 := (by omega)
                      refine pM_61 hx hb htg hown hK hP hS hd dX12_readCond_45 (fun H locs fv_106 efv_106 hP hS => ?_)
                      have hF_fv_106 : rF fv_106 := rF_put hF_fv_89 efv_106 i_105
                      refine lv_aload_n hx hb dX12_readCond_48 rfl (lv_at hl 0 rfl) ?_
                      refine lv_dup hx hb dX12_readCond_49 rfl ?_
                      refine gM_63 hx hb htg hown hK hP dX12_readCond_50 ?_
                      refine my_ti (y := fv_37 63) ((congrFun efv_106 63).trans ((fr_92 63 rfl).trans ((fr_74 63 rfl).trans ((fr_59 63 rfl))))) ?_
                      have i_107 : (-100) ≤ (fv_37 63).toInt ∧ (fv_37 63).toInt ≤ 10 := hF_fv_37 63
                      refine lv_iconst (v := 1) hx hb dX12_readCond_53 (by decide) ?_
                      refine lv_isub hx hb dX12_readCond_54 ?_
                      refine lv_topi (fun v_108 ev_108 => ?_)
                      have t_109 : v_108.toInt = (fv_37 63).toInt - 1 ∧ (-101) ≤ v_108.toInt ∧ v_108.toInt ≤ 9 := iv_subc ev_108 i_107 (by decide) (by decide) (by decide)
                      have i_111 : (-100) ≤ v_108.toInt ∧ v_108.toInt ≤ 10 := (by omega)
                      refine pM_63 hx hb htg hown hK hP hS hd dX12_readCond_55 (fun H locs fv_112 efv_112 hP hS => ?_)
                      have hF_fv_112 : rF fv_112 := rF_put hF_fv_106 efv_112 i_111
                      have z_113 : (fv_112 60).toInt = (fv_89 60).toInt := congrArg Int32.toInt ((congrFun efv_112 60).trans ((congrFun efv_106 60)))
                      have z_114 : 0 ≤ (fv_112 60).toInt ∧ (fv_112 60).toInt ≤ 120 := hF_fv_112 60
                      have z_115 : (fv_112 61).toInt = v_102.toInt := congrArg Int32.toInt ((congrFun efv_112 61).trans ((congrFun efv_106 61)))
                      have z_116 : 0 ≤ (fv_112 61).toInt ∧ (fv_112 61).toInt ≤ 64 := hF_fv_112 61
                      have z_117 : (fv_112 62).toInt = (fv_28 62).toInt := congrArg Int32.toInt ((congrFun efv_112 62).trans ((congrFun efv_106 62).trans ((fr_92 62 rfl).trans ((fr_74 62 rfl).trans ((fr_59 62 rfl).trans ((fr_38 62 rfl)))))))
                      have z_118 : 0 ≤ (fv_112 62).toInt ∧ (fv_112 62).toInt ≤ 50 := hF_fv_112 62
                      have z_119 : (fv_112 63).toInt = v_108.toInt := congrArg Int32.toInt ((congrFun efv_112 63))
                      have z_120 : (-100) ≤ (fv_112 63).toInt ∧ (fv_112 63).toInt ≤ 10 := hF_fv_112 63
                      have hp_121 : cX FF g0 1 (fv_112 60).toInt (fv_112 61).toInt (fv_112 62).toInt (fv_112 63).toInt (ar_91 54) (ar_91 57) := cX_eq (cX_pop p_87 (by omega) hj6 (p1 := (fv_112 60).toInt) (t1 := (fv_112 61).toInt) (o1 := (fv_112 62).toInt) (w1 := (fv_112 63).toInt) (by omega) (by omega) (by omega) (by omega)) rfl rfl rfl rfl rfl rfl
                      refine lv_aload_n hx hb dX12_readCond_58 rfl (lv_at hl 0 rfl) ?_
                      refine va_callv (va_runV (As := []) (rest := []) ⟨hx, hb, hml, hown, hts⟩ (m_go l dC dI H.size h ad cA hd fv_112 wd_90 ar_91 hF_fv_112 hA_ar_91) (cwV 0 hts (gV kw_8_60 kw_8_62 kw_p_64 kw_1_15 kw_8_63) rfl rfl rfl (by decide +kernel) ⟨Nat.le_of_ble_eq_true rfl, Nat.le_of_ble_eq_true rfl⟩) ⟨fun a U g mk q => ⟨q.1, q.2.1, q.2.2.1, va_K.moved (u := U) (U := U.calling g mk a) (Vm.Alike.refl U.vm) q.2.2.2⟩, va_recv hK hP (ci := 12) (q0 := 0) rfl rfl, fun U hU hW => ⟨rfl, by rw [hU], by rw [hU]; exact hP, va_K.moved hW.alike hK⟩⟩ rfl rfl hl.1 rfl (lv_room (Nat.le_of_ble_eq_true rfl)) dX12_readCond_59 ⟨Nat.le_of_ble_eq_true rfl, Nat.le_of_ble_eq_true rfl⟩) hS (fun q _ h9 => aM_up hS q h9) (aM_up hS) (fun u t H1 locs ht _ hw hB _ hk1 hS => ?_)
                      obtain ⟨fv_123, wd_124, ar_125⟩ := u
                      obtain ⟨hF_fv_123, hA_ar_125, fr_126, fa_127, -⟩ := hw
                      have hP : va_P (dC, dI) vwCl (wsM h ad cA fv_123 wd_124 ar_125) H1 := by have h9 := hB.1; rw [ht] at h9; exact h9
                      have fr_126 : fM [38, 39, 40, 41, 42] fv_112 fv_123 := fr_126
                      have fa_127 : fA [] ar_91 ar_125 := fa_127
                      generalize H1 = H at hP hS ⊢
                      refine lv_aload_n hx hb dX12_readCond_62 rfl (lv_at hl 0 rfl) ?_
                      have z_128 : (fv_123 61).toInt = v_102.toInt := congrArg Int32.toInt ((fr_126 61 rfl).trans ((congrFun efv_112 61).trans ((congrFun efv_106 61))))
                      have z_129 : 0 ≤ (fv_123 61).toInt ∧ (fv_123 61).toInt ≤ 64 := hF_fv_123 61
                      have z_130 : (fv_123 61).toInt = v_102.toInt := congrArg Int32.toInt ((fr_126 61 rfl).trans ((congrFun efv_112 61).trans ((congrFun efv_106 61))))
                      have z_131 : 0 ≤ (fv_123 61).toInt ∧ (fv_123 61).toInt ≤ 64 := hF_fv_123 61
                      refine va_callv (va_runV (As := []) (rest := []) ⟨hx, hb, hml, hown, hts⟩ (m_dropNots l dC dI H.size h ad cA hd fv_123 wd_124 ar_125 hF_fv_123 hA_ar_125 FF g0 (cX_fr hp_121 (fM_call (fM_rf [38, 39, 40, 41, 42] _) fr_126 (by decide)) (fA_call (fA_rf [] _) fa_127 (by decide)) rfl rfl rfl rfl rfl rfl) (vM_fr p_88 (fM_call (fM_put (fM_put (fM_rf [38, 39, 40, 41, 42, 61, 63] _) efv_106 (by decide)) efv_112 (by decide)) fr_126 (by decide)) (fA_call (fA_rf [] _) fa_127 (by decide)) rfl rfl rfl rfl rfl)) (cwV 0 hts (gV kw_8_125 kw_8_127 kw_p_76 kw_1_15 kw_8_128) rfl rfl rfl (by decide +kernel) ⟨Nat.le_of_ble_eq_true rfl, Nat.le_of_ble_eq_true rfl⟩) ⟨fun a U g mk q => ⟨q.1, q.2.1, q.2.2.1, va_K.moved (u := U) (U := U.calling g mk a) (Vm.Alike.refl U.vm) q.2.2.2⟩, va_recv hK hP (ci := 12) (q0 := 0) rfl rfl, fun U hU hW => ⟨rfl, by rw [hU], by rw [hU]; exact hP, va_K.moved hW.alike hK⟩⟩ rfl rfl hl.1 rfl (lv_room (Nat.le_of_ble_eq_true rfl)) dX12_readCond_63 ⟨Nat.le_of_ble_eq_true rfl, Nat.le_of_ble_eq_true rfl⟩) hS (fun q _ h9 => aM_up hS q h9) (aM_up hS) (fun u t H1 locs ht _ hw hB _ hk1 hS => ?_)
                      obtain ⟨fv_136, wd_137, ar_138⟩ := u
                      obtain ⟨hF_fv_136, hA_ar_138, fr_139, fa_140, p_133, p_134, p_135, -⟩ := hw
                      have hP : va_P (dC, dI) vwCl (wsM h ad cA fv_136 wd_137 ar_138) H1 := by have h9 := hB.1; rw [ht] at h9; exact h9
                      have fr_139 : fM [60, 61, 63] fv_123 fv_136 := fr_139
                      have fa_140 : fA [54, 55, 56] ar_125 ar_138 := fa_140
                      have p_134 : cX FF g0 1 (fv_136 60).toInt (fv_136 61).toInt (fv_136 62).toInt (fv_136 63).toInt (ar_138 54) (ar_138 57) := p_134
                      have p_135 : vM fv_136 ar_138 := p_135
                      have p_133 : (fv_136 61).toInt ≤ (fv_123 61).toInt := p_133
                      generalize H1 = H at hP hS ⊢
                      refine lv_goto (tgt := 14) hx hb dX12_readCond_66 (by decide) ?_
                      have z_308 : 0 ≤ (fv_136 61).toInt ∧ (fv_136 61).toInt ≤ 64 := hF_fv_136 61
                      exact ih_45 fv_136 ar_138 wd_137 _ _ ls (by omega) hF_fv_136 (fM_call (fM_call (fM_put (fM_put (fM_call (fM_call (fM_call (fM_call (fM_rf [38, 39, 40, 41, 42, 60, 61, 63] _) fr_38 (by decide)) fr_59 (by decide)) fr_74 (by decide)) fr_92 (by decide)) efv_106 (by decide)) efv_112 (by decide)) fr_126 (by decide)) fr_139 (by decide)) hA_ar_138 (fA_call (fA_call (fA_call (fA_call (fA_call (fA_call (fA_rf [54, 55, 56] _) fa_40 (by decide)) fa_60 (by decide)) fa_75 (by decide)) fa_93 (by decide)) fa_127 (by decide)) fa_140 (by decide)) p_134 p_135 (by omega) hP hS (lv_sub hl [0] rfl)
          · skip
            have z_309 : 0 ≤ (fv_28 61).toInt ∧ (fv_28 61).toInt ≤ 64 := hF_fv_28 61
            exact hj_47 65 fv_28 ar_30 wd_29 _ _ ls (by omega) hF_fv_28 (fM_rf [38, 39, 40, 41, 42, 60, 61, 63] _) hA_ar_30 (fA_rf [54, 55, 56] _) hp_34 p_27 (by omega) hP hS (lv_sub hl [0] rfl)
        · skip
          exact absurd c_36 (by decide)
  · skip
    have z_314 : (fv_1 62).toInt = (fv 62).toInt := congrArg Int32.toInt ((congrFun efv_1 62))
    have z_315 : 0 ≤ (fv_1 62).toInt ∧ (fv_1 62).toInt ≤ 50 := hF_fv_1 62
    exact hj_22 51 fv_1 ar wd _ _ ls (by omega) hF_fv_1 (fM_rf [38, 39, 40, 41, 42, 43, 44, 60, 61, 62, 63] _) hA_ar (fA_rf [54, 55, 56, 57] _) hp_11 (vM_fr hp_vM (fM_put (fM_rf [61] _) efv_1 (by decide)) (fA_rf [] _) rfl rfl rfl rfl rfl) (by omega) hP hS (lv_sub hl [0] rfl)

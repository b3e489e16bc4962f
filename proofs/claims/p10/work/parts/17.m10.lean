theorem dX12_readOne_0 : decode cX12_readOne 0 = .ok (.aload_n 0, 1) := by decide +kernel
theorem dX12_readOne_1 : decode cX12_readOne 1 = .ok (.invokevirtual 347, 3) := by decide +kernel
theorem dX12_readOne_4 : decode cX12_readOne 4 = .ok (.istore_n 1, 1) := by decide +kernel
theorem dX12_readOne_5 : decode cX12_readOne 5 = .ok (.iload_n 1, 1) := by decide +kernel
theorem dX12_readOne_6 : decode cX12_readOne 6 = .ok (.iconst (-1), 1) := by decide +kernel
theorem dX12_readOne_7 : decode cX12_readOne 7 = .ok (.if_icmp .ne 25, 3) := by decide +kernel
theorem dX12_readOne_10 : decode cX12_readOne 10 = .ok (.aload_n 0, 1) := by decide +kernel
theorem dX12_readOne_11 : decode cX12_readOne 11 = .ok (.invokevirtual 350, 3) := by decide +kernel
theorem dX12_readOne_14 : decode cX12_readOne 14 = .ok (.ifCond .ne 18, 3) := by decide +kernel
theorem dX12_readOne_17 : decode cX12_readOne 17 = .ok (.aload_n 0, 1) := by decide +kernel
theorem dX12_readOne_18 : decode cX12_readOne 18 = .ok (.bipush 40, 2) := by decide +kernel
theorem dX12_readOne_20 : decode cX12_readOne 20 = .ok (.invokevirtual 354, 3) := by decide +kernel
theorem dX12_readOne_23 : decode cX12_readOne 23 = .ok (.ifCond .ne 9, 3) := by decide +kernel
theorem dX12_readOne_26 : decode cX12_readOne 26 = .ok (.aload_n 0, 1) := by decide +kernel
theorem dX12_readOne_27 : decode cX12_readOne 27 = .ok (.iconst 1, 1) := by decide +kernel
theorem dX12_readOne_28 : decode cX12_readOne 28 = .ok (.invokevirtual 357, 3) := by decide +kernel
theorem dX12_readOne_31 : decode cX12_readOne 31 = .ok (.ireturn, 1) := by decide +kernel
theorem dX12_readOne_32 : decode cX12_readOne 32 = .ok (.aload_n 0, 1) := by decide +kernel
theorem dX12_readOne_33 : decode cX12_readOne 33 = .ok (.getfield 360, 3) := by decide +kernel
theorem dX12_readOne_36 : decode cX12_readOne 36 = .ok (.bipush 50, 2) := by decide +kernel
theorem dX12_readOne_38 : decode cX12_readOne 38 = .ok (.if_icmp .eq 12, 3) := by decide +kernel
theorem dX12_readOne_41 : decode cX12_readOne 41 = .ok (.aload_n 0, 1) := by decide +kernel
theorem dX12_readOne_42 : decode cX12_readOne 42 = .ok (.getfield 363, 3) := by decide +kernel
theorem dX12_readOne_45 : decode cX12_readOne 45 = .ok (.bipush 10, 2) := by decide +kernel
theorem dX12_readOne_47 : decode cX12_readOne 47 = .ok (.if_icmp .ne 9, 3) := by decide +kernel
theorem dX12_readOne_50 : decode cX12_readOne 50 = .ok (.aload_n 0, 1) := by decide +kernel
theorem dX12_readOne_51 : decode cX12_readOne 51 = .ok (.iconst 4, 1) := by decide +kernel
theorem dX12_readOne_52 : decode cX12_readOne 52 = .ok (.invokevirtual 357, 3) := by decide +kernel
theorem dX12_readOne_55 : decode cX12_readOne 55 = .ok (.ireturn, 1) := by decide +kernel
theorem dX12_readOne_56 : decode cX12_readOne 56 = .ok (.aload_n 0, 1) := by decide +kernel
theorem dX12_readOne_57 : decode cX12_readOne 57 = .ok (.dup, 1) := by decide +kernel
theorem dX12_readOne_58 : decode cX12_readOne 58 = .ok (.getfield 360, 3) := by decide +kernel
theorem dX12_readOne_61 : decode cX12_readOne 61 = .ok (.iconst 1, 1) := by decide +kernel
theorem dX12_readOne_62 : decode cX12_readOne 62 = .ok (.iadd, 1) := by decide +kernel
theorem dX12_readOne_63 : decode cX12_readOne 63 = .ok (.putfield 360, 3) := by decide +kernel
theorem dX12_readOne_66 : decode cX12_readOne 66 = .ok (.iload_n 1, 1) := by decide +kernel
theorem dX12_readOne_67 : decode cX12_readOne 67 = .ok (.iconst (-1), 1) := by decide +kernel
theorem dX12_readOne_68 : decode cX12_readOne 68 = .ok (.if_icmp .ne 53, 3) := by decide +kernel
theorem dX12_readOne_71 : decode cX12_readOne 71 = .ok (.aload_n 0, 1) := by decide +kernel
theorem dX12_readOne_72 : decode cX12_readOne 72 = .ok (.dup, 1) := by decide +kernel
theorem dX12_readOne_73 : decode cX12_readOne 73 = .ok (.getfield 363, 3) := by decide +kernel
theorem dX12_readOne_76 : decode cX12_readOne 76 = .ok (.iconst 1, 1) := by decide +kernel
theorem dX12_readOne_77 : decode cX12_readOne 77 = .ok (.iadd, 1) := by decide +kernel
theorem dX12_readOne_78 : decode cX12_readOne 78 = .ok (.putfield 363, 3) := by decide +kernel
theorem dX12_readOne_81 : decode cX12_readOne 81 = .ok (.aload_n 0, 1) := by decide +kernel
theorem dX12_readOne_82 : decode cX12_readOne 82 = .ok (.getfield 118, 3) := by decide +kernel
theorem dX12_readOne_85 : decode cX12_readOne 85 = .ok (.aload_n 0, 1) := by decide +kernel
theorem dX12_readOne_86 : decode cX12_readOne 86 = .ok (.getfield 340, 3) := by decide +kernel
theorem dX12_readOne_89 : decode cX12_readOne 89 = .ok (.aload_n 0, 1) := by decide +kernel
theorem dX12_readOne_90 : decode cX12_readOne 90 = .ok (.invokevirtual 350, 3) := by decide +kernel
theorem dX12_readOne_93 : decode cX12_readOne 93 = .ok (.ifCond .eq 8, 3) := by decide +kernel
theorem dX12_readOne_96 : decode cX12_readOne 96 = .ok (.bipush 12, 2) := by decide +kernel
theorem dX12_readOne_98 : decode cX12_readOne 98 = .ok (.goto 5, 3) := by decide +kernel
theorem dX12_readOne_101 : decode cX12_readOne 101 = .ok (.bipush 15, 2) := by decide +kernel
theorem dX12_readOne_103 : decode cX12_readOne 103 = .ok (.iastore, 1) := by decide +kernel
theorem dX12_readOne_104 : decode cX12_readOne 104 = .ok (.aload_n 0, 1) := by decide +kernel
theorem dX12_readOne_105 : decode cX12_readOne 105 = .ok (.dup, 1) := by decide +kernel
theorem dX12_readOne_106 : decode cX12_readOne 106 = .ok (.getfield 340, 3) := by decide +kernel
theorem dX12_readOne_109 : decode cX12_readOne 109 = .ok (.iconst 1, 1) := by decide +kernel
theorem dX12_readOne_110 : decode cX12_readOne 110 = .ok (.iadd, 1) := by decide +kernel
theorem dX12_readOne_111 : decode cX12_readOne 111 = .ok (.putfield 340, 3) := by decide +kernel
theorem dX12_readOne_114 : decode cX12_readOne 114 = .ok (.aload_n 0, 1) := by decide +kernel
theorem dX12_readOne_115 : decode cX12_readOne 115 = .ok (.invokevirtual 366, 3) := by decide +kernel
theorem dX12_readOne_118 : decode cX12_readOne 118 = .ok (.goto (-118), 3) := by decide +kernel
theorem dX12_readOne_121 : decode cX12_readOne 121 = .ok (.aload_n 0, 1) := by decide +kernel
theorem dX12_readOne_122 : decode cX12_readOne 122 = .ok (.invokevirtual 366, 3) := by decide +kernel
theorem dX12_readOne_125 : decode cX12_readOne 125 = .ok (.iload_n 1, 1) := by decide +kernel
theorem dX12_readOne_126 : decode cX12_readOne 126 = .ok (.iconst 4, 1) := by decide +kernel
theorem dX12_readOne_127 : decode cX12_readOne 127 = .ok (.if_icmp .ge 13, 3) := by decide +kernel
theorem dX12_readOne_130 : decode cX12_readOne 130 = .ok (.aload_n 0, 1) := by decide +kernel
theorem dX12_readOne_131 : decode cX12_readOne 131 = .ok (.iload_n 1, 1) := by decide +kernel
theorem dX12_readOne_132 : decode cX12_readOne 132 = .ok (.iconst 0, 1) := by decide +kernel
theorem dX12_readOne_133 : decode cX12_readOne 133 = .ok (.iconst 0, 1) := by decide +kernel
theorem dX12_readOne_134 : decode cX12_readOne 134 = .ok (.invokevirtual 343, 3) := by decide +kernel
theorem dX12_readOne_137 : decode cX12_readOne 137 = .ok (.goto 76, 3) := by decide +kernel
theorem dX12_readOne_140 : decode cX12_readOne 140 = .ok (.aload_n 0, 1) := by decide +kernel
theorem dX12_readOne_141 : decode cX12_readOne 141 = .ok (.bipush 60, 2) := by decide +kernel
theorem dX12_readOne_143 : decode cX12_readOne 143 = .ok (.invokevirtual 354, 3) := by decide +kernel
theorem dX12_readOne_146 : decode cX12_readOne 146 = .ok (.ifCond .ne 27, 3) := by decide +kernel
theorem dX12_readOne_149 : decode cX12_readOne 149 = .ok (.aload_n 0, 1) := by decide +kernel
theorem dX12_readOne_150 : decode cX12_readOne 150 = .ok (.bipush 61, 2) := by decide +kernel
theorem dX12_readOne_152 : decode cX12_readOne 152 = .ok (.invokevirtual 354, 3) := by decide +kernel
theorem dX12_readOne_155 : decode cX12_readOne 155 = .ok (.ifCond .ne 18, 3) := by decide +kernel
theorem dX12_readOne_158 : decode cX12_readOne 158 = .ok (.aload_n 0, 1) := by decide +kernel
theorem dX12_readOne_159 : decode cX12_readOne 159 = .ok (.bipush 62, 2) := by decide +kernel
theorem dX12_readOne_161 : decode cX12_readOne 161 = .ok (.invokevirtual 354, 3) := by decide +kernel
theorem dX12_readOne_164 : decode cX12_readOne 164 = .ok (.ifCond .ne 9, 3) := by decide +kernel
theorem dX12_readOne_167 : decode cX12_readOne 167 = .ok (.aload_n 0, 1) := by decide +kernel
theorem dX12_readOne_168 : decode cX12_readOne 168 = .ok (.iconst 1, 1) := by decide +kernel
theorem dX12_readOne_169 : decode cX12_readOne 169 = .ok (.invokevirtual 357, 3) := by decide +kernel
theorem dX12_readOne_172 : decode cX12_readOne 172 = .ok (.ireturn, 1) := by decide +kernel
theorem dX12_readOne_173 : decode cX12_readOne 173 = .ok (.aload_n 0, 1) := by decide +kernel
theorem dX12_readOne_174 : decode cX12_readOne 174 = .ok (.getfield 300, 3) := by decide +kernel
theorem dX12_readOne_177 : decode cX12_readOne 177 = .ok (.istore_n 2, 1) := by decide +kernel
theorem dX12_readOne_178 : decode cX12_readOne 178 = .ok (.aload_n 0, 1) := by decide +kernel
theorem dX12_readOne_179 : decode cX12_readOne 179 = .ok (.invokevirtual 366, 3) := by decide +kernel
theorem dX12_readOne_182 : decode cX12_readOne 182 = .ok (.aload_n 0, 1) := by decide +kernel
theorem dX12_readOne_183 : decode cX12_readOne 183 = .ok (.getfield 288, 3) := by decide +kernel
theorem dX12_readOne_186 : decode cX12_readOne 186 = .ok (.iconst 3, 1) := by decide +kernel
theorem dX12_readOne_187 : decode cX12_readOne 187 = .ok (.if_icmp .eq 9, 3) := by decide +kernel
theorem dX12_readOne_190 : decode cX12_readOne 190 = .ok (.aload_n 0, 1) := by decide +kernel
theorem dX12_readOne_191 : decode cX12_readOne 191 = .ok (.iconst 1, 1) := by decide +kernel
theorem dX12_readOne_192 : decode cX12_readOne 192 = .ok (.invokevirtual 357, 3) := by decide +kernel
theorem dX12_readOne_195 : decode cX12_readOne 195 = .ok (.ireturn, 1) := by decide +kernel
theorem dX12_readOne_196 : decode cX12_readOne 196 = .ok (.aload_n 0, 1) := by decide +kernel
theorem dX12_readOne_197 : decode cX12_readOne 197 = .ok (.iload_n 1, 1) := by decide +kernel
theorem dX12_readOne_198 : decode cX12_readOne 198 = .ok (.iload_n 2, 1) := by decide +kernel
theorem dX12_readOne_199 : decode cX12_readOne 199 = .ok (.aload_n 0, 1) := by decide +kernel
theorem dX12_readOne_200 : decode cX12_readOne 200 = .ok (.getfield 307, 3) := by decide +kernel
theorem dX12_readOne_203 : decode cX12_readOne 203 = .ok (.invokevirtual 343, 3) := by decide +kernel
theorem dX12_readOne_206 : decode cX12_readOne 206 = .ok (.aload_n 0, 1) := by decide +kernel
theorem dX12_readOne_207 : decode cX12_readOne 207 = .ok (.invokevirtual 366, 3) := by decide +kernel
theorem dX12_readOne_210 : decode cX12_readOne 210 = .ok (.goto 3, 3) := by decide +kernel
theorem dX12_readOne_213 : decode cX12_readOne 213 = .ok (.aload_n 0, 1) := by decide +kernel
theorem dX12_readOne_214 : decode cX12_readOne 214 = .ok (.invokevirtual 369, 3) := by decide +kernel
theorem dX12_readOne_217 : decode cX12_readOne 217 = .ok (.iconst 1, 1) := by decide +kernel
theorem dX12_readOne_218 : decode cX12_readOne 218 = .ok (.ireturn, 1) := by decide +kernel
set_option maxHeartbeats 4000000 in
set_option maxRecDepth 100000 in
theorem m_readOne (l : Launch) (dC : Nat → ClassId) (dI : Nat → Nat → Nat) (sz h : Nat) (ad : Nat → Nat) (cA : Nat → ClassId) (hd : dM h ad) (fv : Nat → Int32) (wd : Int64) (ar : Nat → Nat → Int32) (hF_fv : rF fv) (hA_ar : rA ar) (FF : Nat) (g0 : Nat → Int32) (hp_c0 : cX FF g0 0 (fv 60).toInt (fv 61).toInt (fv 62).toInt (fv 63).toInt (ar 54) (ar 57)) (hp_vM : vM fv ar) : Met l yX12_readOne (.code yX12_readOne cX12_readOne 3 (some .boolean) :: lw_good) ({ frames := 4, cells := 0, slots := 0, locals := 86 }) (va_Pc [.ref h] (prM dC dI h ad cA fv wd ar sz)) (va_Qi (fun (r : Int32) (u : mS) => rF u.1 ∧ rA u.2.2 ∧ fM [38, 39, 40, 41, 42, 43, 44, 60, 61, 62, 63] fv u.1 ∧ fA [54, 55, 56, 57] ar u.2.2 ∧ (0 ≤ r.toInt ∧ r.toInt ≤ 1) ∧ ((r = 0 ∧ True) ∨ (r = 1 ∧ (cX FF g0 1 (u.1 60).toInt (u.1 61).toInt (u.1 62).toInt (u.1 63).toInt (u.2.2 54) (u.2.2 57)) ∧ ((fv 62).toInt + 1 ≤ (u.1 62).toInt))) ∧ (vM u.1 u.2.2) ∧ True) (enM dC dI h ad cA) (aM h ad sz)) 0 0 (aM h ad sz) := by
  refine Met.ofW (cc := cX12_readOne) (maxL := 3) (ret := (some .boolean)) (by decide) rfl ?_
  intro p e s m args below meth c s₁ B hml hv
  obtain ⟨rfl, hsz, hP, hK⟩ := hv
  have hx := B.exec
  have hb := B.bytes
  have hr := B.returns
  have hts := atoms_spec (ws := (.code yX12_readOne cX12_readOne 3 (some .boolean) :: lw_good)) B.pre
  have htg : ∀ w ∈ lw_good, w.before _ s = true := fun w hw => hts w (List.mem_cons_of_mem _ hw)
  have hown : s.vm.findClass RX12 = some m.cls := findClass_of_methodNamed B.named
  have hlocks := B.notSynchronized
  subst hsz
  have hS : va_S (aM h ad s.heap.size) s.heap s.heap [] := va_S.rf
  have hl := lv_entry ([.ref h]) (n := 3) (Nat.le_of_ble_eq_true rfl)
  rw [lg_entry_eq]
  generalize (lg_sl ([.ref h]) ++ List.replicate (3 - (lg_sl ([.ref h])).length) Slot.unset).toArray = ls at hl ⊢
  have hl : lv_has ls 3 [(0, .ref h)] := hl
  refine my_cut (P := fun R9 a9 Q9 => ∀ (n_10 : Nat) (fv_1 : Nat → Int32) (ar_3 : Nat → Nat → Int32) (wd_5 : Int64) (H : Heap) (locs : List Loc) (ls : Array Slot), 50 - (fv_1 62).toInt < (n_10 : Int) → rF fv_1 → fM [38, 39, 40, 41, 42, 61, 62, 63] fv fv_1 → rA ar_3 → fA [57] ar ar_3 → cX FF g0 0 (fv_1 60).toInt (fv_1 61).toInt (fv_1 62).toInt (fv_1 63).toInt (ar_3 54) (ar_3 57) → vM fv_1 ar_3 → (0 ≤ (fv_1 62).toInt ∧ (fv_1 62).toInt ≤ 50) → ((fv 62).toInt ≤ (fv_1 62).toInt) → va_P (dC, dI) vwCl (wsM h ad cA fv_1 wd_5 ar_3) H → va_S (aM h ad s.heap.size) s.heap H locs → lv_has ls 3 [(0, .ref h)] → W p l e R9 s m a9 below meth c H locs 0 0 Q9 (F0 m 0 ls [])) ?_ (fun hj_12 => ?_)
  · intro n_10
    induction n_10 with
    | zero => intro fv_1 ar_3 wd_5 H locs ls fu_11 hF_fv_1 fr_2 hA_ar_3 fa_4 hp_6 hp_7 q_8 q_9; exfalso; omega
    | succ n_10 ih_10 =>
      intro fv_1 ar_3 wd_5 H locs ls fu_11 hF_fv_1 fr_2 hA_ar_3 fa_4 hp_6 hp_7 q_8 q_9 hP hS hl
      refine lv_aload_n hx hb dX12_readOne_0 rfl (lv_at hl 0 rfl) ?_
      refine va_calli (va_runV (As := []) (rest := []) ⟨hx, hb, hml, hown, hts⟩ (m_atom l dC dI H.size h ad cA hd fv_1 wd_5 ar_3 hF_fv_1 hA_ar_3) (cwV 0 hts (gV kw_8_110 kw_8_112 kw_p_73 kw_1_15 kw_8_113) rfl rfl rfl (by decide +kernel) ⟨Nat.le_of_ble_eq_true rfl, Nat.le_of_ble_eq_true rfl⟩) ⟨fun a U g mk q => ⟨q.1, q.2.1, q.2.2.1, va_K.moved (u := U) (U := U.calling g mk a) (Vm.Alike.refl U.vm) q.2.2.2⟩, va_recv hK hP (ci := 12) (q0 := 0) rfl rfl, fun U hU hW => ⟨rfl, by rw [hU], by rw [hU]; exact hP, va_K.moved hW.alike hK⟩⟩ rfl rfl hl.1 rfl (lv_room (Nat.le_of_ble_eq_true rfl)) dX12_readOne_1 ⟨Nat.le_of_ble_eq_true rfl, Nat.le_of_ble_eq_true rfl⟩) hS (fun q _ h9 => aM_up hS q h9) (aM_up hS) (fun r_13 u t H1 locs ht _ hw hB _ hk1 hS => ?_)
      obtain ⟨fv_15, wd_16, ar_17⟩ := u
      obtain ⟨hF_fv_15, hA_ar_17, fr_18, fa_19, p_14, -⟩ := hw
      have hP : va_P (dC, dI) vwCl (wsM h ad cA fv_15 wd_16 ar_17) H1 := by have h9 := hB.1; rw [ht] at h9; exact h9
      have fr_18 : fM [] fv_1 fv_15 := fr_18
      have fa_19 : fA [] ar_3 ar_17 := fa_19
      generalize H1 = H at hP hS ⊢
      refine lv_istore_n (lv' := [(1, .int r_13), (0, .ref h)]) hx hb dX12_readOne_4 rfl hl (by decide) rfl (fun ls hl => ?_)
      refine lv_iload_n hx hb dX12_readOne_5 rfl (lv_at hl 0 rfl) ?_
      refine lv_iconst (v := (-1)) hx hb dX12_readOne_6 (by decide) ?_
      refine lv_icmp_ne (tgt := 32) hx hb dX12_readOne_7 (by decide) (fun c_20 => ?_) (fun c_20 => ?_)
      · skip
        have i_21 : 0 ≤ r_13.toInt ∧ r_13.toInt ≤ 11 := iv_nel p_14 (by decide) c_20
        have k_22 : ¬ r_13.toInt = (-1) := fun q => c_20 (Int32.toInt_inj.mp q)
        refine lv_aload_n hx hb dX12_readOne_32 rfl (lv_at hl 1 rfl) ?_
        refine gM_62 hx hb htg hown hK hP dX12_readOne_33 ?_
        refine my_ti (y := fv_1 62) ((fr_18 62 rfl)) ?_
        have i_23 : 0 ≤ (fv_1 62).toInt ∧ (fv_1 62).toInt ≤ 50 := hF_fv_1 62
        refine lv_bipush (v := 50) hx hb dX12_readOne_36 (by decide) ?_
        refine lv_icmp_eq (tgt := 50) hx hb dX12_readOne_38 (by decide) (fun c_24 => ?_) (fun c_24 => ?_)
        · skip
          have i_25 : 50 ≤ (fv_1 62).toInt ∧ (fv_1 62).toInt ≤ 50 := iv_eq1 (⟨by decide, by decide⟩ : (50 : Int) ≤ (50 : Int32).toInt ∧ (50 : Int32).toInt ≤ 50) c_24
          refine lv_aload_n hx hb dX12_readOne_50 rfl (lv_at hl 1 rfl) ?_
          refine lv_iconst (v := 4) hx hb dX12_readOne_51 (by decide) ?_
          refine va_calli (va_runV (As := [.int 4]) (rest := []) ⟨hx, hb, hml, hown, hts⟩ (m_bad l dC dI H.size h ad cA hd fv_15 wd_16 ar_17 hF_fv_15 hA_ar_17 4) (cwV 1 hts (gV kw_8_94 kw_8_96 kw_p_69 kw_1_15 kw_8_97) rfl rfl rfl (by decide +kernel) ⟨Nat.le_of_ble_eq_true rfl, Nat.le_of_ble_eq_true rfl⟩) ⟨fun a U g mk q => ⟨q.1, q.2.1, q.2.2.1, va_K.moved (u := U) (U := U.calling g mk a) (Vm.Alike.refl U.vm) q.2.2.2⟩, va_recv hK hP (ci := 12) (q0 := 0) rfl rfl, fun U hU hW => ⟨rfl, by rw [hU], by rw [hU]; exact hP, va_K.moved hW.alike hK⟩⟩ rfl rfl hl.1 rfl (lv_room (Nat.le_of_ble_eq_true rfl)) dX12_readOne_52 ⟨Nat.le_of_ble_eq_true rfl, Nat.le_of_ble_eq_true rfl⟩) hS (fun q _ h9 => aM_up hS q h9) (aM_up hS) (fun r_27 u t H1 locs ht _ hw hB _ hk1 hS => ?_)
          obtain ⟨fv_30, wd_31, ar_32⟩ := u
          obtain ⟨hF_fv_30, hA_ar_32, fr_33, fa_34, p_28, p_29, -⟩ := hw
          have hP : va_P (dC, dI) vwCl (wsM h ad cA fv_30 wd_31 ar_32) H1 := by have h9 := hB.1; rw [ht] at h9; exact h9
          have fr_33 : fM [43, 44] fv_15 fv_30 := fr_33
          have fa_34 : fA [] ar_17 ar_32 := fa_34
          generalize H1 = H at hP hS ⊢
          rcases p_29 with ⟨rfl, p_29⟩
          · skip
            exact W.zret (v := 0) hx hb hr (by decide) (fun t ht hW => ⟨⟨0, (fv_30, wd_31, ar_32), rfl, ⟨hF_fv_30, hA_ar_32, (fM_call (fM_call (fM_call (fM_rf [38, 39, 40, 41, 42, 43, 44, 60, 61, 62, 63] _) fr_2 (by decide)) fr_18 (by decide)) fr_33 (by decide)), (fA_call (fA_call (fA_call (fA_rf [54, 55, 56, 57] _) fa_4 (by decide)) fa_19 (by decide)) fa_34 (by decide)), (iv_w (⟨by decide, by decide⟩ : (0 : Int) ≤ (0 : Int32).toInt ∧ (0 : Int32).toInt ≤ 0) (by decide) (by decide)), (Or.inl ⟨rfl, trivial⟩), (vM_fr hp_7 (fM_call (fM_call (fM_rf [43, 44] _) fr_18 (by decide)) fr_33 (by decide)) (fA_call (fA_call (fA_rf [] _) fa_19 (by decide)) fa_34 (by decide)) rfl rfl rfl rfl rfl), trivial⟩, ⟨by rw [ht]; exact hP, va_K.moved hW.alike hK⟩⟩, hS.F ht⟩) hS.2.2 dX12_readOne_55
        · skip
          have i_35 : 0 ≤ (fv_1 62).toInt ∧ (fv_1 62).toInt ≤ 49 := iv_neh i_23 (by decide) c_24
          have k_36 : ¬ (fv_1 62).toInt = 50 := fun q => c_24 (Int32.toInt_inj.mp q)
          refine lv_aload_n hx hb dX12_readOne_41 rfl (lv_at hl 1 rfl) ?_
          refine gM_63 hx hb htg hown hK hP dX12_readOne_42 ?_
          refine my_ti (y := fv_1 63) ((fr_18 63 rfl)) ?_
          have i_37 : (-100) ≤ (fv_1 63).toInt ∧ (fv_1 63).toInt ≤ 10 := hF_fv_1 63
          refine lv_bipush (v := 10) hx hb dX12_readOne_45 (by decide) ?_
          refine lv_icmp_ne (tgt := 56) hx hb dX12_readOne_47 (by decide) (fun c_38 => ?_) (fun c_38 => ?_)
          · skip
            have i_39 : (-100) ≤ (fv_1 63).toInt ∧ (fv_1 63).toInt ≤ 9 := iv_neh i_37 (by decide) c_38
            have k_40 : ¬ (fv_1 63).toInt = 10 := fun q => c_38 (Int32.toInt_inj.mp q)
            have z_41 : (fv_15 60).toInt = (fv 60).toInt := congrArg Int32.toInt ((fr_18 60 rfl).trans ((fr_2 60 rfl)))
            have z_42 : 0 ≤ (fv_15 60).toInt ∧ (fv_15 60).toInt ≤ 120 := hF_fv_15 60
            have z_43 : (fv_15 61).toInt = (fv_1 61).toInt := congrArg Int32.toInt ((fr_18 61 rfl))
            have z_44 : 0 ≤ (fv_15 61).toInt ∧ (fv_15 61).toInt ≤ 64 := hF_fv_15 61
            have z_45 : (fv_15 62).toInt = (fv_1 62).toInt := congrArg Int32.toInt ((fr_18 62 rfl))
            have z_46 : 0 ≤ (fv_15 62).toInt ∧ (fv_15 62).toInt ≤ 50 := hF_fv_15 62
            have z_47 : (fv_15 63).toInt = (fv_1 63).toInt := congrArg Int32.toInt ((fr_18 63 rfl))
            have z_48 : (-100) ≤ (fv_15 63).toInt ∧ (fv_15 63).toInt ≤ 10 := hF_fv_15 63
            have n_49 := cX_n (cX_fr hp_6 (fM_call (fM_rf [] _) fr_18 (by decide)) (fA_call (fA_rf [] _) fa_19 (by decide)) rfl rfl rfl rfl rfl rfl)
            refine lv_aload_n hx hb dX12_readOne_56 rfl (lv_at hl 1 rfl) ?_
            refine lv_dup hx hb dX12_readOne_57 rfl ?_
            refine gM_62 hx hb htg hown hK hP dX12_readOne_58 ?_
            refine my_ti (y := fv_1 62) ((fr_18 62 rfl)) ?_
            refine lv_iconst (v := 1) hx hb dX12_readOne_61 (by decide) ?_
            refine lv_iadd hx hb dX12_readOne_62 ?_
            refine lv_topi (fun v_50 ev_50 => ?_)
            have t_51 : v_50.toInt = (fv_1 62).toInt + 1 ∧ 1 ≤ v_50.toInt ∧ v_50.toInt ≤ 50 := iv_addc ev_50 i_35 (by decide) (by decide) (by decide)
            refine pM_62 hx hb htg hown hK hP hS hd dX12_readOne_63 (fun H locs fv_53 efv_53 hP hS => ?_)
            have hF_fv_53 : rF fv_53 := rF_put hF_fv_15 efv_53 (iv_w t_51.2 (by decide) (by decide))
            refine lv_iload_n hx hb dX12_readOne_66 rfl (lv_at hl 0 rfl) ?_
            refine lv_iconst (v := (-1)) hx hb dX12_readOne_67 (by decide) ?_
            refine lv_icmp_ne (tgt := 121) hx hb dX12_readOne_68 (by decide) (fun c_54 => ?_) (fun c_54 => ?_)
            · skip
              have k_55 : ¬ r_13.toInt = (-1) := fun q => c_54 (Int32.toInt_inj.mp q)
              refine lv_aload_n hx hb dX12_readOne_121 rfl (lv_at hl 1 rfl) ?_
              refine va_callv (va_runV (As := []) (rest := []) ⟨hx, hb, hml, hown, hts⟩ (m_go l dC dI H.size h ad cA hd fv_53 wd_16 ar_17 hF_fv_53 hA_ar_17) (cwV 0 hts (gV kw_8_60 kw_8_62 kw_p_64 kw_1_15 kw_8_63) rfl rfl rfl (by decide +kernel) ⟨Nat.le_of_ble_eq_true rfl, Nat.le_of_ble_eq_true rfl⟩) ⟨fun a U g mk q => ⟨q.1, q.2.1, q.2.2.1, va_K.moved (u := U) (U := U.calling g mk a) (Vm.Alike.refl U.vm) q.2.2.2⟩, va_recv hK hP (ci := 12) (q0 := 0) rfl rfl, fun U hU hW => ⟨rfl, by rw [hU], by rw [hU]; exact hP, va_K.moved hW.alike hK⟩⟩ rfl rfl hl.1 rfl (lv_room (Nat.le_of_ble_eq_true rfl)) dX12_readOne_122 ⟨Nat.le_of_ble_eq_true rfl, Nat.le_of_ble_eq_true rfl⟩) hS (fun q _ h9 => aM_up hS q h9) (aM_up hS) (fun u t H1 locs ht _ hw hB _ hk1 hS => ?_)
              obtain ⟨fv_57, wd_58, ar_59⟩ := u
              obtain ⟨hF_fv_57, hA_ar_59, fr_60, fa_61, -⟩ := hw
              have hP : va_P (dC, dI) vwCl (wsM h ad cA fv_57 wd_58 ar_59) H1 := by have h9 := hB.1; rw [ht] at h9; exact h9
              have fr_60 : fM [38, 39, 40, 41, 42] fv_53 fv_57 := fr_60
              have fa_61 : fA [] ar_17 ar_59 := fa_61
              generalize H1 = H at hP hS ⊢
              refine lv_iload_n hx hb dX12_readOne_125 rfl (lv_at hl 0 rfl) ?_
              refine lv_iconst (v := 4) hx hb dX12_readOne_126 (by decide) ?_
              refine lv_icmp_ge (tgt := 140) hx hb dX12_readOne_127 (by decide) (fun c_62 => ?_) (fun c_62 => ?_)
              · skip
                have i_63 : 4 ≤ r_13.toInt ∧ r_13.toInt ≤ 11 := iv_le2 (⟨by decide, by decide⟩ : (4 : Int) ≤ (4 : Int32).toInt ∧ (4 : Int32).toInt ≤ 4) i_21 c_62
                refine lv_aload_n hx hb dX12_readOne_140 rfl (lv_at hl 1 rfl) ?_
                refine lv_bipush (v := 60) hx hb dX12_readOne_141 (by decide) ?_
                refine va_calli (va_runV (As := [.int 60]) (rest := []) ⟨hx, hb, hml, hown, hts⟩ (m_isSign l dC dI H.size h ad cA hd fv_57 wd_58 ar_59 hF_fv_57 hA_ar_59 60) (cwV 1 hts (gV kw_8_117 kw_8_119 kw_p_74 kw_1_15 kw_8_120) rfl rfl rfl (by decide +kernel) ⟨Nat.le_of_ble_eq_true rfl, Nat.le_of_ble_eq_true rfl⟩) ⟨fun a U g mk q => ⟨q.1, q.2.1, q.2.2.1, va_K.moved (u := U) (U := U.calling g mk a) (Vm.Alike.refl U.vm) q.2.2.2⟩, va_recv hK hP (ci := 12) (q0 := 0) rfl rfl, fun U hU hW => ⟨rfl, by rw [hU], by rw [hU]; exact hP, va_K.moved hW.alike hK⟩⟩ rfl rfl hl.1 rfl (lv_room (Nat.le_of_ble_eq_true rfl)) dX12_readOne_143 ⟨Nat.le_of_ble_eq_true rfl, Nat.le_of_ble_eq_true rfl⟩) hS (fun q _ h9 => aM_up hS q h9) (aM_up hS) (fun r_64 u t H1 locs ht _ hw hB _ hk1 hS => ?_)
                obtain ⟨fv_66, wd_67, ar_68⟩ := u
                obtain ⟨hF_fv_66, hA_ar_68, fr_69, fa_70, p_65, -⟩ := hw
                have hP : va_P (dC, dI) vwCl (wsM h ad cA fv_66 wd_67 ar_68) H1 := by have h9 := hB.1; rw [ht] at h9; exact h9
                have fr_69 : fM [] fv_57 fv_66 := fr_69
                have fa_70 : fA [] ar_59 ar_68 := fa_70
                generalize H1 = H at hP hS ⊢
                refine lv_if_ne (tgt := 173) hx hb dX12_readOne_146 (by decide) (fun c_71 => ?_) (fun c_71 => ?_)
                · skip
                  have i_72 : 1 ≤ r_64.toInt ∧ r_64.toInt ≤ 1 := iv_nel p_65 (by decide) c_71
                  have k_73 : ¬ r_64.toInt = 0 := fun q => c_71 (Int32.toInt_inj.mp q)
                  refine lv_aload_n hx hb dX12_readOne_173 rfl (lv_at hl 1 rfl) ?_
                  refine gM_42 hx hb htg hown hK hP dX12_readOne_174 ?_
                  refine my_ti (y := fv_57 42) ((fr_69 42 rfl)) ?_
                  refine lv_istore_n (lv' := [(2, .int (fv_57 42)), (1, .int r_13), (0, .ref h)]) hx hb dX12_readOne_177 rfl hl (by decide) rfl (fun ls hl => ?_)
                  refine lv_aload_n hx hb dX12_readOne_178 rfl (lv_at hl 2 rfl) ?_
                  refine va_callv (va_runV (As := []) (rest := []) ⟨hx, hb, hml, hown, hts⟩ (m_go l dC dI H.size h ad cA hd fv_66 wd_67 ar_68 hF_fv_66 hA_ar_68) (cwV 0 hts (gV kw_8_60 kw_8_62 kw_p_64 kw_1_15 kw_8_63) rfl rfl rfl (by decide +kernel) ⟨Nat.le_of_ble_eq_true rfl, Nat.le_of_ble_eq_true rfl⟩) ⟨fun a U g mk q => ⟨q.1, q.2.1, q.2.2.1, va_K.moved (u := U) (U := U.calling g mk a) (Vm.Alike.refl U.vm) q.2.2.2⟩, va_recv hK hP (ci := 12) (q0 := 0) rfl rfl, fun U hU hW => ⟨rfl, by rw [hU], by rw [hU]; exact hP, va_K.moved hW.alike hK⟩⟩ rfl rfl hl.1 rfl (lv_room (Nat.le_of_ble_eq_true rfl)) dX12_readOne_179 ⟨Nat.le_of_ble_eq_true rfl, Nat.le_of_ble_eq_true rfl⟩) hS (fun q _ h9 => aM_up hS q h9) (aM_up hS) (fun u t H1 locs ht _ hw hB _ hk1 hS => ?_)
                  obtain ⟨fv_75, wd_76, ar_77⟩ := u
                  obtain ⟨hF_fv_75, hA_ar_77, fr_78, fa_79, -⟩ := hw
                  have hP : va_P (dC, dI) vwCl (wsM h ad cA fv_75 wd_76 ar_77) H1 := by have h9 := hB.1; rw [ht] at h9; exact h9
                  have fr_78 : fM [38, 39, 40, 41, 42] fv_66 fv_75 := fr_78
                  have fa_79 : fA [] ar_68 ar_77 := fa_79
                  generalize H1 = H at hP hS ⊢
                  refine lv_aload_n hx hb dX12_readOne_182 rfl (lv_at hl 2 rfl) ?_
                  refine gM_40 hx hb htg hown hK hP dX12_readOne_183 ?_
                  refine lv_iconst (v := 3) hx hb dX12_readOne_186 (by decide) ?_
                  refine lv_icmp_eq (tgt := 196) hx hb dX12_readOne_187 (by decide) (fun c_80 => ?_) (fun c_80 => ?_)
                  · skip
                    have i_81 : 3 ≤ (fv_75 40).toInt ∧ (fv_75 40).toInt ≤ 3 := iv_eq1 (⟨by decide, by decide⟩ : (3 : Int) ≤ (3 : Int32).toInt ∧ (3 : Int32).toInt ≤ 3) c_80
                    refine lv_aload_n hx hb dX12_readOne_196 rfl (lv_at hl 2 rfl) ?_
                    refine lv_iload_n hx hb dX12_readOne_197 rfl (lv_at hl 1 rfl) ?_
                    refine lv_iload_n hx hb dX12_readOne_198 rfl (lv_at hl 0 rfl) ?_
                    refine lv_aload_n hx hb dX12_readOne_199 rfl (lv_at hl 2 rfl) ?_
                    refine gM_41 hx hb htg hown hK hP dX12_readOne_200 ?_
                    have z_83 : (fv_75 60).toInt = (fv 60).toInt := congrArg Int32.toInt ((fr_78 60 rfl).trans ((fr_69 60 rfl).trans ((fr_60 60 rfl).trans ((congrFun efv_53 60).trans ((fr_18 60 rfl).trans ((fr_2 60 rfl)))))))
                    have z_84 : 0 ≤ (fv_75 60).toInt ∧ (fv_75 60).toInt ≤ 120 := hF_fv_75 60
                    have z_85 : (fv_75 60).toInt = (fv 60).toInt := congrArg Int32.toInt ((fr_78 60 rfl).trans ((fr_69 60 rfl).trans ((fr_60 60 rfl).trans ((congrFun efv_53 60).trans ((fr_18 60 rfl).trans ((fr_2 60 rfl)))))))
                    have z_86 : 0 ≤ (fv_75 60).toInt ∧ (fv_75 60).toInt ≤ 120 := hF_fv_75 60
                    refine va_callv (va_runV (As := [.int r_13, .int (fv_57 42), .int (fv_75 41)]) (rest := []) ⟨hx, hb, hml, hown, hts⟩ (m_emit l dC dI H.size h ad cA hd fv_75 wd_76 ar_77 hF_fv_75 hA_ar_77 r_13 (fv_57 42) (fv_75 41) (iv_w i_63 (by decide) (by decide)) (by omega) (vM_fr hp_7 (fM_call (fM_call (fM_call (fM_put (fM_call (fM_rf [38, 39, 40, 41, 42, 62] _) fr_18 (by decide)) efv_53 (by decide)) fr_60 (by decide)) fr_69 (by decide)) fr_78 (by decide)) (fA_call (fA_call (fA_call (fA_call (fA_rf [] _) fa_19 (by decide)) fa_61 (by decide)) fa_70 (by decide)) fa_79 (by decide)) rfl rfl rfl rfl rfl)) (cwV 3 hts (gV kw_8_121 kw_8_123 kw_p_75 kw_1_15 kw_8_124) rfl rfl rfl (by decide +kernel) ⟨Nat.le_of_ble_eq_true rfl, Nat.le_of_ble_eq_true rfl⟩) ⟨fun a U g mk q => ⟨q.1, q.2.1, q.2.2.1, va_K.moved (u := U) (U := U.calling g mk a) (Vm.Alike.refl U.vm) q.2.2.2⟩, va_recv hK hP (ci := 12) (q0 := 0) rfl rfl, fun U hU hW => ⟨rfl, by rw [hU], by rw [hU]; exact hP, va_K.moved hW.alike hK⟩⟩ rfl rfl hl.1 rfl (lv_room (Nat.le_of_ble_eq_true rfl)) dX12_readOne_203 ⟨Nat.le_of_ble_eq_true rfl, Nat.le_of_ble_eq_true rfl⟩) hS (fun q _ h9 => aM_up hS q h9) (aM_up hS) (fun u t H1 locs ht _ hw hB _ hk1 hS => ?_)
                    obtain ⟨fv_91, wd_92, ar_93⟩ := u
                    obtain ⟨hF_fv_91, hA_ar_93, fr_94, fa_95, p_88, p_89, p_90, -⟩ := hw
                    have hP : va_P (dC, dI) vwCl (wsM h ad cA fv_91 wd_92 ar_93) H1 := by have h9 := hB.1; rw [ht] at h9; exact h9
                    have fr_94 : fM [60] fv_75 fv_91 := fr_94
                    have fa_95 : fA [54, 55, 56] ar_77 ar_93 := fa_95
                    have p_90 : vM fv_91 ar_93 := p_90
                    have p_88 : (fv_91 60).toInt = (fv_75 60).toInt + 1 := p_88
                    have p_89 : ar_93 54 = upd (ar_77 54) (1200 + (fv_75 60).toInt.toNat) r_13 := p_89
                    generalize H1 = H at hP hS ⊢
                    have z_96 : 0 ≤ (fv_91 60).toInt ∧ (fv_91 60).toInt ≤ 120 := hF_fv_91 60
                    have z_97 : (fv_91 61).toInt = (fv_1 61).toInt := congrArg Int32.toInt ((fr_94 61 rfl).trans ((fr_78 61 rfl).trans ((fr_69 61 rfl).trans ((fr_60 61 rfl).trans ((congrFun efv_53 61).trans ((fr_18 61 rfl)))))))
                    have z_98 : 0 ≤ (fv_91 61).toInt ∧ (fv_91 61).toInt ≤ 64 := hF_fv_91 61
                    have z_99 : (fv_91 62).toInt = v_50.toInt := congrArg Int32.toInt ((fr_94 62 rfl).trans ((fr_78 62 rfl).trans ((fr_69 62 rfl).trans ((fr_60 62 rfl).trans ((congrFun efv_53 62))))))
                    have z_100 : 0 ≤ (fv_91 62).toInt ∧ (fv_91 62).toInt ≤ 50 := hF_fv_91 62
                    have z_101 : (fv_91 63).toInt = (fv_1 63).toInt := congrArg Int32.toInt ((fr_94 63 rfl).trans ((fr_78 63 rfl).trans ((fr_69 63 rfl).trans ((fr_60 63 rfl).trans ((congrFun efv_53 63).trans ((fr_18 63 rfl)))))))
                    have z_102 : (-100) ≤ (fv_91 63).toInt ∧ (fv_91 63).toInt ≤ 10 := hF_fv_91 63
                    have hp_103 : cX FF g0 1 (fv_91 60).toInt (fv_91 61).toInt (fv_91 62).toInt (fv_91 63).toInt (ar_93 54) (ar_93 57) := cX_eq (cX_atom (g1 := ar_93 54) (g := ar_17 54) (i := 1200 + (fv_75 60).toInt.toNat) (cX_fr hp_6 (fM_call (fM_rf [] _) fr_18 (by decide)) (fA_call (fA_rf [] _) fa_19 (by decide)) rfl rfl rfl rfl rfl rfl) (by omega) (p1 := (fv_91 60).toInt) (t1 := (fv_91 61).toInt) (o1 := (fv_91 62).toInt) (w1 := (fv_91 63).toInt) (by omega) (by omega) (by omega) (by omega) (by omega) (by omega) (by rw [p_89, ((fA_call (fA_call (fA_call (fA_rf [] _) fa_61 (by decide)) fa_70 (by decide)) fa_79 (by decide)) 54 rfl)])) rfl rfl rfl rfl rfl ((fA_call (fA_call (fA_call (fA_call (fA_rf [54, 55, 56] _) fa_61 (by decide)) fa_70 (by decide)) fa_79 (by decide)) fa_95 (by decide)) 57 rfl)
                    refine lv_aload_n hx hb dX12_readOne_206 rfl (lv_at hl 2 rfl) ?_
                    refine va_callv (va_runV (As := []) (rest := []) ⟨hx, hb, hml, hown, hts⟩ (m_go l dC dI H.size h ad cA hd fv_91 wd_92 ar_93 hF_fv_91 hA_ar_93) (cwV 0 hts (gV kw_8_60 kw_8_62 kw_p_64 kw_1_15 kw_8_63) rfl rfl rfl (by decide +kernel) ⟨Nat.le_of_ble_eq_true rfl, Nat.le_of_ble_eq_true rfl⟩) ⟨fun a U g mk q => ⟨q.1, q.2.1, q.2.2.1, va_K.moved (u := U) (U := U.calling g mk a) (Vm.Alike.refl U.vm) q.2.2.2⟩, va_recv hK hP (ci := 12) (q0 := 0) rfl rfl, fun U hU hW => ⟨rfl, by rw [hU], by rw [hU]; exact hP, va_K.moved hW.alike hK⟩⟩ rfl rfl hl.1 rfl (lv_room (Nat.le_of_ble_eq_true rfl)) dX12_readOne_207 ⟨Nat.le_of_ble_eq_true rfl, Nat.le_of_ble_eq_true rfl⟩) hS (fun q _ h9 => aM_up hS q h9) (aM_up hS) (fun u t H1 locs ht _ hw hB _ hk1 hS => ?_)
                    obtain ⟨fv_105, wd_106, ar_107⟩ := u
                    obtain ⟨hF_fv_105, hA_ar_107, fr_108, fa_109, -⟩ := hw
                    have hP : va_P (dC, dI) vwCl (wsM h ad cA fv_105 wd_106 ar_107) H1 := by have h9 := hB.1; rw [ht] at h9; exact h9
                    have fr_108 : fM [38, 39, 40, 41, 42] fv_91 fv_105 := fr_108
                    have fa_109 : fA [] ar_93 ar_107 := fa_109
                    generalize H1 = H at hP hS ⊢
                    refine lv_goto (tgt := 213) hx hb dX12_readOne_210 (by decide) ?_
                    refine lv_aload_n hx hb dX12_readOne_213 rfl (lv_at hl 2 rfl) ?_
                    have z_110 : (fv_105 61).toInt = (fv_1 61).toInt := congrArg Int32.toInt ((fr_108 61 rfl).trans ((fr_94 61 rfl).trans ((fr_78 61 rfl).trans ((fr_69 61 rfl).trans ((fr_60 61 rfl).trans ((congrFun efv_53 61).trans ((fr_18 61 rfl))))))))
                    have z_111 : 0 ≤ (fv_105 61).toInt ∧ (fv_105 61).toInt ≤ 64 := hF_fv_105 61
                    refine va_callv (va_runV (As := []) (rest := []) ⟨hx, hb, hml, hown, hts⟩ (m_dropNots l dC dI H.size h ad cA hd fv_105 wd_106 ar_107 hF_fv_105 hA_ar_107 FF g0 (cX_fr hp_103 (fM_call (fM_rf [38, 39, 40, 41, 42] _) fr_108 (by decide)) (fA_call (fA_rf [] _) fa_109 (by decide)) rfl rfl rfl rfl rfl rfl) (vM_fr p_90 (fM_call (fM_rf [38, 39, 40, 41, 42] _) fr_108 (by decide)) (fA_call (fA_rf [] _) fa_109 (by decide)) rfl rfl rfl rfl rfl)) (cwV 0 hts (gV kw_8_125 kw_8_127 kw_p_76 kw_1_15 kw_8_128) rfl rfl rfl (by decide +kernel) ⟨Nat.le_of_ble_eq_true rfl, Nat.le_of_ble_eq_true rfl⟩) ⟨fun a U g mk q => ⟨q.1, q.2.1, q.2.2.1, va_K.moved (u := U) (U := U.calling g mk a) (Vm.Alike.refl U.vm) q.2.2.2⟩, va_recv hK hP (ci := 12) (q0 := 0) rfl rfl, fun U hU hW => ⟨rfl, by rw [hU], by rw [hU]; exact hP, va_K.moved hW.alike hK⟩⟩ rfl rfl hl.1 rfl (lv_room (Nat.le_of_ble_eq_true rfl)) dX12_readOne_214 ⟨Nat.le_of_ble_eq_true rfl, Nat.le_of_ble_eq_true rfl⟩) hS (fun q _ h9 => aM_up hS q h9) (aM_up hS) (fun u t H1 locs ht _ hw hB _ hk1 hS => ?_)
                    obtain ⟨fv_116, wd_117, ar_118⟩ := u
                    obtain ⟨hF_fv_116, hA_ar_118, fr_119, fa_120, p_113, p_114, p_115, -⟩ := hw
                    have hP : va_P (dC, dI) vwCl (wsM h ad cA fv_116 wd_117 ar_118) H1 := by have h9 := hB.1; rw [ht] at h9; exact h9
                    have fr_119 : fM [60, 61, 63] fv_105 fv_116 := fr_119
                    have fa_120 : fA [54, 55, 56] ar_107 ar_118 := fa_120
                    have p_114 : cX FF g0 1 (fv_116 60).toInt (fv_116 61).toInt (fv_116 62).toInt (fv_116 63).toInt (ar_118 54) (ar_118 57) := p_114
                    have p_115 : vM fv_116 ar_118 := p_115
                    have p_113 : (fv_116 61).toInt ≤ (fv_105 61).toInt := p_113
                    generalize H1 = H at hP hS ⊢
                    have z_121 : 0 ≤ (fv_116 60).toInt ∧ (fv_116 60).toInt ≤ 120 := hF_fv_116 60
                    have z_122 : 0 ≤ (fv_116 61).toInt ∧ (fv_116 61).toInt ≤ 64 := hF_fv_116 61
                    have z_123 : (fv_116 62).toInt = v_50.toInt := congrArg Int32.toInt ((fr_119 62 rfl).trans ((fr_108 62 rfl).trans ((fr_94 62 rfl).trans ((fr_78 62 rfl).trans ((fr_69 62 rfl).trans ((fr_60 62 rfl).trans ((congrFun efv_53 62))))))))
                    have z_124 : 0 ≤ (fv_116 62).toInt ∧ (fv_116 62).toInt ≤ 50 := hF_fv_116 62
                    have z_125 : (-100) ≤ (fv_116 63).toInt ∧ (fv_116 63).toInt ≤ 10 := hF_fv_116 63
                    refine lv_iconst (v := 1) hx hb dX12_readOne_217 (by decide) ?_
                    exact W.zret (v := 1) hx hb hr (by decide) (fun t ht hW => ⟨⟨1, (fv_116, wd_117, ar_118), rfl, ⟨hF_fv_116, hA_ar_118, (fM_call (fM_call (fM_call (fM_call (fM_call (fM_call (fM_put (fM_call (fM_call (fM_rf [38, 39, 40, 41, 42, 43, 44, 60, 61, 62, 63] _) fr_2 (by decide)) fr_18 (by decide)) efv_53 (by decide)) fr_60 (by decide)) fr_69 (by decide)) fr_78 (by decide)) fr_94 (by decide)) fr_108 (by decide)) fr_119 (by decide)), (fA_call (fA_call (fA_call (fA_call (fA_call (fA_call (fA_call (fA_call (fA_rf [54, 55, 56, 57] _) fa_4 (by decide)) fa_19 (by decide)) fa_61 (by decide)) fa_70 (by decide)) fa_79 (by decide)) fa_95 (by decide)) fa_109 (by decide)) fa_120 (by decide)), (iv_w (⟨by decide, by decide⟩ : (1 : Int) ≤ (1 : Int32).toInt ∧ (1 : Int32).toInt ≤ 1) (by decide) (by decide)), (Or.inr (⟨rfl, ⟨p_114, show (fv 62).toInt + 1 ≤ (fv_116 62).toInt from by omega⟩⟩)), p_115, trivial⟩, ⟨by rw [ht]; exact hP, va_K.moved hW.alike hK⟩⟩, hS.F ht⟩) hS.2.2 dX12_readOne_218
                  · skip
                    have k_126 : ¬ (fv_75 40).toInt = 3 := fun q => c_80 (Int32.toInt_inj.mp q)
                    refine lv_aload_n hx hb dX12_readOne_190 rfl (lv_at hl 2 rfl) ?_
                    refine lv_iconst (v := 1) hx hb dX12_readOne_191 (by decide) ?_
                    refine va_calli (va_runV (As := [.int 1]) (rest := []) ⟨hx, hb, hml, hown, hts⟩ (m_bad l dC dI H.size h ad cA hd fv_75 wd_76 ar_77 hF_fv_75 hA_ar_77 1) (cwV 1 hts (gV kw_8_94 kw_8_96 kw_p_69 kw_1_15 kw_8_97) rfl rfl rfl (by decide +kernel) ⟨Nat.le_of_ble_eq_true rfl, Nat.le_of_ble_eq_true rfl⟩) ⟨fun a U g mk q => ⟨q.1, q.2.1, q.2.2.1, va_K.moved (u := U) (U := U.calling g mk a) (Vm.Alike.refl U.vm) q.2.2.2⟩, va_recv hK hP (ci := 12) (q0 := 0) rfl rfl, fun U hU hW => ⟨rfl, by rw [hU], by rw [hU]; exact hP, va_K.moved hW.alike hK⟩⟩ rfl rfl hl.1 rfl (lv_room (Nat.le_of_ble_eq_true rfl)) dX12_readOne_192 ⟨Nat.le_of_ble_eq_true rfl, Nat.le_of_ble_eq_true rfl⟩) hS (fun q _ h9 => aM_up hS q h9) (aM_up hS) (fun r_127 u t H1 locs ht _ hw hB _ hk1 hS => ?_)
                    obtain ⟨fv_130, wd_131, ar_132⟩ := u
                    obtain ⟨hF_fv_130, hA_ar_132, fr_133, fa_134, p_128, p_129, -⟩ := hw
                    have hP : va_P (dC, dI) vwCl (wsM h ad cA fv_130 wd_131 ar_132) H1 := by have h9 := hB.1; rw [ht] at h9; exact h9
                    have fr_133 : fM [43, 44] fv_75 fv_130 := fr_133
                    have fa_134 : fA [] ar_77 ar_132 := fa_134
                    generalize H1 = H at hP hS ⊢
                    rcases p_129 with ⟨rfl, p_129⟩
                    · skip
                      exact W.zret (v := 0) hx hb hr (by decide) (fun t ht hW => ⟨⟨0, (fv_130, wd_131, ar_132), rfl, ⟨hF_fv_130, hA_ar_132, (fM_call (fM_call (fM_call (fM_call (fM_put (fM_call (fM_call (fM_rf [38, 39, 40, 41, 42, 43, 44, 60, 61, 62, 63] _) fr_2 (by decide)) fr_18 (by decide)) efv_53 (by decide)) fr_60 (by decide)) fr_69 (by decide)) fr_78 (by decide)) fr_133 (by decide)), (fA_call (fA_call (fA_call (fA_call (fA_call (fA_call (fA_rf [54, 55, 56, 57] _) fa_4 (by decide)) fa_19 (by decide)) fa_61 (by decide)) fa_70 (by decide)) fa_79 (by decide)) fa_134 (by decide)), (iv_w (⟨by decide, by decide⟩ : (0 : Int) ≤ (0 : Int32).toInt ∧ (0 : Int32).toInt ≤ 0) (by decide) (by decide)), (Or.inl ⟨rfl, trivial⟩), (vM_fr hp_7 (fM_call (fM_call (fM_call (fM_call (fM_put (fM_call (fM_rf [38, 39, 40, 41, 42, 43, 44, 62] _) fr_18 (by decide)) efv_53 (by decide)) fr_60 (by decide)) fr_69 (by decide)) fr_78 (by decide)) fr_133 (by decide)) (fA_call (fA_call (fA_call (fA_call (fA_call (fA_rf [] _) fa_19 (by decide)) fa_61 (by decide)) fa_70 (by decide)) fa_79 (by decide)) fa_134 (by decide)) rfl rfl rfl rfl rfl), trivial⟩, ⟨by rw [ht]; exact hP, va_K.moved hW.alike hK⟩⟩, hS.F ht⟩) hS.2.2 dX12_readOne_195
                · skip
                  have i_135 : 0 ≤ r_64.toInt ∧ r_64.toInt ≤ 0 := iv_eq1 (⟨by decide, by decide⟩ : (0 : Int) ≤ (0 : Int32).toInt ∧ (0 : Int32).toInt ≤ 0) c_71
                  refine lv_aload_n hx hb dX12_readOne_149 rfl (lv_at hl 1 rfl) ?_
                  refine lv_bipush (v := 61) hx hb dX12_readOne_150 (by decide) ?_
                  refine va_calli (va_runV (As := [.int 61]) (rest := []) ⟨hx, hb, hml, hown, hts⟩ (m_isSign l dC dI H.size h ad cA hd fv_66 wd_67 ar_68 hF_fv_66 hA_ar_68 61) (cwV 1 hts (gV kw_8_117 kw_8_119 kw_p_74 kw_1_15 kw_8_120) rfl rfl rfl (by decide +kernel) ⟨Nat.le_of_ble_eq_true rfl, Nat.le_of_ble_eq_true rfl⟩) ⟨fun a U g mk q => ⟨q.1, q.2.1, q.2.2.1, va_K.moved (u := U) (U := U.calling g mk a) (Vm.Alike.refl U.vm) q.2.2.2⟩, va_recv hK hP (ci := 12) (q0 := 0) rfl rfl, fun U hU hW => ⟨rfl, by rw [hU], by rw [hU]; exact hP, va_K.moved hW.alike hK⟩⟩ rfl rfl hl.1 rfl (lv_room (Nat.le_of_ble_eq_true rfl)) dX12_readOne_152 ⟨Nat.le_of_ble_eq_true rfl, Nat.le_of_ble_eq_true rfl⟩) hS (fun q _ h9 => aM_up hS q h9) (aM_up hS) (fun r_137 u t H1 locs ht _ hw hB _ hk1 hS => ?_)
                  obtain ⟨fv_139, wd_140, ar_141⟩ := u
                  obtain ⟨hF_fv_139, hA_ar_141, fr_142, fa_143, p_138, -⟩ := hw
                  have hP : va_P (dC, dI) vwCl (wsM h ad cA fv_139 wd_140 ar_141) H1 := by have h9 := hB.1; rw [ht] at h9; exact h9
                  have fr_142 : fM [] fv_66 fv_139 := fr_142
                  have fa_143 : fA [] ar_68 ar_141 := fa_143
                  generalize H1 = H at hP hS ⊢
                  refine lv_if_ne (tgt := 173) hx hb dX12_readOne_155 (by decide) (fun c_144 => ?_) (fun c_144 => ?_)
                  · skip
                    have i_145 : 1 ≤ r_137.toInt ∧ r_137.toInt ≤ 1 := iv_nel p_138 (by decide) c_144
                    have k_146 : ¬ r_137.toInt = 0 := fun q => c_144 (Int32.toInt_inj.mp q)
                    refine lv_aload_n hx hb dX12_readOne_173 rfl (lv_at hl 1 rfl) ?_
                    refine gM_42 hx hb htg hown hK hP dX12_readOne_174 ?_
                    refine my_ti (y := fv_57 42) ((fr_142 42 rfl).trans ((fr_69 42 rfl))) ?_
                    refine lv_istore_n (lv' := [(2, .int (fv_57 42)), (1, .int r_13), (0, .ref h)]) hx hb dX12_readOne_177 rfl hl (by decide) rfl (fun ls hl => ?_)
                    refine lv_aload_n hx hb dX12_readOne_178 rfl (lv_at hl 2 rfl) ?_
                    refine va_callv (va_runV (As := []) (rest := []) ⟨hx, hb, hml, hown, hts⟩ (m_go l dC dI H.size h ad cA hd fv_139 wd_140 ar_141 hF_fv_139 hA_ar_141) (cwV 0 hts (gV kw_8_60 kw_8_62 kw_p_64 kw_1_15 kw_8_63) rfl rfl rfl (by decide +kernel) ⟨Nat.le_of_ble_eq_true rfl, Nat.le_of_ble_eq_true rfl⟩) ⟨fun a U g mk q => ⟨q.1, q.2.1, q.2.2.1, va_K.moved (u := U) (U := U.calling g mk a) (Vm.Alike.refl U.vm) q.2.2.2⟩, va_recv hK hP (ci := 12) (q0 := 0) rfl rfl, fun U hU hW => ⟨rfl, by rw [hU], by rw [hU]; exact hP, va_K.moved hW.alike hK⟩⟩ rfl rfl hl.1 rfl (lv_room (Nat.le_of_ble_eq_true rfl)) dX12_readOne_179 ⟨Nat.le_of_ble_eq_true rfl, Nat.le_of_ble_eq_true rfl⟩) hS (fun q _ h9 => aM_up hS q h9) (aM_up hS) (fun u t H1 locs ht _ hw hB _ hk1 hS => ?_)
                    obtain ⟨fv_148, wd_149, ar_150⟩ := u
                    obtain ⟨hF_fv_148, hA_ar_150, fr_151, fa_152, -⟩ := hw
                    have hP : va_P (dC, dI) vwCl (wsM h ad cA fv_148 wd_149 ar_150) H1 := by have h9 := hB.1; rw [ht] at h9; exact h9
                    have fr_151 : fM [38, 39, 40, 41, 42] fv_139 fv_148 := fr_151
                    have fa_152 : fA [] ar_141 ar_150 := fa_152
                    generalize H1 = H at hP hS ⊢
                    refine lv_aload_n hx hb dX12_readOne_182 rfl (lv_at hl 2 rfl) ?_
                    refine gM_40 hx hb htg hown hK hP dX12_readOne_183 ?_
                    refine lv_iconst (v := 3) hx hb dX12_readOne_186 (by decide) ?_
                    refine lv_icmp_eq (tgt := 196) hx hb dX12_readOne_187 (by decide) (fun c_153 => ?_) (fun c_153 => ?_)
                    · skip
                      have i_154 : 3 ≤ (fv_148 40).toInt ∧ (fv_148 40).toInt ≤ 3 := iv_eq1 (⟨by decide, by decide⟩ : (3 : Int) ≤ (3 : Int32).toInt ∧ (3 : Int32).toInt ≤ 3) c_153
                      refine lv_aload_n hx hb dX12_readOne_196 rfl (lv_at hl 2 rfl) ?_
                      refine lv_iload_n hx hb dX12_readOne_197 rfl (lv_at hl 1 rfl) ?_
                      refine lv_iload_n hx hb dX12_readOne_198 rfl (lv_at hl 0 rfl) ?_
                      refine lv_aload_n hx hb dX12_readOne_199 rfl (lv_at hl 2 rfl) ?_
                      refine gM_41 hx hb htg hown hK hP dX12_readOne_200 ?_
                      have z_156 : (fv_148 60).toInt = (fv 60).toInt := congrArg Int32.toInt ((fr_151 60 rfl).trans ((fr_142 60 rfl).trans ((fr_69 60 rfl).trans ((fr_60 60 rfl).trans ((congrFun efv_53 60).trans ((fr_18 60 rfl).trans ((fr_2 60 rfl))))))))
                      have z_157 : 0 ≤ (fv_148 60).toInt ∧ (fv_148 60).toInt ≤ 120 := hF_fv_148 60
                      have z_158 : (fv_148 60).toInt = (fv 60).toInt := congrArg Int32.toInt ((fr_151 60 rfl).trans ((fr_142 60 rfl).trans ((fr_69 60 rfl).trans ((fr_60 60 rfl).trans ((congrFun efv_53 60).trans ((fr_18 60 rfl).trans ((fr_2 60 rfl))))))))
                      have z_159 : 0 ≤ (fv_148 60).toInt ∧ (fv_148 60).toInt ≤ 120 := hF_fv_148 60
                      refine va_callv (va_runV (As := [.int r_13, .int (fv_57 42), .int (fv_148 41)]) (rest := []) ⟨hx, hb, hml, hown, hts⟩ (m_emit l dC dI H.size h ad cA hd fv_148 wd_149 ar_150 hF_fv_148 hA_ar_150 r_13 (fv_57 42) (fv_148 41) (iv_w i_63 (by decide) (by decide)) (by omega) (vM_fr hp_7 (fM_call (fM_call (fM_call (fM_call (fM_put (fM_call (fM_rf [38, 39, 40, 41, 42, 62] _) fr_18 (by decide)) efv_53 (by decide)) fr_60 (by decide)) fr_69 (by decide)) fr_142 (by decide)) fr_151 (by decide)) (fA_call (fA_call (fA_call (fA_call (fA_call (fA_rf [] _) fa_19 (by decide)) fa_61 (by decide)) fa_70 (by decide)) fa_143 (by decide)) fa_152 (by decide)) rfl rfl rfl rfl rfl)) (cwV 3 hts (gV kw_8_121 kw_8_123 kw_p_75 kw_1_15 kw_8_124) rfl rfl rfl (by decide +kernel) ⟨Nat.le_of_ble_eq_true rfl, Nat.le_of_ble_eq_true rfl⟩) ⟨fun a U g mk q => ⟨q.1, q.2.1, q.2.2.1, va_K.moved (u := U) (U := U.calling g mk a) (Vm.Alike.refl U.vm) q.2.2.2⟩, va_recv hK hP (ci := 12) (q0 := 0) rfl rfl, fun U hU hW => ⟨rfl, by rw [hU], by rw [hU]; exact hP, va_K.moved hW.alike hK⟩⟩ rfl rfl hl.1 rfl (lv_room (Nat.le_of_ble_eq_true rfl)) dX12_readOne_203 ⟨Nat.le_of_ble_eq_true rfl, Nat.le_of_ble_eq_true rfl⟩) hS (fun q _ h9 => aM_up hS q h9) (aM_up hS) (fun u t H1 locs ht _ hw hB _ hk1 hS => ?_)
                      obtain ⟨fv_164, wd_165, ar_166⟩ := u
                      obtain ⟨hF_fv_164, hA_ar_166, fr_167, fa_168, p_161, p_162, p_163, -⟩ := hw
                      have hP : va_P (dC, dI) vwCl (wsM h ad cA fv_164 wd_165 ar_166) H1 := by have h9 := hB.1; rw [ht] at h9; exact h9
                      have fr_167 : fM [60] fv_148 fv_164 := fr_167
                      have fa_168 : fA [54, 55, 56] ar_150 ar_166 := fa_168
                      have p_163 : vM fv_164 ar_166 := p_163
                      have p_161 : (fv_164 60).toInt = (fv_148 60).toInt + 1 := p_161
                      have p_162 : ar_166 54 = upd (ar_150 54) (1200 + (fv_148 60).toInt.toNat) r_13 := p_162
                      generalize H1 = H at hP hS ⊢
                      have z_169 : 0 ≤ (fv_164 60).toInt ∧ (fv_164 60).toInt ≤ 120 := hF_fv_164 60
                      have z_170 : (fv_164 61).toInt = (fv_1 61).toInt := congrArg Int32.toInt ((fr_167 61 rfl).trans ((fr_151 61 rfl).trans ((fr_142 61 rfl).trans ((fr_69 61 rfl).trans ((fr_60 61 rfl).trans ((congrFun efv_53 61).trans ((fr_18 61 rfl))))))))
                      have z_171 : 0 ≤ (fv_164 61).toInt ∧ (fv_164 61).toInt ≤ 64 := hF_fv_164 61
                      have z_172 : (fv_164 62).toInt = v_50.toInt := congrArg Int32.toInt ((fr_167 62 rfl).trans ((fr_151 62 rfl).trans ((fr_142 62 rfl).trans ((fr_69 62 rfl).trans ((fr_60 62 rfl).trans ((congrFun efv_53 62)))))))
                      have z_173 : 0 ≤ (fv_164 62).toInt ∧ (fv_164 62).toInt ≤ 50 := hF_fv_164 62
                      have z_174 : (fv_164 63).toInt = (fv_1 63).toInt := congrArg Int32.toInt ((fr_167 63 rfl).trans ((fr_151 63 rfl).trans ((fr_142 63 rfl).trans ((fr_69 63 rfl).trans ((fr_60 63 rfl).trans ((congrFun efv_53 63).trans ((fr_18 63 rfl))))))))
                      have z_175 : (-100) ≤ (fv_164 63).toInt ∧ (fv_164 63).toInt ≤ 10 := hF_fv_164 63
                      have hp_176 : cX FF g0 1 (fv_164 60).toInt (fv_164 61).toInt (fv_164 62).toInt (fv_164 63).toInt (ar_166 54) (ar_166 57) := cX_eq (cX_atom (g1 := ar_166 54) (g := ar_17 54) (i := 1200 + (fv_148 60).toInt.toNat) (cX_fr hp_6 (fM_call (fM_rf [] _) fr_18 (by decide)) (fA_call (fA_rf [] _) fa_19 (by decide)) rfl rfl rfl rfl rfl rfl) (by omega) (p1 := (fv_164 60).toInt) (t1 := (fv_164 61).toInt) (o1 := (fv_164 62).toInt) (w1 := (fv_164 63).toInt) (by omega) (by omega) (by omega) (by omega) (by omega) (by omega) (by rw [p_162, ((fA_call (fA_call (fA_call (fA_call (fA_rf [] _) fa_61 (by decide)) fa_70 (by decide)) fa_143 (by decide)) fa_152 (by decide)) 54 rfl)])) rfl rfl rfl rfl rfl ((fA_call (fA_call (fA_call (fA_call (fA_call (fA_rf [54, 55, 56] _) fa_61 (by decide)) fa_70 (by decide)) fa_143 (by decide)) fa_152 (by decide)) fa_168 (by decide)) 57 rfl)
                      refine lv_aload_n hx hb dX12_readOne_206 rfl (lv_at hl 2 rfl) ?_
                      refine va_callv (va_runV (As := []) (rest := []) ⟨hx, hb, hml, hown, hts⟩ (m_go l dC dI H.size h ad cA hd fv_164 wd_165 ar_166 hF_fv_164 hA_ar_166) (cwV 0 hts (gV kw_8_60 kw_8_62 kw_p_64 kw_1_15 kw_8_63) rfl rfl rfl (by decide +kernel) ⟨Nat.le_of_ble_eq_true rfl, Nat.le_of_ble_eq_true rfl⟩) ⟨fun a U g mk q => ⟨q.1, q.2.1, q.2.2.1, va_K.moved (u := U) (U := U.calling g mk a) (Vm.Alike.refl U.vm) q.2.2.2⟩, va_recv hK hP (ci := 12) (q0 := 0) rfl rfl, fun U hU hW => ⟨rfl, by rw [hU], by rw [hU]; exact hP, va_K.moved hW.alike hK⟩⟩ rfl rfl hl.1 rfl (lv_room (Nat.le_of_ble_eq_true rfl)) dX12_readOne_207 ⟨Nat.le_of_ble_eq_true rfl, Nat.le_of_ble_eq_true rfl⟩) hS (fun q _ h9 => aM_up hS q h9) (aM_up hS) (fun u t H1 locs ht _ hw hB _ hk1 hS => ?_)
                      obtain ⟨fv_178, wd_179, ar_180⟩ := u
                      obtain ⟨hF_fv_178, hA_ar_180, fr_181, fa_182, -⟩ := hw
                      have hP : va_P (dC, dI) vwCl (wsM h ad cA fv_178 wd_179 ar_180) H1 := by have h9 := hB.1; rw [ht] at h9; exact h9
                      have fr_181 : fM [38, 39, 40, 41, 42] fv_164 fv_178 := fr_181
                      have fa_182 : fA [] ar_166 ar_180 := fa_182
                      generalize H1 = H at hP hS ⊢
                      refine lv_goto (tgt := 213) hx hb dX12_readOne_210 (by decide) ?_
                      refine lv_aload_n hx hb dX12_readOne_213 rfl (lv_at hl 2 rfl) ?_
                      have z_183 : (fv_178 61).toInt = (fv_1 61).toInt := congrArg Int32.toInt ((fr_181 61 rfl).trans ((fr_167 61 rfl).trans ((fr_151 61 rfl).trans ((fr_142 61 rfl).trans ((fr_69 61 rfl).trans ((fr_60 61 rfl).trans ((congrFun efv_53 61).trans ((fr_18 61 rfl)))))))))
                      have z_184 : 0 ≤ (fv_178 61).toInt ∧ (fv_178 61).toInt ≤ 64 := hF_fv_178 61
                      refine va_callv (va_runV (As := []) (rest := []) ⟨hx, hb, hml, hown, hts⟩ (m_dropNots l dC dI H.size h ad cA hd fv_178 wd_179 ar_180 hF_fv_178 hA_ar_180 FF g0 (cX_fr hp_176 (fM_call (fM_rf [38, 39, 40, 41, 42] _) fr_181 (by decide)) (fA_call (fA_rf [] _) fa_182 (by decide)) rfl rfl rfl rfl rfl rfl) (vM_fr p_163 (fM_call (fM_rf [38, 39, 40, 41, 42] _) fr_181 (by decide)) (fA_call (fA_rf [] _) fa_182 (by decide)) rfl rfl rfl rfl rfl)) (cwV 0 hts (gV kw_8_125 kw_8_127 kw_p_76 kw_1_15 kw_8_128) rfl rfl rfl (by decide +kernel) ⟨Nat.le_of_ble_eq_true rfl, Nat.le_of_ble_eq_true rfl⟩) ⟨fun a U g mk q => ⟨q.1, q.2.1, q.2.2.1, va_K.moved (u := U) (U := U.calling g mk a) (Vm.Alike.refl U.vm) q.2.2.2⟩, va_recv hK hP (ci := 12) (q0 := 0) rfl rfl, fun U hU hW => ⟨rfl, by rw [hU], by rw [hU]; exact hP, va_K.moved hW.alike hK⟩⟩ rfl rfl hl.1 rfl (lv_room (Nat.le_of_ble_eq_true rfl)) dX12_readOne_214 ⟨Nat.le_of_ble_eq_true rfl, Nat.le_of_ble_eq_true rfl⟩) hS (fun q _ h9 => aM_up hS q h9) (aM_up hS) (fun u t H1 locs ht _ hw hB _ hk1 hS => ?_)
                      obtain ⟨fv_189, wd_190, ar_191⟩ := u
                      obtain ⟨hF_fv_189, hA_ar_191, fr_192, fa_193, p_186, p_187, p_188, -⟩ := hw
                      have hP : va_P (dC, dI) vwCl (wsM h ad cA fv_189 wd_190 ar_191) H1 := by have h9 := hB.1; rw [ht] at h9; exact h9
                      have fr_192 : fM [60, 61, 63] fv_178 fv_189 := fr_192
                      have fa_193 : fA [54, 55, 56] ar_180 ar_191 := fa_193
                      have p_187 : cX FF g0 1 (fv_189 60).toInt (fv_189 61).toInt (fv_189 62).toInt (fv_189 63).toInt (ar_191 54) (ar_191 57) := p_187
                      have p_188 : vM fv_189 ar_191 := p_188
                      have p_186 : (fv_189 61).toInt ≤ (fv_178 61).toInt := p_186
                      generalize H1 = H at hP hS ⊢
                      have z_194 : 0 ≤ (fv_189 60).toInt ∧ (fv_189 60).toInt ≤ 120 := hF_fv_189 60
                      have z_195 : 0 ≤ (fv_189 61).toInt ∧ (fv_189 61).toInt ≤ 64 := hF_fv_189 61
                      have z_196 : (fv_189 62).toInt = v_50.toInt := congrArg Int32.toInt ((fr_192 62 rfl).trans ((fr_181 62 rfl).trans ((fr_167 62 rfl).trans ((fr_151 62 rfl).trans ((fr_142 62 rfl).trans ((fr_69 62 rfl).trans ((fr_60 62 rfl).trans ((congrFun efv_53 62)))))))))
                      have z_197 : 0 ≤ (fv_189 62).toInt ∧ (fv_189 62).toInt ≤ 50 := hF_fv_189 62
                      have z_198 : (-100) ≤ (fv_189 63).toInt ∧ (fv_189 63).toInt ≤ 10 := hF_fv_189 63
                      refine lv_iconst (v := 1) hx hb dX12_readOne_217 (by decide) ?_
                      exact W.zret (v := 1) hx hb hr (by decide) (fun t ht hW => ⟨⟨1, (fv_189, wd_190, ar_191), rfl, ⟨hF_fv_189, hA_ar_191, (fM_call (fM_call (fM_call (fM_call (fM_call (fM_call (fM_call (fM_put (fM_call (fM_call (fM_rf [38, 39, 40, 41, 42, 43, 44, 60, 61, 62, 63] _) fr_2 (by decide)) fr_18 (by decide)) efv_53 (by decide)) fr_60 (by decide)) fr_69 (by decide)) fr_142 (by decide)) fr_151 (by decide)) fr_167 (by decide)) fr_181 (by decide)) fr_192 (by decide)), (fA_call (fA_call (fA_call (fA_call (fA_call (fA_call (fA_call (fA_call (fA_call (fA_rf [54, 55, 56, 57] _) fa_4 (by decide)) fa_19 (by decide)) fa_61 (by decide)) fa_70 (by decide)) fa_143 (by decide)) fa_152 (by decide)) fa_168 (by decide)) fa_182 (by decide)) fa_193 (by decide)), (iv_w (⟨by decide, by decide⟩ : (1 : Int) ≤ (1 : Int32).toInt ∧ (1 : Int32).toInt ≤ 1) (by decide) (by decide)), (Or.inr (⟨rfl, ⟨p_187, show (fv 62).toInt + 1 ≤ (fv_189 62).toInt from by omega⟩⟩)), p_188, trivial⟩, ⟨by rw [ht]; exact hP, va_K.moved hW.alike hK⟩⟩, hS.F ht⟩) hS.2.2 dX12_readOne_218
                    · skip
                      have k_199 : ¬ (fv_148 40).toInt = 3 := fun q => c_153 (Int32.toInt_inj.mp q)
                      refine lv_aload_n hx hb dX12_readOne_190 rfl (lv_at hl 2 rfl) ?_
                      refine lv_iconst (v := 1) hx hb dX12_readOne_191 (by decide) ?_
                      refine va_calli (va_runV (As := [.int 1]) (rest := []) ⟨hx, hb, hml, hown, hts⟩ (m_bad l dC dI H.size h ad cA hd fv_148 wd_149 ar_150 hF_fv_148 hA_ar_150 1) (cwV 1 hts (gV kw_8_94 kw_8_96 kw_p_69 kw_1_15 kw_8_97) rfl rfl rfl (by decide +kernel) ⟨Nat.le_of_ble_eq_true rfl, Nat.le_of_ble_eq_true rfl⟩) ⟨fun a U g mk q => ⟨q.1, q.2.1, q.2.2.1, va_K.moved (u := U) (U := U.calling g mk a) (Vm.Alike.refl U.vm) q.2.2.2⟩, va_recv hK hP (ci := 12) (q0 := 0) rfl rfl, fun U hU hW => ⟨rfl, by rw [hU], by rw [hU]; exact hP, va_K.moved hW.alike hK⟩⟩ rfl rfl hl.1 rfl (lv_room (Nat.le_of_ble_eq_true rfl)) dX12_readOne_192 ⟨Nat.le_of_ble_eq_true rfl, Nat.le_of_ble_eq_true rfl⟩) hS (fun q _ h9 => aM_up hS q h9) (aM_up hS) (fun r_200 u t H1 locs ht _ hw hB _ hk1 hS => ?_)
                      obtain ⟨fv_203, wd_204, ar_205⟩ := u
                      obtain ⟨hF_fv_203, hA_ar_205, fr_206, fa_207, p_201, p_202, -⟩ := hw
                      have hP : va_P (dC, dI) vwCl (wsM h ad cA fv_203 wd_204 ar_205) H1 := by have h9 := hB.1; rw [ht] at h9; exact h9
                      have fr_206 : fM [43, 44] fv_148 fv_203 := fr_206
                      have fa_207 : fA [] ar_150 ar_205 := fa_207
                      generalize H1 = H at hP hS ⊢
                      rcases p_202 with ⟨rfl, p_202⟩
                      · skip
                        exact W.zret (v := 0) hx hb hr (by decide) (fun t ht hW => ⟨⟨0, (fv_203, wd_204, ar_205), rfl, ⟨hF_fv_203, hA_ar_205, (fM_call (fM_call (fM_call (fM_call (fM_call (fM_put (fM_call (fM_call (fM_rf [38, 39, 40, 41, 42, 43, 44, 60, 61, 62, 63] _) fr_2 (by decide)) fr_18 (by decide)) efv_53 (by decide)) fr_60 (by decide)) fr_69 (by decide)) fr_142 (by decide)) fr_151 (by decide)) fr_206 (by decide)), (fA_call (fA_call (fA_call (fA_call (fA_call (fA_call (fA_call (fA_rf [54, 55, 56, 57] _) fa_4 (by decide)) fa_19 (by decide)) fa_61 (by decide)) fa_70 (by decide)) fa_143 (by decide)) fa_152 (by decide)) fa_207 (by decide)), (iv_w (⟨by decide, by decide⟩ : (0 : Int) ≤ (0 : Int32).toInt ∧ (0 : Int32).toInt ≤ 0) (by decide) (by decide)), (Or.inl ⟨rfl, trivial⟩), (vM_fr hp_7 (fM_call (fM_call (fM_call (fM_call (fM_call (fM_put (fM_call (fM_rf [38, 39, 40, 41, 42, 43, 44, 62] _) fr_18 (by decide)) efv_53 (by decide)) fr_60 (by decide)) fr_69 (by decide)) fr_142 (by decide)) fr_151 (by decide)) fr_206 (by decide)) (fA_call (fA_call (fA_call (fA_call (fA_call (fA_call (fA_rf [] _) fa_19 (by decide)) fa_61 (by decide)) fa_70 (by decide)) fa_143 (by decide)) fa_152 (by decide)) fa_207 (by decide)) rfl rfl rfl rfl rfl), trivial⟩, ⟨by rw [ht]; exact hP, va_K.moved hW.alike hK⟩⟩, hS.F ht⟩) hS.2.2 dX12_readOne_195
                  · skip
                    have i_208 : 0 ≤ r_137.toInt ∧ r_137.toInt ≤ 0 := iv_eq1 (⟨by decide, by decide⟩ : (0 : Int) ≤ (0 : Int32).toInt ∧ (0 : Int32).toInt ≤ 0) c_144
                    refine lv_aload_n hx hb dX12_readOne_158 rfl (lv_at hl 1 rfl) ?_
                    refine lv_bipush (v := 62) hx hb dX12_readOne_159 (by decide) ?_
                    refine va_calli (va_runV (As := [.int 62]) (rest := []) ⟨hx, hb, hml, hown, hts⟩ (m_isSign l dC dI H.size h ad cA hd fv_139 wd_140 ar_141 hF_fv_139 hA_ar_141 62) (cwV 1 hts (gV kw_8_117 kw_8_119 kw_p_74 kw_1_15 kw_8_120) rfl rfl rfl (by decide +kernel) ⟨Nat.le_of_ble_eq_true rfl, Nat.le_of_ble_eq_true rfl⟩) ⟨fun a U g mk q => ⟨q.1, q.2.1, q.2.2.1, va_K.moved (u := U) (U := U.calling g mk a) (Vm.Alike.refl U.vm) q.2.2.2⟩, va_recv hK hP (ci := 12) (q0 := 0) rfl rfl, fun U hU hW => ⟨rfl, by rw [hU], by rw [hU]; exact hP, va_K.moved hW.alike hK⟩⟩ rfl rfl hl.1 rfl (lv_room (Nat.le_of_ble_eq_true rfl)) dX12_readOne_161 ⟨Nat.le_of_ble_eq_true rfl, Nat.le_of_ble_eq_true rfl⟩) hS (fun q _ h9 => aM_up hS q h9) (aM_up hS) (fun r_210 u t H1 locs ht _ hw hB _ hk1 hS => ?_)
                    obtain ⟨fv_212, wd_213, ar_214⟩ := u
                    obtain ⟨hF_fv_212, hA_ar_214, fr_215, fa_216, p_211, -⟩ := hw
                    have hP : va_P (dC, dI) vwCl (wsM h ad cA fv_212 wd_213 ar_214) H1 := by have h9 := hB.1; rw [ht] at h9; exact h9
                    have fr_215 : fM [] fv_139 fv_212 := fr_215
                    have fa_216 : fA [] ar_141 ar_214 := fa_216
                    generalize H1 = H at hP hS ⊢
                    refine lv_if_ne (tgt := 173) hx hb dX12_readOne_164 (by decide) (fun c_217 => ?_) (fun c_217 => ?_)
                    · skip
                      have i_218 : 1 ≤ r_210.toInt ∧ r_210.toInt ≤ 1 := iv_nel p_211 (by decide) c_217
                      have k_219 : ¬ r_210.toInt = 0 := fun q => c_217 (Int32.toInt_inj.mp q)
                      refine lv_aload_n hx hb dX12_readOne_173 rfl (lv_at hl 1 rfl) ?_
                      refine gM_42 hx hb htg hown hK hP dX12_readOne_174 ?_
                      refine my_ti (y := fv_57 42) ((fr_215 42 rfl).trans ((fr_142 42 rfl).trans ((fr_69 42 rfl)))) ?_
                      refine lv_istore_n (lv' := [(2, .int (fv_57 42)), (1, .int r_13), (0, .ref h)]) hx hb dX12_readOne_177 rfl hl (by decide) rfl (fun ls hl => ?_)
                      refine lv_aload_n hx hb dX12_readOne_178 rfl (lv_at hl 2 rfl) ?_
                      refine va_callv (va_runV (As := []) (rest := []) ⟨hx, hb, hml, hown, hts⟩ (m_go l dC dI H.size h ad cA hd fv_212 wd_213 ar_214 hF_fv_212 hA_ar_214) (cwV 0 hts (gV kw_8_60 kw_8_62 kw_p_64 kw_1_15 kw_8_63) rfl rfl rfl (by decide +kernel) ⟨Nat.le_of_ble_eq_true rfl, Nat.le_of_ble_eq_true rfl⟩) ⟨fun a U g mk q => ⟨q.1, q.2.1, q.2.2.1, va_K.moved (u := U) (U := U.calling g mk a) (Vm.Alike.refl U.vm) q.2.2.2⟩, va_recv hK hP (ci := 12) (q0 := 0) rfl rfl, fun U hU hW => ⟨rfl, by rw [hU], by rw [hU]; exact hP, va_K.moved hW.alike hK⟩⟩ rfl rfl hl.1 rfl (lv_room (Nat.le_of_ble_eq_true rfl)) dX12_readOne_179 ⟨Nat.le_of_ble_eq_true rfl, Nat.le_of_ble_eq_true rfl⟩) hS (fun q _ h9 => aM_up hS q h9) (aM_up hS) (fun u t H1 locs ht _ hw hB _ hk1 hS => ?_)
                      obtain ⟨fv_221, wd_222, ar_223⟩ := u
                      obtain ⟨hF_fv_221, hA_ar_223, fr_224, fa_225, -⟩ := hw
                      have hP : va_P (dC, dI) vwCl (wsM h ad cA fv_221 wd_222 ar_223) H1 := by have h9 := hB.1; rw [ht] at h9; exact h9
                      have fr_224 : fM [38, 39, 40, 41, 42] fv_212 fv_221 := fr_224
                      have fa_225 : fA [] ar_214 ar_223 := fa_225
                      generalize H1 = H at hP hS ⊢
                      refine lv_aload_n hx hb dX12_readOne_182 rfl (lv_at hl 2 rfl) ?_
                      refine gM_40 hx hb htg hown hK hP dX12_readOne_183 ?_
                      refine lv_iconst (v := 3) hx hb dX12_readOne_186 (by decide) ?_
                      refine lv_icmp_eq (tgt := 196) hx hb dX12_readOne_187 (by decide) (fun c_226 => ?_) (fun c_226 => ?_)
                      · skip
                        have i_227 : 3 ≤ (fv_221 40).toInt ∧ (fv_221 40).toInt ≤ 3 := iv_eq1 (⟨by decide, by decide⟩ : (3 : Int) ≤ (3 : Int32).toInt ∧ (3 : Int32).toInt ≤ 3) c_226
                        refine lv_aload_n hx hb dX12_readOne_196 rfl (lv_at hl 2 rfl) ?_
                        refine lv_iload_n hx hb dX12_readOne_197 rfl (lv_at hl 1 rfl) ?_
                        refine lv_iload_n hx hb dX12_readOne_198 rfl (lv_at hl 0 rfl) ?_
                        refine lv_aload_n hx hb dX12_readOne_199 rfl (lv_at hl 2 rfl) ?_
                        refine gM_41 hx hb htg hown hK hP dX12_readOne_200 ?_
                        have z_229 : (fv_221 60).toInt = (fv 60).toInt := congrArg Int32.toInt ((fr_224 60 rfl).trans ((fr_215 60 rfl).trans ((fr_142 60 rfl).trans ((fr_69 60 rfl).trans ((fr_60 60 rfl).trans ((congrFun efv_53 60).trans ((fr_18 60 rfl).trans ((fr_2 60 rfl)))))))))
                        have z_230 : 0 ≤ (fv_221 60).toInt ∧ (fv_221 60).toInt ≤ 120 := hF_fv_221 60
                        have z_231 : (fv_221 60).toInt = (fv 60).toInt := congrArg Int32.toInt ((fr_224 60 rfl).trans ((fr_215 60 rfl).trans ((fr_142 60 rfl).trans ((fr_69 60 rfl).trans ((fr_60 60 rfl).trans ((congrFun efv_53 60).trans ((fr_18 60 rfl).trans ((fr_2 60 rfl)))))))))
                        have z_232 : 0 ≤ (fv_221 60).toInt ∧ (fv_221 60).toInt ≤ 120 := hF_fv_221 60
                        refine va_callv (va_runV (As := [.int r_13, .int (fv_57 42), .int (fv_221 41)]) (rest := []) ⟨hx, hb, hml, hown, hts⟩ (m_emit l dC dI H.size h ad cA hd fv_221 wd_222 ar_223 hF_fv_221 hA_ar_223 r_13 (fv_57 42) (fv_221 41) (iv_w i_63 (by decide) (by decide)) (by omega) (vM_fr hp_7 (fM_call (fM_call (fM_call (fM_call (fM_call (fM_put (fM_call (fM_rf [38, 39, 40, 41, 42, 62] _) fr_18 (by decide)) efv_53 (by decide)) fr_60 (by decide)) fr_69 (by decide)) fr_142 (by decide)) fr_215 (by decide)) fr_224 (by decide)) (fA_call (fA_call (fA_call (fA_call (fA_call (fA_call (fA_rf [] _) fa_19 (by decide)) fa_61 (by decide)) fa_70 (by decide)) fa_143 (by decide)) fa_216 (by decide)) fa_225 (by decide)) rfl rfl rfl rfl rfl)) (cwV 3 hts (gV kw_8_121 kw_8_123 kw_p_75 kw_1_15 kw_8_124) rfl rfl rfl (by decide +kernel) ⟨Nat.le_of_ble_eq_true rfl, Nat.le_of_ble_eq_true rfl⟩) ⟨fun a U g mk q => ⟨q.1, q.2.1, q.2.2.1, va_K.moved (u := U) (U := U.calling g mk a) (Vm.Alike.refl U.vm) q.2.2.2⟩, va_recv hK hP (ci := 12) (q0 := 0) rfl rfl, fun U hU hW => ⟨rfl, by rw [hU], by rw [hU]; exact hP, va_K.moved hW.alike hK⟩⟩ rfl rfl hl.1 rfl (lv_room (Nat.le_of_ble_eq_true rfl)) dX12_readOne_203 ⟨Nat.le_of_ble_eq_true rfl, Nat.le_of_ble_eq_true rfl⟩) hS (fun q _ h9 => aM_up hS q h9) (aM_up hS) (fun u t H1 locs ht _ hw hB _ hk1 hS => ?_)
                        obtain ⟨fv_237, wd_238, ar_239⟩ := u
                        obtain ⟨hF_fv_237, hA_ar_239, fr_240, fa_241, p_234, p_235, p_236, -⟩ := hw
                        have hP : va_P (dC, dI) vwCl (wsM h ad cA fv_237 wd_238 ar_239) H1 := by have h9 := hB.1; rw [ht] at h9; exact h9
                        have fr_240 : fM [60] fv_221 fv_237 := fr_240
                        have fa_241 : fA [54, 55, 56] ar_223 ar_239 := fa_241
                        have p_236 : vM fv_237 ar_239 := p_236
                        have p_234 : (fv_237 60).toInt = (fv_221 60).toInt + 1 := p_234
                        have p_235 : ar_239 54 = upd (ar_223 54) (1200 + (fv_221 60).toInt.toNat) r_13 := p_235
                        generalize H1 = H at hP hS ⊢
                        have z_242 : 0 ≤ (fv_237 60).toInt ∧ (fv_237 60).toInt ≤ 120 := hF_fv_237 60
                        have z_243 : (fv_237 61).toInt = (fv_1 61).toInt := congrArg Int32.toInt ((fr_240 61 rfl).trans ((fr_224 61 rfl).trans ((fr_215 61 rfl).trans ((fr_142 61 rfl).trans ((fr_69 61 rfl).trans ((fr_60 61 rfl).trans ((congrFun efv_53 61).trans ((fr_18 61 rfl)))))))))
                        have z_244 : 0 ≤ (fv_237 61).toInt ∧ (fv_237 61).toInt ≤ 64 := hF_fv_237 61
                        have z_245 : (fv_237 62).toInt = v_50.toInt := congrArg Int32.toInt ((fr_240 62 rfl).trans ((fr_224 62 rfl).trans ((fr_215 62 rfl).trans ((fr_142 62 rfl).trans ((fr_69 62 rfl).trans ((fr_60 62 rfl).trans ((congrFun efv_53 62))))))))
                        have z_246 : 0 ≤ (fv_237 62).toInt ∧ (fv_237 62).toInt ≤ 50 := hF_fv_237 62
                        have z_247 : (fv_237 63).toInt = (fv_1 63).toInt := congrArg Int32.toInt ((fr_240 63 rfl).trans ((fr_224 63 rfl).trans ((fr_215 63 rfl).trans ((fr_142 63 rfl).trans ((fr_69 63 rfl).trans ((fr_60 63 rfl).trans ((congrFun efv_53 63).trans ((fr_18 63 rfl)))))))))
                        have z_248 : (-100) ≤ (fv_237 63).toInt ∧ (fv_237 63).toInt ≤ 10 := hF_fv_237 63
                        have hp_249 : cX FF g0 1 (fv_237 60).toInt (fv_237 61).toInt (fv_237 62).toInt (fv_237 63).toInt (ar_239 54) (ar_239 57) := cX_eq (cX_atom (g1 := ar_239 54) (g := ar_17 54) (i := 1200 + (fv_221 60).toInt.toNat) (cX_fr hp_6 (fM_call (fM_rf [] _) fr_18 (by decide)) (fA_call (fA_rf [] _) fa_19 (by decide)) rfl rfl rfl rfl rfl rfl) (by omega) (p1 := (fv_237 60).toInt) (t1 := (fv_237 61).toInt) (o1 := (fv_237 62).toInt) (w1 := (fv_237 63).toInt) (by omega) (by omega) (by omega) (by omega) (by omega) (by omega) (by rw [p_235, ((fA_call (fA_call (fA_call (fA_call (fA_call (fA_rf [] _) fa_61 (by decide)) fa_70 (by decide)) fa_143 (by decide)) fa_216 (by decide)) fa_225 (by decide)) 54 rfl)])) rfl rfl rfl rfl rfl ((fA_call (fA_call (fA_call (fA_call (fA_call (fA_call (fA_rf [54, 55, 56] _) fa_61 (by decide)) fa_70 (by decide)) fa_143 (by decide)) fa_216 (by decide)) fa_225 (by decide)) fa_241 (by decide)) 57 rfl)
                        refine lv_aload_n hx hb dX12_readOne_206 rfl (lv_at hl 2 rfl) ?_
                        refine va_callv (va_runV (As := []) (rest := []) ⟨hx, hb, hml, hown, hts⟩ (m_go l dC dI H.size h ad cA hd fv_237 wd_238 ar_239 hF_fv_237 hA_ar_239) (cwV 0 hts (gV kw_8_60 kw_8_62 kw_p_64 kw_1_15 kw_8_63) rfl rfl rfl (by decide +kernel) ⟨Nat.le_of_ble_eq_true rfl, Nat.le_of_ble_eq_true rfl⟩) ⟨fun a U g mk q => ⟨q.1, q.2.1, q.2.2.1, va_K.moved (u := U) (U := U.calling g mk a) (Vm.Alike.refl U.vm) q.2.2.2⟩, va_recv hK hP (ci := 12) (q0 := 0) rfl rfl, fun U hU hW => ⟨rfl, by rw [hU], by rw [hU]; exact hP, va_K.moved hW.alike hK⟩⟩ rfl rfl hl.1 rfl (lv_room (Nat.le_of_ble_eq_true rfl)) dX12_readOne_207 ⟨Nat.le_of_ble_eq_true rfl, Nat.le_of_ble_eq_true rfl⟩) hS (fun q _ h9 => aM_up hS q h9) (aM_up hS) (fun u t H1 locs ht _ hw hB _ hk1 hS => ?_)
                        obtain ⟨fv_251, wd_252, ar_253⟩ := u
                        obtain ⟨hF_fv_251, hA_ar_253, fr_254, fa_255, -⟩ := hw
                        have hP : va_P (dC, dI) vwCl (wsM h ad cA fv_251 wd_252 ar_253) H1 := by have h9 := hB.1; rw [ht] at h9; exact h9
                        have fr_254 : fM [38, 39, 40, 41, 42] fv_237 fv_251 := fr_254
                        have fa_255 : fA [] ar_239 ar_253 := fa_255
                        generalize H1 = H at hP hS ⊢
                        refine lv_goto (tgt := 213) hx hb dX12_readOne_210 (by decide) ?_
                        refine lv_aload_n hx hb dX12_readOne_213 rfl (lv_at hl 2 rfl) ?_
                        have z_256 : (fv_251 61).toInt = (fv_1 61).toInt := congrArg Int32.toInt ((fr_254 61 rfl).trans ((fr_240 61 rfl).trans ((fr_224 61 rfl).trans ((fr_215 61 rfl).trans ((fr_142 61 rfl).trans ((fr_69 61 rfl).trans ((fr_60 61 rfl).trans ((congrFun efv_53 61).trans ((fr_18 61 rfl))))))))))
                        have z_257 : 0 ≤ (fv_251 61).toInt ∧ (fv_251 61).toInt ≤ 64 := hF_fv_251 61
                        refine va_callv (va_runV (As := []) (rest := []) ⟨hx, hb, hml, hown, hts⟩ (m_dropNots l dC dI H.size h ad cA hd fv_251 wd_252 ar_253 hF_fv_251 hA_ar_253 FF g0 (cX_fr hp_249 (fM_call (fM_rf [38, 39, 40, 41, 42] _) fr_254 (by decide)) (fA_call (fA_rf [] _) fa_255 (by decide)) rfl rfl rfl rfl rfl rfl) (vM_fr p_236 (fM_call (fM_rf [38, 39, 40, 41, 42] _) fr_254 (by decide)) (fA_call (fA_rf [] _) fa_255 (by decide)) rfl rfl rfl rfl rfl)) (cwV 0 hts (gV kw_8_125 kw_8_127 kw_p_76 kw_1_15 kw_8_128) rfl rfl rfl (by decide +kernel) ⟨Nat.le_of_ble_eq_true rfl, Nat.le_of_ble_eq_true rfl⟩) ⟨fun a U g mk q => ⟨q.1, q.2.1, q.2.2.1, va_K.moved (u := U) (U := U.calling g mk a) (Vm.Alike.refl U.vm) q.2.2.2⟩, va_recv hK hP (ci := 12) (q0 := 0) rfl rfl, fun U hU hW => ⟨rfl, by rw [hU], by rw [hU]; exact hP, va_K.moved hW.alike hK⟩⟩ rfl rfl hl.1 rfl (lv_room (Nat.le_of_ble_eq_true rfl)) dX12_readOne_214 ⟨Nat.le_of_ble_eq_true rfl, Nat.le_of_ble_eq_true rfl⟩) hS (fun q _ h9 => aM_up hS q h9) (aM_up hS) (fun u t H1 locs ht _ hw hB _ hk1 hS => ?_)
                        obtain ⟨fv_262, wd_263, ar_264⟩ := u
                        obtain ⟨hF_fv_262, hA_ar_264, fr_265, fa_266, p_259, p_260, p_261, -⟩ := hw
                        have hP : va_P (dC, dI) vwCl (wsM h ad cA fv_262 wd_263 ar_264) H1 := by have h9 := hB.1; rw [ht] at h9; exact h9
                        have fr_265 : fM [60, 61, 63] fv_251 fv_262 := fr_265
                        have fa_266 : fA [54, 55, 56] ar_253 ar_264 := fa_266
                        have p_260 : cX FF g0 1 (fv_262 60).toInt (fv_262 61).toInt (fv_262 62).toInt (fv_262 63).toInt (ar_264 54) (ar_264 57) := p_260
                        have p_261 : vM fv_262 ar_264 := p_261
                        have p_259 : (fv_262 61).toInt ≤ (fv_251 61).toInt := p_259
                        generalize H1 = H at hP hS ⊢
                        have z_267 : 0 ≤ (fv_262 60).toInt ∧ (fv_262 60).toInt ≤ 120 := hF_fv_262 60
                        have z_268 : 0 ≤ (fv_262 61).toInt ∧ (fv_262 61).toInt ≤ 64 := hF_fv_262 61
                        have z_269 : (fv_262 62).toInt = v_50.toInt := congrArg Int32.toInt ((fr_265 62 rfl).trans ((fr_254 62 rfl).trans ((fr_240 62 rfl).trans ((fr_224 62 rfl).trans ((fr_215 62 rfl).trans ((fr_142 62 rfl).trans ((fr_69 62 rfl).trans ((fr_60 62 rfl).trans ((congrFun efv_53 62))))))))))
                        have z_270 : 0 ≤ (fv_262 62).toInt ∧ (fv_262 62).toInt ≤ 50 := hF_fv_262 62
                        have z_271 : (-100) ≤ (fv_262 63).toInt ∧ (fv_262 63).toInt ≤ 10 := hF_fv_262 63
                        refine lv_iconst (v := 1) hx hb dX12_readOne_217 (by decide) ?_
                        exact W.zret (v := 1) hx hb hr (by decide) (fun t ht hW => ⟨⟨1, (fv_262, wd_263, ar_264), rfl, ⟨hF_fv_262, hA_ar_264, (fM_call (fM_call (fM_call (fM_call (fM_call (fM_call (fM_call (fM_call (fM_put (fM_call (fM_call (fM_rf [38, 39, 40, 41, 42, 43, 44, 60, 61, 62, 63] _) fr_2 (by decide)) fr_18 (by decide)) efv_53 (by decide)) fr_60 (by decide)) fr_69 (by decide)) fr_142 (by decide)) fr_215 (by decide)) fr_224 (by decide)) fr_240 (by decide)) fr_254 (by decide)) fr_265 (by decide)), (fA_call (fA_call (fA_call (fA_call (fA_call (fA_call (fA_call (fA_call (fA_call (fA_call (fA_rf [54, 55, 56, 57] _) fa_4 (by decide)) fa_19 (by decide)) fa_61 (by decide)) fa_70 (by decide)) fa_143 (by decide)) fa_216 (by decide)) fa_225 (by decide)) fa_241 (by decide)) fa_255 (by decide)) fa_266 (by decide)), (iv_w (⟨by decide, by decide⟩ : (1 : Int) ≤ (1 : Int32).toInt ∧ (1 : Int32).toInt ≤ 1) (by decide) (by decide)), (Or.inr (⟨rfl, ⟨p_260, show (fv 62).toInt + 1 ≤ (fv_262 62).toInt from by omega⟩⟩)), p_261, trivial⟩, ⟨by rw [ht]; exact hP, va_K.moved hW.alike hK⟩⟩, hS.F ht⟩) hS.2.2 dX12_readOne_218
                      · skip
                        have k_272 : ¬ (fv_221 40).toInt = 3 := fun q => c_226 (Int32.toInt_inj.mp q)
                        refine lv_aload_n hx hb dX12_readOne_190 rfl (lv_at hl 2 rfl) ?_
                        refine lv_iconst (v := 1) hx hb dX12_readOne_191 (by decide) ?_
                        refine va_calli (va_runV (As := [.int 1]) (rest := []) ⟨hx, hb, hml, hown, hts⟩ (m_bad l dC dI H.size h ad cA hd fv_221 wd_222 ar_223 hF_fv_221 hA_ar_223 1) (cwV 1 hts (gV kw_8_94 kw_8_96 kw_p_69 kw_1_15 kw_8_97) rfl rfl rfl (by decide +kernel) ⟨Nat.le_of_ble_eq_true rfl, Nat.le_of_ble_eq_true rfl⟩) ⟨fun a U g mk q => ⟨q.1, q.2.1, q.2.2.1, va_K.moved (u := U) (U := U.calling g mk a) (Vm.Alike.refl U.vm) q.2.2.2⟩, va_recv hK hP (ci := 12) (q0 := 0) rfl rfl, fun U hU hW => ⟨rfl, by rw [hU], by rw [hU]; exact hP, va_K.moved hW.alike hK⟩⟩ rfl rfl hl.1 rfl (lv_room (Nat.le_of_ble_eq_true rfl)) dX12_readOne_192 ⟨Nat.le_of_ble_eq_true rfl, Nat.le_of_ble_eq_true rfl⟩) hS (fun q _ h9 => aM_up hS q h9) (aM_up hS) (fun r_273 u t H1 locs ht _ hw hB _ hk1 hS => ?_)
                        obtain ⟨fv_276, wd_277, ar_278⟩ := u
                        obtain ⟨hF_fv_276, hA_ar_278, fr_279, fa_280, p_274, p_275, -⟩ := hw
                        have hP : va_P (dC, dI) vwCl (wsM h ad cA fv_276 wd_277 ar_278) H1 := by have h9 := hB.1; rw [ht] at h9; exact h9
                        have fr_279 : fM [43, 44] fv_221 fv_276 := fr_279
                        have fa_280 : fA [] ar_223 ar_278 := fa_280
                        generalize H1 = H at hP hS ⊢
                        rcases p_275 with ⟨rfl, p_275⟩
                        · skip
                          exact W.zret (v := 0) hx hb hr (by decide) (fun t ht hW => ⟨⟨0, (fv_276, wd_277, ar_278), rfl, ⟨hF_fv_276, hA_ar_278, (fM_call (fM_call (fM_call (fM_call (fM_call (fM_call (fM_put (fM_call (fM_call (fM_rf [38, 39, 40, 41, 42, 43, 44, 60, 61, 62, 63] _) fr_2 (by decide)) fr_18 (by decide)) efv_53 (by decide)) fr_60 (by decide)) fr_69 (by decide)) fr_142 (by decide)) fr_215 (by decide)) fr_224 (by decide)) fr_279 (by decide)), (fA_call (fA_call (fA_call (fA_call (fA_call (fA_call (fA_call (fA_call (fA_rf [54, 55, 56, 57] _) fa_4 (by decide)) fa_19 (by decide)) fa_61 (by decide)) fa_70 (by decide)) fa_143 (by decide)) fa_216 (by decide)) fa_225 (by decide)) fa_280 (by decide)), (iv_w (⟨by decide, by decide⟩ : (0 : Int) ≤ (0 : Int32).toInt ∧ (0 : Int32).toInt ≤ 0) (by decide) (by decide)), (Or.inl ⟨rfl, trivial⟩), (vM_fr hp_7 (fM_call (fM_call (fM_call (fM_call (fM_call (fM_call (fM_put (fM_call (fM_rf [38, 39, 40, 41, 42, 43, 44, 62] _) fr_18 (by decide)) efv_53 (by decide)) fr_60 (by decide)) fr_69 (by decide)) fr_142 (by decide)) fr_215 (by decide)) fr_224 (by decide)) fr_279 (by decide)) (fA_call (fA_call (fA_call (fA_call (fA_call (fA_call (fA_call (fA_rf [] _) fa_19 (by decide)) fa_61 (by decide)) fa_70 (by decide)) fa_143 (by decide)) fa_216 (by decide)) fa_225 (by decide)) fa_280 (by decide)) rfl rfl rfl rfl rfl), trivial⟩, ⟨by rw [ht]; exact hP, va_K.moved hW.alike hK⟩⟩, hS.F ht⟩) hS.2.2 dX12_readOne_195
                    · skip
                      have i_281 : 0 ≤ r_210.toInt ∧ r_210.toInt ≤ 0 := iv_eq1 (⟨by decide, by decide⟩ : (0 : Int) ≤ (0 : Int32).toInt ∧ (0 : Int32).toInt ≤ 0) c_217
                      refine lv_aload_n hx hb dX12_readOne_167 rfl (lv_at hl 1 rfl) ?_
                      refine lv_iconst (v := 1) hx hb dX12_readOne_168 (by decide) ?_
                      refine va_calli (va_runV (As := [.int 1]) (rest := []) ⟨hx, hb, hml, hown, hts⟩ (m_bad l dC dI H.size h ad cA hd fv_212 wd_213 ar_214 hF_fv_212 hA_ar_214 1) (cwV 1 hts (gV kw_8_94 kw_8_96 kw_p_69 kw_1_15 kw_8_97) rfl rfl rfl (by decide +kernel) ⟨Nat.le_of_ble_eq_true rfl, Nat.le_of_ble_eq_true rfl⟩) ⟨fun a U g mk q => ⟨q.1, q.2.1, q.2.2.1, va_K.moved (u := U) (U := U.calling g mk a) (Vm.Alike.refl U.vm) q.2.2.2⟩, va_recv hK hP (ci := 12) (q0 := 0) rfl rfl, fun U hU hW => ⟨rfl, by rw [hU], by rw [hU]; exact hP, va_K.moved hW.alike hK⟩⟩ rfl rfl hl.1 rfl (lv_room (Nat.le_of_ble_eq_true rfl)) dX12_readOne_169 ⟨Nat.le_of_ble_eq_true rfl, Nat.le_of_ble_eq_true rfl⟩) hS (fun q _ h9 => aM_up hS q h9) (aM_up hS) (fun r_283 u t H1 locs ht _ hw hB _ hk1 hS => ?_)
                      obtain ⟨fv_286, wd_287, ar_288⟩ := u
                      obtain ⟨hF_fv_286, hA_ar_288, fr_289, fa_290, p_284, p_285, -⟩ := hw
                      have hP : va_P (dC, dI) vwCl (wsM h ad cA fv_286 wd_287 ar_288) H1 := by have h9 := hB.1; rw [ht] at h9; exact h9
                      have fr_289 : fM [43, 44] fv_212 fv_286 := fr_289
                      have fa_290 : fA [] ar_214 ar_288 := fa_290
                      generalize H1 = H at hP hS ⊢
                      rcases p_285 with ⟨rfl, p_285⟩
                      · skip
                        exact W.zret (v := 0) hx hb hr (by decide) (fun t ht hW => ⟨⟨0, (fv_286, wd_287, ar_288), rfl, ⟨hF_fv_286, hA_ar_288, (fM_call (fM_call (fM_call (fM_call (fM_call (fM_put (fM_call (fM_call (fM_rf [38, 39, 40, 41, 42, 43, 44, 60, 61, 62, 63] _) fr_2 (by decide)) fr_18 (by decide)) efv_53 (by decide)) fr_60 (by decide)) fr_69 (by decide)) fr_142 (by decide)) fr_215 (by decide)) fr_289 (by decide)), (fA_call (fA_call (fA_call (fA_call (fA_call (fA_call (fA_call (fA_rf [54, 55, 56, 57] _) fa_4 (by decide)) fa_19 (by decide)) fa_61 (by decide)) fa_70 (by decide)) fa_143 (by decide)) fa_216 (by decide)) fa_290 (by decide)), (iv_w (⟨by decide, by decide⟩ : (0 : Int) ≤ (0 : Int32).toInt ∧ (0 : Int32).toInt ≤ 0) (by decide) (by decide)), (Or.inl ⟨rfl, trivial⟩), (vM_fr hp_7 (fM_call (fM_call (fM_call (fM_call (fM_call (fM_put (fM_call (fM_rf [38, 39, 40, 41, 42, 43, 44, 62] _) fr_18 (by decide)) efv_53 (by decide)) fr_60 (by decide)) fr_69 (by decide)) fr_142 (by decide)) fr_215 (by decide)) fr_289 (by decide)) (fA_call (fA_call (fA_call (fA_call (fA_call (fA_call (fA_rf [] _) fa_19 (by decide)) fa_61 (by decide)) fa_70 (by decide)) fa_143 (by decide)) fa_216 (by decide)) fa_290 (by decide)) rfl rfl rfl rfl rfl), trivial⟩, ⟨by rw [ht]; exact hP, va_K.moved hW.alike hK⟩⟩, hS.F ht⟩) hS.2.2 dX12_readOne_172
              · skip
                have i_291 : 0 ≤ r_13.toInt ∧ r_13.toInt ≤ 3 := iv_lt1 i_21 (⟨by decide, by decide⟩ : (4 : Int) ≤ (4 : Int32).toInt ∧ (4 : Int32).toInt ≤ 4) (Int32.not_le.mp c_62)
                refine lv_aload_n hx hb dX12_readOne_130 rfl (lv_at hl 1 rfl) ?_
                refine lv_iload_n hx hb dX12_readOne_131 rfl (lv_at hl 0 rfl) ?_
                refine lv_iconst (v := 0) hx hb dX12_readOne_132 (by decide) ?_
                refine lv_iconst (v := 0) hx hb dX12_readOne_133 (by decide) ?_
                have z_292 : (fv_57 60).toInt = (fv 60).toInt := congrArg Int32.toInt ((fr_60 60 rfl).trans ((congrFun efv_53 60).trans ((fr_18 60 rfl).trans ((fr_2 60 rfl)))))
                have z_293 : 0 ≤ (fv_57 60).toInt ∧ (fv_57 60).toInt ≤ 120 := hF_fv_57 60
                have z_294 : (fv_57 60).toInt = (fv 60).toInt := congrArg Int32.toInt ((fr_60 60 rfl).trans ((congrFun efv_53 60).trans ((fr_18 60 rfl).trans ((fr_2 60 rfl)))))
                have z_295 : 0 ≤ (fv_57 60).toInt ∧ (fv_57 60).toInt ≤ 120 := hF_fv_57 60
                refine va_callv (va_runV (As := [.int r_13, .int 0, .int 0]) (rest := []) ⟨hx, hb, hml, hown, hts⟩ (m_emit l dC dI H.size h ad cA hd fv_57 wd_58 ar_59 hF_fv_57 hA_ar_59 r_13 0 0 (iv_w i_291 (by decide) (by decide)) (by omega) (vM_fr hp_7 (fM_call (fM_put (fM_call (fM_rf [38, 39, 40, 41, 42, 62] _) fr_18 (by decide)) efv_53 (by decide)) fr_60 (by decide)) (fA_call (fA_call (fA_rf [] _) fa_19 (by decide)) fa_61 (by decide)) rfl rfl rfl rfl rfl)) (cwV 3 hts (gV kw_8_121 kw_8_123 kw_p_75 kw_1_15 kw_8_124) rfl rfl rfl (by decide +kernel) ⟨Nat.le_of_ble_eq_true rfl, Nat.le_of_ble_eq_true rfl⟩) ⟨fun a U g mk q => ⟨q.1, q.2.1, q.2.2.1, va_K.moved (u := U) (U := U.calling g mk a) (Vm.Alike.refl U.vm) q.2.2.2⟩, va_recv hK hP (ci := 12) (q0 := 0) rfl rfl, fun U hU hW => ⟨rfl, by rw [hU], by rw [hU]; exact hP, va_K.moved hW.alike hK⟩⟩ rfl rfl hl.1 rfl (lv_room (Nat.le_of_ble_eq_true rfl)) dX12_readOne_134 ⟨Nat.le_of_ble_eq_true rfl, Nat.le_of_ble_eq_true rfl⟩) hS (fun q _ h9 => aM_up hS q h9) (aM_up hS) (fun u t H1 locs ht _ hw hB _ hk1 hS => ?_)
                obtain ⟨fv_300, wd_301, ar_302⟩ := u
                obtain ⟨hF_fv_300, hA_ar_302, fr_303, fa_304, p_297, p_298, p_299, -⟩ := hw
                have hP : va_P (dC, dI) vwCl (wsM h ad cA fv_300 wd_301 ar_302) H1 := by have h9 := hB.1; rw [ht] at h9; exact h9
                have fr_303 : fM [60] fv_57 fv_300 := fr_303
                have fa_304 : fA [54, 55, 56] ar_59 ar_302 := fa_304
                have p_299 : vM fv_300 ar_302 := p_299
                have p_297 : (fv_300 60).toInt = (fv_57 60).toInt + 1 := p_297
                have p_298 : ar_302 54 = upd (ar_59 54) (1200 + (fv_57 60).toInt.toNat) r_13 := p_298
                generalize H1 = H at hP hS ⊢
                have z_305 : 0 ≤ (fv_300 60).toInt ∧ (fv_300 60).toInt ≤ 120 := hF_fv_300 60
                have z_306 : (fv_300 61).toInt = (fv_1 61).toInt := congrArg Int32.toInt ((fr_303 61 rfl).trans ((fr_60 61 rfl).trans ((congrFun efv_53 61).trans ((fr_18 61 rfl)))))
                have z_307 : 0 ≤ (fv_300 61).toInt ∧ (fv_300 61).toInt ≤ 64 := hF_fv_300 61
                have z_308 : (fv_300 62).toInt = v_50.toInt := congrArg Int32.toInt ((fr_303 62 rfl).trans ((fr_60 62 rfl).trans ((congrFun efv_53 62))))
                have z_309 : 0 ≤ (fv_300 62).toInt ∧ (fv_300 62).toInt ≤ 50 := hF_fv_300 62
                have z_310 : (fv_300 63).toInt = (fv_1 63).toInt := congrArg Int32.toInt ((fr_303 63 rfl).trans ((fr_60 63 rfl).trans ((congrFun efv_53 63).trans ((fr_18 63 rfl)))))
                have z_311 : (-100) ≤ (fv_300 63).toInt ∧ (fv_300 63).toInt ≤ 10 := hF_fv_300 63
                have hp_312 : cX FF g0 1 (fv_300 60).toInt (fv_300 61).toInt (fv_300 62).toInt (fv_300 63).toInt (ar_302 54) (ar_302 57) := cX_eq (cX_atom (g1 := ar_302 54) (g := ar_17 54) (i := 1200 + (fv_57 60).toInt.toNat) (cX_fr hp_6 (fM_call (fM_rf [] _) fr_18 (by decide)) (fA_call (fA_rf [] _) fa_19 (by decide)) rfl rfl rfl rfl rfl rfl) (by omega) (p1 := (fv_300 60).toInt) (t1 := (fv_300 61).toInt) (o1 := (fv_300 62).toInt) (w1 := (fv_300 63).toInt) (by omega) (by omega) (by omega) (by omega) (by omega) (by omega) (by rw [p_298, ((fA_call (fA_rf [] _) fa_61 (by decide)) 54 rfl)])) rfl rfl rfl rfl rfl ((fA_call (fA_call (fA_rf [54, 55, 56] _) fa_61 (by decide)) fa_304 (by decide)) 57 rfl)
                refine lv_goto (tgt := 213) hx hb dX12_readOne_137 (by decide) ?_
                refine lv_aload_n hx hb dX12_readOne_213 rfl (lv_at hl 1 rfl) ?_
                have z_313 : (fv_300 61).toInt = (fv_1 61).toInt := congrArg Int32.toInt ((fr_303 61 rfl).trans ((fr_60 61 rfl).trans ((congrFun efv_53 61).trans ((fr_18 61 rfl)))))
                have z_314 : 0 ≤ (fv_300 61).toInt ∧ (fv_300 61).toInt ≤ 64 := hF_fv_300 61
                refine va_callv (va_runV (As := []) (rest := []) ⟨hx, hb, hml, hown, hts⟩ (m_dropNots l dC dI H.size h ad cA hd fv_300 wd_301 ar_302 hF_fv_300 hA_ar_302 FF g0 hp_312 p_299) (cwV 0 hts (gV kw_8_125 kw_8_127 kw_p_76 kw_1_15 kw_8_128) rfl rfl rfl (by decide +kernel) ⟨Nat.le_of_ble_eq_true rfl, Nat.le_of_ble_eq_true rfl⟩) ⟨fun a U g mk q => ⟨q.1, q.2.1, q.2.2.1, va_K.moved (u := U) (U := U.calling g mk a) (Vm.Alike.refl U.vm) q.2.2.2⟩, va_recv hK hP (ci := 12) (q0 := 0) rfl rfl, fun U hU hW => ⟨rfl, by rw [hU], by rw [hU]; exact hP, va_K.moved hW.alike hK⟩⟩ rfl rfl hl.1 rfl (lv_room (Nat.le_of_ble_eq_true rfl)) dX12_readOne_214 ⟨Nat.le_of_ble_eq_true rfl, Nat.le_of_ble_eq_true rfl⟩) hS (fun q _ h9 => aM_up hS q h9) (aM_up hS) (fun u t H1 locs ht _ hw hB _ hk1 hS => ?_)
                obtain ⟨fv_319, wd_320, ar_321⟩ := u
                obtain ⟨hF_fv_319, hA_ar_321, fr_322, fa_323, p_316, p_317, p_318, -⟩ := hw
                have hP : va_P (dC, dI) vwCl (wsM h ad cA fv_319 wd_320 ar_321) H1 := by have h9 := hB.1; rw [ht] at h9; exact h9
                have fr_322 : fM [60, 61, 63] fv_300 fv_319 := fr_322
                have fa_323 : fA [54, 55, 56] ar_302 ar_321 := fa_323
                have p_317 : cX FF g0 1 (fv_319 60).toInt (fv_319 61).toInt (fv_319 62).toInt (fv_319 63).toInt (ar_321 54) (ar_321 57) := p_317
                have p_318 : vM fv_319 ar_321 := p_318
                have p_316 : (fv_319 61).toInt ≤ (fv_300 61).toInt := p_316
                generalize H1 = H at hP hS ⊢
                have z_324 : 0 ≤ (fv_319 60).toInt ∧ (fv_319 60).toInt ≤ 120 := hF_fv_319 60
                have z_325 : 0 ≤ (fv_319 61).toInt ∧ (fv_319 61).toInt ≤ 64 := hF_fv_319 61
                have z_326 : (fv_319 62).toInt = v_50.toInt := congrArg Int32.toInt ((fr_322 62 rfl).trans ((fr_303 62 rfl).trans ((fr_60 62 rfl).trans ((congrFun efv_53 62)))))
                have z_327 : 0 ≤ (fv_319 62).toInt ∧ (fv_319 62).toInt ≤ 50 := hF_fv_319 62
                have z_328 : (-100) ≤ (fv_319 63).toInt ∧ (fv_319 63).toInt ≤ 10 := hF_fv_319 63
                refine lv_iconst (v := 1) hx hb dX12_readOne_217 (by decide) ?_
                exact W.zret (v := 1) hx hb hr (by decide) (fun t ht hW => ⟨⟨1, (fv_319, wd_320, ar_321), rfl, ⟨hF_fv_319, hA_ar_321, (fM_call (fM_call (fM_call (fM_put (fM_call (fM_call (fM_rf [38, 39, 40, 41, 42, 43, 44, 60, 61, 62, 63] _) fr_2 (by decide)) fr_18 (by decide)) efv_53 (by decide)) fr_60 (by decide)) fr_303 (by decide)) fr_322 (by decide)), (fA_call (fA_call (fA_call (fA_call (fA_call (fA_rf [54, 55, 56, 57] _) fa_4 (by decide)) fa_19 (by decide)) fa_61 (by decide)) fa_304 (by decide)) fa_323 (by decide)), (iv_w (⟨by decide, by decide⟩ : (1 : Int) ≤ (1 : Int32).toInt ∧ (1 : Int32).toInt ≤ 1) (by decide) (by decide)), (Or.inr (⟨rfl, ⟨p_317, show (fv 62).toInt + 1 ≤ (fv_319 62).toInt from by omega⟩⟩)), p_318, trivial⟩, ⟨by rw [ht]; exact hP, va_K.moved hW.alike hK⟩⟩, hS.F ht⟩) hS.2.2 dX12_readOne_218
            · skip
              exact absurd True.intro (by have h7 := i_21; have h8 := (⟨by decide, by decide⟩ : (-1 : Int) ≤ ((-1) : Int32).toInt ∧ ((-1) : Int32).toInt ≤ -1); have h9 := congrArg Int32.toInt c_54; exfalso; omega)
          · skip
            have i_329 : 10 ≤ (fv_1 63).toInt ∧ (fv_1 63).toInt ≤ 10 := iv_eq1 (⟨by decide, by decide⟩ : (10 : Int) ≤ (10 : Int32).toInt ∧ (10 : Int32).toInt ≤ 10) c_38
            refine lv_aload_n hx hb dX12_readOne_50 rfl (lv_at hl 1 rfl) ?_
            refine lv_iconst (v := 4) hx hb dX12_readOne_51 (by decide) ?_
            refine va_calli (va_runV (As := [.int 4]) (rest := []) ⟨hx, hb, hml, hown, hts⟩ (m_bad l dC dI H.size h ad cA hd fv_15 wd_16 ar_17 hF_fv_15 hA_ar_17 4) (cwV 1 hts (gV kw_8_94 kw_8_96 kw_p_69 kw_1_15 kw_8_97) rfl rfl rfl (by decide +kernel) ⟨Nat.le_of_ble_eq_true rfl, Nat.le_of_ble_eq_true rfl⟩) ⟨fun a U g mk q => ⟨q.1, q.2.1, q.2.2.1, va_K.moved (u := U) (U := U.calling g mk a) (Vm.Alike.refl U.vm) q.2.2.2⟩, va_recv hK hP (ci := 12) (q0 := 0) rfl rfl, fun U hU hW => ⟨rfl, by rw [hU], by rw [hU]; exact hP, va_K.moved hW.alike hK⟩⟩ rfl rfl hl.1 rfl (lv_room (Nat.le_of_ble_eq_true rfl)) dX12_readOne_52 ⟨Nat.le_of_ble_eq_true rfl, Nat.le_of_ble_eq_true rfl⟩) hS (fun q _ h9 => aM_up hS q h9) (aM_up hS) (fun r_331 u t H1 locs ht _ hw hB _ hk1 hS => ?_)
            obtain ⟨fv_334, wd_335, ar_336⟩ := u
            obtain ⟨hF_fv_334, hA_ar_336, fr_337, fa_338, p_332, p_333, -⟩ := hw
            have hP : va_P (dC, dI) vwCl (wsM h ad cA fv_334 wd_335 ar_336) H1 := by have h9 := hB.1; rw [ht] at h9; exact h9
            have fr_337 : fM [43, 44] fv_15 fv_334 := fr_337
            have fa_338 : fA [] ar_17 ar_336 := fa_338
            generalize H1 = H at hP hS ⊢
            rcases p_333 with ⟨rfl, p_333⟩
            · skip
              exact W.zret (v := 0) hx hb hr (by decide) (fun t ht hW => ⟨⟨0, (fv_334, wd_335, ar_336), rfl, ⟨hF_fv_334, hA_ar_336, (fM_call (fM_call (fM_call (fM_rf [38, 39, 40, 41, 42, 43, 44, 60, 61, 62, 63] _) fr_2 (by decide)) fr_18 (by decide)) fr_337 (by decide)), (fA_call (fA_call (fA_call (fA_rf [54, 55, 56, 57] _) fa_4 (by decide)) fa_19 (by decide)) fa_338 (by decide)), (iv_w (⟨by decide, by decide⟩ : (0 : Int) ≤ (0 : Int32).toInt ∧ (0 : Int32).toInt ≤ 0) (by decide) (by decide)), (Or.inl ⟨rfl, trivial⟩), (vM_fr hp_7 (fM_call (fM_call (fM_rf [43, 44] _) fr_18 (by decide)) fr_337 (by decide)) (fA_call (fA_call (fA_rf [] _) fa_19 (by decide)) fa_338 (by decide)) rfl rfl rfl rfl rfl), trivial⟩, ⟨by rw [ht]; exact hP, va_K.moved hW.alike hK⟩⟩, hS.F ht⟩) hS.2.2 dX12_readOne_55
      · skip
        have i_339 : (-1) ≤ r_13.toInt ∧ r_13.toInt ≤ (-1) := iv_eq1 (⟨by decide, by decide⟩ : (-1 : Int) ≤ ((-1) : Int32).toInt ∧ ((-1) : Int32).toInt ≤ -1) c_20
        refine lv_aload_n hx hb dX12_readOne_10 rfl (lv_at hl 1 rfl) ?_
        refine va_calli (va_runV (As := []) (rest := []) ⟨hx, hb, hml, hown, hts⟩ (m_isNot l dC dI H.size h ad cA hd fv_15 wd_16 ar_17 hF_fv_15 hA_ar_17) (cwV 0 hts (gV kw_8_98 kw_8_100 kw_p_70 kw_1_15 kw_8_101) rfl rfl rfl (by decide +kernel) ⟨Nat.le_of_ble_eq_true rfl, Nat.le_of_ble_eq_true rfl⟩) ⟨fun a U g mk q => ⟨q.1, q.2.1, q.2.2.1, va_K.moved (u := U) (U := U.calling g mk a) (Vm.Alike.refl U.vm) q.2.2.2⟩, va_recv hK hP (ci := 12) (q0 := 0) rfl rfl, fun U hU hW => ⟨rfl, by rw [hU], by rw [hU]; exact hP, va_K.moved hW.alike hK⟩⟩ rfl rfl hl.1 rfl (lv_room (Nat.le_of_ble_eq_true rfl)) dX12_readOne_11 ⟨Nat.le_of_ble_eq_true rfl, Nat.le_of_ble_eq_true rfl⟩) hS (fun q _ h9 => aM_up hS q h9) (aM_up hS) (fun r_341 u t H1 locs ht _ hw hB _ hk1 hS => ?_)
        obtain ⟨fv_343, wd_344, ar_345⟩ := u
        obtain ⟨hF_fv_343, hA_ar_345, fr_346, fa_347, p_342, -⟩ := hw
        have hP : va_P (dC, dI) vwCl (wsM h ad cA fv_343 wd_344 ar_345) H1 := by have h9 := hB.1; rw [ht] at h9; exact h9
        have fr_346 : fM [] fv_15 fv_343 := fr_346
        have fa_347 : fA [] ar_17 ar_345 := fa_347
        generalize H1 = H at hP hS ⊢
        refine lv_if_ne (tgt := 32) hx hb dX12_readOne_14 (by decide) (fun c_348 => ?_) (fun c_348 => ?_)
        · skip
          have i_349 : 1 ≤ r_341.toInt ∧ r_341.toInt ≤ 1 := iv_nel p_342 (by decide) c_348
          have k_350 : ¬ r_341.toInt = 0 := fun q => c_348 (Int32.toInt_inj.mp q)
          refine lv_aload_n hx hb dX12_readOne_32 rfl (lv_at hl 1 rfl) ?_
          refine gM_62 hx hb htg hown hK hP dX12_readOne_33 ?_
          refine my_ti (y := fv_1 62) ((fr_346 62 rfl).trans ((fr_18 62 rfl))) ?_
          have i_351 : 0 ≤ (fv_1 62).toInt ∧ (fv_1 62).toInt ≤ 50 := hF_fv_1 62
          refine lv_bipush (v := 50) hx hb dX12_readOne_36 (by decide) ?_
          refine lv_icmp_eq (tgt := 50) hx hb dX12_readOne_38 (by decide) (fun c_352 => ?_) (fun c_352 => ?_)
          · skip
            have i_353 : 50 ≤ (fv_1 62).toInt ∧ (fv_1 62).toInt ≤ 50 := iv_eq1 (⟨by decide, by decide⟩ : (50 : Int) ≤ (50 : Int32).toInt ∧ (50 : Int32).toInt ≤ 50) c_352
            refine lv_aload_n hx hb dX12_readOne_50 rfl (lv_at hl 1 rfl) ?_
            refine lv_iconst (v := 4) hx hb dX12_readOne_51 (by decide) ?_
            refine va_calli (va_runV (As := [.int 4]) (rest := []) ⟨hx, hb, hml, hown, hts⟩ (m_bad l dC dI H.size h ad cA hd fv_343 wd_344 ar_345 hF_fv_343 hA_ar_345 4) (cwV 1 hts (gV kw_8_94 kw_8_96 kw_p_69 kw_1_15 kw_8_97) rfl rfl rfl (by decide +kernel) ⟨Nat.le_of_ble_eq_true rfl, Nat.le_of_ble_eq_true rfl⟩) ⟨fun a U g mk q => ⟨q.1, q.2.1, q.2.2.1, va_K.moved (u := U) (U := U.calling g mk a) (Vm.Alike.refl U.vm) q.2.2.2⟩, va_recv hK hP (ci := 12) (q0 := 0) rfl rfl, fun U hU hW => ⟨rfl, by rw [hU], by rw [hU]; exact hP, va_K.moved hW.alike hK⟩⟩ rfl rfl hl.1 rfl (lv_room (Nat.le_of_ble_eq_true rfl)) dX12_readOne_52 ⟨Nat.le_of_ble_eq_true rfl, Nat.le_of_ble_eq_true rfl⟩) hS (fun q _ h9 => aM_up hS q h9) (aM_up hS) (fun r_355 u t H1 locs ht _ hw hB _ hk1 hS => ?_)
            obtain ⟨fv_358, wd_359, ar_360⟩ := u
            obtain ⟨hF_fv_358, hA_ar_360, fr_361, fa_362, p_356, p_357, -⟩ := hw
            have hP : va_P (dC, dI) vwCl (wsM h ad cA fv_358 wd_359 ar_360) H1 := by have h9 := hB.1; rw [ht] at h9; exact h9
            have fr_361 : fM [43, 44] fv_343 fv_358 := fr_361
            have fa_362 : fA [] ar_345 ar_360 := fa_362
            generalize H1 = H at hP hS ⊢
            rcases p_357 with ⟨rfl, p_357⟩
            · skip
              exact W.zret (v := 0) hx hb hr (by decide) (fun t ht hW => ⟨⟨0, (fv_358, wd_359, ar_360), rfl, ⟨hF_fv_358, hA_ar_360, (fM_call (fM_call (fM_call (fM_call (fM_rf [38, 39, 40, 41, 42, 43, 44, 60, 61, 62, 63] _) fr_2 (by decide)) fr_18 (by decide)) fr_346 (by decide)) fr_361 (by decide)), (fA_call (fA_call (fA_call (fA_call (fA_rf [54, 55, 56, 57] _) fa_4 (by decide)) fa_19 (by decide)) fa_347 (by decide)) fa_362 (by decide)), (iv_w (⟨by decide, by decide⟩ : (0 : Int) ≤ (0 : Int32).toInt ∧ (0 : Int32).toInt ≤ 0) (by decide) (by decide)), (Or.inl ⟨rfl, trivial⟩), (vM_fr hp_7 (fM_call (fM_call (fM_call (fM_rf [43, 44] _) fr_18 (by decide)) fr_346 (by decide)) fr_361 (by decide)) (fA_call (fA_call (fA_call (fA_rf [] _) fa_19 (by decide)) fa_347 (by decide)) fa_362 (by decide)) rfl rfl rfl rfl rfl), trivial⟩, ⟨by rw [ht]; exact hP, va_K.moved hW.alike hK⟩⟩, hS.F ht⟩) hS.2.2 dX12_readOne_55
          · skip
            have i_363 : 0 ≤ (fv_1 62).toInt ∧ (fv_1 62).toInt ≤ 49 := iv_neh i_351 (by decide) c_352
            have k_364 : ¬ (fv_1 62).toInt = 50 := fun q => c_352 (Int32.toInt_inj.mp q)
            refine lv_aload_n hx hb dX12_readOne_41 rfl (lv_at hl 1 rfl) ?_
            refine gM_63 hx hb htg hown hK hP dX12_readOne_42 ?_
            refine my_ti (y := fv_1 63) ((fr_346 63 rfl).trans ((fr_18 63 rfl))) ?_
            have i_365 : (-100) ≤ (fv_1 63).toInt ∧ (fv_1 63).toInt ≤ 10 := hF_fv_1 63
            refine lv_bipush (v := 10) hx hb dX12_readOne_45 (by decide) ?_
            refine lv_icmp_ne (tgt := 56) hx hb dX12_readOne_47 (by decide) (fun c_366 => ?_) (fun c_366 => ?_)
            · skip
              have i_367 : (-100) ≤ (fv_1 63).toInt ∧ (fv_1 63).toInt ≤ 9 := iv_neh i_365 (by decide) c_366
              have k_368 : ¬ (fv_1 63).toInt = 10 := fun q => c_366 (Int32.toInt_inj.mp q)
              have z_369 : (fv_343 60).toInt = (fv 60).toInt := congrArg Int32.toInt ((fr_346 60 rfl).trans ((fr_18 60 rfl).trans ((fr_2 60 rfl))))
              have z_370 : 0 ≤ (fv_343 60).toInt ∧ (fv_343 60).toInt ≤ 120 := hF_fv_343 60
              have z_371 : (fv_343 61).toInt = (fv_1 61).toInt := congrArg Int32.toInt ((fr_346 61 rfl).trans ((fr_18 61 rfl)))
              have z_372 : 0 ≤ (fv_343 61).toInt ∧ (fv_343 61).toInt ≤ 64 := hF_fv_343 61
              have z_373 : (fv_343 62).toInt = (fv_1 62).toInt := congrArg Int32.toInt ((fr_346 62 rfl).trans ((fr_18 62 rfl)))
              have z_374 : 0 ≤ (fv_343 62).toInt ∧ (fv_343 62).toInt ≤ 50 := hF_fv_343 62
              have z_375 : (fv_343 63).toInt = (fv_1 63).toInt := congrArg Int32.toInt ((fr_346 63 rfl).trans ((fr_18 63 rfl)))
              have z_376 : (-100) ≤ (fv_343 63).toInt ∧ (fv_343 63).toInt ≤ 10 := hF_fv_343 63
              have n_377 := cX_n (cX_fr hp_6 (fM_call (fM_call (fM_rf [] _) fr_18 (by decide)) fr_346 (by decide)) (fA_call (fA_call (fA_rf [] _) fa_19 (by decide)) fa_347 (by decide)) rfl rfl rfl rfl rfl rfl)
              refine lv_aload_n hx hb dX12_readOne_56 rfl (lv_at hl 1 rfl) ?_
              refine lv_dup hx hb dX12_readOne_57 rfl ?_
              refine gM_62 hx hb htg hown hK hP dX12_readOne_58 ?_
              refine my_ti (y := fv_1 62) ((fr_346 62 rfl).trans ((fr_18 62 rfl))) ?_
              refine lv_iconst (v := 1) hx hb dX12_readOne_61 (by decide) ?_
              refine lv_iadd hx hb dX12_readOne_62 ?_
              refine lv_topi (fun v_378 ev_378 => ?_)
              have t_379 : v_378.toInt = (fv_1 62).toInt + 1 ∧ 1 ≤ v_378.toInt ∧ v_378.toInt ≤ 50 := iv_addc ev_378 i_363 (by decide) (by decide) (by decide)
              refine pM_62 hx hb htg hown hK hP hS hd dX12_readOne_63 (fun H locs fv_381 efv_381 hP hS => ?_)
              have hF_fv_381 : rF fv_381 := rF_put hF_fv_343 efv_381 (iv_w t_379.2 (by decide) (by decide))
              refine lv_iload_n hx hb dX12_readOne_66 rfl (lv_at hl 0 rfl) ?_
              refine lv_iconst (v := (-1)) hx hb dX12_readOne_67 (by decide) ?_
              refine lv_icmp_ne (tgt := 121) hx hb dX12_readOne_68 (by decide) (fun c_382 => ?_) (fun c_382 => ?_)
              · skip
                exact absurd True.intro (by have h7 := i_339; have h8 := (⟨by decide, by decide⟩ : (-1 : Int) ≤ ((-1) : Int32).toInt ∧ ((-1) : Int32).toInt ≤ -1); have h9 : ¬ _ := fun q => c_382 (Int32.toInt_inj.mp q); exfalso; omega)
              · skip
                refine lv_aload_n hx hb dX12_readOne_71 rfl (lv_at hl 1 rfl) ?_
                refine lv_dup hx hb dX12_readOne_72 rfl ?_
                refine gM_63 hx hb htg hown hK hP dX12_readOne_73 ?_
                refine my_ti (y := fv_1 63) ((congrFun efv_381 63).trans ((fr_346 63 rfl).trans ((fr_18 63 rfl)))) ?_
                refine lv_iconst (v := 1) hx hb dX12_readOne_76 (by decide) ?_
                refine lv_iadd hx hb dX12_readOne_77 ?_
                refine lv_topi (fun v_384 ev_384 => ?_)
                have t_385 : v_384.toInt = (fv_1 63).toInt + 1 ∧ (-99) ≤ v_384.toInt ∧ v_384.toInt ≤ 10 := iv_addc ev_384 i_367 (by decide) (by decide) (by decide)
                refine pM_63 hx hb htg hown hK hP hS hd dX12_readOne_78 (fun H locs fv_387 efv_387 hP hS => ?_)
                have hF_fv_387 : rF fv_387 := rF_put hF_fv_381 efv_387 (iv_w t_385.2 (by decide) (by decide))
                refine lv_aload_n hx hb dX12_readOne_81 rfl (lv_at hl 1 rfl) ?_
                refine gM_57 hx hb htg hown hK hP dX12_readOne_82 ?_
                refine lv_aload_n hx hb dX12_readOne_85 rfl (lv_at hl 1 rfl) ?_
                refine gM_61 hx hb htg hown hK hP dX12_readOne_86 ?_
                refine my_ti (y := fv_1 61) ((congrFun efv_387 61).trans ((congrFun efv_381 61).trans ((fr_346 61 rfl).trans ((fr_18 61 rfl))))) ?_
                have i_388 : 0 ≤ (fv_1 61).toInt ∧ (fv_1 61).toInt ≤ 64 := hF_fv_1 61
                refine lv_aload_n hx hb dX12_readOne_89 rfl (lv_at hl 1 rfl) ?_
                refine va_calli (va_runV (As := []) (rest := [.int (fv_1 61), .ref (ad 57)]) ⟨hx, hb, hml, hown, hts⟩ (m_isNot l dC dI H.size h ad cA hd fv_387 wd_344 ar_345 hF_fv_387 hA_ar_345) (cwV 0 hts (gV kw_8_98 kw_8_100 kw_p_70 kw_1_15 kw_8_101) rfl rfl rfl (by decide +kernel) ⟨Nat.le_of_ble_eq_true rfl, Nat.le_of_ble_eq_true rfl⟩) ⟨fun a U g mk q => ⟨q.1, q.2.1, q.2.2.1, va_K.moved (u := U) (U := U.calling g mk a) (Vm.Alike.refl U.vm) q.2.2.2⟩, va_recv hK hP (ci := 12) (q0 := 0) rfl rfl, fun U hU hW => ⟨rfl, by rw [hU], by rw [hU]; exact hP, va_K.moved hW.alike hK⟩⟩ rfl rfl hl.1 rfl (lv_room (Nat.le_of_ble_eq_true rfl)) dX12_readOne_90 ⟨Nat.le_of_ble_eq_true rfl, Nat.le_of_ble_eq_true rfl⟩) hS (fun q _ h9 => aM_up hS q h9) (aM_up hS) (fun r_389 u t H1 locs ht _ hw hB _ hk1 hS => ?_)
                obtain ⟨fv_391, wd_392, ar_393⟩ := u
                obtain ⟨hF_fv_391, hA_ar_393, fr_394, fa_395, p_390, -⟩ := hw
                have hP : va_P (dC, dI) vwCl (wsM h ad cA fv_391 wd_392 ar_393) H1 := by have h9 := hB.1; rw [ht] at h9; exact h9
                have fr_394 : fM [] fv_387 fv_391 := fr_394
                have fa_395 : fA [] ar_345 ar_393 := fa_395
                generalize H1 = H at hP hS ⊢
                refine my_cut (P := fun R9 a9 Q9 => ∀ (x_401 : Int32) (H : Heap) (locs : List Loc) (ls : Array Slot), (12 ≤ x_401.toInt ∧ x_401.toInt ≤ 15) → (x_401.toInt = 12 ∨ x_401.toInt = 15) → va_P (dC, dI) vwCl (wsM h ad cA fv_391 wd_392 ar_393) H → va_S (aM h ad s.heap.size) s.heap H locs → lv_has ls 3 [(0, .ref h)] → W p l e R9 s m a9 below meth c H locs 0 0 Q9 (F0 m 103 ls [.int x_401, .int (fv_1 61), .ref (ad 57)])) ?_ (fun hj_403 => ?_)
                · intro x_401 H locs ls i_x_401 q_402 hP hS hl
                  refine sM_57 hx hb hK hP hS hd (vp_in_iff.mpr (by omega)) dX12_readOne_103 (fun H locs ar_404 ear_404 hP hS => ?_)
                  have hA_ar_404 : rA ar_404 := rA_put hA_ar_393 ear_404 (iv_w i_x_401 (by decide) (by decide))
                  refine lv_aload_n hx hb dX12_readOne_104 rfl (lv_at hl 0 rfl) ?_
                  refine lv_dup hx hb dX12_readOne_105 rfl ?_
                  refine gM_61 hx hb htg hown hK hP dX12_readOne_106 ?_
                  refine my_ti (y := fv_1 61) ((fr_394 61 rfl).trans ((congrFun efv_387 61).trans ((congrFun efv_381 61).trans ((fr_346 61 rfl).trans ((fr_18 61 rfl)))))) ?_
                  refine lv_iconst (v := 1) hx hb dX12_readOne_109 (by decide) ?_
                  refine lv_iadd hx hb dX12_readOne_110 ?_
                  refine lv_topi (fun v_405 ev_405 => ?_)
                  have t_406 : v_405.toInt = (fv_1 61).toInt + 1 ∧ 1 ≤ v_405.toInt ∧ v_405.toInt ≤ 65 := iv_addc ev_405 i_388 (by decide) (by decide) (by decide)
                  have i_408 : 0 ≤ v_405.toInt ∧ v_405.toInt ≤ 64 := (by omega)
                  refine pM_61 hx hb htg hown hK hP hS hd dX12_readOne_111 (fun H locs fv_409 efv_409 hP hS => ?_)
                  have hF_fv_409 : rF fv_409 := rF_put hF_fv_391 efv_409 i_408
                  have z_410 : (fv_409 60).toInt = (fv 60).toInt := congrArg Int32.toInt ((congrFun efv_409 60).trans ((fr_394 60 rfl).trans ((congrFun efv_387 60).trans ((congrFun efv_381 60).trans ((fr_346 60 rfl).trans ((fr_18 60 rfl).trans ((fr_2 60 rfl))))))))
                  have z_411 : 0 ≤ (fv_409 60).toInt ∧ (fv_409 60).toInt ≤ 120 := hF_fv_409 60
                  have z_412 : (fv_409 61).toInt = v_405.toInt := congrArg Int32.toInt ((congrFun efv_409 61))
                  have z_413 : 0 ≤ (fv_409 61).toInt ∧ (fv_409 61).toInt ≤ 64 := hF_fv_409 61
                  have z_414 : (fv_409 62).toInt = v_378.toInt := congrArg Int32.toInt ((congrFun efv_409 62).trans ((fr_394 62 rfl).trans ((congrFun efv_387 62).trans ((congrFun efv_381 62)))))
                  have z_415 : 0 ≤ (fv_409 62).toInt ∧ (fv_409 62).toInt ≤ 50 := hF_fv_409 62
                  have z_416 : (fv_409 63).toInt = v_384.toInt := congrArg Int32.toInt ((congrFun efv_409 63).trans ((fr_394 63 rfl).trans ((congrFun efv_387 63))))
                  have z_417 : (-100) ≤ (fv_409 63).toInt ∧ (fv_409 63).toInt ≤ 10 := hF_fv_409 63
                  have g_418 : ar_404 57 = upd (ar_393 57) ((fv_1 61).toInt.toNat) x_401 := by rw [ear_404]; rfl
                  have hp_419 : cX FF g0 0 (fv_409 60).toInt (fv_409 61).toInt (fv_409 62).toInt (fv_409 63).toInt (ar_404 54) (ar_404 57) := cX_eq (cX_push (pl1 := ar_404 57) (pl := ar_345 57) (i := (fv_1 61).toInt.toNat) (cX_fr hp_6 (fM_call (fM_call (fM_rf [] _) fr_18 (by decide)) fr_346 (by decide)) (fA_call (fA_call (fA_rf [] _) fa_19 (by decide)) fa_347 (by decide)) rfl rfl rfl rfl rfl rfl) (by omega) (p1 := (fv_409 60).toInt) (t1 := (fv_409 61).toInt) (o1 := (fv_409 62).toInt) (w1 := (fv_409 63).toInt) (by omega) (by omega) (by omega) (by omega) (by omega) (by omega) (by rw [g_418, ((fA_call (fA_rf [] _) fa_395 (by decide)) 57 rfl)])) rfl rfl rfl rfl ((fA_put (fA_call (fA_rf [57] _) fa_395 (by decide)) ear_404 (by decide)) 54 rfl) rfl
                  refine lv_aload_n hx hb dX12_readOne_114 rfl (lv_at hl 0 rfl) ?_
                  refine va_callv (va_runV (As := []) (rest := []) ⟨hx, hb, hml, hown, hts⟩ (m_go l dC dI H.size h ad cA hd fv_409 wd_392 ar_404 hF_fv_409 hA_ar_404) (cwV 0 hts (gV kw_8_60 kw_8_62 kw_p_64 kw_1_15 kw_8_63) rfl rfl rfl (by decide +kernel) ⟨Nat.le_of_ble_eq_true rfl, Nat.le_of_ble_eq_true rfl⟩) ⟨fun a U g mk q => ⟨q.1, q.2.1, q.2.2.1, va_K.moved (u := U) (U := U.calling g mk a) (Vm.Alike.refl U.vm) q.2.2.2⟩, va_recv hK hP (ci := 12) (q0 := 0) rfl rfl, fun U hU hW => ⟨rfl, by rw [hU], by rw [hU]; exact hP, va_K.moved hW.alike hK⟩⟩ rfl rfl hl.1 rfl (lv_room (Nat.le_of_ble_eq_true rfl)) dX12_readOne_115 ⟨Nat.le_of_ble_eq_true rfl, Nat.le_of_ble_eq_true rfl⟩) hS (fun q _ h9 => aM_up hS q h9) (aM_up hS) (fun u t H1 locs ht _ hw hB _ hk1 hS => ?_)
                  obtain ⟨fv_421, wd_422, ar_423⟩ := u
                  obtain ⟨hF_fv_421, hA_ar_423, fr_424, fa_425, -⟩ := hw
                  have hP : va_P (dC, dI) vwCl (wsM h ad cA fv_421 wd_422 ar_423) H1 := by have h9 := hB.1; rw [ht] at h9; exact h9
                  have fr_424 : fM [38, 39, 40, 41, 42] fv_409 fv_421 := fr_424
                  have fa_425 : fA [] ar_404 ar_423 := fa_425
                  generalize H1 = H at hP hS ⊢
                  refine lv_goto (tgt := 0) hx hb dX12_readOne_118 (by decide) ?_
                  have z_547 : (fv_421 60).toInt = (fv 60).toInt := congrArg Int32.toInt ((fr_424 60 rfl).trans ((congrFun efv_409 60).trans ((fr_394 60 rfl).trans ((congrFun efv_387 60).trans ((congrFun efv_381 60).trans ((fr_346 60 rfl).trans ((fr_18 60 rfl).trans ((fr_2 60 rfl)))))))))
                  have z_548 : 0 ≤ (fv_421 60).toInt ∧ (fv_421 60).toInt ≤ 120 := hF_fv_421 60
                  have z_549 : (fv_421 61).toInt = v_405.toInt := congrArg Int32.toInt ((fr_424 61 rfl).trans ((congrFun efv_409 61)))
                  have z_550 : 0 ≤ (fv_421 61).toInt ∧ (fv_421 61).toInt ≤ 64 := hF_fv_421 61
                  have z_551 : (fv_421 62).toInt = v_378.toInt := congrArg Int32.toInt ((fr_424 62 rfl).trans ((congrFun efv_409 62).trans ((fr_394 62 rfl).trans ((congrFun efv_387 62).trans ((congrFun efv_381 62))))))
                  have z_552 : 0 ≤ (fv_421 62).toInt ∧ (fv_421 62).toInt ≤ 50 := hF_fv_421 62
                  have z_553 : (fv_421 63).toInt = v_384.toInt := congrArg Int32.toInt ((fr_424 63 rfl).trans ((congrFun efv_409 63).trans ((fr_394 63 rfl).trans ((congrFun efv_387 63)))))
                  have z_554 : (-100) ≤ (fv_421 63).toInt ∧ (fv_421 63).toInt ≤ 10 := hF_fv_421 63
                  exact ih_10 fv_421 ar_423 wd_422 _ _ ls (by omega) hF_fv_421 (fM_call (fM_put (fM_call (fM_put (fM_put (fM_call (fM_call (fM_call (fM_rf [38, 39, 40, 41, 42, 61, 62, 63] _) fr_2 (by decide)) fr_18 (by decide)) fr_346 (by decide)) efv_381 (by decide)) efv_387 (by decide)) fr_394 (by decide)) efv_409 (by decide)) fr_424 (by decide)) hA_ar_423 (fA_call (fA_put (fA_call (fA_call (fA_call (fA_call (fA_rf [57] _) fa_4 (by decide)) fa_19 (by decide)) fa_347 (by decide)) fa_395 (by decide)) ear_404 (by decide)) fa_425 (by decide)) (cX_fr hp_419 (fM_call (fM_rf [38, 39, 40, 41, 42] _) fr_424 (by decide)) (fA_call (fA_rf [] _) fa_425 (by decide)) rfl rfl rfl rfl rfl rfl) (vM_fr (vM_fr hp_7 (fM_call (fM_put (fM_put (fM_call (fM_call (fM_rf [62, 63] _) fr_18 (by decide)) fr_346 (by decide)) efv_381 (by decide)) efv_387 (by decide)) fr_394 (by decide)) (fA_call (fA_call (fA_call (fA_rf [] _) fa_19 (by decide)) fa_347 (by decide)) fa_395 (by decide)) rfl rfl rfl rfl rfl) (fM_call (fM_put (fM_rf [38, 39, 40, 41, 42, 61] _) efv_409 (by decide)) fr_424 (by decide)) (fA_call (fA_put (fA_rf [57] _) ear_404 (by decide)) fa_425 (by decide)) rfl rfl rfl rfl rfl) (by omega) (by omega) hP hS (lv_sub hl [0] rfl)
                · skip
                  refine lv_if_eq (tgt := 101) hx hb dX12_readOne_93 (by decide) (fun c_396 => ?_) (fun c_396 => ?_)
                  · skip
                    have i_397 : 0 ≤ r_389.toInt ∧ r_389.toInt ≤ 0 := iv_eq1 (⟨by decide, by decide⟩ : (0 : Int) ≤ (0 : Int32).toInt ∧ (0 : Int32).toInt ≤ 0) c_396
                    refine lv_bipush (v := 15) hx hb dX12_readOne_101 (by decide) ?_
                    have z_426 : (15 : Int32).toInt = 15 := by decide
                    exact hj_403 15 _ _ ls (iv_w (⟨by decide, by decide⟩ : (15 : Int) ≤ (15 : Int32).toInt ∧ (15 : Int32).toInt ≤ 15) (by decide) (by decide)) (by omega) hP hS (lv_sub hl [1] rfl)
                  · skip
                    have i_399 : 1 ≤ r_389.toInt ∧ r_389.toInt ≤ 1 := iv_nel p_390 (by decide) c_396
                    have k_400 : ¬ r_389.toInt = 0 := fun q => c_396 (Int32.toInt_inj.mp q)
                    refine lv_bipush (v := 12) hx hb dX12_readOne_96 (by decide) ?_
                    refine lv_goto (tgt := 103) hx hb dX12_readOne_98 (by decide) ?_
                    have z_427 : (12 : Int32).toInt = 12 := by decide
                    exact hj_403 12 _ _ ls (iv_w (⟨by decide, by decide⟩ : (12 : Int) ≤ (12 : Int32).toInt ∧ (12 : Int32).toInt ≤ 12) (by decide) (by decide)) (by omega) hP hS (lv_sub hl [1] rfl)
            · skip
              have i_428 : 10 ≤ (fv_1 63).toInt ∧ (fv_1 63).toInt ≤ 10 := iv_eq1 (⟨by decide, by decide⟩ : (10 : Int) ≤ (10 : Int32).toInt ∧ (10 : Int32).toInt ≤ 10) c_366
              refine lv_aload_n hx hb dX12_readOne_50 rfl (lv_at hl 1 rfl) ?_
              refine lv_iconst (v := 4) hx hb dX12_readOne_51 (by decide) ?_
              refine va_calli (va_runV (As := [.int 4]) (rest := []) ⟨hx, hb, hml, hown, hts⟩ (m_bad l dC dI H.size h ad cA hd fv_343 wd_344 ar_345 hF_fv_343 hA_ar_345 4) (cwV 1 hts (gV kw_8_94 kw_8_96 kw_p_69 kw_1_15 kw_8_97) rfl rfl rfl (by decide +kernel) ⟨Nat.le_of_ble_eq_true rfl, Nat.le_of_ble_eq_true rfl⟩) ⟨fun a U g mk q => ⟨q.1, q.2.1, q.2.2.1, va_K.moved (u := U) (U := U.calling g mk a) (Vm.Alike.refl U.vm) q.2.2.2⟩, va_recv hK hP (ci := 12) (q0 := 0) rfl rfl, fun U hU hW => ⟨rfl, by rw [hU], by rw [hU]; exact hP, va_K.moved hW.alike hK⟩⟩ rfl rfl hl.1 rfl (lv_room (Nat.le_of_ble_eq_true rfl)) dX12_readOne_52 ⟨Nat.le_of_ble_eq_true rfl, Nat.le_of_ble_eq_true rfl⟩) hS (fun q _ h9 => aM_up hS q h9) (aM_up hS) (fun r_430 u t H1 locs ht _ hw hB _ hk1 hS => ?_)
              obtain ⟨fv_433, wd_434, ar_435⟩ := u
              obtain ⟨hF_fv_433, hA_ar_435, fr_436, fa_437, p_431, p_432, -⟩ := hw
              have hP : va_P (dC, dI) vwCl (wsM h ad cA fv_433 wd_434 ar_435) H1 := by have h9 := hB.1; rw [ht] at h9; exact h9
              have fr_436 : fM [43, 44] fv_343 fv_433 := fr_436
              have fa_437 : fA [] ar_345 ar_435 := fa_437
              generalize H1 = H at hP hS ⊢
              rcases p_432 with ⟨rfl, p_432⟩
              · skip
                exact W.zret (v := 0) hx hb hr (by decide) (fun t ht hW => ⟨⟨0, (fv_433, wd_434, ar_435), rfl, ⟨hF_fv_433, hA_ar_435, (fM_call (fM_call (fM_call (fM_call (fM_rf [38, 39, 40, 41, 42, 43, 44, 60, 61, 62, 63] _) fr_2 (by decide)) fr_18 (by decide)) fr_346 (by decide)) fr_436 (by decide)), (fA_call (fA_call (fA_call (fA_call (fA_rf [54, 55, 56, 57] _) fa_4 (by decide)) fa_19 (by decide)) fa_347 (by decide)) fa_437 (by decide)), (iv_w (⟨by decide, by decide⟩ : (0 : Int) ≤ (0 : Int32).toInt ∧ (0 : Int32).toInt ≤ 0) (by decide) (by decide)), (Or.inl ⟨rfl, trivial⟩), (vM_fr hp_7 (fM_call (fM_call (fM_call (fM_rf [43, 44] _) fr_18 (by decide)) fr_346 (by decide)) fr_436 (by decide)) (fA_call (fA_call (fA_call (fA_rf [] _) fa_19 (by decide)) fa_347 (by decide)) fa_437 (by decide)) rfl rfl rfl rfl rfl), trivial⟩, ⟨by rw [ht]; exact hP, va_K.moved hW.alike hK⟩⟩, hS.F ht⟩) hS.2.2 dX12_readOne_55
        · skip
          have i_438 : 0 ≤ r_341.toInt ∧ r_341.toInt ≤ 0 := iv_eq1 (⟨by decide, by decide⟩ : (0 : Int) ≤ (0 : Int32).toInt ∧ (0 : Int32).toInt ≤ 0) c_348
          refine lv_aload_n hx hb dX12_readOne_17 rfl (lv_at hl 1 rfl) ?_
          refine lv_bipush (v := 40) hx hb dX12_readOne_18 (by decide) ?_
          refine va_calli (va_runV (As := [.int 40]) (rest := []) ⟨hx, hb, hml, hown, hts⟩ (m_isSign l dC dI H.size h ad cA hd fv_343 wd_344 ar_345 hF_fv_343 hA_ar_345 40) (cwV 1 hts (gV kw_8_117 kw_8_119 kw_p_74 kw_1_15 kw_8_120) rfl rfl rfl (by decide +kernel) ⟨Nat.le_of_ble_eq_true rfl, Nat.le_of_ble_eq_true rfl⟩) ⟨fun a U g mk q => ⟨q.1, q.2.1, q.2.2.1, va_K.moved (u := U) (U := U.calling g mk a) (Vm.Alike.refl U.vm) q.2.2.2⟩, va_recv hK hP (ci := 12) (q0 := 0) rfl rfl, fun U hU hW => ⟨rfl, by rw [hU], by rw [hU]; exact hP, va_K.moved hW.alike hK⟩⟩ rfl rfl hl.1 rfl (lv_room (Nat.le_of_ble_eq_true rfl)) dX12_readOne_20 ⟨Nat.le_of_ble_eq_true rfl, Nat.le_of_ble_eq_true rfl⟩) hS (fun q _ h9 => aM_up hS q h9) (aM_up hS) (fun r_440 u t H1 locs ht _ hw hB _ hk1 hS => ?_)
          obtain ⟨fv_442, wd_443, ar_444⟩ := u
          obtain ⟨hF_fv_442, hA_ar_444, fr_445, fa_446, p_441, -⟩ := hw
          have hP : va_P (dC, dI) vwCl (wsM h ad cA fv_442 wd_443 ar_444) H1 := by have h9 := hB.1; rw [ht] at h9; exact h9
          have fr_445 : fM [] fv_343 fv_442 := fr_445
          have fa_446 : fA [] ar_345 ar_444 := fa_446
          generalize H1 = H at hP hS ⊢
          refine lv_if_ne (tgt := 32) hx hb dX12_readOne_23 (by decide) (fun c_447 => ?_) (fun c_447 => ?_)
          · skip
            have i_448 : 1 ≤ r_440.toInt ∧ r_440.toInt ≤ 1 := iv_nel p_441 (by decide) c_447
            have k_449 : ¬ r_440.toInt = 0 := fun q => c_447 (Int32.toInt_inj.mp q)
            refine lv_aload_n hx hb dX12_readOne_32 rfl (lv_at hl 1 rfl) ?_
            refine gM_62 hx hb htg hown hK hP dX12_readOne_33 ?_
            refine my_ti (y := fv_1 62) ((fr_445 62 rfl).trans ((fr_346 62 rfl).trans ((fr_18 62 rfl)))) ?_
            have i_450 : 0 ≤ (fv_1 62).toInt ∧ (fv_1 62).toInt ≤ 50 := hF_fv_1 62
            refine lv_bipush (v := 50) hx hb dX12_readOne_36 (by decide) ?_
            refine lv_icmp_eq (tgt := 50) hx hb dX12_readOne_38 (by decide) (fun c_451 => ?_) (fun c_451 => ?_)
            · skip
              have i_452 : 50 ≤ (fv_1 62).toInt ∧ (fv_1 62).toInt ≤ 50 := iv_eq1 (⟨by decide, by decide⟩ : (50 : Int) ≤ (50 : Int32).toInt ∧ (50 : Int32).toInt ≤ 50) c_451
              refine lv_aload_n hx hb dX12_readOne_50 rfl (lv_at hl 1 rfl) ?_
              refine lv_iconst (v := 4) hx hb dX12_readOne_51 (by decide) ?_
              refine va_calli (va_runV (As := [.int 4]) (rest := []) ⟨hx, hb, hml, hown, hts⟩ (m_bad l dC dI H.size h ad cA hd fv_442 wd_443 ar_444 hF_fv_442 hA_ar_444 4) (cwV 1 hts (gV kw_8_94 kw_8_96 kw_p_69 kw_1_15 kw_8_97) rfl rfl rfl (by decide +kernel) ⟨Nat.le_of_ble_eq_true rfl, Nat.le_of_ble_eq_true rfl⟩) ⟨fun a U g mk q => ⟨q.1, q.2.1, q.2.2.1, va_K.moved (u := U) (U := U.calling g mk a) (Vm.Alike.refl U.vm) q.2.2.2⟩, va_recv hK hP (ci := 12) (q0 := 0) rfl rfl, fun U hU hW => ⟨rfl, by rw [hU], by rw [hU]; exact hP, va_K.moved hW.alike hK⟩⟩ rfl rfl hl.1 rfl (lv_room (Nat.le_of_ble_eq_true rfl)) dX12_readOne_52 ⟨Nat.le_of_ble_eq_true rfl, Nat.le_of_ble_eq_true rfl⟩) hS (fun q _ h9 => aM_up hS q h9) (aM_up hS) (fun r_454 u t H1 locs ht _ hw hB _ hk1 hS => ?_)
              obtain ⟨fv_457, wd_458, ar_459⟩ := u
              obtain ⟨hF_fv_457, hA_ar_459, fr_460, fa_461, p_455, p_456, -⟩ := hw
              have hP : va_P (dC, dI) vwCl (wsM h ad cA fv_457 wd_458 ar_459) H1 := by have h9 := hB.1; rw [ht] at h9; exact h9
              have fr_460 : fM [43, 44] fv_442 fv_457 := fr_460
              have fa_461 : fA [] ar_444 ar_459 := fa_461
              generalize H1 = H at hP hS ⊢
              rcases p_456 with ⟨rfl, p_456⟩
              · skip
                exact W.zret (v := 0) hx hb hr (by decide) (fun t ht hW => ⟨⟨0, (fv_457, wd_458, ar_459), rfl, ⟨hF_fv_457, hA_ar_459, (fM_call (fM_call (fM_call (fM_call (fM_call (fM_rf [38, 39, 40, 41, 42, 43, 44, 60, 61, 62, 63] _) fr_2 (by decide)) fr_18 (by decide)) fr_346 (by decide)) fr_445 (by decide)) fr_460 (by decide)), (fA_call (fA_call (fA_call (fA_call (fA_call (fA_rf [54, 55, 56, 57] _) fa_4 (by decide)) fa_19 (by decide)) fa_347 (by decide)) fa_446 (by decide)) fa_461 (by decide)), (iv_w (⟨by decide, by decide⟩ : (0 : Int) ≤ (0 : Int32).toInt ∧ (0 : Int32).toInt ≤ 0) (by decide) (by decide)), (Or.inl ⟨rfl, trivial⟩), (vM_fr hp_7 (fM_call (fM_call (fM_call (fM_call (fM_rf [43, 44] _) fr_18 (by decide)) fr_346 (by decide)) fr_445 (by decide)) fr_460 (by decide)) (fA_call (fA_call (fA_call (fA_call (fA_rf [] _) fa_19 (by decide)) fa_347 (by decide)) fa_446 (by decide)) fa_461 (by decide)) rfl rfl rfl rfl rfl), trivial⟩, ⟨by rw [ht]; exact hP, va_K.moved hW.alike hK⟩⟩, hS.F ht⟩) hS.2.2 dX12_readOne_55
            · skip
              have i_462 : 0 ≤ (fv_1 62).toInt ∧ (fv_1 62).toInt ≤ 49 := iv_neh i_450 (by decide) c_451
              have k_463 : ¬ (fv_1 62).toInt = 50 := fun q => c_451 (Int32.toInt_inj.mp q)
              refine lv_aload_n hx hb dX12_readOne_41 rfl (lv_at hl 1 rfl) ?_
              refine gM_63 hx hb htg hown hK hP dX12_readOne_42 ?_
              refine my_ti (y := fv_1 63) ((fr_445 63 rfl).trans ((fr_346 63 rfl).trans ((fr_18 63 rfl)))) ?_
              have i_464 : (-100) ≤ (fv_1 63).toInt ∧ (fv_1 63).toInt ≤ 10 := hF_fv_1 63
              refine lv_bipush (v := 10) hx hb dX12_readOne_45 (by decide) ?_
              refine lv_icmp_ne (tgt := 56) hx hb dX12_readOne_47 (by decide) (fun c_465 => ?_) (fun c_465 => ?_)
              · skip
                have i_466 : (-100) ≤ (fv_1 63).toInt ∧ (fv_1 63).toInt ≤ 9 := iv_neh i_464 (by decide) c_465
                have k_467 : ¬ (fv_1 63).toInt = 10 := fun q => c_465 (Int32.toInt_inj.mp q)
                have z_468 : (fv_442 60).toInt = (fv 60).toInt := congrArg Int32.toInt ((fr_445 60 rfl).trans ((fr_346 60 rfl).trans ((fr_18 60 rfl).trans ((fr_2 60 rfl)))))
                have z_469 : 0 ≤ (fv_442 60).toInt ∧ (fv_442 60).toInt ≤ 120 := hF_fv_442 60
                have z_470 : (fv_442 61).toInt = (fv_1 61).toInt := congrArg Int32.toInt ((fr_445 61 rfl).trans ((fr_346 61 rfl).trans ((fr_18 61 rfl))))
                have z_471 : 0 ≤ (fv_442 61).toInt ∧ (fv_442 61).toInt ≤ 64 := hF_fv_442 61
                have z_472 : (fv_442 62).toInt = (fv_1 62).toInt := congrArg Int32.toInt ((fr_445 62 rfl).trans ((fr_346 62 rfl).trans ((fr_18 62 rfl))))
                have z_473 : 0 ≤ (fv_442 62).toInt ∧ (fv_442 62).toInt ≤ 50 := hF_fv_442 62
                have z_474 : (fv_442 63).toInt = (fv_1 63).toInt := congrArg Int32.toInt ((fr_445 63 rfl).trans ((fr_346 63 rfl).trans ((fr_18 63 rfl))))
                have z_475 : (-100) ≤ (fv_442 63).toInt ∧ (fv_442 63).toInt ≤ 10 := hF_fv_442 63
                have n_476 := cX_n (cX_fr hp_6 (fM_call (fM_call (fM_call (fM_rf [] _) fr_18 (by decide)) fr_346 (by decide)) fr_445 (by decide)) (fA_call (fA_call (fA_call (fA_rf [] _) fa_19 (by decide)) fa_347 (by decide)) fa_446 (by decide)) rfl rfl rfl rfl rfl rfl)
                refine lv_aload_n hx hb dX12_readOne_56 rfl (lv_at hl 1 rfl) ?_
                refine lv_dup hx hb dX12_readOne_57 rfl ?_
                refine gM_62 hx hb htg hown hK hP dX12_readOne_58 ?_
                refine my_ti (y := fv_1 62) ((fr_445 62 rfl).trans ((fr_346 62 rfl).trans ((fr_18 62 rfl)))) ?_
                refine lv_iconst (v := 1) hx hb dX12_readOne_61 (by decide) ?_
                refine lv_iadd hx hb dX12_readOne_62 ?_
                refine lv_topi (fun v_477 ev_477 => ?_)
                have t_478 : v_477.toInt = (fv_1 62).toInt + 1 ∧ 1 ≤ v_477.toInt ∧ v_477.toInt ≤ 50 := iv_addc ev_477 i_462 (by decide) (by decide) (by decide)
                refine pM_62 hx hb htg hown hK hP hS hd dX12_readOne_63 (fun H locs fv_480 efv_480 hP hS => ?_)
                have hF_fv_480 : rF fv_480 := rF_put hF_fv_442 efv_480 (iv_w t_478.2 (by decide) (by decide))
                refine lv_iload_n hx hb dX12_readOne_66 rfl (lv_at hl 0 rfl) ?_
                refine lv_iconst (v := (-1)) hx hb dX12_readOne_67 (by decide) ?_
                refine lv_icmp_ne (tgt := 121) hx hb dX12_readOne_68 (by decide) (fun c_481 => ?_) (fun c_481 => ?_)
                · skip
                  exact absurd True.intro (by have h7 := i_339; have h8 := (⟨by decide, by decide⟩ : (-1 : Int) ≤ ((-1) : Int32).toInt ∧ ((-1) : Int32).toInt ≤ -1); have h9 : ¬ _ := fun q => c_481 (Int32.toInt_inj.mp q); exfalso; omega)
                · skip
                  refine lv_aload_n hx hb dX12_readOne_71 rfl (lv_at hl 1 rfl) ?_
                  refine lv_dup hx hb dX12_readOne_72 rfl ?_
                  refine gM_63 hx hb htg hown hK hP dX12_readOne_73 ?_
                  refine my_ti (y := fv_1 63) ((congrFun efv_480 63).trans ((fr_445 63 rfl).trans ((fr_346 63 rfl).trans ((fr_18 63 rfl))))) ?_
                  refine lv_iconst (v := 1) hx hb dX12_readOne_76 (by decide) ?_
                  refine lv_iadd hx hb dX12_readOne_77 ?_
                  refine lv_topi (fun v_483 ev_483 => ?_)
                  have t_484 : v_483.toInt = (fv_1 63).toInt + 1 ∧ (-99) ≤ v_483.toInt ∧ v_483.toInt ≤ 10 := iv_addc ev_483 i_466 (by decide) (by decide) (by decide)
                  refine pM_63 hx hb htg hown hK hP hS hd dX12_readOne_78 (fun H locs fv_486 efv_486 hP hS => ?_)
                  have hF_fv_486 : rF fv_486 := rF_put hF_fv_480 efv_486 (iv_w t_484.2 (by decide) (by decide))
                  refine lv_aload_n hx hb dX12_readOne_81 rfl (lv_at hl 1 rfl) ?_
                  refine gM_57 hx hb htg hown hK hP dX12_readOne_82 ?_
                  refine lv_aload_n hx hb dX12_readOne_85 rfl (lv_at hl 1 rfl) ?_
                  refine gM_61 hx hb htg hown hK hP dX12_readOne_86 ?_
                  refine my_ti (y := fv_1 61) ((congrFun efv_486 61).trans ((congrFun efv_480 61).trans ((fr_445 61 rfl).trans ((fr_346 61 rfl).trans ((fr_18 61 rfl)))))) ?_
                  have i_487 : 0 ≤ (fv_1 61).toInt ∧ (fv_1 61).toInt ≤ 64 := hF_fv_1 61
                  refine lv_aload_n hx hb dX12_readOne_89 rfl (lv_at hl 1 rfl) ?_
                  refine va_calli (va_runV (As := []) (rest := [.int (fv_1 61), .ref (ad 57)]) ⟨hx, hb, hml, hown, hts⟩ (m_isNot l dC dI H.size h ad cA hd fv_486 wd_443 ar_444 hF_fv_486 hA_ar_444) (cwV 0 hts (gV kw_8_98 kw_8_100 kw_p_70 kw_1_15 kw_8_101) rfl rfl rfl (by decide +kernel) ⟨Nat.le_of_ble_eq_true rfl, Nat.le_of_ble_eq_true rfl⟩) ⟨fun a U g mk q => ⟨q.1, q.2.1, q.2.2.1, va_K.moved (u := U) (U := U.calling g mk a) (Vm.Alike.refl U.vm) q.2.2.2⟩, va_recv hK hP (ci := 12) (q0 := 0) rfl rfl, fun U hU hW => ⟨rfl, by rw [hU], by rw [hU]; exact hP, va_K.moved hW.alike hK⟩⟩ rfl rfl hl.1 rfl (lv_room (Nat.le_of_ble_eq_true rfl)) dX12_readOne_90 ⟨Nat.le_of_ble_eq_true rfl, Nat.le_of_ble_eq_true rfl⟩) hS (fun q _ h9 => aM_up hS q h9) (aM_up hS) (fun r_488 u t H1 locs ht _ hw hB _ hk1 hS => ?_)
                  obtain ⟨fv_490, wd_491, ar_492⟩ := u
                  obtain ⟨hF_fv_490, hA_ar_492, fr_493, fa_494, p_489, -⟩ := hw
                  have hP : va_P (dC, dI) vwCl (wsM h ad cA fv_490 wd_491 ar_492) H1 := by have h9 := hB.1; rw [ht] at h9; exact h9
                  have fr_493 : fM [] fv_486 fv_490 := fr_493
                  have fa_494 : fA [] ar_444 ar_492 := fa_494
                  generalize H1 = H at hP hS ⊢
                  refine my_cut (P := fun R9 a9 Q9 => ∀ (x_500 : Int32) (H : Heap) (locs : List Loc) (ls : Array Slot), (12 ≤ x_500.toInt ∧ x_500.toInt ≤ 15) → (x_500.toInt = 12 ∨ x_500.toInt = 15) → va_P (dC, dI) vwCl (wsM h ad cA fv_490 wd_491 ar_492) H → va_S (aM h ad s.heap.size) s.heap H locs → lv_has ls 3 [(0, .ref h)] → W p l e R9 s m a9 below meth c H locs 0 0 Q9 (F0 m 103 ls [.int x_500, .int (fv_1 61), .ref (ad 57)])) ?_ (fun hj_502 => ?_)
                  · intro x_500 H locs ls i_x_500 q_501 hP hS hl
                    refine sM_57 hx hb hK hP hS hd (vp_in_iff.mpr (by omega)) dX12_readOne_103 (fun H locs ar_503 ear_503 hP hS => ?_)
                    have hA_ar_503 : rA ar_503 := rA_put hA_ar_492 ear_503 (iv_w i_x_500 (by decide) (by decide))
                    refine lv_aload_n hx hb dX12_readOne_104 rfl (lv_at hl 0 rfl) ?_
                    refine lv_dup hx hb dX12_readOne_105 rfl ?_
                    refine gM_61 hx hb htg hown hK hP dX12_readOne_106 ?_
                    refine my_ti (y := fv_1 61) ((fr_493 61 rfl).trans ((congrFun efv_486 61).trans ((congrFun efv_480 61).trans ((fr_445 61 rfl).trans ((fr_346 61 rfl).trans ((fr_18 61 rfl))))))) ?_
                    refine lv_iconst (v := 1) hx hb dX12_readOne_109 (by decide) ?_
                    refine lv_iadd hx hb dX12_readOne_110 ?_
                    refine lv_topi (fun v_504 ev_504 => ?_)
                    have t_505 : v_504.toInt = (fv_1 61).toInt + 1 ∧ 1 ≤ v_504.toInt ∧ v_504.toInt ≤ 65 := iv_addc ev_504 i_487 (by decide) (by decide) (by decide)
                    have i_507 : 0 ≤ v_504.toInt ∧ v_504.toInt ≤ 64 := (by omega)
                    refine pM_61 hx hb htg hown hK hP hS hd dX12_readOne_111 (fun H locs fv_508 efv_508 hP hS => ?_)
                    have hF_fv_508 : rF fv_508 := rF_put hF_fv_490 efv_508 i_507
                    have z_509 : (fv_508 60).toInt = (fv 60).toInt := congrArg Int32.toInt ((congrFun efv_508 60).trans ((fr_493 60 rfl).trans ((congrFun efv_486 60).trans ((congrFun efv_480 60).trans ((fr_445 60 rfl).trans ((fr_346 60 rfl).trans ((fr_18 60 rfl).trans ((fr_2 60 rfl)))))))))
                    have z_510 : 0 ≤ (fv_508 60).toInt ∧ (fv_508 60).toInt ≤ 120 := hF_fv_508 60
                    have z_511 : (fv_508 61).toInt = v_504.toInt := congrArg Int32.toInt ((congrFun efv_508 61))
                    have z_512 : 0 ≤ (fv_508 61).toInt ∧ (fv_508 61).toInt ≤ 64 := hF_fv_508 61
                    have z_513 : (fv_508 62).toInt = v_477.toInt := congrArg Int32.toInt ((congrFun efv_508 62).trans ((fr_493 62 rfl).trans ((congrFun efv_486 62).trans ((congrFun efv_480 62)))))
                    have z_514 : 0 ≤ (fv_508 62).toInt ∧ (fv_508 62).toInt ≤ 50 := hF_fv_508 62
                    have z_515 : (fv_508 63).toInt = v_483.toInt := congrArg Int32.toInt ((congrFun efv_508 63).trans ((fr_493 63 rfl).trans ((congrFun efv_486 63))))
                    have z_516 : (-100) ≤ (fv_508 63).toInt ∧ (fv_508 63).toInt ≤ 10 := hF_fv_508 63
                    have g_517 : ar_503 57 = upd (ar_492 57) ((fv_1 61).toInt.toNat) x_500 := by rw [ear_503]; rfl
                    have hp_518 : cX FF g0 0 (fv_508 60).toInt (fv_508 61).toInt (fv_508 62).toInt (fv_508 63).toInt (ar_503 54) (ar_503 57) := cX_eq (cX_push (pl1 := ar_503 57) (pl := ar_444 57) (i := (fv_1 61).toInt.toNat) (cX_fr hp_6 (fM_call (fM_call (fM_call (fM_rf [] _) fr_18 (by decide)) fr_346 (by decide)) fr_445 (by decide)) (fA_call (fA_call (fA_call (fA_rf [] _) fa_19 (by decide)) fa_347 (by decide)) fa_446 (by decide)) rfl rfl rfl rfl rfl rfl) (by omega) (p1 := (fv_508 60).toInt) (t1 := (fv_508 61).toInt) (o1 := (fv_508 62).toInt) (w1 := (fv_508 63).toInt) (by omega) (by omega) (by omega) (by omega) (by omega) (by omega) (by rw [g_517, ((fA_call (fA_rf [] _) fa_494 (by decide)) 57 rfl)])) rfl rfl rfl rfl ((fA_put (fA_call (fA_rf [57] _) fa_494 (by decide)) ear_503 (by decide)) 54 rfl) rfl
                    refine lv_aload_n hx hb dX12_readOne_114 rfl (lv_at hl 0 rfl) ?_
                    refine va_callv (va_runV (As := []) (rest := []) ⟨hx, hb, hml, hown, hts⟩ (m_go l dC dI H.size h ad cA hd fv_508 wd_491 ar_503 hF_fv_508 hA_ar_503) (cwV 0 hts (gV kw_8_60 kw_8_62 kw_p_64 kw_1_15 kw_8_63) rfl rfl rfl (by decide +kernel) ⟨Nat.le_of_ble_eq_true rfl, Nat.le_of_ble_eq_true rfl⟩) ⟨fun a U g mk q => ⟨q.1, q.2.1, q.2.2.1, va_K.moved (u := U) (U := U.calling g mk a) (Vm.Alike.refl U.vm) q.2.2.2⟩, va_recv hK hP (ci := 12) (q0 := 0) rfl rfl, fun U hU hW => ⟨rfl, by rw [hU], by rw [hU]; exact hP, va_K.moved hW.alike hK⟩⟩ rfl rfl hl.1 rfl (lv_room (Nat.le_of_ble_eq_true rfl)) dX12_readOne_115 ⟨Nat.le_of_ble_eq_true rfl, Nat.le_of_ble_eq_true rfl⟩) hS (fun q _ h9 => aM_up hS q h9) (aM_up hS) (fun u t H1 locs ht _ hw hB _ hk1 hS => ?_)
                    obtain ⟨fv_520, wd_521, ar_522⟩ := u
                    obtain ⟨hF_fv_520, hA_ar_522, fr_523, fa_524, -⟩ := hw
                    have hP : va_P (dC, dI) vwCl (wsM h ad cA fv_520 wd_521 ar_522) H1 := by have h9 := hB.1; rw [ht] at h9; exact h9
                    have fr_523 : fM [38, 39, 40, 41, 42] fv_508 fv_520 := fr_523
                    have fa_524 : fA [] ar_503 ar_522 := fa_524
                    generalize H1 = H at hP hS ⊢
                    refine lv_goto (tgt := 0) hx hb dX12_readOne_118 (by decide) ?_
                    have z_555 : (fv_520 60).toInt = (fv 60).toInt := congrArg Int32.toInt ((fr_523 60 rfl).trans ((congrFun efv_508 60).trans ((fr_493 60 rfl).trans ((congrFun efv_486 60).trans ((congrFun efv_480 60).trans ((fr_445 60 rfl).trans ((fr_346 60 rfl).trans ((fr_18 60 rfl).trans ((fr_2 60 rfl))))))))))
                    have z_556 : 0 ≤ (fv_520 60).toInt ∧ (fv_520 60).toInt ≤ 120 := hF_fv_520 60
                    have z_557 : (fv_520 61).toInt = v_504.toInt := congrArg Int32.toInt ((fr_523 61 rfl).trans ((congrFun efv_508 61)))
                    have z_558 : 0 ≤ (fv_520 61).toInt ∧ (fv_520 61).toInt ≤ 64 := hF_fv_520 61
                    have z_559 : (fv_520 62).toInt = v_477.toInt := congrArg Int32.toInt ((fr_523 62 rfl).trans ((congrFun efv_508 62).trans ((fr_493 62 rfl).trans ((congrFun efv_486 62).trans ((congrFun efv_480 62))))))
                    have z_560 : 0 ≤ (fv_520 62).toInt ∧ (fv_520 62).toInt ≤ 50 := hF_fv_520 62
                    have z_561 : (fv_520 63).toInt = v_483.toInt := congrArg Int32.toInt ((fr_523 63 rfl).trans ((congrFun efv_508 63).trans ((fr_493 63 rfl).trans ((congrFun efv_486 63)))))
                    have z_562 : (-100) ≤ (fv_520 63).toInt ∧ (fv_520 63).toInt ≤ 10 := hF_fv_520 63
                    exact ih_10 fv_520 ar_522 wd_521 _ _ ls (by omega) hF_fv_520 (fM_call (fM_put (fM_call (fM_put (fM_put (fM_call (fM_call (fM_call (fM_call (fM_rf [38, 39, 40, 41, 42, 61, 62, 63] _) fr_2 (by decide)) fr_18 (by decide)) fr_346 (by decide)) fr_445 (by decide)) efv_480 (by decide)) efv_486 (by decide)) fr_493 (by decide)) efv_508 (by decide)) fr_523 (by decide)) hA_ar_522 (fA_call (fA_put (fA_call (fA_call (fA_call (fA_call (fA_call (fA_rf [57] _) fa_4 (by decide)) fa_19 (by decide)) fa_347 (by decide)) fa_446 (by decide)) fa_494 (by decide)) ear_503 (by decide)) fa_524 (by decide)) (cX_fr hp_518 (fM_call (fM_rf [38, 39, 40, 41, 42] _) fr_523 (by decide)) (fA_call (fA_rf [] _) fa_524 (by decide)) rfl rfl rfl rfl rfl rfl) (vM_fr (vM_fr hp_7 (fM_call (fM_put (fM_put (fM_call (fM_call (fM_call (fM_rf [62, 63] _) fr_18 (by decide)) fr_346 (by decide)) fr_445 (by decide)) efv_480 (by decide)) efv_486 (by decide)) fr_493 (by decide)) (fA_call (fA_call (fA_call (fA_call (fA_rf [] _) fa_19 (by decide)) fa_347 (by decide)) fa_446 (by decide)) fa_494 (by decide)) rfl rfl rfl rfl rfl) (fM_call (fM_put (fM_rf [38, 39, 40, 41, 42, 61] _) efv_508 (by decide)) fr_523 (by decide)) (fA_call (fA_put (fA_rf [57] _) ear_503 (by decide)) fa_524 (by decide)) rfl rfl rfl rfl rfl) (by omega) (by omega) hP hS (lv_sub hl [0] rfl)
                  · skip
                    refine lv_if_eq (tgt := 101) hx hb dX12_readOne_93 (by decide) (fun c_495 => ?_) (fun c_495 => ?_)
                    · skip
                      have i_496 : 0 ≤ r_488.toInt ∧ r_488.toInt ≤ 0 := iv_eq1 (⟨by decide, by decide⟩ : (0 : Int) ≤ (0 : Int32).toInt ∧ (0 : Int32).toInt ≤ 0) c_495
                      refine lv_bipush (v := 15) hx hb dX12_readOne_101 (by decide) ?_
                      have z_525 : (15 : Int32).toInt = 15 := by decide
                      exact hj_502 15 _ _ ls (iv_w (⟨by decide, by decide⟩ : (15 : Int) ≤ (15 : Int32).toInt ∧ (15 : Int32).toInt ≤ 15) (by decide) (by decide)) (by omega) hP hS (lv_sub hl [1] rfl)
                    · skip
                      have i_498 : 1 ≤ r_488.toInt ∧ r_488.toInt ≤ 1 := iv_nel p_489 (by decide) c_495
                      have k_499 : ¬ r_488.toInt = 0 := fun q => c_495 (Int32.toInt_inj.mp q)
                      refine lv_bipush (v := 12) hx hb dX12_readOne_96 (by decide) ?_
                      refine lv_goto (tgt := 103) hx hb dX12_readOne_98 (by decide) ?_
                      have z_526 : (12 : Int32).toInt = 12 := by decide
                      exact hj_502 12 _ _ ls (iv_w (⟨by decide, by decide⟩ : (12 : Int) ≤ (12 : Int32).toInt ∧ (12 : Int32).toInt ≤ 12) (by decide) (by decide)) (by omega) hP hS (lv_sub hl [1] rfl)
              · skip
                have i_527 : 10 ≤ (fv_1 63).toInt ∧ (fv_1 63).toInt ≤ 10 := iv_eq1 (⟨by decide, by decide⟩ : (10 : Int) ≤ (10 : Int32).toInt ∧ (10 : Int32).toInt ≤ 10) c_465
                refine lv_aload_n hx hb dX12_readOne_50 rfl (lv_at hl 1 rfl) ?_
                refine lv_iconst (v := 4) hx hb dX12_readOne_51 (by decide) ?_
                refine va_calli (va_runV (As := [.int 4]) (rest := []) ⟨hx, hb, hml, hown, hts⟩ (m_bad l dC dI H.size h ad cA hd fv_442 wd_443 ar_444 hF_fv_442 hA_ar_444 4) (cwV 1 hts (gV kw_8_94 kw_8_96 kw_p_69 kw_1_15 kw_8_97) rfl rfl rfl (by decide +kernel) ⟨Nat.le_of_ble_eq_true rfl, Nat.le_of_ble_eq_true rfl⟩) ⟨fun a U g mk q => ⟨q.1, q.2.1, q.2.2.1, va_K.moved (u := U) (U := U.calling g mk a) (Vm.Alike.refl U.vm) q.2.2.2⟩, va_recv hK hP (ci := 12) (q0 := 0) rfl rfl, fun U hU hW => ⟨rfl, by rw [hU], by rw [hU]; exact hP, va_K.moved hW.alike hK⟩⟩ rfl rfl hl.1 rfl (lv_room (Nat.le_of_ble_eq_true rfl)) dX12_readOne_52 ⟨Nat.le_of_ble_eq_true rfl, Nat.le_of_ble_eq_true rfl⟩) hS (fun q _ h9 => aM_up hS q h9) (aM_up hS) (fun r_529 u t H1 locs ht _ hw hB _ hk1 hS => ?_)
                obtain ⟨fv_532, wd_533, ar_534⟩ := u
                obtain ⟨hF_fv_532, hA_ar_534, fr_535, fa_536, p_530, p_531, -⟩ := hw
                have hP : va_P (dC, dI) vwCl (wsM h ad cA fv_532 wd_533 ar_534) H1 := by have h9 := hB.1; rw [ht] at h9; exact h9
                have fr_535 : fM [43, 44] fv_442 fv_532 := fr_535
                have fa_536 : fA [] ar_444 ar_534 := fa_536
                generalize H1 = H at hP hS ⊢
                rcases p_531 with ⟨rfl, p_531⟩
                · skip
                  exact W.zret (v := 0) hx hb hr (by decide) (fun t ht hW => ⟨⟨0, (fv_532, wd_533, ar_534), rfl, ⟨hF_fv_532, hA_ar_534, (fM_call (fM_call (fM_call (fM_call (fM_call (fM_rf [38, 39, 40, 41, 42, 43, 44, 60, 61, 62, 63] _) fr_2 (by decide)) fr_18 (by decide)) fr_346 (by decide)) fr_445 (by decide)) fr_535 (by decide)), (fA_call (fA_call (fA_call (fA_call (fA_call (fA_rf [54, 55, 56, 57] _) fa_4 (by decide)) fa_19 (by decide)) fa_347 (by decide)) fa_446 (by decide)) fa_536 (by decide)), (iv_w (⟨by decide, by decide⟩ : (0 : Int) ≤ (0 : Int32).toInt ∧ (0 : Int32).toInt ≤ 0) (by decide) (by decide)), (Or.inl ⟨rfl, trivial⟩), (vM_fr hp_7 (fM_call (fM_call (fM_call (fM_call (fM_rf [43, 44] _) fr_18 (by decide)) fr_346 (by decide)) fr_445 (by decide)) fr_535 (by decide)) (fA_call (fA_call (fA_call (fA_call (fA_rf [] _) fa_19 (by decide)) fa_347 (by decide)) fa_446 (by decide)) fa_536 (by decide)) rfl rfl rfl rfl rfl), trivial⟩, ⟨by rw [ht]; exact hP, va_K.moved hW.alike hK⟩⟩, hS.F ht⟩) hS.2.2 dX12_readOne_55
          · skip
            have i_537 : 0 ≤ r_440.toInt ∧ r_440.toInt ≤ 0 := iv_eq1 (⟨by decide, by decide⟩ : (0 : Int) ≤ (0 : Int32).toInt ∧ (0 : Int32).toInt ≤ 0) c_447
            refine lv_aload_n hx hb dX12_readOne_26 rfl (lv_at hl 1 rfl) ?_
            refine lv_iconst (v := 1) hx hb dX12_readOne_27 (by decide) ?_
            refine va_calli (va_runV (As := [.int 1]) (rest := []) ⟨hx, hb, hml, hown, hts⟩ (m_bad l dC dI H.size h ad cA hd fv_442 wd_443 ar_444 hF_fv_442 hA_ar_444 1) (cwV 1 hts (gV kw_8_94 kw_8_96 kw_p_69 kw_1_15 kw_8_97) rfl rfl rfl (by decide +kernel) ⟨Nat.le_of_ble_eq_true rfl, Nat.le_of_ble_eq_true rfl⟩) ⟨fun a U g mk q => ⟨q.1, q.2.1, q.2.2.1, va_K.moved (u := U) (U := U.calling g mk a) (Vm.Alike.refl U.vm) q.2.2.2⟩, va_recv hK hP (ci := 12) (q0 := 0) rfl rfl, fun U hU hW => ⟨rfl, by rw [hU], by rw [hU]; exact hP, va_K.moved hW.alike hK⟩⟩ rfl rfl hl.1 rfl (lv_room (Nat.le_of_ble_eq_true rfl)) dX12_readOne_28 ⟨Nat.le_of_ble_eq_true rfl, Nat.le_of_ble_eq_true rfl⟩) hS (fun q _ h9 => aM_up hS q h9) (aM_up hS) (fun r_539 u t H1 locs ht _ hw hB _ hk1 hS => ?_)
            obtain ⟨fv_542, wd_543, ar_544⟩ := u
            obtain ⟨hF_fv_542, hA_ar_544, fr_545, fa_546, p_540, p_541, -⟩ := hw
            have hP : va_P (dC, dI) vwCl (wsM h ad cA fv_542 wd_543 ar_544) H1 := by have h9 := hB.1; rw [ht] at h9; exact h9
            have fr_545 : fM [43, 44] fv_442 fv_542 := fr_545
            have fa_546 : fA [] ar_444 ar_544 := fa_546
            generalize H1 = H at hP hS ⊢
            rcases p_541 with ⟨rfl, p_541⟩
            · skip
              exact W.zret (v := 0) hx hb hr (by decide) (fun t ht hW => ⟨⟨0, (fv_542, wd_543, ar_544), rfl, ⟨hF_fv_542, hA_ar_544, (fM_call (fM_call (fM_call (fM_call (fM_call (fM_rf [38, 39, 40, 41, 42, 43, 44, 60, 61, 62, 63] _) fr_2 (by decide)) fr_18 (by decide)) fr_346 (by decide)) fr_445 (by decide)) fr_545 (by decide)), (fA_call (fA_call (fA_call (fA_call (fA_call (fA_rf [54, 55, 56, 57] _) fa_4 (by decide)) fa_19 (by decide)) fa_347 (by decide)) fa_446 (by decide)) fa_546 (by decide)), (iv_w (⟨by decide, by decide⟩ : (0 : Int) ≤ (0 : Int32).toInt ∧ (0 : Int32).toInt ≤ 0) (by decide) (by decide)), (Or.inl ⟨rfl, trivial⟩), (vM_fr hp_7 (fM_call (fM_call (fM_call (fM_call (fM_rf [43, 44] _) fr_18 (by decide)) fr_346 (by decide)) fr_445 (by decide)) fr_545 (by decide)) (fA_call (fA_call (fA_call (fA_call (fA_rf [] _) fa_19 (by decide)) fa_347 (by decide)) fa_446 (by decide)) fa_546 (by decide)) rfl rfl rfl rfl rfl), trivial⟩, ⟨by rw [ht]; exact hP, va_K.moved hW.alike hK⟩⟩, hS.F ht⟩) hS.2.2 dX12_readOne_31
  · skip
    have z_563 : 0 ≤ (fv 60).toInt ∧ (fv 60).toInt ≤ 120 := hF_fv 60
    have z_564 : 0 ≤ (fv 61).toInt ∧ (fv 61).toInt ≤ 64 := hF_fv 61
    have z_565 : 0 ≤ (fv 62).toInt ∧ (fv 62).toInt ≤ 50 := hF_fv 62
    have z_566 : (-100) ≤ (fv 63).toInt ∧ (fv 63).toInt ≤ 10 := hF_fv 63
    exact hj_12 51 fv ar wd _ _ ls (by omega) hF_fv (fM_rf [38, 39, 40, 41, 42, 61, 62, 63] _) hA_ar (fA_rf [57] _) hp_c0 hp_vM (hF_fv 62) (Int.le_refl _) hP hS (lv_sub hl [0] rfl)

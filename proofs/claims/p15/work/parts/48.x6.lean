theorem dX11_count_0 : decode cX11_count 0 = .ok (.iload_n 1, 1) := by decide +kernel
theorem dX11_count_1 : decode cX11_count 1 = .ok (.tableswitch 120 0 7 #[47, 55, 66, 74, 85, 96, 107, 115], 47) := by decide +kernel
theorem dX11_count_48 : decode cX11_count 48 = .ok (.aload_n 0, 1) := by decide +kernel
theorem dX11_count_49 : decode cX11_count 49 = .ok (.getfield 16, 3) := by decide +kernel
theorem dX11_count_52 : decode cX11_count 52 = .ok (.getfield 57, 3) := by decide +kernel
theorem dX11_count_55 : decode cX11_count 55 = .ok (.ireturn, 1) := by decide +kernel
theorem dX11_count_56 : decode cX11_count 56 = .ok (.aload_n 0, 1) := by decide +kernel
theorem dX11_count_57 : decode cX11_count 57 = .ok (.getfield 16, 3) := by decide +kernel
theorem dX11_count_60 : decode cX11_count 60 = .ok (.getfield 79, 3) := by decide +kernel
theorem dX11_count_63 : decode cX11_count 63 = .ok (.getfield 236, 3) := by decide +kernel
theorem dX11_count_66 : decode cX11_count 66 = .ok (.ireturn, 1) := by decide +kernel
theorem dX11_count_67 : decode cX11_count 67 = .ok (.aload_n 0, 1) := by decide +kernel
theorem dX11_count_68 : decode cX11_count 68 = .ok (.getfield 16, 3) := by decide +kernel
theorem dX11_count_71 : decode cX11_count 71 = .ok (.getfield 89, 3) := by decide +kernel
theorem dX11_count_74 : decode cX11_count 74 = .ok (.ireturn, 1) := by decide +kernel
theorem dX11_count_75 : decode cX11_count 75 = .ok (.aload_n 0, 1) := by decide +kernel
theorem dX11_count_76 : decode cX11_count 76 = .ok (.getfield 16, 3) := by decide +kernel
theorem dX11_count_79 : decode cX11_count 79 = .ok (.getfield 101, 3) := by decide +kernel
theorem dX11_count_82 : decode cX11_count 82 = .ok (.getfield 237, 3) := by decide +kernel
theorem dX11_count_85 : decode cX11_count 85 = .ok (.ireturn, 1) := by decide +kernel
theorem dX11_count_86 : decode cX11_count 86 = .ok (.aload_n 0, 1) := by decide +kernel
theorem dX11_count_87 : decode cX11_count 87 = .ok (.getfield 16, 3) := by decide +kernel
theorem dX11_count_90 : decode cX11_count 90 = .ok (.getfield 116, 3) := by decide +kernel
theorem dX11_count_93 : decode cX11_count 93 = .ok (.getfield 238, 3) := by decide +kernel
theorem dX11_count_96 : decode cX11_count 96 = .ok (.ireturn, 1) := by decide +kernel
theorem dX11_count_97 : decode cX11_count 97 = .ok (.aload_n 0, 1) := by decide +kernel
theorem dX11_count_98 : decode cX11_count 98 = .ok (.getfield 16, 3) := by decide +kernel
theorem dX11_count_101 : decode cX11_count 101 = .ok (.getfield 154, 3) := by decide +kernel
theorem dX11_count_104 : decode cX11_count 104 = .ok (.invokevirtual 158, 3) := by decide +kernel
theorem dX11_count_107 : decode cX11_count 107 = .ok (.ireturn, 1) := by decide +kernel
theorem dX11_count_108 : decode cX11_count 108 = .ok (.aload_n 0, 1) := by decide +kernel
theorem dX11_count_109 : decode cX11_count 109 = .ok (.getfield 16, 3) := by decide +kernel
theorem dX11_count_112 : decode cX11_count 112 = .ok (.getfield 145, 3) := by decide +kernel
theorem dX11_count_115 : decode cX11_count 115 = .ok (.ireturn, 1) := by decide +kernel
theorem dX11_count_116 : decode cX11_count 116 = .ok (.aload_n 0, 1) := by decide +kernel
theorem dX11_count_117 : decode cX11_count 117 = .ok (.getfield 50, 3) := by decide +kernel
theorem dX11_count_120 : decode cX11_count 120 = .ok (.ireturn, 1) := by decide +kernel
theorem dX11_count_121 : decode cX11_count 121 = .ok (.iconst (-1), 1) := by decide +kernel
theorem dX11_count_122 : decode cX11_count 122 = .ok (.ireturn, 1) := by decide +kernel
theorem ix_sw_0_8 (x : Int32) : x.toInt < 0 ∨ 7 < x.toInt ∨ x = 0 ∨ x = 1 ∨ x = 2 ∨ x = 3 ∨ x = 4 ∨ x = 5 ∨ x = 6 ∨ x = 7 := by
  have e : ∀ n : Int32, x = n ↔ x.toInt = n.toInt := fun n => ⟨fun q => by rw [q], fun q => Int32.toInt_inj.mp q⟩
  simp only [e]
  have z : (0 : Int32).toInt = 0 ∧ (1 : Int32).toInt = 1 ∧ (2 : Int32).toInt = 2 ∧ (3 : Int32).toInt = 3 ∧ (4 : Int32).toInt = 4 ∧ (5 : Int32).toInt = 5 ∧ (6 : Int32).toInt = 6 ∧ (7 : Int32).toInt = 7 := by decide
  omega
set_option maxHeartbeats 4000000 in
set_option maxRecDepth 100000 in
theorem x_count (l : Launch) (dC : Nat → ClassId) (dI : Nat → Nat → Nat) (sz : Nat) (ob ad : Nat → Nat) (cA : Nat → ClassId) (hd : dX ob ad) (fv : Nat → Int32) (wd : xT) (ar : Nat → Nat → Int32) (hF_fv : rX fv) (hA_ar : rB ar) (a : Int32) : Met l yX11_count (.code yX11_count cX11_count 2 (some .int) :: lw_good) ({ frames := 3, cells := 0, slots := 0, locals := 60 }) (va_Pc [.ref (ob 0), .int a] (prX dC dI ob ad cA fv wd ar sz)) (va_Qi (fun (r : Int32) (u : xS) => rX u.1 ∧ rB u.2.2 ∧ fM [] fv u.1 ∧ fA [] ar u.2.2 ∧ u.2.1.2 = wd.2 ∧ True) (enX dC dI ob ad cA) (aX ob ad sz)) 0 0 (aX ob ad sz) := by
  refine Met.ofW (cc := cX11_count) (maxL := 2) (ret := (some .int)) (by decide) rfl ?_
  intro p e s m args below meth c s₁ B hml hv
  obtain ⟨rfl, hsz, hP, hK⟩ := hv
  have hx := B.exec
  have hb := B.bytes
  have hr := B.returns
  have hts := atoms_spec (ws := (.code yX11_count cX11_count 2 (some .int) :: lw_good)) B.pre
  have htg : ∀ w ∈ lw_good, w.before _ s = true := fun w hw => hts w (List.mem_cons_of_mem _ hw)
  have hown : s.vm.findClass RX11 = some m.cls := findClass_of_methodNamed B.named
  have hlocks := B.notSynchronized
  subst hsz
  have hS : va_S (aX ob ad s.heap.size) s.heap s.heap [] := va_S.rf
  have hl := lv_entry ([.ref (ob 0), .int a]) (n := 2) (Nat.le_of_ble_eq_true rfl)
  rw [lg_entry_eq]
  generalize (lg_sl ([.ref (ob 0), .int a]) ++ List.replicate (2 - (lg_sl ([.ref (ob 0), .int a])).length) Slot.unset).toArray = ls at hl ⊢
  have hl : lv_has ls 2 [(0, .ref (ob 0)), (1, .int a)] := hl
  refine lv_iload_n hx hb dX11_count_0 rfl (lv_at hl 1 rfl) ?_
  rcases ix_sw_0_8 a with w_1 | w_1 | w_1 | w_1 | w_1 | w_1 | w_1 | w_1 | w_1 | w_1
  · skip
    refine lv_tableOut (tgt := 121) hx hb dX11_count_1 (Or.inl w_1) (by decide) ?_
    refine lv_iconst (v := (-1)) hx hb dX11_count_121 (by decide) ?_
    exact W.iret (v := (-1)) hx hb hr (fun t ht hW => ⟨⟨(-1), (fv, wd, ar), rfl, ⟨hF_fv, hA_ar, (fM_rf [] _), (fA_rf [] _), rfl, trivial⟩, ⟨by rw [ht]; exact hP, va_K.moved hW.alike hK⟩⟩, hS.F ht⟩) hS.2.2 dX11_count_122
  · skip
    refine lv_tableOut (tgt := 121) hx hb dX11_count_1 (Or.inr w_1) (by decide) ?_
    refine lv_iconst (v := (-1)) hx hb dX11_count_121 (by decide) ?_
    exact W.iret (v := (-1)) hx hb hr (fun t ht hW => ⟨⟨(-1), (fv, wd, ar), rfl, ⟨hF_fv, hA_ar, (fM_rf [] _), (fA_rf [] _), rfl, trivial⟩, ⟨by rw [ht]; exact hP, va_K.moved hW.alike hK⟩⟩, hS.F ht⟩) hS.2.2 dX11_count_122
  · skip
    refine lv_tableIn (off := 47) (tgt := 48) hx hb dX11_count_1 (by rw [w_1]; decide) (by rw [w_1]; decide) (by rw [w_1]; rfl) (by decide) ?_
    refine lv_aload_n hx hb dX11_count_48 rfl (lv_at hl 0 rfl) ?_
    refine gX_X11_16 hx hb htg hown hK hP dX11_count_49 ?_
    refine gX_X11_57 hx hb htg hown hK hP dX11_count_52 ?_
    have i_2 : 0 ≤ (fv 7).toInt ∧ (fv 7).toInt ≤ 199 := hF_fv 7
    exact W.iret (v := fv 7) hx hb hr (fun t ht hW => ⟨⟨fv 7, (fv, wd, ar), rfl, ⟨hF_fv, hA_ar, (fM_rf [] _), (fA_rf [] _), rfl, trivial⟩, ⟨by rw [ht]; exact hP, va_K.moved hW.alike hK⟩⟩, hS.F ht⟩) hS.2.2 dX11_count_55
  · skip
    refine lv_tableIn (off := 55) (tgt := 56) hx hb dX11_count_1 (by rw [w_1]; decide) (by rw [w_1]; decide) (by rw [w_1]; rfl) (by decide) ?_
    refine lv_aload_n hx hb dX11_count_56 rfl (lv_at hl 0 rfl) ?_
    refine gX_X11_16 hx hb htg hown hK hP dX11_count_57 ?_
    refine gX_X11_79 hx hb htg hown hK hP dX11_count_60 ?_
    refine gX_X11_236 hx hb htg hown hK hP dX11_count_63 ?_
    have i_3 : 0 ≤ (fv 10).toInt ∧ (fv 10).toInt ≤ 40 := hF_fv 10
    exact W.iret (v := fv 10) hx hb hr (fun t ht hW => ⟨⟨fv 10, (fv, wd, ar), rfl, ⟨hF_fv, hA_ar, (fM_rf [] _), (fA_rf [] _), rfl, trivial⟩, ⟨by rw [ht]; exact hP, va_K.moved hW.alike hK⟩⟩, hS.F ht⟩) hS.2.2 dX11_count_66
  · skip
    refine lv_tableIn (off := 66) (tgt := 67) hx hb dX11_count_1 (by rw [w_1]; decide) (by rw [w_1]; decide) (by rw [w_1]; rfl) (by decide) ?_
    refine lv_aload_n hx hb dX11_count_67 rfl (lv_at hl 0 rfl) ?_
    refine gX_X11_16 hx hb htg hown hK hP dX11_count_68 ?_
    refine gX_X11_89 hx hb htg hown hK hP dX11_count_71 ?_
    have i_4 : 0 ≤ (fv 4).toInt ∧ (fv 4).toInt ≤ 8 := hF_fv 4
    exact W.iret (v := fv 4) hx hb hr (fun t ht hW => ⟨⟨fv 4, (fv, wd, ar), rfl, ⟨hF_fv, hA_ar, (fM_rf [] _), (fA_rf [] _), rfl, trivial⟩, ⟨by rw [ht]; exact hP, va_K.moved hW.alike hK⟩⟩, hS.F ht⟩) hS.2.2 dX11_count_74
  · skip
    refine lv_tableIn (off := 74) (tgt := 75) hx hb dX11_count_1 (by rw [w_1]; decide) (by rw [w_1]; decide) (by rw [w_1]; rfl) (by decide) ?_
    refine lv_aload_n hx hb dX11_count_75 rfl (lv_at hl 0 rfl) ?_
    refine gX_X11_16 hx hb htg hown hK hP dX11_count_76 ?_
    refine gX_X11_101 hx hb htg hown hK hP dX11_count_79 ?_
    refine gX_X11_237 hx hb htg hown hK hP dX11_count_82 ?_
    have i_5 : 0 ≤ (fv 11).toInt ∧ (fv 11).toInt ≤ 20 := hF_fv 11
    exact W.iret (v := fv 11) hx hb hr (fun t ht hW => ⟨⟨fv 11, (fv, wd, ar), rfl, ⟨hF_fv, hA_ar, (fM_rf [] _), (fA_rf [] _), rfl, trivial⟩, ⟨by rw [ht]; exact hP, va_K.moved hW.alike hK⟩⟩, hS.F ht⟩) hS.2.2 dX11_count_85
  · skip
    refine lv_tableIn (off := 85) (tgt := 86) hx hb dX11_count_1 (by rw [w_1]; decide) (by rw [w_1]; decide) (by rw [w_1]; rfl) (by decide) ?_
    refine lv_aload_n hx hb dX11_count_86 rfl (lv_at hl 0 rfl) ?_
    refine gX_X11_16 hx hb htg hown hK hP dX11_count_87 ?_
    refine gX_X11_116 hx hb htg hown hK hP dX11_count_90 ?_
    refine gX_X11_238 hx hb htg hown hK hP dX11_count_93 ?_
    have i_6 : 0 ≤ (fv 12).toInt ∧ (fv 12).toInt ≤ 80 := hF_fv 12
    exact W.iret (v := fv 12) hx hb hr (fun t ht hW => ⟨⟨fv 12, (fv, wd, ar), rfl, ⟨hF_fv, hA_ar, (fM_rf [] _), (fA_rf [] _), rfl, trivial⟩, ⟨by rw [ht]; exact hP, va_K.moved hW.alike hK⟩⟩, hS.F ht⟩) hS.2.2 dX11_count_96
  · skip
    refine lv_tableIn (off := 96) (tgt := 97) hx hb dX11_count_1 (by rw [w_1]; decide) (by rw [w_1]; decide) (by rw [w_1]; rfl) (by decide) ?_
    refine lv_aload_n hx hb dX11_count_97 rfl (lv_at hl 0 rfl) ?_
    refine gX_X11_16 hx hb htg hown hK hP dX11_count_98 ?_
    refine gX_X11_154 hx hb htg hown hK hP dX11_count_101 ?_
    have z_7 : 0 ≤ (fv 30).toInt ∧ (fv 30).toInt ≤ 10 := hF_fv 30
    refine va_calli (va_runV (As := []) (rest := []) ⟨hx, hb, hml, hown, hts⟩ (x_alsize l dC dI s.heap.size ob ad cA hd fv wd ar hF_fv hA_ar) (cwV 0 hts (gV kw_4_5 kw_4_6 kw_4_7 kw_1_9 kw_4_8) rfl rfl rfl (by decide +kernel) ⟨Nat.le_of_ble_eq_true rfl, Nat.le_of_ble_eq_true rfl⟩) ⟨fun a U g mk q => ⟨q.1, q.2.1, q.2.2.1, va_K.moved (u := U) (U := U.calling g mk a) (Vm.Alike.refl U.vm) q.2.2.2⟩, va_recv hK hP (ci := 0) (q0 := 11) rfl rfl, fun U hU hW => ⟨rfl, by rw [hU], by rw [hU]; exact hP, va_K.moved hW.alike hK⟩⟩ rfl rfl hl.1 rfl (lv_room (Nat.le_of_ble_eq_true rfl)) dX11_count_104 ⟨Nat.le_of_ble_eq_true rfl, Nat.le_of_ble_eq_true rfl⟩) hS (fun q _ h9 => aX_up hS q h9) (aX_up hS) (fun r_8 u t H1 locs ht _ hw hB _ hk1 hS => ?_)
    obtain ⟨fv_11, wd_12, ar_13⟩ := u
    obtain ⟨hF_fv_11, hA_ar_13, fr_14, fa_15, wf_16, p_9, p_10, -⟩ := hw
    have wf_16 : wd_12.2 = wd.2 := wf_16
    have hP : va_P (dC, dI) vwCl (wsX ob ad cA fv_11 wd_12 ar_13) H1 := by have h9 := hB.1; rw [ht] at h9; exact h9
    have fr_14 : fM [] fv fv_11 := fr_14
    have fa_15 : fA [] ar ar_13 := fa_15
    have p_10 : r_8.toInt = (fv 30).toInt := p_10
    generalize H1 = H at hP hS ⊢
    exact W.iret (v := r_8) hx hb hr (fun t ht hW => ⟨⟨r_8, (fv_11, wd_12, ar_13), rfl, ⟨hF_fv_11, hA_ar_13, (fM_call (fM_rf [] _) fr_14 (by decide)), (fA_call (fA_rf [] _) fa_15 (by decide)), wf_16, trivial⟩, ⟨by rw [ht]; exact hP, va_K.moved hW.alike hK⟩⟩, hS.F ht⟩) hS.2.2 dX11_count_107
  · skip
    refine lv_tableIn (off := 107) (tgt := 108) hx hb dX11_count_1 (by rw [w_1]; decide) (by rw [w_1]; decide) (by rw [w_1]; rfl) (by decide) ?_
    refine lv_aload_n hx hb dX11_count_108 rfl (lv_at hl 0 rfl) ?_
    refine gX_X11_16 hx hb htg hown hK hP dX11_count_109 ?_
    refine gX_X11_145 hx hb htg hown hK hP dX11_count_112 ?_
    exact W.iret (v := fv 8) hx hb hr (fun t ht hW => ⟨⟨fv 8, (fv, wd, ar), rfl, ⟨hF_fv, hA_ar, (fM_rf [] _), (fA_rf [] _), rfl, trivial⟩, ⟨by rw [ht]; exact hP, va_K.moved hW.alike hK⟩⟩, hS.F ht⟩) hS.2.2 dX11_count_115
  · skip
    refine lv_tableIn (off := 115) (tgt := 116) hx hb dX11_count_1 (by rw [w_1]; decide) (by rw [w_1]; decide) (by rw [w_1]; rfl) (by decide) ?_
    refine lv_aload_n hx hb dX11_count_116 rfl (lv_at hl 0 rfl) ?_
    refine gX_X11_50 hx hb htg hown hK hP dX11_count_117 ?_
    have i_17 : 0 ≤ (fv 0).toInt ∧ (fv 0).toInt ≤ 340 := hF_fv 0
    exact W.iret (v := fv 0) hx hb hr (fun t ht hW => ⟨⟨fv 0, (fv, wd, ar), rfl, ⟨hF_fv, hA_ar, (fM_rf [] _), (fA_rf [] _), rfl, trivial⟩, ⟨by rw [ht]; exact hP, va_K.moved hW.alike hK⟩⟩, hS.F ht⟩) hS.2.2 dX11_count_120

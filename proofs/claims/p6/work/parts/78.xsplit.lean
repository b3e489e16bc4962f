theorem dX3_split_0 : decode cX3_split 0 = .ok (.iload_n 2, 1) := by decide +kernel
theorem dX3_split_1 : decode cX3_split 1 = .ok (.sipush 300, 3) := by decide +kernel
theorem dX3_split_4 : decode cX3_split 4 = .ok (.invokestatic 92, 3) := by decide +kernel
theorem dX3_split_7 : decode cX3_split 7 = .ok (.istore_n 3, 1) := by decide +kernel
theorem dX3_split_8 : decode cX3_split 8 = .ok (.iconst 0, 1) := by decide +kernel
theorem dX3_split_9 : decode cX3_split 9 = .ok (.istore 4, 2) := by decide +kernel
theorem dX3_split_11 : decode cX3_split 11 = .ok (.aload_n 0, 1) := by decide +kernel
theorem dX3_split_12 : decode cX3_split 12 = .ok (.iconst 0, 1) := by decide +kernel
theorem dX3_split_13 : decode cX3_split 13 = .ok (.putfield 98, 3) := by decide +kernel
theorem dX3_split_16 : decode cX3_split 16 = .ok (.iload 4, 2) := by decide +kernel
theorem dX3_split_18 : decode cX3_split 18 = .ok (.iload_n 3, 1) := by decide +kernel
theorem dX3_split_19 : decode cX3_split 19 = .ok (.if_icmp .ge 72, 3) := by decide +kernel
theorem dX3_split_22 : decode cX3_split 22 = .ok (.aload_n 1, 1) := by decide +kernel
theorem dX3_split_23 : decode cX3_split 23 = .ok (.iload 4, 2) := by decide +kernel
theorem dX3_split_25 : decode cX3_split 25 = .ok (.iaload, 1) := by decide +kernel
theorem dX3_split_26 : decode cX3_split 26 = .ok (.bipush 32, 2) := by decide +kernel
theorem dX3_split_28 : decode cX3_split 28 = .ok (.if_icmp .eq 12, 3) := by decide +kernel
theorem dX3_split_31 : decode cX3_split 31 = .ok (.aload_n 1, 1) := by decide +kernel
theorem dX3_split_32 : decode cX3_split 32 = .ok (.iload 4, 2) := by decide +kernel
theorem dX3_split_34 : decode cX3_split 34 = .ok (.iaload, 1) := by decide +kernel
theorem dX3_split_35 : decode cX3_split 35 = .ok (.bipush 10, 2) := by decide +kernel
theorem dX3_split_37 : decode cX3_split 37 = .ok (.if_icmp .ne 9, 3) := by decide +kernel
theorem dX3_split_40 : decode cX3_split 40 = .ok (.iinc 4 1, 3) := by decide +kernel
theorem dX3_split_43 : decode cX3_split 43 = .ok (.goto (-27), 3) := by decide +kernel
theorem dX3_split_46 : decode cX3_split 46 = .ok (.iload 4, 2) := by decide +kernel
theorem dX3_split_48 : decode cX3_split 48 = .ok (.iconst 1, 1) := by decide +kernel
theorem dX3_split_49 : decode cX3_split 49 = .ok (.iadd, 1) := by decide +kernel
theorem dX3_split_50 : decode cX3_split 50 = .ok (.aload_n 1, 1) := by decide +kernel
theorem dX3_split_51 : decode cX3_split 51 = .ok (.iload 4, 2) := by decide +kernel
theorem dX3_split_53 : decode cX3_split 53 = .ok (.iload_n 2, 1) := by decide +kernel
theorem dX3_split_54 : decode cX3_split 54 = .ok (.invokestatic 101, 3) := by decide +kernel
theorem dX3_split_57 : decode cX3_split 57 = .ok (.invokestatic 105, 3) := by decide +kernel
theorem dX3_split_60 : decode cX3_split 60 = .ok (.istore 5, 2) := by decide +kernel
theorem dX3_split_62 : decode cX3_split 62 = .ok (.aload_n 0, 1) := by decide +kernel
theorem dX3_split_63 : decode cX3_split 63 = .ok (.aload_n 1, 1) := by decide +kernel
theorem dX3_split_64 : decode cX3_split 64 = .ok (.iload 4, 2) := by decide +kernel
theorem dX3_split_66 : decode cX3_split 66 = .ok (.iload 5, 2) := by decide +kernel
theorem dX3_split_68 : decode cX3_split 68 = .ok (.invokestatic 108, 3) := by decide +kernel
theorem dX3_split_71 : decode cX3_split 71 = .ok (.iload 4, 2) := by decide +kernel
theorem dX3_split_73 : decode cX3_split 73 = .ok (.aload_n 1, 1) := by decide +kernel
theorem dX3_split_74 : decode cX3_split 74 = .ok (.iload 4, 2) := by decide +kernel
theorem dX3_split_76 : decode cX3_split 76 = .ok (.iload 5, 2) := by decide +kernel
theorem dX3_split_78 : decode cX3_split 78 = .ok (.invokestatic 112, 3) := by decide +kernel
theorem dX3_split_81 : decode cX3_split 81 = .ok (.invokevirtual 115, 3) := by decide +kernel
theorem dX3_split_84 : decode cX3_split 84 = .ok (.iload 5, 2) := by decide +kernel
theorem dX3_split_86 : decode cX3_split 86 = .ok (.istore 4, 2) := by decide +kernel
theorem dX3_split_88 : decode cX3_split 88 = .ok (.goto (-72), 3) := by decide +kernel
theorem dX3_split_91 : decode cX3_split 91 = .ok (.aload_n 0, 1) := by decide +kernel
theorem dX3_split_92 : decode cX3_split 92 = .ok (.iload_n 2, 1) := by decide +kernel
theorem dX3_split_93 : decode cX3_split 93 = .ok (.sipush 300, 3) := by decide +kernel
theorem dX3_split_96 : decode cX3_split 96 = .ok (.if_icmp .le 9, 3) := by decide +kernel
theorem dX3_split_99 : decode cX3_split 99 = .ok (.getstatic 119, 3) := by decide +kernel
theorem dX3_split_102 : decode cX3_split 102 = .ok (.goto 6, 3) := by decide +kernel
theorem dX3_split_105 : decode cX3_split 105 = .ok (.getstatic 62, 3) := by decide +kernel
theorem dX3_split_108 : decode cX3_split 108 = .ok (.iload_n 3, 1) := by decide +kernel
theorem dX3_split_109 : decode cX3_split 109 = .ok (.iconst 0, 1) := by decide +kernel
theorem dX3_split_110 : decode cX3_split 110 = .ok (.invokevirtual 115, 3) := by decide +kernel
theorem dX3_split_113 : decode cX3_split 113 = .ok (.return_, 1) := by decide +kernel
theorem ix_maxl {v x y : Int32} (e : v = if x < y then y else x) : x.toInt ≤ v.toInt := by
  subst e
  by_cases q : x < y
  · rw [if_pos q]; have := Int32.lt_iff_toInt_lt.mp q; omega
  · rw [if_neg q]; exact Int.le_refl _
set_option maxHeartbeats 4000000 in
set_option maxRecDepth 100000 in
theorem x_split (l : Launch) (dC : Nat → ClassId) (dI : Nat → Nat → Nat) (sz : Nat) (ob ad : Nat → Nat) (cA : Nat → ClassId) (hd : dX ob ad) (fv : Nat → Int32) (wd : xT) (ar : Nat → Nat → Int32) (hF_fv : rX fv) (hA_ar : rB ar) (tkK tkV tkL : Nat → Nat) (tkB : Nat → Nat → Int32) (tkT : Nat) (tA : Nat → Nat) (hto : tO tA wd.2.1) (sz_ : Int32) (h_sz_ : 0 ≤ sz_.toInt ∧ sz_.toInt ≤ 340) : Met l yX3_split (.code yX3_split cX3_split 6 none :: lw_good) ({ frames := 9, cells := 0, slots := 0, locals := 198 }) (va_Pc [.ref (ob 6), .ref (ad 1), .int sz_] (fun U => prX dC dI ob ad cA fv wd ar sz U ∧ tkA ob ad tA sz U ∧ txA ob ad tA tkK tkV tkL tkB tkT sz U)) (va_Qv (fun (u : xS) => rX u.1 ∧ rB u.2.2 ∧ fM [13] fv u.1 ∧ fA [36, 37] ar u.2.2 ∧ (tO tA u.2.1.2.1) ∧ (u.2.1.2.2 = wd.2.2) ∧ True) (enX dC dI ob ad cA) (aX ob ad sz)) 0 0 (aX ob ad sz) := by
  refine Met.ofW (cc := cX3_split) (maxL := 6) (ret := none) (by decide) rfl ?_
  intro p e s m args below meth c s₁ B hml hv
  obtain ⟨rfl, ⟨hsz, hP, hK⟩, hE, hX⟩ := hv
  have hx := B.exec
  have hb := B.bytes
  have hr := B.returns
  have hts := atoms_spec (ws := (.code yX3_split cX3_split 6 none :: lw_good)) B.pre
  have htg : ∀ w ∈ lw_good, w.before _ s = true := fun w hw => hts w (List.mem_cons_of_mem _ hw)
  have hown : s.vm.findClass RX3 = some m.cls := findClass_of_methodNamed B.named
  have hlocks := B.notSynchronized
  subst hsz
  have hS : va_S (aX ob ad s.heap.size) s.heap s.heap [] := va_S.rf
  have hl := lv_entry ([.ref (ob 6), .ref (ad 1), .int sz_]) (n := 6) (Nat.le_of_ble_eq_true rfl)
  rw [lg_entry_eq]
  generalize (lg_sl ([.ref (ob 6), .ref (ad 1), .int sz_]) ++ List.replicate (6 - (lg_sl ([.ref (ob 6), .ref (ad 1), .int sz_])).length) Slot.unset).toArray = ls at hl ⊢
  have hl : lv_has ls 6 [(0, .ref (ob 6)), (1, .ref (ad 1)), (2, .int sz_)] := hl
  refine lv_iload_n hx hb dX3_split_0 rfl (lv_at hl 2 rfl) ?_
  refine lv_sipush (v := 300) hx hb dX3_split_1 (by decide) ?_
  refine va_mmin hx hb (hml.trans hl.1.symm) hown (htg (.methodLink RX3 92 Lib.Math.min.name) kw_4_17) (htg (.static Lib.Math.min.name) kw_3_151) (htg (.initialized RJ9) kw_1_16) (htg (.code Lib.Math.min.name Lib.Math.min.code 2 (some .int)) kw_3_152) (Nat.le_of_ble_eq_true rfl) (Nat.le_of_ble_eq_true rfl) (Nat.le_of_ble_eq_true rfl) (Nat.le_of_ble_eq_true rfl) dX3_split_4 ?_
  refine lv_topi (fun v_1 ev_1 => ?_)
  have i_2 : 0 ≤ v_1.toInt ∧ v_1.toInt ≤ 300 := ix_min ev_1 h_sz_ (⟨by decide, by decide⟩ : (300 : Int) ≤ (300 : Int32).toInt ∧ (300 : Int32).toInt ≤ 300) (by decide) (by decide)
  refine lv_istore_n (lv' := [(3, .int v_1), (0, .ref (ob 6)), (1, .ref (ad 1)), (2, .int sz_)]) hx hb dX3_split_7 rfl hl (by decide) rfl (fun ls hl => ?_)
  refine lv_iconst (v := 0) hx hb dX3_split_8 (by decide) ?_
  refine lv_istore (lv' := [(4, .int 0), (3, .int v_1), (0, .ref (ob 6)), (1, .ref (ad 1)), (2, .int sz_)]) hx hb dX3_split_9 hl (by decide) rfl (fun ls hl => ?_)
  refine lv_aload_n hx hb dX3_split_11 rfl (lv_at hl 2 rfl) ?_
  refine lv_iconst (v := 0) hx hb dX3_split_12 (by decide) ?_
  refine pX_X3_98 hx hb htg hown hK hP hS hd dX3_split_13 (fun H locs fv_3 efv_3 hP hS => ?_)
  have hF_fv_3 : rX fv_3 := rX_put hF_fv efv_3 (iv_w (⟨by decide, by decide⟩ : (0 : Int) ≤ (0 : Int32).toInt ∧ (0 : Int32).toInt ≤ 0) (by decide) (by decide))
  refine my_cut (P := fun R9 a9 Q9 => ∀ (n_12 : Nat) (x_4 : Int32) (fv_5 : Nat → Int32) (ar_7 : Nat → Nat → Int32) (wd_9 : xT) (H : Heap) (locs : List Loc) (ls : Array Slot), 340 - x_4.toInt < (n_12 : Int) → (0 ≤ x_4.toInt ∧ x_4.toInt ≤ 340) → rX fv_5 → fM [13] fv_3 fv_5 → rB ar_7 → fA [36, 37] ar ar_7 → tO tA wd_9.2.1 → wd_9.2.2 = wd.2.2 → va_P (dC, dI) vwCl (wsX ob ad cA fv_5 wd_9 ar_7) H → va_S (aX ob ad s.heap.size) s.heap H locs → lv_has ls 6 [(0, .ref (ob 6)), (1, .ref (ad 1)), (2, .int sz_), (3, .int v_1), (4, .int x_4)] → W p l e R9 s m a9 below meth c H locs 0 0 Q9 (F0 m 16 ls [])) ?_ (fun hj_14 => ?_)
  · intro n_12
    induction n_12 with
    | zero => intro x_4 fv_5 ar_7 wd_9 H locs ls fu_13 i_x_4 hF_fv_5 fr_6 hA_ar_7 fa_8 to_10 tq_11; exfalso; omega
    | succ n_12 ih_12 =>
      intro x_4 fv_5 ar_7 wd_9 H locs ls fu_13 i_x_4 hF_fv_5 fr_6 hA_ar_7 fa_8 to_10 tq_11 hP hS hl
      refine lv_iload hx hb dX3_split_16 (lv_at hl 4 rfl) ?_
      refine lv_iload_n hx hb dX3_split_18 rfl (lv_at hl 3 rfl) ?_
      refine lv_icmp_ge (tgt := 91) hx hb dX3_split_19 (by decide) (fun c_15 => ?_) (fun c_15 => ?_)
      · skip
        refine lv_aload_n hx hb dX3_split_91 rfl (lv_at hl 0 rfl) ?_
        refine lv_iload_n hx hb dX3_split_92 rfl (lv_at hl 2 rfl) ?_
        refine lv_sipush (v := 300) hx hb dX3_split_93 (by decide) ?_
        refine my_cut (P := fun R9 a9 Q9 => ∀ (j_72 : Nat) (H : Heap) (locs : List Loc) (ls : Array Slot), j_72 < 32 → va_P (dC, dI) vwCl (wsX ob ad cA fv_5 wd_9 ar_7) H → va_S (aX ob ad s.heap.size) s.heap H locs → lv_has ls 6 [(3, .int v_1)] → W p l e R9 s m a9 below meth c H locs 0 0 Q9 (F0 m 108 ls [.ref (tA j_72), .ref (ob 6)])) ?_ (fun hj_73 => ?_)
        · intro j_72 H locs ls lj_72 hP hS hl
          refine lv_iload_n hx hb dX3_split_108 rfl (lv_at hl 0 rfl) ?_
          refine lv_iconst (v := 0) hx hb dX3_split_109 (by decide) ?_
          refine va_callv (va_runV (As := [.ref (tA j_72), .int v_1, .int 0]) (rest := []) ⟨hx, hb, hml, hown, hts⟩ (x_addToken l dC dI H.size ob ad cA hd fv_5 wd_9 ar_7 hF_fv_5 hA_ar_7 tA to_10 (j_72) lj_72 v_1 0) (cwV 3 hts (gV kw_4_96 kw_4_98 kw_p_3 kw_1_11 kw_4_99) rfl rfl rfl (by decide +kernel) ⟨Nat.le_of_ble_eq_true rfl, Nat.le_of_ble_eq_true rfl⟩) ⟨fun a U g mk q => ⟨q.1, ⟨q.2.1.1, q.2.1.2.1, va_K.moved (u := U) (U := U.calling g mk a) (Vm.Alike.refl U.vm) q.2.1.2.2⟩, tk_mv (U := U.calling g mk a) rfl (Vm.Alike.refl U.vm) q.2.2⟩, va_recv hK hP (ci := 4) (q0 := 6) rfl rfl, fun U hU hW => ⟨rfl, ⟨by rw [hU], by rw [hU]; exact hP, va_K.moved hW.alike hK⟩, tk_pass hE hS hU hW.alike⟩⟩ rfl rfl hl.1 rfl (lv_room (Nat.le_of_ble_eq_true rfl)) dX3_split_110 ⟨Nat.le_of_ble_eq_true rfl, Nat.le_of_ble_eq_true rfl⟩) hS (fun q _ h9 => aX_up hS q h9) (aX_up hS) (fun u t H1 locs ht _ hw hB _ hk1 hS => ?_)
          obtain ⟨fv_77, wd_78, ar_79⟩ := u
          obtain ⟨hF_fv_77, hA_ar_79, fr_80, fa_81, p_75, p_76, -⟩ := hw
          have hP : va_P (dC, dI) vwCl (wsX ob ad cA fv_77 wd_78 ar_79) H1 := by have h9 := hB.1; rw [ht] at h9; exact h9
          have fr_80 : fM [13] fv_5 fv_77 := fr_80
          have fa_81 : fA [36, 37] ar_7 ar_79 := fa_81
          have p_75 : tO tA wd_78.2.1 := p_75
          have p_76 : wd_78.2.2 = wd_9.2.2 := p_76
          generalize H1 = H at hP hS ⊢
          exact W.vret hx hb hr (fun t ht hW => ⟨⟨(fv_77, wd_78, ar_79), rfl, ⟨hF_fv_77, hA_ar_79, (fM_call (fM_call (fM_put (fM_rf [13] _) efv_3 (by decide)) fr_6 (by decide)) fr_80 (by decide)), (fA_call (fA_call (fA_rf [36, 37] _) fa_8 (by decide)) fa_81 (by decide)), (show tO tA wd_78.2.1 from p_75), (show wd_78.2.2 = wd.2.2 from (p_76.trans tq_11)), trivial⟩, ⟨by rw [ht]; exact hP, va_K.moved hW.alike hK⟩⟩, hS.F ht⟩) hS.2.2 dX3_split_113
        · skip
          refine lv_icmp_le (tgt := 105) hx hb dX3_split_96 (by decide) (fun c_69 => ?_) (fun c_69 => ?_)
          · skip
            have i_70 : 0 ≤ sz_.toInt ∧ sz_.toInt ≤ 300 := iv_le1 h_sz_ (⟨by decide, by decide⟩ : (300 : Int) ≤ (300 : Int32).toInt ∧ (300 : Int32).toInt ≤ 300) c_69
            refine va_gets hx hb (hE.1 30 (by decide)).1 hS hown (htg (.fieldLink RX3 62 "WalkingTown$Token" "END" "LWalkingTown$Token;") kw_4_100) (fun _ h9 => h9) dX3_split_105 ?_
            exact hj_73 30 _ _ ls (by decide) hP hS (lv_sub hl [3] rfl)
          · skip
            have i_71 : 301 ≤ sz_.toInt ∧ sz_.toInt ≤ 340 := iv_lt2 (⟨by decide, by decide⟩ : (300 : Int) ≤ (300 : Int32).toInt ∧ (300 : Int32).toInt ≤ 300) h_sz_ (Int32.not_le.mp c_69)
            refine va_gets hx hb (hE.1 31 (by decide)).1 hS hown (htg (.fieldLink RX3 119 "WalkingTown$Token" "WRONG" "LWalkingTown$Token;") kw_4_35) (fun _ h9 => h9) dX3_split_99 ?_
            refine lv_goto (tgt := 108) hx hb dX3_split_102 (by decide) ?_
            exact hj_73 31 _ _ ls (by decide) hP hS (lv_sub hl [3] rfl)
      · skip
        have i_16 : 0 ≤ x_4.toInt ∧ x_4.toInt ≤ 299 := iv_lt1 i_x_4 i_2 (Int32.not_le.mp c_15)
        have i_17 : 1 ≤ v_1.toInt ∧ v_1.toInt ≤ 300 := iv_lt2 i_x_4 i_2 (Int32.not_le.mp c_15)
        refine lv_aload_n hx hb dX3_split_22 rfl (lv_at hl 1 rfl) ?_
        refine lv_iload hx hb dX3_split_23 (lv_at hl 4 rfl) ?_
        refine lX_1 hx hb hK hP (iv_in i_16 (by decide) (by decide)) dX3_split_25 (fun v_18 ev_18 => ?_)
        have i_19 : 0 ≤ v_18.toInt ∧ v_18.toInt ≤ 255 := ev_18 ▸ hA_ar_7 1 _
        refine lv_bipush (v := 32) hx hb dX3_split_26 (by decide) ?_
        refine lv_icmp_eq (tgt := 40) hx hb dX3_split_28 (by decide) (fun c_20 => ?_) (fun c_20 => ?_)
        · skip
          have i_21 : 32 ≤ v_18.toInt ∧ v_18.toInt ≤ 32 := iv_eq1 (⟨by decide, by decide⟩ : (32 : Int) ≤ (32 : Int32).toInt ∧ (32 : Int32).toInt ≤ 32) c_20
          obtain ⟨v_22, ev_22⟩ : ∃ z : Int32, z = x_4 + 1 := ⟨_, rfl⟩
          refine lv_iinc (v := v_22) (lv' := [(4, .int v_22), (0, .ref (ob 6)), (1, .ref (ad 1)), (2, .int sz_), (3, .int v_1)]) hx hb dX3_split_40 hl (k := 4) rfl (by rw [ev_22]; rfl) (by decide) rfl (fun ls hl => ?_)
          have t_23 : v_22.toInt = x_4.toInt + 1 ∧ 1 ≤ v_22.toInt ∧ v_22.toInt ≤ 300 := iv_addc ev_22 i_16 (by decide) (by decide) (by decide)
          refine lv_goto (tgt := 16) hx hb dX3_split_43 (by decide) ?_
          exact ih_12 v_22 fv_5 ar_7 wd_9 _ _ ls (by omega) (iv_w t_23.2 (by decide) (by decide)) hF_fv_5 (fM_call (fM_rf [13] _) fr_6 (by decide)) hA_ar_7 (fA_call (fA_rf [36, 37] _) fa_8 (by decide)) to_10 tq_11 hP hS (lv_sub hl [1, 2, 3, 4, 0] rfl)
        · skip
          refine lv_aload_n hx hb dX3_split_31 rfl (lv_at hl 1 rfl) ?_
          refine lv_iload hx hb dX3_split_32 (lv_at hl 4 rfl) ?_
          refine lX_1 hx hb hK hP (iv_in i_16 (by decide) (by decide)) dX3_split_34 (fun v_25 ev_25 => ?_)
          obtain rfl : v_18 = v_25 := ev_18.trans ev_25.symm
          refine lv_bipush (v := 10) hx hb dX3_split_35 (by decide) ?_
          refine lv_icmp_ne (tgt := 46) hx hb dX3_split_37 (by decide) (fun c_26 => ?_) (fun c_26 => ?_)
          · skip
            refine lv_iload hx hb dX3_split_46 (lv_at hl 4 rfl) ?_
            refine lv_iconst (v := 1) hx hb dX3_split_48 (by decide) ?_
            refine lv_iadd hx hb dX3_split_49 ?_
            refine lv_topi (fun v_27 ev_27 => ?_)
            have t_28 : v_27.toInt = x_4.toInt + 1 ∧ 1 ≤ v_27.toInt ∧ v_27.toInt ≤ 300 := iv_addc ev_27 i_16 (by decide) (by decide) (by decide)
            refine lv_aload_n hx hb dX3_split_50 rfl (lv_at hl 1 rfl) ?_
            refine lv_iload hx hb dX3_split_51 (lv_at hl 4 rfl) ?_
            refine lv_iload_n hx hb dX3_split_53 rfl (lv_at hl 2 rfl) ?_
            refine va_calli (va_runS (As := [.ref (ad 1), .int x_4, .int sz_]) (rest := [.int v_27]) ⟨hx, hb, hml, hown, hts⟩ (x_endOfWord l dC dI H.size ob ad cA hd fv_5 wd_9 ar_7 hF_fv_5 hA_ar_7 x_4 sz_ (iv_w i_16 (by decide) (by decide)) h_sz_) (va_cwS 3 hts (gS kw_4_18 kw_4_19 kw_1_11 kw_4_20) rfl rfl rfl (by decide +kernel) ⟨Nat.le_of_ble_eq_true rfl, Nat.le_of_ble_eq_true rfl⟩) ⟨fun a U g mk q => ⟨q.1, q.2.1, q.2.2.1, va_K.moved (u := U) (U := U.calling g mk a) (Vm.Alike.refl U.vm) q.2.2.2⟩, fun U hU hW => ⟨rfl, by rw [hU], by rw [hU]; exact hP, va_K.moved hW.alike hK⟩⟩ rfl rfl hl.1 rfl (lv_room (Nat.le_of_ble_eq_true rfl)) dX3_split_54 ⟨Nat.le_of_ble_eq_true rfl, Nat.le_of_ble_eq_true rfl⟩) hS (fun q _ h9 => aX_up hS q h9) (aX_up hS) (fun r_30 u t H1 locs ht _ hw hB _ hk1 hS => ?_)
            obtain ⟨fv_32, wd_33, ar_34⟩ := u
            obtain ⟨hF_fv_32, hA_ar_34, fr_35, fa_36, wf_37, p_31, -⟩ := hw
            have wf_37 : wd_33.2 = wd_9.2 := wf_37
            have hP : va_P (dC, dI) vwCl (wsX ob ad cA fv_32 wd_33 ar_34) H1 := by have h9 := hB.1; rw [ht] at h9; exact h9
            have fr_35 : fM [] fv_5 fv_32 := fr_35
            have fa_36 : fA [] ar_7 ar_34 := fa_36
            generalize H1 = H at hP hS ⊢
            refine va_mmax hx hb (hml.trans hl.1.symm) hown (htg (.methodLink RX3 105 Lib.Math.max.name) kw_4_27) (htg (.static Lib.Math.max.name) kw_4_28) (htg (.initialized RJ9) kw_1_16) (htg (.code Lib.Math.max.name Lib.Math.max.code 2 (some .int)) kw_4_29) (Nat.le_of_ble_eq_true rfl) (Nat.le_of_ble_eq_true rfl) (Nat.le_of_ble_eq_true rfl) (Nat.le_of_ble_eq_true rfl) dX3_split_57 ?_
            refine lv_topi (fun v_38 ev_38 => ?_)
            have i_39 : 1 ≤ v_38.toInt ∧ v_38.toInt ≤ 340 := ix_max ev_38 t_28.2 p_31 (by decide) (by decide)
            have k_40 := ix_maxl ev_38
            refine lv_istore (lv' := [(5, .int v_38), (0, .ref (ob 6)), (1, .ref (ad 1)), (2, .int sz_), (3, .int v_1), (4, .int x_4)]) hx hb dX3_split_60 hl (by decide) rfl (fun ls hl => ?_)
            refine lv_aload_n hx hb dX3_split_62 rfl (lv_at hl 1 rfl) ?_
            refine lv_aload_n hx hb dX3_split_63 rfl (lv_at hl 2 rfl) ?_
            refine lv_iload hx hb dX3_split_64 (lv_at hl 5 rfl) ?_
            refine lv_iload hx hb dX3_split_66 (lv_at hl 0 rfl) ?_
            refine va_callr (va_runS (As := [.ref (ad 1), .int x_4, .int v_38]) (rest := [.ref (ob 6)]) ⟨hx, hb, hml, hown, hts⟩ (x_classify l dC dI H.size ob ad cA hd fv_32 wd_33 ar_34 hF_fv_32 hA_ar_34 tkK tkV tkL tkB tkT tA (tO_w to_10 wf_37) x_4 v_38 i_16 (iv_w i_39 (by decide) (by decide))) (va_cwS 3 hts (gS kw_4_30 kw_4_31 kw_1_11 kw_4_32) rfl rfl rfl (by decide +kernel) ⟨Nat.le_of_ble_eq_true rfl, Nat.le_of_ble_eq_true rfl⟩) ⟨fun a U g mk q => ⟨q.1, ⟨q.2.1.1, q.2.1.2.1, va_K.moved (u := U) (U := U.calling g mk a) (Vm.Alike.refl U.vm) q.2.1.2.2⟩, tk_mv (U := U.calling g mk a) rfl (Vm.Alike.refl U.vm) q.2.2.1, tx_mv (U := U.calling g mk a) rfl (Vm.Alike.refl U.vm) q.2.2.2⟩, fun U hU hW => ⟨rfl, ⟨by rw [hU], by rw [hU]; exact hP, va_K.moved hW.alike hK⟩, tk_pass hE hS hU hW.alike, tx_pass hX hS hU hW.alike⟩⟩ rfl rfl hl.1 rfl (lv_room (Nat.le_of_ble_eq_true rfl)) dX3_split_68 ⟨Nat.le_of_ble_eq_true rfl, Nat.le_of_ble_eq_true rfl⟩) hS (fun q _ h9 => aX_up hS q h9) (aX_up hS) (fun u r_41 t H1 locs ht _ hw hB _ hk1 hS => ?_)
            obtain ⟨fv_42, wd_43, ar_44⟩ := u
            obtain ⟨hF_fv_42, hA_ar_44, fr_45, fa_46, wf_47, -⟩ := hw
            have wf_47 : wd_43.2 = wd_33.2 := wf_47
            have hP : va_P (dC, dI) vwCl (wsX ob ad cA fv_42 wd_43 ar_44) H1 := by have h9 := hB.1.1; rw [ht] at h9; exact h9
            have fr_45 : fM [] fv_32 fv_42 := fr_45
            have fa_46 : fA [] ar_34 ar_44 := fa_46
            generalize H1 = H at hP hS ⊢
            obtain ⟨j_48, lj_48, rj_48⟩ := hB.2
            subst rj_48
            refine lv_iload hx hb dX3_split_71 (lv_at hl 5 rfl) ?_
            refine lv_aload_n hx hb dX3_split_73 rfl (lv_at hl 2 rfl) ?_
            refine lv_iload hx hb dX3_split_74 (lv_at hl 5 rfl) ?_
            refine lv_iload hx hb dX3_split_76 (lv_at hl 0 rfl) ?_
            refine va_calli (va_runS (As := [.ref (ad 1), .int x_4, .int v_38]) (rest := [.int x_4, .ref (tA j_48), .ref (ob 6)]) ⟨hx, hb, hml, hown, hts⟩ (x_numberAt l dC dI H.size ob ad cA hd fv_42 wd_43 ar_44 hF_fv_42 hA_ar_44 x_4 v_38 (iv_w i_16 (by decide) (by decide)) (iv_w i_39 (by decide) (by decide))) (va_cwS 3 hts (gS kw_4_93 kw_4_94 kw_1_11 kw_4_95) rfl rfl rfl (by decide +kernel) ⟨Nat.le_of_ble_eq_true rfl, Nat.le_of_ble_eq_true rfl⟩) ⟨fun a U g mk q => ⟨q.1, q.2.1, q.2.2.1, va_K.moved (u := U) (U := U.calling g mk a) (Vm.Alike.refl U.vm) q.2.2.2⟩, fun U hU hW => ⟨rfl, by rw [hU], by rw [hU]; exact hP, va_K.moved hW.alike hK⟩⟩ rfl rfl hl.1 rfl (lv_room (Nat.le_of_ble_eq_true rfl)) dX3_split_78 ⟨Nat.le_of_ble_eq_true rfl, Nat.le_of_ble_eq_true rfl⟩) hS (fun q _ h9 => aX_up hS q h9) (aX_up hS) (fun r_49 u t H1 locs ht _ hw hB _ hk1 hS => ?_)
            obtain ⟨fv_50, wd_51, ar_52⟩ := u
            obtain ⟨hF_fv_50, hA_ar_52, fr_53, fa_54, wf_55, -⟩ := hw
            have wf_55 : wd_51.2 = wd_43.2 := wf_55
            have hP : va_P (dC, dI) vwCl (wsX ob ad cA fv_50 wd_51 ar_52) H1 := by have h9 := hB.1; rw [ht] at h9; exact h9
            have fr_53 : fM [] fv_42 fv_50 := fr_53
            have fa_54 : fA [] ar_44 ar_52 := fa_54
            generalize H1 = H at hP hS ⊢
            refine va_callv (va_runV (As := [.ref (tA j_48), .int x_4, .int r_49]) (rest := []) ⟨hx, hb, hml, hown, hts⟩ (x_addToken l dC dI H.size ob ad cA hd fv_50 wd_51 ar_52 hF_fv_50 hA_ar_52 tA (tO_w to_10 (wf_55.trans (wf_47.trans wf_37))) (j_48) lj_48 x_4 r_49) (cwV 3 hts (gV kw_4_96 kw_4_98 kw_p_3 kw_1_11 kw_4_99) rfl rfl rfl (by decide +kernel) ⟨Nat.le_of_ble_eq_true rfl, Nat.le_of_ble_eq_true rfl⟩) ⟨fun a U g mk q => ⟨q.1, ⟨q.2.1.1, q.2.1.2.1, va_K.moved (u := U) (U := U.calling g mk a) (Vm.Alike.refl U.vm) q.2.1.2.2⟩, tk_mv (U := U.calling g mk a) rfl (Vm.Alike.refl U.vm) q.2.2⟩, va_recv hK hP (ci := 4) (q0 := 6) rfl rfl, fun U hU hW => ⟨rfl, ⟨by rw [hU], by rw [hU]; exact hP, va_K.moved hW.alike hK⟩, tk_pass hE hS hU hW.alike⟩⟩ rfl rfl hl.1 rfl (lv_room (Nat.le_of_ble_eq_true rfl)) dX3_split_81 ⟨Nat.le_of_ble_eq_true rfl, Nat.le_of_ble_eq_true rfl⟩) hS (fun q _ h9 => aX_up hS q h9) (aX_up hS) (fun u t H1 locs ht _ hw hB _ hk1 hS => ?_)
            obtain ⟨fv_59, wd_60, ar_61⟩ := u
            obtain ⟨hF_fv_59, hA_ar_61, fr_62, fa_63, p_57, p_58, -⟩ := hw
            have hP : va_P (dC, dI) vwCl (wsX ob ad cA fv_59 wd_60 ar_61) H1 := by have h9 := hB.1; rw [ht] at h9; exact h9
            have fr_62 : fM [13] fv_50 fv_59 := fr_62
            have fa_63 : fA [36, 37] ar_52 ar_61 := fa_63
            have p_57 : tO tA wd_60.2.1 := p_57
            have p_58 : wd_60.2.2 = wd_51.2.2 := p_58
            generalize H1 = H at hP hS ⊢
            refine lv_iload hx hb dX3_split_84 (lv_at hl 0 rfl) ?_
            refine lv_istore (lv' := [(4, .int v_38), (5, .int v_38), (0, .ref (ob 6)), (1, .ref (ad 1)), (2, .int sz_), (3, .int v_1)]) hx hb dX3_split_86 hl (by decide) rfl (fun ls hl => ?_)
            refine lv_goto (tgt := 16) hx hb dX3_split_88 (by decide) ?_
            exact ih_12 v_38 fv_59 ar_61 wd_60 _ _ ls (by omega) (iv_w i_39 (by decide) (by decide)) hF_fv_59 (fM_call (fM_call (fM_call (fM_call (fM_call (fM_rf [13] _) fr_6 (by decide)) fr_35 (by decide)) fr_45 (by decide)) fr_53 (by decide)) fr_62 (by decide)) hA_ar_61 (fA_call (fA_call (fA_call (fA_call (fA_call (fA_rf [36, 37] _) fa_8 (by decide)) fa_36 (by decide)) fa_46 (by decide)) fa_54 (by decide)) fa_63 (by decide)) p_57 (p_58.trans ((congrArg (fun z => z.2) (wf_55.trans (wf_47.trans wf_37))).trans tq_11)) hP hS (lv_sub hl [2, 3, 4, 5, 0] rfl)
          · skip
            have i_65 : 10 ≤ v_18.toInt ∧ v_18.toInt ≤ 10 := iv_eq1 (⟨by decide, by decide⟩ : (10 : Int) ≤ (10 : Int32).toInt ∧ (10 : Int32).toInt ≤ 10) c_26
            obtain ⟨v_66, ev_66⟩ : ∃ z : Int32, z = x_4 + 1 := ⟨_, rfl⟩
            refine lv_iinc (v := v_66) (lv' := [(4, .int v_66), (0, .ref (ob 6)), (1, .ref (ad 1)), (2, .int sz_), (3, .int v_1)]) hx hb dX3_split_40 hl (k := 4) rfl (by rw [ev_66]; rfl) (by decide) rfl (fun ls hl => ?_)
            have t_67 : v_66.toInt = x_4.toInt + 1 ∧ 1 ≤ v_66.toInt ∧ v_66.toInt ≤ 300 := iv_addc ev_66 i_16 (by decide) (by decide) (by decide)
            refine lv_goto (tgt := 16) hx hb dX3_split_43 (by decide) ?_
            exact ih_12 v_66 fv_5 ar_7 wd_9 _ _ ls (by omega) (iv_w t_67.2 (by decide) (by decide)) hF_fv_5 (fM_call (fM_rf [13] _) fr_6 (by decide)) hA_ar_7 (fA_call (fA_rf [36, 37] _) fa_8 (by decide)) to_10 tq_11 hP hS (lv_sub hl [1, 2, 3, 4, 0] rfl)
  · skip
    have z_83 : (0 : Int32).toInt = 0 := by decide
    exact hj_14 341 0 fv_3 ar wd _ _ ls (by first | decide | omega) (iv_w (⟨by decide, by decide⟩ : (0 : Int) ≤ (0 : Int32).toInt ∧ (0 : Int32).toInt ≤ 0) (by decide) (by decide)) hF_fv_3 (fM_rf [13] _) hA_ar (fA_rf [36, 37] _) hto rfl hP hS (lv_sub hl [2, 3, 4, 1, 0] rfl)

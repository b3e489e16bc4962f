theorem dX3_addToken_0 : decode cX3_addToken 0 = .ok (.aload_n 0, 1) := by decide +kernel
theorem dX3_addToken_1 : decode cX3_addToken 1 = .ok (.getfield 98, 3) := by decide +kernel
theorem dX3_addToken_4 : decode cX3_addToken 4 = .ok (.aload_n 0, 1) := by decide +kernel
theorem dX3_addToken_5 : decode cX3_addToken 5 = .ok (.getfield 11, 3) := by decide +kernel
theorem dX3_addToken_8 : decode cX3_addToken 8 = .ok (.arraylength, 1) := by decide +kernel
theorem dX3_addToken_9 : decode cX3_addToken 9 = .ok (.if_icmp .ge 43, 3) := by decide +kernel
theorem dX3_addToken_12 : decode cX3_addToken 12 = .ok (.aload_n 0, 1) := by decide +kernel
theorem dX3_addToken_13 : decode cX3_addToken 13 = .ok (.getfield 11, 3) := by decide +kernel
theorem dX3_addToken_16 : decode cX3_addToken 16 = .ok (.aload_n 0, 1) := by decide +kernel
theorem dX3_addToken_17 : decode cX3_addToken 17 = .ok (.getfield 98, 3) := by decide +kernel
theorem dX3_addToken_20 : decode cX3_addToken 20 = .ok (.aload_n 1, 1) := by decide +kernel
theorem dX3_addToken_21 : decode cX3_addToken 21 = .ok (.aastore, 1) := by decide +kernel
theorem dX3_addToken_22 : decode cX3_addToken 22 = .ok (.aload_n 0, 1) := by decide +kernel
theorem dX3_addToken_23 : decode cX3_addToken 23 = .ok (.getfield 15, 3) := by decide +kernel
theorem dX3_addToken_26 : decode cX3_addToken 26 = .ok (.aload_n 0, 1) := by decide +kernel
theorem dX3_addToken_27 : decode cX3_addToken 27 = .ok (.getfield 98, 3) := by decide +kernel
theorem dX3_addToken_30 : decode cX3_addToken 30 = .ok (.iload_n 2, 1) := by decide +kernel
theorem dX3_addToken_31 : decode cX3_addToken 31 = .ok (.iastore, 1) := by decide +kernel
theorem dX3_addToken_32 : decode cX3_addToken 32 = .ok (.aload_n 0, 1) := by decide +kernel
theorem dX3_addToken_33 : decode cX3_addToken 33 = .ok (.getfield 19, 3) := by decide +kernel
theorem dX3_addToken_36 : decode cX3_addToken 36 = .ok (.aload_n 0, 1) := by decide +kernel
theorem dX3_addToken_37 : decode cX3_addToken 37 = .ok (.getfield 98, 3) := by decide +kernel
theorem dX3_addToken_40 : decode cX3_addToken 40 = .ok (.iload_n 3, 1) := by decide +kernel
theorem dX3_addToken_41 : decode cX3_addToken 41 = .ok (.iastore, 1) := by decide +kernel
theorem dX3_addToken_42 : decode cX3_addToken 42 = .ok (.aload_n 0, 1) := by decide +kernel
theorem dX3_addToken_43 : decode cX3_addToken 43 = .ok (.dup, 1) := by decide +kernel
theorem dX3_addToken_44 : decode cX3_addToken 44 = .ok (.getfield 98, 3) := by decide +kernel
theorem dX3_addToken_47 : decode cX3_addToken 47 = .ok (.iconst 1, 1) := by decide +kernel
theorem dX3_addToken_48 : decode cX3_addToken 48 = .ok (.iadd, 1) := by decide +kernel
theorem dX3_addToken_49 : decode cX3_addToken 49 = .ok (.putfield 98, 3) := by decide +kernel
theorem dX3_addToken_52 : decode cX3_addToken 52 = .ok (.return_, 1) := by decide +kernel
set_option maxRecDepth 20000 in
theorem nX_74 {p : Program} {l : Launch} {e : Env} {R : Room} {s : State} {m : MethodId} {args : Array Value} {below : List Frame} {meth : Method} {c : Code} {H : Heap} {locs : List Loc} {cells slots : Nat} {Q : State → Prop} {cc : ByteArray} {pc : Nat} {ls : Array Slot} {rest : List Value} {dC : Nat → ClassId} {dI : Nat → Nat → Nat} {ob ad : Nat → Nat} {cA : Nat → ClassId} {fv : Nat → Int32} {wd : xT} {ar : Nat → Nat → Int32}  (hx : p.tables.exec = Jvm.exec) (hb : c.code = cc) (hK : va_K (dC, dI) vwCl (tyX cA) s) (hP : va_P (dC, dI) vwCl (wsX ob ad cA fv wd ar) H) (d : decode cc pc = .ok (.arraylength, 1)) (kk : W p l e R s m args below meth c H locs cells slots Q (F0 m (pc + 1) ls (.int 301 :: rest))) : W p l e R s m args below meth c H locs cells slots Q (F0 m pc ls (.ref (ad 74) :: rest)) := va_alen hx hb hK hP 85 73 rfl rfl (v := 301) rfl d kk
set_option maxHeartbeats 4000000 in
set_option maxRecDepth 100000 in
theorem x_nextE (l : Launch) (dC : Nat → ClassId) (dI : Nat → Nat → Nat) (sz : Nat) (ob ad : Nat → Nat) (cA : Nat → ClassId) (hd : dX ob ad) (fv : Nat → Int32) (wd : xT) (ar : Nat → Nat → Int32) (hF_fv : rX fv) (hA_ar : rB ar) (n : Int32) : Met l yX11_next (.code yX11_next cX11_next 2 (some .int) :: lw_good) ({ frames := 2, cells := 0, slots := 0, locals := 40 }) (va_Pc [.ref (ob 0), .int n] (prX dC dI ob ad cA fv wd ar sz)) (va_Qi (fun (r : Int32) (u : xS) => rX u.1 ∧ rB u.2.2 ∧ fM [7] fv u.1 ∧ fA [] ar u.2.2 ∧ u.2.1.2 = wd.2 ∧ ((r = -1 ∧ u.1 7 = fv 7 ∧ (n.toInt < 0 ∨ 199 < n.toInt ∨ 199 < (fv 7).toInt + n.toInt)) ∨ (r = fv 7 + n ∧ u.1 7 = fv 7 + n ∧ ¬ (n.toInt < 0 ∨ 199 < n.toInt ∨ 199 < (fv 7).toInt + n.toInt))) ∧ True) (enX dC dI ob ad cA) (aX ob ad sz)) 0 0 (aX ob ad sz) := by
  refine Met.ofW (cc := cX11_next) (maxL := 2) (ret := (some .int)) (by decide) rfl ?_
  intro p e s m args below meth c s₁ B hml hv
  obtain ⟨rfl, hsz, hP, hK⟩ := hv
  have hx := B.exec
  have hb := B.bytes
  have hr := B.returns
  have hts := atoms_spec (ws := (.code yX11_next cX11_next 2 (some .int) :: lw_good)) B.pre
  have htg : ∀ w ∈ lw_good, w.before _ s = true := fun w hw => hts w (List.mem_cons_of_mem _ hw)
  have hown : s.vm.findClass RX11 = some m.cls := findClass_of_methodNamed B.named
  have hlocks := B.notSynchronized
  subst hsz
  have hS : va_S (aX ob ad s.heap.size) s.heap s.heap [] := va_S.rf
  have hl := lv_entry ([.ref (ob 0), .int n]) (n := 2) (Nat.le_of_ble_eq_true rfl)
  rw [lg_entry_eq]
  generalize (lg_sl ([.ref (ob 0), .int n]) ++ List.replicate (2 - (lg_sl ([.ref (ob 0), .int n])).length) Slot.unset).toArray = ls at hl ⊢
  have hl : lv_has ls 2 [(0, .ref (ob 0)), (1, .int n)] := hl
  refine lv_iload_n hx hb dX11_next_0 rfl (lv_at hl 1 rfl) ?_
  refine lv_if_lt (tgt := 26) hx hb dX11_next_1 (by decide) (fun c_1 => ?_) (fun c_1 => ?_)
  · skip
    have i_2 : (-2147483648) ≤ n.toInt ∧ n.toInt ≤ (-1) := iv_lt1 (iv_any n) (⟨by decide, by decide⟩ : (0 : Int) ≤ (0 : Int32).toInt ∧ (0 : Int32).toInt ≤ 0) c_1
    refine lv_iconst (v := (-1)) hx hb dX11_next_26 (by decide) ?_
    have z_3 : ((-1) : Int32).toInt = (-1) := by decide
    exact W.iret (v := (-1)) hx hb hr (fun t ht hW => ⟨⟨(-1), (fv, wd, ar), rfl, ⟨hF_fv, hA_ar, (fM_rf [7] _), (fA_rf [] _), rfl, (show (((-1) : Int32) = -1 ∧ fv 7 = fv 7 ∧ (n.toInt < 0 ∨ 199 < n.toInt ∨ 199 < (fv 7).toInt + n.toInt)) ∨ (((-1) : Int32) = fv 7 + n ∧ fv 7 = fv 7 + n ∧ ¬ (n.toInt < 0 ∨ 199 < n.toInt ∨ 199 < (fv 7).toInt + n.toInt)) from Or.inl ⟨rfl, rfl, by omega⟩), trivial⟩, ⟨by rw [ht]; exact hP, va_K.moved hW.alike hK⟩⟩, hS.F ht⟩) hS.2.2 dX11_next_27
  · skip
    have i_4 : 0 ≤ n.toInt ∧ n.toInt ≤ 2147483647 := iv_le2 (⟨by decide, by decide⟩ : (0 : Int) ≤ (0 : Int32).toInt ∧ (0 : Int32).toInt ≤ 0) (iv_any n) (Int32.not_lt.mp c_1)
    refine lv_iload_n hx hb dX11_next_4 rfl (lv_at hl 1 rfl) ?_
    refine lv_sipush (v := 199) hx hb dX11_next_5 (by decide) ?_
    refine lv_icmp_gt (tgt := 26) hx hb dX11_next_8 (by decide) (fun c_5 => ?_) (fun c_5 => ?_)
    · skip
      have i_6 : 200 ≤ n.toInt ∧ n.toInt ≤ 2147483647 := iv_lt2 (⟨by decide, by decide⟩ : (199 : Int) ≤ (199 : Int32).toInt ∧ (199 : Int32).toInt ≤ 199) i_4 c_5
      refine lv_iconst (v := (-1)) hx hb dX11_next_26 (by decide) ?_
      have z_7 : ((-1) : Int32).toInt = (-1) := by decide
      exact W.iret (v := (-1)) hx hb hr (fun t ht hW => ⟨⟨(-1), (fv, wd, ar), rfl, ⟨hF_fv, hA_ar, (fM_rf [7] _), (fA_rf [] _), rfl, (show (((-1) : Int32) = -1 ∧ fv 7 = fv 7 ∧ (n.toInt < 0 ∨ 199 < n.toInt ∨ 199 < (fv 7).toInt + n.toInt)) ∨ (((-1) : Int32) = fv 7 + n ∧ fv 7 = fv 7 + n ∧ ¬ (n.toInt < 0 ∨ 199 < n.toInt ∨ 199 < (fv 7).toInt + n.toInt)) from Or.inl ⟨rfl, rfl, by omega⟩), trivial⟩, ⟨by rw [ht]; exact hP, va_K.moved hW.alike hK⟩⟩, hS.F ht⟩) hS.2.2 dX11_next_27
    · skip
      have i_8 : 0 ≤ n.toInt ∧ n.toInt ≤ 199 := iv_le1 i_4 (⟨by decide, by decide⟩ : (199 : Int) ≤ (199 : Int32).toInt ∧ (199 : Int32).toInt ≤ 199) (Int32.not_lt.mp c_5)
      refine lv_aload_n hx hb dX11_next_11 rfl (lv_at hl 0 rfl) ?_
      refine gX_X11_16 hx hb htg hown hK hP dX11_next_12 ?_
      refine gX_X11_57 hx hb htg hown hK hP dX11_next_15 ?_
      have i_9 : 0 ≤ (fv 7).toInt ∧ (fv 7).toInt ≤ 199 := hF_fv 7
      refine lv_iload_n hx hb dX11_next_18 rfl (lv_at hl 1 rfl) ?_
      refine lv_iadd hx hb dX11_next_19 ?_
      refine lv_topi (fun v_10 ev_10 => ?_)
      have t_11 : v_10.toInt = (fv 7).toInt + n.toInt ∧ 0 ≤ v_10.toInt ∧ v_10.toInt ≤ 398 := iv_add ev_10 i_9 i_8 (by decide) (by decide)
      refine lv_sipush (v := 199) hx hb dX11_next_20 (by decide) ?_
      refine lv_icmp_le (tgt := 28) hx hb dX11_next_23 (by decide) (fun c_13 => ?_) (fun c_13 => ?_)
      · skip
        have i_14 : 0 ≤ v_10.toInt ∧ v_10.toInt ≤ 199 := iv_le1 t_11.2 (⟨by decide, by decide⟩ : (199 : Int) ≤ (199 : Int32).toInt ∧ (199 : Int32).toInt ≤ 199) c_13
        refine lv_aload_n hx hb dX11_next_28 rfl (lv_at hl 0 rfl) ?_
        refine gX_X11_16 hx hb htg hown hK hP dX11_next_29 ?_
        refine lv_dup hx hb dX11_next_32 rfl ?_
        refine gX_X11_57 hx hb htg hown hK hP dX11_next_33 ?_
        refine lv_iload_n hx hb dX11_next_36 rfl (lv_at hl 1 rfl) ?_
        refine lv_iadd hx hb dX11_next_37 ?_
        refine my_ti (y := v_10) ev_10.symm ?_
        refine pX_X11_57 hx hb htg hown hK hP hS hd dX11_next_38 (fun H locs fv_15 efv_15 hP hS => ?_)
        have hF_fv_15 : rX fv_15 := rX_put hF_fv efv_15 i_14
        refine lv_aload_n hx hb dX11_next_41 rfl (lv_at hl 0 rfl) ?_
        refine gX_X11_16 hx hb htg hown hK hP dX11_next_42 ?_
        refine gX_X11_57 hx hb htg hown hK hP dX11_next_45 ?_
        refine my_ti (y := v_10) ((congrFun efv_15 7)) ?_
        exact W.iret (v := v_10) hx hb hr (fun t ht hW => ⟨⟨v_10, (fv_15, wd, ar), rfl, ⟨hF_fv_15, hA_ar, (fM_put (fM_rf [7] _) efv_15 (by decide)), (fA_rf [] _), rfl, (show (v_10 = -1 ∧ fv_15 7 = fv 7 ∧ (n.toInt < 0 ∨ 199 < n.toInt ∨ 199 < (fv 7).toInt + n.toInt)) ∨ (v_10 = fv 7 + n ∧ fv_15 7 = fv 7 + n ∧ ¬ (n.toInt < 0 ∨ 199 < n.toInt ∨ 199 < (fv 7).toInt + n.toInt)) from Or.inr ⟨ev_10, ((congrFun efv_15 7)).trans ev_10, by omega⟩), trivial⟩, ⟨by rw [ht]; exact hP, va_K.moved hW.alike hK⟩⟩, hS.F ht⟩) hS.2.2 dX11_next_48
      · skip
        have i_16 : 200 ≤ v_10.toInt ∧ v_10.toInt ≤ 398 := iv_lt2 (⟨by decide, by decide⟩ : (199 : Int) ≤ (199 : Int32).toInt ∧ (199 : Int32).toInt ≤ 199) t_11.2 (Int32.not_le.mp c_13)
        refine lv_iconst (v := (-1)) hx hb dX11_next_26 (by decide) ?_
        have z_17 : ((-1) : Int32).toInt = (-1) := by decide
        exact W.iret (v := (-1)) hx hb hr (fun t ht hW => ⟨⟨(-1), (fv, wd, ar), rfl, ⟨hF_fv, hA_ar, (fM_rf [7] _), (fA_rf [] _), rfl, (show (((-1) : Int32) = -1 ∧ fv 7 = fv 7 ∧ (n.toInt < 0 ∨ 199 < n.toInt ∨ 199 < (fv 7).toInt + n.toInt)) ∨ (((-1) : Int32) = fv 7 + n ∧ fv 7 = fv 7 + n ∧ ¬ (n.toInt < 0 ∨ 199 < n.toInt ∨ 199 < (fv 7).toInt + n.toInt)) from Or.inl ⟨rfl, rfl, by omega⟩), trivial⟩, ⟨by rw [ht]; exact hP, va_K.moved hW.alike hK⟩⟩, hS.F ht⟩) hS.2.2 dX11_next_27

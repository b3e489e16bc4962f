def wt_ru (r : Int32) (g1 g : Nat → Int32) (n x : Int32) : Prop := (r.toInt < 0 ∧ g1 = g) ∨ (0 ≤ r.toInt ∧ g1 = upd g n.toInt.toNat x)
theorem wt_ru_det {r : Int32} {g1 g2 g : Nat → Int32} {n x : Int32} (h1 : wt_ru r g1 g n x) (h2 : wt_ru r g2 g n x) : g1 = g2 := by
  rcases h1 with ⟨a9, b9⟩ | ⟨a9, b9⟩ <;> rcases h2 with ⟨a8, b8⟩ | ⟨a8, b8⟩
  · exact b9.trans b8.symm
  · omega
  · omega
  · exact b9.trans b8.symm
def wt_rz (r : Int32) (g1 g : Nat → Int32) (n x : Int32) : Prop := (r = 0 ∧ g1 = g) ∨ (r = 1 ∧ g1 = upd g n.toInt.toNat x)
theorem wt_rz_det {r : Int32} {g1 g2 g : Nat → Int32} {n x : Int32} (h1 : wt_rz r g1 g n x) (h2 : wt_rz r g2 g n x) : g1 = g2 := by
  rcases h1 with ⟨a9, b9⟩ | ⟨a9, b9⟩ <;> rcases h2 with ⟨a8, b8⟩ | ⟨a8, b8⟩
  · exact b9.trans b8.symm
  · exact absurd (a9.symm.trans a8) (by decide)
  · exact absurd (a8.symm.trans a9) (by decide)
  · exact b9.trans b8.symm
set_option maxHeartbeats 4000000 in
set_option maxRecDepth 100000 in
theorem x_wjoinR (l : Launch) (dC : Nat → ClassId) (dI : Nat → Nat → Nat) (sz : Nat) (ob ad : Nat → Nat) (cA : Nat → ClassId) (hd : dX ob ad) (fv : Nat → Int32) (wd : xT) (ar : Nat → Nat → Int32) (hF_fv : rX fv) (hA_ar : rB ar) (a : Int32) (bs : Int32) (b : Int32) (d : Int32) (h_bs : 0 ≤ bs.toInt ∧ bs.toInt ≤ 7) : Met l yX10_join (.code yX10_join cX10_join 5 (some .int) :: lw_good) ({ frames := 2, cells := 0, slots := 0, locals := 40 }) (va_Pc [.ref (ob 4), .int a, .int bs, .int b, .int d] (prX dC dI ob ad cA fv wd ar sz)) (va_Qi (fun (r : Int32) (u : xS) => rX u.1 ∧ rB u.2.2 ∧ fM [11] fv u.1 ∧ fA [20, 21, 22, 23, 27] ar u.2.2 ∧ u.2.1.2 = wd.2 ∧ ((r = -1 ∧ u.1 11 = fv 11 ∧ (20 ≤ (fv 11).toInt ∨ a.toInt < 0 ∨ 2 < a.toInt ∨ b.toInt < 1 ∨ 9 < b.toInt)) ∨ (r.toInt = (fv 11).toInt ∧ (u.1 11).toInt = (fv 11).toInt + 1 ∧ ¬ (20 ≤ (fv 11).toInt ∨ a.toInt < 0 ∨ 2 < a.toInt ∨ b.toInt < 1 ∨ 9 < b.toInt))) ∧ (wt_ru r (u.2.2 20) (ar 20) (fv 11) a) ∧ (wt_ru r (u.2.2 21) (ar 21) (fv 11) bs) ∧ (wt_ru r (u.2.2 22) (ar 22) (fv 11) b) ∧ (wt_ru r (u.2.2 23) (ar 23) (fv 11) d) ∧ True) (enX dC dI ob ad cA) (aX ob ad sz)) 0 0 (aX ob ad sz) := by
  refine Met.ofW (cc := cX10_join) (maxL := 5) (ret := (some .int)) (by decide) rfl ?_
  intro p e s m args below meth c s₁ B hml hv
  obtain ⟨rfl, hsz, hP, hK⟩ := hv
  have hx := B.exec
  have hb := B.bytes
  have hr := B.returns
  have hts := atoms_spec (ws := (.code yX10_join cX10_join 5 (some .int) :: lw_good)) B.pre
  have htg : ∀ w ∈ lw_good, w.before _ s = true := fun w hw => hts w (List.mem_cons_of_mem _ hw)
  have hown : s.vm.findClass RX10 = some m.cls := findClass_of_methodNamed B.named
  have hlocks := B.notSynchronized
  subst hsz
  have hS : va_S (aX ob ad s.heap.size) s.heap s.heap [] := va_S.rf
  have hl := lv_entry ([.ref (ob 4), .int a, .int bs, .int b, .int d]) (n := 5) (Nat.le_of_ble_eq_true rfl)
  rw [lg_entry_eq]
  generalize (lg_sl ([.ref (ob 4), .int a, .int bs, .int b, .int d]) ++ List.replicate (5 - (lg_sl ([.ref (ob 4), .int a, .int bs, .int b, .int d])).length) Slot.unset).toArray = ls at hl ⊢
  have hl : lv_has ls 5 [(0, .ref (ob 4)), (1, .int a), (2, .int bs), (3, .int b), (4, .int d)] := hl
  refine lv_aload_n hx hb dX10_join_0 rfl (lv_at hl 0 rfl) ?_
  refine gX_X10_36 hx hb htg hown hK hP dX10_join_1 ?_
  have i_1 : 0 ≤ (fv 11).toInt ∧ (fv 11).toInt ≤ 20 := hF_fv 11
  refine lv_bipush (v := 20) hx hb dX10_join_4 (by decide) ?_
  refine lv_icmp_ge (tgt := 29) hx hb dX10_join_6 (by decide) (fun c_2 => ?_) (fun c_2 => ?_)
  · skip
    have i_3 : 20 ≤ (fv 11).toInt ∧ (fv 11).toInt ≤ 20 := iv_le2 (⟨by decide, by decide⟩ : (20 : Int) ≤ (20 : Int32).toInt ∧ (20 : Int32).toInt ≤ 20) i_1 c_2
    refine lv_iconst (v := (-1)) hx hb dX10_join_29 (by decide) ?_
    have z_4 : ((-1) : Int32).toInt = (-1) := by decide
    exact W.iret (v := (-1)) hx hb hr (fun t ht hW => ⟨⟨(-1), (fv, wd, ar), rfl, ⟨hF_fv, hA_ar, (fM_rf [11] _), (fA_rf [20, 21, 22, 23, 27] _), rfl, (show (((-1) : Int32) = -1 ∧ fv 11 = fv 11 ∧ (20 ≤ (fv 11).toInt ∨ a.toInt < 0 ∨ 2 < a.toInt ∨ b.toInt < 1 ∨ 9 < b.toInt)) ∨ (((-1) : Int32).toInt = (fv 11).toInt ∧ (fv 11).toInt = (fv 11).toInt + 1 ∧ ¬ (20 ≤ (fv 11).toInt ∨ a.toInt < 0 ∨ 2 < a.toInt ∨ b.toInt < 1 ∨ 9 < b.toInt)) from Or.inl ⟨rfl, rfl, by omega⟩), (show wt_ru ((-1) : Int32) (ar 20) (ar 20) (fv 11) a from Or.inl ⟨by decide, rfl⟩), (show wt_ru ((-1) : Int32) (ar 21) (ar 21) (fv 11) bs from Or.inl ⟨by decide, rfl⟩), (show wt_ru ((-1) : Int32) (ar 22) (ar 22) (fv 11) b from Or.inl ⟨by decide, rfl⟩), (show wt_ru ((-1) : Int32) (ar 23) (ar 23) (fv 11) d from Or.inl ⟨by decide, rfl⟩), trivial⟩, ⟨by rw [ht]; exact hP, va_K.moved hW.alike hK⟩⟩, hS.F ht⟩) hS.2.2 dX10_join_30
  · skip
    have i_5 : 0 ≤ (fv 11).toInt ∧ (fv 11).toInt ≤ 19 := iv_lt1 i_1 (⟨by decide, by decide⟩ : (20 : Int) ≤ (20 : Int32).toInt ∧ (20 : Int32).toInt ≤ 20) (Int32.not_le.mp c_2)
    refine lv_iload_n hx hb dX10_join_9 rfl (lv_at hl 1 rfl) ?_
    refine lv_if_lt (tgt := 29) hx hb dX10_join_10 (by decide) (fun c_6 => ?_) (fun c_6 => ?_)
    · skip
      have i_7 : (-2147483648) ≤ a.toInt ∧ a.toInt ≤ (-1) := iv_lt1 (iv_any a) (⟨by decide, by decide⟩ : (0 : Int) ≤ (0 : Int32).toInt ∧ (0 : Int32).toInt ≤ 0) c_6
      refine lv_iconst (v := (-1)) hx hb dX10_join_29 (by decide) ?_
      have z_8 : ((-1) : Int32).toInt = (-1) := by decide
      exact W.iret (v := (-1)) hx hb hr (fun t ht hW => ⟨⟨(-1), (fv, wd, ar), rfl, ⟨hF_fv, hA_ar, (fM_rf [11] _), (fA_rf [20, 21, 22, 23, 27] _), rfl, (show (((-1) : Int32) = -1 ∧ fv 11 = fv 11 ∧ (20 ≤ (fv 11).toInt ∨ a.toInt < 0 ∨ 2 < a.toInt ∨ b.toInt < 1 ∨ 9 < b.toInt)) ∨ (((-1) : Int32).toInt = (fv 11).toInt ∧ (fv 11).toInt = (fv 11).toInt + 1 ∧ ¬ (20 ≤ (fv 11).toInt ∨ a.toInt < 0 ∨ 2 < a.toInt ∨ b.toInt < 1 ∨ 9 < b.toInt)) from Or.inl ⟨rfl, rfl, by omega⟩), (show wt_ru ((-1) : Int32) (ar 20) (ar 20) (fv 11) a from Or.inl ⟨by decide, rfl⟩), (show wt_ru ((-1) : Int32) (ar 21) (ar 21) (fv 11) bs from Or.inl ⟨by decide, rfl⟩), (show wt_ru ((-1) : Int32) (ar 22) (ar 22) (fv 11) b from Or.inl ⟨by decide, rfl⟩), (show wt_ru ((-1) : Int32) (ar 23) (ar 23) (fv 11) d from Or.inl ⟨by decide, rfl⟩), trivial⟩, ⟨by rw [ht]; exact hP, va_K.moved hW.alike hK⟩⟩, hS.F ht⟩) hS.2.2 dX10_join_30
    · skip
      have i_9 : 0 ≤ a.toInt ∧ a.toInt ≤ 2147483647 := iv_le2 (⟨by decide, by decide⟩ : (0 : Int) ≤ (0 : Int32).toInt ∧ (0 : Int32).toInt ≤ 0) (iv_any a) (Int32.not_lt.mp c_6)
      refine lv_iload_n hx hb dX10_join_13 rfl (lv_at hl 1 rfl) ?_
      refine lv_iconst (v := 2) hx hb dX10_join_14 (by decide) ?_
      refine lv_icmp_gt (tgt := 29) hx hb dX10_join_15 (by decide) (fun c_10 => ?_) (fun c_10 => ?_)
      · skip
        have i_11 : 3 ≤ a.toInt ∧ a.toInt ≤ 2147483647 := iv_lt2 (⟨by decide, by decide⟩ : (2 : Int) ≤ (2 : Int32).toInt ∧ (2 : Int32).toInt ≤ 2) i_9 c_10
        refine lv_iconst (v := (-1)) hx hb dX10_join_29 (by decide) ?_
        have z_12 : ((-1) : Int32).toInt = (-1) := by decide
        exact W.iret (v := (-1)) hx hb hr (fun t ht hW => ⟨⟨(-1), (fv, wd, ar), rfl, ⟨hF_fv, hA_ar, (fM_rf [11] _), (fA_rf [20, 21, 22, 23, 27] _), rfl, (show (((-1) : Int32) = -1 ∧ fv 11 = fv 11 ∧ (20 ≤ (fv 11).toInt ∨ a.toInt < 0 ∨ 2 < a.toInt ∨ b.toInt < 1 ∨ 9 < b.toInt)) ∨ (((-1) : Int32).toInt = (fv 11).toInt ∧ (fv 11).toInt = (fv 11).toInt + 1 ∧ ¬ (20 ≤ (fv 11).toInt ∨ a.toInt < 0 ∨ 2 < a.toInt ∨ b.toInt < 1 ∨ 9 < b.toInt)) from Or.inl ⟨rfl, rfl, by omega⟩), (show wt_ru ((-1) : Int32) (ar 20) (ar 20) (fv 11) a from Or.inl ⟨by decide, rfl⟩), (show wt_ru ((-1) : Int32) (ar 21) (ar 21) (fv 11) bs from Or.inl ⟨by decide, rfl⟩), (show wt_ru ((-1) : Int32) (ar 22) (ar 22) (fv 11) b from Or.inl ⟨by decide, rfl⟩), (show wt_ru ((-1) : Int32) (ar 23) (ar 23) (fv 11) d from Or.inl ⟨by decide, rfl⟩), trivial⟩, ⟨by rw [ht]; exact hP, va_K.moved hW.alike hK⟩⟩, hS.F ht⟩) hS.2.2 dX10_join_30
      · skip
        have i_13 : 0 ≤ a.toInt ∧ a.toInt ≤ 2 := iv_le1 i_9 (⟨by decide, by decide⟩ : (2 : Int) ≤ (2 : Int32).toInt ∧ (2 : Int32).toInt ≤ 2) (Int32.not_lt.mp c_10)
        refine lv_iload_n hx hb dX10_join_18 rfl (lv_at hl 3 rfl) ?_
        refine lv_iconst (v := 1) hx hb dX10_join_19 (by decide) ?_
        refine lv_icmp_lt (tgt := 29) hx hb dX10_join_20 (by decide) (fun c_14 => ?_) (fun c_14 => ?_)
        · skip
          have i_15 : (-2147483648) ≤ b.toInt ∧ b.toInt ≤ 0 := iv_lt1 (iv_any b) (⟨by decide, by decide⟩ : (1 : Int) ≤ (1 : Int32).toInt ∧ (1 : Int32).toInt ≤ 1) c_14
          refine lv_iconst (v := (-1)) hx hb dX10_join_29 (by decide) ?_
          have z_16 : ((-1) : Int32).toInt = (-1) := by decide
          exact W.iret (v := (-1)) hx hb hr (fun t ht hW => ⟨⟨(-1), (fv, wd, ar), rfl, ⟨hF_fv, hA_ar, (fM_rf [11] _), (fA_rf [20, 21, 22, 23, 27] _), rfl, (show (((-1) : Int32) = -1 ∧ fv 11 = fv 11 ∧ (20 ≤ (fv 11).toInt ∨ a.toInt < 0 ∨ 2 < a.toInt ∨ b.toInt < 1 ∨ 9 < b.toInt)) ∨ (((-1) : Int32).toInt = (fv 11).toInt ∧ (fv 11).toInt = (fv 11).toInt + 1 ∧ ¬ (20 ≤ (fv 11).toInt ∨ a.toInt < 0 ∨ 2 < a.toInt ∨ b.toInt < 1 ∨ 9 < b.toInt)) from Or.inl ⟨rfl, rfl, by omega⟩), (show wt_ru ((-1) : Int32) (ar 20) (ar 20) (fv 11) a from Or.inl ⟨by decide, rfl⟩), (show wt_ru ((-1) : Int32) (ar 21) (ar 21) (fv 11) bs from Or.inl ⟨by decide, rfl⟩), (show wt_ru ((-1) : Int32) (ar 22) (ar 22) (fv 11) b from Or.inl ⟨by decide, rfl⟩), (show wt_ru ((-1) : Int32) (ar 23) (ar 23) (fv 11) d from Or.inl ⟨by decide, rfl⟩), trivial⟩, ⟨by rw [ht]; exact hP, va_K.moved hW.alike hK⟩⟩, hS.F ht⟩) hS.2.2 dX10_join_30
        · skip
          have i_17 : 1 ≤ b.toInt ∧ b.toInt ≤ 2147483647 := iv_le2 (⟨by decide, by decide⟩ : (1 : Int) ≤ (1 : Int32).toInt ∧ (1 : Int32).toInt ≤ 1) (iv_any b) (Int32.not_lt.mp c_14)
          refine lv_iload_n hx hb dX10_join_23 rfl (lv_at hl 3 rfl) ?_
          refine lv_bipush (v := 9) hx hb dX10_join_24 (by decide) ?_
          refine lv_icmp_le (tgt := 31) hx hb dX10_join_26 (by decide) (fun c_18 => ?_) (fun c_18 => ?_)
          · skip
            have i_19 : 1 ≤ b.toInt ∧ b.toInt ≤ 9 := iv_le1 i_17 (⟨by decide, by decide⟩ : (9 : Int) ≤ (9 : Int32).toInt ∧ (9 : Int32).toInt ≤ 9) c_18
            refine lv_aload_n hx hb dX10_join_31 rfl (lv_at hl 0 rfl) ?_
            refine gX_X10_11 hx hb htg hown hK hP dX10_join_32 ?_
            refine lv_aload_n hx hb dX10_join_35 rfl (lv_at hl 0 rfl) ?_
            refine gX_X10_36 hx hb htg hown hK hP dX10_join_36 ?_
            refine lv_iload_n hx hb dX10_join_39 rfl (lv_at hl 1 rfl) ?_
            refine sX_20 hx hb hK hP hS hd (iv_in i_5 (by decide) (by decide)) dX10_join_40 (fun H locs ar_20 ear_20 hP hS => ?_)
            have hA_ar_20 : rB ar_20 := rB_put hA_ar ear_20 (iv_any _)
            refine lv_aload_n hx hb dX10_join_41 rfl (lv_at hl 0 rfl) ?_
            refine gX_X10_15 hx hb htg hown hK hP dX10_join_42 ?_
            refine lv_aload_n hx hb dX10_join_45 rfl (lv_at hl 0 rfl) ?_
            refine gX_X10_36 hx hb htg hown hK hP dX10_join_46 ?_
            refine lv_iload_n hx hb dX10_join_49 rfl (lv_at hl 2 rfl) ?_
            refine sX_21 hx hb hK hP hS hd (iv_in i_5 (by decide) (by decide)) dX10_join_50 (fun H locs ar_21 ear_21 hP hS => ?_)
            have hA_ar_21 : rB ar_21 := rB_put hA_ar_20 ear_21 h_bs
            refine lv_aload_n hx hb dX10_join_51 rfl (lv_at hl 0 rfl) ?_
            refine gX_X10_18 hx hb htg hown hK hP dX10_join_52 ?_
            refine lv_aload_n hx hb dX10_join_55 rfl (lv_at hl 0 rfl) ?_
            refine gX_X10_36 hx hb htg hown hK hP dX10_join_56 ?_
            refine lv_iload_n hx hb dX10_join_59 rfl (lv_at hl 3 rfl) ?_
            refine sX_22 hx hb hK hP hS hd (iv_in i_5 (by decide) (by decide)) dX10_join_60 (fun H locs ar_22 ear_22 hP hS => ?_)
            have hA_ar_22 : rB ar_22 := rB_put hA_ar_21 ear_22 (iv_w i_19 (by decide) (by decide))
            refine lv_aload_n hx hb dX10_join_61 rfl (lv_at hl 0 rfl) ?_
            refine gX_X10_21 hx hb htg hown hK hP dX10_join_62 ?_
            refine lv_aload_n hx hb dX10_join_65 rfl (lv_at hl 0 rfl) ?_
            refine gX_X10_36 hx hb htg hown hK hP dX10_join_66 ?_
            refine lv_iload hx hb dX10_join_69 (lv_at hl 4 rfl) ?_
            refine sX_23 hx hb hK hP hS hd (iv_in i_5 (by decide) (by decide)) dX10_join_71 (fun H locs ar_23 ear_23 hP hS => ?_)
            have hA_ar_23 : rB ar_23 := rB_put hA_ar_22 ear_23 (iv_any _)
            refine lv_aload_n hx hb dX10_join_72 rfl (lv_at hl 0 rfl) ?_
            refine gX_X10_33 hx hb htg hown hK hP dX10_join_73 ?_
            refine lv_aload_n hx hb dX10_join_76 rfl (lv_at hl 0 rfl) ?_
            refine gX_X10_36 hx hb htg hown hK hP dX10_join_77 ?_
            refine lv_iload_n hx hb dX10_join_80 rfl (lv_at hl 2 rfl) ?_
            refine sX_27 hx hb hK hP hS hd (iv_in i_5 (by decide) (by decide)) dX10_join_81 (fun H locs ar_24 ear_24 hP hS => ?_)
            have hA_ar_24 : rB ar_24 := rB_put hA_ar_23 ear_24 (iv_any _)
            refine lv_aload_n hx hb dX10_join_82 rfl (lv_at hl 0 rfl) ?_
            refine lv_dup hx hb dX10_join_83 rfl ?_
            refine gX_X10_36 hx hb htg hown hK hP dX10_join_84 ?_
            refine lv_iconst (v := 1) hx hb dX10_join_87 (by decide) ?_
            refine lv_iadd hx hb dX10_join_88 ?_
            refine lv_topi (fun v_25 ev_25 => ?_)
            have t_26 : v_25.toInt = (fv 11).toInt + 1 ∧ 1 ≤ v_25.toInt ∧ v_25.toInt ≤ 20 := iv_addc ev_25 i_5 (by decide) (by decide) (by decide)
            refine pX_X10_36 hx hb htg hown hK hP hS hd dX10_join_89 (fun H locs fv_28 efv_28 hP hS => ?_)
            have hF_fv_28 : rX fv_28 := rX_put hF_fv efv_28 (iv_w t_26.2 (by decide) (by decide))
            refine lv_aload_n hx hb dX10_join_92 rfl (lv_at hl 0 rfl) ?_
            refine gX_X10_36 hx hb htg hown hK hP dX10_join_93 ?_
            refine my_ti (y := v_25) ((congrFun efv_28 11)) ?_
            refine lv_iconst (v := 1) hx hb dX10_join_96 (by decide) ?_
            refine lv_isub hx hb dX10_join_97 ?_
            refine lv_topi (fun v_29 ev_29 => ?_)
            have t_30 : v_29.toInt = v_25.toInt - 1 ∧ 0 ≤ v_29.toInt ∧ v_29.toInt ≤ 19 := iv_subc ev_29 t_26.2 (by decide) (by decide) (by decide)
            exact W.iret (v := v_29) hx hb hr (fun t ht hW => ⟨⟨v_29, (fv_28, wd, ar_24), rfl, ⟨hF_fv_28, hA_ar_24, (fM_put (fM_rf [11] _) efv_28 (by decide)), (fA_put (fA_put (fA_put (fA_put (fA_put (fA_rf [20, 21, 22, 23, 27] _) ear_20 (by decide)) ear_21 (by decide)) ear_22 (by decide)) ear_23 (by decide)) ear_24 (by decide)), rfl, (show (v_29 = -1 ∧ fv_28 11 = fv 11 ∧ (20 ≤ (fv 11).toInt ∨ a.toInt < 0 ∨ 2 < a.toInt ∨ b.toInt < 1 ∨ 9 < b.toInt)) ∨ (v_29.toInt = (fv 11).toInt ∧ (fv_28 11).toInt = (fv 11).toInt + 1 ∧ ¬ (20 ≤ (fv 11).toInt ∨ a.toInt < 0 ∨ 2 < a.toInt ∨ b.toInt < 1 ∨ 9 < b.toInt)) from Or.inr ⟨by omega, by rw [show fv_28 11 = v_25 from (congrFun efv_28 11)]; omega, by omega⟩), (show wt_ru v_29 (ar_24 20) (ar 20) (fv 11) a from by have : (fv_28 11).toInt = v_25.toInt := congrArg Int32.toInt (show fv_28 11 = v_25 from congrFun efv_28 11); exact Or.inr ⟨by omega, by rw [show ar_24 20 = ar_20 20 from ((fA_put (fA_put (fA_put (fA_put (fA_rf [21, 22, 23, 27] _) ear_21 (by decide)) ear_22 (by decide)) ear_23 (by decide)) ear_24 (by decide)) 20 rfl)]; rw [ear_20]; show upd (ar 20) (Int32.toNatClampNeg (fv 11)) a = _; exact congrArg (fun z9 => upd (ar 20) z9 a) (show (fv 11).toInt.toNat = (fv 11).toInt.toNat from by omega)⟩), (show wt_ru v_29 (ar_24 21) (ar 21) (fv 11) bs from by have : (fv_28 11).toInt = v_25.toInt := congrArg Int32.toInt (show fv_28 11 = v_25 from congrFun efv_28 11); exact Or.inr ⟨by omega, by rw [show ar_24 21 = ar_21 21 from ((fA_put (fA_put (fA_put (fA_rf [22, 23, 27] _) ear_22 (by decide)) ear_23 (by decide)) ear_24 (by decide)) 21 rfl)]; rw [ear_21]; show upd (ar_20 21) (Int32.toNatClampNeg (fv 11)) bs = _; rw [show ar_20 21 = ar 21 from ((fA_put (fA_rf [20] _) ear_20 (by decide)) 21 rfl)]; exact congrArg (fun z9 => upd (ar 21) z9 bs) (show (fv 11).toInt.toNat = (fv 11).toInt.toNat from by omega)⟩), (show wt_ru v_29 (ar_24 22) (ar 22) (fv 11) b from by have : (fv_28 11).toInt = v_25.toInt := congrArg Int32.toInt (show fv_28 11 = v_25 from congrFun efv_28 11); exact Or.inr ⟨by omega, by rw [show ar_24 22 = ar_22 22 from ((fA_put (fA_put (fA_rf [23, 27] _) ear_23 (by decide)) ear_24 (by decide)) 22 rfl)]; rw [ear_22]; show upd (ar_21 22) (Int32.toNatClampNeg (fv 11)) b = _; rw [show ar_21 22 = ar 22 from ((fA_put (fA_put (fA_rf [20, 21] _) ear_20 (by decide)) ear_21 (by decide)) 22 rfl)]; exact congrArg (fun z9 => upd (ar 22) z9 b) (show (fv 11).toInt.toNat = (fv 11).toInt.toNat from by omega)⟩), (show wt_ru v_29 (ar_24 23) (ar 23) (fv 11) d from by have : (fv_28 11).toInt = v_25.toInt := congrArg Int32.toInt (show fv_28 11 = v_25 from congrFun efv_28 11); exact Or.inr ⟨by omega, by rw [show ar_24 23 = ar_23 23 from ((fA_put (fA_rf [27] _) ear_24 (by decide)) 23 rfl)]; rw [ear_23]; show upd (ar_22 23) (Int32.toNatClampNeg (fv 11)) d = _; rw [show ar_22 23 = ar 23 from ((fA_put (fA_put (fA_put (fA_rf [20, 21, 22] _) ear_20 (by decide)) ear_21 (by decide)) ear_22 (by decide)) 23 rfl)]; exact congrArg (fun z9 => upd (ar 23) z9 d) (show (fv 11).toInt.toNat = (fv 11).toInt.toNat from by omega)⟩), trivial⟩, ⟨by rw [ht]; exact hP, va_K.moved hW.alike hK⟩⟩, hS.F ht⟩) hS.2.2 dX10_join_98
          · skip
            have i_32 : 10 ≤ b.toInt ∧ b.toInt ≤ 2147483647 := iv_lt2 (⟨by decide, by decide⟩ : (9 : Int) ≤ (9 : Int32).toInt ∧ (9 : Int32).toInt ≤ 9) i_17 (Int32.not_le.mp c_18)
            refine lv_iconst (v := (-1)) hx hb dX10_join_29 (by decide) ?_
            have z_33 : ((-1) : Int32).toInt = (-1) := by decide
            exact W.iret (v := (-1)) hx hb hr (fun t ht hW => ⟨⟨(-1), (fv, wd, ar), rfl, ⟨hF_fv, hA_ar, (fM_rf [11] _), (fA_rf [20, 21, 22, 23, 27] _), rfl, (show (((-1) : Int32) = -1 ∧ fv 11 = fv 11 ∧ (20 ≤ (fv 11).toInt ∨ a.toInt < 0 ∨ 2 < a.toInt ∨ b.toInt < 1 ∨ 9 < b.toInt)) ∨ (((-1) : Int32).toInt = (fv 11).toInt ∧ (fv 11).toInt = (fv 11).toInt + 1 ∧ ¬ (20 ≤ (fv 11).toInt ∨ a.toInt < 0 ∨ 2 < a.toInt ∨ b.toInt < 1 ∨ 9 < b.toInt)) from Or.inl ⟨rfl, rfl, by omega⟩), (show wt_ru ((-1) : Int32) (ar 20) (ar 20) (fv 11) a from Or.inl ⟨by decide, rfl⟩), (show wt_ru ((-1) : Int32) (ar 21) (ar 21) (fv 11) bs from Or.inl ⟨by decide, rfl⟩), (show wt_ru ((-1) : Int32) (ar 22) (ar 22) (fv 11) b from Or.inl ⟨by decide, rfl⟩), (show wt_ru ((-1) : Int32) (ar 23) (ar 23) (fv 11) d from Or.inl ⟨by decide, rfl⟩), trivial⟩, ⟨by rw [ht]; exact hP, va_K.moved hW.alike hK⟩⟩, hS.F ht⟩) hS.2.2 dX10_join_30
set_option maxHeartbeats 4000000 in
set_option maxRecDepth 100000 in
theorem x_wheelR (l : Launch) (dC : Nat → ClassId) (dI : Nat → Nat → Nat) (sz : Nat) (ob ad : Nat → Nat) (cA : Nat → ClassId) (hd : dX ob ad) (fv : Nat → Int32) (wd : xT) (ar : Nat → Nat → Int32) (hF_fv : rX fv) (hA_ar : rB ar) (a : Int32) (b : Int32) (v : Int32) (d : Int32) : Met l yX11_wheel (.code yX11_wheel cX11_wheel 5 (some .int) :: lw_good) ({ frames := 3, cells := 0, slots := 0, locals := 64 }) (va_Pc [.ref (ob 0), .int a, .int b, .int v, .int d] (prX dC dI ob ad cA fv wd ar sz)) (va_Qi (fun (r : Int32) (u : xS) => rX u.1 ∧ rB u.2.2 ∧ fM [11] fv u.1 ∧ fA [20, 21, 22, 23, 27] ar u.2.2 ∧ u.2.1.2 = wd.2 ∧ (ps_wheel r (u.1 11) (fv 11) (fv 4) a b v d) ∧ (wt_ru r (u.2.2 20) (ar 20) (fv 11) a) ∧ (wt_ru r (u.2.2 21) (ar 21) (fv 11) b) ∧ (wt_ru r (u.2.2 22) (ar 22) (fv 11) v) ∧ (wt_ru r (u.2.2 23) (ar 23) (fv 11) d) ∧ True) (enX dC dI ob ad cA) (aX ob ad sz)) 0 0 (aX ob ad sz) := by
  refine Met.ofW (cc := cX11_wheel) (maxL := 5) (ret := (some .int)) (by decide) rfl ?_
  intro p e s m args below meth c s₁ B hml hv
  obtain ⟨rfl, hsz, hP, hK⟩ := hv
  have hx := B.exec
  have hb := B.bytes
  have hr := B.returns
  have hts := atoms_spec (ws := (.code yX11_wheel cX11_wheel 5 (some .int) :: lw_good)) B.pre
  have htg : ∀ w ∈ lw_good, w.before _ s = true := fun w hw => hts w (List.mem_cons_of_mem _ hw)
  have hown : s.vm.findClass RX11 = some m.cls := findClass_of_methodNamed B.named
  have hlocks := B.notSynchronized
  subst hsz
  have hS : va_S (aX ob ad s.heap.size) s.heap s.heap [] := va_S.rf
  have hl := lv_entry ([.ref (ob 0), .int a, .int b, .int v, .int d]) (n := 5) (Nat.le_of_ble_eq_true rfl)
  rw [lg_entry_eq]
  generalize (lg_sl ([.ref (ob 0), .int a, .int b, .int v, .int d]) ++ List.replicate (5 - (lg_sl ([.ref (ob 0), .int a, .int b, .int v, .int d])).length) Slot.unset).toArray = ls at hl ⊢
  have hl : lv_has ls 5 [(0, .ref (ob 0)), (1, .int a), (2, .int b), (3, .int v), (4, .int d)] := hl
  refine lv_aload_n hx hb dX11_wheel_0 rfl (lv_at hl 0 rfl) ?_
  refine gX_X11_16 hx hb htg hown hK hP dX11_wheel_1 ?_
  refine lv_iload_n hx hb dX11_wheel_4 rfl (lv_at hl 2 rfl) ?_
  have z_1 : 0 ≤ (fv 4).toInt ∧ (fv 4).toInt ≤ 8 := hF_fv 4
  refine va_calli (va_runV (As := [.int b]) (rest := []) ⟨hx, hb, hml, hown, hts⟩ (x_isStopE l dC dI s.heap.size ob ad cA hd fv wd ar hF_fv hA_ar b) (cwV 1 hts (gV kw_3_183 kw_3_184 kw_3_185 kw_1_2 kw_3_186) rfl rfl rfl (by decide +kernel) ⟨Nat.le_of_ble_eq_true rfl, Nat.le_of_ble_eq_true rfl⟩) ⟨fun a U g mk q => ⟨q.1, q.2.1, q.2.2.1, va_K.moved (u := U) (U := U.calling g mk a) (Vm.Alike.refl U.vm) q.2.2.2⟩, va_recv hK hP (ci := 7) (q0 := 1) rfl rfl, fun U hU hW => ⟨rfl, by rw [hU], by rw [hU]; exact hP, va_K.moved hW.alike hK⟩⟩ rfl rfl hl.1 rfl (lv_room (Nat.le_of_ble_eq_true rfl)) dX11_wheel_5 ⟨Nat.le_of_ble_eq_true rfl, Nat.le_of_ble_eq_true rfl⟩) hS (fun q _ h9 => aX_up hS q h9) (aX_up hS) (fun r_2 u t H1 locs ht _ hw hB _ hk1 hS => ?_)
  obtain ⟨fv_5, wd_6, ar_7⟩ := u
  obtain ⟨hF_fv_5, hA_ar_7, fr_8, fa_9, wf_10, p_3, p_4, -⟩ := hw
  have wf_10 : wd_6.2 = wd.2 := wf_10
  have hP : va_P (dC, dI) vwCl (wsX ob ad cA fv_5 wd_6 ar_7) H1 := by have h9 := hB.1; rw [ht] at h9; exact h9
  have fr_8 : fM [] fv fv_5 := fr_8
  have fa_9 : fA [] ar ar_7 := fa_9
  generalize H1 = H at hP hS ⊢
  rcases p_4 with ⟨rfl, p_4⟩ | ⟨rfl, p_4⟩
  · skip
    have q_11 : b.toInt < 0 ∨ (fv 4).toInt ≤ b.toInt := p_4
    refine lv_if_eq (tgt := 19) hx hb dX11_wheel_8 (by decide) (fun c_12 => ?_) (fun c_12 => ?_)
    · skip
      refine lv_iconst (v := (-1)) hx hb dX11_wheel_19 (by decide) ?_
      have z_13 : ((-1) : Int32).toInt = (-1) := by decide
      exact W.iret (v := (-1)) hx hb hr (fun t ht hW => ⟨⟨(-1), (fv_5, wd_6, ar_7), rfl, ⟨hF_fv_5, hA_ar_7, (fM_call (fM_rf [11] _) fr_8 (by decide)), (fA_call (fA_rf [20, 21, 22, 23, 27] _) fa_9 (by decide)), wf_10, (show ps_wheel ((-1) : Int32) (fv_5 11) (fv 11) (fv 4) a b v d from Or.inl ⟨rfl, (fr_8 11 rfl), by omega⟩), (show wt_ru ((-1) : Int32) (ar_7 20) (ar 20) (fv 11) a from Or.inl ⟨by decide, ((fA_call (fA_rf [] _) fa_9 (by decide)) 20 rfl)⟩), (show wt_ru ((-1) : Int32) (ar_7 21) (ar 21) (fv 11) b from Or.inl ⟨by decide, ((fA_call (fA_rf [] _) fa_9 (by decide)) 21 rfl)⟩), (show wt_ru ((-1) : Int32) (ar_7 22) (ar 22) (fv 11) v from Or.inl ⟨by decide, ((fA_call (fA_rf [] _) fa_9 (by decide)) 22 rfl)⟩), (show wt_ru ((-1) : Int32) (ar_7 23) (ar 23) (fv 11) d from Or.inl ⟨by decide, ((fA_call (fA_rf [] _) fa_9 (by decide)) 23 rfl)⟩), trivial⟩, ⟨by rw [ht]; exact hP, va_K.moved hW.alike hK⟩⟩, hS.F ht⟩) hS.2.2 dX11_wheel_20
    · skip
      exact absurd c_12 (by decide)
  · skip
    have i_14 : 0 ≤ b.toInt ∧ b.toInt ≤ 2147483647 := ⟨p_4.1, (iv_any b).2⟩
    have i_15 : 0 ≤ b.toInt ∧ b.toInt ≤ 7 := ⟨i_14.1, p_4.2.1⟩
    have q_16 : b.toInt < (fv 4).toInt := p_4.2.2
    refine lv_if_eq (tgt := 19) hx hb dX11_wheel_8 (by decide) (fun c_17 => ?_) (fun c_17 => ?_)
    · skip
      exact absurd c_17 (by decide)
    · skip
      refine lv_iload hx hb dX11_wheel_11 (lv_at hl 4 rfl) ?_
      refine va_calli (va_runS (As := [.int d]) (rest := []) ⟨hx, hb, hml, hown, hts⟩ (x_isDayOrNever l H.size d) (va_cwS 1 hts (gS kw_3_187 kw_3_188 kw_1_1 kw_3_189) rfl rfl rfl (by decide +kernel) ⟨Nat.le_of_ble_eq_true rfl, Nat.le_of_ble_eq_true rfl⟩) ⟨fun a U g mk q => ⟨q.1, q.2⟩, fun U hU hW => ⟨rfl, congrArg Array.size hU⟩⟩ rfl rfl hl.1 rfl (lv_room (Nat.le_of_ble_eq_true rfl)) dX11_wheel_13 ⟨Nat.le_of_ble_eq_true rfl, Nat.le_of_ble_eq_true rfl⟩) hS (fun q _ h9 => nX_up hS q h9) (nX_up hS) (fun r_18 u t H1 locs ht _ hw hB _ hk1 hS => ?_)
      obtain ⟨p_19, p_20, -⟩ := hw
      have hP := my_keepM hP hk1
      generalize H1 = H at hP hS ⊢
      rcases p_20 with ⟨rfl, p_20⟩ | ⟨rfl, p_20⟩
      · skip
        refine lv_if_ne (tgt := 21) hx hb dX11_wheel_16 (by decide) (fun c_21 => ?_) (fun c_21 => ?_)
        · skip
          exact absurd c_21 (by decide)
        · skip
          refine lv_iconst (v := (-1)) hx hb dX11_wheel_19 (by decide) ?_
          have z_22 : ((-1) : Int32).toInt = (-1) := by decide
          exact W.iret (v := (-1)) hx hb hr (fun t ht hW => ⟨⟨(-1), (fv_5, wd_6, ar_7), rfl, ⟨hF_fv_5, hA_ar_7, (fM_call (fM_rf [11] _) fr_8 (by decide)), (fA_call (fA_rf [20, 21, 22, 23, 27] _) fa_9 (by decide)), wf_10, (show ps_wheel ((-1) : Int32) (fv_5 11) (fv 11) (fv 4) a b v d from Or.inl ⟨rfl, (fr_8 11 rfl), by omega⟩), (show wt_ru ((-1) : Int32) (ar_7 20) (ar 20) (fv 11) a from Or.inl ⟨by decide, ((fA_call (fA_rf [] _) fa_9 (by decide)) 20 rfl)⟩), (show wt_ru ((-1) : Int32) (ar_7 21) (ar 21) (fv 11) b from Or.inl ⟨by decide, ((fA_call (fA_rf [] _) fa_9 (by decide)) 21 rfl)⟩), (show wt_ru ((-1) : Int32) (ar_7 22) (ar 22) (fv 11) v from Or.inl ⟨by decide, ((fA_call (fA_rf [] _) fa_9 (by decide)) 22 rfl)⟩), (show wt_ru ((-1) : Int32) (ar_7 23) (ar 23) (fv 11) d from Or.inl ⟨by decide, ((fA_call (fA_rf [] _) fa_9 (by decide)) 23 rfl)⟩), trivial⟩, ⟨by rw [ht]; exact hP, va_K.moved hW.alike hK⟩⟩, hS.F ht⟩) hS.2.2 dX11_wheel_20
      · skip
        have i_23 : (-1) ≤ d.toInt ∧ d.toInt ≤ 2147483647 := ⟨p_20.1, (iv_any d).2⟩
        have i_24 : (-1) ≤ d.toInt ∧ d.toInt ≤ 199 := ⟨i_23.1, p_20.2⟩
        refine lv_if_ne (tgt := 21) hx hb dX11_wheel_16 (by decide) (fun c_25 => ?_) (fun c_25 => ?_)
        · skip
          refine lv_aload_n hx hb dX11_wheel_21 rfl (lv_at hl 0 rfl) ?_
          refine gX_X11_16 hx hb htg hown hK hP dX11_wheel_22 ?_
          refine gX_X11_101 hx hb htg hown hK hP dX11_wheel_25 ?_
          refine lv_iload_n hx hb dX11_wheel_28 rfl (lv_at hl 1 rfl) ?_
          refine lv_iload_n hx hb dX11_wheel_29 rfl (lv_at hl 2 rfl) ?_
          refine lv_iload_n hx hb dX11_wheel_30 rfl (lv_at hl 3 rfl) ?_
          refine lv_iload hx hb dX11_wheel_31 (lv_at hl 4 rfl) ?_
          have hk11 : (fv_5 11).toInt = (fv 11).toInt := congrArg Int32.toInt ((fr_8 11 rfl))
          have z_26 : (fv_5 11).toInt = (fv 11).toInt := congrArg Int32.toInt ((fr_8 11 rfl))
          have z_27 : 0 ≤ (fv_5 11).toInt ∧ (fv_5 11).toInt ≤ 20 := hF_fv_5 11
          refine va_calli (va_runV (As := [.int a, .int b, .int v, .int d]) (rest := []) ⟨hx, hb, hml, hown, hts⟩ (x_wjoinR l dC dI H.size ob ad cA hd fv_5 wd_6 ar_7 hF_fv_5 hA_ar_7 a b v d i_15) (cwV 4 hts (gV kw_3_190 kw_3_191 kw_3_192 kw_1_5 kw_3_193) rfl rfl rfl (by decide +kernel) ⟨Nat.le_of_ble_eq_true rfl, Nat.le_of_ble_eq_true rfl⟩) ⟨fun a U g mk q => ⟨q.1, q.2.1, q.2.2.1, va_K.moved (u := U) (U := U.calling g mk a) (Vm.Alike.refl U.vm) q.2.2.2⟩, va_recv hK hP (ci := 10) (q0 := 4) rfl rfl, fun U hU hW => ⟨rfl, by rw [hU], by rw [hU]; exact hP, va_K.moved hW.alike hK⟩⟩ rfl rfl hl.1 rfl (lv_room (Nat.le_of_ble_eq_true rfl)) dX11_wheel_33 ⟨Nat.le_of_ble_eq_true rfl, Nat.le_of_ble_eq_true rfl⟩) hS (fun q _ h9 => aX_up hS q h9) (aX_up hS) (fun r_28 u t H1 locs ht _ hw hB _ hk1 hS => ?_)
          obtain ⟨fv_34, wd_35, ar_36⟩ := u
          obtain ⟨hF_fv_34, hA_ar_36, fr_37, fa_38, wf_39, p_29, p_30, p_31, p_32, p_33, -⟩ := hw
          have wf_39 : wd_35.2 = wd_6.2 := wf_39
          have hP : va_P (dC, dI) vwCl (wsX ob ad cA fv_34 wd_35 ar_36) H1 := by have h9 := hB.1; rw [ht] at h9; exact h9
          have fr_37 : fM [11] fv_5 fv_34 := fr_37
          have fa_38 : fA [20, 21, 22, 23, 27] ar_7 ar_36 := fa_38
          have p_29 : (r_28 = -1 ∧ fv_34 11 = fv_5 11 ∧ (20 ≤ (fv_5 11).toInt ∨ a.toInt < 0 ∨ 2 < a.toInt ∨ v.toInt < 1 ∨ 9 < v.toInt)) ∨ (r_28.toInt = (fv_5 11).toInt ∧ (fv_34 11).toInt = (fv_5 11).toInt + 1 ∧ ¬ (20 ≤ (fv_5 11).toInt ∨ a.toInt < 0 ∨ 2 < a.toInt ∨ v.toInt < 1 ∨ 9 < v.toInt)) := p_29
          have p_30 : wt_ru r_28 (ar_36 20) (ar_7 20) (fv_5 11) a := p_30
          have p_31 : wt_ru r_28 (ar_36 21) (ar_7 21) (fv_5 11) b := p_31
          have p_32 : wt_ru r_28 (ar_36 22) (ar_7 22) (fv_5 11) v := p_32
          have p_33 : wt_ru r_28 (ar_36 23) (ar_7 23) (fv_5 11) d := p_33
          generalize H1 = H at hP hS ⊢
          exact W.iret (v := r_28) hx hb hr (fun t ht hW => ⟨⟨r_28, (fv_34, wd_35, ar_36), rfl, ⟨hF_fv_34, hA_ar_36, (fM_call (fM_call (fM_rf [11] _) fr_8 (by decide)) fr_37 (by decide)), (fA_call (fA_call (fA_rf [20, 21, 22, 23, 27] _) fa_9 (by decide)) fa_38 (by decide)), (wf_39.trans wf_10), (show ps_wheel r_28 (fv_34 11) (fv 11) (fv 4) a b v d from by rcases p_29 with ⟨a9, b9, c9⟩ | ⟨a9, b9, c9⟩; exact Or.inl ⟨a9, b9.trans ((fr_8 11 rfl)), by omega⟩; exact Or.inr ⟨by omega, by omega, by omega⟩), (show wt_ru r_28 (ar_36 20) (ar 20) (fv 11) a from by have h9 := p_30; rw [show ar_7 20 = ar 20 from ((fA_call (fA_rf [] _) fa_9 (by decide)) 20 rfl), show fv_5 11 = fv 11 from ((fM_call (fM_rf [] _) fr_8 (by decide)) 11 rfl)] at h9; exact h9), (show wt_ru r_28 (ar_36 21) (ar 21) (fv 11) b from by have h9 := p_31; rw [show ar_7 21 = ar 21 from ((fA_call (fA_rf [] _) fa_9 (by decide)) 21 rfl), show fv_5 11 = fv 11 from ((fM_call (fM_rf [] _) fr_8 (by decide)) 11 rfl)] at h9; exact h9), (show wt_ru r_28 (ar_36 22) (ar 22) (fv 11) v from by have h9 := p_32; rw [show ar_7 22 = ar 22 from ((fA_call (fA_rf [] _) fa_9 (by decide)) 22 rfl), show fv_5 11 = fv 11 from ((fM_call (fM_rf [] _) fr_8 (by decide)) 11 rfl)] at h9; exact h9), (show wt_ru r_28 (ar_36 23) (ar 23) (fv 11) d from by have h9 := p_33; rw [show ar_7 23 = ar 23 from ((fA_call (fA_rf [] _) fa_9 (by decide)) 23 rfl), show fv_5 11 = fv 11 from ((fM_call (fM_rf [] _) fr_8 (by decide)) 11 rfl)] at h9; exact h9), trivial⟩, ⟨by rw [ht]; exact hP, va_K.moved hW.alike hK⟩⟩, hS.F ht⟩) hS.2.2 dX11_wheel_36
        · skip
          exact absurd c_25 (by decide)
set_option maxHeartbeats 4000000 in
set_option maxRecDepth 100000 in
theorem x_insureR (l : Launch) (dC : Nat → ClassId) (dI : Nat → Nat → Nat) (sz : Nat) (ob ad : Nat → Nat) (cA : Nat → ClassId) (hd : dX ob ad) (fv : Nat → Int32) (wd : xT) (ar : Nat → Nat → Int32) (hF_fv : rX fv) (hA_ar : rB ar) (a : Int32) (b : Int32) : Met l yX11_insure (.code yX11_insure cX11_insure 3 (some .boolean) :: lw_good) ({ frames := 3, cells := 0, slots := 0, locals := 61 }) (va_Pc [.ref (ob 0), .int a, .int b] (prX dC dI ob ad cA fv wd ar sz)) (va_Qi (fun (r : Int32) (u : xS) => rX u.1 ∧ rB u.2.2 ∧ fM [] fv u.1 ∧ fA [23] ar u.2.2 ∧ u.2.1.2 = wd.2 ∧ (0 ≤ r.toInt ∧ r.toInt ≤ 1) ∧ (ps_insure r (fv 11) a b) ∧ (wt_rz r (u.2.2 23) (ar 23) a b) ∧ True) (enX dC dI ob ad cA) (aX ob ad sz)) 0 0 (aX ob ad sz) := by
  refine Met.ofW (cc := cX11_insure) (maxL := 3) (ret := (some .boolean)) (by decide) rfl ?_
  intro p e s m args below meth c s₁ B hml hv
  obtain ⟨rfl, hsz, hP, hK⟩ := hv
  have hx := B.exec
  have hb := B.bytes
  have hr := B.returns
  have hts := atoms_spec (ws := (.code yX11_insure cX11_insure 3 (some .boolean) :: lw_good)) B.pre
  have htg : ∀ w ∈ lw_good, w.before _ s = true := fun w hw => hts w (List.mem_cons_of_mem _ hw)
  have hown : s.vm.findClass RX11 = some m.cls := findClass_of_methodNamed B.named
  have hlocks := B.notSynchronized
  subst hsz
  have hS : va_S (aX ob ad s.heap.size) s.heap s.heap [] := va_S.rf
  have hl := lv_entry ([.ref (ob 0), .int a, .int b]) (n := 3) (Nat.le_of_ble_eq_true rfl)
  rw [lg_entry_eq]
  generalize (lg_sl ([.ref (ob 0), .int a, .int b]) ++ List.replicate (3 - (lg_sl ([.ref (ob 0), .int a, .int b])).length) Slot.unset).toArray = ls at hl ⊢
  have hl : lv_has ls 3 [(0, .ref (ob 0)), (1, .int a), (2, .int b)] := hl
  refine lv_aload_n hx hb dX11_insure_0 rfl (lv_at hl 0 rfl) ?_
  refine gX_X11_16 hx hb htg hown hK hP dX11_insure_1 ?_
  refine gX_X11_101 hx hb htg hown hK hP dX11_insure_4 ?_
  refine lv_iload_n hx hb dX11_insure_7 rfl (lv_at hl 1 rfl) ?_
  have z_1 : 0 ≤ (fv 11).toInt ∧ (fv 11).toInt ≤ 20 := hF_fv 11
  refine va_calli (va_runV (As := [.int a]) (rest := []) ⟨hx, hb, hml, hown, hts⟩ (x_wheels_hasE l dC dI s.heap.size ob ad cA hd fv wd ar hF_fv hA_ar a) (cwV 1 hts (gV kw_3_198 kw_3_199 kw_3_200 kw_1_5 kw_3_201) rfl rfl rfl (by decide +kernel) ⟨Nat.le_of_ble_eq_true rfl, Nat.le_of_ble_eq_true rfl⟩) ⟨fun a U g mk q => ⟨q.1, q.2.1, q.2.2.1, va_K.moved (u := U) (U := U.calling g mk a) (Vm.Alike.refl U.vm) q.2.2.2⟩, va_recv hK hP (ci := 10) (q0 := 4) rfl rfl, fun U hU hW => ⟨rfl, by rw [hU], by rw [hU]; exact hP, va_K.moved hW.alike hK⟩⟩ rfl rfl hl.1 rfl (lv_room (Nat.le_of_ble_eq_true rfl)) dX11_insure_8 ⟨Nat.le_of_ble_eq_true rfl, Nat.le_of_ble_eq_true rfl⟩) hS (fun q _ h9 => aX_up hS q h9) (aX_up hS) (fun r_2 u t H1 locs ht _ hw hB _ hk1 hS => ?_)
  obtain ⟨fv_5, wd_6, ar_7⟩ := u
  obtain ⟨hF_fv_5, hA_ar_7, fr_8, fa_9, wf_10, p_3, p_4, -⟩ := hw
  have wf_10 : wd_6.2 = wd.2 := wf_10
  have hP : va_P (dC, dI) vwCl (wsX ob ad cA fv_5 wd_6 ar_7) H1 := by have h9 := hB.1; rw [ht] at h9; exact h9
  have fr_8 : fM [] fv fv_5 := fr_8
  have fa_9 : fA [] ar ar_7 := fa_9
  generalize H1 = H at hP hS ⊢
  rcases p_4 with ⟨rfl, p_4⟩ | ⟨rfl, p_4⟩
  · skip
    have q_11 : a.toInt < 0 ∨ (fv 11).toInt ≤ a.toInt := p_4
    refine lv_if_eq (tgt := 21) hx hb dX11_insure_11 (by decide) (fun c_12 => ?_) (fun c_12 => ?_)
    · skip
      refine lv_iconst (v := 0) hx hb dX11_insure_21 (by decide) ?_
      have z_13 : (0 : Int32).toInt = 0 := by decide
      exact W.zret (v := 0) hx hb hr (by decide) (fun t ht hW => ⟨⟨0, (fv_5, wd_6, ar_7), rfl, ⟨hF_fv_5, hA_ar_7, (fM_call (fM_rf [] _) fr_8 (by decide)), (fA_call (fA_rf [23] _) fa_9 (by decide)), wf_10, (iv_w (⟨by decide, by decide⟩ : (0 : Int) ≤ (0 : Int32).toInt ∧ (0 : Int32).toInt ≤ 0) (by decide) (by decide)), (show ps_insure (0 : Int32) (fv 11) a b from Or.inl ⟨rfl, by omega⟩), (show wt_rz (0 : Int32) (ar_7 23) (ar 23) a b from Or.inl ⟨rfl, ((fA_call (fA_rf [] _) fa_9 (by decide)) 23 rfl)⟩), trivial⟩, ⟨by rw [ht]; exact hP, va_K.moved hW.alike hK⟩⟩, hS.F ht⟩) hS.2.2 dX11_insure_22
    · skip
      exact absurd c_12 (by decide)
  · skip
    have i_14 : 0 ≤ a.toInt ∧ a.toInt ≤ 2147483647 := ⟨p_4.1, (iv_any a).2⟩
    have i_15 : 0 ≤ a.toInt ∧ a.toInt ≤ 19 := ⟨i_14.1, p_4.2.1⟩
    have q_16 : a.toInt < (fv 11).toInt := p_4.2.2
    refine lv_if_eq (tgt := 21) hx hb dX11_insure_11 (by decide) (fun c_17 => ?_) (fun c_17 => ?_)
    · skip
      exact absurd c_17 (by decide)
    · skip
      refine lv_iload_n hx hb dX11_insure_14 rfl (lv_at hl 2 rfl) ?_
      refine va_calli (va_runS (As := [.int b]) (rest := []) ⟨hx, hb, hml, hown, hts⟩ (x_isDayOrNever l H.size b) (va_cwS 1 hts (gS kw_3_187 kw_3_188 kw_1_1 kw_3_189) rfl rfl rfl (by decide +kernel) ⟨Nat.le_of_ble_eq_true rfl, Nat.le_of_ble_eq_true rfl⟩) ⟨fun a U g mk q => ⟨q.1, q.2⟩, fun U hU hW => ⟨rfl, congrArg Array.size hU⟩⟩ rfl rfl hl.1 rfl (lv_room (Nat.le_of_ble_eq_true rfl)) dX11_insure_15 ⟨Nat.le_of_ble_eq_true rfl, Nat.le_of_ble_eq_true rfl⟩) hS (fun q _ h9 => nX_up hS q h9) (nX_up hS) (fun r_18 u t H1 locs ht _ hw hB _ hk1 hS => ?_)
      obtain ⟨p_19, p_20, -⟩ := hw
      have hP := my_keepM hP hk1
      generalize H1 = H at hP hS ⊢
      rcases p_20 with ⟨rfl, p_20⟩ | ⟨rfl, p_20⟩
      · skip
        refine lv_if_ne (tgt := 23) hx hb dX11_insure_18 (by decide) (fun c_21 => ?_) (fun c_21 => ?_)
        · skip
          exact absurd c_21 (by decide)
        · skip
          refine lv_iconst (v := 0) hx hb dX11_insure_21 (by decide) ?_
          have z_22 : (0 : Int32).toInt = 0 := by decide
          exact W.zret (v := 0) hx hb hr (by decide) (fun t ht hW => ⟨⟨0, (fv_5, wd_6, ar_7), rfl, ⟨hF_fv_5, hA_ar_7, (fM_call (fM_rf [] _) fr_8 (by decide)), (fA_call (fA_rf [23] _) fa_9 (by decide)), wf_10, (iv_w (⟨by decide, by decide⟩ : (0 : Int) ≤ (0 : Int32).toInt ∧ (0 : Int32).toInt ≤ 0) (by decide) (by decide)), (show ps_insure (0 : Int32) (fv 11) a b from Or.inl ⟨rfl, by omega⟩), (show wt_rz (0 : Int32) (ar_7 23) (ar 23) a b from Or.inl ⟨rfl, ((fA_call (fA_rf [] _) fa_9 (by decide)) 23 rfl)⟩), trivial⟩, ⟨by rw [ht]; exact hP, va_K.moved hW.alike hK⟩⟩, hS.F ht⟩) hS.2.2 dX11_insure_22
      · skip
        have i_23 : (-1) ≤ b.toInt ∧ b.toInt ≤ 2147483647 := ⟨p_20.1, (iv_any b).2⟩
        have i_24 : (-1) ≤ b.toInt ∧ b.toInt ≤ 199 := ⟨i_23.1, p_20.2⟩
        refine lv_if_ne (tgt := 23) hx hb dX11_insure_18 (by decide) (fun c_25 => ?_) (fun c_25 => ?_)
        · skip
          refine lv_aload_n hx hb dX11_insure_23 rfl (lv_at hl 0 rfl) ?_
          refine gX_X11_16 hx hb htg hown hK hP dX11_insure_24 ?_
          refine gX_X11_101 hx hb htg hown hK hP dX11_insure_27 ?_
          refine gX_X11_113 hx hb htg hown hK hP dX11_insure_30 ?_
          refine lv_iload_n hx hb dX11_insure_33 rfl (lv_at hl 1 rfl) ?_
          refine lv_iload_n hx hb dX11_insure_34 rfl (lv_at hl 2 rfl) ?_
          refine sX_23 hx hb hK hP hS hd (iv_in i_15 (by decide) (by decide)) dX11_insure_35 (fun H locs ar_26 ear_26 hP hS => ?_)
          have hA_ar_26 : rB ar_26 := rB_put hA_ar_7 ear_26 (iv_any _)
          refine lv_iconst (v := 1) hx hb dX11_insure_36 (by decide) ?_
          have z_27 : (1 : Int32).toInt = 1 := by decide
          exact W.zret (v := 1) hx hb hr (by decide) (fun t ht hW => ⟨⟨1, (fv_5, wd_6, ar_26), rfl, ⟨hF_fv_5, hA_ar_26, (fM_call (fM_rf [] _) fr_8 (by decide)), (fA_put (fA_call (fA_rf [23] _) fa_9 (by decide)) ear_26 (by decide)), wf_10, (iv_w (⟨by decide, by decide⟩ : (1 : Int) ≤ (1 : Int32).toInt ∧ (1 : Int32).toInt ≤ 1) (by decide) (by decide)), (show ps_insure (1 : Int32) (fv 11) a b from Or.inr ⟨rfl, by omega⟩), (show wt_rz (1 : Int32) (ar_26 23) (ar 23) a b from Or.inr ⟨rfl, by rw [ear_26]; show upd (ar_7 23) (Int32.toNatClampNeg a) b = _; rw [show ar_7 23 = ar 23 from ((fA_call (fA_rf [] _) fa_9 (by decide)) 23 rfl)]; exact congrArg (fun z9 => upd (ar 23) z9 b) (show a.toInt.toNat = a.toInt.toNat from by omega)⟩), trivial⟩, ⟨by rw [ht]; exact hP, va_K.moved hW.alike hK⟩⟩, hS.F ht⟩) hS.2.2 dX11_insure_37
        · skip
          exact absurd c_25 (by decide)
set_option maxHeartbeats 4000000 in
set_option maxRecDepth 100000 in
theorem x_tjoinR (l : Launch) (dC : Nat → ClassId) (dI : Nat → Nat → Nat) (sz : Nat) (ob ad : Nat → Nat) (cA : Nat → ClassId) (hd : dX ob ad) (fv : Nat → Int32) (wd : xT) (ar : Nat → Nat → Int32) (hF_fv : rX fv) (hA_ar : rB ar) (ww : Int32) (fr_ : Int32) (to_ : Int32) (b : Int32) (h_ww : 0 ≤ ww.toInt ∧ ww.toInt ≤ 19) (h_fr_ : 0 ≤ fr_.toInt ∧ fr_.toInt ≤ 7) (h_to_ : 0 ≤ to_.toInt ∧ to_.toInt ≤ 7) (hz : (fv 12).toInt ≤ 79) : Met l yX8_join (.code yX8_join cX8_join 5 (some .int) :: lw_good) ({ frames := 2, cells := 0, slots := 0, locals := 40 }) (va_Pc [.ref (ob 5), .int ww, .int fr_, .int to_, .int b] (prX dC dI ob ad cA fv wd ar sz)) (va_Qi (fun (r : Int32) (u : xS) => rX u.1 ∧ rB u.2.2 ∧ fM [12] fv u.1 ∧ fA [28, 29, 30, 31, 35] ar u.2.2 ∧ u.2.1.2 = wd.2 ∧ (0 ≤ r.toInt ∧ r.toInt ≤ 79) ∧ (r.toInt = (fv 12).toInt ∧ (u.1 12).toInt = (fv 12).toInt + 1) ∧ (u.2.2 28 = upd (ar 28) ((fv 12).toInt.toNat) ww) ∧ (u.2.2 29 = upd (ar 29) ((fv 12).toInt.toNat) fr_) ∧ (u.2.2 30 = upd (ar 30) ((fv 12).toInt.toNat) to_) ∧ (u.2.2 31 = upd (ar 31) ((fv 12).toInt.toNat) b) ∧ True) (enX dC dI ob ad cA) (aX ob ad sz)) 0 0 (aX ob ad sz) := by
  refine Met.ofW (cc := cX8_join) (maxL := 5) (ret := (some .int)) (by decide) rfl ?_
  intro p e s m args below meth c s₁ B hml hv
  obtain ⟨rfl, hsz, hP, hK⟩ := hv
  have hx := B.exec
  have hb := B.bytes
  have hr := B.returns
  have hts := atoms_spec (ws := (.code yX8_join cX8_join 5 (some .int) :: lw_good)) B.pre
  have htg : ∀ w ∈ lw_good, w.before _ s = true := fun w hw => hts w (List.mem_cons_of_mem _ hw)
  have hown : s.vm.findClass RX8 = some m.cls := findClass_of_methodNamed B.named
  have hlocks := B.notSynchronized
  subst hsz
  have hS : va_S (aX ob ad s.heap.size) s.heap s.heap [] := va_S.rf
  have hl := lv_entry ([.ref (ob 5), .int ww, .int fr_, .int to_, .int b]) (n := 5) (Nat.le_of_ble_eq_true rfl)
  rw [lg_entry_eq]
  generalize (lg_sl ([.ref (ob 5), .int ww, .int fr_, .int to_, .int b]) ++ List.replicate (5 - (lg_sl ([.ref (ob 5), .int ww, .int fr_, .int to_, .int b])).length) Slot.unset).toArray = ls at hl ⊢
  have hl : lv_has ls 5 [(0, .ref (ob 5)), (1, .int ww), (2, .int fr_), (3, .int to_), (4, .int b)] := hl
  have i_1 : 0 ≤ (fv 12).toInt ∧ (fv 12).toInt ≤ 79 := ⟨(hF_fv 12).1, hz⟩
  refine lv_aload_n hx hb dX8_join_0 rfl (lv_at hl 0 rfl) ?_
  refine gX_X8_11 hx hb htg hown hK hP dX8_join_1 ?_
  refine lv_aload_n hx hb dX8_join_4 rfl (lv_at hl 0 rfl) ?_
  refine gX_X8_36 hx hb htg hown hK hP dX8_join_5 ?_
  refine lv_iload_n hx hb dX8_join_8 rfl (lv_at hl 1 rfl) ?_
  refine sX_28 hx hb hK hP hS hd (iv_in i_1 (by decide) (by decide)) dX8_join_9 (fun H locs ar_2 ear_2 hP hS => ?_)
  have hA_ar_2 : rB ar_2 := rB_put hA_ar ear_2 h_ww
  refine lv_aload_n hx hb dX8_join_10 rfl (lv_at hl 0 rfl) ?_
  refine gX_X8_15 hx hb htg hown hK hP dX8_join_11 ?_
  refine lv_aload_n hx hb dX8_join_14 rfl (lv_at hl 0 rfl) ?_
  refine gX_X8_36 hx hb htg hown hK hP dX8_join_15 ?_
  refine lv_iload_n hx hb dX8_join_18 rfl (lv_at hl 2 rfl) ?_
  refine sX_29 hx hb hK hP hS hd (iv_in i_1 (by decide) (by decide)) dX8_join_19 (fun H locs ar_3 ear_3 hP hS => ?_)
  have hA_ar_3 : rB ar_3 := rB_put hA_ar_2 ear_3 h_fr_
  refine lv_aload_n hx hb dX8_join_20 rfl (lv_at hl 0 rfl) ?_
  refine gX_X8_18 hx hb htg hown hK hP dX8_join_21 ?_
  refine lv_aload_n hx hb dX8_join_24 rfl (lv_at hl 0 rfl) ?_
  refine gX_X8_36 hx hb htg hown hK hP dX8_join_25 ?_
  refine lv_iload_n hx hb dX8_join_28 rfl (lv_at hl 3 rfl) ?_
  refine sX_30 hx hb hK hP hS hd (iv_in i_1 (by decide) (by decide)) dX8_join_29 (fun H locs ar_4 ear_4 hP hS => ?_)
  have hA_ar_4 : rB ar_4 := rB_put hA_ar_3 ear_4 h_to_
  refine lv_aload_n hx hb dX8_join_30 rfl (lv_at hl 0 rfl) ?_
  refine gX_X8_21 hx hb htg hown hK hP dX8_join_31 ?_
  refine lv_aload_n hx hb dX8_join_34 rfl (lv_at hl 0 rfl) ?_
  refine gX_X8_36 hx hb htg hown hK hP dX8_join_35 ?_
  refine lv_iload hx hb dX8_join_38 (lv_at hl 4 rfl) ?_
  refine sX_31 hx hb hK hP hS hd (iv_in i_1 (by decide) (by decide)) dX8_join_40 (fun H locs ar_5 ear_5 hP hS => ?_)
  have hA_ar_5 : rB ar_5 := rB_put hA_ar_4 ear_5 (iv_any _)
  refine lv_aload_n hx hb dX8_join_41 rfl (lv_at hl 0 rfl) ?_
  refine gX_X8_33 hx hb htg hown hK hP dX8_join_42 ?_
  refine lv_aload_n hx hb dX8_join_45 rfl (lv_at hl 0 rfl) ?_
  refine gX_X8_36 hx hb htg hown hK hP dX8_join_46 ?_
  refine lv_iconst (v := (-1)) hx hb dX8_join_49 (by decide) ?_
  refine sX_35 hx hb hK hP hS hd (iv_in i_1 (by decide) (by decide)) dX8_join_50 (fun H locs ar_6 ear_6 hP hS => ?_)
  have hA_ar_6 : rB ar_6 := rB_put hA_ar_5 ear_6 (iv_any _)
  refine lv_aload_n hx hb dX8_join_51 rfl (lv_at hl 0 rfl) ?_
  refine lv_dup hx hb dX8_join_52 rfl ?_
  refine gX_X8_36 hx hb htg hown hK hP dX8_join_53 ?_
  refine lv_iconst (v := 1) hx hb dX8_join_56 (by decide) ?_
  refine lv_iadd hx hb dX8_join_57 ?_
  refine lv_topi (fun v_7 ev_7 => ?_)
  have t_8 : v_7.toInt = (fv 12).toInt + 1 ∧ 1 ≤ v_7.toInt ∧ v_7.toInt ≤ 80 := iv_addc ev_7 i_1 (by decide) (by decide) (by decide)
  refine pX_X8_36 hx hb htg hown hK hP hS hd dX8_join_58 (fun H locs fv_10 efv_10 hP hS => ?_)
  have hF_fv_10 : rX fv_10 := rX_put hF_fv efv_10 (iv_w t_8.2 (by decide) (by decide))
  refine lv_aload_n hx hb dX8_join_61 rfl (lv_at hl 0 rfl) ?_
  refine gX_X8_36 hx hb htg hown hK hP dX8_join_62 ?_
  refine my_ti (y := v_7) ((congrFun efv_10 12)) ?_
  refine lv_iconst (v := 1) hx hb dX8_join_65 (by decide) ?_
  refine lv_isub hx hb dX8_join_66 ?_
  refine lv_topi (fun v_11 ev_11 => ?_)
  have t_12 : v_11.toInt = v_7.toInt - 1 ∧ 0 ≤ v_11.toInt ∧ v_11.toInt ≤ 79 := iv_subc ev_11 t_8.2 (by decide) (by decide) (by decide)
  exact W.iret (v := v_11) hx hb hr (fun t ht hW => ⟨⟨v_11, (fv_10, wd, ar_6), rfl, ⟨hF_fv_10, hA_ar_6, (fM_put (fM_rf [12] _) efv_10 (by decide)), (fA_put (fA_put (fA_put (fA_put (fA_put (fA_rf [28, 29, 30, 31, 35] _) ear_2 (by decide)) ear_3 (by decide)) ear_4 (by decide)) ear_5 (by decide)) ear_6 (by decide)), rfl, t_12.2, (show v_11.toInt = (fv 12).toInt ∧ (fv_10 12).toInt = (fv 12).toInt + 1 from ⟨by omega, by rw [show fv_10 12 = v_7 from (congrFun efv_10 12)]; omega⟩), (show ar_6 28 = upd (ar 28) ((fv 12).toInt.toNat) ww from by have : (fv_10 12).toInt = v_7.toInt := congrArg Int32.toInt (show fv_10 12 = v_7 from congrFun efv_10 12); exact (by rw [show ar_6 28 = ar_2 28 from ((fA_put (fA_put (fA_put (fA_put (fA_rf [29, 30, 31, 35] _) ear_3 (by decide)) ear_4 (by decide)) ear_5 (by decide)) ear_6 (by decide)) 28 rfl)]; rw [ear_2]; show upd (ar 28) (Int32.toNatClampNeg (fv 12)) ww = _; exact congrArg (fun z9 => upd (ar 28) z9 ww) (show (fv 12).toInt.toNat = (fv 12).toInt.toNat from by omega))), (show ar_6 29 = upd (ar 29) ((fv 12).toInt.toNat) fr_ from by have : (fv_10 12).toInt = v_7.toInt := congrArg Int32.toInt (show fv_10 12 = v_7 from congrFun efv_10 12); exact (by rw [show ar_6 29 = ar_3 29 from ((fA_put (fA_put (fA_put (fA_rf [30, 31, 35] _) ear_4 (by decide)) ear_5 (by decide)) ear_6 (by decide)) 29 rfl)]; rw [ear_3]; show upd (ar_2 29) (Int32.toNatClampNeg (fv 12)) fr_ = _; rw [show ar_2 29 = ar 29 from ((fA_put (fA_rf [28] _) ear_2 (by decide)) 29 rfl)]; exact congrArg (fun z9 => upd (ar 29) z9 fr_) (show (fv 12).toInt.toNat = (fv 12).toInt.toNat from by omega))), (show ar_6 30 = upd (ar 30) ((fv 12).toInt.toNat) to_ from by have : (fv_10 12).toInt = v_7.toInt := congrArg Int32.toInt (show fv_10 12 = v_7 from congrFun efv_10 12); exact (by rw [show ar_6 30 = ar_4 30 from ((fA_put (fA_put (fA_rf [31, 35] _) ear_5 (by decide)) ear_6 (by decide)) 30 rfl)]; rw [ear_4]; show upd (ar_3 30) (Int32.toNatClampNeg (fv 12)) to_ = _; rw [show ar_3 30 = ar 30 from ((fA_put (fA_put (fA_rf [28, 29] _) ear_2 (by decide)) ear_3 (by decide)) 30 rfl)]; exact congrArg (fun z9 => upd (ar 30) z9 to_) (show (fv 12).toInt.toNat = (fv 12).toInt.toNat from by omega))), (show ar_6 31 = upd (ar 31) ((fv 12).toInt.toNat) b from by have : (fv_10 12).toInt = v_7.toInt := congrArg Int32.toInt (show fv_10 12 = v_7 from congrFun efv_10 12); exact (by rw [show ar_6 31 = ar_5 31 from ((fA_put (fA_rf [35] _) ear_6 (by decide)) 31 rfl)]; rw [ear_5]; show upd (ar_4 31) (Int32.toNatClampNeg (fv 12)) b = _; rw [show ar_4 31 = ar 31 from ((fA_put (fA_put (fA_put (fA_rf [28, 29, 30] _) ear_2 (by decide)) ear_3 (by decide)) ear_4 (by decide)) 31 rfl)]; exact congrArg (fun z9 => upd (ar 31) z9 b) (show (fv 12).toInt.toNat = (fv 12).toInt.toNat from by omega))), trivial⟩, ⟨by rw [ht]; exact hP, va_K.moved hW.alike hK⟩⟩, hS.F ht⟩) hS.2.2 dX8_join_67
set_option maxHeartbeats 4000000 in
set_option maxRecDepth 100000 in
theorem x_setDaysR (l : Launch) (dC : Nat → ClassId) (dI : Nat → Nat → Nat) (sz : Nat) (ob ad : Nat → Nat) (cA : Nat → ClassId) (hd : dX ob ad) (fv : Nat → Int32) (wd : xT) (ar : Nat → Nat → Int32) (hF_fv : rX fv) (hA_ar : rB ar) (kk : Int32) (b : Int32) (d : Int32) (f : Int32) (h_kk : 0 ≤ kk.toInt ∧ kk.toInt ≤ 79) : Met l yX8_setDays (.code yX8_setDays cX8_setDays 5 none :: lw_good) ({ frames := 2, cells := 0, slots := 0, locals := 40 }) (va_Pc [.ref (ob 5), .int kk, .int b, .int d, .int f] (prX dC dI ob ad cA fv wd ar sz)) (va_Qv (fun (u : xS) => rX u.1 ∧ rB u.2.2 ∧ fM [] fv u.1 ∧ fA [32, 33, 34] ar u.2.2 ∧ u.2.1.2 = wd.2 ∧ (u.2.2 32 = upd (ar 32) (kk.toInt.toNat) b) ∧ (u.2.2 33 = upd (ar 33) (kk.toInt.toNat) d) ∧ (u.2.2 34 = upd (ar 34) (kk.toInt.toNat) f) ∧ True) (enX dC dI ob ad cA) (aX ob ad sz)) 0 0 (aX ob ad sz) := by
  refine Met.ofW (cc := cX8_setDays) (maxL := 5) (ret := none) (by decide) rfl ?_
  intro p e s m args below meth c s₁ B hml hv
  obtain ⟨rfl, hsz, hP, hK⟩ := hv
  have hx := B.exec
  have hb := B.bytes
  have hr := B.returns
  have hts := atoms_spec (ws := (.code yX8_setDays cX8_setDays 5 none :: lw_good)) B.pre
  have htg : ∀ w ∈ lw_good, w.before _ s = true := fun w hw => hts w (List.mem_cons_of_mem _ hw)
  have hown : s.vm.findClass RX8 = some m.cls := findClass_of_methodNamed B.named
  have hlocks := B.notSynchronized
  subst hsz
  have hS : va_S (aX ob ad s.heap.size) s.heap s.heap [] := va_S.rf
  have hl := lv_entry ([.ref (ob 5), .int kk, .int b, .int d, .int f]) (n := 5) (Nat.le_of_ble_eq_true rfl)
  rw [lg_entry_eq]
  generalize (lg_sl ([.ref (ob 5), .int kk, .int b, .int d, .int f]) ++ List.replicate (5 - (lg_sl ([.ref (ob 5), .int kk, .int b, .int d, .int f])).length) Slot.unset).toArray = ls at hl ⊢
  have hl : lv_has ls 5 [(0, .ref (ob 5)), (1, .int kk), (2, .int b), (3, .int d), (4, .int f)] := hl
  refine lv_aload_n hx hb dX8_setDays_0 rfl (lv_at hl 0 rfl) ?_
  refine gX_X8_24 hx hb htg hown hK hP dX8_setDays_1 ?_
  refine lv_iload_n hx hb dX8_setDays_4 rfl (lv_at hl 1 rfl) ?_
  refine lv_iload_n hx hb dX8_setDays_5 rfl (lv_at hl 2 rfl) ?_
  refine sX_32 hx hb hK hP hS hd (iv_in h_kk (by decide) (by decide)) dX8_setDays_6 (fun H locs ar_1 ear_1 hP hS => ?_)
  have hA_ar_1 : rB ar_1 := rB_put hA_ar ear_1 (iv_any _)
  refine lv_aload_n hx hb dX8_setDays_7 rfl (lv_at hl 0 rfl) ?_
  refine gX_X8_27 hx hb htg hown hK hP dX8_setDays_8 ?_
  refine lv_iload_n hx hb dX8_setDays_11 rfl (lv_at hl 1 rfl) ?_
  refine lv_iload_n hx hb dX8_setDays_12 rfl (lv_at hl 3 rfl) ?_
  refine sX_33 hx hb hK hP hS hd (iv_in h_kk (by decide) (by decide)) dX8_setDays_13 (fun H locs ar_2 ear_2 hP hS => ?_)
  have hA_ar_2 : rB ar_2 := rB_put hA_ar_1 ear_2 (iv_any _)
  refine lv_aload_n hx hb dX8_setDays_14 rfl (lv_at hl 0 rfl) ?_
  refine gX_X8_30 hx hb htg hown hK hP dX8_setDays_15 ?_
  refine lv_iload_n hx hb dX8_setDays_18 rfl (lv_at hl 1 rfl) ?_
  refine lv_iload hx hb dX8_setDays_19 (lv_at hl 4 rfl) ?_
  refine sX_34 hx hb hK hP hS hd (iv_in h_kk (by decide) (by decide)) dX8_setDays_21 (fun H locs ar_3 ear_3 hP hS => ?_)
  have hA_ar_3 : rB ar_3 := rB_put hA_ar_2 ear_3 (iv_any _)
  exact W.vret hx hb hr (fun t ht hW => ⟨⟨(fv, wd, ar_3), rfl, ⟨hF_fv, hA_ar_3, (fM_rf [] _), (fA_put (fA_put (fA_put (fA_rf [32, 33, 34] _) ear_1 (by decide)) ear_2 (by decide)) ear_3 (by decide)), rfl, (show ar_3 32 = upd (ar 32) (kk.toInt.toNat) b from by exact (by rw [show ar_3 32 = ar_1 32 from ((fA_put (fA_put (fA_rf [33, 34] _) ear_2 (by decide)) ear_3 (by decide)) 32 rfl)]; rw [ear_1]; show upd (ar 32) (Int32.toNatClampNeg kk) b = _; exact congrArg (fun z9 => upd (ar 32) z9 b) (show kk.toInt.toNat = kk.toInt.toNat from by omega))), (show ar_3 33 = upd (ar 33) (kk.toInt.toNat) d from by exact (by rw [show ar_3 33 = ar_2 33 from ((fA_put (fA_rf [34] _) ear_3 (by decide)) 33 rfl)]; rw [ear_2]; show upd (ar_1 33) (Int32.toNatClampNeg kk) d = _; rw [show ar_1 33 = ar 33 from ((fA_put (fA_rf [32] _) ear_1 (by decide)) 33 rfl)]; exact congrArg (fun z9 => upd (ar 33) z9 d) (show kk.toInt.toNat = kk.toInt.toNat from by omega))), (show ar_3 34 = upd (ar 34) (kk.toInt.toNat) f from by exact (by rw [ear_3]; show upd (ar_2 34) (Int32.toNatClampNeg kk) f = _; rw [show ar_2 34 = ar 34 from ((fA_put (fA_put (fA_rf [32, 33] _) ear_1 (by decide)) ear_2 (by decide)) 34 rfl)]; exact congrArg (fun z9 => upd (ar 34) z9 f) (show kk.toInt.toNat = kk.toInt.toNat from by omega))), trivial⟩, ⟨by rw [ht]; exact hP, va_K.moved hW.alike hK⟩⟩, hS.F ht⟩) hS.2.2 dX8_setDays_22
set_option maxHeartbeats 4000000 in
set_option maxRecDepth 100000 in
theorem x_tripR (l : Launch) (dC : Nat → ClassId) (dI : Nat → Nat → Nat) (sz : Nat) (ob ad : Nat → Nat) (cA : Nat → ClassId) (hd : dX ob ad) (fv : Nat → Int32) (wd : xT) (ar : Nat → Nat → Int32) (hF_fv : rX fv) (hA_ar : rB ar) (a : Int32) (b : Int32) (v : Int32) (d : Int32) (f : Int32) (g : Int32) : Met l yX11_trip (.code yX11_trip cX11_trip 8 (some .int) :: lw_good) ({ frames := 3, cells := 0, slots := 0, locals := 64 }) (va_Pc [.ref (ob 0), .int a, .int b, .int v, .int d, .int f, .int g] (prX dC dI ob ad cA fv wd ar sz)) (va_Qi (fun (r : Int32) (u : xS) => rX u.1 ∧ rB u.2.2 ∧ fM [12] fv u.1 ∧ fA [28, 29, 30, 31, 32, 33, 34, 35] ar u.2.2 ∧ u.2.1.2 = wd.2 ∧ (ps_trip r (u.1 12) (fv 12) (fv 11) (fv 4) (fv 7) a b v d f g) ∧ (wt_ru r (u.2.2 28) (ar 28) (fv 12) a) ∧ (wt_ru r (u.2.2 29) (ar 29) (fv 12) b) ∧ (wt_ru r (u.2.2 30) (ar 30) (fv 12) v) ∧ (wt_ru r (u.2.2 31) (ar 31) (fv 12) d) ∧ (wt_ru r (u.2.2 32) (ar 32) (fv 12) f) ∧ (wt_ru r (u.2.2 33) (ar 33) (fv 12) g) ∧ (wt_ru r (u.2.2 34) (ar 34) (fv 12) (fv 7)) ∧ True) (enX dC dI ob ad cA) (aX ob ad sz)) 0 0 (aX ob ad sz) := by
  refine Met.ofW (cc := cX11_trip) (maxL := 8) (ret := (some .int)) (by decide) rfl ?_
  intro p e s m args below meth c s₁ B hml hv
  obtain ⟨rfl, hsz, hP, hK⟩ := hv
  have hx := B.exec
  have hb := B.bytes
  have hr := B.returns
  have hts := atoms_spec (ws := (.code yX11_trip cX11_trip 8 (some .int) :: lw_good)) B.pre
  have htg : ∀ w ∈ lw_good, w.before _ s = true := fun w hw => hts w (List.mem_cons_of_mem _ hw)
  have hown : s.vm.findClass RX11 = some m.cls := findClass_of_methodNamed B.named
  have hlocks := B.notSynchronized
  subst hsz
  have hS : va_S (aX ob ad s.heap.size) s.heap s.heap [] := va_S.rf
  have hl := lv_entry ([.ref (ob 0), .int a, .int b, .int v, .int d, .int f, .int g]) (n := 8) (Nat.le_of_ble_eq_true rfl)
  rw [lg_entry_eq]
  generalize (lg_sl ([.ref (ob 0), .int a, .int b, .int v, .int d, .int f, .int g]) ++ List.replicate (8 - (lg_sl ([.ref (ob 0), .int a, .int b, .int v, .int d, .int f, .int g])).length) Slot.unset).toArray = ls at hl ⊢
  have hl : lv_has ls 8 [(0, .ref (ob 0)), (1, .int a), (2, .int b), (3, .int v), (4, .int d), (5, .int f), (6, .int g)] := hl
  refine lv_aload_n hx hb dX11_trip_0 rfl (lv_at hl 0 rfl) ?_
  refine gX_X11_16 hx hb htg hown hK hP dX11_trip_1 ?_
  refine gX_X11_101 hx hb htg hown hK hP dX11_trip_4 ?_
  refine lv_iload_n hx hb dX11_trip_7 rfl (lv_at hl 1 rfl) ?_
  have z_1 : 0 ≤ (fv 11).toInt ∧ (fv 11).toInt ≤ 20 := hF_fv 11
  refine va_calli (va_runV (As := [.int a]) (rest := []) ⟨hx, hb, hml, hown, hts⟩ (x_wheels_hasE l dC dI s.heap.size ob ad cA hd fv wd ar hF_fv hA_ar a) (cwV 1 hts (gV kw_3_198 kw_3_199 kw_3_200 kw_1_5 kw_3_201) rfl rfl rfl (by decide +kernel) ⟨Nat.le_of_ble_eq_true rfl, Nat.le_of_ble_eq_true rfl⟩) ⟨fun a U g mk q => ⟨q.1, q.2.1, q.2.2.1, va_K.moved (u := U) (U := U.calling g mk a) (Vm.Alike.refl U.vm) q.2.2.2⟩, va_recv hK hP (ci := 10) (q0 := 4) rfl rfl, fun U hU hW => ⟨rfl, by rw [hU], by rw [hU]; exact hP, va_K.moved hW.alike hK⟩⟩ rfl rfl hl.1 rfl (lv_room (Nat.le_of_ble_eq_true rfl)) dX11_trip_8 ⟨Nat.le_of_ble_eq_true rfl, Nat.le_of_ble_eq_true rfl⟩) hS (fun q _ h9 => aX_up hS q h9) (aX_up hS) (fun r_2 u t H1 locs ht _ hw hB _ hk1 hS => ?_)
  obtain ⟨fv_5, wd_6, ar_7⟩ := u
  obtain ⟨hF_fv_5, hA_ar_7, fr_8, fa_9, wf_10, p_3, p_4, -⟩ := hw
  have wf_10 : wd_6.2 = wd.2 := wf_10
  have hP : va_P (dC, dI) vwCl (wsX ob ad cA fv_5 wd_6 ar_7) H1 := by have h9 := hB.1; rw [ht] at h9; exact h9
  have fr_8 : fM [] fv fv_5 := fr_8
  have fa_9 : fA [] ar ar_7 := fa_9
  generalize H1 = H at hP hS ⊢
  rcases p_4 with ⟨rfl, p_4⟩ | ⟨rfl, p_4⟩
  · skip
    have q_11 : a.toInt < 0 ∨ (fv 11).toInt ≤ a.toInt := p_4
    refine lv_if_eq (tgt := 41) hx hb dX11_trip_11 (by decide) (fun c_12 => ?_) (fun c_12 => ?_)
    · skip
      refine lv_iconst (v := (-1)) hx hb dX11_trip_41 (by decide) ?_
      have z_13 : ((-1) : Int32).toInt = (-1) := by decide
      exact W.iret (v := (-1)) hx hb hr (fun t ht hW => ⟨⟨(-1), (fv_5, wd_6, ar_7), rfl, ⟨hF_fv_5, hA_ar_7, (fM_call (fM_rf [12] _) fr_8 (by decide)), (fA_call (fA_rf [28, 29, 30, 31, 32, 33, 34, 35] _) fa_9 (by decide)), wf_10, (show ps_trip ((-1) : Int32) (fv_5 12) (fv 12) (fv 11) (fv 4) (fv 7) a b v d f g from Or.inl ⟨rfl, (fr_8 12 rfl), by omega⟩), (show wt_ru ((-1) : Int32) (ar_7 28) (ar 28) (fv 12) a from Or.inl ⟨by decide, ((fA_call (fA_rf [] _) fa_9 (by decide)) 28 rfl)⟩), (show wt_ru ((-1) : Int32) (ar_7 29) (ar 29) (fv 12) b from Or.inl ⟨by decide, ((fA_call (fA_rf [] _) fa_9 (by decide)) 29 rfl)⟩), (show wt_ru ((-1) : Int32) (ar_7 30) (ar 30) (fv 12) v from Or.inl ⟨by decide, ((fA_call (fA_rf [] _) fa_9 (by decide)) 30 rfl)⟩), (show wt_ru ((-1) : Int32) (ar_7 31) (ar 31) (fv 12) d from Or.inl ⟨by decide, ((fA_call (fA_rf [] _) fa_9 (by decide)) 31 rfl)⟩), (show wt_ru ((-1) : Int32) (ar_7 32) (ar 32) (fv 12) f from Or.inl ⟨by decide, ((fA_call (fA_rf [] _) fa_9 (by decide)) 32 rfl)⟩), (show wt_ru ((-1) : Int32) (ar_7 33) (ar 33) (fv 12) g from Or.inl ⟨by decide, ((fA_call (fA_rf [] _) fa_9 (by decide)) 33 rfl)⟩), (show wt_ru ((-1) : Int32) (ar_7 34) (ar 34) (fv 12) (fv 7) from Or.inl ⟨by decide, ((fA_call (fA_rf [] _) fa_9 (by decide)) 34 rfl)⟩), trivial⟩, ⟨by rw [ht]; exact hP, va_K.moved hW.alike hK⟩⟩, hS.F ht⟩) hS.2.2 dX11_trip_42
    · skip
      exact absurd c_12 (by decide)
  · skip
    have i_14 : 0 ≤ a.toInt ∧ a.toInt ≤ 2147483647 := ⟨p_4.1, (iv_any a).2⟩
    have i_15 : 0 ≤ a.toInt ∧ a.toInt ≤ 19 := ⟨i_14.1, p_4.2.1⟩
    have q_16 : a.toInt < (fv 11).toInt := p_4.2.2
    refine lv_if_eq (tgt := 41) hx hb dX11_trip_11 (by decide) (fun c_17 => ?_) (fun c_17 => ?_)
    · skip
      exact absurd c_17 (by decide)
    · skip
      refine lv_aload_n hx hb dX11_trip_14 rfl (lv_at hl 0 rfl) ?_
      refine gX_X11_16 hx hb htg hown hK hP dX11_trip_15 ?_
      refine lv_iload_n hx hb dX11_trip_18 rfl (lv_at hl 2 rfl) ?_
      have z_18 : (fv_5 4).toInt = (fv 4).toInt := congrArg Int32.toInt ((fr_8 4 rfl))
      have z_19 : 0 ≤ (fv_5 4).toInt ∧ (fv_5 4).toInt ≤ 8 := hF_fv_5 4
      refine va_calli (va_runV (As := [.int b]) (rest := []) ⟨hx, hb, hml, hown, hts⟩ (x_isStopE l dC dI H.size ob ad cA hd fv_5 wd_6 ar_7 hF_fv_5 hA_ar_7 b) (cwV 1 hts (gV kw_3_183 kw_3_184 kw_3_185 kw_1_2 kw_3_186) rfl rfl rfl (by decide +kernel) ⟨Nat.le_of_ble_eq_true rfl, Nat.le_of_ble_eq_true rfl⟩) ⟨fun a U g mk q => ⟨q.1, q.2.1, q.2.2.1, va_K.moved (u := U) (U := U.calling g mk a) (Vm.Alike.refl U.vm) q.2.2.2⟩, va_recv hK hP (ci := 7) (q0 := 1) rfl rfl, fun U hU hW => ⟨rfl, by rw [hU], by rw [hU]; exact hP, va_K.moved hW.alike hK⟩⟩ rfl rfl hl.1 rfl (lv_room (Nat.le_of_ble_eq_true rfl)) dX11_trip_19 ⟨Nat.le_of_ble_eq_true rfl, Nat.le_of_ble_eq_true rfl⟩) hS (fun q _ h9 => aX_up hS q h9) (aX_up hS) (fun r_20 u t H1 locs ht _ hw hB _ hk1 hS => ?_)
      obtain ⟨fv_23, wd_24, ar_25⟩ := u
      obtain ⟨hF_fv_23, hA_ar_25, fr_26, fa_27, wf_28, p_21, p_22, -⟩ := hw
      have wf_28 : wd_24.2 = wd_6.2 := wf_28
      have hP : va_P (dC, dI) vwCl (wsX ob ad cA fv_23 wd_24 ar_25) H1 := by have h9 := hB.1; rw [ht] at h9; exact h9
      have fr_26 : fM [] fv_5 fv_23 := fr_26
      have fa_27 : fA [] ar_7 ar_25 := fa_27
      generalize H1 = H at hP hS ⊢
      rcases p_22 with ⟨rfl, p_22⟩ | ⟨rfl, p_22⟩
      · skip
        have q_29 : b.toInt < 0 ∨ (fv_5 4).toInt ≤ b.toInt := p_22
        refine lv_if_eq (tgt := 41) hx hb dX11_trip_22 (by decide) (fun c_30 => ?_) (fun c_30 => ?_)
        · skip
          refine lv_iconst (v := (-1)) hx hb dX11_trip_41 (by decide) ?_
          have z_31 : ((-1) : Int32).toInt = (-1) := by decide
          exact W.iret (v := (-1)) hx hb hr (fun t ht hW => ⟨⟨(-1), (fv_23, wd_24, ar_25), rfl, ⟨hF_fv_23, hA_ar_25, (fM_call (fM_call (fM_rf [12] _) fr_8 (by decide)) fr_26 (by decide)), (fA_call (fA_call (fA_rf [28, 29, 30, 31, 32, 33, 34, 35] _) fa_9 (by decide)) fa_27 (by decide)), (wf_28.trans wf_10), (show ps_trip ((-1) : Int32) (fv_23 12) (fv 12) (fv 11) (fv 4) (fv 7) a b v d f g from Or.inl ⟨rfl, (fr_26 12 rfl).trans ((fr_8 12 rfl)), by omega⟩), (show wt_ru ((-1) : Int32) (ar_25 28) (ar 28) (fv 12) a from Or.inl ⟨by decide, ((fA_call (fA_call (fA_rf [] _) fa_9 (by decide)) fa_27 (by decide)) 28 rfl)⟩), (show wt_ru ((-1) : Int32) (ar_25 29) (ar 29) (fv 12) b from Or.inl ⟨by decide, ((fA_call (fA_call (fA_rf [] _) fa_9 (by decide)) fa_27 (by decide)) 29 rfl)⟩), (show wt_ru ((-1) : Int32) (ar_25 30) (ar 30) (fv 12) v from Or.inl ⟨by decide, ((fA_call (fA_call (fA_rf [] _) fa_9 (by decide)) fa_27 (by decide)) 30 rfl)⟩), (show wt_ru ((-1) : Int32) (ar_25 31) (ar 31) (fv 12) d from Or.inl ⟨by decide, ((fA_call (fA_call (fA_rf [] _) fa_9 (by decide)) fa_27 (by decide)) 31 rfl)⟩), (show wt_ru ((-1) : Int32) (ar_25 32) (ar 32) (fv 12) f from Or.inl ⟨by decide, ((fA_call (fA_call (fA_rf [] _) fa_9 (by decide)) fa_27 (by decide)) 32 rfl)⟩), (show wt_ru ((-1) : Int32) (ar_25 33) (ar 33) (fv 12) g from Or.inl ⟨by decide, ((fA_call (fA_call (fA_rf [] _) fa_9 (by decide)) fa_27 (by decide)) 33 rfl)⟩), (show wt_ru ((-1) : Int32) (ar_25 34) (ar 34) (fv 12) (fv 7) from Or.inl ⟨by decide, ((fA_call (fA_call (fA_rf [] _) fa_9 (by decide)) fa_27 (by decide)) 34 rfl)⟩), trivial⟩, ⟨by rw [ht]; exact hP, va_K.moved hW.alike hK⟩⟩, hS.F ht⟩) hS.2.2 dX11_trip_42
        · skip
          exact absurd c_30 (by decide)
      · skip
        have i_32 : 0 ≤ b.toInt ∧ b.toInt ≤ 2147483647 := ⟨p_22.1, (iv_any b).2⟩
        have i_33 : 0 ≤ b.toInt ∧ b.toInt ≤ 7 := ⟨i_32.1, p_22.2.1⟩
        have q_34 : b.toInt < (fv_5 4).toInt := p_22.2.2
        refine lv_if_eq (tgt := 41) hx hb dX11_trip_22 (by decide) (fun c_35 => ?_) (fun c_35 => ?_)
        · skip
          exact absurd c_35 (by decide)
        · skip
          refine lv_aload_n hx hb dX11_trip_25 rfl (lv_at hl 0 rfl) ?_
          refine gX_X11_16 hx hb htg hown hK hP dX11_trip_26 ?_
          refine lv_iload_n hx hb dX11_trip_29 rfl (lv_at hl 3 rfl) ?_
          have z_36 : (fv_23 4).toInt = (fv 4).toInt := congrArg Int32.toInt ((fr_26 4 rfl).trans ((fr_8 4 rfl)))
          have z_37 : 0 ≤ (fv_23 4).toInt ∧ (fv_23 4).toInt ≤ 8 := hF_fv_23 4
          refine va_calli (va_runV (As := [.int v]) (rest := []) ⟨hx, hb, hml, hown, hts⟩ (x_isStopE l dC dI H.size ob ad cA hd fv_23 wd_24 ar_25 hF_fv_23 hA_ar_25 v) (cwV 1 hts (gV kw_3_183 kw_3_184 kw_3_185 kw_1_2 kw_3_186) rfl rfl rfl (by decide +kernel) ⟨Nat.le_of_ble_eq_true rfl, Nat.le_of_ble_eq_true rfl⟩) ⟨fun a U g mk q => ⟨q.1, q.2.1, q.2.2.1, va_K.moved (u := U) (U := U.calling g mk a) (Vm.Alike.refl U.vm) q.2.2.2⟩, va_recv hK hP (ci := 7) (q0 := 1) rfl rfl, fun U hU hW => ⟨rfl, by rw [hU], by rw [hU]; exact hP, va_K.moved hW.alike hK⟩⟩ rfl rfl hl.1 rfl (lv_room (Nat.le_of_ble_eq_true rfl)) dX11_trip_30 ⟨Nat.le_of_ble_eq_true rfl, Nat.le_of_ble_eq_true rfl⟩) hS (fun q _ h9 => aX_up hS q h9) (aX_up hS) (fun r_38 u t H1 locs ht _ hw hB _ hk1 hS => ?_)
          obtain ⟨fv_41, wd_42, ar_43⟩ := u
          obtain ⟨hF_fv_41, hA_ar_43, fr_44, fa_45, wf_46, p_39, p_40, -⟩ := hw
          have wf_46 : wd_42.2 = wd_24.2 := wf_46
          have hP : va_P (dC, dI) vwCl (wsX ob ad cA fv_41 wd_42 ar_43) H1 := by have h9 := hB.1; rw [ht] at h9; exact h9
          have fr_44 : fM [] fv_23 fv_41 := fr_44
          have fa_45 : fA [] ar_25 ar_43 := fa_45
          generalize H1 = H at hP hS ⊢
          rcases p_40 with ⟨rfl, p_40⟩ | ⟨rfl, p_40⟩
          · skip
            have q_47 : v.toInt < 0 ∨ (fv_23 4).toInt ≤ v.toInt := p_40
            refine lv_if_eq (tgt := 41) hx hb dX11_trip_33 (by decide) (fun c_48 => ?_) (fun c_48 => ?_)
            · skip
              refine lv_iconst (v := (-1)) hx hb dX11_trip_41 (by decide) ?_
              have z_49 : ((-1) : Int32).toInt = (-1) := by decide
              exact W.iret (v := (-1)) hx hb hr (fun t ht hW => ⟨⟨(-1), (fv_41, wd_42, ar_43), rfl, ⟨hF_fv_41, hA_ar_43, (fM_call (fM_call (fM_call (fM_rf [12] _) fr_8 (by decide)) fr_26 (by decide)) fr_44 (by decide)), (fA_call (fA_call (fA_call (fA_rf [28, 29, 30, 31, 32, 33, 34, 35] _) fa_9 (by decide)) fa_27 (by decide)) fa_45 (by decide)), (wf_46.trans (wf_28.trans wf_10)), (show ps_trip ((-1) : Int32) (fv_41 12) (fv 12) (fv 11) (fv 4) (fv 7) a b v d f g from Or.inl ⟨rfl, (fr_44 12 rfl).trans ((fr_26 12 rfl).trans ((fr_8 12 rfl))), by omega⟩), (show wt_ru ((-1) : Int32) (ar_43 28) (ar 28) (fv 12) a from Or.inl ⟨by decide, ((fA_call (fA_call (fA_call (fA_rf [] _) fa_9 (by decide)) fa_27 (by decide)) fa_45 (by decide)) 28 rfl)⟩), (show wt_ru ((-1) : Int32) (ar_43 29) (ar 29) (fv 12) b from Or.inl ⟨by decide, ((fA_call (fA_call (fA_call (fA_rf [] _) fa_9 (by decide)) fa_27 (by decide)) fa_45 (by decide)) 29 rfl)⟩), (show wt_ru ((-1) : Int32) (ar_43 30) (ar 30) (fv 12) v from Or.inl ⟨by decide, ((fA_call (fA_call (fA_call (fA_rf [] _) fa_9 (by decide)) fa_27 (by decide)) fa_45 (by decide)) 30 rfl)⟩), (show wt_ru ((-1) : Int32) (ar_43 31) (ar 31) (fv 12) d from Or.inl ⟨by decide, ((fA_call (fA_call (fA_call (fA_rf [] _) fa_9 (by decide)) fa_27 (by decide)) fa_45 (by decide)) 31 rfl)⟩), (show wt_ru ((-1) : Int32) (ar_43 32) (ar 32) (fv 12) f from Or.inl ⟨by decide, ((fA_call (fA_call (fA_call (fA_rf [] _) fa_9 (by decide)) fa_27 (by decide)) fa_45 (by decide)) 32 rfl)⟩), (show wt_ru ((-1) : Int32) (ar_43 33) (ar 33) (fv 12) g from Or.inl ⟨by decide, ((fA_call (fA_call (fA_call (fA_rf [] _) fa_9 (by decide)) fa_27 (by decide)) fa_45 (by decide)) 33 rfl)⟩), (show wt_ru ((-1) : Int32) (ar_43 34) (ar 34) (fv 12) (fv 7) from Or.inl ⟨by decide, ((fA_call (fA_call (fA_call (fA_rf [] _) fa_9 (by decide)) fa_27 (by decide)) fa_45 (by decide)) 34 rfl)⟩), trivial⟩, ⟨by rw [ht]; exact hP, va_K.moved hW.alike hK⟩⟩, hS.F ht⟩) hS.2.2 dX11_trip_42
            · skip
              exact absurd c_48 (by decide)
          · skip
            have i_50 : 0 ≤ v.toInt ∧ v.toInt ≤ 2147483647 := ⟨p_40.1, (iv_any v).2⟩
            have i_51 : 0 ≤ v.toInt ∧ v.toInt ≤ 7 := ⟨i_50.1, p_40.2.1⟩
            have q_52 : v.toInt < (fv_23 4).toInt := p_40.2.2
            refine lv_if_eq (tgt := 41) hx hb dX11_trip_33 (by decide) (fun c_53 => ?_) (fun c_53 => ?_)
            · skip
              exact absurd c_53 (by decide)
            · skip
              refine lv_iload_n hx hb dX11_trip_36 rfl (lv_at hl 2 rfl) ?_
              refine lv_iload_n hx hb dX11_trip_37 rfl (lv_at hl 3 rfl) ?_
              refine lv_icmp_ne (tgt := 43) hx hb dX11_trip_38 (by decide) (fun c_54 => ?_) (fun c_54 => ?_)
              · skip
                have k_55 : ¬ b.toInt = v.toInt := fun q => c_54 (Int32.toInt_inj.mp q)
                refine lv_iload hx hb dX11_trip_43 (lv_at hl 4 rfl) ?_
                refine lv_if_lt (tgt := 56) hx hb dX11_trip_45 (by decide) (fun c_56 => ?_) (fun c_56 => ?_)
                · skip
                  have i_57 : (-2147483648) ≤ d.toInt ∧ d.toInt ≤ (-1) := iv_lt1 (iv_any d) (⟨by decide, by decide⟩ : (0 : Int) ≤ (0 : Int32).toInt ∧ (0 : Int32).toInt ≤ 0) c_56
                  refine lv_iconst (v := (-1)) hx hb dX11_trip_56 (by decide) ?_
                  have z_58 : ((-1) : Int32).toInt = (-1) := by decide
                  exact W.iret (v := (-1)) hx hb hr (fun t ht hW => ⟨⟨(-1), (fv_41, wd_42, ar_43), rfl, ⟨hF_fv_41, hA_ar_43, (fM_call (fM_call (fM_call (fM_rf [12] _) fr_8 (by decide)) fr_26 (by decide)) fr_44 (by decide)), (fA_call (fA_call (fA_call (fA_rf [28, 29, 30, 31, 32, 33, 34, 35] _) fa_9 (by decide)) fa_27 (by decide)) fa_45 (by decide)), (wf_46.trans (wf_28.trans wf_10)), (show ps_trip ((-1) : Int32) (fv_41 12) (fv 12) (fv 11) (fv 4) (fv 7) a b v d f g from Or.inl ⟨rfl, (fr_44 12 rfl).trans ((fr_26 12 rfl).trans ((fr_8 12 rfl))), by omega⟩), (show wt_ru ((-1) : Int32) (ar_43 28) (ar 28) (fv 12) a from Or.inl ⟨by decide, ((fA_call (fA_call (fA_call (fA_rf [] _) fa_9 (by decide)) fa_27 (by decide)) fa_45 (by decide)) 28 rfl)⟩), (show wt_ru ((-1) : Int32) (ar_43 29) (ar 29) (fv 12) b from Or.inl ⟨by decide, ((fA_call (fA_call (fA_call (fA_rf [] _) fa_9 (by decide)) fa_27 (by decide)) fa_45 (by decide)) 29 rfl)⟩), (show wt_ru ((-1) : Int32) (ar_43 30) (ar 30) (fv 12) v from Or.inl ⟨by decide, ((fA_call (fA_call (fA_call (fA_rf [] _) fa_9 (by decide)) fa_27 (by decide)) fa_45 (by decide)) 30 rfl)⟩), (show wt_ru ((-1) : Int32) (ar_43 31) (ar 31) (fv 12) d from Or.inl ⟨by decide, ((fA_call (fA_call (fA_call (fA_rf [] _) fa_9 (by decide)) fa_27 (by decide)) fa_45 (by decide)) 31 rfl)⟩), (show wt_ru ((-1) : Int32) (ar_43 32) (ar 32) (fv 12) f from Or.inl ⟨by decide, ((fA_call (fA_call (fA_call (fA_rf [] _) fa_9 (by decide)) fa_27 (by decide)) fa_45 (by decide)) 32 rfl)⟩), (show wt_ru ((-1) : Int32) (ar_43 33) (ar 33) (fv 12) g from Or.inl ⟨by decide, ((fA_call (fA_call (fA_call (fA_rf [] _) fa_9 (by decide)) fa_27 (by decide)) fa_45 (by decide)) 33 rfl)⟩), (show wt_ru ((-1) : Int32) (ar_43 34) (ar 34) (fv 12) (fv 7) from Or.inl ⟨by decide, ((fA_call (fA_call (fA_call (fA_rf [] _) fa_9 (by decide)) fa_27 (by decide)) fa_45 (by decide)) 34 rfl)⟩), trivial⟩, ⟨by rw [ht]; exact hP, va_K.moved hW.alike hK⟩⟩, hS.F ht⟩) hS.2.2 dX11_trip_57
                · skip
                  have i_59 : 0 ≤ d.toInt ∧ d.toInt ≤ 2147483647 := iv_le2 (⟨by decide, by decide⟩ : (0 : Int) ≤ (0 : Int32).toInt ∧ (0 : Int32).toInt ≤ 0) (iv_any d) (Int32.not_lt.mp c_56)
                  refine lv_iload hx hb dX11_trip_48 (lv_at hl 4 rfl) ?_
                  refine lv_sipush (v := 719) hx hb dX11_trip_50 (by decide) ?_
                  refine lv_icmp_le (tgt := 58) hx hb dX11_trip_53 (by decide) (fun c_60 => ?_) (fun c_60 => ?_)
                  · skip
                    have i_61 : 0 ≤ d.toInt ∧ d.toInt ≤ 719 := iv_le1 i_59 (⟨by decide, by decide⟩ : (719 : Int) ≤ (719 : Int32).toInt ∧ (719 : Int32).toInt ≤ 719) c_60
                    refine lv_iload hx hb dX11_trip_58 (lv_at hl 5 rfl) ?_
                    refine lv_aload_n hx hb dX11_trip_60 rfl (lv_at hl 0 rfl) ?_
                    refine gX_X11_16 hx hb htg hown hK hP dX11_trip_61 ?_
                    refine gX_X11_57 hx hb htg hown hK hP dX11_trip_64 ?_
                    refine my_ti (y := fv 7) ((fr_44 7 rfl).trans ((fr_26 7 rfl).trans ((fr_8 7 rfl)))) ?_
                    have i_62 : 0 ≤ (fv 7).toInt ∧ (fv 7).toInt ≤ 199 := hF_fv 7
                    refine lv_icmp_lt (tgt := 98) hx hb dX11_trip_67 (by decide) (fun c_63 => ?_) (fun c_63 => ?_)
                    · skip
                      have i_64 : (-2147483648) ≤ f.toInt ∧ f.toInt ≤ 198 := iv_lt1 (iv_any f) i_62 c_63
                      have k_65 := Int32.lt_iff_toInt_lt.mp c_63
                      refine lv_iconst (v := (-1)) hx hb dX11_trip_98 (by decide) ?_
                      have z_66 : ((-1) : Int32).toInt = (-1) := by decide
                      exact W.iret (v := (-1)) hx hb hr (fun t ht hW => ⟨⟨(-1), (fv_41, wd_42, ar_43), rfl, ⟨hF_fv_41, hA_ar_43, (fM_call (fM_call (fM_call (fM_rf [12] _) fr_8 (by decide)) fr_26 (by decide)) fr_44 (by decide)), (fA_call (fA_call (fA_call (fA_rf [28, 29, 30, 31, 32, 33, 34, 35] _) fa_9 (by decide)) fa_27 (by decide)) fa_45 (by decide)), (wf_46.trans (wf_28.trans wf_10)), (show ps_trip ((-1) : Int32) (fv_41 12) (fv 12) (fv 11) (fv 4) (fv 7) a b v d f g from Or.inl ⟨rfl, (fr_44 12 rfl).trans ((fr_26 12 rfl).trans ((fr_8 12 rfl))), by omega⟩), (show wt_ru ((-1) : Int32) (ar_43 28) (ar 28) (fv 12) a from Or.inl ⟨by decide, ((fA_call (fA_call (fA_call (fA_rf [] _) fa_9 (by decide)) fa_27 (by decide)) fa_45 (by decide)) 28 rfl)⟩), (show wt_ru ((-1) : Int32) (ar_43 29) (ar 29) (fv 12) b from Or.inl ⟨by decide, ((fA_call (fA_call (fA_call (fA_rf [] _) fa_9 (by decide)) fa_27 (by decide)) fa_45 (by decide)) 29 rfl)⟩), (show wt_ru ((-1) : Int32) (ar_43 30) (ar 30) (fv 12) v from Or.inl ⟨by decide, ((fA_call (fA_call (fA_call (fA_rf [] _) fa_9 (by decide)) fa_27 (by decide)) fa_45 (by decide)) 30 rfl)⟩), (show wt_ru ((-1) : Int32) (ar_43 31) (ar 31) (fv 12) d from Or.inl ⟨by decide, ((fA_call (fA_call (fA_call (fA_rf [] _) fa_9 (by decide)) fa_27 (by decide)) fa_45 (by decide)) 31 rfl)⟩), (show wt_ru ((-1) : Int32) (ar_43 32) (ar 32) (fv 12) f from Or.inl ⟨by decide, ((fA_call (fA_call (fA_call (fA_rf [] _) fa_9 (by decide)) fa_27 (by decide)) fa_45 (by decide)) 32 rfl)⟩), (show wt_ru ((-1) : Int32) (ar_43 33) (ar 33) (fv 12) g from Or.inl ⟨by decide, ((fA_call (fA_call (fA_call (fA_rf [] _) fa_9 (by decide)) fa_27 (by decide)) fa_45 (by decide)) 33 rfl)⟩), (show wt_ru ((-1) : Int32) (ar_43 34) (ar 34) (fv 12) (fv 7) from Or.inl ⟨by decide, ((fA_call (fA_call (fA_call (fA_rf [] _) fa_9 (by decide)) fa_27 (by decide)) fa_45 (by decide)) 34 rfl)⟩), trivial⟩, ⟨by rw [ht]; exact hP, va_K.moved hW.alike hK⟩⟩, hS.F ht⟩) hS.2.2 dX11_trip_99
                    · skip
                      have i_67 : 0 ≤ f.toInt ∧ f.toInt ≤ 2147483647 := iv_le2 i_62 (iv_any f) (Int32.not_lt.mp c_63)
                      have k_68 := Int32.le_iff_toInt_le.mp (Int32.not_lt.mp c_63)
                      refine lv_iload hx hb dX11_trip_70 (lv_at hl 6 rfl) ?_
                      refine lv_iload hx hb dX11_trip_72 (lv_at hl 5 rfl) ?_
                      refine lv_icmp_lt (tgt := 98) hx hb dX11_trip_74 (by decide) (fun c_69 => ?_) (fun c_69 => ?_)
                      · skip
                        have i_70 : (-2147483648) ≤ g.toInt ∧ g.toInt ≤ 2147483646 := iv_lt1 (iv_any g) i_67 c_69
                        have k_71 := Int32.lt_iff_toInt_lt.mp c_69
                        refine lv_iconst (v := (-1)) hx hb dX11_trip_98 (by decide) ?_
                        have z_72 : ((-1) : Int32).toInt = (-1) := by decide
                        exact W.iret (v := (-1)) hx hb hr (fun t ht hW => ⟨⟨(-1), (fv_41, wd_42, ar_43), rfl, ⟨hF_fv_41, hA_ar_43, (fM_call (fM_call (fM_call (fM_rf [12] _) fr_8 (by decide)) fr_26 (by decide)) fr_44 (by decide)), (fA_call (fA_call (fA_call (fA_rf [28, 29, 30, 31, 32, 33, 34, 35] _) fa_9 (by decide)) fa_27 (by decide)) fa_45 (by decide)), (wf_46.trans (wf_28.trans wf_10)), (show ps_trip ((-1) : Int32) (fv_41 12) (fv 12) (fv 11) (fv 4) (fv 7) a b v d f g from Or.inl ⟨rfl, (fr_44 12 rfl).trans ((fr_26 12 rfl).trans ((fr_8 12 rfl))), by omega⟩), (show wt_ru ((-1) : Int32) (ar_43 28) (ar 28) (fv 12) a from Or.inl ⟨by decide, ((fA_call (fA_call (fA_call (fA_rf [] _) fa_9 (by decide)) fa_27 (by decide)) fa_45 (by decide)) 28 rfl)⟩), (show wt_ru ((-1) : Int32) (ar_43 29) (ar 29) (fv 12) b from Or.inl ⟨by decide, ((fA_call (fA_call (fA_call (fA_rf [] _) fa_9 (by decide)) fa_27 (by decide)) fa_45 (by decide)) 29 rfl)⟩), (show wt_ru ((-1) : Int32) (ar_43 30) (ar 30) (fv 12) v from Or.inl ⟨by decide, ((fA_call (fA_call (fA_call (fA_rf [] _) fa_9 (by decide)) fa_27 (by decide)) fa_45 (by decide)) 30 rfl)⟩), (show wt_ru ((-1) : Int32) (ar_43 31) (ar 31) (fv 12) d from Or.inl ⟨by decide, ((fA_call (fA_call (fA_call (fA_rf [] _) fa_9 (by decide)) fa_27 (by decide)) fa_45 (by decide)) 31 rfl)⟩), (show wt_ru ((-1) : Int32) (ar_43 32) (ar 32) (fv 12) f from Or.inl ⟨by decide, ((fA_call (fA_call (fA_call (fA_rf [] _) fa_9 (by decide)) fa_27 (by decide)) fa_45 (by decide)) 32 rfl)⟩), (show wt_ru ((-1) : Int32) (ar_43 33) (ar 33) (fv 12) g from Or.inl ⟨by decide, ((fA_call (fA_call (fA_call (fA_rf [] _) fa_9 (by decide)) fa_27 (by decide)) fa_45 (by decide)) 33 rfl)⟩), (show wt_ru ((-1) : Int32) (ar_43 34) (ar 34) (fv 12) (fv 7) from Or.inl ⟨by decide, ((fA_call (fA_call (fA_call (fA_rf [] _) fa_9 (by decide)) fa_27 (by decide)) fa_45 (by decide)) 34 rfl)⟩), trivial⟩, ⟨by rw [ht]; exact hP, va_K.moved hW.alike hK⟩⟩, hS.F ht⟩) hS.2.2 dX11_trip_99
                      · skip
                        have i_73 : 0 ≤ g.toInt ∧ g.toInt ≤ 2147483647 := iv_le2 i_67 (iv_any g) (Int32.not_lt.mp c_69)
                        have k_74 := Int32.le_iff_toInt_le.mp (Int32.not_lt.mp c_69)
                        refine lv_iload hx hb dX11_trip_77 (lv_at hl 6 rfl) ?_
                        refine lv_sipush (v := 199) hx hb dX11_trip_79 (by decide) ?_
                        refine lv_icmp_gt (tgt := 98) hx hb dX11_trip_82 (by decide) (fun c_75 => ?_) (fun c_75 => ?_)
                        · skip
                          have i_76 : 200 ≤ g.toInt ∧ g.toInt ≤ 2147483647 := iv_lt2 (⟨by decide, by decide⟩ : (199 : Int) ≤ (199 : Int32).toInt ∧ (199 : Int32).toInt ≤ 199) i_73 c_75
                          refine lv_iconst (v := (-1)) hx hb dX11_trip_98 (by decide) ?_
                          have z_77 : ((-1) : Int32).toInt = (-1) := by decide
                          exact W.iret (v := (-1)) hx hb hr (fun t ht hW => ⟨⟨(-1), (fv_41, wd_42, ar_43), rfl, ⟨hF_fv_41, hA_ar_43, (fM_call (fM_call (fM_call (fM_rf [12] _) fr_8 (by decide)) fr_26 (by decide)) fr_44 (by decide)), (fA_call (fA_call (fA_call (fA_rf [28, 29, 30, 31, 32, 33, 34, 35] _) fa_9 (by decide)) fa_27 (by decide)) fa_45 (by decide)), (wf_46.trans (wf_28.trans wf_10)), (show ps_trip ((-1) : Int32) (fv_41 12) (fv 12) (fv 11) (fv 4) (fv 7) a b v d f g from Or.inl ⟨rfl, (fr_44 12 rfl).trans ((fr_26 12 rfl).trans ((fr_8 12 rfl))), by omega⟩), (show wt_ru ((-1) : Int32) (ar_43 28) (ar 28) (fv 12) a from Or.inl ⟨by decide, ((fA_call (fA_call (fA_call (fA_rf [] _) fa_9 (by decide)) fa_27 (by decide)) fa_45 (by decide)) 28 rfl)⟩), (show wt_ru ((-1) : Int32) (ar_43 29) (ar 29) (fv 12) b from Or.inl ⟨by decide, ((fA_call (fA_call (fA_call (fA_rf [] _) fa_9 (by decide)) fa_27 (by decide)) fa_45 (by decide)) 29 rfl)⟩), (show wt_ru ((-1) : Int32) (ar_43 30) (ar 30) (fv 12) v from Or.inl ⟨by decide, ((fA_call (fA_call (fA_call (fA_rf [] _) fa_9 (by decide)) fa_27 (by decide)) fa_45 (by decide)) 30 rfl)⟩), (show wt_ru ((-1) : Int32) (ar_43 31) (ar 31) (fv 12) d from Or.inl ⟨by decide, ((fA_call (fA_call (fA_call (fA_rf [] _) fa_9 (by decide)) fa_27 (by decide)) fa_45 (by decide)) 31 rfl)⟩), (show wt_ru ((-1) : Int32) (ar_43 32) (ar 32) (fv 12) f from Or.inl ⟨by decide, ((fA_call (fA_call (fA_call (fA_rf [] _) fa_9 (by decide)) fa_27 (by decide)) fa_45 (by decide)) 32 rfl)⟩), (show wt_ru ((-1) : Int32) (ar_43 33) (ar 33) (fv 12) g from Or.inl ⟨by decide, ((fA_call (fA_call (fA_call (fA_rf [] _) fa_9 (by decide)) fa_27 (by decide)) fa_45 (by decide)) 33 rfl)⟩), (show wt_ru ((-1) : Int32) (ar_43 34) (ar 34) (fv 12) (fv 7) from Or.inl ⟨by decide, ((fA_call (fA_call (fA_call (fA_rf [] _) fa_9 (by decide)) fa_27 (by decide)) fa_45 (by decide)) 34 rfl)⟩), trivial⟩, ⟨by rw [ht]; exact hP, va_K.moved hW.alike hK⟩⟩, hS.F ht⟩) hS.2.2 dX11_trip_99
                        · skip
                          have i_78 : 0 ≤ g.toInt ∧ g.toInt ≤ 199 := iv_le1 i_73 (⟨by decide, by decide⟩ : (199 : Int) ≤ (199 : Int32).toInt ∧ (199 : Int32).toInt ≤ 199) (Int32.not_lt.mp c_75)
                          refine lv_aload_n hx hb dX11_trip_85 rfl (lv_at hl 0 rfl) ?_
                          refine gX_X11_16 hx hb htg hown hK hP dX11_trip_86 ?_
                          refine gX_X11_116 hx hb htg hown hK hP dX11_trip_89 ?_
                          have z_79 : (fv_41 12).toInt = (fv 12).toInt := congrArg Int32.toInt ((fr_44 12 rfl).trans ((fr_26 12 rfl).trans ((fr_8 12 rfl))))
                          have z_80 : 0 ≤ (fv_41 12).toInt ∧ (fv_41 12).toInt ≤ 80 := hF_fv_41 12
                          refine va_calli (va_runV (As := []) (rest := []) ⟨hx, hb, hml, hown, hts⟩ (x_isFullE l dC dI H.size ob ad cA hd fv_41 wd_42 ar_43 hF_fv_41 hA_ar_43) (cwV 0 hts (gV kw_3_206 kw_3_207 kw_3_208 kw_1_6 kw_3_209) rfl rfl rfl (by decide +kernel) ⟨Nat.le_of_ble_eq_true rfl, Nat.le_of_ble_eq_true rfl⟩) ⟨fun a U g mk q => ⟨q.1, q.2.1, q.2.2.1, va_K.moved (u := U) (U := U.calling g mk a) (Vm.Alike.refl U.vm) q.2.2.2⟩, va_recv hK hP (ci := 8) (q0 := 5) rfl rfl, fun U hU hW => ⟨rfl, by rw [hU], by rw [hU]; exact hP, va_K.moved hW.alike hK⟩⟩ rfl rfl hl.1 rfl (lv_room (Nat.le_of_ble_eq_true rfl)) dX11_trip_92 ⟨Nat.le_of_ble_eq_true rfl, Nat.le_of_ble_eq_true rfl⟩) hS (fun q _ h9 => aX_up hS q h9) (aX_up hS) (fun r_81 u t H1 locs ht _ hw hB _ hk1 hS => ?_)
                          obtain ⟨fv_84, wd_85, ar_86⟩ := u
                          obtain ⟨hF_fv_84, hA_ar_86, fr_87, fa_88, wf_89, p_82, p_83, -⟩ := hw
                          have wf_89 : wd_85.2 = wd_42.2 := wf_89
                          have hP : va_P (dC, dI) vwCl (wsX ob ad cA fv_84 wd_85 ar_86) H1 := by have h9 := hB.1; rw [ht] at h9; exact h9
                          have fr_87 : fM [] fv_41 fv_84 := fr_87
                          have fa_88 : fA [] ar_43 ar_86 := fa_88
                          generalize H1 = H at hP hS ⊢
                          rcases p_83 with ⟨rfl, p_83⟩ | ⟨rfl, p_83⟩
                          · skip
                            have q_90 : (fv_41 12).toInt ≤ 79 := p_83
                            refine lv_if_eq (tgt := 100) hx hb dX11_trip_95 (by decide) (fun c_91 => ?_) (fun c_91 => ?_)
                            · skip
                              refine lv_aload_n hx hb dX11_trip_100 rfl (lv_at hl 0 rfl) ?_
                              refine gX_X11_16 hx hb htg hown hK hP dX11_trip_101 ?_
                              refine gX_X11_116 hx hb htg hown hK hP dX11_trip_104 ?_
                              refine lv_iload_n hx hb dX11_trip_107 rfl (lv_at hl 1 rfl) ?_
                              refine lv_iload_n hx hb dX11_trip_108 rfl (lv_at hl 2 rfl) ?_
                              refine lv_iload_n hx hb dX11_trip_109 rfl (lv_at hl 3 rfl) ?_
                              refine lv_iload hx hb dX11_trip_110 (lv_at hl 4 rfl) ?_
                              have z_92 : (fv_84 12).toInt = (fv 12).toInt := congrArg Int32.toInt ((fr_87 12 rfl).trans ((fr_44 12 rfl).trans ((fr_26 12 rfl).trans ((fr_8 12 rfl)))))
                              have z_93 : 0 ≤ (fv_84 12).toInt ∧ (fv_84 12).toInt ≤ 80 := hF_fv_84 12
                              have z_94 : (fv_84 12).toInt = (fv 12).toInt := congrArg Int32.toInt ((fr_87 12 rfl).trans ((fr_44 12 rfl).trans ((fr_26 12 rfl).trans ((fr_8 12 rfl)))))
                              have z_95 : 0 ≤ (fv_84 12).toInt ∧ (fv_84 12).toInt ≤ 80 := hF_fv_84 12
                              refine va_calli (va_runV (As := [.int a, .int b, .int v, .int d]) (rest := []) ⟨hx, hb, hml, hown, hts⟩ (x_tjoinR l dC dI H.size ob ad cA hd fv_84 wd_85 ar_86 hF_fv_84 hA_ar_86 a b v d i_15 i_33 i_51 (by omega)) (cwV 4 hts (gV kw_3_210 kw_3_211 kw_3_212 kw_1_6 kw_3_213) rfl rfl rfl (by decide +kernel) ⟨Nat.le_of_ble_eq_true rfl, Nat.le_of_ble_eq_true rfl⟩) ⟨fun a U g mk q => ⟨q.1, q.2.1, q.2.2.1, va_K.moved (u := U) (U := U.calling g mk a) (Vm.Alike.refl U.vm) q.2.2.2⟩, va_recv hK hP (ci := 8) (q0 := 5) rfl rfl, fun U hU hW => ⟨rfl, by rw [hU], by rw [hU]; exact hP, va_K.moved hW.alike hK⟩⟩ rfl rfl hl.1 rfl (lv_room (Nat.le_of_ble_eq_true rfl)) dX11_trip_112 ⟨Nat.le_of_ble_eq_true rfl, Nat.le_of_ble_eq_true rfl⟩) hS (fun q _ h9 => aX_up hS q h9) (aX_up hS) (fun r_96 u t H1 locs ht _ hw hB _ hk1 hS => ?_)
                              obtain ⟨fv_103, wd_104, ar_105⟩ := u
                              obtain ⟨hF_fv_103, hA_ar_105, fr_106, fa_107, wf_108, p_97, p_98, p_99, p_100, p_101, p_102, -⟩ := hw
                              have wf_108 : wd_104.2 = wd_85.2 := wf_108
                              have hP : va_P (dC, dI) vwCl (wsX ob ad cA fv_103 wd_104 ar_105) H1 := by have h9 := hB.1; rw [ht] at h9; exact h9
                              have fr_106 : fM [12] fv_84 fv_103 := fr_106
                              have fa_107 : fA [28, 29, 30, 31, 35] ar_86 ar_105 := fa_107
                              have p_98 : r_96.toInt = (fv_84 12).toInt ∧ (fv_103 12).toInt = (fv_84 12).toInt + 1 := p_98
                              have p_99 : ar_105 28 = upd (ar_86 28) ((fv_84 12).toInt.toNat) a := p_99
                              have p_100 : ar_105 29 = upd (ar_86 29) ((fv_84 12).toInt.toNat) b := p_100
                              have p_101 : ar_105 30 = upd (ar_86 30) ((fv_84 12).toInt.toNat) v := p_101
                              have p_102 : ar_105 31 = upd (ar_86 31) ((fv_84 12).toInt.toNat) d := p_102
                              generalize H1 = H at hP hS ⊢
                              refine lv_istore (lv' := [(7, .int r_96), (0, .ref (ob 0)), (1, .int a), (2, .int b), (3, .int v), (4, .int d), (5, .int f), (6, .int g)]) hx hb dX11_trip_115 hl (by decide) rfl (fun ls hl => ?_)
                              refine lv_aload_n hx hb dX11_trip_117 rfl (lv_at hl 1 rfl) ?_
                              refine gX_X11_16 hx hb htg hown hK hP dX11_trip_118 ?_
                              refine gX_X11_116 hx hb htg hown hK hP dX11_trip_121 ?_
                              refine lv_iload hx hb dX11_trip_124 (lv_at hl 0 rfl) ?_
                              refine lv_iload hx hb dX11_trip_126 (lv_at hl 6 rfl) ?_
                              refine lv_iload hx hb dX11_trip_128 (lv_at hl 7 rfl) ?_
                              refine lv_aload_n hx hb dX11_trip_130 rfl (lv_at hl 1 rfl) ?_
                              refine gX_X11_16 hx hb htg hown hK hP dX11_trip_131 ?_
                              refine gX_X11_57 hx hb htg hown hK hP dX11_trip_134 ?_
                              refine my_ti (y := fv 7) ((fr_106 7 rfl).trans ((fr_87 7 rfl).trans ((fr_44 7 rfl).trans ((fr_26 7 rfl).trans ((fr_8 7 rfl)))))) ?_
                              refine va_callv (va_runV (As := [.int r_96, .int f, .int g, .int (fv 7)]) (rest := []) ⟨hx, hb, hml, hown, hts⟩ (x_setDaysR l dC dI H.size ob ad cA hd fv_103 wd_104 ar_105 hF_fv_103 hA_ar_105 r_96 f g (fv 7) p_97) (cwV 4 hts (gV kw_3_214 kw_3_215 kw_3_216 kw_1_6 kw_3_217) rfl rfl rfl (by decide +kernel) ⟨Nat.le_of_ble_eq_true rfl, Nat.le_of_ble_eq_true rfl⟩) ⟨fun a U g mk q => ⟨q.1, q.2.1, q.2.2.1, va_K.moved (u := U) (U := U.calling g mk a) (Vm.Alike.refl U.vm) q.2.2.2⟩, va_recv hK hP (ci := 8) (q0 := 5) rfl rfl, fun U hU hW => ⟨rfl, by rw [hU], by rw [hU]; exact hP, va_K.moved hW.alike hK⟩⟩ rfl rfl hl.1 rfl (lv_room (Nat.le_of_ble_eq_true rfl)) dX11_trip_137 ⟨Nat.le_of_ble_eq_true rfl, Nat.le_of_ble_eq_true rfl⟩) hS (fun q _ h9 => aX_up hS q h9) (aX_up hS) (fun u t H1 locs ht _ hw hB _ hk1 hS => ?_)
                              obtain ⟨fv_113, wd_114, ar_115⟩ := u
                              obtain ⟨hF_fv_113, hA_ar_115, fr_116, fa_117, wf_118, p_110, p_111, p_112, -⟩ := hw
                              have wf_118 : wd_114.2 = wd_104.2 := wf_118
                              have hP : va_P (dC, dI) vwCl (wsX ob ad cA fv_113 wd_114 ar_115) H1 := by have h9 := hB.1; rw [ht] at h9; exact h9
                              have fr_116 : fM [] fv_103 fv_113 := fr_116
                              have fa_117 : fA [32, 33, 34] ar_105 ar_115 := fa_117
                              have p_110 : ar_115 32 = upd (ar_105 32) (r_96.toInt.toNat) f := p_110
                              have p_111 : ar_115 33 = upd (ar_105 33) (r_96.toInt.toNat) g := p_111
                              have p_112 : ar_115 34 = upd (ar_105 34) (r_96.toInt.toNat) (fv 7) := p_112
                              generalize H1 = H at hP hS ⊢
                              refine lv_iload hx hb dX11_trip_140 (lv_at hl 0 rfl) ?_
                              exact W.iret (v := r_96) hx hb hr (fun t ht hW => ⟨⟨r_96, (fv_113, wd_114, ar_115), rfl, ⟨hF_fv_113, hA_ar_115, (fM_call (fM_call (fM_call (fM_call (fM_call (fM_call (fM_rf [12] _) fr_8 (by decide)) fr_26 (by decide)) fr_44 (by decide)) fr_87 (by decide)) fr_106 (by decide)) fr_116 (by decide)), (fA_call (fA_call (fA_call (fA_call (fA_call (fA_call (fA_rf [28, 29, 30, 31, 32, 33, 34, 35] _) fa_9 (by decide)) fa_27 (by decide)) fa_45 (by decide)) fa_88 (by decide)) fa_107 (by decide)) fa_117 (by decide)), (wf_118.trans (wf_108.trans (wf_89.trans (wf_46.trans (wf_28.trans wf_10))))), (show ps_trip r_96 (fv_113 12) (fv 12) (fv 11) (fv 4) (fv 7) a b v d f g from Or.inr ⟨by omega, by rw [show fv_113 12 = (fv_103 12) from (fr_116 12 rfl)]; omega, by omega⟩), (show wt_ru r_96 (ar_115 28) (ar 28) (fv 12) a from by have h9 := p_99; rw [show ar_86 28 = ar 28 from ((fA_call (fA_call (fA_call (fA_call (fA_rf [] _) fa_9 (by decide)) fa_27 (by decide)) fa_45 (by decide)) fa_88 (by decide)) 28 rfl), show fv_84 12 = fv 12 from ((fM_call (fM_call (fM_call (fM_call (fM_rf [] _) fr_8 (by decide)) fr_26 (by decide)) fr_44 (by decide)) fr_87 (by decide)) 12 rfl)] at h9; rw [show ar_105 28 = ar_115 28 from (((fA_call (fA_rf [32, 33, 34] _) fa_117 (by decide)) 28 rfl)).symm] at h9; exact Or.inr ⟨by omega, h9⟩), (show wt_ru r_96 (ar_115 29) (ar 29) (fv 12) b from by have h9 := p_100; rw [show ar_86 29 = ar 29 from ((fA_call (fA_call (fA_call (fA_call (fA_rf [] _) fa_9 (by decide)) fa_27 (by decide)) fa_45 (by decide)) fa_88 (by decide)) 29 rfl), show fv_84 12 = fv 12 from ((fM_call (fM_call (fM_call (fM_call (fM_rf [] _) fr_8 (by decide)) fr_26 (by decide)) fr_44 (by decide)) fr_87 (by decide)) 12 rfl)] at h9; rw [show ar_105 29 = ar_115 29 from (((fA_call (fA_rf [32, 33, 34] _) fa_117 (by decide)) 29 rfl)).symm] at h9; exact Or.inr ⟨by omega, h9⟩), (show wt_ru r_96 (ar_115 30) (ar 30) (fv 12) v from by have h9 := p_101; rw [show ar_86 30 = ar 30 from ((fA_call (fA_call (fA_call (fA_call (fA_rf [] _) fa_9 (by decide)) fa_27 (by decide)) fa_45 (by decide)) fa_88 (by decide)) 30 rfl), show fv_84 12 = fv 12 from ((fM_call (fM_call (fM_call (fM_call (fM_rf [] _) fr_8 (by decide)) fr_26 (by decide)) fr_44 (by decide)) fr_87 (by decide)) 12 rfl)] at h9; rw [show ar_105 30 = ar_115 30 from (((fA_call (fA_rf [32, 33, 34] _) fa_117 (by decide)) 30 rfl)).symm] at h9; exact Or.inr ⟨by omega, h9⟩), (show wt_ru r_96 (ar_115 31) (ar 31) (fv 12) d from by have h9 := p_102; rw [show ar_86 31 = ar 31 from ((fA_call (fA_call (fA_call (fA_call (fA_rf [] _) fa_9 (by decide)) fa_27 (by decide)) fa_45 (by decide)) fa_88 (by decide)) 31 rfl), show fv_84 12 = fv 12 from ((fM_call (fM_call (fM_call (fM_call (fM_rf [] _) fr_8 (by decide)) fr_26 (by decide)) fr_44 (by decide)) fr_87 (by decide)) 12 rfl)] at h9; rw [show ar_105 31 = ar_115 31 from (((fA_call (fA_rf [32, 33, 34] _) fa_117 (by decide)) 31 rfl)).symm] at h9; exact Or.inr ⟨by omega, h9⟩), (show wt_ru r_96 (ar_115 32) (ar 32) (fv 12) f from by have : (fv_5 12).toInt = (fv 12).toInt := congrArg Int32.toInt ((fM_call (fM_rf [] _) fr_8 (by decide)) 12 rfl); have : (fv_23 12).toInt = (fv_5 12).toInt := congrArg Int32.toInt ((fM_call (fM_rf [] _) fr_26 (by decide)) 12 rfl); have : (fv_41 12).toInt = (fv_23 12).toInt := congrArg Int32.toInt ((fM_call (fM_rf [] _) fr_44 (by decide)) 12 rfl); have : (fv_84 12).toInt = (fv_41 12).toInt := congrArg Int32.toInt ((fM_call (fM_rf [] _) fr_87 (by decide)) 12 rfl); have : (fv_113 12).toInt = (fv_103 12).toInt := congrArg Int32.toInt ((fM_call (fM_rf [] _) fr_116 (by decide)) 12 rfl); have h9 := p_110; rw [show ar_105 32 = ar 32 from ((fA_call (fA_call (fA_call (fA_call (fA_call (fA_rf [28, 29, 30, 31, 35] _) fa_9 (by decide)) fa_27 (by decide)) fa_45 (by decide)) fa_88 (by decide)) fa_107 (by decide)) 32 rfl)] at h9; rw [show (r_96).toInt.toNat = (fv 12).toInt.toNat from by omega] at h9; exact Or.inr ⟨by omega, h9⟩), (show wt_ru r_96 (ar_115 33) (ar 33) (fv 12) g from by have : (fv_5 12).toInt = (fv 12).toInt := congrArg Int32.toInt ((fM_call (fM_rf [] _) fr_8 (by decide)) 12 rfl); have : (fv_23 12).toInt = (fv_5 12).toInt := congrArg Int32.toInt ((fM_call (fM_rf [] _) fr_26 (by decide)) 12 rfl); have : (fv_41 12).toInt = (fv_23 12).toInt := congrArg Int32.toInt ((fM_call (fM_rf [] _) fr_44 (by decide)) 12 rfl); have : (fv_84 12).toInt = (fv_41 12).toInt := congrArg Int32.toInt ((fM_call (fM_rf [] _) fr_87 (by decide)) 12 rfl); have : (fv_113 12).toInt = (fv_103 12).toInt := congrArg Int32.toInt ((fM_call (fM_rf [] _) fr_116 (by decide)) 12 rfl); have h9 := p_111; rw [show ar_105 33 = ar 33 from ((fA_call (fA_call (fA_call (fA_call (fA_call (fA_rf [28, 29, 30, 31, 35] _) fa_9 (by decide)) fa_27 (by decide)) fa_45 (by decide)) fa_88 (by decide)) fa_107 (by decide)) 33 rfl)] at h9; rw [show (r_96).toInt.toNat = (fv 12).toInt.toNat from by omega] at h9; exact Or.inr ⟨by omega, h9⟩), (show wt_ru r_96 (ar_115 34) (ar 34) (fv 12) (fv 7) from by have : (fv_5 12).toInt = (fv 12).toInt := congrArg Int32.toInt ((fM_call (fM_rf [] _) fr_8 (by decide)) 12 rfl); have : (fv_23 12).toInt = (fv_5 12).toInt := congrArg Int32.toInt ((fM_call (fM_rf [] _) fr_26 (by decide)) 12 rfl); have : (fv_41 12).toInt = (fv_23 12).toInt := congrArg Int32.toInt ((fM_call (fM_rf [] _) fr_44 (by decide)) 12 rfl); have : (fv_84 12).toInt = (fv_41 12).toInt := congrArg Int32.toInt ((fM_call (fM_rf [] _) fr_87 (by decide)) 12 rfl); have : (fv_113 12).toInt = (fv_103 12).toInt := congrArg Int32.toInt ((fM_call (fM_rf [] _) fr_116 (by decide)) 12 rfl); have h9 := p_112; rw [show ar_105 34 = ar 34 from ((fA_call (fA_call (fA_call (fA_call (fA_call (fA_rf [28, 29, 30, 31, 35] _) fa_9 (by decide)) fa_27 (by decide)) fa_45 (by decide)) fa_88 (by decide)) fa_107 (by decide)) 34 rfl)] at h9; rw [show (r_96).toInt.toNat = (fv 12).toInt.toNat from by omega] at h9; exact Or.inr ⟨by omega, h9⟩), trivial⟩, ⟨by rw [ht]; exact hP, va_K.moved hW.alike hK⟩⟩, hS.F ht⟩) hS.2.2 dX11_trip_142
                            · skip
                              exact absurd c_91 (by decide)
                          · skip
                            have q_119 : 80 ≤ (fv_41 12).toInt := p_83
                            refine lv_if_eq (tgt := 100) hx hb dX11_trip_95 (by decide) (fun c_120 => ?_) (fun c_120 => ?_)
                            · skip
                              exact absurd c_120 (by decide)
                            · skip
                              refine lv_iconst (v := (-1)) hx hb dX11_trip_98 (by decide) ?_
                              have z_121 : ((-1) : Int32).toInt = (-1) := by decide
                              exact W.iret (v := (-1)) hx hb hr (fun t ht hW => ⟨⟨(-1), (fv_84, wd_85, ar_86), rfl, ⟨hF_fv_84, hA_ar_86, (fM_call (fM_call (fM_call (fM_call (fM_rf [12] _) fr_8 (by decide)) fr_26 (by decide)) fr_44 (by decide)) fr_87 (by decide)), (fA_call (fA_call (fA_call (fA_call (fA_rf [28, 29, 30, 31, 32, 33, 34, 35] _) fa_9 (by decide)) fa_27 (by decide)) fa_45 (by decide)) fa_88 (by decide)), (wf_89.trans (wf_46.trans (wf_28.trans wf_10))), (show ps_trip ((-1) : Int32) (fv_84 12) (fv 12) (fv 11) (fv 4) (fv 7) a b v d f g from Or.inl ⟨rfl, (fr_87 12 rfl).trans ((fr_44 12 rfl).trans ((fr_26 12 rfl).trans ((fr_8 12 rfl)))), by omega⟩), (show wt_ru ((-1) : Int32) (ar_86 28) (ar 28) (fv 12) a from Or.inl ⟨by decide, ((fA_call (fA_call (fA_call (fA_call (fA_rf [] _) fa_9 (by decide)) fa_27 (by decide)) fa_45 (by decide)) fa_88 (by decide)) 28 rfl)⟩), (show wt_ru ((-1) : Int32) (ar_86 29) (ar 29) (fv 12) b from Or.inl ⟨by decide, ((fA_call (fA_call (fA_call (fA_call (fA_rf [] _) fa_9 (by decide)) fa_27 (by decide)) fa_45 (by decide)) fa_88 (by decide)) 29 rfl)⟩), (show wt_ru ((-1) : Int32) (ar_86 30) (ar 30) (fv 12) v from Or.inl ⟨by decide, ((fA_call (fA_call (fA_call (fA_call (fA_rf [] _) fa_9 (by decide)) fa_27 (by decide)) fa_45 (by decide)) fa_88 (by decide)) 30 rfl)⟩), (show wt_ru ((-1) : Int32) (ar_86 31) (ar 31) (fv 12) d from Or.inl ⟨by decide, ((fA_call (fA_call (fA_call (fA_call (fA_rf [] _) fa_9 (by decide)) fa_27 (by decide)) fa_45 (by decide)) fa_88 (by decide)) 31 rfl)⟩), (show wt_ru ((-1) : Int32) (ar_86 32) (ar 32) (fv 12) f from Or.inl ⟨by decide, ((fA_call (fA_call (fA_call (fA_call (fA_rf [] _) fa_9 (by decide)) fa_27 (by decide)) fa_45 (by decide)) fa_88 (by decide)) 32 rfl)⟩), (show wt_ru ((-1) : Int32) (ar_86 33) (ar 33) (fv 12) g from Or.inl ⟨by decide, ((fA_call (fA_call (fA_call (fA_call (fA_rf [] _) fa_9 (by decide)) fa_27 (by decide)) fa_45 (by decide)) fa_88 (by decide)) 33 rfl)⟩), (show wt_ru ((-1) : Int32) (ar_86 34) (ar 34) (fv 12) (fv 7) from Or.inl ⟨by decide, ((fA_call (fA_call (fA_call (fA_call (fA_rf [] _) fa_9 (by decide)) fa_27 (by decide)) fa_45 (by decide)) fa_88 (by decide)) 34 rfl)⟩), trivial⟩, ⟨by rw [ht]; exact hP, va_K.moved hW.alike hK⟩⟩, hS.F ht⟩) hS.2.2 dX11_trip_99
                  · skip
                    have i_122 : 720 ≤ d.toInt ∧ d.toInt ≤ 2147483647 := iv_lt2 (⟨by decide, by decide⟩ : (719 : Int) ≤ (719 : Int32).toInt ∧ (719 : Int32).toInt ≤ 719) i_59 (Int32.not_le.mp c_60)
                    refine lv_iconst (v := (-1)) hx hb dX11_trip_56 (by decide) ?_
                    have z_123 : ((-1) : Int32).toInt = (-1) := by decide
                    exact W.iret (v := (-1)) hx hb hr (fun t ht hW => ⟨⟨(-1), (fv_41, wd_42, ar_43), rfl, ⟨hF_fv_41, hA_ar_43, (fM_call (fM_call (fM_call (fM_rf [12] _) fr_8 (by decide)) fr_26 (by decide)) fr_44 (by decide)), (fA_call (fA_call (fA_call (fA_rf [28, 29, 30, 31, 32, 33, 34, 35] _) fa_9 (by decide)) fa_27 (by decide)) fa_45 (by decide)), (wf_46.trans (wf_28.trans wf_10)), (show ps_trip ((-1) : Int32) (fv_41 12) (fv 12) (fv 11) (fv 4) (fv 7) a b v d f g from Or.inl ⟨rfl, (fr_44 12 rfl).trans ((fr_26 12 rfl).trans ((fr_8 12 rfl))), by omega⟩), (show wt_ru ((-1) : Int32) (ar_43 28) (ar 28) (fv 12) a from Or.inl ⟨by decide, ((fA_call (fA_call (fA_call (fA_rf [] _) fa_9 (by decide)) fa_27 (by decide)) fa_45 (by decide)) 28 rfl)⟩), (show wt_ru ((-1) : Int32) (ar_43 29) (ar 29) (fv 12) b from Or.inl ⟨by decide, ((fA_call (fA_call (fA_call (fA_rf [] _) fa_9 (by decide)) fa_27 (by decide)) fa_45 (by decide)) 29 rfl)⟩), (show wt_ru ((-1) : Int32) (ar_43 30) (ar 30) (fv 12) v from Or.inl ⟨by decide, ((fA_call (fA_call (fA_call (fA_rf [] _) fa_9 (by decide)) fa_27 (by decide)) fa_45 (by decide)) 30 rfl)⟩), (show wt_ru ((-1) : Int32) (ar_43 31) (ar 31) (fv 12) d from Or.inl ⟨by decide, ((fA_call (fA_call (fA_call (fA_rf [] _) fa_9 (by decide)) fa_27 (by decide)) fa_45 (by decide)) 31 rfl)⟩), (show wt_ru ((-1) : Int32) (ar_43 32) (ar 32) (fv 12) f from Or.inl ⟨by decide, ((fA_call (fA_call (fA_call (fA_rf [] _) fa_9 (by decide)) fa_27 (by decide)) fa_45 (by decide)) 32 rfl)⟩), (show wt_ru ((-1) : Int32) (ar_43 33) (ar 33) (fv 12) g from Or.inl ⟨by decide, ((fA_call (fA_call (fA_call (fA_rf [] _) fa_9 (by decide)) fa_27 (by decide)) fa_45 (by decide)) 33 rfl)⟩), (show wt_ru ((-1) : Int32) (ar_43 34) (ar 34) (fv 12) (fv 7) from Or.inl ⟨by decide, ((fA_call (fA_call (fA_call (fA_rf [] _) fa_9 (by decide)) fa_27 (by decide)) fa_45 (by decide)) 34 rfl)⟩), trivial⟩, ⟨by rw [ht]; exact hP, va_K.moved hW.alike hK⟩⟩, hS.F ht⟩) hS.2.2 dX11_trip_57
              · skip
                have k_124 := congrArg Int32.toInt c_54
                refine lv_iconst (v := (-1)) hx hb dX11_trip_41 (by decide) ?_
                have z_125 : ((-1) : Int32).toInt = (-1) := by decide
                exact W.iret (v := (-1)) hx hb hr (fun t ht hW => ⟨⟨(-1), (fv_41, wd_42, ar_43), rfl, ⟨hF_fv_41, hA_ar_43, (fM_call (fM_call (fM_call (fM_rf [12] _) fr_8 (by decide)) fr_26 (by decide)) fr_44 (by decide)), (fA_call (fA_call (fA_call (fA_rf [28, 29, 30, 31, 32, 33, 34, 35] _) fa_9 (by decide)) fa_27 (by decide)) fa_45 (by decide)), (wf_46.trans (wf_28.trans wf_10)), (show ps_trip ((-1) : Int32) (fv_41 12) (fv 12) (fv 11) (fv 4) (fv 7) a b v d f g from Or.inl ⟨rfl, (fr_44 12 rfl).trans ((fr_26 12 rfl).trans ((fr_8 12 rfl))), by omega⟩), (show wt_ru ((-1) : Int32) (ar_43 28) (ar 28) (fv 12) a from Or.inl ⟨by decide, ((fA_call (fA_call (fA_call (fA_rf [] _) fa_9 (by decide)) fa_27 (by decide)) fa_45 (by decide)) 28 rfl)⟩), (show wt_ru ((-1) : Int32) (ar_43 29) (ar 29) (fv 12) b from Or.inl ⟨by decide, ((fA_call (fA_call (fA_call (fA_rf [] _) fa_9 (by decide)) fa_27 (by decide)) fa_45 (by decide)) 29 rfl)⟩), (show wt_ru ((-1) : Int32) (ar_43 30) (ar 30) (fv 12) v from Or.inl ⟨by decide, ((fA_call (fA_call (fA_call (fA_rf [] _) fa_9 (by decide)) fa_27 (by decide)) fa_45 (by decide)) 30 rfl)⟩), (show wt_ru ((-1) : Int32) (ar_43 31) (ar 31) (fv 12) d from Or.inl ⟨by decide, ((fA_call (fA_call (fA_call (fA_rf [] _) fa_9 (by decide)) fa_27 (by decide)) fa_45 (by decide)) 31 rfl)⟩), (show wt_ru ((-1) : Int32) (ar_43 32) (ar 32) (fv 12) f from Or.inl ⟨by decide, ((fA_call (fA_call (fA_call (fA_rf [] _) fa_9 (by decide)) fa_27 (by decide)) fa_45 (by decide)) 32 rfl)⟩), (show wt_ru ((-1) : Int32) (ar_43 33) (ar 33) (fv 12) g from Or.inl ⟨by decide, ((fA_call (fA_call (fA_call (fA_rf [] _) fa_9 (by decide)) fa_27 (by decide)) fa_45 (by decide)) 33 rfl)⟩), (show wt_ru ((-1) : Int32) (ar_43 34) (ar 34) (fv 12) (fv 7) from Or.inl ⟨by decide, ((fA_call (fA_call (fA_call (fA_rf [] _) fa_9 (by decide)) fa_27 (by decide)) fa_45 (by decide)) 34 rfl)⟩), trivial⟩, ⟨by rw [ht]; exact hP, va_K.moved hW.alike hK⟩⟩, hS.F ht⟩) hS.2.2 dX11_trip_42

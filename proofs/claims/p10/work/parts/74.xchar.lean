theorem dJ0_charAt_5068e_0 : decode cJ0_charAt_5068e 0 = .ok (.aload_n 0, 1) := by decide +kernel
theorem dJ0_charAt_5068e_1 : decode cJ0_charAt_5068e 1 = .ok (.invokevirtual 492, 3) := by decide +kernel
theorem dJ0_charAt_5068e_4 : decode cJ0_charAt_5068e 4 = .ok (.ifCond .eq 12, 3) := by decide +kernel
theorem dJ0_charAt_5068e_7 : decode cJ0_charAt_5068e 7 = .ok (.aload_n 0, 1) := by decide +kernel
theorem dJ0_charAt_5068e_8 : decode cJ0_charAt_5068e 8 = .ok (.getfield 9, 3) := by decide +kernel
theorem dJ0_charAt_5068e_11 : decode cJ0_charAt_5068e 11 = .ok (.iload_n 1, 1) := by decide +kernel
theorem dJ0_charAt_5068e_12 : decode cJ0_charAt_5068e 12 = .ok (.invokestatic 495, 3) := by decide +kernel
theorem dJ0_charAt_5068e_15 : decode cJ0_charAt_5068e 15 = .ok (.ireturn, 1) := by decide +kernel
theorem dJ0_checkIndex_df160_0 : decode cJ0_checkIndex_df160 0 = .ok (.iload_n 0, 1) := by decide +kernel
theorem dJ0_checkIndex_df160_1 : decode cJ0_checkIndex_df160 1 = .ok (.iload_n 1, 1) := by decide +kernel
theorem dJ0_checkIndex_df160_2 : decode cJ0_checkIndex_df160 2 = .ok (.getstatic 1053, 3) := by decide +kernel
theorem dJ0_checkIndex_df160_5 : decode cJ0_checkIndex_df160 5 = .ok (.invokestatic 1059, 3) := by decide +kernel
theorem dJ0_checkIndex_df160_8 : decode cJ0_checkIndex_df160 8 = .ok (.pop, 1) := by decide +kernel
theorem dJ0_checkIndex_df160_9 : decode cJ0_checkIndex_df160 9 = .ok (.return_, 1) := by decide +kernel
theorem dJ1_charAt_3b067_0 : decode cJ1_charAt_3b067 0 = .ok (.iload_n 1, 1) := by decide +kernel
theorem dJ1_charAt_3b067_1 : decode cJ1_charAt_3b067 1 = .ok (.aload_n 0, 1) := by decide +kernel
theorem dJ1_charAt_3b067_2 : decode cJ1_charAt_3b067 2 = .ok (.arraylength, 1) := by decide +kernel
theorem dJ1_charAt_3b067_3 : decode cJ1_charAt_3b067 3 = .ok (.invokestatic 9, 3) := by decide +kernel
theorem dJ1_charAt_3b067_6 : decode cJ1_charAt_3b067 6 = .ok (.aload_n 0, 1) := by decide +kernel
theorem dJ1_charAt_3b067_7 : decode cJ1_charAt_3b067 7 = .ok (.iload_n 1, 1) := by decide +kernel
theorem dJ1_charAt_3b067_8 : decode cJ1_charAt_3b067 8 = .ok (.baload, 1) := by decide +kernel
theorem dJ1_charAt_3b067_9 : decode cJ1_charAt_3b067 9 = .ok (.sipush 255, 3) := by decide +kernel
theorem dJ1_charAt_3b067_12 : decode cJ1_charAt_3b067 12 = .ok (.iand, 1) := by decide +kernel
theorem dJ1_charAt_3b067_13 : decode cJ1_charAt_3b067 13 = .ok (.i2c, 1) := by decide +kernel
theorem dJ1_charAt_3b067_14 : decode cJ1_charAt_3b067 14 = .ok (.ireturn, 1) := by decide +kernel
theorem st_i0 : ∀ n, n < 256 → ((nI n).toUInt32 % 65536).toInt32 = nI n := by decide +kernel
theorem st_n0 : ∀ n, n < 256 → narrow .char (.int (nI n)) = .int (nI n) := by
  intro n hn
  have h : ∀ n, n < 256 → (nI n).toUInt32.toUInt16.toUInt32.toInt32 = nI n := by decide +kernel
  show Value.int _ = _
  rw [h n hn]
theorem st_i2c {x : Int32} (h : 0 ≤ x.toInt ∧ x.toInt ≤ 255) : (x.toUInt32 % 65536).toInt32 = x := by
  obtain ⟨n, rfl, hn⟩ := iv_nI h
  exact st_i0 n (by omega)
theorem st_nar {x : Int32} (h : 0 ≤ x.toInt ∧ x.toInt ≤ 255) : narrow .char (.int x) = .int x := by
  obtain ⟨n, rfl, hn⟩ := iv_nI h
  exact st_n0 n (by omega)
set_option maxHeartbeats 4000000 in
set_option maxRecDepth 100000 in
theorem x_ck3r (l : Launch) (sz : Nat) (fr9 : Nat) (ii : Int32) (ln : Int32) (h_ii : 0 ≤ ii.toInt ∧ ii.toInt ≤ 9) (hi : ii.toInt < ln.toInt) : Met l yJ3_checkIndex_8e157 (.code yJ3_checkIndex_8e157 cJ3_checkIndex_8e157 3 (some .int) :: lw_good) ({ frames := 2, cells := 0, slots := 0, locals := 40 }) (va_Pc [.int ii, .int ln, .ref fr9] (fun U => U.heap.size = sz)) (va_Qi (fun (r : Int32) (_ : Unit) => True) (fun (_ : Unit) (_ : State) => True) (fun q => sz ≤ q)) 0 0 (fun q => sz ≤ q) := by
  refine Met.ofW (cc := cJ3_checkIndex_8e157) (maxL := 3) (ret := (some .int)) (by decide) rfl ?_
  intro p e s m args below meth c s₁ B hml hv
  obtain ⟨rfl, hsz⟩ := hv
  have hx := B.exec
  have hb := B.bytes
  have hr := B.returns
  have hts := atoms_spec (ws := (.code yJ3_checkIndex_8e157 cJ3_checkIndex_8e157 3 (some .int) :: lw_good)) B.pre
  have htg : ∀ w ∈ lw_good, w.before _ s = true := fun w hw => hts w (List.mem_cons_of_mem _ hw)
  have hown : s.vm.findClass RJ3 = some m.cls := findClass_of_methodNamed B.named
  have hlocks := B.notSynchronized
  subst hsz
  have hS : va_S (fun q => s.heap.size ≤ q) s.heap s.heap [] := va_S.rf
  have hl := lv_entry ([.int ii, .int ln, .ref fr9]) (n := 3) (Nat.le_of_ble_eq_true rfl)
  rw [lg_entry_eq]
  generalize (lg_sl ([.int ii, .int ln, .ref fr9]) ++ List.replicate (3 - (lg_sl ([.int ii, .int ln, .ref fr9])).length) Slot.unset).toArray = ls at hl ⊢
  have hl : lv_has ls 3 [(0, .int ii), (1, .int ln), (2, .ref fr9)] := hl
  refine lv_iload_n hx hb dJ3_checkIndex_8e157_0 rfl (lv_at hl 0 rfl) ?_
  refine lv_if_lt (tgt := 9) hx hb dJ3_checkIndex_8e157_1 (by decide) (fun c_1 => ?_) (fun c_1 => ?_)
  · skip
    exact absurd True.intro (by have h7 := h_ii; have h8 := (⟨by decide, by decide⟩ : (0 : Int) ≤ (0 : Int32).toInt ∧ (0 : Int32).toInt ≤ 0); have h9 := Int32.lt_iff_toInt_lt.mp c_1; exfalso; omega)
  · skip
    refine lv_iload_n hx hb dJ3_checkIndex_8e157_4 rfl (lv_at hl 0 rfl) ?_
    refine lv_iload_n hx hb dJ3_checkIndex_8e157_5 rfl (lv_at hl 1 rfl) ?_
    refine lv_icmp_lt (tgt := 16) hx hb dJ3_checkIndex_8e157_6 (by decide) (fun c_2 => ?_) (fun c_2 => ?_)
    · skip
      have i_3 : 1 ≤ ln.toInt ∧ ln.toInt ≤ 2147483647 := iv_lt2 h_ii (iv_any ln) c_2
      refine lv_iload_n hx hb dJ3_checkIndex_8e157_16 rfl (lv_at hl 0 rfl) ?_
      exact W.iret (v := ii) hx hb hr (fun t ht hW => ⟨⟨ii, (), rfl, trivial, trivial⟩, hS.F ht⟩) hS.2.2 dJ3_checkIndex_8e157_17
    · skip
      exact absurd True.intro (by have h9 := Int32.le_iff_toInt_le.mp (Int32.not_lt.mp c_2); exfalso; omega)
set_option maxHeartbeats 4000000 in
set_option maxRecDepth 100000 in
theorem x_sck (l : Launch) (sz : Nat) (ak av ln : Nat) (bt : Nat → Int32) (ii : Int32) (lm : Int32) (h_ii : 0 ≤ ii.toInt ∧ ii.toInt ≤ 7) (hi : ii.toInt < lm.toInt) : Met l yJ0_checkIndex_df160 (.code yJ0_checkIndex_df160 cJ0_checkIndex_df160 2 none :: lw_good) ({ frames := 3, cells := 0, slots := 0, locals := 62 }) (va_Pc [.int ii, .int lm] (fun U => U.heap.size = sz ∧ stA ak av ln bt (fun q => sz ≤ q) U)) (va_Qv (fun (_ : Unit) => True) (fun (_ : Unit) (_ : State) => True) (fun q => sz ≤ q)) 0 0 (fun q => sz ≤ q) := by
  refine Met.ofW (cc := cJ0_checkIndex_df160) (maxL := 2) (ret := none) (by decide) rfl ?_
  intro p e s m args below meth c s₁ B hml hv
  obtain ⟨rfl, hsz, hT⟩ := hv
  have hx := B.exec
  have hb := B.bytes
  have hr := B.returns
  have hts := atoms_spec (ws := (.code yJ0_checkIndex_df160 cJ0_checkIndex_df160 2 none :: lw_good)) B.pre
  have htg : ∀ w ∈ lw_good, w.before _ s = true := fun w hw => hts w (List.mem_cons_of_mem _ hw)
  have hown : s.vm.findClass RJ0 = some m.cls := findClass_of_methodNamed B.named
  have hlocks := B.notSynchronized
  subst hsz
  have hS : va_S (fun q => s.heap.size ≤ q) s.heap s.heap [] := va_S.rf
  have hl := lv_entry ([.int ii, .int lm]) (n := 2) (Nat.le_of_ble_eq_true rfl)
  rw [lg_entry_eq]
  generalize (lg_sl ([.int ii, .int lm]) ++ List.replicate (2 - (lg_sl ([.int ii, .int lm])).length) Slot.unset).toArray = ls at hl ⊢
  have hl : lv_has ls 2 [(0, .int ii), (1, .int lm)] := hl
  refine lv_iload_n hx hb dJ0_checkIndex_df160_0 rfl (lv_at hl 0 rfl) ?_
  refine lv_iload_n hx hb dJ0_checkIndex_df160_1 rfl (lv_at hl 1 rfl) ?_
  rcases st_Q hT with hq9 | ⟨t9, hq9⟩
  · skip
    refine va_gets hx hb hq9 hS hown (htg (.fieldLink RJ0 1053 "jdk/internal/util/Preconditions" "SIOOBE_FORMATTER" "Ljava/util/function/BiFunction;") kw_4_69) (fun _ h9 => h9) dJ0_checkIndex_df160_2 ?_
    refine va_calli (va_runS (As := [.int ii, .int lm, .null]) (rest := []) ⟨hx, hb, hml, hown, hts⟩ (x_ck3 l s.heap.size ii lm (iv_w h_ii (by decide) (by decide)) (by omega)) (va_cwS 3 hts (gS kw_4_71 kw_4_72 kw_1_21 kw_4_73) rfl rfl rfl (by decide +kernel) ⟨Nat.le_of_ble_eq_true rfl, Nat.le_of_ble_eq_true rfl⟩) ⟨fun a U g mk q => ⟨q.1, q.2⟩, fun U hU hW => ⟨rfl, congrArg Array.size hU⟩⟩ rfl rfl hl.1 rfl (lv_room (Nat.le_of_ble_eq_true rfl)) dJ0_checkIndex_df160_5 ⟨Nat.le_of_ble_eq_true rfl, Nat.le_of_ble_eq_true rfl⟩) hS (fun q _ h9 => Nat.le_trans hS.1 h9) (fun q h9 => Nat.le_trans hS.1 h9) (fun r_1 u t H1 locs ht _ hw hB _ hk1 hS => ?_)
    skip
    generalize H1 = H at hS ⊢
    refine lv_pop hx hb dJ0_checkIndex_df160_8 rfl ?_
    exact W.vret hx hb hr (fun t ht hW => ⟨⟨(), rfl, trivial, trivial⟩, hS.F ht⟩) hS.2.2 dJ0_checkIndex_df160_9
  · skip
    refine va_gets hx hb hq9 hS hown (htg (.fieldLink RJ0 1053 "jdk/internal/util/Preconditions" "SIOOBE_FORMATTER" "Ljava/util/function/BiFunction;") kw_4_69) (fun _ h9 => h9) dJ0_checkIndex_df160_2 ?_
    refine va_calli (va_runS (As := [.int ii, .int lm, .ref t9]) (rest := []) ⟨hx, hb, hml, hown, hts⟩ (x_ck3r l s.heap.size t9 ii lm (iv_w h_ii (by decide) (by decide)) (by omega)) (va_cwS 3 hts (gS kw_4_71 kw_4_72 kw_1_21 kw_4_73) rfl rfl rfl (by decide +kernel) ⟨Nat.le_of_ble_eq_true rfl, Nat.le_of_ble_eq_true rfl⟩) ⟨fun a U g mk q => ⟨q.1, q.2⟩, fun U hU hW => ⟨rfl, congrArg Array.size hU⟩⟩ rfl rfl hl.1 rfl (lv_room (Nat.le_of_ble_eq_true rfl)) dJ0_checkIndex_df160_5 ⟨Nat.le_of_ble_eq_true rfl, Nat.le_of_ble_eq_true rfl⟩) hS (fun q _ h9 => Nat.le_trans hS.1 h9) (fun q h9 => Nat.le_trans hS.1 h9) (fun r_2 u t H1 locs ht _ hw hB _ hk1 hS => ?_)
    skip
    generalize H1 = H at hS ⊢
    refine lv_pop hx hb dJ0_checkIndex_df160_8 rfl ?_
    exact W.vret hx hb hr (fun t ht hW => ⟨⟨(), rfl, trivial, trivial⟩, hS.F ht⟩) hS.2.2 dJ0_checkIndex_df160_9
set_option maxHeartbeats 4000000 in
set_option maxRecDepth 100000 in
theorem x_lcharAt (l : Launch) (sz : Nat) (ak av ln : Nat) (bt : Nat → Int32) (ii : Int32) (h_ii : 0 ≤ ii.toInt ∧ ii.toInt ≤ 7) (hi : ii.toInt < ln) : Met l yJ1_charAt_3b067 (.code yJ1_charAt_3b067 cJ1_charAt_3b067 2 (some .char) :: lw_good) ({ frames := 4, cells := 0, slots := 0, locals := 83 }) (va_Pc [.ref av, .int ii] (fun U => U.heap.size = sz ∧ stA ak av ln bt (fun q => sz ≤ q) U)) (va_Qi (fun (r : Int32) (_ : Unit) => (0 ≤ r.toInt ∧ r.toInt ≤ 255) ∧ True) (fun (_ : Unit) (_ : State) => True) (fun q => sz ≤ q)) 0 0 (fun q => sz ≤ q) := by
  refine Met.ofW (cc := cJ1_charAt_3b067) (maxL := 2) (ret := (some .char)) (by decide) rfl ?_
  intro p e s m args below meth c s₁ B hml hv
  obtain ⟨rfl, hsz, hT⟩ := hv
  have hx := B.exec
  have hb := B.bytes
  have hr := B.returns
  have hts := atoms_spec (ws := (.code yJ1_charAt_3b067 cJ1_charAt_3b067 2 (some .char) :: lw_good)) B.pre
  have htg : ∀ w ∈ lw_good, w.before _ s = true := fun w hw => hts w (List.mem_cons_of_mem _ hw)
  have hown : s.vm.findClass RJ1 = some m.cls := findClass_of_methodNamed B.named
  have hlocks := B.notSynchronized
  subst hsz
  have hS : va_S (fun q => s.heap.size ≤ q) s.heap s.heap [] := va_S.rf
  have hl := lv_entry ([.ref av, .int ii]) (n := 2) (Nat.le_of_ble_eq_true rfl)
  rw [lg_entry_eq]
  generalize (lg_sl ([.ref av, .int ii]) ++ List.replicate (2 - (lg_sl ([.ref av, .int ii])).length) Slot.unset).toArray = ls at hl ⊢
  have hl : lv_has ls 2 [(0, .ref av), (1, .int ii)] := hl
  refine lv_iload_n hx hb dJ1_charAt_3b067_0 rfl (lv_at hl 1 rfl) ?_
  refine lv_aload_n hx hb dJ1_charAt_3b067_1 rfl (lv_at hl 0 rfl) ?_
  refine va_tlen hx hb (st_T hT) hS (v := nI ln) rfl dJ1_charAt_3b067_2 ?_
  refine lv_topi (fun v_1 ev_1 => ?_)
  have kv_1 : v_1.toInt = ln := by rw [ev_1]; have h8 := hT.2; exact nI_toInt (by omega)
  have i_2 : 0 ≤ v_1.toInt ∧ v_1.toInt ≤ 8 := (by have h8 := hT.2; omega)
  refine va_callv (va_runS (As := [.int ii, .int v_1]) (rest := []) ⟨hx, hb, hml, hown, hts⟩ (x_sck l s.heap.size ak av ln bt ii v_1 h_ii (by omega)) (va_cwS 2 hts (gS kw_4_66 kw_4_67 kw_1_19 kw_4_68) rfl rfl rfl (by decide +kernel) ⟨Nat.le_of_ble_eq_true rfl, Nat.le_of_ble_eq_true rfl⟩) ⟨fun a U g mk q => ⟨q.1, q.2.1, st_mv (U := U.calling g mk a) rfl (Vm.Alike.refl U.vm) q.2.2⟩, fun U hU hW => ⟨rfl, congrArg Array.size hU, st_pass hT hS hU hW.alike (fun q h9 => Nat.le_trans hS.1 h9)⟩⟩ rfl rfl hl.1 rfl (lv_room (Nat.le_of_ble_eq_true rfl)) dJ1_charAt_3b067_3 ⟨Nat.le_of_ble_eq_true rfl, Nat.le_of_ble_eq_true rfl⟩) hS (fun q _ h9 => Nat.le_trans hS.1 h9) (fun q h9 => Nat.le_trans hS.1 h9) (fun u t H1 locs ht _ hw hB _ hk1 hS => ?_)
  skip
  generalize H1 = H at hS ⊢
  refine lv_aload_n hx hb dJ1_charAt_3b067_6 rfl (lv_at hl 0 rfl) ?_
  refine lv_iload_n hx hb dJ1_charAt_3b067_7 rfl (lv_at hl 1 rfl) ?_
  refine va_tb hx hb (st_T hT) hS (vp_in_iff.mpr (by omega)) rfl dJ1_charAt_3b067_8 ?_
  refine lv_topi (fun v_4 ev_4 => ?_)
  refine lv_sipush (v := 255) hx hb dJ1_charAt_3b067_9 (by decide) ?_
  refine lv_iand hx hb dJ1_charAt_3b067_12 ?_
  refine lv_topi (fun v_5 ev_5 => ?_)
  have i_6 : 0 ≤ v_5.toInt ∧ v_5.toInt ≤ 255 := iv_and ev_5
  refine lv_i2c (v := v_5) hx hb dJ1_charAt_3b067_13 (st_i2c i_6) ?_
  exact W.zret (v := v_5) hx hb hr (st_nar i_6) (fun t ht hW => ⟨⟨v_5, (), rfl, ⟨i_6, trivial⟩, trivial⟩, hS.F ht⟩) hS.2.2 dJ1_charAt_3b067_14
set_option maxHeartbeats 4000000 in
set_option maxRecDepth 100000 in
theorem x_charAt (l : Launch) (sz : Nat) (ak av ln : Nat) (bt : Nat → Int32) (ii : Int32) (h_ii : 0 ≤ ii.toInt ∧ ii.toInt ≤ 7) (hi : ii.toInt < ln) : Met l yJ0_charAt_5068e (.code yJ0_charAt_5068e cJ0_charAt_5068e 2 (some .char) :: lw_good) ({ frames := 5, cells := 0, slots := 0, locals := 104 }) (va_Pc [.ref ak, .int ii] (fun U => U.heap.size = sz ∧ stA ak av ln bt (fun q => sz ≤ q) U)) (va_Qi (fun (r : Int32) (_ : Unit) => (0 ≤ r.toInt ∧ r.toInt ≤ 255) ∧ True) (fun (_ : Unit) (_ : State) => True) (fun q => sz ≤ q)) 0 0 (fun q => sz ≤ q) := by
  refine Met.ofW (cc := cJ0_charAt_5068e) (maxL := 2) (ret := (some .char)) (by decide) rfl ?_
  intro p e s m args below meth c s₁ B hml hv
  obtain ⟨rfl, hsz, hT⟩ := hv
  have hx := B.exec
  have hb := B.bytes
  have hr := B.returns
  have hts := atoms_spec (ws := (.code yJ0_charAt_5068e cJ0_charAt_5068e 2 (some .char) :: lw_good)) B.pre
  have htg : ∀ w ∈ lw_good, w.before _ s = true := fun w hw => hts w (List.mem_cons_of_mem _ hw)
  have hown : s.vm.findClass RJ0 = some m.cls := findClass_of_methodNamed B.named
  have hlocks := B.notSynchronized
  subst hsz
  have hS : va_S (fun q => s.heap.size ≤ q) s.heap s.heap [] := va_S.rf
  have hl := lv_entry ([.ref ak, .int ii]) (n := 2) (Nat.le_of_ble_eq_true rfl)
  rw [lg_entry_eq]
  generalize (lg_sl ([.ref ak, .int ii]) ++ List.replicate (2 - (lg_sl ([.ref ak, .int ii])).length) Slot.unset).toArray = ls at hl ⊢
  have hl : lv_has ls 2 [(0, .ref ak), (1, .int ii)] := hl
  refine lv_aload_n hx hb dJ0_charAt_5068e_0 rfl (lv_at hl 0 rfl) ?_
  refine va_calli (va_runV (As := []) (rest := []) ⟨hx, hb, hml, hown, hts⟩ (x_isLatin1 l s.heap.size ak av ln bt) (cwV 0 hts (gV kw_4_59 kw_4_60 kw_4_61 kw_1_19 kw_4_62) rfl rfl rfl (by decide +kernel) ⟨Nat.le_of_ble_eq_true rfl, Nat.le_of_ble_eq_true rfl⟩) ⟨fun a U g mk q => ⟨q.1, q.2.1, st_mv (U := U.calling g mk a) rfl (Vm.Alike.refl U.vm) q.2.2⟩, st_recv hT hS, fun U hU hW => ⟨rfl, congrArg Array.size hU, st_pass hT hS hU hW.alike (fun q h9 => Nat.le_trans hS.1 h9)⟩⟩ rfl rfl hl.1 rfl (lv_room (Nat.le_of_ble_eq_true rfl)) dJ0_charAt_5068e_1 ⟨Nat.le_of_ble_eq_true rfl, Nat.le_of_ble_eq_true rfl⟩) hS (fun q _ h9 => Nat.le_trans hS.1 h9) (fun q h9 => Nat.le_trans hS.1 h9) (fun r_1 u t H1 locs ht _ hw hB _ hk1 hS => ?_)
  obtain ⟨p_2, p_3, -⟩ := hw
  skip
  generalize H1 = H at hS ⊢
  rcases p_3 with ⟨rfl, p_3⟩
  · skip
    refine lv_if_eq (tgt := 16) hx hb dJ0_charAt_5068e_4 (by decide) (fun c_4 => ?_) (fun c_4 => ?_)
    · skip
      exact absurd c_4 (by decide)
    · skip
      refine lv_aload_n hx hb dJ0_charAt_5068e_7 rfl (lv_at hl 0 rfl) ?_
      refine vk_getf hx hb (st_V hT) hS hown (htg (.fieldLink RJ0 9 "java/lang/String" "value" "[B") kw_9_64) (fun _ h9 => h9) dJ0_charAt_5068e_8 ?_
      refine lv_iload_n hx hb dJ0_charAt_5068e_11 rfl (lv_at hl 1 rfl) ?_
      refine va_calli (va_runS (As := [.ref av, .int ii]) (rest := []) ⟨hx, hb, hml, hown, hts⟩ (x_lcharAt l H.size ak av ln bt ii h_ii (by omega)) (va_cwS 2 hts (gS kw_4_63 kw_4_64 kw_1_20 kw_4_65) rfl rfl rfl (by decide +kernel) ⟨Nat.le_of_ble_eq_true rfl, Nat.le_of_ble_eq_true rfl⟩) ⟨fun a U g mk q => ⟨q.1, q.2.1, st_mv (U := U.calling g mk a) rfl (Vm.Alike.refl U.vm) q.2.2⟩, fun U hU hW => ⟨rfl, congrArg Array.size hU, st_pass hT hS hU hW.alike (fun q h9 => Nat.le_trans hS.1 h9)⟩⟩ rfl rfl hl.1 rfl (lv_room (Nat.le_of_ble_eq_true rfl)) dJ0_charAt_5068e_12 ⟨Nat.le_of_ble_eq_true rfl, Nat.le_of_ble_eq_true rfl⟩) hS (fun q _ h9 => Nat.le_trans hS.1 h9) (fun q h9 => Nat.le_trans hS.1 h9) (fun r_5 u t H1 locs ht _ hw hB _ hk1 hS => ?_)
      obtain ⟨p_6, -⟩ := hw
      skip
      generalize H1 = H at hS ⊢
      exact W.zret (v := r_5) hx hb hr (st_nar p_6) (fun t ht hW => ⟨⟨r_5, (), rfl, ⟨p_6, trivial⟩, trivial⟩, hS.F ht⟩) hS.2.2 dJ0_charAt_5068e_15

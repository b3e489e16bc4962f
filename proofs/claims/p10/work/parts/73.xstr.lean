theorem dJ0_coder_7d493_0 : decode cJ0_coder_7d493 0 = .ok (.getstatic 38, 3) := by decide +kernel
theorem dJ0_coder_7d493_3 : decode cJ0_coder_7d493 3 = .ok (.ifCond .eq 10, 3) := by decide +kernel
theorem dJ0_coder_7d493_6 : decode cJ0_coder_7d493 6 = .ok (.aload_n 0, 1) := by decide +kernel
theorem dJ0_coder_7d493_7 : decode cJ0_coder_7d493 7 = .ok (.getfield 15, 3) := by decide +kernel
theorem dJ0_coder_7d493_10 : decode cJ0_coder_7d493 10 = .ok (.goto 4, 3) := by decide +kernel
theorem dJ0_coder_7d493_14 : decode cJ0_coder_7d493 14 = .ok (.ireturn, 1) := by decide +kernel
theorem dJ0_isLatin1_aae02_0 : decode cJ0_isLatin1_aae02 0 = .ok (.getstatic 38, 3) := by decide +kernel
theorem dJ0_isLatin1_aae02_3 : decode cJ0_isLatin1_aae02 3 = .ok (.ifCond .eq 14, 3) := by decide +kernel
theorem dJ0_isLatin1_aae02_6 : decode cJ0_isLatin1_aae02 6 = .ok (.aload_n 0, 1) := by decide +kernel
theorem dJ0_isLatin1_aae02_7 : decode cJ0_isLatin1_aae02 7 = .ok (.getfield 15, 3) := by decide +kernel
theorem dJ0_isLatin1_aae02_10 : decode cJ0_isLatin1_aae02 10 = .ok (.ifCond .ne 7, 3) := by decide +kernel
theorem dJ0_isLatin1_aae02_13 : decode cJ0_isLatin1_aae02 13 = .ok (.iconst 1, 1) := by decide +kernel
theorem dJ0_isLatin1_aae02_14 : decode cJ0_isLatin1_aae02 14 = .ok (.goto 4, 3) := by decide +kernel
theorem dJ0_isLatin1_aae02_18 : decode cJ0_isLatin1_aae02 18 = .ok (.ireturn, 1) := by decide +kernel
theorem dJ0_length_8abf5_0 : decode cJ0_length_8abf5 0 = .ok (.aload_n 0, 1) := by decide +kernel
theorem dJ0_length_8abf5_1 : decode cJ0_length_8abf5 1 = .ok (.getfield 9, 3) := by decide +kernel
theorem dJ0_length_8abf5_4 : decode cJ0_length_8abf5 4 = .ok (.arraylength, 1) := by decide +kernel
theorem dJ0_length_8abf5_5 : decode cJ0_length_8abf5 5 = .ok (.aload_n 0, 1) := by decide +kernel
theorem dJ0_length_8abf5_6 : decode cJ0_length_8abf5 6 = .ok (.invokevirtual 335, 3) := by decide +kernel
theorem dJ0_length_8abf5_9 : decode cJ0_length_8abf5 9 = .ok (.ishr, 1) := by decide +kernel
theorem dJ0_length_8abf5_10 : decode cJ0_length_8abf5 10 = .ok (.ireturn, 1) := by decide +kernel
def stA (ak av ln : Nat) (bt : Nat → Int32) (A : Nat → Prop) (U : State) : Prop := (va_O "java/lang/String" ak A U U.heap ∧ va_OF "java/lang/String" "coder" "B" (.int 0) ak A U U.heap ∧ va_OF "java/lang/String" "value" "[B" (.ref av) ak A U U.heap ∧ va_T .byte av ln (fun j => .int (bt j)) A U U.heap ∧ va_Z "java/lang/String" "COMPACT_STRINGS" "Z" (.int 1) A U U.heap ∧ va_Zq "jdk/internal/util/Preconditions" "SIOOBE_FORMATTER" "Ljava/util/function/BiFunction;" A U U.heap) ∧ ln ≤ 8
theorem st_Q {ak av ln : Nat} {bt : Nat → Int32} {A : Nat → Prop} {U : State} (h : stA ak av ln bt A U) : va_Zq "jdk/internal/util/Preconditions" "SIOOBE_FORMATTER" "Ljava/util/function/BiFunction;" A U U.heap := h.1.2.2.2.2.2
theorem st_Z {ak av ln : Nat} {bt : Nat → Int32} {A : Nat → Prop} {U : State} (h : stA ak av ln bt A U) : va_Z "java/lang/String" "COMPACT_STRINGS" "Z" (.int 1) A U U.heap := h.1.2.2.2.2.1
theorem st_C {ak av ln : Nat} {bt : Nat → Int32} {A : Nat → Prop} {U : State} (h : stA ak av ln bt A U) : va_OF "java/lang/String" "coder" "B" (.int 0) ak A U U.heap := h.1.2.1
theorem st_V {ak av ln : Nat} {bt : Nat → Int32} {A : Nat → Prop} {U : State} (h : stA ak av ln bt A U) : va_OF "java/lang/String" "value" "[B" (.ref av) ak A U U.heap := h.1.2.2.1
theorem st_T {ak av ln : Nat} {bt : Nat → Int32} {A : Nat → Prop} {U : State} (h : stA ak av ln bt A U) : va_T .byte av ln (fun j => .int (bt j)) A U U.heap := h.1.2.2.2.1
theorem st_mv {ak av ln : Nat} {bt : Nat → Int32} {A : Nat → Prop} {u U : State} (hU : U.heap = u.heap) (hv : u.vm.Alike U.vm) (h : stA ak av ln bt A u) : stA ak av ln bt A U := by
  refine ⟨?_, h.2⟩
  rw [hU]
  exact ⟨va_O.moved hv h.1.1, va_OF.moved hv h.1.2.1, va_OF.moved hv h.1.2.2.1, va_T.moved hv h.1.2.2.2.1, va_Z.moved hv h.1.2.2.2.2.1, va_Zq.moved hv h.1.2.2.2.2.2⟩
theorem st_pass {ak av ln : Nat} {bt : Nat → Int32} {A B : Nat → Prop} {s U : State} {H : Heap} {locs : List Loc} (h : stA ak av ln bt A s) (hS : va_S A s.heap H locs) (hU : U.heap = H) (hv : s.vm.Alike U.vm) (hB : ∀ q, B q → A q) : stA ak av ln bt B U := by
  refine ⟨?_, h.2⟩
  rw [hU]
  exact ⟨va_O.moved hv ((h.1.1.kept hS.2.1).narrow hB), va_OF.moved hv ((h.1.2.1.kept hS.2.1).narrow hB), va_OF.moved hv ((h.1.2.2.1.kept hS.2.1).narrow hB), va_T.moved hv ((h.1.2.2.2.1.kept hS.2.1).narrow hB), va_Z.moved hv ((h.1.2.2.2.2.1.kept hS.2.1).narrow hB), va_Zq.moved hv ((h.1.2.2.2.2.2.kept hS.2.1).narrow hB)⟩
theorem st_recv {ak av ln : Nat} {bt : Nat → Int32} {A : Nat → Prop} {s : State} {H : Heap} {locs : List Loc} (h : stA ak av ln bt A s) (hS : va_S A s.heap H locs) : ∃ cell : Cell, H[ak]? = some cell ∧ cell.vm.isStatics = false ∧ s.vm.findClass "java/lang/String" = some cell.cls := by
  obtain ⟨cell, h1, h2, h3, -⟩ := h.1.1.kept hS.2.1
  exact ⟨cell, h1, h2, h3⟩
theorem st_sh : ∀ n, n < 9 → nI n >>> ((0 : Int32) &&& 31) = nI n := by decide +kernel
set_option maxHeartbeats 4000000 in
set_option maxRecDepth 100000 in
theorem x_coder (l : Launch) (sz : Nat) (ak av ln : Nat) (bt : Nat → Int32) : Met l yJ0_coder_7d493 (.code yJ0_coder_7d493 cJ0_coder_7d493 1 (some .byte) :: lw_good) ({ frames := 2, cells := 0, slots := 0, locals := 40 }) (va_Pc [.ref ak] (fun U => U.heap.size = sz ∧ stA ak av ln bt (fun q => sz ≤ q) U)) (va_Qi (fun (r : Int32) (_ : Unit) => (0 ≤ r.toInt ∧ r.toInt ≤ 1) ∧ ((r = 0 ∧ True)) ∧ True) (fun (_ : Unit) (_ : State) => True) (fun q => sz ≤ q)) 0 0 (fun q => sz ≤ q) := by
  refine Met.ofW (cc := cJ0_coder_7d493) (maxL := 1) (ret := (some .byte)) (by decide) rfl ?_
  intro p e s m args below meth c s₁ B hml hv
  obtain ⟨rfl, hsz, hT⟩ := hv
  have hx := B.exec
  have hb := B.bytes
  have hr := B.returns
  have hts := atoms_spec (ws := (.code yJ0_coder_7d493 cJ0_coder_7d493 1 (some .byte) :: lw_good)) B.pre
  have htg : ∀ w ∈ lw_good, w.before _ s = true := fun w hw => hts w (List.mem_cons_of_mem _ hw)
  have hown : s.vm.findClass RJ0 = some m.cls := findClass_of_methodNamed B.named
  have hlocks := B.notSynchronized
  subst hsz
  have hS : va_S (fun q => s.heap.size ≤ q) s.heap s.heap [] := va_S.rf
  have hl := lv_entry ([.ref ak]) (n := 1) (Nat.le_of_ble_eq_true rfl)
  rw [lg_entry_eq]
  generalize (lg_sl ([.ref ak]) ++ List.replicate (1 - (lg_sl ([.ref ak])).length) Slot.unset).toArray = ls at hl ⊢
  have hl : lv_has ls 1 [(0, .ref ak)] := hl
  refine va_gets hx hb (st_Z hT) hS hown (htg (.fieldLink RJ0 38 "java/lang/String" "COMPACT_STRINGS" "Z") kw_4_50) (fun _ h9 => h9) dJ0_coder_7d493_0 ?_
  refine lv_if_eq (tgt := 13) hx hb dJ0_coder_7d493_3 (by decide) (fun c_1 => ?_) (fun c_1 => ?_)
  · skip
    exact absurd c_1 (by decide)
  · skip
    refine lv_aload_n hx hb dJ0_coder_7d493_6 rfl (lv_at hl 0 rfl) ?_
    refine vk_getf hx hb (st_C hT) hS hown (htg (.fieldLink RJ0 15 "java/lang/String" "coder" "B") kw_9_65) (fun _ h9 => h9) dJ0_coder_7d493_7 ?_
    refine lv_goto (tgt := 14) hx hb dJ0_coder_7d493_10 (by decide) ?_
    exact W.zret (v := 0) hx hb hr (by decide) (fun t ht hW => ⟨⟨0, (), rfl, ⟨(iv_w (⟨by decide, by decide⟩ : (0 : Int) ≤ (0 : Int32).toInt ∧ (0 : Int32).toInt ≤ 0) (by decide) (by decide)), (⟨rfl, trivial⟩), trivial⟩, trivial⟩, hS.F ht⟩) hS.2.2 dJ0_coder_7d493_14
set_option maxHeartbeats 4000000 in
set_option maxRecDepth 100000 in
theorem x_isLatin1 (l : Launch) (sz : Nat) (ak av ln : Nat) (bt : Nat → Int32) : Met l yJ0_isLatin1_aae02 (.code yJ0_isLatin1_aae02 cJ0_isLatin1_aae02 1 (some .boolean) :: lw_good) ({ frames := 2, cells := 0, slots := 0, locals := 40 }) (va_Pc [.ref ak] (fun U => U.heap.size = sz ∧ stA ak av ln bt (fun q => sz ≤ q) U)) (va_Qi (fun (r : Int32) (_ : Unit) => (0 ≤ r.toInt ∧ r.toInt ≤ 1) ∧ ((r = 1 ∧ True)) ∧ True) (fun (_ : Unit) (_ : State) => True) (fun q => sz ≤ q)) 0 0 (fun q => sz ≤ q) := by
  refine Met.ofW (cc := cJ0_isLatin1_aae02) (maxL := 1) (ret := (some .boolean)) (by decide) rfl ?_
  intro p e s m args below meth c s₁ B hml hv
  obtain ⟨rfl, hsz, hT⟩ := hv
  have hx := B.exec
  have hb := B.bytes
  have hr := B.returns
  have hts := atoms_spec (ws := (.code yJ0_isLatin1_aae02 cJ0_isLatin1_aae02 1 (some .boolean) :: lw_good)) B.pre
  have htg : ∀ w ∈ lw_good, w.before _ s = true := fun w hw => hts w (List.mem_cons_of_mem _ hw)
  have hown : s.vm.findClass RJ0 = some m.cls := findClass_of_methodNamed B.named
  have hlocks := B.notSynchronized
  subst hsz
  have hS : va_S (fun q => s.heap.size ≤ q) s.heap s.heap [] := va_S.rf
  have hl := lv_entry ([.ref ak]) (n := 1) (Nat.le_of_ble_eq_true rfl)
  rw [lg_entry_eq]
  generalize (lg_sl ([.ref ak]) ++ List.replicate (1 - (lg_sl ([.ref ak])).length) Slot.unset).toArray = ls at hl ⊢
  have hl : lv_has ls 1 [(0, .ref ak)] := hl
  refine va_gets hx hb (st_Z hT) hS hown (htg (.fieldLink RJ0 38 "java/lang/String" "COMPACT_STRINGS" "Z") kw_4_50) (fun _ h9 => h9) dJ0_isLatin1_aae02_0 ?_
  refine lv_if_eq (tgt := 17) hx hb dJ0_isLatin1_aae02_3 (by decide) (fun c_1 => ?_) (fun c_1 => ?_)
  · skip
    exact absurd c_1 (by decide)
  · skip
    refine lv_aload_n hx hb dJ0_isLatin1_aae02_6 rfl (lv_at hl 0 rfl) ?_
    refine vk_getf hx hb (st_C hT) hS hown (htg (.fieldLink RJ0 15 "java/lang/String" "coder" "B") kw_9_65) (fun _ h9 => h9) dJ0_isLatin1_aae02_7 ?_
    refine lv_if_ne (tgt := 17) hx hb dJ0_isLatin1_aae02_10 (by decide) (fun c_2 => ?_) (fun c_2 => ?_)
    · skip
      exact absurd c_2 (by decide)
    · skip
      refine lv_iconst (v := 1) hx hb dJ0_isLatin1_aae02_13 (by decide) ?_
      refine lv_goto (tgt := 18) hx hb dJ0_isLatin1_aae02_14 (by decide) ?_
      exact W.zret (v := 1) hx hb hr (by decide) (fun t ht hW => ⟨⟨1, (), rfl, ⟨(iv_w (⟨by decide, by decide⟩ : (1 : Int) ≤ (1 : Int32).toInt ∧ (1 : Int32).toInt ≤ 1) (by decide) (by decide)), (⟨rfl, trivial⟩), trivial⟩, trivial⟩, hS.F ht⟩) hS.2.2 dJ0_isLatin1_aae02_18
set_option maxHeartbeats 4000000 in
set_option maxRecDepth 100000 in
theorem x_slen (l : Launch) (sz : Nat) (ak av ln : Nat) (bt : Nat → Int32) : Met l yJ0_length_8abf5 (.code yJ0_length_8abf5 cJ0_length_8abf5 1 (some .int) :: lw_good) ({ frames := 3, cells := 0, slots := 0, locals := 60 }) (va_Pc [.ref ak] (fun U => U.heap.size = sz ∧ stA ak av ln bt (fun q => sz ≤ q) U)) (va_Qi (fun (r : Int32) (_ : Unit) => (0 ≤ r.toInt ∧ r.toInt ≤ 8) ∧ (r.toInt = ln) ∧ True) (fun (_ : Unit) (_ : State) => True) (fun q => sz ≤ q)) 0 0 (fun q => sz ≤ q) := by
  refine Met.ofW (cc := cJ0_length_8abf5) (maxL := 1) (ret := (some .int)) (by decide) rfl ?_
  intro p e s m args below meth c s₁ B hml hv
  obtain ⟨rfl, hsz, hT⟩ := hv
  have hx := B.exec
  have hb := B.bytes
  have hr := B.returns
  have hts := atoms_spec (ws := (.code yJ0_length_8abf5 cJ0_length_8abf5 1 (some .int) :: lw_good)) B.pre
  have htg : ∀ w ∈ lw_good, w.before _ s = true := fun w hw => hts w (List.mem_cons_of_mem _ hw)
  have hown : s.vm.findClass RJ0 = some m.cls := findClass_of_methodNamed B.named
  have hlocks := B.notSynchronized
  subst hsz
  have hS : va_S (fun q => s.heap.size ≤ q) s.heap s.heap [] := va_S.rf
  have hl := lv_entry ([.ref ak]) (n := 1) (Nat.le_of_ble_eq_true rfl)
  rw [lg_entry_eq]
  generalize (lg_sl ([.ref ak]) ++ List.replicate (1 - (lg_sl ([.ref ak])).length) Slot.unset).toArray = ls at hl ⊢
  have hl : lv_has ls 1 [(0, .ref ak)] := hl
  refine lv_aload_n hx hb dJ0_length_8abf5_0 rfl (lv_at hl 0 rfl) ?_
  refine vk_getf hx hb (st_V hT) hS hown (htg (.fieldLink RJ0 9 "java/lang/String" "value" "[B") kw_9_64) (fun _ h9 => h9) dJ0_length_8abf5_1 ?_
  refine va_tlen hx hb (st_T hT) hS (v := nI ln) rfl dJ0_length_8abf5_4 ?_
  refine lv_topi (fun v_1 ev_1 => ?_)
  have kv_1 : v_1.toInt = ln := by rw [ev_1]; have h8 := hT.2; exact nI_toInt (by omega)
  have i_2 : 0 ≤ v_1.toInt ∧ v_1.toInt ≤ 8 := (by have h8 := hT.2; omega)
  refine lv_aload_n hx hb dJ0_length_8abf5_5 rfl (lv_at hl 0 rfl) ?_
  refine va_calli (va_runV (As := []) (rest := [.int v_1]) ⟨hx, hb, hml, hown, hts⟩ (x_coder l s.heap.size ak av ln bt) (cwV 0 hts (gV kw_4_46 kw_4_47 kw_4_48 kw_1_19 kw_4_49) rfl rfl rfl (by decide +kernel) ⟨Nat.le_of_ble_eq_true rfl, Nat.le_of_ble_eq_true rfl⟩) ⟨fun a U g mk q => ⟨q.1, q.2.1, st_mv (U := U.calling g mk a) rfl (Vm.Alike.refl U.vm) q.2.2⟩, st_recv hT hS, fun U hU hW => ⟨rfl, congrArg Array.size hU, st_pass hT hS hU hW.alike (fun q h9 => Nat.le_trans hS.1 h9)⟩⟩ rfl rfl hl.1 rfl (lv_room (Nat.le_of_ble_eq_true rfl)) dJ0_length_8abf5_6 ⟨Nat.le_of_ble_eq_true rfl, Nat.le_of_ble_eq_true rfl⟩) hS (fun q _ h9 => Nat.le_trans hS.1 h9) (fun q h9 => Nat.le_trans hS.1 h9) (fun r_3 u t H1 locs ht _ hw hB _ hk1 hS => ?_)
  obtain ⟨p_4, p_5, -⟩ := hw
  skip
  generalize H1 = H at hS ⊢
  rcases p_5 with ⟨rfl, p_5⟩
  · skip
    refine lv_ishr hx hb dJ0_length_8abf5_9 ?_
    refine lv_topi (fun v_6 ev_6 => ?_)
    exact W.iret (v := v_6) hx hb hr (fun t ht hW => ⟨⟨v_6, (), rfl, ⟨(by have h8 := hT.2; have h9 := (show v_6.toInt = ln from by rw [ev_6, ev_1, st_sh ln (by have h8 := hT.2; omega), ← ev_1]; exact kv_1); omega), (show v_6.toInt = ln from by rw [ev_6, ev_1, st_sh ln (by have h8 := hT.2; omega), ← ev_1]; exact kv_1), trivial⟩, trivial⟩, hS.F ht⟩) hS.2.2 dJ0_length_8abf5_10

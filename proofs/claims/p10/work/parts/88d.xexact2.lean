set_option maxHeartbeats 4000000 in
set_option maxRecDepth 100000 in
theorem x_isStopE (l : Launch) (dC : Nat → ClassId) (dI : Nat → Nat → Nat) (sz : Nat) (ob ad : Nat → Nat) (cA : Nat → ClassId) (hd : dX ob ad) (fv : Nat → Int32) (wd : xT) (ar : Nat → Nat → Int32) (hF_fv : rX fv) (hA_ar : rB ar) (v : Int32) : Met l yX7_isStop (.code yX7_isStop cX7_isStop 2 (some .boolean) :: lw_good) ({ frames := 2, cells := 0, slots := 0, locals := 40 }) (va_Pc [.ref (ob 1), .int v] (prX dC dI ob ad cA fv wd ar sz)) (va_Qi (fun (r : Int32) (u : xS) => rX u.1 ∧ rB u.2.2 ∧ fM [] fv u.1 ∧ fA [] ar u.2.2 ∧ u.2.1.2 = wd.2 ∧ (0 ≤ r.toInt ∧ r.toInt ≤ 1) ∧ ((r = 0 ∧ (v.toInt < 0 ∨ (fv 4).toInt ≤ v.toInt)) ∨ (r = 1 ∧ (0 ≤ v.toInt) ∧ (v.toInt ≤ 7) ∧ (v.toInt < (fv 4).toInt))) ∧ True) (enX dC dI ob ad cA) (aX ob ad sz)) 0 0 (aX ob ad sz) := by
  refine Met.ofW (cc := cX7_isStop) (maxL := 2) (ret := (some .boolean)) (by decide) rfl ?_
  intro p e s m args below meth c s₁ B hml hv
  obtain ⟨rfl, hsz, hP, hK⟩ := hv
  have hx := B.exec
  have hb := B.bytes
  have hr := B.returns
  have hts := atoms_spec (ws := (.code yX7_isStop cX7_isStop 2 (some .boolean) :: lw_good)) B.pre
  have htg : ∀ w ∈ lw_good, w.before _ s = true := fun w hw => hts w (List.mem_cons_of_mem _ hw)
  have hown : s.vm.findClass RX7 = some m.cls := findClass_of_methodNamed B.named
  have hlocks := B.notSynchronized
  subst hsz
  have hS : va_S (aX ob ad s.heap.size) s.heap s.heap [] := va_S.rf
  have hl := lv_entry ([.ref (ob 1), .int v]) (n := 2) (Nat.le_of_ble_eq_true rfl)
  rw [lg_entry_eq]
  generalize (lg_sl ([.ref (ob 1), .int v]) ++ List.replicate (2 - (lg_sl ([.ref (ob 1), .int v])).length) Slot.unset).toArray = ls at hl ⊢
  have hl : lv_has ls 2 [(0, .ref (ob 1)), (1, .int v)] := hl
  refine lv_iload_n hx hb dX7_isStop_0 rfl (lv_at hl 1 rfl) ?_
  refine lv_if_lt (tgt := 16) hx hb dX7_isStop_1 (by decide) (fun c_1 => ?_) (fun c_1 => ?_)
  · skip
    have i_2 : (-2147483648) ≤ v.toInt ∧ v.toInt ≤ (-1) := iv_lt1 (iv_any v) (⟨by decide, by decide⟩ : (0 : Int) ≤ (0 : Int32).toInt ∧ (0 : Int32).toInt ≤ 0) c_1
    refine lv_iconst (v := 0) hx hb dX7_isStop_16 (by decide) ?_
    exact W.zret (v := 0) hx hb hr (by decide) (fun t ht hW => ⟨⟨0, (fv, wd, ar), rfl, ⟨hF_fv, hA_ar, (fM_rf [] _), (fA_rf [] _), rfl, (iv_w (⟨by decide, by decide⟩ : (0 : Int) ≤ (0 : Int32).toInt ∧ (0 : Int32).toInt ≤ 0) (by decide) (by decide)), (Or.inl ⟨rfl, by omega⟩), trivial⟩, ⟨by rw [ht]; exact hP, va_K.moved hW.alike hK⟩⟩, hS.F ht⟩) hS.2.2 dX7_isStop_17
  · skip
    have i_3 : 0 ≤ v.toInt ∧ v.toInt ≤ 2147483647 := iv_le2 (⟨by decide, by decide⟩ : (0 : Int) ≤ (0 : Int32).toInt ∧ (0 : Int32).toInt ≤ 0) (iv_any v) (Int32.not_lt.mp c_1)
    refine lv_iload_n hx hb dX7_isStop_4 rfl (lv_at hl 1 rfl) ?_
    refine lv_aload_n hx hb dX7_isStop_5 rfl (lv_at hl 0 rfl) ?_
    refine gX_X7_65 hx hb htg hown hK hP dX7_isStop_6 ?_
    have i_4 : 0 ≤ (fv 4).toInt ∧ (fv 4).toInt ≤ 8 := hF_fv 4
    refine lv_icmp_ge (tgt := 16) hx hb dX7_isStop_9 (by decide) (fun c_5 => ?_) (fun c_5 => ?_)
    · skip
      have k_6 := Int32.le_iff_toInt_le.mp c_5
      refine lv_iconst (v := 0) hx hb dX7_isStop_16 (by decide) ?_
      exact W.zret (v := 0) hx hb hr (by decide) (fun t ht hW => ⟨⟨0, (fv, wd, ar), rfl, ⟨hF_fv, hA_ar, (fM_rf [] _), (fA_rf [] _), rfl, (iv_w (⟨by decide, by decide⟩ : (0 : Int) ≤ (0 : Int32).toInt ∧ (0 : Int32).toInt ≤ 0) (by decide) (by decide)), (Or.inl ⟨rfl, by omega⟩), trivial⟩, ⟨by rw [ht]; exact hP, va_K.moved hW.alike hK⟩⟩, hS.F ht⟩) hS.2.2 dX7_isStop_17
    · skip
      have i_7 : 0 ≤ v.toInt ∧ v.toInt ≤ 7 := iv_lt1 i_3 i_4 (Int32.not_le.mp c_5)
      have i_8 : 1 ≤ (fv 4).toInt ∧ (fv 4).toInt ≤ 8 := iv_lt2 i_3 i_4 (Int32.not_le.mp c_5)
      have k_9 := Int32.lt_iff_toInt_lt.mp (Int32.not_le.mp c_5)
      refine lv_iconst (v := 1) hx hb dX7_isStop_12 (by decide) ?_
      refine lv_goto (tgt := 17) hx hb dX7_isStop_13 (by decide) ?_
      exact W.zret (v := 1) hx hb hr (by decide) (fun t ht hW => ⟨⟨1, (fv, wd, ar), rfl, ⟨hF_fv, hA_ar, (fM_rf [] _), (fA_rf [] _), rfl, (iv_w (⟨by decide, by decide⟩ : (1 : Int) ≤ (1 : Int32).toInt ∧ (1 : Int32).toInt ≤ 1) (by decide) (by decide)), (Or.inr (⟨rfl, by omega⟩)), trivial⟩, ⟨by rw [ht]; exact hP, va_K.moved hW.alike hK⟩⟩, hS.F ht⟩) hS.2.2 dX7_isStop_17
set_option maxHeartbeats 4000000 in
set_option maxRecDepth 100000 in
theorem x_wheels_hasE (l : Launch) (dC : Nat → ClassId) (dI : Nat → Nat → Nat) (sz : Nat) (ob ad : Nat → Nat) (cA : Nat → ClassId) (hd : dX ob ad) (fv : Nat → Int32) (wd : xT) (ar : Nat → Nat → Int32) (hF_fv : rX fv) (hA_ar : rB ar) (v : Int32) : Met l yX10_has (.code yX10_has cX10_has 2 (some .boolean) :: lw_good) ({ frames := 2, cells := 0, slots := 0, locals := 40 }) (va_Pc [.ref (ob 4), .int v] (prX dC dI ob ad cA fv wd ar sz)) (va_Qi (fun (r : Int32) (u : xS) => rX u.1 ∧ rB u.2.2 ∧ fM [] fv u.1 ∧ fA [] ar u.2.2 ∧ u.2.1.2 = wd.2 ∧ (0 ≤ r.toInt ∧ r.toInt ≤ 1) ∧ ((r = 0 ∧ (v.toInt < 0 ∨ (fv 11).toInt ≤ v.toInt)) ∨ (r = 1 ∧ (0 ≤ v.toInt) ∧ (v.toInt ≤ 19) ∧ (v.toInt < (fv 11).toInt))) ∧ True) (enX dC dI ob ad cA) (aX ob ad sz)) 0 0 (aX ob ad sz) := by
  refine Met.ofW (cc := cX10_has) (maxL := 2) (ret := (some .boolean)) (by decide) rfl ?_
  intro p e s m args below meth c s₁ B hml hv
  obtain ⟨rfl, hsz, hP, hK⟩ := hv
  have hx := B.exec
  have hb := B.bytes
  have hr := B.returns
  have hts := atoms_spec (ws := (.code yX10_has cX10_has 2 (some .boolean) :: lw_good)) B.pre
  have htg : ∀ w ∈ lw_good, w.before _ s = true := fun w hw => hts w (List.mem_cons_of_mem _ hw)
  have hown : s.vm.findClass RX10 = some m.cls := findClass_of_methodNamed B.named
  have hlocks := B.notSynchronized
  subst hsz
  have hS : va_S (aX ob ad s.heap.size) s.heap s.heap [] := va_S.rf
  have hl := lv_entry ([.ref (ob 4), .int v]) (n := 2) (Nat.le_of_ble_eq_true rfl)
  rw [lg_entry_eq]
  generalize (lg_sl ([.ref (ob 4), .int v]) ++ List.replicate (2 - (lg_sl ([.ref (ob 4), .int v])).length) Slot.unset).toArray = ls at hl ⊢
  have hl : lv_has ls 2 [(0, .ref (ob 4)), (1, .int v)] := hl
  refine lv_iload_n hx hb dX10_has_0 rfl (lv_at hl 1 rfl) ?_
  refine lv_if_lt (tgt := 16) hx hb dX10_has_1 (by decide) (fun c_1 => ?_) (fun c_1 => ?_)
  · skip
    have i_2 : (-2147483648) ≤ v.toInt ∧ v.toInt ≤ (-1) := iv_lt1 (iv_any v) (⟨by decide, by decide⟩ : (0 : Int) ≤ (0 : Int32).toInt ∧ (0 : Int32).toInt ≤ 0) c_1
    refine lv_iconst (v := 0) hx hb dX10_has_16 (by decide) ?_
    exact W.zret (v := 0) hx hb hr (by decide) (fun t ht hW => ⟨⟨0, (fv, wd, ar), rfl, ⟨hF_fv, hA_ar, (fM_rf [] _), (fA_rf [] _), rfl, (iv_w (⟨by decide, by decide⟩ : (0 : Int) ≤ (0 : Int32).toInt ∧ (0 : Int32).toInt ≤ 0) (by decide) (by decide)), (Or.inl ⟨rfl, by omega⟩), trivial⟩, ⟨by rw [ht]; exact hP, va_K.moved hW.alike hK⟩⟩, hS.F ht⟩) hS.2.2 dX10_has_17
  · skip
    have i_3 : 0 ≤ v.toInt ∧ v.toInt ≤ 2147483647 := iv_le2 (⟨by decide, by decide⟩ : (0 : Int) ≤ (0 : Int32).toInt ∧ (0 : Int32).toInt ≤ 0) (iv_any v) (Int32.not_lt.mp c_1)
    refine lv_iload_n hx hb dX10_has_4 rfl (lv_at hl 1 rfl) ?_
    refine lv_aload_n hx hb dX10_has_5 rfl (lv_at hl 0 rfl) ?_
    refine gX_X10_36 hx hb htg hown hK hP dX10_has_6 ?_
    have i_4 : 0 ≤ (fv 11).toInt ∧ (fv 11).toInt ≤ 20 := hF_fv 11
    refine lv_icmp_ge (tgt := 16) hx hb dX10_has_9 (by decide) (fun c_5 => ?_) (fun c_5 => ?_)
    · skip
      have k_6 := Int32.le_iff_toInt_le.mp c_5
      refine lv_iconst (v := 0) hx hb dX10_has_16 (by decide) ?_
      exact W.zret (v := 0) hx hb hr (by decide) (fun t ht hW => ⟨⟨0, (fv, wd, ar), rfl, ⟨hF_fv, hA_ar, (fM_rf [] _), (fA_rf [] _), rfl, (iv_w (⟨by decide, by decide⟩ : (0 : Int) ≤ (0 : Int32).toInt ∧ (0 : Int32).toInt ≤ 0) (by decide) (by decide)), (Or.inl ⟨rfl, by omega⟩), trivial⟩, ⟨by rw [ht]; exact hP, va_K.moved hW.alike hK⟩⟩, hS.F ht⟩) hS.2.2 dX10_has_17
    · skip
      have i_7 : 0 ≤ v.toInt ∧ v.toInt ≤ 19 := iv_lt1 i_3 i_4 (Int32.not_le.mp c_5)
      have i_8 : 1 ≤ (fv 11).toInt ∧ (fv 11).toInt ≤ 20 := iv_lt2 i_3 i_4 (Int32.not_le.mp c_5)
      have k_9 := Int32.lt_iff_toInt_lt.mp (Int32.not_le.mp c_5)
      refine lv_iconst (v := 1) hx hb dX10_has_12 (by decide) ?_
      refine lv_goto (tgt := 17) hx hb dX10_has_13 (by decide) ?_
      exact W.zret (v := 1) hx hb hr (by decide) (fun t ht hW => ⟨⟨1, (fv, wd, ar), rfl, ⟨hF_fv, hA_ar, (fM_rf [] _), (fA_rf [] _), rfl, (iv_w (⟨by decide, by decide⟩ : (1 : Int) ≤ (1 : Int32).toInt ∧ (1 : Int32).toInt ≤ 1) (by decide) (by decide)), (Or.inr (⟨rfl, by omega⟩)), trivial⟩, ⟨by rw [ht]; exact hP, va_K.moved hW.alike hK⟩⟩, hS.F ht⟩) hS.2.2 dX10_has_17
set_option maxHeartbeats 4000000 in
set_option maxRecDepth 100000 in
theorem x_isFullE (l : Launch) (dC : Nat → ClassId) (dI : Nat → Nat → Nat) (sz : Nat) (ob ad : Nat → Nat) (cA : Nat → ClassId) (hd : dX ob ad) (fv : Nat → Int32) (wd : xT) (ar : Nat → Nat → Int32) (hF_fv : rX fv) (hA_ar : rB ar) : Met l yX8_isFull (.code yX8_isFull cX8_isFull 1 (some .boolean) :: lw_good) ({ frames := 2, cells := 0, slots := 0, locals := 40 }) (va_Pc [.ref (ob 5)] (prX dC dI ob ad cA fv wd ar sz)) (va_Qi (fun (r : Int32) (u : xS) => rX u.1 ∧ rB u.2.2 ∧ fM [] fv u.1 ∧ fA [] ar u.2.2 ∧ u.2.1.2 = wd.2 ∧ (0 ≤ r.toInt ∧ r.toInt ≤ 1) ∧ ((r = 0 ∧ ((fv 12).toInt ≤ 79)) ∨ (r = 1 ∧ (80 ≤ (fv 12).toInt))) ∧ True) (enX dC dI ob ad cA) (aX ob ad sz)) 0 0 (aX ob ad sz) := by
  refine Met.ofW (cc := cX8_isFull) (maxL := 1) (ret := (some .boolean)) (by decide) rfl ?_
  intro p e s m args below meth c s₁ B hml hv
  obtain ⟨rfl, hsz, hP, hK⟩ := hv
  have hx := B.exec
  have hb := B.bytes
  have hr := B.returns
  have hts := atoms_spec (ws := (.code yX8_isFull cX8_isFull 1 (some .boolean) :: lw_good)) B.pre
  have htg : ∀ w ∈ lw_good, w.before _ s = true := fun w hw => hts w (List.mem_cons_of_mem _ hw)
  have hown : s.vm.findClass RX8 = some m.cls := findClass_of_methodNamed B.named
  have hlocks := B.notSynchronized
  subst hsz
  have hS : va_S (aX ob ad s.heap.size) s.heap s.heap [] := va_S.rf
  have hl := lv_entry ([.ref (ob 5)]) (n := 1) (Nat.le_of_ble_eq_true rfl)
  rw [lg_entry_eq]
  generalize (lg_sl ([.ref (ob 5)]) ++ List.replicate (1 - (lg_sl ([.ref (ob 5)])).length) Slot.unset).toArray = ls at hl ⊢
  have hl : lv_has ls 1 [(0, .ref (ob 5))] := hl
  refine lv_aload_n hx hb dX8_isFull_0 rfl (lv_at hl 0 rfl) ?_
  refine gX_X8_36 hx hb htg hown hK hP dX8_isFull_1 ?_
  have i_1 : 0 ≤ (fv 12).toInt ∧ (fv 12).toInt ≤ 80 := hF_fv 12
  refine lv_bipush (v := 80) hx hb dX8_isFull_4 (by decide) ?_
  refine lv_icmp_lt (tgt := 13) hx hb dX8_isFull_6 (by decide) (fun c_2 => ?_) (fun c_2 => ?_)
  · skip
    have i_3 : 0 ≤ (fv 12).toInt ∧ (fv 12).toInt ≤ 79 := iv_lt1 i_1 (⟨by decide, by decide⟩ : (80 : Int) ≤ (80 : Int32).toInt ∧ (80 : Int32).toInt ≤ 80) c_2
    refine lv_iconst (v := 0) hx hb dX8_isFull_13 (by decide) ?_
    exact W.zret (v := 0) hx hb hr (by decide) (fun t ht hW => ⟨⟨0, (fv, wd, ar), rfl, ⟨hF_fv, hA_ar, (fM_rf [] _), (fA_rf [] _), rfl, (iv_w (⟨by decide, by decide⟩ : (0 : Int) ≤ (0 : Int32).toInt ∧ (0 : Int32).toInt ≤ 0) (by decide) (by decide)), (Or.inl ⟨rfl, by omega⟩), trivial⟩, ⟨by rw [ht]; exact hP, va_K.moved hW.alike hK⟩⟩, hS.F ht⟩) hS.2.2 dX8_isFull_14
  · skip
    have i_4 : 80 ≤ (fv 12).toInt ∧ (fv 12).toInt ≤ 80 := iv_le2 (⟨by decide, by decide⟩ : (80 : Int) ≤ (80 : Int32).toInt ∧ (80 : Int32).toInt ≤ 80) i_1 (Int32.not_lt.mp c_2)
    refine lv_iconst (v := 1) hx hb dX8_isFull_9 (by decide) ?_
    refine lv_goto (tgt := 14) hx hb dX8_isFull_10 (by decide) ?_
    exact W.zret (v := 1) hx hb hr (by decide) (fun t ht hW => ⟨⟨1, (fv, wd, ar), rfl, ⟨hF_fv, hA_ar, (fM_rf [] _), (fA_rf [] _), rfl, (iv_w (⟨by decide, by decide⟩ : (1 : Int) ≤ (1 : Int32).toInt ∧ (1 : Int32).toInt ≤ 1) (by decide) (by decide)), (Or.inr (⟨rfl, by omega⟩)), trivial⟩, ⟨by rw [ht]; exact hP, va_K.moved hW.alike hK⟩⟩, hS.F ht⟩) hS.2.2 dX8_isFull_14
set_option maxHeartbeats 4000000 in
set_option maxRecDepth 100000 in
theorem x_wjoinE (l : Launch) (dC : Nat → ClassId) (dI : Nat → Nat → Nat) (sz : Nat) (ob ad : Nat → Nat) (cA : Nat → ClassId) (hd : dX ob ad) (fv : Nat → Int32) (wd : xT) (ar : Nat → Nat → Int32) (hF_fv : rX fv) (hA_ar : rB ar) (a : Int32) (bs : Int32) (b : Int32) (d : Int32) (h_bs : 0 ≤ bs.toInt ∧ bs.toInt ≤ 7) : Met l yX10_join (.code yX10_join cX10_join 5 (some .int) :: lw_good) ({ frames := 2, cells := 0, slots := 0, locals := 40 }) (va_Pc [.ref (ob 4), .int a, .int bs, .int b, .int d] (prX dC dI ob ad cA fv wd ar sz)) (va_Qi (fun (r : Int32) (u : xS) => rX u.1 ∧ rB u.2.2 ∧ fM [11] fv u.1 ∧ fA [20, 21, 22, 23, 27] ar u.2.2 ∧ u.2.1.2 = wd.2 ∧ ((r = -1 ∧ u.1 11 = fv 11 ∧ (20 ≤ (fv 11).toInt ∨ a.toInt < 0 ∨ 2 < a.toInt ∨ b.toInt < 1 ∨ 9 < b.toInt)) ∨ (r.toInt = (fv 11).toInt ∧ (u.1 11).toInt = (fv 11).toInt + 1 ∧ ¬ (20 ≤ (fv 11).toInt ∨ a.toInt < 0 ∨ 2 < a.toInt ∨ b.toInt < 1 ∨ 9 < b.toInt))) ∧ True) (enX dC dI ob ad cA) (aX ob ad sz)) 0 0 (aX ob ad sz) := by
  refine Met.ofW (cc := cX10_join) (maxL := 5) (ret := (some .int)) (by decide) rfl ?_
  intro p e s m args below meth c s₁ B hml hv
  obtain ⟨rfl, hsz, hP, hK⟩ := hv
  have hx := B.exec
  have hb := B.bytes
  have hr := B.returns
  have hts := atoms_spec (ws := (.code yX10_join cX10_join 5 (some .int) :: lw_good)) B.pre
  have htg : ∀ w ∈ lw_good, w.before _ s = true := fun w hw => hts w (List.mem_cons_of_mem _ hw)
  have hown : s.vm.findClass RX10 = some m.cls := findClass_of_methodNamed B.named
  have hlocks := B.notSynchronized
  subst hsz
  have hS : va_S (aX ob ad s.heap.size) s.heap s.heap [] := va_S.rf
  have hl := lv_entry ([.ref (ob 4), .int a, .int bs, .int b, .int d]) (n := 5) (Nat.le_of_ble_eq_true rfl)
  rw [lg_entry_eq]
  generalize (lg_sl ([.ref (ob 4), .int a, .int bs, .int b, .int d]) ++ List.replicate (5 - (lg_sl ([.ref (ob 4), .int a, .int bs, .int b, .int d])).length) Slot.unset).toArray = ls at hl ⊢
  have hl : lv_has ls 5 [(0, .ref (ob 4)), (1, .int a), (2, .int bs), (3, .int b), (4, .int d)] := hl
  refine lv_aload_n hx hb dX10_join_0 rfl (lv_at hl 0 rfl) ?_
  refine gX_X10_36 hx hb htg hown hK hP dX10_join_1 ?_
  have i_1 : 0 ≤ (fv 11).toInt ∧ (fv 11).toInt ≤ 20 := hF_fv 11
  refine lv_bipush (v := 20) hx hb dX10_join_4 (by decide) ?_
  refine lv_icmp_ge (tgt := 29) hx hb dX10_join_6 (by decide) (fun c_2 => ?_) (fun c_2 => ?_)
  · skip
    have i_3 : 20 ≤ (fv 11).toInt ∧ (fv 11).toInt ≤ 20 := iv_le2 (⟨by decide, by decide⟩ : (20 : Int) ≤ (20 : Int32).toInt ∧ (20 : Int32).toInt ≤ 20) i_1 c_2
    refine lv_iconst (v := (-1)) hx hb dX10_join_29 (by decide) ?_
    have z_4 : ((-1) : Int32).toInt = (-1) := by decide
    exact W.iret (v := (-1)) hx hb hr (fun t ht hW => ⟨⟨(-1), (fv, wd, ar), rfl, ⟨hF_fv, hA_ar, (fM_rf [11] _), (fA_rf [20, 21, 22, 23, 27] _), rfl, (show (((-1) : Int32) = -1 ∧ fv 11 = fv 11 ∧ (20 ≤ (fv 11).toInt ∨ a.toInt < 0 ∨ 2 < a.toInt ∨ b.toInt < 1 ∨ 9 < b.toInt)) ∨ (((-1) : Int32).toInt = (fv 11).toInt ∧ (fv 11).toInt = (fv 11).toInt + 1 ∧ ¬ (20 ≤ (fv 11).toInt ∨ a.toInt < 0 ∨ 2 < a.toInt ∨ b.toInt < 1 ∨ 9 < b.toInt)) from Or.inl ⟨rfl, rfl, by omega⟩), trivial⟩, ⟨by rw [ht]; exact hP, va_K.moved hW.alike hK⟩⟩, hS.F ht⟩) hS.2.2 dX10_join_30
  · skip
    have i_5 : 0 ≤ (fv 11).toInt ∧ (fv 11).toInt ≤ 19 := iv_lt1 i_1 (⟨by decide, by decide⟩ : (20 : Int) ≤ (20 : Int32).toInt ∧ (20 : Int32).toInt ≤ 20) (Int32.not_le.mp c_2)
    refine lv_iload_n hx hb dX10_join_9 rfl (lv_at hl 1 rfl) ?_
    refine lv_if_lt (tgt := 29) hx hb dX10_join_10 (by decide) (fun c_6 => ?_) (fun c_6 => ?_)
    · skip
      have i_7 : (-2147483648) ≤ a.toInt ∧ a.toInt ≤ (-1) := iv_lt1 (iv_any a) (⟨by decide, by decide⟩ : (0 : Int) ≤ (0 : Int32).toInt ∧ (0 : Int32).toInt ≤ 0) c_6
      refine lv_iconst (v := (-1)) hx hb dX10_join_29 (by decide) ?_
      have z_8 : ((-1) : Int32).toInt = (-1) := by decide
      exact W.iret (v := (-1)) hx hb hr (fun t ht hW => ⟨⟨(-1), (fv, wd, ar), rfl, ⟨hF_fv, hA_ar, (fM_rf [11] _), (fA_rf [20, 21, 22, 23, 27] _), rfl, (show (((-1) : Int32) = -1 ∧ fv 11 = fv 11 ∧ (20 ≤ (fv 11).toInt ∨ a.toInt < 0 ∨ 2 < a.toInt ∨ b.toInt < 1 ∨ 9 < b.toInt)) ∨ (((-1) : Int32).toInt = (fv 11).toInt ∧ (fv 11).toInt = (fv 11).toInt + 1 ∧ ¬ (20 ≤ (fv 11).toInt ∨ a.toInt < 0 ∨ 2 < a.toInt ∨ b.toInt < 1 ∨ 9 < b.toInt)) from Or.inl ⟨rfl, rfl, by omega⟩), trivial⟩, ⟨by rw [ht]; exact hP, va_K.moved hW.alike hK⟩⟩, hS.F ht⟩) hS.2.2 dX10_join_30
    · skip
      have i_9 : 0 ≤ a.toInt ∧ a.toInt ≤ 2147483647 := iv_le2 (⟨by decide, by decide⟩ : (0 : Int) ≤ (0 : Int32).toInt ∧ (0 : Int32).toInt ≤ 0) (iv_any a) (Int32.not_lt.mp c_6)
      refine lv_iload_n hx hb dX10_join_13 rfl (lv_at hl 1 rfl) ?_
      refine lv_iconst (v := 2) hx hb dX10_join_14 (by decide) ?_
      refine lv_icmp_gt (tgt := 29) hx hb dX10_join_15 (by decide) (fun c_10 => ?_) (fun c_10 => ?_)
      · skip
        have i_11 : 3 ≤ a.toInt ∧ a.toInt ≤ 2147483647 := iv_lt2 (⟨by decide, by decide⟩ : (2 : Int) ≤ (2 : Int32).toInt ∧ (2 : Int32).toInt ≤ 2) i_9 c_10
        refine lv_iconst (v := (-1)) hx hb dX10_join_29 (by decide) ?_
        have z_12 : ((-1) : Int32).toInt = (-1) := by decide
        exact W.iret (v := (-1)) hx hb hr (fun t ht hW => ⟨⟨(-1), (fv, wd, ar), rfl, ⟨hF_fv, hA_ar, (fM_rf [11] _), (fA_rf [20, 21, 22, 23, 27] _), rfl, (show (((-1) : Int32) = -1 ∧ fv 11 = fv 11 ∧ (20 ≤ (fv 11).toInt ∨ a.toInt < 0 ∨ 2 < a.toInt ∨ b.toInt < 1 ∨ 9 < b.toInt)) ∨ (((-1) : Int32).toInt = (fv 11).toInt ∧ (fv 11).toInt = (fv 11).toInt + 1 ∧ ¬ (20 ≤ (fv 11).toInt ∨ a.toInt < 0 ∨ 2 < a.toInt ∨ b.toInt < 1 ∨ 9 < b.toInt)) from Or.inl ⟨rfl, rfl, by omega⟩), trivial⟩, ⟨by rw [ht]; exact hP, va_K.moved hW.alike hK⟩⟩, hS.F ht⟩) hS.2.2 dX10_join_30
      · skip
        have i_13 : 0 ≤ a.toInt ∧ a.toInt ≤ 2 := iv_le1 i_9 (⟨by decide, by decide⟩ : (2 : Int) ≤ (2 : Int32).toInt ∧ (2 : Int32).toInt ≤ 2) (Int32.not_lt.mp c_10)
        refine lv_iload_n hx hb dX10_join_18 rfl (lv_at hl 3 rfl) ?_
        refine lv_iconst (v := 1) hx hb dX10_join_19 (by decide) ?_
        refine lv_icmp_lt (tgt := 29) hx hb dX10_join_20 (by decide) (fun c_14 => ?_) (fun c_14 => ?_)
        · skip
          have i_15 : (-2147483648) ≤ b.toInt ∧ b.toInt ≤ 0 := iv_lt1 (iv_any b) (⟨by decide, by decide⟩ : (1 : Int) ≤ (1 : Int32).toInt ∧ (1 : Int32).toInt ≤ 1) c_14
          refine lv_iconst (v := (-1)) hx hb dX10_join_29 (by decide) ?_
          have z_16 : ((-1) : Int32).toInt = (-1) := by decide
          exact W.iret (v := (-1)) hx hb hr (fun t ht hW => ⟨⟨(-1), (fv, wd, ar), rfl, ⟨hF_fv, hA_ar, (fM_rf [11] _), (fA_rf [20, 21, 22, 23, 27] _), rfl, (show (((-1) : Int32) = -1 ∧ fv 11 = fv 11 ∧ (20 ≤ (fv 11).toInt ∨ a.toInt < 0 ∨ 2 < a.toInt ∨ b.toInt < 1 ∨ 9 < b.toInt)) ∨ (((-1) : Int32).toInt = (fv 11).toInt ∧ (fv 11).toInt = (fv 11).toInt + 1 ∧ ¬ (20 ≤ (fv 11).toInt ∨ a.toInt < 0 ∨ 2 < a.toInt ∨ b.toInt < 1 ∨ 9 < b.toInt)) from Or.inl ⟨rfl, rfl, by omega⟩), trivial⟩, ⟨by rw [ht]; exact hP, va_K.moved hW.alike hK⟩⟩, hS.F ht⟩) hS.2.2 dX10_join_30
        · skip
          have i_17 : 1 ≤ b.toInt ∧ b.toInt ≤ 2147483647 := iv_le2 (⟨by decide, by decide⟩ : (1 : Int) ≤ (1 : Int32).toInt ∧ (1 : Int32).toInt ≤ 1) (iv_any b) (Int32.not_lt.mp c_14)
          refine lv_iload_n hx hb dX10_join_23 rfl (lv_at hl 3 rfl) ?_
          refine lv_bipush (v := 9) hx hb dX10_join_24 (by decide) ?_
          refine lv_icmp_le (tgt := 31) hx hb dX10_join_26 (by decide) (fun c_18 => ?_) (fun c_18 => ?_)
          · skip
            have i_19 : 1 ≤ b.toInt ∧ b.toInt ≤ 9 := iv_le1 i_17 (⟨by decide, by decide⟩ : (9 : Int) ≤ (9 : Int32).toInt ∧ (9 : Int32).toInt ≤ 9) c_18
            refine lv_aload_n hx hb dX10_join_31 rfl (lv_at hl 0 rfl) ?_
            refine gX_X10_11 hx hb htg hown hK hP dX10_join_32 ?_
            refine lv_aload_n hx hb dX10_join_35 rfl (lv_at hl 0 rfl) ?_
            refine gX_X10_36 hx hb htg hown hK hP dX10_join_36 ?_
            refine lv_iload_n hx hb dX10_join_39 rfl (lv_at hl 1 rfl) ?_
            refine sX_20 hx hb hK hP hS hd (iv_in i_5 (by decide) (by decide)) dX10_join_40 (fun H locs ar_20 ear_20 hP hS => ?_)
            have hA_ar_20 : rB ar_20 := rB_put hA_ar ear_20 (iv_any _)
            refine lv_aload_n hx hb dX10_join_41 rfl (lv_at hl 0 rfl) ?_
            refine gX_X10_15 hx hb htg hown hK hP dX10_join_42 ?_
            refine lv_aload_n hx hb dX10_join_45 rfl (lv_at hl 0 rfl) ?_
            refine gX_X10_36 hx hb htg hown hK hP dX10_join_46 ?_
            refine lv_iload_n hx hb dX10_join_49 rfl (lv_at hl 2 rfl) ?_
            refine sX_21 hx hb hK hP hS hd (iv_in i_5 (by decide) (by decide)) dX10_join_50 (fun H locs ar_21 ear_21 hP hS => ?_)
            have hA_ar_21 : rB ar_21 := rB_put hA_ar_20 ear_21 h_bs
            refine lv_aload_n hx hb dX10_join_51 rfl (lv_at hl 0 rfl) ?_
            refine gX_X10_18 hx hb htg hown hK hP dX10_join_52 ?_
            refine lv_aload_n hx hb dX10_join_55 rfl (lv_at hl 0 rfl) ?_
            refine gX_X10_36 hx hb htg hown hK hP dX10_join_56 ?_
            refine lv_iload_n hx hb dX10_join_59 rfl (lv_at hl 3 rfl) ?_
            refine sX_22 hx hb hK hP hS hd (iv_in i_5 (by decide) (by decide)) dX10_join_60 (fun H locs ar_22 ear_22 hP hS => ?_)
            have hA_ar_22 : rB ar_22 := rB_put hA_ar_21 ear_22 (iv_w i_19 (by decide) (by decide))
            refine lv_aload_n hx hb dX10_join_61 rfl (lv_at hl 0 rfl) ?_
            refine gX_X10_21 hx hb htg hown hK hP dX10_join_62 ?_
            refine lv_aload_n hx hb dX10_join_65 rfl (lv_at hl 0 rfl) ?_
            refine gX_X10_36 hx hb htg hown hK hP dX10_join_66 ?_
            refine lv_iload hx hb dX10_join_69 (lv_at hl 4 rfl) ?_
            refine sX_23 hx hb hK hP hS hd (iv_in i_5 (by decide) (by decide)) dX10_join_71 (fun H locs ar_23 ear_23 hP hS => ?_)
            have hA_ar_23 : rB ar_23 := rB_put hA_ar_22 ear_23 (iv_any _)
            refine lv_aload_n hx hb dX10_join_72 rfl (lv_at hl 0 rfl) ?_
            refine gX_X10_33 hx hb htg hown hK hP dX10_join_73 ?_
            refine lv_aload_n hx hb dX10_join_76 rfl (lv_at hl 0 rfl) ?_
            refine gX_X10_36 hx hb htg hown hK hP dX10_join_77 ?_
            refine lv_iload_n hx hb dX10_join_80 rfl (lv_at hl 2 rfl) ?_
            refine sX_27 hx hb hK hP hS hd (iv_in i_5 (by decide) (by decide)) dX10_join_81 (fun H locs ar_24 ear_24 hP hS => ?_)
            have hA_ar_24 : rB ar_24 := rB_put hA_ar_23 ear_24 (iv_any _)
            refine lv_aload_n hx hb dX10_join_82 rfl (lv_at hl 0 rfl) ?_
            refine lv_dup hx hb dX10_join_83 rfl ?_
            refine gX_X10_36 hx hb htg hown hK hP dX10_join_84 ?_
            refine lv_iconst (v := 1) hx hb dX10_join_87 (by decide) ?_
            refine lv_iadd hx hb dX10_join_88 ?_
            refine lv_topi (fun v_25 ev_25 => ?_)
            have t_26 : v_25.toInt = (fv 11).toInt + 1 ∧ 1 ≤ v_25.toInt ∧ v_25.toInt ≤ 20 := iv_addc ev_25 i_5 (by decide) (by decide) (by decide)
            refine pX_X10_36 hx hb htg hown hK hP hS hd dX10_join_89 (fun H locs fv_28 efv_28 hP hS => ?_)
            have hF_fv_28 : rX fv_28 := rX_put hF_fv efv_28 (iv_w t_26.2 (by decide) (by decide))
            refine lv_aload_n hx hb dX10_join_92 rfl (lv_at hl 0 rfl) ?_
            refine gX_X10_36 hx hb htg hown hK hP dX10_join_93 ?_
            refine my_ti (y := v_25) ((congrFun efv_28 11)) ?_
            refine lv_iconst (v := 1) hx hb dX10_join_96 (by decide) ?_
            refine lv_isub hx hb dX10_join_97 ?_
            refine lv_topi (fun v_29 ev_29 => ?_)
            have t_30 : v_29.toInt = v_25.toInt - 1 ∧ 0 ≤ v_29.toInt ∧ v_29.toInt ≤ 19 := iv_subc ev_29 t_26.2 (by decide) (by decide) (by decide)
            exact W.iret (v := v_29) hx hb hr (fun t ht hW => ⟨⟨v_29, (fv_28, wd, ar_24), rfl, ⟨hF_fv_28, hA_ar_24, (fM_put (fM_rf [11] _) efv_28 (by decide)), (fA_put (fA_put (fA_put (fA_put (fA_put (fA_rf [20, 21, 22, 23, 27] _) ear_20 (by decide)) ear_21 (by decide)) ear_22 (by decide)) ear_23 (by decide)) ear_24 (by decide)), rfl, (show (v_29 = -1 ∧ fv_28 11 = fv 11 ∧ (20 ≤ (fv 11).toInt ∨ a.toInt < 0 ∨ 2 < a.toInt ∨ b.toInt < 1 ∨ 9 < b.toInt)) ∨ (v_29.toInt = (fv 11).toInt ∧ (fv_28 11).toInt = (fv 11).toInt + 1 ∧ ¬ (20 ≤ (fv 11).toInt ∨ a.toInt < 0 ∨ 2 < a.toInt ∨ b.toInt < 1 ∨ 9 < b.toInt)) from Or.inr ⟨by omega, by rw [show fv_28 11 = v_25 from (congrFun efv_28 11)]; omega, by omega⟩), trivial⟩, ⟨by rw [ht]; exact hP, va_K.moved hW.alike hK⟩⟩, hS.F ht⟩) hS.2.2 dX10_join_98
          · skip
            have i_32 : 10 ≤ b.toInt ∧ b.toInt ≤ 2147483647 := iv_lt2 (⟨by decide, by decide⟩ : (9 : Int) ≤ (9 : Int32).toInt ∧ (9 : Int32).toInt ≤ 9) i_17 (Int32.not_le.mp c_18)
            refine lv_iconst (v := (-1)) hx hb dX10_join_29 (by decide) ?_
            have z_33 : ((-1) : Int32).toInt = (-1) := by decide
            exact W.iret (v := (-1)) hx hb hr (fun t ht hW => ⟨⟨(-1), (fv, wd, ar), rfl, ⟨hF_fv, hA_ar, (fM_rf [11] _), (fA_rf [20, 21, 22, 23, 27] _), rfl, (show (((-1) : Int32) = -1 ∧ fv 11 = fv 11 ∧ (20 ≤ (fv 11).toInt ∨ a.toInt < 0 ∨ 2 < a.toInt ∨ b.toInt < 1 ∨ 9 < b.toInt)) ∨ (((-1) : Int32).toInt = (fv 11).toInt ∧ (fv 11).toInt = (fv 11).toInt + 1 ∧ ¬ (20 ≤ (fv 11).toInt ∨ a.toInt < 0 ∨ 2 < a.toInt ∨ b.toInt < 1 ∨ 9 < b.toInt)) from Or.inl ⟨rfl, rfl, by omega⟩), trivial⟩, ⟨by rw [ht]; exact hP, va_K.moved hW.alike hK⟩⟩, hS.F ht⟩) hS.2.2 dX10_join_30
set_option maxHeartbeats 4000000 in
set_option maxRecDepth 100000 in
theorem x_tjoinE (l : Launch) (dC : Nat → ClassId) (dI : Nat → Nat → Nat) (sz : Nat) (ob ad : Nat → Nat) (cA : Nat → ClassId) (hd : dX ob ad) (fv : Nat → Int32) (wd : xT) (ar : Nat → Nat → Int32) (hF_fv : rX fv) (hA_ar : rB ar) (ww : Int32) (fr_ : Int32) (to_ : Int32) (b : Int32) (h_ww : 0 ≤ ww.toInt ∧ ww.toInt ≤ 19) (h_fr_ : 0 ≤ fr_.toInt ∧ fr_.toInt ≤ 7) (h_to_ : 0 ≤ to_.toInt ∧ to_.toInt ≤ 7) (hz : (fv 12).toInt ≤ 79) : Met l yX8_join (.code yX8_join cX8_join 5 (some .int) :: lw_good) ({ frames := 2, cells := 0, slots := 0, locals := 40 }) (va_Pc [.ref (ob 5), .int ww, .int fr_, .int to_, .int b] (prX dC dI ob ad cA fv wd ar sz)) (va_Qi (fun (r : Int32) (u : xS) => rX u.1 ∧ rB u.2.2 ∧ fM [12] fv u.1 ∧ fA [28, 29, 30, 31, 35] ar u.2.2 ∧ u.2.1.2 = wd.2 ∧ (0 ≤ r.toInt ∧ r.toInt ≤ 79) ∧ (r.toInt = (fv 12).toInt ∧ (u.1 12).toInt = (fv 12).toInt + 1) ∧ True) (enX dC dI ob ad cA) (aX ob ad sz)) 0 0 (aX ob ad sz) := by
  refine Met.ofW (cc := cX8_join) (maxL := 5) (ret := (some .int)) (by decide) rfl ?_
  intro p e s m args below meth c s₁ B hml hv
  obtain ⟨rfl, hsz, hP, hK⟩ := hv
  have hx := B.exec
  have hb := B.bytes
  have hr := B.returns
  have hts := atoms_spec (ws := (.code yX8_join cX8_join 5 (some .int) :: lw_good)) B.pre
  have htg : ∀ w ∈ lw_good, w.before _ s = true := fun w hw => hts w (List.mem_cons_of_mem _ hw)
  have hown : s.vm.findClass RX8 = some m.cls := findClass_of_methodNamed B.named
  have hlocks := B.notSynchronized
  subst hsz
  have hS : va_S (aX ob ad s.heap.size) s.heap s.heap [] := va_S.rf
  have hl := lv_entry ([.ref (ob 5), .int ww, .int fr_, .int to_, .int b]) (n := 5) (Nat.le_of_ble_eq_true rfl)
  rw [lg_entry_eq]
  generalize (lg_sl ([.ref (ob 5), .int ww, .int fr_, .int to_, .int b]) ++ List.replicate (5 - (lg_sl ([.ref (ob 5), .int ww, .int fr_, .int to_, .int b])).length) Slot.unset).toArray = ls at hl ⊢
  have hl : lv_has ls 5 [(0, .ref (ob 5)), (1, .int ww), (2, .int fr_), (3, .int to_), (4, .int b)] := hl
  have i_1 : 0 ≤ (fv 12).toInt ∧ (fv 12).toInt ≤ 79 := ⟨(hF_fv 12).1, hz⟩
  refine lv_aload_n hx hb dX8_join_0 rfl (lv_at hl 0 rfl) ?_
  refine gX_X8_11 hx hb htg hown hK hP dX8_join_1 ?_
  refine lv_aload_n hx hb dX8_join_4 rfl (lv_at hl 0 rfl) ?_
  refine gX_X8_36 hx hb htg hown hK hP dX8_join_5 ?_
  refine lv_iload_n hx hb dX8_join_8 rfl (lv_at hl 1 rfl) ?_
  refine sX_28 hx hb hK hP hS hd (iv_in i_1 (by decide) (by decide)) dX8_join_9 (fun H locs ar_2 ear_2 hP hS => ?_)
  have hA_ar_2 : rB ar_2 := rB_put hA_ar ear_2 h_ww
  refine lv_aload_n hx hb dX8_join_10 rfl (lv_at hl 0 rfl) ?_
  refine gX_X8_15 hx hb htg hown hK hP dX8_join_11 ?_
  refine lv_aload_n hx hb dX8_join_14 rfl (lv_at hl 0 rfl) ?_
  refine gX_X8_36 hx hb htg hown hK hP dX8_join_15 ?_
  refine lv_iload_n hx hb dX8_join_18 rfl (lv_at hl 2 rfl) ?_
  refine sX_29 hx hb hK hP hS hd (iv_in i_1 (by decide) (by decide)) dX8_join_19 (fun H locs ar_3 ear_3 hP hS => ?_)
  have hA_ar_3 : rB ar_3 := rB_put hA_ar_2 ear_3 h_fr_
  refine lv_aload_n hx hb dX8_join_20 rfl (lv_at hl 0 rfl) ?_
  refine gX_X8_18 hx hb htg hown hK hP dX8_join_21 ?_
  refine lv_aload_n hx hb dX8_join_24 rfl (lv_at hl 0 rfl) ?_
  refine gX_X8_36 hx hb htg hown hK hP dX8_join_25 ?_
  refine lv_iload_n hx hb dX8_join_28 rfl (lv_at hl 3 rfl) ?_
  refine sX_30 hx hb hK hP hS hd (iv_in i_1 (by decide) (by decide)) dX8_join_29 (fun H locs ar_4 ear_4 hP hS => ?_)
  have hA_ar_4 : rB ar_4 := rB_put hA_ar_3 ear_4 h_to_
  refine lv_aload_n hx hb dX8_join_30 rfl (lv_at hl 0 rfl) ?_
  refine gX_X8_21 hx hb htg hown hK hP dX8_join_31 ?_
  refine lv_aload_n hx hb dX8_join_34 rfl (lv_at hl 0 rfl) ?_
  refine gX_X8_36 hx hb htg hown hK hP dX8_join_35 ?_
  refine lv_iload hx hb dX8_join_38 (lv_at hl 4 rfl) ?_
  refine sX_31 hx hb hK hP hS hd (iv_in i_1 (by decide) (by decide)) dX8_join_40 (fun H locs ar_5 ear_5 hP hS => ?_)
  have hA_ar_5 : rB ar_5 := rB_put hA_ar_4 ear_5 (iv_any _)
  refine lv_aload_n hx hb dX8_join_41 rfl (lv_at hl 0 rfl) ?_
  refine gX_X8_33 hx hb htg hown hK hP dX8_join_42 ?_
  refine lv_aload_n hx hb dX8_join_45 rfl (lv_at hl 0 rfl) ?_
  refine gX_X8_36 hx hb htg hown hK hP dX8_join_46 ?_
  refine lv_iconst (v := (-1)) hx hb dX8_join_49 (by decide) ?_
  refine sX_35 hx hb hK hP hS hd (iv_in i_1 (by decide) (by decide)) dX8_join_50 (fun H locs ar_6 ear_6 hP hS => ?_)
  have hA_ar_6 : rB ar_6 := rB_put hA_ar_5 ear_6 (iv_any _)
  refine lv_aload_n hx hb dX8_join_51 rfl (lv_at hl 0 rfl) ?_
  refine lv_dup hx hb dX8_join_52 rfl ?_
  refine gX_X8_36 hx hb htg hown hK hP dX8_join_53 ?_
  refine lv_iconst (v := 1) hx hb dX8_join_56 (by decide) ?_
  refine lv_iadd hx hb dX8_join_57 ?_
  refine lv_topi (fun v_7 ev_7 => ?_)
  have t_8 : v_7.toInt = (fv 12).toInt + 1 ∧ 1 ≤ v_7.toInt ∧ v_7.toInt ≤ 80 := iv_addc ev_7 i_1 (by decide) (by decide) (by decide)
  refine pX_X8_36 hx hb htg hown hK hP hS hd dX8_join_58 (fun H locs fv_10 efv_10 hP hS => ?_)
  have hF_fv_10 : rX fv_10 := rX_put hF_fv efv_10 (iv_w t_8.2 (by decide) (by decide))
  refine lv_aload_n hx hb dX8_join_61 rfl (lv_at hl 0 rfl) ?_
  refine gX_X8_36 hx hb htg hown hK hP dX8_join_62 ?_
  refine my_ti (y := v_7) ((congrFun efv_10 12)) ?_
  refine lv_iconst (v := 1) hx hb dX8_join_65 (by decide) ?_
  refine lv_isub hx hb dX8_join_66 ?_
  refine lv_topi (fun v_11 ev_11 => ?_)
  have t_12 : v_11.toInt = v_7.toInt - 1 ∧ 0 ≤ v_11.toInt ∧ v_11.toInt ≤ 79 := iv_subc ev_11 t_8.2 (by decide) (by decide) (by decide)
  exact W.iret (v := v_11) hx hb hr (fun t ht hW => ⟨⟨v_11, (fv_10, wd, ar_6), rfl, ⟨hF_fv_10, hA_ar_6, (fM_put (fM_rf [12] _) efv_10 (by decide)), (fA_put (fA_put (fA_put (fA_put (fA_put (fA_rf [28, 29, 30, 31, 35] _) ear_2 (by decide)) ear_3 (by decide)) ear_4 (by decide)) ear_5 (by decide)) ear_6 (by decide)), rfl, t_12.2, (show v_11.toInt = (fv 12).toInt ∧ (fv_10 12).toInt = (fv 12).toInt + 1 from ⟨by omega, by rw [show fv_10 12 = v_7 from (congrFun efv_10 12)]; omega⟩), trivial⟩, ⟨by rw [ht]; exact hP, va_K.moved hW.alike hK⟩⟩, hS.F ht⟩) hS.2.2 dX8_join_67
set_option maxHeartbeats 4000000 in
set_option maxRecDepth 100000 in
theorem x_layE (l : Launch) (dC : Nat → ClassId) (dI : Nat → Nat → Nat) (sz : Nat) (ob ad : Nat → Nat) (cA : Nat → ClassId) (hd : dX ob ad) (fv : Nat → Int32) (wd : xT) (ar : Nat → Nat → Int32) (hF_fv : rX fv) (hA_ar : rB ar) (a : Int32) (b : Int32) (v : Int32) : Met l yX4_lay (.code yX4_lay cX4_lay 9 (some .boolean) :: lw_good) ({ frames := 3, cells := 0, slots := 0, locals := 62 }) (va_Pc [.ref (ob 2), .int a, .int b, .int v] (prX dC dI ob ad cA fv wd ar sz)) (va_Qi (fun (r : Int32) (u : xS) => rX u.1 ∧ rB u.2.2 ∧ fM [9] fv u.1 ∧ fA [5] ar u.2.2 ∧ u.2.1.2 = wd.2 ∧ (0 ≤ r.toInt ∧ r.toInt ≤ 1) ∧ (ps_street r (u.1 9) (fv 9) a b v) ∧ True) (enX dC dI ob ad cA) (aX ob ad sz)) 0 0 (aX ob ad sz) := by
  refine Met.ofW (cc := cX4_lay) (maxL := 9) (ret := (some .boolean)) (by decide) rfl ?_
  intro p e s m args below meth c s₁ B hml hv
  obtain ⟨rfl, hsz, hP, hK⟩ := hv
  have hx := B.exec
  have hb := B.bytes
  have hr := B.returns
  have hts := atoms_spec (ws := (.code yX4_lay cX4_lay 9 (some .boolean) :: lw_good)) B.pre
  have htg : ∀ w ∈ lw_good, w.before _ s = true := fun w hw => hts w (List.mem_cons_of_mem _ hw)
  have hown : s.vm.findClass RX4 = some m.cls := findClass_of_methodNamed B.named
  have hlocks := B.notSynchronized
  subst hsz
  have hS : va_S (aX ob ad s.heap.size) s.heap s.heap [] := va_S.rf
  have hl := lv_entry ([.ref (ob 2), .int a, .int b, .int v]) (n := 9) (Nat.le_of_ble_eq_true rfl)
  rw [lg_entry_eq]
  generalize (lg_sl ([.ref (ob 2), .int a, .int b, .int v]) ++ List.replicate (9 - (lg_sl ([.ref (ob 2), .int a, .int b, .int v])).length) Slot.unset).toArray = ls at hl ⊢
  have hl : lv_has ls 9 [(0, .ref (ob 2)), (1, .int a), (2, .int b), (3, .int v)] := hl
  refine lv_aload_n hx hb dX4_lay_0 rfl (lv_at hl 0 rfl) ?_
  refine gX_X4_16 hx hb htg hown hK hP dX4_lay_1 ?_
  have i_1 : 0 ≤ (fv 9).toInt ∧ (fv 9).toInt ≤ 30 := hF_fv 9
  refine lv_bipush (v := 30) hx hb dX4_lay_4 (by decide) ?_
  refine lv_icmp_ge (tgt := 28) hx hb dX4_lay_6 (by decide) (fun c_2 => ?_) (fun c_2 => ?_)
  · skip
    have i_3 : 30 ≤ (fv 9).toInt ∧ (fv 9).toInt ≤ 30 := iv_le2 (⟨by decide, by decide⟩ : (30 : Int) ≤ (30 : Int32).toInt ∧ (30 : Int32).toInt ≤ 30) i_1 c_2
    refine lv_iconst (v := 0) hx hb dX4_lay_28 (by decide) ?_
    have z_4 : (0 : Int32).toInt = 0 := by decide
    exact W.zret (v := 0) hx hb hr (by decide) (fun t ht hW => ⟨⟨0, (fv, wd, ar), rfl, ⟨hF_fv, hA_ar, (fM_rf [9] _), (fA_rf [5] _), rfl, (iv_w (⟨by decide, by decide⟩ : (0 : Int) ≤ (0 : Int32).toInt ∧ (0 : Int32).toInt ≤ 0) (by decide) (by decide)), (show ps_street (0 : Int32) (fv 9) (fv 9) a b v from Or.inl ⟨rfl, rfl, by omega⟩), trivial⟩, ⟨by rw [ht]; exact hP, va_K.moved hW.alike hK⟩⟩, hS.F ht⟩) hS.2.2 dX4_lay_29
  · skip
    have i_5 : 0 ≤ (fv 9).toInt ∧ (fv 9).toInt ≤ 29 := iv_lt1 i_1 (⟨by decide, by decide⟩ : (30 : Int) ≤ (30 : Int32).toInt ∧ (30 : Int32).toInt ≤ 30) (Int32.not_le.mp c_2)
    refine lv_iload_n hx hb dX4_lay_9 rfl (lv_at hl 1 rfl) ?_
    refine va_calli (va_runS (As := [.int a]) (rest := []) ⟨hx, hb, hml, hown, hts⟩ (x_isCorner l s.heap.size a) (va_cwS 1 hts (gS kw_3_143 kw_3_144 kw_1_3 kw_3_145) rfl rfl rfl (by decide +kernel) ⟨Nat.le_of_ble_eq_true rfl, Nat.le_of_ble_eq_true rfl⟩) ⟨fun a U g mk q => ⟨q.1, q.2⟩, fun U hU hW => ⟨rfl, congrArg Array.size hU⟩⟩ rfl rfl hl.1 rfl (lv_room (Nat.le_of_ble_eq_true rfl)) dX4_lay_10 ⟨Nat.le_of_ble_eq_true rfl, Nat.le_of_ble_eq_true rfl⟩) hS (fun q _ h9 => nX_up hS q h9) (nX_up hS) (fun r_6 u t H1 locs ht _ hw hB _ hk1 hS => ?_)
    obtain ⟨p_7, p_8, -⟩ := hw
    have hP := my_keepM hP hk1
    generalize H1 = H at hP hS ⊢
    rcases p_8 with ⟨rfl, p_8⟩ | ⟨rfl, p_8⟩
    · skip
      refine lv_if_eq (tgt := 28) hx hb dX4_lay_13 (by decide) (fun c_9 => ?_) (fun c_9 => ?_)
      · skip
        refine lv_iconst (v := 0) hx hb dX4_lay_28 (by decide) ?_
        have z_10 : (0 : Int32).toInt = 0 := by decide
        exact W.zret (v := 0) hx hb hr (by decide) (fun t ht hW => ⟨⟨0, (fv, wd, ar), rfl, ⟨hF_fv, hA_ar, (fM_rf [9] _), (fA_rf [5] _), rfl, (iv_w (⟨by decide, by decide⟩ : (0 : Int) ≤ (0 : Int32).toInt ∧ (0 : Int32).toInt ≤ 0) (by decide) (by decide)), (show ps_street (0 : Int32) (fv 9) (fv 9) a b v from Or.inl ⟨rfl, rfl, by omega⟩), trivial⟩, ⟨by rw [ht]; exact hP, va_K.moved hW.alike hK⟩⟩, hS.F ht⟩) hS.2.2 dX4_lay_29
      · skip
        exact absurd c_9 (by decide)
    · skip
      have i_11 : 0 ≤ a.toInt ∧ a.toInt ≤ 2147483647 := ⟨p_8.1, (iv_any a).2⟩
      have i_12 : 0 ≤ a.toInt ∧ a.toInt ≤ 11 := ⟨i_11.1, p_8.2⟩
      refine lv_if_eq (tgt := 28) hx hb dX4_lay_13 (by decide) (fun c_13 => ?_) (fun c_13 => ?_)
      · skip
        exact absurd c_13 (by decide)
      · skip
        refine lv_iload_n hx hb dX4_lay_16 rfl (lv_at hl 2 rfl) ?_
        refine va_calli (va_runS (As := [.int b]) (rest := []) ⟨hx, hb, hml, hown, hts⟩ (x_isCorner l H.size b) (va_cwS 1 hts (gS kw_3_143 kw_3_144 kw_1_3 kw_3_145) rfl rfl rfl (by decide +kernel) ⟨Nat.le_of_ble_eq_true rfl, Nat.le_of_ble_eq_true rfl⟩) ⟨fun a U g mk q => ⟨q.1, q.2⟩, fun U hU hW => ⟨rfl, congrArg Array.size hU⟩⟩ rfl rfl hl.1 rfl (lv_room (Nat.le_of_ble_eq_true rfl)) dX4_lay_17 ⟨Nat.le_of_ble_eq_true rfl, Nat.le_of_ble_eq_true rfl⟩) hS (fun q _ h9 => nX_up hS q h9) (nX_up hS) (fun r_14 u t H1 locs ht _ hw hB _ hk1 hS => ?_)
        obtain ⟨p_15, p_16, -⟩ := hw
        have hP := my_keepM hP hk1
        generalize H1 = H at hP hS ⊢
        rcases p_16 with ⟨rfl, p_16⟩ | ⟨rfl, p_16⟩
        · skip
          refine lv_if_eq (tgt := 28) hx hb dX4_lay_20 (by decide) (fun c_17 => ?_) (fun c_17 => ?_)
          · skip
            refine lv_iconst (v := 0) hx hb dX4_lay_28 (by decide) ?_
            have z_18 : (0 : Int32).toInt = 0 := by decide
            exact W.zret (v := 0) hx hb hr (by decide) (fun t ht hW => ⟨⟨0, (fv, wd, ar), rfl, ⟨hF_fv, hA_ar, (fM_rf [9] _), (fA_rf [5] _), rfl, (iv_w (⟨by decide, by decide⟩ : (0 : Int) ≤ (0 : Int32).toInt ∧ (0 : Int32).toInt ≤ 0) (by decide) (by decide)), (show ps_street (0 : Int32) (fv 9) (fv 9) a b v from Or.inl ⟨rfl, rfl, by omega⟩), trivial⟩, ⟨by rw [ht]; exact hP, va_K.moved hW.alike hK⟩⟩, hS.F ht⟩) hS.2.2 dX4_lay_29
          · skip
            exact absurd c_17 (by decide)
        · skip
          have i_19 : 0 ≤ b.toInt ∧ b.toInt ≤ 2147483647 := ⟨p_16.1, (iv_any b).2⟩
          have i_20 : 0 ≤ b.toInt ∧ b.toInt ≤ 11 := ⟨i_19.1, p_16.2⟩
          refine lv_if_eq (tgt := 28) hx hb dX4_lay_20 (by decide) (fun c_21 => ?_) (fun c_21 => ?_)
          · skip
            exact absurd c_21 (by decide)
          · skip
            refine lv_iload_n hx hb dX4_lay_23 rfl (lv_at hl 1 rfl) ?_
            refine lv_iload_n hx hb dX4_lay_24 rfl (lv_at hl 2 rfl) ?_
            refine lv_icmp_ne (tgt := 30) hx hb dX4_lay_25 (by decide) (fun c_22 => ?_) (fun c_22 => ?_)
            · skip
              have k_23 : ¬ a.toInt = b.toInt := fun q => c_22 (Int32.toInt_inj.mp q)
              refine lv_iload_n hx hb dX4_lay_30 rfl (lv_at hl 3 rfl) ?_
              refine lv_iconst (v := 1) hx hb dX4_lay_31 (by decide) ?_
              refine lv_icmp_lt (tgt := 41) hx hb dX4_lay_32 (by decide) (fun c_24 => ?_) (fun c_24 => ?_)
              · skip
                have i_25 : (-2147483648) ≤ v.toInt ∧ v.toInt ≤ 0 := iv_lt1 (iv_any v) (⟨by decide, by decide⟩ : (1 : Int) ≤ (1 : Int32).toInt ∧ (1 : Int32).toInt ≤ 1) c_24
                refine lv_iconst (v := 0) hx hb dX4_lay_41 (by decide) ?_
                have z_26 : (0 : Int32).toInt = 0 := by decide
                exact W.zret (v := 0) hx hb hr (by decide) (fun t ht hW => ⟨⟨0, (fv, wd, ar), rfl, ⟨hF_fv, hA_ar, (fM_rf [9] _), (fA_rf [5] _), rfl, (iv_w (⟨by decide, by decide⟩ : (0 : Int) ≤ (0 : Int32).toInt ∧ (0 : Int32).toInt ≤ 0) (by decide) (by decide)), (show ps_street (0 : Int32) (fv 9) (fv 9) a b v from Or.inl ⟨rfl, rfl, by omega⟩), trivial⟩, ⟨by rw [ht]; exact hP, va_K.moved hW.alike hK⟩⟩, hS.F ht⟩) hS.2.2 dX4_lay_42
              · skip
                have i_27 : 1 ≤ v.toInt ∧ v.toInt ≤ 2147483647 := iv_le2 (⟨by decide, by decide⟩ : (1 : Int) ≤ (1 : Int32).toInt ∧ (1 : Int32).toInt ≤ 1) (iv_any v) (Int32.not_lt.mp c_24)
                refine lv_iload_n hx hb dX4_lay_35 rfl (lv_at hl 3 rfl) ?_
                refine lv_bipush (v := 99) hx hb dX4_lay_36 (by decide) ?_
                refine lv_icmp_le (tgt := 43) hx hb dX4_lay_38 (by decide) (fun c_28 => ?_) (fun c_28 => ?_)
                · skip
                  have i_29 : 1 ≤ v.toInt ∧ v.toInt ≤ 99 := iv_le1 i_27 (⟨by decide, by decide⟩ : (99 : Int) ≤ (99 : Int32).toInt ∧ (99 : Int32).toInt ≤ 99) c_28
                  refine lv_aload_n hx hb dX4_lay_43 rfl (lv_at hl 0 rfl) ?_
                  refine lv_dup hx hb dX4_lay_44 rfl ?_
                  refine gX_X4_16 hx hb htg hown hK hP dX4_lay_45 ?_
                  refine lv_iconst (v := 1) hx hb dX4_lay_48 (by decide) ?_
                  refine lv_iadd hx hb dX4_lay_49 ?_
                  refine lv_topi (fun v_30 ev_30 => ?_)
                  have t_31 : v_30.toInt = (fv 9).toInt + 1 ∧ 1 ≤ v_30.toInt ∧ v_30.toInt ≤ 30 := iv_addc ev_30 i_5 (by decide) (by decide) (by decide)
                  refine pX_X4_16 hx hb htg hown hK hP hS hd dX4_lay_50 (fun H locs fv_33 efv_33 hP hS => ?_)
                  have hF_fv_33 : rX fv_33 := rX_put hF_fv efv_33 (iv_w t_31.2 (by decide) (by decide))
                  refine lv_iconst (v := 0) hx hb dX4_lay_53 (by decide) ?_
                  refine lv_istore (lv' := [(4, .int 0), (0, .ref (ob 2)), (1, .int a), (2, .int b), (3, .int v)]) hx hb dX4_lay_54 hl (by decide) rfl (fun ls hl => ?_)
                  refine my_cut (P := fun R9 a9 Q9 => ∀ (n_41 : Nat) (x_34 : Int32) (fv_35 : Nat → Int32) (ar_37 : Nat → Nat → Int32) (wd_39 : xT) (H : Heap) (locs : List Loc) (ls : Array Slot), 144 - x_34.toInt < (n_41 : Int) → (0 ≤ x_34.toInt ∧ x_34.toInt ≤ 144) → rX fv_35 → fM [] fv_33 fv_35 → rB ar_37 → fA [5] ar ar_37 → wd_39.2 = wd.2 → va_P (dC, dI) vwCl (wsX ob ad cA fv_35 wd_39 ar_37) H → va_S (aX ob ad s.heap.size) s.heap H locs → lv_has ls 9 [(0, .ref (ob 2)), (1, .int a), (2, .int b), (3, .int v), (4, .int x_34)] → W p l e R9 s m a9 below meth c H locs 0 0 Q9 (F0 m 56 ls [])) ?_ (fun hj_43 => ?_)
                  · intro n_41
                    induction n_41 with
                    | zero => intro x_34 fv_35 ar_37 wd_39 H locs ls fu_42 i_x_34 hF_fv_35 fr_36 hA_ar_37 fa_38 wf_40; exfalso; omega
                    | succ n_41 ih_41 =>
                      intro x_34 fv_35 ar_37 wd_39 H locs ls fu_42 i_x_34 hF_fv_35 fr_36 hA_ar_37 fa_38 wf_40 hP hS hl
                      refine lv_iload hx hb dX4_lay_56 (lv_at hl 4 rfl) ?_
                      refine lv_aload_n hx hb dX4_lay_58 rfl (lv_at hl 0 rfl) ?_
                      refine gX_X4_9 hx hb htg hown hK hP dX4_lay_59 ?_
                      refine nX_5 hx hb hK hP dX4_lay_62 ?_
                      refine lv_icmp_ge (tgt := 148) hx hb dX4_lay_63 (by decide) (fun c_44 => ?_) (fun c_44 => ?_)
                      · skip
                        have i_45 : 144 ≤ x_34.toInt ∧ x_34.toInt ≤ 144 := iv_le2 (⟨by decide, by decide⟩ : (144 : Int) ≤ (144 : Int32).toInt ∧ (144 : Int32).toInt ≤ 144) i_x_34 c_44
                        refine lv_iconst (v := 1) hx hb dX4_lay_148 (by decide) ?_
                        have z_46 : (1 : Int32).toInt = 1 := by decide
                        exact W.zret (v := 1) hx hb hr (by decide) (fun t ht hW => ⟨⟨1, (fv_35, wd_39, ar_37), rfl, ⟨hF_fv_35, hA_ar_37, (fM_call (fM_put (fM_rf [9] _) efv_33 (by decide)) fr_36 (by decide)), (fA_call (fA_rf [5] _) fa_38 (by decide)), wf_40, (iv_w (⟨by decide, by decide⟩ : (1 : Int) ≤ (1 : Int32).toInt ∧ (1 : Int32).toInt ≤ 1) (by decide) (by decide)), (show ps_street (1 : Int32) (fv_35 9) (fv 9) a b v from Or.inr ⟨rfl, by rw [show fv_35 9 = v_30 from (fr_36 9 rfl).trans ((congrFun efv_33 9))]; omega, by omega⟩), trivial⟩, ⟨by rw [ht]; exact hP, va_K.moved hW.alike hK⟩⟩, hS.F ht⟩) hS.2.2 dX4_lay_149
                      · skip
                        have i_47 : 0 ≤ x_34.toInt ∧ x_34.toInt ≤ 143 := iv_lt1 i_x_34 (⟨by decide, by decide⟩ : (144 : Int) ≤ (144 : Int32).toInt ∧ (144 : Int32).toInt ≤ 144) (Int32.not_le.mp c_44)
                        refine lv_iload hx hb dX4_lay_66 (lv_at hl 4 rfl) ?_
                        refine lv_bipush (v := 12) hx hb dX4_lay_68 (by decide) ?_
                        refine lv_idiv hx hb dX4_lay_70 (by decide) ?_
                        refine lv_topi (fun v_48 ev_48 => ?_)
                        refine lv_istore (lv' := [(5, .int v_48), (0, .ref (ob 2)), (1, .int a), (2, .int b), (3, .int v), (4, .int x_34)]) hx hb dX4_lay_71 hl (by decide) rfl (fun ls hl => ?_)
                        refine lv_iload hx hb dX4_lay_73 (lv_at hl 5 rfl) ?_
                        refine lv_bipush (v := 12) hx hb dX4_lay_75 (by decide) ?_
                        refine lv_irem hx hb dX4_lay_77 (by decide) ?_
                        refine lv_topi (fun v_49 ev_49 => ?_)
                        refine lv_istore (lv' := [(6, .int v_49), (5, .int v_48), (0, .ref (ob 2)), (1, .int a), (2, .int b), (3, .int v), (4, .int x_34)]) hx hb dX4_lay_78 hl (by decide) rfl (fun ls hl => ?_)
                        refine lv_aload_n hx hb dX4_lay_80 rfl (lv_at hl 2 rfl) ?_
                        refine lv_iload hx hb dX4_lay_81 (lv_at hl 1 rfl) ?_
                        refine lv_iload_n hx hb dX4_lay_83 rfl (lv_at hl 3 rfl) ?_
                        refine va_calli (va_runV (As := [.int v_48, .int a]) (rest := []) ⟨hx, hb, hml, hown, hts⟩ (x_between l dC dI H.size ob ad cA hd fv_35 wd_39 ar_37 hF_fv_35 hA_ar_37 v_48 a) (cwV 2 hts (gV kw_3_146 kw_3_147 kw_3_148 kw_1_3 kw_3_149) rfl rfl rfl (by decide +kernel) ⟨Nat.le_of_ble_eq_true rfl, Nat.le_of_ble_eq_true rfl⟩) ⟨fun a U g mk q => ⟨q.1, q.2.1, q.2.2.1, va_K.moved (u := U) (U := U.calling g mk a) (Vm.Alike.refl U.vm) q.2.2.2⟩, va_recv hK hP (ci := 5) (q0 := 2) rfl rfl, fun U hU hW => ⟨rfl, by rw [hU], by rw [hU]; exact hP, va_K.moved hW.alike hK⟩⟩ rfl rfl hl.1 rfl (lv_room (Nat.le_of_ble_eq_true rfl)) dX4_lay_84 ⟨Nat.le_of_ble_eq_true rfl, Nat.le_of_ble_eq_true rfl⟩) hS (fun q _ h9 => aX_up hS q h9) (aX_up hS) (fun r_50 u t H1 locs ht _ hw hB _ hk1 hS => ?_)
                        obtain ⟨fv_51, wd_52, ar_53⟩ := u
                        obtain ⟨hF_fv_51, hA_ar_53, fr_54, fa_55, wf_56, -⟩ := hw
                        have wf_56 : wd_52.2 = wd_39.2 := wf_56
                        have hP : va_P (dC, dI) vwCl (wsX ob ad cA fv_51 wd_52 ar_53) H1 := by have h9 := hB.1; rw [ht] at h9; exact h9
                        have fr_54 : fM [] fv_35 fv_51 := fr_54
                        have fa_55 : fA [] ar_37 ar_53 := fa_55
                        generalize H1 = H at hP hS ⊢
                        refine lv_iload_n hx hb dX4_lay_87 rfl (lv_at hl 5 rfl) ?_
                        refine lv_iadd hx hb dX4_lay_88 ?_
                        refine lv_topi (fun v_57 ev_57 => ?_)
                        refine lv_aload_n hx hb dX4_lay_89 rfl (lv_at hl 2 rfl) ?_
                        refine lv_iload_n hx hb dX4_lay_90 rfl (lv_at hl 4 rfl) ?_
                        refine lv_iload hx hb dX4_lay_91 (lv_at hl 0 rfl) ?_
                        refine va_calli (va_runV (As := [.int b, .int v_49]) (rest := [.int v_57]) ⟨hx, hb, hml, hown, hts⟩ (x_between l dC dI H.size ob ad cA hd fv_51 wd_52 ar_53 hF_fv_51 hA_ar_53 b v_49) (cwV 2 hts (gV kw_3_146 kw_3_147 kw_3_148 kw_1_3 kw_3_149) rfl rfl rfl (by decide +kernel) ⟨Nat.le_of_ble_eq_true rfl, Nat.le_of_ble_eq_true rfl⟩) ⟨fun a U g mk q => ⟨q.1, q.2.1, q.2.2.1, va_K.moved (u := U) (U := U.calling g mk a) (Vm.Alike.refl U.vm) q.2.2.2⟩, va_recv hK hP (ci := 5) (q0 := 2) rfl rfl, fun U hU hW => ⟨rfl, by rw [hU], by rw [hU]; exact hP, va_K.moved hW.alike hK⟩⟩ rfl rfl hl.1 rfl (lv_room (Nat.le_of_ble_eq_true rfl)) dX4_lay_93 ⟨Nat.le_of_ble_eq_true rfl, Nat.le_of_ble_eq_true rfl⟩) hS (fun q _ h9 => aX_up hS q h9) (aX_up hS) (fun r_58 u t H1 locs ht _ hw hB _ hk1 hS => ?_)
                        obtain ⟨fv_59, wd_60, ar_61⟩ := u
                        obtain ⟨hF_fv_59, hA_ar_61, fr_62, fa_63, wf_64, -⟩ := hw
                        have wf_64 : wd_60.2 = wd_52.2 := wf_64
                        have hP : va_P (dC, dI) vwCl (wsX ob ad cA fv_59 wd_60 ar_61) H1 := by have h9 := hB.1; rw [ht] at h9; exact h9
                        have fr_62 : fM [] fv_51 fv_59 := fr_62
                        have fa_63 : fA [] ar_53 ar_61 := fa_63
                        generalize H1 = H at hP hS ⊢
                        refine lv_iadd hx hb dX4_lay_96 ?_
                        refine lv_topi (fun v_65 ev_65 => ?_)
                        refine lv_istore (lv' := [(7, .int v_65), (6, .int v_49), (5, .int v_48), (0, .ref (ob 2)), (1, .int a), (2, .int b), (3, .int v), (4, .int x_34)]) hx hb dX4_lay_97 hl (by decide) rfl (fun ls hl => ?_)
                        refine lv_aload_n hx hb dX4_lay_99 rfl (lv_at hl 3 rfl) ?_
                        refine lv_iload hx hb dX4_lay_100 (lv_at hl 2 rfl) ?_
                        refine lv_iload_n hx hb dX4_lay_102 rfl (lv_at hl 5 rfl) ?_
                        refine va_calli (va_runV (As := [.int v_48, .int b]) (rest := []) ⟨hx, hb, hml, hown, hts⟩ (x_between l dC dI H.size ob ad cA hd fv_59 wd_60 ar_61 hF_fv_59 hA_ar_61 v_48 b) (cwV 2 hts (gV kw_3_146 kw_3_147 kw_3_148 kw_1_3 kw_3_149) rfl rfl rfl (by decide +kernel) ⟨Nat.le_of_ble_eq_true rfl, Nat.le_of_ble_eq_true rfl⟩) ⟨fun a U g mk q => ⟨q.1, q.2.1, q.2.2.1, va_K.moved (u := U) (U := U.calling g mk a) (Vm.Alike.refl U.vm) q.2.2.2⟩, va_recv hK hP (ci := 5) (q0 := 2) rfl rfl, fun U hU hW => ⟨rfl, by rw [hU], by rw [hU]; exact hP, va_K.moved hW.alike hK⟩⟩ rfl rfl hl.1 rfl (lv_room (Nat.le_of_ble_eq_true rfl)) dX4_lay_103 ⟨Nat.le_of_ble_eq_true rfl, Nat.le_of_ble_eq_true rfl⟩) hS (fun q _ h9 => aX_up hS q h9) (aX_up hS) (fun r_66 u t H1 locs ht _ hw hB _ hk1 hS => ?_)
                        obtain ⟨fv_67, wd_68, ar_69⟩ := u
                        obtain ⟨hF_fv_67, hA_ar_69, fr_70, fa_71, wf_72, -⟩ := hw
                        have wf_72 : wd_68.2 = wd_60.2 := wf_72
                        have hP : va_P (dC, dI) vwCl (wsX ob ad cA fv_67 wd_68 ar_69) H1 := by have h9 := hB.1; rw [ht] at h9; exact h9
                        have fr_70 : fM [] fv_59 fv_67 := fr_70
                        have fa_71 : fA [] ar_61 ar_69 := fa_71
                        generalize H1 = H at hP hS ⊢
                        refine lv_iload_n hx hb dX4_lay_106 rfl (lv_at hl 6 rfl) ?_
                        refine lv_iadd hx hb dX4_lay_107 ?_
                        refine lv_topi (fun v_73 ev_73 => ?_)
                        refine lv_aload_n hx hb dX4_lay_108 rfl (lv_at hl 3 rfl) ?_
                        refine lv_iload_n hx hb dX4_lay_109 rfl (lv_at hl 4 rfl) ?_
                        refine lv_iload hx hb dX4_lay_110 (lv_at hl 1 rfl) ?_
                        refine va_calli (va_runV (As := [.int a, .int v_49]) (rest := [.int v_73]) ⟨hx, hb, hml, hown, hts⟩ (x_between l dC dI H.size ob ad cA hd fv_67 wd_68 ar_69 hF_fv_67 hA_ar_69 a v_49) (cwV 2 hts (gV kw_3_146 kw_3_147 kw_3_148 kw_1_3 kw_3_149) rfl rfl rfl (by decide +kernel) ⟨Nat.le_of_ble_eq_true rfl, Nat.le_of_ble_eq_true rfl⟩) ⟨fun a U g mk q => ⟨q.1, q.2.1, q.2.2.1, va_K.moved (u := U) (U := U.calling g mk a) (Vm.Alike.refl U.vm) q.2.2.2⟩, va_recv hK hP (ci := 5) (q0 := 2) rfl rfl, fun U hU hW => ⟨rfl, by rw [hU], by rw [hU]; exact hP, va_K.moved hW.alike hK⟩⟩ rfl rfl hl.1 rfl (lv_room (Nat.le_of_ble_eq_true rfl)) dX4_lay_112 ⟨Nat.le_of_ble_eq_true rfl, Nat.le_of_ble_eq_true rfl⟩) hS (fun q _ h9 => aX_up hS q h9) (aX_up hS) (fun r_74 u t H1 locs ht _ hw hB _ hk1 hS => ?_)
                        obtain ⟨fv_75, wd_76, ar_77⟩ := u
                        obtain ⟨hF_fv_75, hA_ar_77, fr_78, fa_79, wf_80, -⟩ := hw
                        have wf_80 : wd_76.2 = wd_68.2 := wf_80
                        have hP : va_P (dC, dI) vwCl (wsX ob ad cA fv_75 wd_76 ar_77) H1 := by have h9 := hB.1; rw [ht] at h9; exact h9
                        have fr_78 : fM [] fv_67 fv_75 := fr_78
                        have fa_79 : fA [] ar_69 ar_77 := fa_79
                        generalize H1 = H at hP hS ⊢
                        refine lv_iadd hx hb dX4_lay_115 ?_
                        refine lv_topi (fun v_81 ev_81 => ?_)
                        refine lv_istore (lv' := [(8, .int v_81), (7, .int v_65), (6, .int v_49), (5, .int v_48), (0, .ref (ob 2)), (1, .int a), (2, .int b), (3, .int v), (4, .int x_34)]) hx hb dX4_lay_116 hl (by decide) rfl (fun ls hl => ?_)
                        refine lv_aload_n hx hb dX4_lay_118 rfl (lv_at hl 4 rfl) ?_
                        refine gX_X4_9 hx hb htg hown hK hP dX4_lay_119 ?_
                        refine lv_iload hx hb dX4_lay_122 (lv_at hl 8 rfl) ?_
                        refine lv_aload_n hx hb dX4_lay_124 rfl (lv_at hl 4 rfl) ?_
                        refine gX_X4_9 hx hb htg hown hK hP dX4_lay_125 ?_
                        refine lv_iload hx hb dX4_lay_128 (lv_at hl 8 rfl) ?_
                        refine lX_5 hx hb hK hP (iv_in i_47 (by decide) (by decide)) dX4_lay_130 (fun v_82 ev_82 => ?_)
                        refine lv_iload hx hb dX4_lay_131 (lv_at hl 1 rfl) ?_
                        refine lv_iload hx hb dX4_lay_133 (lv_at hl 0 rfl) ?_
                        refine va_mmin hx hb (hml.trans hl.1.symm) hown (htg (.methodLink RX4 28 Lib.Math.min.name) kw_3_150) (htg (.static Lib.Math.min.name) kw_3_151) (htg (.initialized RJ9) kw_1_16) (htg (.code Lib.Math.min.name Lib.Math.min.code 2 (some .int)) kw_3_152) (Nat.le_of_ble_eq_true rfl) (Nat.le_of_ble_eq_true rfl) (Nat.le_of_ble_eq_true rfl) (Nat.le_of_ble_eq_true rfl) dX4_lay_135 ?_
                        refine lv_topi (fun v_83 ev_83 => ?_)
                        refine va_mmin hx hb (hml.trans hl.1.symm) hown (htg (.methodLink RX4 28 Lib.Math.min.name) kw_3_150) (htg (.static Lib.Math.min.name) kw_3_151) (htg (.initialized RJ9) kw_1_16) (htg (.code Lib.Math.min.name Lib.Math.min.code 2 (some .int)) kw_3_152) (Nat.le_of_ble_eq_true rfl) (Nat.le_of_ble_eq_true rfl) (Nat.le_of_ble_eq_true rfl) (Nat.le_of_ble_eq_true rfl) dX4_lay_138 ?_
                        refine lv_topi (fun v_84 ev_84 => ?_)
                        refine sX_5 hx hb hK hP hS hd (iv_in i_47 (by decide) (by decide)) dX4_lay_141 (fun H locs ar_85 ear_85 hP hS => ?_)
                        have hA_ar_85 : rB ar_85 := rB_put hA_ar_77 ear_85 (iv_any _)
                        obtain ⟨v_86, ev_86⟩ : ∃ z : Int32, z = x_34 + 1 := ⟨_, rfl⟩
                        refine lv_iinc (v := v_86) (lv' := [(4, .int v_86), (8, .int v_81), (7, .int v_65), (6, .int v_49), (5, .int v_48), (0, .ref (ob 2)), (1, .int a), (2, .int b), (3, .int v)]) hx hb dX4_lay_142 hl (k := 8) rfl (by rw [ev_86]; rfl) (by decide) rfl (fun ls hl => ?_)
                        have t_87 : v_86.toInt = x_34.toInt + 1 ∧ 1 ≤ v_86.toInt ∧ v_86.toInt ≤ 144 := iv_addc ev_86 i_47 (by decide) (by decide) (by decide)
                        refine lv_goto (tgt := 56) hx hb dX4_lay_145 (by decide) ?_
                        exact ih_41 v_86 fv_75 ar_85 wd_76 _ _ ls (by omega) (iv_w t_87.2 (by decide) (by decide)) hF_fv_75 (fM_call (fM_call (fM_call (fM_call (fM_call (fM_rf [] _) fr_36 (by decide)) fr_54 (by decide)) fr_62 (by decide)) fr_70 (by decide)) fr_78 (by decide)) hA_ar_85 (fA_put (fA_call (fA_call (fA_call (fA_call (fA_call (fA_rf [5] _) fa_38 (by decide)) fa_55 (by decide)) fa_63 (by decide)) fa_71 (by decide)) fa_79 (by decide)) ear_85 (by decide)) (wf_80.trans (wf_72.trans (wf_64.trans (wf_56.trans wf_40)))) hP hS (lv_sub hl [5, 6, 7, 8, 0] rfl)
                  · skip
                    have z_89 : (0 : Int32).toInt = 0 := by decide
                    exact hj_43 145 0 fv_33 ar wd _ _ ls (by first | decide | omega) (iv_w (⟨by decide, by decide⟩ : (0 : Int) ≤ (0 : Int32).toInt ∧ (0 : Int32).toInt ≤ 0) (by decide) (by decide)) hF_fv_33 (fM_rf [] _) hA_ar (fA_rf [5] _) rfl hP hS (lv_sub hl [1, 2, 3, 4, 0] rfl)
                · skip
                  have i_90 : 100 ≤ v.toInt ∧ v.toInt ≤ 2147483647 := iv_lt2 (⟨by decide, by decide⟩ : (99 : Int) ≤ (99 : Int32).toInt ∧ (99 : Int32).toInt ≤ 99) i_27 (Int32.not_le.mp c_28)
                  refine lv_iconst (v := 0) hx hb dX4_lay_41 (by decide) ?_
                  have z_91 : (0 : Int32).toInt = 0 := by decide
                  exact W.zret (v := 0) hx hb hr (by decide) (fun t ht hW => ⟨⟨0, (fv, wd, ar), rfl, ⟨hF_fv, hA_ar, (fM_rf [9] _), (fA_rf [5] _), rfl, (iv_w (⟨by decide, by decide⟩ : (0 : Int) ≤ (0 : Int32).toInt ∧ (0 : Int32).toInt ≤ 0) (by decide) (by decide)), (show ps_street (0 : Int32) (fv 9) (fv 9) a b v from Or.inl ⟨rfl, rfl, by omega⟩), trivial⟩, ⟨by rw [ht]; exact hP, va_K.moved hW.alike hK⟩⟩, hS.F ht⟩) hS.2.2 dX4_lay_42
            · skip
              have k_92 := congrArg Int32.toInt c_22
              refine lv_iconst (v := 0) hx hb dX4_lay_28 (by decide) ?_
              have z_93 : (0 : Int32).toInt = 0 := by decide
              exact W.zret (v := 0) hx hb hr (by decide) (fun t ht hW => ⟨⟨0, (fv, wd, ar), rfl, ⟨hF_fv, hA_ar, (fM_rf [9] _), (fA_rf [5] _), rfl, (iv_w (⟨by decide, by decide⟩ : (0 : Int) ≤ (0 : Int32).toInt ∧ (0 : Int32).toInt ≤ 0) (by decide) (by decide)), (show ps_street (0 : Int32) (fv 9) (fv 9) a b v from Or.inl ⟨rfl, rfl, by omega⟩), trivial⟩, ⟨by rw [ht]; exact hP, va_K.moved hW.alike hK⟩⟩, hS.F ht⟩) hS.2.2 dX4_lay_29
set_option maxHeartbeats 4000000 in
set_option maxRecDepth 100000 in
theorem x_streetE (l : Launch) (dC : Nat → ClassId) (dI : Nat → Nat → Nat) (sz : Nat) (ob ad : Nat → Nat) (cA : Nat → ClassId) (hd : dX ob ad) (fv : Nat → Int32) (wd : xT) (ar : Nat → Nat → Int32) (hF_fv : rX fv) (hA_ar : rB ar) (a : Int32) (b : Int32) (v : Int32) : Met l yX11_street (.code yX11_street cX11_street 4 (some .boolean) :: lw_good) ({ frames := 4, cells := 0, slots := 0, locals := 90 }) (va_Pc [.ref (ob 0), .int a, .int b, .int v] (prX dC dI ob ad cA fv wd ar sz)) (va_Qi (fun (r : Int32) (u : xS) => rX u.1 ∧ rB u.2.2 ∧ fM [9] fv u.1 ∧ fA [5] ar u.2.2 ∧ u.2.1.2 = wd.2 ∧ (0 ≤ r.toInt ∧ r.toInt ≤ 1) ∧ (ps_street r (u.1 9) (fv 9) a b v) ∧ True) (enX dC dI ob ad cA) (aX ob ad sz)) 0 0 (aX ob ad sz) := by
  refine Met.ofW (cc := cX11_street) (maxL := 4) (ret := (some .boolean)) (by decide) rfl ?_
  intro p e s m args below meth c s₁ B hml hv
  obtain ⟨rfl, hsz, hP, hK⟩ := hv
  have hx := B.exec
  have hb := B.bytes
  have hr := B.returns
  have hts := atoms_spec (ws := (.code yX11_street cX11_street 4 (some .boolean) :: lw_good)) B.pre
  have htg : ∀ w ∈ lw_good, w.before _ s = true := fun w hw => hts w (List.mem_cons_of_mem _ hw)
  have hown : s.vm.findClass RX11 = some m.cls := findClass_of_methodNamed B.named
  have hlocks := B.notSynchronized
  subst hsz
  have hS : va_S (aX ob ad s.heap.size) s.heap s.heap [] := va_S.rf
  have hl := lv_entry ([.ref (ob 0), .int a, .int b, .int v]) (n := 4) (Nat.le_of_ble_eq_true rfl)
  rw [lg_entry_eq]
  generalize (lg_sl ([.ref (ob 0), .int a, .int b, .int v]) ++ List.replicate (4 - (lg_sl ([.ref (ob 0), .int a, .int b, .int v])).length) Slot.unset).toArray = ls at hl ⊢
  have hl : lv_has ls 4 [(0, .ref (ob 0)), (1, .int a), (2, .int b), (3, .int v)] := hl
  refine lv_aload_n hx hb dX11_street_0 rfl (lv_at hl 0 rfl) ?_
  refine gX_X11_16 hx hb htg hown hK hP dX11_street_1 ?_
  refine gX_X11_60 hx hb htg hown hK hP dX11_street_4 ?_
  refine lv_iload_n hx hb dX11_street_7 rfl (lv_at hl 1 rfl) ?_
  refine lv_iload_n hx hb dX11_street_8 rfl (lv_at hl 2 rfl) ?_
  refine lv_iload_n hx hb dX11_street_9 rfl (lv_at hl 3 rfl) ?_
  have z_1 : 0 ≤ (fv 9).toInt ∧ (fv 9).toInt ≤ 30 := hF_fv 9
  refine va_calli (va_runV (As := [.int a, .int b, .int v]) (rest := []) ⟨hx, hb, hml, hown, hts⟩ (x_layE l dC dI s.heap.size ob ad cA hd fv wd ar hF_fv hA_ar a b v) (cwV 3 hts (gV kw_3_139 kw_3_140 kw_3_141 kw_1_3 kw_3_142) rfl rfl rfl (by decide +kernel) ⟨Nat.le_of_ble_eq_true rfl, Nat.le_of_ble_eq_true rfl⟩) ⟨fun a U g mk q => ⟨q.1, q.2.1, q.2.2.1, va_K.moved (u := U) (U := U.calling g mk a) (Vm.Alike.refl U.vm) q.2.2.2⟩, va_recv hK hP (ci := 5) (q0 := 2) rfl rfl, fun U hU hW => ⟨rfl, by rw [hU], by rw [hU]; exact hP, va_K.moved hW.alike hK⟩⟩ rfl rfl hl.1 rfl (lv_room (Nat.le_of_ble_eq_true rfl)) dX11_street_10 ⟨Nat.le_of_ble_eq_true rfl, Nat.le_of_ble_eq_true rfl⟩) hS (fun q _ h9 => aX_up hS q h9) (aX_up hS) (fun r_2 u t H1 locs ht _ hw hB _ hk1 hS => ?_)
  obtain ⟨fv_5, wd_6, ar_7⟩ := u
  obtain ⟨hF_fv_5, hA_ar_7, fr_8, fa_9, wf_10, p_3, p_4, -⟩ := hw
  have wf_10 : wd_6.2 = wd.2 := wf_10
  have hP : va_P (dC, dI) vwCl (wsX ob ad cA fv_5 wd_6 ar_7) H1 := by have h9 := hB.1; rw [ht] at h9; exact h9
  have fr_8 : fM [9] fv fv_5 := fr_8
  have fa_9 : fA [5] ar ar_7 := fa_9
  have p_4 : ps_street r_2 (fv_5 9) (fv 9) a b v := p_4
  generalize H1 = H at hP hS ⊢
  exact W.zret (v := r_2) hx hb hr (iv_nar p_3) (fun t ht hW => ⟨⟨r_2, (fv_5, wd_6, ar_7), rfl, ⟨hF_fv_5, hA_ar_7, (fM_call (fM_rf [9] _) fr_8 (by decide)), (fA_call (fA_rf [5] _) fa_9 (by decide)), wf_10, p_3, (show ps_street r_2 (fv_5 9) (fv 9) a b v from p_4), trivial⟩, ⟨by rw [ht]; exact hP, va_K.moved hW.alike hK⟩⟩, hS.F ht⟩) hS.2.2 dX11_street_13
set_option maxHeartbeats 4000000 in
set_option maxRecDepth 100000 in
theorem x_insureE (l : Launch) (dC : Nat → ClassId) (dI : Nat → Nat → Nat) (sz : Nat) (ob ad : Nat → Nat) (cA : Nat → ClassId) (hd : dX ob ad) (fv : Nat → Int32) (wd : xT) (ar : Nat → Nat → Int32) (hF_fv : rX fv) (hA_ar : rB ar) (a : Int32) (b : Int32) : Met l yX11_insure (.code yX11_insure cX11_insure 3 (some .boolean) :: lw_good) ({ frames := 3, cells := 0, slots := 0, locals := 61 }) (va_Pc [.ref (ob 0), .int a, .int b] (prX dC dI ob ad cA fv wd ar sz)) (va_Qi (fun (r : Int32) (u : xS) => rX u.1 ∧ rB u.2.2 ∧ fM [] fv u.1 ∧ fA [23] ar u.2.2 ∧ u.2.1.2 = wd.2 ∧ (0 ≤ r.toInt ∧ r.toInt ≤ 1) ∧ (ps_insure r (fv 11) a b) ∧ True) (enX dC dI ob ad cA) (aX ob ad sz)) 0 0 (aX ob ad sz) := by
  refine Met.ofW (cc := cX11_insure) (maxL := 3) (ret := (some .boolean)) (by decide) rfl ?_
  intro p e s m args below meth c s₁ B hml hv
  obtain ⟨rfl, hsz, hP, hK⟩ := hv
  have hx := B.exec
  have hb := B.bytes
  have hr := B.returns
  have hts := atoms_spec (ws := (.code yX11_insure cX11_insure 3 (some .boolean) :: lw_good)) B.pre
  have htg : ∀ w ∈ lw_good, w.before _ s = true := fun w hw => hts w (List.mem_cons_of_mem _ hw)
  have hown : s.vm.findClass RX11 = some m.cls := findClass_of_methodNamed B.named
  have hlocks := B.notSynchronized
  subst hsz
  have hS : va_S (aX ob ad s.heap.size) s.heap s.heap [] := va_S.rf
  have hl := lv_entry ([.ref (ob 0), .int a, .int b]) (n := 3) (Nat.le_of_ble_eq_true rfl)
  rw [lg_entry_eq]
  generalize (lg_sl ([.ref (ob 0), .int a, .int b]) ++ List.replicate (3 - (lg_sl ([.ref (ob 0), .int a, .int b])).length) Slot.unset).toArray = ls at hl ⊢
  have hl : lv_has ls 3 [(0, .ref (ob 0)), (1, .int a), (2, .int b)] := hl
  refine lv_aload_n hx hb dX11_insure_0 rfl (lv_at hl 0 rfl) ?_
  refine gX_X11_16 hx hb htg hown hK hP dX11_insure_1 ?_
  refine gX_X11_101 hx hb htg hown hK hP dX11_insure_4 ?_
  refine lv_iload_n hx hb dX11_insure_7 rfl (lv_at hl 1 rfl) ?_
  have z_1 : 0 ≤ (fv 11).toInt ∧ (fv 11).toInt ≤ 20 := hF_fv 11
  refine va_calli (va_runV (As := [.int a]) (rest := []) ⟨hx, hb, hml, hown, hts⟩ (x_wheels_hasE l dC dI s.heap.size ob ad cA hd fv wd ar hF_fv hA_ar a) (cwV 1 hts (gV kw_3_198 kw_3_199 kw_3_200 kw_1_5 kw_3_201) rfl rfl rfl (by decide +kernel) ⟨Nat.le_of_ble_eq_true rfl, Nat.le_of_ble_eq_true rfl⟩) ⟨fun a U g mk q => ⟨q.1, q.2.1, q.2.2.1, va_K.moved (u := U) (U := U.calling g mk a) (Vm.Alike.refl U.vm) q.2.2.2⟩, va_recv hK hP (ci := 10) (q0 := 4) rfl rfl, fun U hU hW => ⟨rfl, by rw [hU], by rw [hU]; exact hP, va_K.moved hW.alike hK⟩⟩ rfl rfl hl.1 rfl (lv_room (Nat.le_of_ble_eq_true rfl)) dX11_insure_8 ⟨Nat.le_of_ble_eq_true rfl, Nat.le_of_ble_eq_true rfl⟩) hS (fun q _ h9 => aX_up hS q h9) (aX_up hS) (fun r_2 u t H1 locs ht _ hw hB _ hk1 hS => ?_)
  obtain ⟨fv_5, wd_6, ar_7⟩ := u
  obtain ⟨hF_fv_5, hA_ar_7, fr_8, fa_9, wf_10, p_3, p_4, -⟩ := hw
  have wf_10 : wd_6.2 = wd.2 := wf_10
  have hP : va_P (dC, dI) vwCl (wsX ob ad cA fv_5 wd_6 ar_7) H1 := by have h9 := hB.1; rw [ht] at h9; exact h9
  have fr_8 : fM [] fv fv_5 := fr_8
  have fa_9 : fA [] ar ar_7 := fa_9
  generalize H1 = H at hP hS ⊢
  rcases p_4 with ⟨rfl, p_4⟩ | ⟨rfl, p_4⟩
  · skip
    have q_11 : a.toInt < 0 ∨ (fv 11).toInt ≤ a.toInt := p_4
    refine lv_if_eq (tgt := 21) hx hb dX11_insure_11 (by decide) (fun c_12 => ?_) (fun c_12 => ?_)
    · skip
      refine lv_iconst (v := 0) hx hb dX11_insure_21 (by decide) ?_
      have z_13 : (0 : Int32).toInt = 0 := by decide
      exact W.zret (v := 0) hx hb hr (by decide) (fun t ht hW => ⟨⟨0, (fv_5, wd_6, ar_7), rfl, ⟨hF_fv_5, hA_ar_7, (fM_call (fM_rf [] _) fr_8 (by decide)), (fA_call (fA_rf [23] _) fa_9 (by decide)), wf_10, (iv_w (⟨by decide, by decide⟩ : (0 : Int) ≤ (0 : Int32).toInt ∧ (0 : Int32).toInt ≤ 0) (by decide) (by decide)), (show ps_insure (0 : Int32) (fv 11) a b from Or.inl ⟨rfl, by omega⟩), trivial⟩, ⟨by rw [ht]; exact hP, va_K.moved hW.alike hK⟩⟩, hS.F ht⟩) hS.2.2 dX11_insure_22
    · skip
      exact absurd c_12 (by decide)
  · skip
    have i_14 : 0 ≤ a.toInt ∧ a.toInt ≤ 2147483647 := ⟨p_4.1, (iv_any a).2⟩
    have i_15 : 0 ≤ a.toInt ∧ a.toInt ≤ 19 := ⟨i_14.1, p_4.2.1⟩
    have q_16 : a.toInt < (fv 11).toInt := p_4.2.2
    refine lv_if_eq (tgt := 21) hx hb dX11_insure_11 (by decide) (fun c_17 => ?_) (fun c_17 => ?_)
    · skip
      exact absurd c_17 (by decide)
    · skip
      refine lv_iload_n hx hb dX11_insure_14 rfl (lv_at hl 2 rfl) ?_
      refine va_calli (va_runS (As := [.int b]) (rest := []) ⟨hx, hb, hml, hown, hts⟩ (x_isDayOrNever l H.size b) (va_cwS 1 hts (gS kw_3_187 kw_3_188 kw_1_1 kw_3_189) rfl rfl rfl (by decide +kernel) ⟨Nat.le_of_ble_eq_true rfl, Nat.le_of_ble_eq_true rfl⟩) ⟨fun a U g mk q => ⟨q.1, q.2⟩, fun U hU hW => ⟨rfl, congrArg Array.size hU⟩⟩ rfl rfl hl.1 rfl (lv_room (Nat.le_of_ble_eq_true rfl)) dX11_insure_15 ⟨Nat.le_of_ble_eq_true rfl, Nat.le_of_ble_eq_true rfl⟩) hS (fun q _ h9 => nX_up hS q h9) (nX_up hS) (fun r_18 u t H1 locs ht _ hw hB _ hk1 hS => ?_)
      obtain ⟨p_19, p_20, -⟩ := hw
      have hP := my_keepM hP hk1
      generalize H1 = H at hP hS ⊢
      rcases p_20 with ⟨rfl, p_20⟩ | ⟨rfl, p_20⟩
      · skip
        refine lv_if_ne (tgt := 23) hx hb dX11_insure_18 (by decide) (fun c_21 => ?_) (fun c_21 => ?_)
        · skip
          exact absurd c_21 (by decide)
        · skip
          refine lv_iconst (v := 0) hx hb dX11_insure_21 (by decide) ?_
          have z_22 : (0 : Int32).toInt = 0 := by decide
          exact W.zret (v := 0) hx hb hr (by decide) (fun t ht hW => ⟨⟨0, (fv_5, wd_6, ar_7), rfl, ⟨hF_fv_5, hA_ar_7, (fM_call (fM_rf [] _) fr_8 (by decide)), (fA_call (fA_rf [23] _) fa_9 (by decide)), wf_10, (iv_w (⟨by decide, by decide⟩ : (0 : Int) ≤ (0 : Int32).toInt ∧ (0 : Int32).toInt ≤ 0) (by decide) (by decide)), (show ps_insure (0 : Int32) (fv 11) a b from Or.inl ⟨rfl, by omega⟩), trivial⟩, ⟨by rw [ht]; exact hP, va_K.moved hW.alike hK⟩⟩, hS.F ht⟩) hS.2.2 dX11_insure_22
      · skip
        have i_23 : (-1) ≤ b.toInt ∧ b.toInt ≤ 2147483647 := ⟨p_20.1, (iv_any b).2⟩
        have i_24 : (-1) ≤ b.toInt ∧ b.toInt ≤ 199 := ⟨i_23.1, p_20.2⟩
        refine lv_if_ne (tgt := 23) hx hb dX11_insure_18 (by decide) (fun c_25 => ?_) (fun c_25 => ?_)
        · skip
          refine lv_aload_n hx hb dX11_insure_23 rfl (lv_at hl 0 rfl) ?_
          refine gX_X11_16 hx hb htg hown hK hP dX11_insure_24 ?_
          refine gX_X11_101 hx hb htg hown hK hP dX11_insure_27 ?_
          refine gX_X11_113 hx hb htg hown hK hP dX11_insure_30 ?_
          refine lv_iload_n hx hb dX11_insure_33 rfl (lv_at hl 1 rfl) ?_
          refine lv_iload_n hx hb dX11_insure_34 rfl (lv_at hl 2 rfl) ?_
          refine sX_23 hx hb hK hP hS hd (iv_in i_15 (by decide) (by decide)) dX11_insure_35 (fun H locs ar_26 ear_26 hP hS => ?_)
          have hA_ar_26 : rB ar_26 := rB_put hA_ar_7 ear_26 (iv_any _)
          refine lv_iconst (v := 1) hx hb dX11_insure_36 (by decide) ?_
          have z_27 : (1 : Int32).toInt = 1 := by decide
          exact W.zret (v := 1) hx hb hr (by decide) (fun t ht hW => ⟨⟨1, (fv_5, wd_6, ar_26), rfl, ⟨hF_fv_5, hA_ar_26, (fM_call (fM_rf [] _) fr_8 (by decide)), (fA_put (fA_call (fA_rf [23] _) fa_9 (by decide)) ear_26 (by decide)), wf_10, (iv_w (⟨by decide, by decide⟩ : (1 : Int) ≤ (1 : Int32).toInt ∧ (1 : Int32).toInt ≤ 1) (by decide) (by decide)), (show ps_insure (1 : Int32) (fv 11) a b from Or.inr ⟨rfl, by omega⟩), trivial⟩, ⟨by rw [ht]; exact hP, va_K.moved hW.alike hK⟩⟩, hS.F ht⟩) hS.2.2 dX11_insure_37
        · skip
          exact absurd c_25 (by decide)
set_option maxHeartbeats 4000000 in
set_option maxRecDepth 100000 in
theorem x_endE (l : Launch) (dC : Nat → ClassId) (dI : Nat → Nat → Nat) (sz : Nat) (ob ad : Nat → Nat) (cA : Nat → ClassId) (hd : dX ob ad) (fv : Nat → Int32) (wd : xT) (ar : Nat → Nat → Int32) (hF_fv : rX fv) (hA_ar : rB ar) (n : Int32) : Met l yX11_end (.code yX11_end cX11_end 2 (some .boolean) :: lw_good) ({ frames := 2, cells := 0, slots := 0, locals := 40 }) (va_Pc [.ref (ob 0), .int n] (prX dC dI ob ad cA fv wd ar sz)) (va_Qi (fun (r : Int32) (u : xS) => rX u.1 ∧ rB u.2.2 ∧ fM [0] fv u.1 ∧ fA [] ar u.2.2 ∧ u.2.1.2 = wd.2 ∧ (0 ≤ r.toInt ∧ r.toInt ≤ 1) ∧ (ps_end r (u.1 0) (fv 0) n) ∧ True) (enX dC dI ob ad cA) (aX ob ad sz)) 0 0 (aX ob ad sz) := by
  refine Met.ofW (cc := cX11_end) (maxL := 2) (ret := (some .boolean)) (by decide) rfl ?_
  intro p e s m args below meth c s₁ B hml hv
  obtain ⟨rfl, hsz, hP, hK⟩ := hv
  have hx := B.exec
  have hb := B.bytes
  have hr := B.returns
  have hts := atoms_spec (ws := (.code yX11_end cX11_end 2 (some .boolean) :: lw_good)) B.pre
  have htg : ∀ w ∈ lw_good, w.before _ s = true := fun w hw => hts w (List.mem_cons_of_mem _ hw)
  have hown : s.vm.findClass RX11 = some m.cls := findClass_of_methodNamed B.named
  have hlocks := B.notSynchronized
  subst hsz
  have hS : va_S (aX ob ad s.heap.size) s.heap s.heap [] := va_S.rf
  have hl := lv_entry ([.ref (ob 0), .int n]) (n := 2) (Nat.le_of_ble_eq_true rfl)
  rw [lg_entry_eq]
  generalize (lg_sl ([.ref (ob 0), .int n]) ++ List.replicate (2 - (lg_sl ([.ref (ob 0), .int n])).length) Slot.unset).toArray = ls at hl ⊢
  have hl : lv_has ls 2 [(0, .ref (ob 0)), (1, .int n)] := hl
  refine lv_iload_n hx hb dX11_end_0 rfl (lv_at hl 1 rfl) ?_
  refine lv_if_lt (tgt := 12) hx hb dX11_end_1 (by decide) (fun c_1 => ?_) (fun c_1 => ?_)
  · skip
    have i_2 : (-2147483648) ≤ n.toInt ∧ n.toInt ≤ (-1) := iv_lt1 (iv_any n) (⟨by decide, by decide⟩ : (0 : Int) ≤ (0 : Int32).toInt ∧ (0 : Int32).toInt ≤ 0) c_1
    refine lv_iconst (v := 0) hx hb dX11_end_12 (by decide) ?_
    have z_3 : (0 : Int32).toInt = 0 := by decide
    exact W.zret (v := 0) hx hb hr (by decide) (fun t ht hW => ⟨⟨0, (fv, wd, ar), rfl, ⟨hF_fv, hA_ar, (fM_rf [0] _), (fA_rf [] _), rfl, (iv_w (⟨by decide, by decide⟩ : (0 : Int) ≤ (0 : Int32).toInt ∧ (0 : Int32).toInt ≤ 0) (by decide) (by decide)), (show ps_end (0 : Int32) (fv 0) (fv 0) n from Or.inl ⟨rfl, rfl, by omega⟩), trivial⟩, ⟨by rw [ht]; exact hP, va_K.moved hW.alike hK⟩⟩, hS.F ht⟩) hS.2.2 dX11_end_13
  · skip
    have i_4 : 0 ≤ n.toInt ∧ n.toInt ≤ 2147483647 := iv_le2 (⟨by decide, by decide⟩ : (0 : Int) ≤ (0 : Int32).toInt ∧ (0 : Int32).toInt ≤ 0) (iv_any n) (Int32.not_lt.mp c_1)
    refine lv_iload_n hx hb dX11_end_4 rfl (lv_at hl 1 rfl) ?_
    refine lv_aload_n hx hb dX11_end_5 rfl (lv_at hl 0 rfl) ?_
    refine gX_X11_50 hx hb htg hown hK hP dX11_end_6 ?_
    have i_5 : 0 ≤ (fv 0).toInt ∧ (fv 0).toInt ≤ 340 := hF_fv 0
    refine lv_icmp_le (tgt := 14) hx hb dX11_end_9 (by decide) (fun c_6 => ?_) (fun c_6 => ?_)
    · skip
      have i_7 : 0 ≤ n.toInt ∧ n.toInt ≤ 340 := iv_le1 i_4 i_5 c_6
      have k_8 := Int32.le_iff_toInt_le.mp c_6
      refine lv_aload_n hx hb dX11_end_14 rfl (lv_at hl 0 rfl) ?_
      refine lv_iload_n hx hb dX11_end_15 rfl (lv_at hl 1 rfl) ?_
      refine pX_X11_50 hx hb htg hown hK hP hS hd dX11_end_16 (fun H locs fv_9 efv_9 hP hS => ?_)
      have hF_fv_9 : rX fv_9 := rX_put hF_fv efv_9 i_7
      refine lv_iconst (v := 1) hx hb dX11_end_19 (by decide) ?_
      have z_10 : (1 : Int32).toInt = 1 := by decide
      exact W.zret (v := 1) hx hb hr (by decide) (fun t ht hW => ⟨⟨1, (fv_9, wd, ar), rfl, ⟨hF_fv_9, hA_ar, (fM_put (fM_rf [0] _) efv_9 (by decide)), (fA_rf [] _), rfl, (iv_w (⟨by decide, by decide⟩ : (1 : Int) ≤ (1 : Int32).toInt ∧ (1 : Int32).toInt ≤ 1) (by decide) (by decide)), (show ps_end (1 : Int32) (fv_9 0) (fv 0) n from Or.inr ⟨rfl, (congrFun efv_9 0), by omega⟩), trivial⟩, ⟨by rw [ht]; exact hP, va_K.moved hW.alike hK⟩⟩, hS.F ht⟩) hS.2.2 dX11_end_20
    · skip
      have i_11 : 1 ≤ n.toInt ∧ n.toInt ≤ 2147483647 := iv_lt2 i_5 i_4 (Int32.not_le.mp c_6)
      have k_12 := Int32.lt_iff_toInt_lt.mp (Int32.not_le.mp c_6)
      refine lv_iconst (v := 0) hx hb dX11_end_12 (by decide) ?_
      have z_13 : (0 : Int32).toInt = 0 := by decide
      exact W.zret (v := 0) hx hb hr (by decide) (fun t ht hW => ⟨⟨0, (fv, wd, ar), rfl, ⟨hF_fv, hA_ar, (fM_rf [0] _), (fA_rf [] _), rfl, (iv_w (⟨by decide, by decide⟩ : (0 : Int) ≤ (0 : Int32).toInt ∧ (0 : Int32).toInt ≤ 0) (by decide) (by decide)), (show ps_end (0 : Int32) (fv 0) (fv 0) n from Or.inl ⟨rfl, rfl, by omega⟩), trivial⟩, ⟨by rw [ht]; exact hP, va_K.moved hW.alike hK⟩⟩, hS.F ht⟩) hS.2.2 dX11_end_13
set_option maxHeartbeats 4000000 in
set_option maxRecDepth 100000 in
theorem x_wheelE (l : Launch) (dC : Nat → ClassId) (dI : Nat → Nat → Nat) (sz : Nat) (ob ad : Nat → Nat) (cA : Nat → ClassId) (hd : dX ob ad) (fv : Nat → Int32) (wd : xT) (ar : Nat → Nat → Int32) (hF_fv : rX fv) (hA_ar : rB ar) (a : Int32) (b : Int32) (v : Int32) (d : Int32) : Met l yX11_wheel (.code yX11_wheel cX11_wheel 5 (some .int) :: lw_good) ({ frames := 3, cells := 0, slots := 0, locals := 64 }) (va_Pc [.ref (ob 0), .int a, .int b, .int v, .int d] (prX dC dI ob ad cA fv wd ar sz)) (va_Qi (fun (r : Int32) (u : xS) => rX u.1 ∧ rB u.2.2 ∧ fM [11] fv u.1 ∧ fA [20, 21, 22, 23, 27] ar u.2.2 ∧ u.2.1.2 = wd.2 ∧ (ps_wheel r (u.1 11) (fv 11) (fv 4) a b v d) ∧ True) (enX dC dI ob ad cA) (aX ob ad sz)) 0 0 (aX ob ad sz) := by
  refine Met.ofW (cc := cX11_wheel) (maxL := 5) (ret := (some .int)) (by decide) rfl ?_
  intro p e s m args below meth c s₁ B hml hv
  obtain ⟨rfl, hsz, hP, hK⟩ := hv
  have hx := B.exec
  have hb := B.bytes
  have hr := B.returns
  have hts := atoms_spec (ws := (.code yX11_wheel cX11_wheel 5 (some .int) :: lw_good)) B.pre
  have htg : ∀ w ∈ lw_good, w.before _ s = true := fun w hw => hts w (List.mem_cons_of_mem _ hw)
  have hown : s.vm.findClass RX11 = some m.cls := findClass_of_methodNamed B.named
  have hlocks := B.notSynchronized
  subst hsz
  have hS : va_S (aX ob ad s.heap.size) s.heap s.heap [] := va_S.rf
  have hl := lv_entry ([.ref (ob 0), .int a, .int b, .int v, .int d]) (n := 5) (Nat.le_of_ble_eq_true rfl)
  rw [lg_entry_eq]
  generalize (lg_sl ([.ref (ob 0), .int a, .int b, .int v, .int d]) ++ List.replicate (5 - (lg_sl ([.ref (ob 0), .int a, .int b, .int v, .int d])).length) Slot.unset).toArray = ls at hl ⊢
  have hl : lv_has ls 5 [(0, .ref (ob 0)), (1, .int a), (2, .int b), (3, .int v), (4, .int d)] := hl
  refine lv_aload_n hx hb dX11_wheel_0 rfl (lv_at hl 0 rfl) ?_
  refine gX_X11_16 hx hb htg hown hK hP dX11_wheel_1 ?_
  refine lv_iload_n hx hb dX11_wheel_4 rfl (lv_at hl 2 rfl) ?_
  have z_1 : 0 ≤ (fv 4).toInt ∧ (fv 4).toInt ≤ 8 := hF_fv 4
  refine va_calli (va_runV (As := [.int b]) (rest := []) ⟨hx, hb, hml, hown, hts⟩ (x_isStopE l dC dI s.heap.size ob ad cA hd fv wd ar hF_fv hA_ar b) (cwV 1 hts (gV kw_3_183 kw_3_184 kw_3_185 kw_1_2 kw_3_186) rfl rfl rfl (by decide +kernel) ⟨Nat.le_of_ble_eq_true rfl, Nat.le_of_ble_eq_true rfl⟩) ⟨fun a U g mk q => ⟨q.1, q.2.1, q.2.2.1, va_K.moved (u := U) (U := U.calling g mk a) (Vm.Alike.refl U.vm) q.2.2.2⟩, va_recv hK hP (ci := 7) (q0 := 1) rfl rfl, fun U hU hW => ⟨rfl, by rw [hU], by rw [hU]; exact hP, va_K.moved hW.alike hK⟩⟩ rfl rfl hl.1 rfl (lv_room (Nat.le_of_ble_eq_true rfl)) dX11_wheel_5 ⟨Nat.le_of_ble_eq_true rfl, Nat.le_of_ble_eq_true rfl⟩) hS (fun q _ h9 => aX_up hS q h9) (aX_up hS) (fun r_2 u t H1 locs ht _ hw hB _ hk1 hS => ?_)
  obtain ⟨fv_5, wd_6, ar_7⟩ := u
  obtain ⟨hF_fv_5, hA_ar_7, fr_8, fa_9, wf_10, p_3, p_4, -⟩ := hw
  have wf_10 : wd_6.2 = wd.2 := wf_10
  have hP : va_P (dC, dI) vwCl (wsX ob ad cA fv_5 wd_6 ar_7) H1 := by have h9 := hB.1; rw [ht] at h9; exact h9
  have fr_8 : fM [] fv fv_5 := fr_8
  have fa_9 : fA [] ar ar_7 := fa_9
  generalize H1 = H at hP hS ⊢
  rcases p_4 with ⟨rfl, p_4⟩ | ⟨rfl, p_4⟩
  · skip
    have q_11 : b.toInt < 0 ∨ (fv 4).toInt ≤ b.toInt := p_4
    refine lv_if_eq (tgt := 19) hx hb dX11_wheel_8 (by decide) (fun c_12 => ?_) (fun c_12 => ?_)
    · skip
      refine lv_iconst (v := (-1)) hx hb dX11_wheel_19 (by decide) ?_
      have z_13 : ((-1) : Int32).toInt = (-1) := by decide
      exact W.iret (v := (-1)) hx hb hr (fun t ht hW => ⟨⟨(-1), (fv_5, wd_6, ar_7), rfl, ⟨hF_fv_5, hA_ar_7, (fM_call (fM_rf [11] _) fr_8 (by decide)), (fA_call (fA_rf [20, 21, 22, 23, 27] _) fa_9 (by decide)), wf_10, (show ps_wheel ((-1) : Int32) (fv_5 11) (fv 11) (fv 4) a b v d from Or.inl ⟨rfl, (fr_8 11 rfl), by omega⟩), trivial⟩, ⟨by rw [ht]; exact hP, va_K.moved hW.alike hK⟩⟩, hS.F ht⟩) hS.2.2 dX11_wheel_20
    · skip
      exact absurd c_12 (by decide)
  · skip
    have i_14 : 0 ≤ b.toInt ∧ b.toInt ≤ 2147483647 := ⟨p_4.1, (iv_any b).2⟩
    have i_15 : 0 ≤ b.toInt ∧ b.toInt ≤ 7 := ⟨i_14.1, p_4.2.1⟩
    have q_16 : b.toInt < (fv 4).toInt := p_4.2.2
    refine lv_if_eq (tgt := 19) hx hb dX11_wheel_8 (by decide) (fun c_17 => ?_) (fun c_17 => ?_)
    · skip
      exact absurd c_17 (by decide)
    · skip
      refine lv_iload hx hb dX11_wheel_11 (lv_at hl 4 rfl) ?_
      refine va_calli (va_runS (As := [.int d]) (rest := []) ⟨hx, hb, hml, hown, hts⟩ (x_isDayOrNever l H.size d) (va_cwS 1 hts (gS kw_3_187 kw_3_188 kw_1_1 kw_3_189) rfl rfl rfl (by decide +kernel) ⟨Nat.le_of_ble_eq_true rfl, Nat.le_of_ble_eq_true rfl⟩) ⟨fun a U g mk q => ⟨q.1, q.2⟩, fun U hU hW => ⟨rfl, congrArg Array.size hU⟩⟩ rfl rfl hl.1 rfl (lv_room (Nat.le_of_ble_eq_true rfl)) dX11_wheel_13 ⟨Nat.le_of_ble_eq_true rfl, Nat.le_of_ble_eq_true rfl⟩) hS (fun q _ h9 => nX_up hS q h9) (nX_up hS) (fun r_18 u t H1 locs ht _ hw hB _ hk1 hS => ?_)
      obtain ⟨p_19, p_20, -⟩ := hw
      have hP := my_keepM hP hk1
      generalize H1 = H at hP hS ⊢
      rcases p_20 with ⟨rfl, p_20⟩ | ⟨rfl, p_20⟩
      · skip
        refine lv_if_ne (tgt := 21) hx hb dX11_wheel_16 (by decide) (fun c_21 => ?_) (fun c_21 => ?_)
        · skip
          exact absurd c_21 (by decide)
        · skip
          refine lv_iconst (v := (-1)) hx hb dX11_wheel_19 (by decide) ?_
          have z_22 : ((-1) : Int32).toInt = (-1) := by decide
          exact W.iret (v := (-1)) hx hb hr (fun t ht hW => ⟨⟨(-1), (fv_5, wd_6, ar_7), rfl, ⟨hF_fv_5, hA_ar_7, (fM_call (fM_rf [11] _) fr_8 (by decide)), (fA_call (fA_rf [20, 21, 22, 23, 27] _) fa_9 (by decide)), wf_10, (show ps_wheel ((-1) : Int32) (fv_5 11) (fv 11) (fv 4) a b v d from Or.inl ⟨rfl, (fr_8 11 rfl), by omega⟩), trivial⟩, ⟨by rw [ht]; exact hP, va_K.moved hW.alike hK⟩⟩, hS.F ht⟩) hS.2.2 dX11_wheel_20
      · skip
        have i_23 : (-1) ≤ d.toInt ∧ d.toInt ≤ 2147483647 := ⟨p_20.1, (iv_any d).2⟩
        have i_24 : (-1) ≤ d.toInt ∧ d.toInt ≤ 199 := ⟨i_23.1, p_20.2⟩
        refine lv_if_ne (tgt := 21) hx hb dX11_wheel_16 (by decide) (fun c_25 => ?_) (fun c_25 => ?_)
        · skip
          refine lv_aload_n hx hb dX11_wheel_21 rfl (lv_at hl 0 rfl) ?_
          refine gX_X11_16 hx hb htg hown hK hP dX11_wheel_22 ?_
          refine gX_X11_101 hx hb htg hown hK hP dX11_wheel_25 ?_
          refine lv_iload_n hx hb dX11_wheel_28 rfl (lv_at hl 1 rfl) ?_
          refine lv_iload_n hx hb dX11_wheel_29 rfl (lv_at hl 2 rfl) ?_
          refine lv_iload_n hx hb dX11_wheel_30 rfl (lv_at hl 3 rfl) ?_
          refine lv_iload hx hb dX11_wheel_31 (lv_at hl 4 rfl) ?_
          have hk11 : (fv_5 11).toInt = (fv 11).toInt := congrArg Int32.toInt ((fr_8 11 rfl))
          have z_26 : (fv_5 11).toInt = (fv 11).toInt := congrArg Int32.toInt ((fr_8 11 rfl))
          have z_27 : 0 ≤ (fv_5 11).toInt ∧ (fv_5 11).toInt ≤ 20 := hF_fv_5 11
          refine va_calli (va_runV (As := [.int a, .int b, .int v, .int d]) (rest := []) ⟨hx, hb, hml, hown, hts⟩ (x_wjoinE l dC dI H.size ob ad cA hd fv_5 wd_6 ar_7 hF_fv_5 hA_ar_7 a b v d i_15) (cwV 4 hts (gV kw_3_190 kw_3_191 kw_3_192 kw_1_5 kw_3_193) rfl rfl rfl (by decide +kernel) ⟨Nat.le_of_ble_eq_true rfl, Nat.le_of_ble_eq_true rfl⟩) ⟨fun a U g mk q => ⟨q.1, q.2.1, q.2.2.1, va_K.moved (u := U) (U := U.calling g mk a) (Vm.Alike.refl U.vm) q.2.2.2⟩, va_recv hK hP (ci := 10) (q0 := 4) rfl rfl, fun U hU hW => ⟨rfl, by rw [hU], by rw [hU]; exact hP, va_K.moved hW.alike hK⟩⟩ rfl rfl hl.1 rfl (lv_room (Nat.le_of_ble_eq_true rfl)) dX11_wheel_33 ⟨Nat.le_of_ble_eq_true rfl, Nat.le_of_ble_eq_true rfl⟩) hS (fun q _ h9 => aX_up hS q h9) (aX_up hS) (fun r_28 u t H1 locs ht _ hw hB _ hk1 hS => ?_)
          obtain ⟨fv_30, wd_31, ar_32⟩ := u
          obtain ⟨hF_fv_30, hA_ar_32, fr_33, fa_34, wf_35, p_29, -⟩ := hw
          have wf_35 : wd_31.2 = wd_6.2 := wf_35
          have hP : va_P (dC, dI) vwCl (wsX ob ad cA fv_30 wd_31 ar_32) H1 := by have h9 := hB.1; rw [ht] at h9; exact h9
          have fr_33 : fM [11] fv_5 fv_30 := fr_33
          have fa_34 : fA [20, 21, 22, 23, 27] ar_7 ar_32 := fa_34
          have p_29 : (r_28 = -1 ∧ fv_30 11 = fv_5 11 ∧ (20 ≤ (fv_5 11).toInt ∨ a.toInt < 0 ∨ 2 < a.toInt ∨ v.toInt < 1 ∨ 9 < v.toInt)) ∨ (r_28.toInt = (fv_5 11).toInt ∧ (fv_30 11).toInt = (fv_5 11).toInt + 1 ∧ ¬ (20 ≤ (fv_5 11).toInt ∨ a.toInt < 0 ∨ 2 < a.toInt ∨ v.toInt < 1 ∨ 9 < v.toInt)) := p_29
          generalize H1 = H at hP hS ⊢
          exact W.iret (v := r_28) hx hb hr (fun t ht hW => ⟨⟨r_28, (fv_30, wd_31, ar_32), rfl, ⟨hF_fv_30, hA_ar_32, (fM_call (fM_call (fM_rf [11] _) fr_8 (by decide)) fr_33 (by decide)), (fA_call (fA_call (fA_rf [20, 21, 22, 23, 27] _) fa_9 (by decide)) fa_34 (by decide)), (wf_35.trans wf_10), (show ps_wheel r_28 (fv_30 11) (fv 11) (fv 4) a b v d from by rcases p_29 with ⟨a9, b9, c9⟩ | ⟨a9, b9, c9⟩; exact Or.inl ⟨a9, b9.trans ((fr_8 11 rfl)), by omega⟩; exact Or.inr ⟨by omega, by omega, by omega⟩), trivial⟩, ⟨by rw [ht]; exact hP, va_K.moved hW.alike hK⟩⟩, hS.F ht⟩) hS.2.2 dX11_wheel_36
        · skip
          exact absurd c_25 (by decide)
set_option maxHeartbeats 4000000 in
set_option maxRecDepth 100000 in
theorem x_tripE (l : Launch) (dC : Nat → ClassId) (dI : Nat → Nat → Nat) (sz : Nat) (ob ad : Nat → Nat) (cA : Nat → ClassId) (hd : dX ob ad) (fv : Nat → Int32) (wd : xT) (ar : Nat → Nat → Int32) (hF_fv : rX fv) (hA_ar : rB ar) (a : Int32) (b : Int32) (v : Int32) (d : Int32) (f : Int32) (g : Int32) : Met l yX11_trip (.code yX11_trip cX11_trip 8 (some .int) :: lw_good) ({ frames := 3, cells := 0, slots := 0, locals := 64 }) (va_Pc [.ref (ob 0), .int a, .int b, .int v, .int d, .int f, .int g] (prX dC dI ob ad cA fv wd ar sz)) (va_Qi (fun (r : Int32) (u : xS) => rX u.1 ∧ rB u.2.2 ∧ fM [12] fv u.1 ∧ fA [28, 29, 30, 31, 32, 33, 34, 35] ar u.2.2 ∧ u.2.1.2 = wd.2 ∧ (ps_trip r (u.1 12) (fv 12) (fv 11) (fv 4) (fv 7) a b v d f g) ∧ True) (enX dC dI ob ad cA) (aX ob ad sz)) 0 0 (aX ob ad sz) := by
  refine Met.ofW (cc := cX11_trip) (maxL := 8) (ret := (some .int)) (by decide) rfl ?_
  intro p e s m args below meth c s₁ B hml hv
  obtain ⟨rfl, hsz, hP, hK⟩ := hv
  have hx := B.exec
  have hb := B.bytes
  have hr := B.returns
  have hts := atoms_spec (ws := (.code yX11_trip cX11_trip 8 (some .int) :: lw_good)) B.pre
  have htg : ∀ w ∈ lw_good, w.before _ s = true := fun w hw => hts w (List.mem_cons_of_mem _ hw)
  have hown : s.vm.findClass RX11 = some m.cls := findClass_of_methodNamed B.named
  have hlocks := B.notSynchronized
  subst hsz
  have hS : va_S (aX ob ad s.heap.size) s.heap s.heap [] := va_S.rf
  have hl := lv_entry ([.ref (ob 0), .int a, .int b, .int v, .int d, .int f, .int g]) (n := 8) (Nat.le_of_ble_eq_true rfl)
  rw [lg_entry_eq]
  generalize (lg_sl ([.ref (ob 0), .int a, .int b, .int v, .int d, .int f, .int g]) ++ List.replicate (8 - (lg_sl ([.ref (ob 0), .int a, .int b, .int v, .int d, .int f, .int g])).length) Slot.unset).toArray = ls at hl ⊢
  have hl : lv_has ls 8 [(0, .ref (ob 0)), (1, .int a), (2, .int b), (3, .int v), (4, .int d), (5, .int f), (6, .int g)] := hl
  refine lv_aload_n hx hb dX11_trip_0 rfl (lv_at hl 0 rfl) ?_
  refine gX_X11_16 hx hb htg hown hK hP dX11_trip_1 ?_
  refine gX_X11_101 hx hb htg hown hK hP dX11_trip_4 ?_
  refine lv_iload_n hx hb dX11_trip_7 rfl (lv_at hl 1 rfl) ?_
  have z_1 : 0 ≤ (fv 11).toInt ∧ (fv 11).toInt ≤ 20 := hF_fv 11
  refine va_calli (va_runV (As := [.int a]) (rest := []) ⟨hx, hb, hml, hown, hts⟩ (x_wheels_hasE l dC dI s.heap.size ob ad cA hd fv wd ar hF_fv hA_ar a) (cwV 1 hts (gV kw_3_198 kw_3_199 kw_3_200 kw_1_5 kw_3_201) rfl rfl rfl (by decide +kernel) ⟨Nat.le_of_ble_eq_true rfl, Nat.le_of_ble_eq_true rfl⟩) ⟨fun a U g mk q => ⟨q.1, q.2.1, q.2.2.1, va_K.moved (u := U) (U := U.calling g mk a) (Vm.Alike.refl U.vm) q.2.2.2⟩, va_recv hK hP (ci := 10) (q0 := 4) rfl rfl, fun U hU hW => ⟨rfl, by rw [hU], by rw [hU]; exact hP, va_K.moved hW.alike hK⟩⟩ rfl rfl hl.1 rfl (lv_room (Nat.le_of_ble_eq_true rfl)) dX11_trip_8 ⟨Nat.le_of_ble_eq_true rfl, Nat.le_of_ble_eq_true rfl⟩) hS (fun q _ h9 => aX_up hS q h9) (aX_up hS) (fun r_2 u t H1 locs ht _ hw hB _ hk1 hS => ?_)
  obtain ⟨fv_5, wd_6, ar_7⟩ := u
  obtain ⟨hF_fv_5, hA_ar_7, fr_8, fa_9, wf_10, p_3, p_4, -⟩ := hw
  have wf_10 : wd_6.2 = wd.2 := wf_10
  have hP : va_P (dC, dI) vwCl (wsX ob ad cA fv_5 wd_6 ar_7) H1 := by have h9 := hB.1; rw [ht] at h9; exact h9
  have fr_8 : fM [] fv fv_5 := fr_8
  have fa_9 : fA [] ar ar_7 := fa_9
  generalize H1 = H at hP hS ⊢
  rcases p_4 with ⟨rfl, p_4⟩ | ⟨rfl, p_4⟩
  · skip
    have q_11 : a.toInt < 0 ∨ (fv 11).toInt ≤ a.toInt := p_4
    refine lv_if_eq (tgt := 41) hx hb dX11_trip_11 (by decide) (fun c_12 => ?_) (fun c_12 => ?_)
    · skip
      refine lv_iconst (v := (-1)) hx hb dX11_trip_41 (by decide) ?_
      have z_13 : ((-1) : Int32).toInt = (-1) := by decide
      exact W.iret (v := (-1)) hx hb hr (fun t ht hW => ⟨⟨(-1), (fv_5, wd_6, ar_7), rfl, ⟨hF_fv_5, hA_ar_7, (fM_call (fM_rf [12] _) fr_8 (by decide)), (fA_call (fA_rf [28, 29, 30, 31, 32, 33, 34, 35] _) fa_9 (by decide)), wf_10, (show ps_trip ((-1) : Int32) (fv_5 12) (fv 12) (fv 11) (fv 4) (fv 7) a b v d f g from Or.inl ⟨rfl, (fr_8 12 rfl), by omega⟩), trivial⟩, ⟨by rw [ht]; exact hP, va_K.moved hW.alike hK⟩⟩, hS.F ht⟩) hS.2.2 dX11_trip_42
    · skip
      exact absurd c_12 (by decide)
  · skip
    have i_14 : 0 ≤ a.toInt ∧ a.toInt ≤ 2147483647 := ⟨p_4.1, (iv_any a).2⟩
    have i_15 : 0 ≤ a.toInt ∧ a.toInt ≤ 19 := ⟨i_14.1, p_4.2.1⟩
    have q_16 : a.toInt < (fv 11).toInt := p_4.2.2
    refine lv_if_eq (tgt := 41) hx hb dX11_trip_11 (by decide) (fun c_17 => ?_) (fun c_17 => ?_)
    · skip
      exact absurd c_17 (by decide)
    · skip
      refine lv_aload_n hx hb dX11_trip_14 rfl (lv_at hl 0 rfl) ?_
      refine gX_X11_16 hx hb htg hown hK hP dX11_trip_15 ?_
      refine lv_iload_n hx hb dX11_trip_18 rfl (lv_at hl 2 rfl) ?_
      have z_18 : (fv_5 4).toInt = (fv 4).toInt := congrArg Int32.toInt ((fr_8 4 rfl))
      have z_19 : 0 ≤ (fv_5 4).toInt ∧ (fv_5 4).toInt ≤ 8 := hF_fv_5 4
      refine va_calli (va_runV (As := [.int b]) (rest := []) ⟨hx, hb, hml, hown, hts⟩ (x_isStopE l dC dI H.size ob ad cA hd fv_5 wd_6 ar_7 hF_fv_5 hA_ar_7 b) (cwV 1 hts (gV kw_3_183 kw_3_184 kw_3_185 kw_1_2 kw_3_186) rfl rfl rfl (by decide +kernel) ⟨Nat.le_of_ble_eq_true rfl, Nat.le_of_ble_eq_true rfl⟩) ⟨fun a U g mk q => ⟨q.1, q.2.1, q.2.2.1, va_K.moved (u := U) (U := U.calling g mk a) (Vm.Alike.refl U.vm) q.2.2.2⟩, va_recv hK hP (ci := 7) (q0 := 1) rfl rfl, fun U hU hW => ⟨rfl, by rw [hU], by rw [hU]; exact hP, va_K.moved hW.alike hK⟩⟩ rfl rfl hl.1 rfl (lv_room (Nat.le_of_ble_eq_true rfl)) dX11_trip_19 ⟨Nat.le_of_ble_eq_true rfl, Nat.le_of_ble_eq_true rfl⟩) hS (fun q _ h9 => aX_up hS q h9) (aX_up hS) (fun r_20 u t H1 locs ht _ hw hB _ hk1 hS => ?_)
      obtain ⟨fv_23, wd_24, ar_25⟩ := u
      obtain ⟨hF_fv_23, hA_ar_25, fr_26, fa_27, wf_28, p_21, p_22, -⟩ := hw
      have wf_28 : wd_24.2 = wd_6.2 := wf_28
      have hP : va_P (dC, dI) vwCl (wsX ob ad cA fv_23 wd_24 ar_25) H1 := by have h9 := hB.1; rw [ht] at h9; exact h9
      have fr_26 : fM [] fv_5 fv_23 := fr_26
      have fa_27 : fA [] ar_7 ar_25 := fa_27
      generalize H1 = H at hP hS ⊢
      rcases p_22 with ⟨rfl, p_22⟩ | ⟨rfl, p_22⟩
      · skip
        have q_29 : b.toInt < 0 ∨ (fv_5 4).toInt ≤ b.toInt := p_22
        refine lv_if_eq (tgt := 41) hx hb dX11_trip_22 (by decide) (fun c_30 => ?_) (fun c_30 => ?_)
        · skip
          refine lv_iconst (v := (-1)) hx hb dX11_trip_41 (by decide) ?_
          have z_31 : ((-1) : Int32).toInt = (-1) := by decide
          exact W.iret (v := (-1)) hx hb hr (fun t ht hW => ⟨⟨(-1), (fv_23, wd_24, ar_25), rfl, ⟨hF_fv_23, hA_ar_25, (fM_call (fM_call (fM_rf [12] _) fr_8 (by decide)) fr_26 (by decide)), (fA_call (fA_call (fA_rf [28, 29, 30, 31, 32, 33, 34, 35] _) fa_9 (by decide)) fa_27 (by decide)), (wf_28.trans wf_10), (show ps_trip ((-1) : Int32) (fv_23 12) (fv 12) (fv 11) (fv 4) (fv 7) a b v d f g from Or.inl ⟨rfl, (fr_26 12 rfl).trans ((fr_8 12 rfl)), by omega⟩), trivial⟩, ⟨by rw [ht]; exact hP, va_K.moved hW.alike hK⟩⟩, hS.F ht⟩) hS.2.2 dX11_trip_42
        · skip
          exact absurd c_30 (by decide)
      · skip
        have i_32 : 0 ≤ b.toInt ∧ b.toInt ≤ 2147483647 := ⟨p_22.1, (iv_any b).2⟩
        have i_33 : 0 ≤ b.toInt ∧ b.toInt ≤ 7 := ⟨i_32.1, p_22.2.1⟩
        have q_34 : b.toInt < (fv_5 4).toInt := p_22.2.2
        refine lv_if_eq (tgt := 41) hx hb dX11_trip_22 (by decide) (fun c_35 => ?_) (fun c_35 => ?_)
        · skip
          exact absurd c_35 (by decide)
        · skip
          refine lv_aload_n hx hb dX11_trip_25 rfl (lv_at hl 0 rfl) ?_
          refine gX_X11_16 hx hb htg hown hK hP dX11_trip_26 ?_
          refine lv_iload_n hx hb dX11_trip_29 rfl (lv_at hl 3 rfl) ?_
          have z_36 : (fv_23 4).toInt = (fv 4).toInt := congrArg Int32.toInt ((fr_26 4 rfl).trans ((fr_8 4 rfl)))
          have z_37 : 0 ≤ (fv_23 4).toInt ∧ (fv_23 4).toInt ≤ 8 := hF_fv_23 4
          refine va_calli (va_runV (As := [.int v]) (rest := []) ⟨hx, hb, hml, hown, hts⟩ (x_isStopE l dC dI H.size ob ad cA hd fv_23 wd_24 ar_25 hF_fv_23 hA_ar_25 v) (cwV 1 hts (gV kw_3_183 kw_3_184 kw_3_185 kw_1_2 kw_3_186) rfl rfl rfl (by decide +kernel) ⟨Nat.le_of_ble_eq_true rfl, Nat.le_of_ble_eq_true rfl⟩) ⟨fun a U g mk q => ⟨q.1, q.2.1, q.2.2.1, va_K.moved (u := U) (U := U.calling g mk a) (Vm.Alike.refl U.vm) q.2.2.2⟩, va_recv hK hP (ci := 7) (q0 := 1) rfl rfl, fun U hU hW => ⟨rfl, by rw [hU], by rw [hU]; exact hP, va_K.moved hW.alike hK⟩⟩ rfl rfl hl.1 rfl (lv_room (Nat.le_of_ble_eq_true rfl)) dX11_trip_30 ⟨Nat.le_of_ble_eq_true rfl, Nat.le_of_ble_eq_true rfl⟩) hS (fun q _ h9 => aX_up hS q h9) (aX_up hS) (fun r_38 u t H1 locs ht _ hw hB _ hk1 hS => ?_)
          obtain ⟨fv_41, wd_42, ar_43⟩ := u
          obtain ⟨hF_fv_41, hA_ar_43, fr_44, fa_45, wf_46, p_39, p_40, -⟩ := hw
          have wf_46 : wd_42.2 = wd_24.2 := wf_46
          have hP : va_P (dC, dI) vwCl (wsX ob ad cA fv_41 wd_42 ar_43) H1 := by have h9 := hB.1; rw [ht] at h9; exact h9
          have fr_44 : fM [] fv_23 fv_41 := fr_44
          have fa_45 : fA [] ar_25 ar_43 := fa_45
          generalize H1 = H at hP hS ⊢
          rcases p_40 with ⟨rfl, p_40⟩ | ⟨rfl, p_40⟩
          · skip
            have q_47 : v.toInt < 0 ∨ (fv_23 4).toInt ≤ v.toInt := p_40
            refine lv_if_eq (tgt := 41) hx hb dX11_trip_33 (by decide) (fun c_48 => ?_) (fun c_48 => ?_)
            · skip
              refine lv_iconst (v := (-1)) hx hb dX11_trip_41 (by decide) ?_
              have z_49 : ((-1) : Int32).toInt = (-1) := by decide
              exact W.iret (v := (-1)) hx hb hr (fun t ht hW => ⟨⟨(-1), (fv_41, wd_42, ar_43), rfl, ⟨hF_fv_41, hA_ar_43, (fM_call (fM_call (fM_call (fM_rf [12] _) fr_8 (by decide)) fr_26 (by decide)) fr_44 (by decide)), (fA_call (fA_call (fA_call (fA_rf [28, 29, 30, 31, 32, 33, 34, 35] _) fa_9 (by decide)) fa_27 (by decide)) fa_45 (by decide)), (wf_46.trans (wf_28.trans wf_10)), (show ps_trip ((-1) : Int32) (fv_41 12) (fv 12) (fv 11) (fv 4) (fv 7) a b v d f g from Or.inl ⟨rfl, (fr_44 12 rfl).trans ((fr_26 12 rfl).trans ((fr_8 12 rfl))), by omega⟩), trivial⟩, ⟨by rw [ht]; exact hP, va_K.moved hW.alike hK⟩⟩, hS.F ht⟩) hS.2.2 dX11_trip_42
            · skip
              exact absurd c_48 (by decide)
          · skip
            have i_50 : 0 ≤ v.toInt ∧ v.toInt ≤ 2147483647 := ⟨p_40.1, (iv_any v).2⟩
            have i_51 : 0 ≤ v.toInt ∧ v.toInt ≤ 7 := ⟨i_50.1, p_40.2.1⟩
            have q_52 : v.toInt < (fv_23 4).toInt := p_40.2.2
            refine lv_if_eq (tgt := 41) hx hb dX11_trip_33 (by decide) (fun c_53 => ?_) (fun c_53 => ?_)
            · skip
              exact absurd c_53 (by decide)
            · skip
              refine lv_iload_n hx hb dX11_trip_36 rfl (lv_at hl 2 rfl) ?_
              refine lv_iload_n hx hb dX11_trip_37 rfl (lv_at hl 3 rfl) ?_
              refine lv_icmp_ne (tgt := 43) hx hb dX11_trip_38 (by decide) (fun c_54 => ?_) (fun c_54 => ?_)
              · skip
                have k_55 : ¬ b.toInt = v.toInt := fun q => c_54 (Int32.toInt_inj.mp q)
                refine lv_iload hx hb dX11_trip_43 (lv_at hl 4 rfl) ?_
                refine lv_if_lt (tgt := 56) hx hb dX11_trip_45 (by decide) (fun c_56 => ?_) (fun c_56 => ?_)
                · skip
                  have i_57 : (-2147483648) ≤ d.toInt ∧ d.toInt ≤ (-1) := iv_lt1 (iv_any d) (⟨by decide, by decide⟩ : (0 : Int) ≤ (0 : Int32).toInt ∧ (0 : Int32).toInt ≤ 0) c_56
                  refine lv_iconst (v := (-1)) hx hb dX11_trip_56 (by decide) ?_
                  have z_58 : ((-1) : Int32).toInt = (-1) := by decide
                  exact W.iret (v := (-1)) hx hb hr (fun t ht hW => ⟨⟨(-1), (fv_41, wd_42, ar_43), rfl, ⟨hF_fv_41, hA_ar_43, (fM_call (fM_call (fM_call (fM_rf [12] _) fr_8 (by decide)) fr_26 (by decide)) fr_44 (by decide)), (fA_call (fA_call (fA_call (fA_rf [28, 29, 30, 31, 32, 33, 34, 35] _) fa_9 (by decide)) fa_27 (by decide)) fa_45 (by decide)), (wf_46.trans (wf_28.trans wf_10)), (show ps_trip ((-1) : Int32) (fv_41 12) (fv 12) (fv 11) (fv 4) (fv 7) a b v d f g from Or.inl ⟨rfl, (fr_44 12 rfl).trans ((fr_26 12 rfl).trans ((fr_8 12 rfl))), by omega⟩), trivial⟩, ⟨by rw [ht]; exact hP, va_K.moved hW.alike hK⟩⟩, hS.F ht⟩) hS.2.2 dX11_trip_57
                · skip
                  have i_59 : 0 ≤ d.toInt ∧ d.toInt ≤ 2147483647 := iv_le2 (⟨by decide, by decide⟩ : (0 : Int) ≤ (0 : Int32).toInt ∧ (0 : Int32).toInt ≤ 0) (iv_any d) (Int32.not_lt.mp c_56)
                  refine lv_iload hx hb dX11_trip_48 (lv_at hl 4 rfl) ?_
                  refine lv_sipush (v := 719) hx hb dX11_trip_50 (by decide) ?_
                  refine lv_icmp_le (tgt := 58) hx hb dX11_trip_53 (by decide) (fun c_60 => ?_) (fun c_60 => ?_)
                  · skip
                    have i_61 : 0 ≤ d.toInt ∧ d.toInt ≤ 719 := iv_le1 i_59 (⟨by decide, by decide⟩ : (719 : Int) ≤ (719 : Int32).toInt ∧ (719 : Int32).toInt ≤ 719) c_60
                    refine lv_iload hx hb dX11_trip_58 (lv_at hl 5 rfl) ?_
                    refine lv_aload_n hx hb dX11_trip_60 rfl (lv_at hl 0 rfl) ?_
                    refine gX_X11_16 hx hb htg hown hK hP dX11_trip_61 ?_
                    refine gX_X11_57 hx hb htg hown hK hP dX11_trip_64 ?_
                    refine my_ti (y := fv 7) ((fr_44 7 rfl).trans ((fr_26 7 rfl).trans ((fr_8 7 rfl)))) ?_
                    have i_62 : 0 ≤ (fv 7).toInt ∧ (fv 7).toInt ≤ 199 := hF_fv 7
                    refine lv_icmp_lt (tgt := 98) hx hb dX11_trip_67 (by decide) (fun c_63 => ?_) (fun c_63 => ?_)
                    · skip
                      have i_64 : (-2147483648) ≤ f.toInt ∧ f.toInt ≤ 198 := iv_lt1 (iv_any f) i_62 c_63
                      have k_65 := Int32.lt_iff_toInt_lt.mp c_63
                      refine lv_iconst (v := (-1)) hx hb dX11_trip_98 (by decide) ?_
                      have z_66 : ((-1) : Int32).toInt = (-1) := by decide
                      exact W.iret (v := (-1)) hx hb hr (fun t ht hW => ⟨⟨(-1), (fv_41, wd_42, ar_43), rfl, ⟨hF_fv_41, hA_ar_43, (fM_call (fM_call (fM_call (fM_rf [12] _) fr_8 (by decide)) fr_26 (by decide)) fr_44 (by decide)), (fA_call (fA_call (fA_call (fA_rf [28, 29, 30, 31, 32, 33, 34, 35] _) fa_9 (by decide)) fa_27 (by decide)) fa_45 (by decide)), (wf_46.trans (wf_28.trans wf_10)), (show ps_trip ((-1) : Int32) (fv_41 12) (fv 12) (fv 11) (fv 4) (fv 7) a b v d f g from Or.inl ⟨rfl, (fr_44 12 rfl).trans ((fr_26 12 rfl).trans ((fr_8 12 rfl))), by omega⟩), trivial⟩, ⟨by rw [ht]; exact hP, va_K.moved hW.alike hK⟩⟩, hS.F ht⟩) hS.2.2 dX11_trip_99
                    · skip
                      have i_67 : 0 ≤ f.toInt ∧ f.toInt ≤ 2147483647 := iv_le2 i_62 (iv_any f) (Int32.not_lt.mp c_63)
                      have k_68 := Int32.le_iff_toInt_le.mp (Int32.not_lt.mp c_63)
                      refine lv_iload hx hb dX11_trip_70 (lv_at hl 6 rfl) ?_
                      refine lv_iload hx hb dX11_trip_72 (lv_at hl 5 rfl) ?_
                      refine lv_icmp_lt (tgt := 98) hx hb dX11_trip_74 (by decide) (fun c_69 => ?_) (fun c_69 => ?_)
                      · skip
                        have i_70 : (-2147483648) ≤ g.toInt ∧ g.toInt ≤ 2147483646 := iv_lt1 (iv_any g) i_67 c_69
                        have k_71 := Int32.lt_iff_toInt_lt.mp c_69
                        refine lv_iconst (v := (-1)) hx hb dX11_trip_98 (by decide) ?_
                        have z_72 : ((-1) : Int32).toInt = (-1) := by decide
                        exact W.iret (v := (-1)) hx hb hr (fun t ht hW => ⟨⟨(-1), (fv_41, wd_42, ar_43), rfl, ⟨hF_fv_41, hA_ar_43, (fM_call (fM_call (fM_call (fM_rf [12] _) fr_8 (by decide)) fr_26 (by decide)) fr_44 (by decide)), (fA_call (fA_call (fA_call (fA_rf [28, 29, 30, 31, 32, 33, 34, 35] _) fa_9 (by decide)) fa_27 (by decide)) fa_45 (by decide)), (wf_46.trans (wf_28.trans wf_10)), (show ps_trip ((-1) : Int32) (fv_41 12) (fv 12) (fv 11) (fv 4) (fv 7) a b v d f g from Or.inl ⟨rfl, (fr_44 12 rfl).trans ((fr_26 12 rfl).trans ((fr_8 12 rfl))), by omega⟩), trivial⟩, ⟨by rw [ht]; exact hP, va_K.moved hW.alike hK⟩⟩, hS.F ht⟩) hS.2.2 dX11_trip_99
                      · skip
                        have i_73 : 0 ≤ g.toInt ∧ g.toInt ≤ 2147483647 := iv_le2 i_67 (iv_any g) (Int32.not_lt.mp c_69)
                        have k_74 := Int32.le_iff_toInt_le.mp (Int32.not_lt.mp c_69)
                        refine lv_iload hx hb dX11_trip_77 (lv_at hl 6 rfl) ?_
                        refine lv_sipush (v := 199) hx hb dX11_trip_79 (by decide) ?_
                        refine lv_icmp_gt (tgt := 98) hx hb dX11_trip_82 (by decide) (fun c_75 => ?_) (fun c_75 => ?_)
                        · skip
                          have i_76 : 200 ≤ g.toInt ∧ g.toInt ≤ 2147483647 := iv_lt2 (⟨by decide, by decide⟩ : (199 : Int) ≤ (199 : Int32).toInt ∧ (199 : Int32).toInt ≤ 199) i_73 c_75
                          refine lv_iconst (v := (-1)) hx hb dX11_trip_98 (by decide) ?_
                          have z_77 : ((-1) : Int32).toInt = (-1) := by decide
                          exact W.iret (v := (-1)) hx hb hr (fun t ht hW => ⟨⟨(-1), (fv_41, wd_42, ar_43), rfl, ⟨hF_fv_41, hA_ar_43, (fM_call (fM_call (fM_call (fM_rf [12] _) fr_8 (by decide)) fr_26 (by decide)) fr_44 (by decide)), (fA_call (fA_call (fA_call (fA_rf [28, 29, 30, 31, 32, 33, 34, 35] _) fa_9 (by decide)) fa_27 (by decide)) fa_45 (by decide)), (wf_46.trans (wf_28.trans wf_10)), (show ps_trip ((-1) : Int32) (fv_41 12) (fv 12) (fv 11) (fv 4) (fv 7) a b v d f g from Or.inl ⟨rfl, (fr_44 12 rfl).trans ((fr_26 12 rfl).trans ((fr_8 12 rfl))), by omega⟩), trivial⟩, ⟨by rw [ht]; exact hP, va_K.moved hW.alike hK⟩⟩, hS.F ht⟩) hS.2.2 dX11_trip_99
                        · skip
                          have i_78 : 0 ≤ g.toInt ∧ g.toInt ≤ 199 := iv_le1 i_73 (⟨by decide, by decide⟩ : (199 : Int) ≤ (199 : Int32).toInt ∧ (199 : Int32).toInt ≤ 199) (Int32.not_lt.mp c_75)
                          refine lv_aload_n hx hb dX11_trip_85 rfl (lv_at hl 0 rfl) ?_
                          refine gX_X11_16 hx hb htg hown hK hP dX11_trip_86 ?_
                          refine gX_X11_116 hx hb htg hown hK hP dX11_trip_89 ?_
                          have z_79 : (fv_41 12).toInt = (fv 12).toInt := congrArg Int32.toInt ((fr_44 12 rfl).trans ((fr_26 12 rfl).trans ((fr_8 12 rfl))))
                          have z_80 : 0 ≤ (fv_41 12).toInt ∧ (fv_41 12).toInt ≤ 80 := hF_fv_41 12
                          refine va_calli (va_runV (As := []) (rest := []) ⟨hx, hb, hml, hown, hts⟩ (x_isFullE l dC dI H.size ob ad cA hd fv_41 wd_42 ar_43 hF_fv_41 hA_ar_43) (cwV 0 hts (gV kw_3_206 kw_3_207 kw_3_208 kw_1_6 kw_3_209) rfl rfl rfl (by decide +kernel) ⟨Nat.le_of_ble_eq_true rfl, Nat.le_of_ble_eq_true rfl⟩) ⟨fun a U g mk q => ⟨q.1, q.2.1, q.2.2.1, va_K.moved (u := U) (U := U.calling g mk a) (Vm.Alike.refl U.vm) q.2.2.2⟩, va_recv hK hP (ci := 8) (q0 := 5) rfl rfl, fun U hU hW => ⟨rfl, by rw [hU], by rw [hU]; exact hP, va_K.moved hW.alike hK⟩⟩ rfl rfl hl.1 rfl (lv_room (Nat.le_of_ble_eq_true rfl)) dX11_trip_92 ⟨Nat.le_of_ble_eq_true rfl, Nat.le_of_ble_eq_true rfl⟩) hS (fun q _ h9 => aX_up hS q h9) (aX_up hS) (fun r_81 u t H1 locs ht _ hw hB _ hk1 hS => ?_)
                          obtain ⟨fv_84, wd_85, ar_86⟩ := u
                          obtain ⟨hF_fv_84, hA_ar_86, fr_87, fa_88, wf_89, p_82, p_83, -⟩ := hw
                          have wf_89 : wd_85.2 = wd_42.2 := wf_89
                          have hP : va_P (dC, dI) vwCl (wsX ob ad cA fv_84 wd_85 ar_86) H1 := by have h9 := hB.1; rw [ht] at h9; exact h9
                          have fr_87 : fM [] fv_41 fv_84 := fr_87
                          have fa_88 : fA [] ar_43 ar_86 := fa_88
                          generalize H1 = H at hP hS ⊢
                          rcases p_83 with ⟨rfl, p_83⟩ | ⟨rfl, p_83⟩
                          · skip
                            have q_90 : (fv_41 12).toInt ≤ 79 := p_83
                            refine lv_if_eq (tgt := 100) hx hb dX11_trip_95 (by decide) (fun c_91 => ?_) (fun c_91 => ?_)
                            · skip
                              refine lv_aload_n hx hb dX11_trip_100 rfl (lv_at hl 0 rfl) ?_
                              refine gX_X11_16 hx hb htg hown hK hP dX11_trip_101 ?_
                              refine gX_X11_116 hx hb htg hown hK hP dX11_trip_104 ?_
                              refine lv_iload_n hx hb dX11_trip_107 rfl (lv_at hl 1 rfl) ?_
                              refine lv_iload_n hx hb dX11_trip_108 rfl (lv_at hl 2 rfl) ?_
                              refine lv_iload_n hx hb dX11_trip_109 rfl (lv_at hl 3 rfl) ?_
                              refine lv_iload hx hb dX11_trip_110 (lv_at hl 4 rfl) ?_
                              have z_92 : (fv_84 12).toInt = (fv 12).toInt := congrArg Int32.toInt ((fr_87 12 rfl).trans ((fr_44 12 rfl).trans ((fr_26 12 rfl).trans ((fr_8 12 rfl)))))
                              have z_93 : 0 ≤ (fv_84 12).toInt ∧ (fv_84 12).toInt ≤ 80 := hF_fv_84 12
                              have z_94 : (fv_84 12).toInt = (fv 12).toInt := congrArg Int32.toInt ((fr_87 12 rfl).trans ((fr_44 12 rfl).trans ((fr_26 12 rfl).trans ((fr_8 12 rfl)))))
                              have z_95 : 0 ≤ (fv_84 12).toInt ∧ (fv_84 12).toInt ≤ 80 := hF_fv_84 12
                              refine va_calli (va_runV (As := [.int a, .int b, .int v, .int d]) (rest := []) ⟨hx, hb, hml, hown, hts⟩ (x_tjoinE l dC dI H.size ob ad cA hd fv_84 wd_85 ar_86 hF_fv_84 hA_ar_86 a b v d i_15 i_33 i_51 (by omega)) (cwV 4 hts (gV kw_3_210 kw_3_211 kw_3_212 kw_1_6 kw_3_213) rfl rfl rfl (by decide +kernel) ⟨Nat.le_of_ble_eq_true rfl, Nat.le_of_ble_eq_true rfl⟩) ⟨fun a U g mk q => ⟨q.1, q.2.1, q.2.2.1, va_K.moved (u := U) (U := U.calling g mk a) (Vm.Alike.refl U.vm) q.2.2.2⟩, va_recv hK hP (ci := 8) (q0 := 5) rfl rfl, fun U hU hW => ⟨rfl, by rw [hU], by rw [hU]; exact hP, va_K.moved hW.alike hK⟩⟩ rfl rfl hl.1 rfl (lv_room (Nat.le_of_ble_eq_true rfl)) dX11_trip_112 ⟨Nat.le_of_ble_eq_true rfl, Nat.le_of_ble_eq_true rfl⟩) hS (fun q _ h9 => aX_up hS q h9) (aX_up hS) (fun r_96 u t H1 locs ht _ hw hB _ hk1 hS => ?_)
                              obtain ⟨fv_99, wd_100, ar_101⟩ := u
                              obtain ⟨hF_fv_99, hA_ar_101, fr_102, fa_103, wf_104, p_97, p_98, -⟩ := hw
                              have wf_104 : wd_100.2 = wd_85.2 := wf_104
                              have hP : va_P (dC, dI) vwCl (wsX ob ad cA fv_99 wd_100 ar_101) H1 := by have h9 := hB.1; rw [ht] at h9; exact h9
                              have fr_102 : fM [12] fv_84 fv_99 := fr_102
                              have fa_103 : fA [28, 29, 30, 31, 35] ar_86 ar_101 := fa_103
                              have p_98 : r_96.toInt = (fv_84 12).toInt ∧ (fv_99 12).toInt = (fv_84 12).toInt + 1 := p_98
                              generalize H1 = H at hP hS ⊢
                              refine lv_istore (lv' := [(7, .int r_96), (0, .ref (ob 0)), (1, .int a), (2, .int b), (3, .int v), (4, .int d), (5, .int f), (6, .int g)]) hx hb dX11_trip_115 hl (by decide) rfl (fun ls hl => ?_)
                              refine lv_aload_n hx hb dX11_trip_117 rfl (lv_at hl 1 rfl) ?_
                              refine gX_X11_16 hx hb htg hown hK hP dX11_trip_118 ?_
                              refine gX_X11_116 hx hb htg hown hK hP dX11_trip_121 ?_
                              refine lv_iload hx hb dX11_trip_124 (lv_at hl 0 rfl) ?_
                              refine lv_iload hx hb dX11_trip_126 (lv_at hl 6 rfl) ?_
                              refine lv_iload hx hb dX11_trip_128 (lv_at hl 7 rfl) ?_
                              refine lv_aload_n hx hb dX11_trip_130 rfl (lv_at hl 1 rfl) ?_
                              refine gX_X11_16 hx hb htg hown hK hP dX11_trip_131 ?_
                              refine gX_X11_57 hx hb htg hown hK hP dX11_trip_134 ?_
                              refine my_ti (y := fv 7) ((fr_102 7 rfl).trans ((fr_87 7 rfl).trans ((fr_44 7 rfl).trans ((fr_26 7 rfl).trans ((fr_8 7 rfl)))))) ?_
                              refine va_callv (va_runV (As := [.int r_96, .int f, .int g, .int (fv 7)]) (rest := []) ⟨hx, hb, hml, hown, hts⟩ (x_setDays l dC dI H.size ob ad cA hd fv_99 wd_100 ar_101 hF_fv_99 hA_ar_101 r_96 f g (fv 7) p_97) (cwV 4 hts (gV kw_3_214 kw_3_215 kw_3_216 kw_1_6 kw_3_217) rfl rfl rfl (by decide +kernel) ⟨Nat.le_of_ble_eq_true rfl, Nat.le_of_ble_eq_true rfl⟩) ⟨fun a U g mk q => ⟨q.1, q.2.1, q.2.2.1, va_K.moved (u := U) (U := U.calling g mk a) (Vm.Alike.refl U.vm) q.2.2.2⟩, va_recv hK hP (ci := 8) (q0 := 5) rfl rfl, fun U hU hW => ⟨rfl, by rw [hU], by rw [hU]; exact hP, va_K.moved hW.alike hK⟩⟩ rfl rfl hl.1 rfl (lv_room (Nat.le_of_ble_eq_true rfl)) dX11_trip_137 ⟨Nat.le_of_ble_eq_true rfl, Nat.le_of_ble_eq_true rfl⟩) hS (fun q _ h9 => aX_up hS q h9) (aX_up hS) (fun u t H1 locs ht _ hw hB _ hk1 hS => ?_)
                              obtain ⟨fv_106, wd_107, ar_108⟩ := u
                              obtain ⟨hF_fv_106, hA_ar_108, fr_109, fa_110, wf_111, -⟩ := hw
                              have wf_111 : wd_107.2 = wd_100.2 := wf_111
                              have hP : va_P (dC, dI) vwCl (wsX ob ad cA fv_106 wd_107 ar_108) H1 := by have h9 := hB.1; rw [ht] at h9; exact h9
                              have fr_109 : fM [] fv_99 fv_106 := fr_109
                              have fa_110 : fA [32, 33, 34] ar_101 ar_108 := fa_110
                              generalize H1 = H at hP hS ⊢
                              refine lv_iload hx hb dX11_trip_140 (lv_at hl 0 rfl) ?_
                              exact W.iret (v := r_96) hx hb hr (fun t ht hW => ⟨⟨r_96, (fv_106, wd_107, ar_108), rfl, ⟨hF_fv_106, hA_ar_108, (fM_call (fM_call (fM_call (fM_call (fM_call (fM_call (fM_rf [12] _) fr_8 (by decide)) fr_26 (by decide)) fr_44 (by decide)) fr_87 (by decide)) fr_102 (by decide)) fr_109 (by decide)), (fA_call (fA_call (fA_call (fA_call (fA_call (fA_call (fA_rf [28, 29, 30, 31, 32, 33, 34, 35] _) fa_9 (by decide)) fa_27 (by decide)) fa_45 (by decide)) fa_88 (by decide)) fa_103 (by decide)) fa_110 (by decide)), (wf_111.trans (wf_104.trans (wf_89.trans (wf_46.trans (wf_28.trans wf_10))))), (show ps_trip r_96 (fv_106 12) (fv 12) (fv 11) (fv 4) (fv 7) a b v d f g from Or.inr ⟨by omega, by rw [show fv_106 12 = (fv_99 12) from (fr_109 12 rfl)]; omega, by omega⟩), trivial⟩, ⟨by rw [ht]; exact hP, va_K.moved hW.alike hK⟩⟩, hS.F ht⟩) hS.2.2 dX11_trip_142
                            · skip
                              exact absurd c_91 (by decide)
                          · skip
                            have q_112 : 80 ≤ (fv_41 12).toInt := p_83
                            refine lv_if_eq (tgt := 100) hx hb dX11_trip_95 (by decide) (fun c_113 => ?_) (fun c_113 => ?_)
                            · skip
                              exact absurd c_113 (by decide)
                            · skip
                              refine lv_iconst (v := (-1)) hx hb dX11_trip_98 (by decide) ?_
                              have z_114 : ((-1) : Int32).toInt = (-1) := by decide
                              exact W.iret (v := (-1)) hx hb hr (fun t ht hW => ⟨⟨(-1), (fv_84, wd_85, ar_86), rfl, ⟨hF_fv_84, hA_ar_86, (fM_call (fM_call (fM_call (fM_call (fM_rf [12] _) fr_8 (by decide)) fr_26 (by decide)) fr_44 (by decide)) fr_87 (by decide)), (fA_call (fA_call (fA_call (fA_call (fA_rf [28, 29, 30, 31, 32, 33, 34, 35] _) fa_9 (by decide)) fa_27 (by decide)) fa_45 (by decide)) fa_88 (by decide)), (wf_89.trans (wf_46.trans (wf_28.trans wf_10))), (show ps_trip ((-1) : Int32) (fv_84 12) (fv 12) (fv 11) (fv 4) (fv 7) a b v d f g from Or.inl ⟨rfl, (fr_87 12 rfl).trans ((fr_44 12 rfl).trans ((fr_26 12 rfl).trans ((fr_8 12 rfl)))), by omega⟩), trivial⟩, ⟨by rw [ht]; exact hP, va_K.moved hW.alike hK⟩⟩, hS.F ht⟩) hS.2.2 dX11_trip_99
                  · skip
                    have i_115 : 720 ≤ d.toInt ∧ d.toInt ≤ 2147483647 := iv_lt2 (⟨by decide, by decide⟩ : (719 : Int) ≤ (719 : Int32).toInt ∧ (719 : Int32).toInt ≤ 719) i_59 (Int32.not_le.mp c_60)
                    refine lv_iconst (v := (-1)) hx hb dX11_trip_56 (by decide) ?_
                    have z_116 : ((-1) : Int32).toInt = (-1) := by decide
                    exact W.iret (v := (-1)) hx hb hr (fun t ht hW => ⟨⟨(-1), (fv_41, wd_42, ar_43), rfl, ⟨hF_fv_41, hA_ar_43, (fM_call (fM_call (fM_call (fM_rf [12] _) fr_8 (by decide)) fr_26 (by decide)) fr_44 (by decide)), (fA_call (fA_call (fA_call (fA_rf [28, 29, 30, 31, 32, 33, 34, 35] _) fa_9 (by decide)) fa_27 (by decide)) fa_45 (by decide)), (wf_46.trans (wf_28.trans wf_10)), (show ps_trip ((-1) : Int32) (fv_41 12) (fv 12) (fv 11) (fv 4) (fv 7) a b v d f g from Or.inl ⟨rfl, (fr_44 12 rfl).trans ((fr_26 12 rfl).trans ((fr_8 12 rfl))), by omega⟩), trivial⟩, ⟨by rw [ht]; exact hP, va_K.moved hW.alike hK⟩⟩, hS.F ht⟩) hS.2.2 dX11_trip_57
              · skip
                have k_117 := congrArg Int32.toInt c_54
                refine lv_iconst (v := (-1)) hx hb dX11_trip_41 (by decide) ?_
                have z_118 : ((-1) : Int32).toInt = (-1) := by decide
                exact W.iret (v := (-1)) hx hb hr (fun t ht hW => ⟨⟨(-1), (fv_41, wd_42, ar_43), rfl, ⟨hF_fv_41, hA_ar_43, (fM_call (fM_call (fM_call (fM_rf [12] _) fr_8 (by decide)) fr_26 (by decide)) fr_44 (by decide)), (fA_call (fA_call (fA_call (fA_rf [28, 29, 30, 31, 32, 33, 34, 35] _) fa_9 (by decide)) fa_27 (by decide)) fa_45 (by decide)), (wf_46.trans (wf_28.trans wf_10)), (show ps_trip ((-1) : Int32) (fv_41 12) (fv 12) (fv 11) (fv 4) (fv 7) a b v d f g from Or.inl ⟨rfl, (fr_44 12 rfl).trans ((fr_26 12 rfl).trans ((fr_8 12 rfl))), by omega⟩), trivial⟩, ⟨by rw [ht]; exact hP, va_K.moved hW.alike hK⟩⟩, hS.F ht⟩) hS.2.2 dX11_trip_42
set_option maxHeartbeats 4000000 in
set_option maxRecDepth 100000 in
theorem x_putE (l : Launch) (dC : Nat → ClassId) (dI : Nat → Nat → Nat) (sz : Nat) (ob ad : Nat → Nat) (cA : Nat → ClassId) (hd : dX ob ad) (fv : Nat → Int32) (wd : xT) (ar : Nat → Nat → Int32) (hF_fv : rX fv) (hA_ar : rB ar) (a : Int32) (ht : (fv 0).toInt ≤ 336) : Met l yX11_putOnTape (.code yX11_putOnTape cX11_putOnTape 3 none :: lw_good) ({ frames := 2, cells := 0, slots := 0, locals := 40 }) (va_Pc [.ref (ob 0), .int a] (prX dC dI ob ad cA fv wd ar sz)) (va_Qv (fun (u : xS) => rX u.1 ∧ rB u.2.2 ∧ fM [0] fv u.1 ∧ fA [1] ar u.2.2 ∧ u.2.1.2 = wd.2 ∧ ((u.1 0).toInt = (fv 0).toInt + 4) ∧ True) (enX dC dI ob ad cA) (aX ob ad sz)) 0 0 (aX ob ad sz) := by
  refine Met.ofW (cc := cX11_putOnTape) (maxL := 3) (ret := none) (by decide) rfl ?_
  intro p e s m args below meth c s₁ B hml hv
  obtain ⟨rfl, hsz, hP, hK⟩ := hv
  have hx := B.exec
  have hb := B.bytes
  have hr := B.returns
  have hts := atoms_spec (ws := (.code yX11_putOnTape cX11_putOnTape 3 none :: lw_good)) B.pre
  have htg : ∀ w ∈ lw_good, w.before _ s = true := fun w hw => hts w (List.mem_cons_of_mem _ hw)
  have hown : s.vm.findClass RX11 = some m.cls := findClass_of_methodNamed B.named
  have hlocks := B.notSynchronized
  subst hsz
  have hS : va_S (aX ob ad s.heap.size) s.heap s.heap [] := va_S.rf
  have hl := lv_entry ([.ref (ob 0), .int a]) (n := 3) (Nat.le_of_ble_eq_true rfl)
  rw [lg_entry_eq]
  generalize (lg_sl ([.ref (ob 0), .int a]) ++ List.replicate (3 - (lg_sl ([.ref (ob 0), .int a])).length) Slot.unset).toArray = ls at hl ⊢
  have hl : lv_has ls 3 [(0, .ref (ob 0)), (1, .int a)] := hl
  refine lv_bipush (v := 24) hx hb dX11_putOnTape_0 (by decide) ?_
  refine lv_istore_n (lv' := [(2, .int 24), (0, .ref (ob 0)), (1, .int a)]) hx hb dX11_putOnTape_2 rfl hl (by decide) rfl (fun ls hl => ?_)
  refine my_cut (P := fun R9 a9 Q9 => ∀ (n_7 : Nat) (x_1 : Int32) (fv_2 : Nat → Int32) (ar_4 : Nat → Nat → Int32) (H : Heap) (locs : List Loc) (ls : Array Slot), x_1.toInt - (-8) < (n_7 : Int) → ((-8) ≤ x_1.toInt ∧ x_1.toInt ≤ 24) → rX fv_2 → fM [0] fv fv_2 → rB ar_4 → fA [1] ar ar_4 → (8 * (fv_2 0).toInt + x_1.toInt = 8 * (fv 0).toInt + 24) → va_P (dC, dI) vwCl (wsX ob ad cA fv_2 wd ar_4) H → va_S (aX ob ad s.heap.size) s.heap H locs → lv_has ls 3 [(0, .ref (ob 0)), (1, .int a), (2, .int x_1)] → W p l e R9 s m a9 below meth c H locs 0 0 Q9 (F0 m 3 ls [])) ?_ (fun hj_9 => ?_)
  · intro n_7
    induction n_7 with
    | zero => intro x_1 fv_2 ar_4 H locs ls fu_8 i_x_1 hF_fv_2 fr_3 hA_ar_4 fa_5 q_6; exfalso; omega
    | succ n_7 ih_7 =>
      intro x_1 fv_2 ar_4 H locs ls fu_8 i_x_1 hF_fv_2 fr_3 hA_ar_4 fa_5 q_6 hP hS hl
      refine lv_iload_n hx hb dX11_putOnTape_3 rfl (lv_at hl 2 rfl) ?_
      refine lv_if_lt (tgt := 49) hx hb dX11_putOnTape_4 (by decide) (fun c_10 => ?_) (fun c_10 => ?_)
      · skip
        have i_11 : (-8) ≤ x_1.toInt ∧ x_1.toInt ≤ (-1) := iv_lt1 i_x_1 (⟨by decide, by decide⟩ : (0 : Int) ≤ (0 : Int32).toInt ∧ (0 : Int32).toInt ≤ 0) c_10
        have z_12 : 0 ≤ (fv_2 0).toInt ∧ (fv_2 0).toInt ≤ 340 := hF_fv_2 0
        exact W.vret hx hb hr (fun t ht hW => ⟨⟨(fv_2, wd, ar_4), rfl, ⟨hF_fv_2, hA_ar_4, (fM_call (fM_rf [0] _) fr_3 (by decide)), (fA_call (fA_rf [1] _) fa_5 (by decide)), rfl, (show (fv_2 0).toInt = (fv 0).toInt + 4 from by omega), trivial⟩, ⟨by rw [ht]; exact hP, va_K.moved hW.alike hK⟩⟩, hS.F ht⟩) hS.2.2 dX11_putOnTape_49
      · skip
        have i_13 : 0 ≤ x_1.toInt ∧ x_1.toInt ≤ 24 := iv_le2 (⟨by decide, by decide⟩ : (0 : Int) ≤ (0 : Int32).toInt ∧ (0 : Int32).toInt ≤ 0) i_x_1 (Int32.not_lt.mp c_10)
        refine lv_aload_n hx hb dX11_putOnTape_7 rfl (lv_at hl 0 rfl) ?_
        refine gX_X11_50 hx hb htg hown hK hP dX11_putOnTape_8 ?_
        have i_14 : 0 ≤ (fv_2 0).toInt ∧ (fv_2 0).toInt ≤ 340 := hF_fv_2 0
        refine lv_sipush (v := 340) hx hb dX11_putOnTape_11 (by decide) ?_
        refine lv_icmp_ge (tgt := 49) hx hb dX11_putOnTape_14 (by decide) (fun c_15 => ?_) (fun c_15 => ?_)
        · skip
          have i_16 : 340 ≤ (fv_2 0).toInt ∧ (fv_2 0).toInt ≤ 340 := iv_le2 (⟨by decide, by decide⟩ : (340 : Int) ≤ (340 : Int32).toInt ∧ (340 : Int32).toInt ≤ 340) i_14 c_15
          have z_17 : 0 ≤ (fv_2 0).toInt ∧ (fv_2 0).toInt ≤ 340 := hF_fv_2 0
          exact W.vret hx hb hr (fun t ht hW => ⟨⟨(fv_2, wd, ar_4), rfl, ⟨hF_fv_2, hA_ar_4, (fM_call (fM_rf [0] _) fr_3 (by decide)), (fA_call (fA_rf [1] _) fa_5 (by decide)), rfl, (show (fv_2 0).toInt = (fv 0).toInt + 4 from by omega), trivial⟩, ⟨by rw [ht]; exact hP, va_K.moved hW.alike hK⟩⟩, hS.F ht⟩) hS.2.2 dX11_putOnTape_49
        · skip
          have i_18 : 0 ≤ (fv_2 0).toInt ∧ (fv_2 0).toInt ≤ 339 := iv_lt1 i_14 (⟨by decide, by decide⟩ : (340 : Int) ≤ (340 : Int32).toInt ∧ (340 : Int32).toInt ≤ 340) (Int32.not_le.mp c_15)
          refine lv_aload_n hx hb dX11_putOnTape_17 rfl (lv_at hl 0 rfl) ?_
          refine gX_X11_9 hx hb htg hown hK hP dX11_putOnTape_18 ?_
          refine lv_aload_n hx hb dX11_putOnTape_21 rfl (lv_at hl 0 rfl) ?_
          refine gX_X11_50 hx hb htg hown hK hP dX11_putOnTape_22 ?_
          refine lv_iload_n hx hb dX11_putOnTape_25 rfl (lv_at hl 1 rfl) ?_
          refine lv_iload_n hx hb dX11_putOnTape_26 rfl (lv_at hl 2 rfl) ?_
          refine lv_ishr hx hb dX11_putOnTape_27 ?_
          refine lv_topi (fun v_19 ev_19 => ?_)
          refine lv_sipush (v := 255) hx hb dX11_putOnTape_28 (by decide) ?_
          refine lv_iand hx hb dX11_putOnTape_31 ?_
          refine lv_topi (fun v_20 ev_20 => ?_)
          have i_21 : 0 ≤ v_20.toInt ∧ v_20.toInt ≤ 255 := iv_and ev_20
          refine sX_1 hx hb hK hP hS hd (iv_in i_18 (by decide) (by decide)) dX11_putOnTape_32 (fun H locs ar_22 ear_22 hP hS => ?_)
          have hA_ar_22 : rB ar_22 := rB_put hA_ar_4 ear_22 i_21
          refine lv_aload_n hx hb dX11_putOnTape_33 rfl (lv_at hl 0 rfl) ?_
          refine lv_dup hx hb dX11_putOnTape_34 rfl ?_
          refine gX_X11_50 hx hb htg hown hK hP dX11_putOnTape_35 ?_
          refine lv_iconst (v := 1) hx hb dX11_putOnTape_38 (by decide) ?_
          refine lv_iadd hx hb dX11_putOnTape_39 ?_
          refine lv_topi (fun v_23 ev_23 => ?_)
          have t_24 : v_23.toInt = (fv_2 0).toInt + 1 ∧ 1 ≤ v_23.toInt ∧ v_23.toInt ≤ 340 := iv_addc ev_23 i_18 (by decide) (by decide) (by decide)
          refine pX_X11_50 hx hb htg hown hK hP hS hd dX11_putOnTape_40 (fun H locs fv_26 efv_26 hP hS => ?_)
          have hF_fv_26 : rX fv_26 := rX_put hF_fv_2 efv_26 (iv_w t_24.2 (by decide) (by decide))
          obtain ⟨v_27, ev_27⟩ : ∃ z : Int32, z = x_1 + (-8) := ⟨_, rfl⟩
          refine lv_iinc (v := v_27) (lv' := [(2, .int v_27), (0, .ref (ob 0)), (1, .int a)]) hx hb dX11_putOnTape_43 hl (k := 2) rfl (by rw [ev_27]; rfl) (by decide) rfl (fun ls hl => ?_)
          have t_28 : v_27.toInt = x_1.toInt + (-8) ∧ (-8) ≤ v_27.toInt ∧ v_27.toInt ≤ 16 := iv_addc ev_27 i_13 (by decide) (by decide) (by decide)
          refine lv_goto (tgt := 3) hx hb dX11_putOnTape_46 (by decide) ?_
          have z_30 : (fv_26 0).toInt = v_23.toInt := congrArg Int32.toInt ((congrFun efv_26 0))
          have z_31 : 0 ≤ (fv_26 0).toInt ∧ (fv_26 0).toInt ≤ 340 := hF_fv_26 0
          exact ih_7 v_27 fv_26 ar_22 _ _ ls (by omega) (iv_w t_28.2 (by decide) (by decide)) hF_fv_26 (fM_put (fM_call (fM_rf [0] _) fr_3 (by decide)) efv_26 (by decide)) hA_ar_22 (fA_put (fA_call (fA_rf [1] _) fa_5 (by decide)) ear_22 (by decide)) (by omega) hP hS (lv_sub hl [1, 2, 0] rfl)
  · skip
    have z_32 : (24 : Int32).toInt = 24 := by decide
    have z_33 : 0 ≤ (fv 0).toInt ∧ (fv 0).toInt ≤ 340 := hF_fv 0
    exact hj_9 33 24 fv ar _ _ ls (by first | decide | omega) (iv_w (⟨by decide, by decide⟩ : (24 : Int) ≤ (24 : Int32).toInt ∧ (24 : Int32).toInt ≤ 24) (by decide) (by decide)) hF_fv (fM_rf [0] _) hA_ar (fA_rf [1] _) (by omega) hP hS (lv_sub hl [1, 2, 0] rfl)
set_option maxHeartbeats 4000000 in
set_option maxRecDepth 100000 in
theorem x_feedE (l : Launch) (dC : Nat → ClassId) (dI : Nat → Nat → Nat) (sz : Nat) (ob ad : Nat → Nat) (cA : Nat → ClassId) (hd : dX ob ad) (fv : Nat → Int32) (wd : xT) (ar : Nat → Nat → Int32) (hF_fv : rX fv) (hA_ar : rB ar) (a : Int32) (b : Int32) (v : Int32) (d : Int32) (f : Int32) : Met l yX11_feed (.code yX11_feed cX11_feed 6 (some .int) :: lw_good) ({ frames := 3, cells := 0, slots := 0, locals := 62 }) (va_Pc [.ref (ob 0), .int a, .int b, .int v, .int d, .int f] (prX dC dI ob ad cA fv wd ar sz)) (va_Qi (fun (r : Int32) (u : xS) => rX u.1 ∧ rB u.2.2 ∧ fM [0] fv u.1 ∧ fA [1] ar u.2.2 ∧ u.2.1.2 = wd.2 ∧ (ps_feed r (u.1 0) (fv 0)) ∧ True) (enX dC dI ob ad cA) (aX ob ad sz)) 0 0 (aX ob ad sz) := by
  refine Met.ofW (cc := cX11_feed) (maxL := 6) (ret := (some .int)) (by decide) rfl ?_
  intro p e s m args below meth c s₁ B hml hv
  obtain ⟨rfl, hsz, hP, hK⟩ := hv
  have hx := B.exec
  have hb := B.bytes
  have hr := B.returns
  have hts := atoms_spec (ws := (.code yX11_feed cX11_feed 6 (some .int) :: lw_good)) B.pre
  have htg : ∀ w ∈ lw_good, w.before _ s = true := fun w hw => hts w (List.mem_cons_of_mem _ hw)
  have hown : s.vm.findClass RX11 = some m.cls := findClass_of_methodNamed B.named
  have hlocks := B.notSynchronized
  subst hsz
  have hS : va_S (aX ob ad s.heap.size) s.heap s.heap [] := va_S.rf
  have hl := lv_entry ([.ref (ob 0), .int a, .int b, .int v, .int d, .int f]) (n := 6) (Nat.le_of_ble_eq_true rfl)
  rw [lg_entry_eq]
  generalize (lg_sl ([.ref (ob 0), .int a, .int b, .int v, .int d, .int f]) ++ List.replicate (6 - (lg_sl ([.ref (ob 0), .int a, .int b, .int v, .int d, .int f])).length) Slot.unset).toArray = ls at hl ⊢
  have hl : lv_has ls 6 [(0, .ref (ob 0)), (1, .int a), (2, .int b), (3, .int v), (4, .int d), (5, .int f)] := hl
  refine lv_aload_n hx hb dX11_feed_0 rfl (lv_at hl 0 rfl) ?_
  refine gX_X11_50 hx hb htg hown hK hP dX11_feed_1 ?_
  have i_1 : 0 ≤ (fv 0).toInt ∧ (fv 0).toInt ≤ 340 := hF_fv 0
  refine lv_bipush (v := 20) hx hb dX11_feed_4 (by decide) ?_
  refine lv_iadd hx hb dX11_feed_6 ?_
  refine lv_topi (fun v_2 ev_2 => ?_)
  have t_3 : v_2.toInt = (fv 0).toInt + 20 ∧ 20 ≤ v_2.toInt ∧ v_2.toInt ≤ 360 := iv_addc ev_2 i_1 (by decide) (by decide) (by decide)
  refine lv_sipush (v := 340) hx hb dX11_feed_7 (by decide) ?_
  refine lv_icmp_le (tgt := 15) hx hb dX11_feed_10 (by decide) (fun c_5 => ?_) (fun c_5 => ?_)
  · skip
    have i_6 : 20 ≤ v_2.toInt ∧ v_2.toInt ≤ 340 := iv_le1 t_3.2 (⟨by decide, by decide⟩ : (340 : Int) ≤ (340 : Int32).toInt ∧ (340 : Int32).toInt ≤ 340) c_5
    refine lv_aload_n hx hb dX11_feed_15 rfl (lv_at hl 0 rfl) ?_
    refine lv_iload_n hx hb dX11_feed_16 rfl (lv_at hl 1 rfl) ?_
    have z_7 : 0 ≤ (fv 0).toInt ∧ (fv 0).toInt ≤ 340 := hF_fv 0
    have z_8 : 0 ≤ (fv 0).toInt ∧ (fv 0).toInt ≤ 340 := hF_fv 0
    refine va_callv (va_runV (As := [.int a]) (rest := []) ⟨hx, hb, hml, hown, hts⟩ (x_putE l dC dI s.heap.size ob ad cA hd fv wd ar hF_fv hA_ar a (by omega)) (cwV 1 hts (gV kw_3_123 kw_3_125 kw_p_0 kw_1_1 kw_3_126) rfl rfl rfl (by decide +kernel) ⟨Nat.le_of_ble_eq_true rfl, Nat.le_of_ble_eq_true rfl⟩) ⟨fun a U g mk q => ⟨q.1, q.2.1, q.2.2.1, va_K.moved (u := U) (U := U.calling g mk a) (Vm.Alike.refl U.vm) q.2.2.2⟩, va_recv hK hP (ci := 11) (q0 := 0) rfl rfl, fun U hU hW => ⟨rfl, by rw [hU], by rw [hU]; exact hP, va_K.moved hW.alike hK⟩⟩ rfl rfl hl.1 rfl (lv_room (Nat.le_of_ble_eq_true rfl)) dX11_feed_17 ⟨Nat.le_of_ble_eq_true rfl, Nat.le_of_ble_eq_true rfl⟩) hS (fun q _ h9 => aX_up hS q h9) (aX_up hS) (fun u t H1 locs ht _ hw hB _ hk1 hS => ?_)
    obtain ⟨fv_11, wd_12, ar_13⟩ := u
    obtain ⟨hF_fv_11, hA_ar_13, fr_14, fa_15, wf_16, p_10, -⟩ := hw
    have wf_16 : wd_12.2 = wd.2 := wf_16
    have hP : va_P (dC, dI) vwCl (wsX ob ad cA fv_11 wd_12 ar_13) H1 := by have h9 := hB.1; rw [ht] at h9; exact h9
    have fr_14 : fM [0] fv fv_11 := fr_14
    have fa_15 : fA [1] ar ar_13 := fa_15
    have p_10 : (fv_11 0).toInt = (fv 0).toInt + 4 := p_10
    generalize H1 = H at hP hS ⊢
    refine lv_aload_n hx hb dX11_feed_20 rfl (lv_at hl 0 rfl) ?_
    refine lv_iload_n hx hb dX11_feed_21 rfl (lv_at hl 2 rfl) ?_
    have z_17 : 0 ≤ (fv_11 0).toInt ∧ (fv_11 0).toInt ≤ 340 := hF_fv_11 0
    have z_18 : 0 ≤ (fv_11 0).toInt ∧ (fv_11 0).toInt ≤ 340 := hF_fv_11 0
    refine va_callv (va_runV (As := [.int b]) (rest := []) ⟨hx, hb, hml, hown, hts⟩ (x_putE l dC dI H.size ob ad cA hd fv_11 wd_12 ar_13 hF_fv_11 hA_ar_13 b (by omega)) (cwV 1 hts (gV kw_3_123 kw_3_125 kw_p_0 kw_1_1 kw_3_126) rfl rfl rfl (by decide +kernel) ⟨Nat.le_of_ble_eq_true rfl, Nat.le_of_ble_eq_true rfl⟩) ⟨fun a U g mk q => ⟨q.1, q.2.1, q.2.2.1, va_K.moved (u := U) (U := U.calling g mk a) (Vm.Alike.refl U.vm) q.2.2.2⟩, va_recv hK hP (ci := 11) (q0 := 0) rfl rfl, fun U hU hW => ⟨rfl, by rw [hU], by rw [hU]; exact hP, va_K.moved hW.alike hK⟩⟩ rfl rfl hl.1 rfl (lv_room (Nat.le_of_ble_eq_true rfl)) dX11_feed_22 ⟨Nat.le_of_ble_eq_true rfl, Nat.le_of_ble_eq_true rfl⟩) hS (fun q _ h9 => aX_up hS q h9) (aX_up hS) (fun u t H1 locs ht _ hw hB _ hk1 hS => ?_)
    obtain ⟨fv_21, wd_22, ar_23⟩ := u
    obtain ⟨hF_fv_21, hA_ar_23, fr_24, fa_25, wf_26, p_20, -⟩ := hw
    have wf_26 : wd_22.2 = wd_12.2 := wf_26
    have hP : va_P (dC, dI) vwCl (wsX ob ad cA fv_21 wd_22 ar_23) H1 := by have h9 := hB.1; rw [ht] at h9; exact h9
    have fr_24 : fM [0] fv_11 fv_21 := fr_24
    have fa_25 : fA [1] ar_13 ar_23 := fa_25
    have p_20 : (fv_21 0).toInt = (fv_11 0).toInt + 4 := p_20
    generalize H1 = H at hP hS ⊢
    refine lv_aload_n hx hb dX11_feed_25 rfl (lv_at hl 0 rfl) ?_
    refine lv_iload_n hx hb dX11_feed_26 rfl (lv_at hl 3 rfl) ?_
    have z_27 : 0 ≤ (fv_21 0).toInt ∧ (fv_21 0).toInt ≤ 340 := hF_fv_21 0
    have z_28 : 0 ≤ (fv_21 0).toInt ∧ (fv_21 0).toInt ≤ 340 := hF_fv_21 0
    refine va_callv (va_runV (As := [.int v]) (rest := []) ⟨hx, hb, hml, hown, hts⟩ (x_putE l dC dI H.size ob ad cA hd fv_21 wd_22 ar_23 hF_fv_21 hA_ar_23 v (by omega)) (cwV 1 hts (gV kw_3_123 kw_3_125 kw_p_0 kw_1_1 kw_3_126) rfl rfl rfl (by decide +kernel) ⟨Nat.le_of_ble_eq_true rfl, Nat.le_of_ble_eq_true rfl⟩) ⟨fun a U g mk q => ⟨q.1, q.2.1, q.2.2.1, va_K.moved (u := U) (U := U.calling g mk a) (Vm.Alike.refl U.vm) q.2.2.2⟩, va_recv hK hP (ci := 11) (q0 := 0) rfl rfl, fun U hU hW => ⟨rfl, by rw [hU], by rw [hU]; exact hP, va_K.moved hW.alike hK⟩⟩ rfl rfl hl.1 rfl (lv_room (Nat.le_of_ble_eq_true rfl)) dX11_feed_27 ⟨Nat.le_of_ble_eq_true rfl, Nat.le_of_ble_eq_true rfl⟩) hS (fun q _ h9 => aX_up hS q h9) (aX_up hS) (fun u t H1 locs ht _ hw hB _ hk1 hS => ?_)
    obtain ⟨fv_31, wd_32, ar_33⟩ := u
    obtain ⟨hF_fv_31, hA_ar_33, fr_34, fa_35, wf_36, p_30, -⟩ := hw
    have wf_36 : wd_32.2 = wd_22.2 := wf_36
    have hP : va_P (dC, dI) vwCl (wsX ob ad cA fv_31 wd_32 ar_33) H1 := by have h9 := hB.1; rw [ht] at h9; exact h9
    have fr_34 : fM [0] fv_21 fv_31 := fr_34
    have fa_35 : fA [1] ar_23 ar_33 := fa_35
    have p_30 : (fv_31 0).toInt = (fv_21 0).toInt + 4 := p_30
    generalize H1 = H at hP hS ⊢
    refine lv_aload_n hx hb dX11_feed_30 rfl (lv_at hl 0 rfl) ?_
    refine lv_iload hx hb dX11_feed_31 (lv_at hl 4 rfl) ?_
    have z_37 : 0 ≤ (fv_31 0).toInt ∧ (fv_31 0).toInt ≤ 340 := hF_fv_31 0
    have z_38 : 0 ≤ (fv_31 0).toInt ∧ (fv_31 0).toInt ≤ 340 := hF_fv_31 0
    refine va_callv (va_runV (As := [.int d]) (rest := []) ⟨hx, hb, hml, hown, hts⟩ (x_putE l dC dI H.size ob ad cA hd fv_31 wd_32 ar_33 hF_fv_31 hA_ar_33 d (by omega)) (cwV 1 hts (gV kw_3_123 kw_3_125 kw_p_0 kw_1_1 kw_3_126) rfl rfl rfl (by decide +kernel) ⟨Nat.le_of_ble_eq_true rfl, Nat.le_of_ble_eq_true rfl⟩) ⟨fun a U g mk q => ⟨q.1, q.2.1, q.2.2.1, va_K.moved (u := U) (U := U.calling g mk a) (Vm.Alike.refl U.vm) q.2.2.2⟩, va_recv hK hP (ci := 11) (q0 := 0) rfl rfl, fun U hU hW => ⟨rfl, by rw [hU], by rw [hU]; exact hP, va_K.moved hW.alike hK⟩⟩ rfl rfl hl.1 rfl (lv_room (Nat.le_of_ble_eq_true rfl)) dX11_feed_33 ⟨Nat.le_of_ble_eq_true rfl, Nat.le_of_ble_eq_true rfl⟩) hS (fun q _ h9 => aX_up hS q h9) (aX_up hS) (fun u t H1 locs ht _ hw hB _ hk1 hS => ?_)
    obtain ⟨fv_41, wd_42, ar_43⟩ := u
    obtain ⟨hF_fv_41, hA_ar_43, fr_44, fa_45, wf_46, p_40, -⟩ := hw
    have wf_46 : wd_42.2 = wd_32.2 := wf_46
    have hP : va_P (dC, dI) vwCl (wsX ob ad cA fv_41 wd_42 ar_43) H1 := by have h9 := hB.1; rw [ht] at h9; exact h9
    have fr_44 : fM [0] fv_31 fv_41 := fr_44
    have fa_45 : fA [1] ar_33 ar_43 := fa_45
    have p_40 : (fv_41 0).toInt = (fv_31 0).toInt + 4 := p_40
    generalize H1 = H at hP hS ⊢
    refine lv_aload_n hx hb dX11_feed_36 rfl (lv_at hl 0 rfl) ?_
    refine lv_iload hx hb dX11_feed_37 (lv_at hl 5 rfl) ?_
    have z_47 : 0 ≤ (fv_41 0).toInt ∧ (fv_41 0).toInt ≤ 340 := hF_fv_41 0
    have z_48 : 0 ≤ (fv_41 0).toInt ∧ (fv_41 0).toInt ≤ 340 := hF_fv_41 0
    refine va_callv (va_runV (As := [.int f]) (rest := []) ⟨hx, hb, hml, hown, hts⟩ (x_putE l dC dI H.size ob ad cA hd fv_41 wd_42 ar_43 hF_fv_41 hA_ar_43 f (by omega)) (cwV 1 hts (gV kw_3_123 kw_3_125 kw_p_0 kw_1_1 kw_3_126) rfl rfl rfl (by decide +kernel) ⟨Nat.le_of_ble_eq_true rfl, Nat.le_of_ble_eq_true rfl⟩) ⟨fun a U g mk q => ⟨q.1, q.2.1, q.2.2.1, va_K.moved (u := U) (U := U.calling g mk a) (Vm.Alike.refl U.vm) q.2.2.2⟩, va_recv hK hP (ci := 11) (q0 := 0) rfl rfl, fun U hU hW => ⟨rfl, by rw [hU], by rw [hU]; exact hP, va_K.moved hW.alike hK⟩⟩ rfl rfl hl.1 rfl (lv_room (Nat.le_of_ble_eq_true rfl)) dX11_feed_39 ⟨Nat.le_of_ble_eq_true rfl, Nat.le_of_ble_eq_true rfl⟩) hS (fun q _ h9 => aX_up hS q h9) (aX_up hS) (fun u t H1 locs ht _ hw hB _ hk1 hS => ?_)
    obtain ⟨fv_51, wd_52, ar_53⟩ := u
    obtain ⟨hF_fv_51, hA_ar_53, fr_54, fa_55, wf_56, p_50, -⟩ := hw
    have wf_56 : wd_52.2 = wd_42.2 := wf_56
    have hP : va_P (dC, dI) vwCl (wsX ob ad cA fv_51 wd_52 ar_53) H1 := by have h9 := hB.1; rw [ht] at h9; exact h9
    have fr_54 : fM [0] fv_41 fv_51 := fr_54
    have fa_55 : fA [1] ar_43 ar_53 := fa_55
    have p_50 : (fv_51 0).toInt = (fv_41 0).toInt + 4 := p_50
    generalize H1 = H at hP hS ⊢
    refine lv_aload_n hx hb dX11_feed_42 rfl (lv_at hl 0 rfl) ?_
    refine gX_X11_50 hx hb htg hown hK hP dX11_feed_43 ?_
    have i_57 : 0 ≤ (fv_51 0).toInt ∧ (fv_51 0).toInt ≤ 340 := hF_fv_51 0
    exact W.iret (v := fv_51 0) hx hb hr (fun t ht hW => ⟨⟨fv_51 0, (fv_51, wd_52, ar_53), rfl, ⟨hF_fv_51, hA_ar_53, (fM_call (fM_call (fM_call (fM_call (fM_call (fM_rf [0] _) fr_14 (by decide)) fr_24 (by decide)) fr_34 (by decide)) fr_44 (by decide)) fr_54 (by decide)), (fA_call (fA_call (fA_call (fA_call (fA_call (fA_rf [1] _) fa_15 (by decide)) fa_25 (by decide)) fa_35 (by decide)) fa_45 (by decide)) fa_55 (by decide)), (wf_56.trans (wf_46.trans (wf_36.trans (wf_26.trans wf_16)))), (show ps_feed (fv_51 0) (fv_51 0) (fv 0) from Or.inr ⟨by first | rfl | omega, by omega, by omega⟩), trivial⟩, ⟨by rw [ht]; exact hP, va_K.moved hW.alike hK⟩⟩, hS.F ht⟩) hS.2.2 dX11_feed_46
  · skip
    have i_58 : 341 ≤ v_2.toInt ∧ v_2.toInt ≤ 360 := iv_lt2 (⟨by decide, by decide⟩ : (340 : Int) ≤ (340 : Int32).toInt ∧ (340 : Int32).toInt ≤ 340) t_3.2 (Int32.not_le.mp c_5)
    refine lv_iconst (v := (-1)) hx hb dX11_feed_13 (by decide) ?_
    have z_59 : ((-1) : Int32).toInt = (-1) := by decide
    exact W.iret (v := (-1)) hx hb hr (fun t ht hW => ⟨⟨(-1), (fv, wd, ar), rfl, ⟨hF_fv, hA_ar, (fM_rf [0] _), (fA_rf [1] _), rfl, (show ps_feed ((-1) : Int32) (fv 0) (fv 0) from Or.inl ⟨rfl, rfl, by omega⟩), trivial⟩, ⟨by rw [ht]; exact hP, va_K.moved hW.alike hK⟩⟩, hS.F ht⟩) hS.2.2 dX11_feed_14
set_option maxHeartbeats 4000000 in
set_option maxRecDepth 100000 in
theorem x_personE (l : Launch) (dC : Nat → ClassId) (dI : Nat → Nat → Nat) (sz : Nat) (ob ad : Nat → Nat) (cA : Nat → ClassId) (hd : dX ob ad) (fv : Nat → Int32) (wd : xT) (ar : Nat → Nat → Int32) (hF_fv : rX fv) (hA_ar : rB ar) (a : Int32) (b : Int32) (v : Int32) : Met l yX11_person (.code yX11_person cX11_person 5 (some .int) :: lw_good) ({ frames := 5, cells := 0, slots := 0, locals := 105 }) (va_Pc [.ref (ob 0), .int a, .int b, .int v] (prX dC dI ob ad cA fv wd ar sz)) (va_Qi (fun (r : Int32) (u : xS) => rX u.1 ∧ rB u.2.2 ∧ fM [0, 10] fv u.1 ∧ fA [6, 7, 8, 9, 10, 11, 12, 13, 14, 15] ar u.2.2 ∧ u.2.1.2 = wd.2 ∧ ((u.1 0).toInt = 0) ∧ True) (enX dC dI ob ad cA) (aX ob ad sz)) 0 0 (aX ob ad sz) := by
  refine Met.ofW (cc := cX11_person) (maxL := 5) (ret := (some .int)) (by decide) rfl ?_
  intro p e s m args below meth c s₁ B hml hv
  obtain ⟨rfl, hsz, hP, hK⟩ := hv
  have hx := B.exec
  have hb := B.bytes
  have hr := B.returns
  have hts := atoms_spec (ws := (.code yX11_person cX11_person 5 (some .int) :: lw_good)) B.pre
  have htg : ∀ w ∈ lw_good, w.before _ s = true := fun w hw => hts w (List.mem_cons_of_mem _ hw)
  have hown : s.vm.findClass RX11 = some m.cls := findClass_of_methodNamed B.named
  have hlocks := B.notSynchronized
  subst hsz
  have hS : va_S (aX ob ad s.heap.size) s.heap s.heap [] := va_S.rf
  have hl := lv_entry ([.ref (ob 0), .int a, .int b, .int v]) (n := 5) (Nat.le_of_ble_eq_true rfl)
  rw [lg_entry_eq]
  generalize (lg_sl ([.ref (ob 0), .int a, .int b, .int v]) ++ List.replicate (5 - (lg_sl ([.ref (ob 0), .int a, .int b, .int v])).length) Slot.unset).toArray = ls at hl ⊢
  have hl : lv_has ls 5 [(0, .ref (ob 0)), (1, .int a), (2, .int b), (3, .int v)] := hl
  refine lv_iconst (v := (-1)) hx hb dX11_person_0 (by decide) ?_
  refine lv_istore (lv' := [(4, .int (-1)), (0, .ref (ob 0)), (1, .int a), (2, .int b), (3, .int v)]) hx hb dX11_person_1 hl (by decide) rfl (fun ls hl => ?_)
  refine lv_aload_n hx hb dX11_person_3 rfl (lv_at hl 1 rfl) ?_
  refine gX_X11_50 hx hb htg hown hK hP dX11_person_4 ?_
  have i_1 : 0 ≤ (fv 0).toInt ∧ (fv 0).toInt ≤ 340 := hF_fv 0
  refine lv_bipush (v := 12) hx hb dX11_person_7 (by decide) ?_
  refine lv_icmp_ne (tgt := 45) hx hb dX11_person_9 (by decide) (fun c_2 => ?_) (fun c_2 => ?_)
  · skip
    have k_3 : ¬ (fv 0).toInt = 12 := fun q => c_2 (Int32.toInt_inj.mp q)
    refine lv_aload_n hx hb dX11_person_45 rfl (lv_at hl 1 rfl) ?_
    refine lv_iconst (v := 0) hx hb dX11_person_46 (by decide) ?_
    refine pX_X11_50 hx hb htg hown hK hP hS hd dX11_person_47 (fun H locs fv_4 efv_4 hP hS => ?_)
    have hF_fv_4 : rX fv_4 := rX_put hF_fv efv_4 (iv_w (⟨by decide, by decide⟩ : (0 : Int) ≤ (0 : Int32).toInt ∧ (0 : Int32).toInt ≤ 0) (by decide) (by decide))
    refine lv_iload hx hb dX11_person_50 (lv_at hl 0 rfl) ?_
    have z_5 : ((-1) : Int32).toInt = (-1) := by decide
    exact W.iret (v := (-1)) hx hb hr (fun t ht hW => ⟨⟨(-1), (fv_4, wd, ar), rfl, ⟨hF_fv_4, hA_ar, (fM_put (fM_rf [0, 10] _) efv_4 (by decide)), (fA_rf [6, 7, 8, 9, 10, 11, 12, 13, 14, 15] _), rfl, (show (fv_4 0).toInt = 0 from by rw [show fv_4 0 = (0 : Int32) from (congrFun efv_4 0)]; decide), trivial⟩, ⟨by rw [ht]; exact hP, va_K.moved hW.alike hK⟩⟩, hS.F ht⟩) hS.2.2 dX11_person_52
  · skip
    have i_6 : 12 ≤ (fv 0).toInt ∧ (fv 0).toInt ≤ 12 := iv_eq1 (⟨by decide, by decide⟩ : (12 : Int) ≤ (12 : Int32).toInt ∧ (12 : Int32).toInt ≤ 12) c_2
    refine lv_iload_n hx hb dX11_person_12 rfl (lv_at hl 2 rfl) ?_
    refine va_calli (va_runS (As := [.int a]) (rest := []) ⟨hx, hb, hml, hown, hts⟩ (x_isCorner l s.heap.size a) (va_cwS 1 hts (gS kw_3_157 kw_3_144 kw_1_3 kw_3_145) rfl rfl rfl (by decide +kernel) ⟨Nat.le_of_ble_eq_true rfl, Nat.le_of_ble_eq_true rfl⟩) ⟨fun a U g mk q => ⟨q.1, q.2⟩, fun U hU hW => ⟨rfl, congrArg Array.size hU⟩⟩ rfl rfl hl.1 rfl (lv_room (Nat.le_of_ble_eq_true rfl)) dX11_person_13 ⟨Nat.le_of_ble_eq_true rfl, Nat.le_of_ble_eq_true rfl⟩) hS (fun q _ h9 => nX_up hS q h9) (nX_up hS) (fun r_8 u t H1 locs ht _ hw hB _ hk1 hS => ?_)
    obtain ⟨p_9, p_10, -⟩ := hw
    have hP := my_keepM hP hk1
    generalize H1 = H at hP hS ⊢
    rcases p_10 with ⟨rfl, p_10⟩ | ⟨rfl, p_10⟩
    · skip
      refine lv_if_eq (tgt := 45) hx hb dX11_person_16 (by decide) (fun c_11 => ?_) (fun c_11 => ?_)
      · skip
        refine lv_aload_n hx hb dX11_person_45 rfl (lv_at hl 1 rfl) ?_
        refine lv_iconst (v := 0) hx hb dX11_person_46 (by decide) ?_
        refine pX_X11_50 hx hb htg hown hK hP hS hd dX11_person_47 (fun H locs fv_12 efv_12 hP hS => ?_)
        have hF_fv_12 : rX fv_12 := rX_put hF_fv efv_12 (iv_w (⟨by decide, by decide⟩ : (0 : Int) ≤ (0 : Int32).toInt ∧ (0 : Int32).toInt ≤ 0) (by decide) (by decide))
        refine lv_iload hx hb dX11_person_50 (lv_at hl 0 rfl) ?_
        have z_13 : ((-1) : Int32).toInt = (-1) := by decide
        exact W.iret (v := (-1)) hx hb hr (fun t ht hW => ⟨⟨(-1), (fv_12, wd, ar), rfl, ⟨hF_fv_12, hA_ar, (fM_put (fM_rf [0, 10] _) efv_12 (by decide)), (fA_rf [6, 7, 8, 9, 10, 11, 12, 13, 14, 15] _), rfl, (show (fv_12 0).toInt = 0 from by rw [show fv_12 0 = (0 : Int32) from (congrFun efv_12 0)]; decide), trivial⟩, ⟨by rw [ht]; exact hP, va_K.moved hW.alike hK⟩⟩, hS.F ht⟩) hS.2.2 dX11_person_52
      · skip
        exact absurd c_11 (by decide)
    · skip
      have i_14 : 0 ≤ a.toInt ∧ a.toInt ≤ 2147483647 := ⟨p_10.1, (iv_any a).2⟩
      have i_15 : 0 ≤ a.toInt ∧ a.toInt ≤ 11 := ⟨i_14.1, p_10.2⟩
      refine lv_if_eq (tgt := 45) hx hb dX11_person_16 (by decide) (fun c_16 => ?_) (fun c_16 => ?_)
      · skip
        exact absurd c_16 (by decide)
      · skip
        refine lv_iload_n hx hb dX11_person_19 rfl (lv_at hl 3 rfl) ?_
        refine va_calli (va_runS (As := [.int b]) (rest := []) ⟨hx, hb, hml, hown, hts⟩ (x_isCorner l H.size b) (va_cwS 1 hts (gS kw_3_157 kw_3_144 kw_1_3 kw_3_145) rfl rfl rfl (by decide +kernel) ⟨Nat.le_of_ble_eq_true rfl, Nat.le_of_ble_eq_true rfl⟩) ⟨fun a U g mk q => ⟨q.1, q.2⟩, fun U hU hW => ⟨rfl, congrArg Array.size hU⟩⟩ rfl rfl hl.1 rfl (lv_room (Nat.le_of_ble_eq_true rfl)) dX11_person_20 ⟨Nat.le_of_ble_eq_true rfl, Nat.le_of_ble_eq_true rfl⟩) hS (fun q _ h9 => nX_up hS q h9) (nX_up hS) (fun r_17 u t H1 locs ht _ hw hB _ hk1 hS => ?_)
        obtain ⟨p_18, p_19, -⟩ := hw
        have hP := my_keepM hP hk1
        generalize H1 = H at hP hS ⊢
        rcases p_19 with ⟨rfl, p_19⟩ | ⟨rfl, p_19⟩
        · skip
          refine lv_if_eq (tgt := 45) hx hb dX11_person_23 (by decide) (fun c_20 => ?_) (fun c_20 => ?_)
          · skip
            refine lv_aload_n hx hb dX11_person_45 rfl (lv_at hl 1 rfl) ?_
            refine lv_iconst (v := 0) hx hb dX11_person_46 (by decide) ?_
            refine pX_X11_50 hx hb htg hown hK hP hS hd dX11_person_47 (fun H locs fv_21 efv_21 hP hS => ?_)
            have hF_fv_21 : rX fv_21 := rX_put hF_fv efv_21 (iv_w (⟨by decide, by decide⟩ : (0 : Int) ≤ (0 : Int32).toInt ∧ (0 : Int32).toInt ≤ 0) (by decide) (by decide))
            refine lv_iload hx hb dX11_person_50 (lv_at hl 0 rfl) ?_
            have z_22 : ((-1) : Int32).toInt = (-1) := by decide
            exact W.iret (v := (-1)) hx hb hr (fun t ht hW => ⟨⟨(-1), (fv_21, wd, ar), rfl, ⟨hF_fv_21, hA_ar, (fM_put (fM_rf [0, 10] _) efv_21 (by decide)), (fA_rf [6, 7, 8, 9, 10, 11, 12, 13, 14, 15] _), rfl, (show (fv_21 0).toInt = 0 from by rw [show fv_21 0 = (0 : Int32) from (congrFun efv_21 0)]; decide), trivial⟩, ⟨by rw [ht]; exact hP, va_K.moved hW.alike hK⟩⟩, hS.F ht⟩) hS.2.2 dX11_person_52
          · skip
            exact absurd c_20 (by decide)
        · skip
          have i_23 : 0 ≤ b.toInt ∧ b.toInt ≤ 2147483647 := ⟨p_19.1, (iv_any b).2⟩
          have i_24 : 0 ≤ b.toInt ∧ b.toInt ≤ 11 := ⟨i_23.1, p_19.2⟩
          refine lv_if_eq (tgt := 45) hx hb dX11_person_23 (by decide) (fun c_25 => ?_) (fun c_25 => ?_)
          · skip
            exact absurd c_25 (by decide)
          · skip
            refine lv_aload_n hx hb dX11_person_26 rfl (lv_at hl 1 rfl) ?_
            refine gX_X11_16 hx hb htg hown hK hP dX11_person_27 ?_
            refine gX_X11_79 hx hb htg hown hK hP dX11_person_30 ?_
            refine lv_iload_n hx hb dX11_person_33 rfl (lv_at hl 2 rfl) ?_
            refine lv_iload_n hx hb dX11_person_34 rfl (lv_at hl 3 rfl) ?_
            refine lv_iload_n hx hb dX11_person_35 rfl (lv_at hl 4 rfl) ?_
            refine lv_aload_n hx hb dX11_person_36 rfl (lv_at hl 1 rfl) ?_
            refine gX_X11_9 hx hb htg hown hK hP dX11_person_37 ?_
            refine va_calli (va_runV (As := [.int a, .int b, .int v, .ref (ad 1)]) (rest := []) ⟨hx, hb, hml, hown, hts⟩ (x_pjoin l dC dI H.size ob ad cA hd fv wd ar hF_fv hA_ar a b v i_15 i_24) (cwV 4 hts (gV kw_3_164 kw_3_165 kw_3_166 kw_1_4 kw_3_167) rfl rfl rfl (by decide +kernel) ⟨Nat.le_of_ble_eq_true rfl, Nat.le_of_ble_eq_true rfl⟩) ⟨fun a U g mk q => ⟨q.1, q.2.1, q.2.2.1, va_K.moved (u := U) (U := U.calling g mk a) (Vm.Alike.refl U.vm) q.2.2.2⟩, va_recv hK hP (ci := 3) (q0 := 3) rfl rfl, fun U hU hW => ⟨rfl, by rw [hU], by rw [hU]; exact hP, va_K.moved hW.alike hK⟩⟩ rfl rfl hl.1 rfl (lv_room (Nat.le_of_ble_eq_true rfl)) dX11_person_40 ⟨Nat.le_of_ble_eq_true rfl, Nat.le_of_ble_eq_true rfl⟩) hS (fun q _ h9 => aX_up hS q h9) (aX_up hS) (fun r_26 u t H1 locs ht _ hw hB _ hk1 hS => ?_)
            obtain ⟨fv_27, wd_28, ar_29⟩ := u
            obtain ⟨hF_fv_27, hA_ar_29, fr_30, fa_31, wf_32, -⟩ := hw
            have wf_32 : wd_28.2 = wd.2 := wf_32
            have hP : va_P (dC, dI) vwCl (wsX ob ad cA fv_27 wd_28 ar_29) H1 := by have h9 := hB.1; rw [ht] at h9; exact h9
            have fr_30 : fM [10] fv fv_27 := fr_30
            have fa_31 : fA [6, 7, 8, 9, 10, 11, 12, 13, 14, 15] ar ar_29 := fa_31
            generalize H1 = H at hP hS ⊢
            refine lv_istore (lv' := [(4, .int r_26), (0, .ref (ob 0)), (1, .int a), (2, .int b), (3, .int v)]) hx hb dX11_person_43 hl (by decide) rfl (fun ls hl => ?_)
            refine lv_aload_n hx hb dX11_person_45 rfl (lv_at hl 1 rfl) ?_
            refine lv_iconst (v := 0) hx hb dX11_person_46 (by decide) ?_
            refine pX_X11_50 hx hb htg hown hK hP hS hd dX11_person_47 (fun H locs fv_33 efv_33 hP hS => ?_)
            have hF_fv_33 : rX fv_33 := rX_put hF_fv_27 efv_33 (iv_w (⟨by decide, by decide⟩ : (0 : Int) ≤ (0 : Int32).toInt ∧ (0 : Int32).toInt ≤ 0) (by decide) (by decide))
            refine lv_iload hx hb dX11_person_50 (lv_at hl 0 rfl) ?_
            exact W.iret (v := r_26) hx hb hr (fun t ht hW => ⟨⟨r_26, (fv_33, wd_28, ar_29), rfl, ⟨hF_fv_33, hA_ar_29, (fM_put (fM_call (fM_rf [0, 10] _) fr_30 (by decide)) efv_33 (by decide)), (fA_call (fA_rf [6, 7, 8, 9, 10, 11, 12, 13, 14, 15] _) fa_31 (by decide)), wf_32, (show (fv_33 0).toInt = 0 from by rw [show fv_33 0 = (0 : Int32) from (congrFun efv_33 0)]; decide), trivial⟩, ⟨by rw [ht]; exact hP, va_K.moved hW.alike hK⟩⟩, hS.F ht⟩) hS.2.2 dX11_person_52
set_option maxHeartbeats 4000000 in
set_option maxRecDepth 100000 in
theorem x_rainE (l : Launch) (dC : Nat → ClassId) (dI : Nat → Nat → Nat) (sz : Nat) (ob ad : Nat → Nat) (cA : Nat → ClassId) (hd : dX ob ad) (fv : Nat → Int32) (wd : xT) (ar : Nat → Nat → Int32) (hF_fv : rX fv) (hA_ar : rB ar) : Met l yX11_rain (.code yX11_rain cX11_rain 4 (some .boolean) :: lw_good) ({ frames := 3, cells := 0, slots := 0, locals := 61 }) (va_Pc [.ref (ob 0)] (prX dC dI ob ad cA fv wd ar sz)) (va_Qi (fun (r : Int32) (u : xS) => rX u.1 ∧ rB u.2.2 ∧ fM [0, 5] fv u.1 ∧ fA [3] ar u.2.2 ∧ u.2.1.2 = wd.2 ∧ (0 ≤ r.toInt ∧ r.toInt ≤ 1) ∧ ((u.1 0).toInt = 0) ∧ True) (enX dC dI ob ad cA) (aX ob ad sz)) 0 0 (aX ob ad sz) := by
  refine Met.ofW (cc := cX11_rain) (maxL := 4) (ret := (some .boolean)) (by decide) rfl ?_
  intro p e s m args below meth c s₁ B hml hv
  obtain ⟨rfl, hsz, hP, hK⟩ := hv
  have hx := B.exec
  have hb := B.bytes
  have hr := B.returns
  have hts := atoms_spec (ws := (.code yX11_rain cX11_rain 4 (some .boolean) :: lw_good)) B.pre
  have htg : ∀ w ∈ lw_good, w.before _ s = true := fun w hw => hts w (List.mem_cons_of_mem _ hw)
  have hown : s.vm.findClass RX11 = some m.cls := findClass_of_methodNamed B.named
  have hlocks := B.notSynchronized
  subst hsz
  have hS : va_S (aX ob ad s.heap.size) s.heap s.heap [] := va_S.rf
  have hl := lv_entry ([.ref (ob 0)]) (n := 4) (Nat.le_of_ble_eq_true rfl)
  rw [lg_entry_eq]
  generalize (lg_sl ([.ref (ob 0)]) ++ List.replicate (4 - (lg_sl ([.ref (ob 0)])).length) Slot.unset).toArray = ls at hl ⊢
  have hl : lv_has ls 4 [(0, .ref (ob 0))] := hl
  refine lv_aload_n hx hb dX11_rain_0 rfl (lv_at hl 0 rfl) ?_
  have z_1 : 0 ≤ (fv 0).toInt ∧ (fv 0).toInt ≤ 340 := hF_fv 0
  refine va_calli (va_runV (As := []) (rest := []) ⟨hx, hb, hml, hown, hts⟩ (x_tapeIsRain l dC dI s.heap.size ob ad cA hd fv wd ar hF_fv hA_ar) (cwV 0 hts (gV kw_3_222 kw_3_224 kw_p_1 kw_1_1 kw_3_225) rfl rfl rfl (by decide +kernel) ⟨Nat.le_of_ble_eq_true rfl, Nat.le_of_ble_eq_true rfl⟩) ⟨fun a U g mk q => ⟨q.1, q.2.1, q.2.2.1, va_K.moved (u := U) (U := U.calling g mk a) (Vm.Alike.refl U.vm) q.2.2.2⟩, va_recv hK hP (ci := 11) (q0 := 0) rfl rfl, fun U hU hW => ⟨rfl, by rw [hU], by rw [hU]; exact hP, va_K.moved hW.alike hK⟩⟩ rfl rfl hl.1 rfl (lv_room (Nat.le_of_ble_eq_true rfl)) dX11_rain_1 ⟨Nat.le_of_ble_eq_true rfl, Nat.le_of_ble_eq_true rfl⟩) hS (fun q _ h9 => aX_up hS q h9) (aX_up hS) (fun r_2 u t H1 locs ht _ hw hB _ hk1 hS => ?_)
  obtain ⟨fv_5, wd_6, ar_7⟩ := u
  obtain ⟨hF_fv_5, hA_ar_7, fr_8, fa_9, wf_10, p_3, p_4, -⟩ := hw
  have wf_10 : wd_6.2 = wd.2 := wf_10
  have hP : va_P (dC, dI) vwCl (wsX ob ad cA fv_5 wd_6 ar_7) H1 := by have h9 := hB.1; rw [ht] at h9; exact h9
  have fr_8 : fM [] fv fv_5 := fr_8
  have fa_9 : fA [] ar ar_7 := fa_9
  generalize H1 = H at hP hS ⊢
  rcases p_4 with ⟨rfl, p_4⟩ | ⟨rfl, p_4⟩
  · skip
    refine lv_istore_n (lv' := [(1, .int 0), (0, .ref (ob 0))]) hx hb dX11_rain_4 rfl hl (by decide) rfl (fun ls hl => ?_)
    refine lv_iload_n hx hb dX11_rain_5 rfl (lv_at hl 0 rfl) ?_
    refine lv_if_eq (tgt := 87) hx hb dX11_rain_6 (by decide) (fun c_11 => ?_) (fun c_11 => ?_)
    · skip
      refine lv_aload_n hx hb dX11_rain_87 rfl (lv_at hl 1 rfl) ?_
      refine lv_iconst (v := 0) hx hb dX11_rain_88 (by decide) ?_
      refine pX_X11_50 hx hb htg hown hK hP hS hd dX11_rain_89 (fun H locs fv_12 efv_12 hP hS => ?_)
      have hF_fv_12 : rX fv_12 := rX_put hF_fv_5 efv_12 (iv_w (⟨by decide, by decide⟩ : (0 : Int) ≤ (0 : Int32).toInt ∧ (0 : Int32).toInt ≤ 0) (by decide) (by decide))
      refine lv_iload_n hx hb dX11_rain_92 rfl (lv_at hl 0 rfl) ?_
      have z_13 : (0 : Int32).toInt = 0 := by decide
      exact W.zret (v := 0) hx hb hr (by decide) (fun t ht hW => ⟨⟨0, (fv_12, wd_6, ar_7), rfl, ⟨hF_fv_12, hA_ar_7, (fM_put (fM_call (fM_rf [0, 5] _) fr_8 (by decide)) efv_12 (by decide)), (fA_call (fA_rf [3] _) fa_9 (by decide)), wf_10, (iv_w (⟨by decide, by decide⟩ : (0 : Int) ≤ (0 : Int32).toInt ∧ (0 : Int32).toInt ≤ 0) (by decide) (by decide)), (show (fv_12 0).toInt = 0 from by rw [show fv_12 0 = (0 : Int32) from (congrFun efv_12 0)]; decide), trivial⟩, ⟨by rw [ht]; exact hP, va_K.moved hW.alike hK⟩⟩, hS.F ht⟩) hS.2.2 dX11_rain_93
    · skip
      exact absurd c_11 (by decide)
  · skip
    have q_14 : (fv 0).toInt ≤ 200 := p_4
    have i_15 : 0 ≤ (fv 0).toInt ∧ (fv 0).toInt ≤ 200 := ⟨(hF_fv 0).1, p_4⟩
    refine lv_istore_n (lv' := [(1, .int 1), (0, .ref (ob 0))]) hx hb dX11_rain_4 rfl hl (by decide) rfl (fun ls hl => ?_)
    refine lv_iload_n hx hb dX11_rain_5 rfl (lv_at hl 0 rfl) ?_
    refine lv_if_eq (tgt := 87) hx hb dX11_rain_6 (by decide) (fun c_16 => ?_) (fun c_16 => ?_)
    · skip
      exact absurd c_16 (by decide)
    · skip
      refine lv_iconst (v := 0) hx hb dX11_rain_9 (by decide) ?_
      refine lv_istore_n (lv' := [(2, .int 0), (1, .int 1), (0, .ref (ob 0))]) hx hb dX11_rain_10 rfl hl (by decide) rfl (fun ls hl => ?_)
      refine my_cut (P := fun R9 a9 Q9 => ∀ (n_20 : Nat) (x_17 : Int32) (ar_18 : Nat → Nat → Int32) (H : Heap) (locs : List Loc) (ls : Array Slot), 200 - x_17.toInt < (n_20 : Int) → (0 ≤ x_17.toInt ∧ x_17.toInt ≤ 200) → rB ar_18 → fA [3] ar_7 ar_18 → va_P (dC, dI) vwCl (wsX ob ad cA fv_5 wd_6 ar_18) H → va_S (aX ob ad s.heap.size) s.heap H locs → lv_has ls 4 [(0, .ref (ob 0)), (1, .int 1), (2, .int x_17)] → W p l e R9 s m a9 below meth c H locs 0 0 Q9 (F0 m 11 ls [])) ?_ (fun hj_22 => ?_)
      · intro n_20
        induction n_20 with
        | zero => intro x_17 ar_18 H locs ls fu_21 i_x_17 hA_ar_18 fa_19; exfalso; omega
        | succ n_20 ih_20 =>
          intro x_17 ar_18 H locs ls fu_21 i_x_17 hA_ar_18 fa_19 hP hS hl
          refine lv_iload_n hx hb dX11_rain_11 rfl (lv_at hl 2 rfl) ?_
          refine lv_aload_n hx hb dX11_rain_12 rfl (lv_at hl 0 rfl) ?_
          refine gX_X11_50 hx hb htg hown hK hP dX11_rain_13 ?_
          refine my_ti (y := fv 0) ((fr_8 0 rfl)) ?_
          refine lv_icmp_ge (tgt := 76) hx hb dX11_rain_16 (by decide) (fun c_23 => ?_) (fun c_23 => ?_)
          · skip
            refine lv_aload_n hx hb dX11_rain_76 rfl (lv_at hl 0 rfl) ?_
            refine gX_X11_16 hx hb htg hown hK hP dX11_rain_77 ?_
            refine lv_aload_n hx hb dX11_rain_80 rfl (lv_at hl 0 rfl) ?_
            refine gX_X11_50 hx hb htg hown hK hP dX11_rain_81 ?_
            refine my_ti (y := fv 0) ((fr_8 0 rfl)) ?_
            refine pX_X11_137 hx hb htg hown hK hP hS hd dX11_rain_84 (fun H locs fv_47 efv_47 hP hS => ?_)
            have hF_fv_47 : rX fv_47 := rX_put hF_fv_5 efv_47 i_15
            refine lv_aload_n hx hb dX11_rain_87 rfl (lv_at hl 0 rfl) ?_
            refine lv_iconst (v := 0) hx hb dX11_rain_88 (by decide) ?_
            refine pX_X11_50 hx hb htg hown hK hP hS hd dX11_rain_89 (fun H locs fv_48 efv_48 hP hS => ?_)
            have hF_fv_48 : rX fv_48 := rX_put hF_fv_47 efv_48 (iv_w (⟨by decide, by decide⟩ : (0 : Int) ≤ (0 : Int32).toInt ∧ (0 : Int32).toInt ≤ 0) (by decide) (by decide))
            refine lv_iload_n hx hb dX11_rain_92 rfl (lv_at hl 1 rfl) ?_
            have z_49 : (1 : Int32).toInt = 1 := by decide
            exact W.zret (v := 1) hx hb hr (by decide) (fun t ht hW => ⟨⟨1, (fv_48, wd_6, ar_18), rfl, ⟨hF_fv_48, hA_ar_18, (fM_put (fM_put (fM_call (fM_rf [0, 5] _) fr_8 (by decide)) efv_47 (by decide)) efv_48 (by decide)), (fA_call (fA_call (fA_rf [3] _) fa_9 (by decide)) fa_19 (by decide)), wf_10, (iv_w (⟨by decide, by decide⟩ : (1 : Int) ≤ (1 : Int32).toInt ∧ (1 : Int32).toInt ≤ 1) (by decide) (by decide)), (show (fv_48 0).toInt = 0 from by rw [show fv_48 0 = (0 : Int32) from (congrFun efv_48 0)]; decide), trivial⟩, ⟨by rw [ht]; exact hP, va_K.moved hW.alike hK⟩⟩, hS.F ht⟩) hS.2.2 dX11_rain_93
          · skip
            have i_24 : 0 ≤ x_17.toInt ∧ x_17.toInt ≤ 199 := iv_lt1 i_x_17 i_15 (Int32.not_le.mp c_23)
            have i_25 : 1 ≤ (fv 0).toInt ∧ (fv 0).toInt ≤ 200 := iv_lt2 i_x_17 i_15 (Int32.not_le.mp c_23)
            refine lv_iload_n hx hb dX11_rain_19 rfl (lv_at hl 2 rfl) ?_
            refine my_cut (P := fun R9 a9 Q9 => ∀ (x_33 : Int32) (H : Heap) (locs : List Loc) (ls : Array Slot), va_P (dC, dI) vwCl (wsX ob ad cA fv_5 wd_6 ar_18) H → va_S (aX ob ad s.heap.size) s.heap H locs → lv_has ls 4 [(0, .ref (ob 0)), (1, .int 1), (2, .int x_17)] → W p l e R9 s m a9 below meth c H locs 0 0 Q9 (F0 m 38 ls [.int x_33])) ?_ (fun hj_34 => ?_)
            · intro x_33 H locs ls  hP hS hl
              refine lv_istore_n (lv' := [(3, .int x_33), (0, .ref (ob 0)), (1, .int 1), (2, .int x_17)]) hx hb dX11_rain_38 rfl hl (by decide) rfl (fun ls hl => ?_)
              refine lv_aload_n hx hb dX11_rain_39 rfl (lv_at hl 1 rfl) ?_
              refine gX_X11_16 hx hb htg hown hK hP dX11_rain_40 ?_
              refine gX_X11_134 hx hb htg hown hK hP dX11_rain_43 ?_
              refine lv_iload_n hx hb dX11_rain_46 rfl (lv_at hl 3 rfl) ?_
              refine lv_aload_n hx hb dX11_rain_47 rfl (lv_at hl 1 rfl) ?_
              refine gX_X11_9 hx hb htg hown hK hP dX11_rain_48 ?_
              refine lv_iload_n hx hb dX11_rain_51 rfl (lv_at hl 3 rfl) ?_
              refine lX_1 hx hb hK hP (iv_in i_24 (by decide) (by decide)) dX11_rain_52 (fun v_35 ev_35 => ?_)
              have i_36 : 0 ≤ v_35.toInt ∧ v_35.toInt ≤ 255 := ev_35 ▸ hA_ar_18 1 _
              refine lv_sipush (v := 255) hx hb dX11_rain_53 (by decide) ?_
              refine my_cut (P := fun R9 a9 Q9 => ∀ (x_41 : Int32) (H : Heap) (locs : List Loc) (ls : Array Slot), va_P (dC, dI) vwCl (wsX ob ad cA fv_5 wd_6 ar_18) H → va_S (aX ob ad s.heap.size) s.heap H locs → lv_has ls 4 [(0, .ref (ob 0)), (1, .int 1), (2, .int x_17)] → W p l e R9 s m a9 below meth c H locs 0 0 Q9 (F0 m 69 ls [.int x_41, .int x_17, .ref (ad 3)])) ?_ (fun hj_42 => ?_)
              · intro x_41 H locs ls  hP hS hl
                refine sX_3 hx hb hK hP hS hd (iv_in i_24 (by decide) (by decide)) dX11_rain_69 (fun H locs ar_43 ear_43 hP hS => ?_)
                have hA_ar_43 : rB ar_43 := rB_put hA_ar_18 ear_43 (iv_any _)
                obtain ⟨v_44, ev_44⟩ : ∃ z : Int32, z = x_17 + 1 := ⟨_, rfl⟩
                refine lv_iinc (v := v_44) (lv' := [(2, .int v_44), (0, .ref (ob 0)), (1, .int 1)]) hx hb dX11_rain_70 hl (k := 2) rfl (by rw [ev_44]; rfl) (by decide) rfl (fun ls hl => ?_)
                have t_45 : v_44.toInt = x_17.toInt + 1 ∧ 1 ≤ v_44.toInt ∧ v_44.toInt ≤ 200 := iv_addc ev_44 i_24 (by decide) (by decide) (by decide)
                refine lv_goto (tgt := 11) hx hb dX11_rain_73 (by decide) ?_
                exact ih_20 v_44 ar_43 _ _ ls (by omega) (iv_w t_45.2 (by decide) (by decide)) hA_ar_43 (fA_put (fA_call (fA_rf [3] _) fa_19 (by decide)) ear_43 (by decide)) hP hS (lv_sub hl [1, 2, 0] rfl)
              · skip
                refine lv_icmp_ne (tgt := 63) hx hb dX11_rain_56 (by decide) (fun c_37 => ?_) (fun c_37 => ?_)
                · skip
                  have i_38 : 0 ≤ v_35.toInt ∧ v_35.toInt ≤ 254 := iv_neh i_36 (by decide) c_37
                  refine lv_aload_n hx hb dX11_rain_63 rfl (lv_at hl 1 rfl) ?_
                  refine gX_X11_9 hx hb htg hown hK hP dX11_rain_64 ?_
                  refine lv_iload_n hx hb dX11_rain_67 rfl (lv_at hl 3 rfl) ?_
                  refine lX_1 hx hb hK hP (iv_in i_24 (by decide) (by decide)) dX11_rain_68 (fun v_39 ev_39 => ?_)
                  obtain rfl : v_35 = v_39 := ev_35.trans ev_39.symm
                  exact hj_42 v_35 _ _ ls  hP hS (lv_sub hl [1, 2, 3] rfl)
                · skip
                  have i_40 : 255 ≤ v_35.toInt ∧ v_35.toInt ≤ 255 := iv_eq1 (⟨by decide, by decide⟩ : (255 : Int) ≤ (255 : Int32).toInt ∧ (255 : Int32).toInt ≤ 255) c_37
                  refine lv_iload_n hx hb dX11_rain_59 rfl (lv_at hl 0 rfl) ?_
                  refine lv_goto (tgt := 69) hx hb dX11_rain_60 (by decide) ?_
                  exact hj_42 x_33 _ _ ls  hP hS (lv_sub hl [1, 2, 3] rfl)
            · skip
              refine lv_if_ne (tgt := 27) hx hb dX11_rain_20 (by decide) (fun c_26 => ?_) (fun c_26 => ?_)
              · skip
                have i_27 : 1 ≤ x_17.toInt ∧ x_17.toInt ≤ 199 := iv_nel i_24 (by decide) c_26
                refine lv_aload_n hx hb dX11_rain_27 rfl (lv_at hl 0 rfl) ?_
                refine gX_X11_16 hx hb htg hown hK hP dX11_rain_28 ?_
                refine gX_X11_134 hx hb htg hown hK hP dX11_rain_31 ?_
                refine lv_iload_n hx hb dX11_rain_34 rfl (lv_at hl 2 rfl) ?_
                refine lv_iconst (v := 1) hx hb dX11_rain_35 (by decide) ?_
                refine lv_isub hx hb dX11_rain_36 ?_
                refine lv_topi (fun v_28 ev_28 => ?_)
                have t_29 : v_28.toInt = x_17.toInt - 1 ∧ 0 ≤ v_28.toInt ∧ v_28.toInt ≤ 198 := iv_subc ev_28 i_27 (by decide) (by decide) (by decide)
                refine lX_3 hx hb hK hP (iv_in t_29.2 (by decide) (by decide)) dX11_rain_37 (fun v_31 ev_31 => ?_)
                exact hj_34 v_31 _ _ ls  hP hS (lv_sub hl [0, 1, 2] rfl)
              · skip
                have i_32 : 0 ≤ x_17.toInt ∧ x_17.toInt ≤ 0 := iv_eq1 (⟨by decide, by decide⟩ : (0 : Int) ≤ (0 : Int32).toInt ∧ (0 : Int32).toInt ≤ 0) c_26
                refine lv_iconst (v := 0) hx hb dX11_rain_23 (by decide) ?_
                refine lv_goto (tgt := 38) hx hb dX11_rain_24 (by decide) ?_
                exact hj_34 0 _ _ ls  hP hS (lv_sub hl [0, 1, 2] rfl)
      · skip
        have z_50 : (0 : Int32).toInt = 0 := by decide
        exact hj_22 201 0 ar_7 _ _ ls (by first | decide | omega) (iv_w (⟨by decide, by decide⟩ : (0 : Int) ≤ (0 : Int32).toInt ∧ (0 : Int32).toInt ≤ 0) (by decide) (by decide)) hA_ar_7 (fA_rf [3] _) hP hS (lv_sub hl [2, 1, 0] rfl)
set_option maxHeartbeats 4000000 in
set_option maxRecDepth 100000 in
theorem x_seatedE (l : Launch) (dC : Nat → ClassId) (dI : Nat → Nat → Nat) (sz : Nat) (ob ad : Nat → Nat) (cA : Nat → ClassId) (hd : dX ob ad) (fv : Nat → Int32) (wd : xT) (ar : Nat → Nat → Int32) (hF_fv : rX fv) (hA_ar : rB ar) (mm : Int32) : Met l yX11_seated (.code yX11_seated cX11_seated 3 (some .int) :: lw_good) ({ frames := 9, cells := 0, slots := 0, locals := 209 }) (va_Pc [.ref (ob 0), .int mm] (prX dC dI ob ad cA fv wd ar sz)) (va_Qi (fun (r : Int32) (u : xS) => rX u.1 ∧ rB u.2.2 ∧ fM [0, 25, 26, 27, 28] fv u.1 ∧ fA [65, 66, 67, 68, 69, 70, 71, 72] ar u.2.2 ∧ u.2.1.2 = wd.2 ∧ ((u.1 0).toInt = 0) ∧ True) (enX dC dI ob ad cA) (aX ob ad sz)) 0 0 (aX ob ad sz) := by
  refine Met.ofW (cc := cX11_seated) (maxL := 3) (ret := (some .int)) (by decide) rfl ?_
  intro p e s m args below meth c s₁ B hml hv
  obtain ⟨rfl, hsz, hP, hK⟩ := hv
  have hx := B.exec
  have hb := B.bytes
  have hr := B.returns
  have hts := atoms_spec (ws := (.code yX11_seated cX11_seated 3 (some .int) :: lw_good)) B.pre
  have htg : ∀ w ∈ lw_good, w.before _ s = true := fun w hw => hts w (List.mem_cons_of_mem _ hw)
  have hown : s.vm.findClass RX11 = some m.cls := findClass_of_methodNamed B.named
  have hlocks := B.notSynchronized
  subst hsz
  have hS : va_S (aX ob ad s.heap.size) s.heap s.heap [] := va_S.rf
  have hl := lv_entry ([.ref (ob 0), .int mm]) (n := 3) (Nat.le_of_ble_eq_true rfl)
  rw [lg_entry_eq]
  generalize (lg_sl ([.ref (ob 0), .int mm]) ++ List.replicate (3 - (lg_sl ([.ref (ob 0), .int mm])).length) Slot.unset).toArray = ls at hl ⊢
  have hl : lv_has ls 3 [(0, .ref (ob 0)), (1, .int mm)] := hl
  refine lv_iconst (v := (-1)) hx hb dX11_seated_0 (by decide) ?_
  refine lv_istore_n (lv' := [(2, .int (-1)), (0, .ref (ob 0)), (1, .int mm)]) hx hb dX11_seated_1 rfl hl (by decide) rfl (fun ls hl => ?_)
  refine lv_iload_n hx hb dX11_seated_2 rfl (lv_at hl 2 rfl) ?_
  refine lv_if_lt (tgt := 47) hx hb dX11_seated_3 (by decide) (fun c_1 => ?_) (fun c_1 => ?_)
  · skip
    have i_2 : (-2147483648) ≤ mm.toInt ∧ mm.toInt ≤ (-1) := iv_lt1 (iv_any mm) (⟨by decide, by decide⟩ : (0 : Int) ≤ (0 : Int32).toInt ∧ (0 : Int32).toInt ≤ 0) c_1
    refine lv_aload_n hx hb dX11_seated_47 rfl (lv_at hl 1 rfl) ?_
    refine lv_iconst (v := 0) hx hb dX11_seated_48 (by decide) ?_
    refine pX_X11_50 hx hb htg hown hK hP hS hd dX11_seated_49 (fun H locs fv_3 efv_3 hP hS => ?_)
    have hF_fv_3 : rX fv_3 := rX_put hF_fv efv_3 (iv_w (⟨by decide, by decide⟩ : (0 : Int) ≤ (0 : Int32).toInt ∧ (0 : Int32).toInt ≤ 0) (by decide) (by decide))
    refine lv_iload_n hx hb dX11_seated_52 rfl (lv_at hl 0 rfl) ?_
    have z_4 : ((-1) : Int32).toInt = (-1) := by decide
    exact W.iret (v := (-1)) hx hb hr (fun t ht hW => ⟨⟨(-1), (fv_3, wd, ar), rfl, ⟨hF_fv_3, hA_ar, (fM_put (fM_rf [0, 25, 26, 27, 28] _) efv_3 (by decide)), (fA_rf [65, 66, 67, 68, 69, 70, 71, 72] _), rfl, (show (fv_3 0).toInt = 0 from by rw [show fv_3 0 = (0 : Int32) from (congrFun efv_3 0)]; decide), trivial⟩, ⟨by rw [ht]; exact hP, va_K.moved hW.alike hK⟩⟩, hS.F ht⟩) hS.2.2 dX11_seated_53
  · skip
    have i_5 : 0 ≤ mm.toInt ∧ mm.toInt ≤ 2147483647 := iv_le2 (⟨by decide, by decide⟩ : (0 : Int) ≤ (0 : Int32).toInt ∧ (0 : Int32).toInt ≤ 0) (iv_any mm) (Int32.not_lt.mp c_1)
    refine lv_iload_n hx hb dX11_seated_6 rfl (lv_at hl 2 rfl) ?_
    refine lv_sipush (v := 200) hx hb dX11_seated_7 (by decide) ?_
    refine lv_icmp_gt (tgt := 47) hx hb dX11_seated_10 (by decide) (fun c_6 => ?_) (fun c_6 => ?_)
    · skip
      have i_7 : 201 ≤ mm.toInt ∧ mm.toInt ≤ 2147483647 := iv_lt2 (⟨by decide, by decide⟩ : (200 : Int) ≤ (200 : Int32).toInt ∧ (200 : Int32).toInt ≤ 200) i_5 c_6
      refine lv_aload_n hx hb dX11_seated_47 rfl (lv_at hl 1 rfl) ?_
      refine lv_iconst (v := 0) hx hb dX11_seated_48 (by decide) ?_
      refine pX_X11_50 hx hb htg hown hK hP hS hd dX11_seated_49 (fun H locs fv_8 efv_8 hP hS => ?_)
      have hF_fv_8 : rX fv_8 := rX_put hF_fv efv_8 (iv_w (⟨by decide, by decide⟩ : (0 : Int) ≤ (0 : Int32).toInt ∧ (0 : Int32).toInt ≤ 0) (by decide) (by decide))
      refine lv_iload_n hx hb dX11_seated_52 rfl (lv_at hl 0 rfl) ?_
      have z_9 : ((-1) : Int32).toInt = (-1) := by decide
      exact W.iret (v := (-1)) hx hb hr (fun t ht hW => ⟨⟨(-1), (fv_8, wd, ar), rfl, ⟨hF_fv_8, hA_ar, (fM_put (fM_rf [0, 25, 26, 27, 28] _) efv_8 (by decide)), (fA_rf [65, 66, 67, 68, 69, 70, 71, 72] _), rfl, (show (fv_8 0).toInt = 0 from by rw [show fv_8 0 = (0 : Int32) from (congrFun efv_8 0)]; decide), trivial⟩, ⟨by rw [ht]; exact hP, va_K.moved hW.alike hK⟩⟩, hS.F ht⟩) hS.2.2 dX11_seated_53
    · skip
      have i_10 : 0 ≤ mm.toInt ∧ mm.toInt ≤ 200 := iv_le1 i_5 (⟨by decide, by decide⟩ : (200 : Int) ≤ (200 : Int32).toInt ∧ (200 : Int32).toInt ≤ 200) (Int32.not_lt.mp c_6)
      refine lv_aload_n hx hb dX11_seated_13 rfl (lv_at hl 1 rfl) ?_
      refine gX_X11_16 hx hb htg hown hK hP dX11_seated_14 ?_
      refine gX_X11_89 hx hb htg hown hK hP dX11_seated_17 ?_
      have i_11 : 0 ≤ (fv 4).toInt ∧ (fv 4).toInt ≤ 8 := hF_fv 4
      refine lv_if_le (tgt := 47) hx hb dX11_seated_20 (by decide) (fun c_12 => ?_) (fun c_12 => ?_)
      · skip
        have i_13 : 0 ≤ (fv 4).toInt ∧ (fv 4).toInt ≤ 0 := iv_le1 i_11 (⟨by decide, by decide⟩ : (0 : Int) ≤ (0 : Int32).toInt ∧ (0 : Int32).toInt ≤ 0) c_12
        refine lv_aload_n hx hb dX11_seated_47 rfl (lv_at hl 1 rfl) ?_
        refine lv_iconst (v := 0) hx hb dX11_seated_48 (by decide) ?_
        refine pX_X11_50 hx hb htg hown hK hP hS hd dX11_seated_49 (fun H locs fv_14 efv_14 hP hS => ?_)
        have hF_fv_14 : rX fv_14 := rX_put hF_fv efv_14 (iv_w (⟨by decide, by decide⟩ : (0 : Int) ≤ (0 : Int32).toInt ∧ (0 : Int32).toInt ≤ 0) (by decide) (by decide))
        refine lv_iload_n hx hb dX11_seated_52 rfl (lv_at hl 0 rfl) ?_
        have z_15 : ((-1) : Int32).toInt = (-1) := by decide
        exact W.iret (v := (-1)) hx hb hr (fun t ht hW => ⟨⟨(-1), (fv_14, wd, ar), rfl, ⟨hF_fv_14, hA_ar, (fM_put (fM_rf [0, 25, 26, 27, 28] _) efv_14 (by decide)), (fA_rf [65, 66, 67, 68, 69, 70, 71, 72] _), rfl, (show (fv_14 0).toInt = 0 from by rw [show fv_14 0 = (0 : Int32) from (congrFun efv_14 0)]; decide), trivial⟩, ⟨by rw [ht]; exact hP, va_K.moved hW.alike hK⟩⟩, hS.F ht⟩) hS.2.2 dX11_seated_53
      · skip
        have i_16 : 1 ≤ (fv 4).toInt ∧ (fv 4).toInt ≤ 8 := iv_lt2 (⟨by decide, by decide⟩ : (0 : Int) ≤ (0 : Int32).toInt ∧ (0 : Int32).toInt ≤ 0) i_11 (Int32.not_le.mp c_12)
        refine lv_aload_n hx hb dX11_seated_23 rfl (lv_at hl 1 rfl) ?_
        have z_17 : 0 ≤ (fv 0).toInt ∧ (fv 0).toInt ≤ 340 := hF_fv 0
        refine va_calli (va_runV (As := []) (rest := []) ⟨hx, hb, hml, hown, hts⟩ (x_tapeIsWheels l dC dI s.heap.size ob ad cA hd fv wd ar hF_fv hA_ar) (cwV 0 hts (gV kw_6_1 kw_6_3 kw_p_47 kw_1_1 kw_6_4) rfl rfl rfl (by decide +kernel) ⟨Nat.le_of_ble_eq_true rfl, Nat.le_of_ble_eq_true rfl⟩) ⟨fun a U g mk q => ⟨q.1, q.2.1, q.2.2.1, va_K.moved (u := U) (U := U.calling g mk a) (Vm.Alike.refl U.vm) q.2.2.2⟩, va_recv hK hP (ci := 11) (q0 := 0) rfl rfl, fun U hU hW => ⟨rfl, by rw [hU], by rw [hU]; exact hP, va_K.moved hW.alike hK⟩⟩ rfl rfl hl.1 rfl (lv_room (Nat.le_of_ble_eq_true rfl)) dX11_seated_24 ⟨Nat.le_of_ble_eq_true rfl, Nat.le_of_ble_eq_true rfl⟩) hS (fun q _ h9 => aX_up hS q h9) (aX_up hS) (fun r_18 u t H1 locs ht _ hw hB _ hk1 hS => ?_)
        obtain ⟨fv_21, wd_22, ar_23⟩ := u
        obtain ⟨hF_fv_21, hA_ar_23, fr_24, fa_25, wf_26, p_19, p_20, -⟩ := hw
        have wf_26 : wd_22.2 = wd.2 := wf_26
        have hP : va_P (dC, dI) vwCl (wsX ob ad cA fv_21 wd_22 ar_23) H1 := by have h9 := hB.1; rw [ht] at h9; exact h9
        have fr_24 : fM [] fv fv_21 := fr_24
        have fa_25 : fA [] ar ar_23 := fa_25
        generalize H1 = H at hP hS ⊢
        rcases p_20 with ⟨rfl, p_20⟩ | ⟨rfl, p_20⟩
        · skip
          refine lv_if_eq (tgt := 47) hx hb dX11_seated_27 (by decide) (fun c_27 => ?_) (fun c_27 => ?_)
          · skip
            refine lv_aload_n hx hb dX11_seated_47 rfl (lv_at hl 1 rfl) ?_
            refine lv_iconst (v := 0) hx hb dX11_seated_48 (by decide) ?_
            refine pX_X11_50 hx hb htg hown hK hP hS hd dX11_seated_49 (fun H locs fv_28 efv_28 hP hS => ?_)
            have hF_fv_28 : rX fv_28 := rX_put hF_fv_21 efv_28 (iv_w (⟨by decide, by decide⟩ : (0 : Int) ≤ (0 : Int32).toInt ∧ (0 : Int32).toInt ≤ 0) (by decide) (by decide))
            refine lv_iload_n hx hb dX11_seated_52 rfl (lv_at hl 0 rfl) ?_
            have z_29 : ((-1) : Int32).toInt = (-1) := by decide
            exact W.iret (v := (-1)) hx hb hr (fun t ht hW => ⟨⟨(-1), (fv_28, wd_22, ar_23), rfl, ⟨hF_fv_28, hA_ar_23, (fM_put (fM_call (fM_rf [0, 25, 26, 27, 28] _) fr_24 (by decide)) efv_28 (by decide)), (fA_call (fA_rf [65, 66, 67, 68, 69, 70, 71, 72] _) fa_25 (by decide)), wf_26, (show (fv_28 0).toInt = 0 from by rw [show fv_28 0 = (0 : Int32) from (congrFun efv_28 0)]; decide), trivial⟩, ⟨by rw [ht]; exact hP, va_K.moved hW.alike hK⟩⟩, hS.F ht⟩) hS.2.2 dX11_seated_53
          · skip
            exact absurd c_27 (by decide)
        · skip
          have i_30 : 1 ≤ (fv 0).toInt ∧ (fv 0).toInt ≤ 340 := ⟨p_20.1, (hF_fv 0).2⟩
          have i_31 : 1 ≤ (fv 0).toInt ∧ (fv 0).toInt ≤ 5 := ⟨i_30.1, p_20.2.1⟩
          have q_32 : ∀ j : Nat, (j : Int) < (fv 0).toInt → (ar 1 j).toInt ≤ 19 := p_20.2.2
          refine lv_if_eq (tgt := 47) hx hb dX11_seated_27 (by decide) (fun c_33 => ?_) (fun c_33 => ?_)
          · skip
            exact absurd c_33 (by decide)
          · skip
            refine lv_aload_n hx hb dX11_seated_30 rfl (lv_at hl 1 rfl) ?_
            refine gX_X11_39 hx hb htg hown hK hP dX11_seated_31 ?_
            refine lv_aload_n hx hb dX11_seated_34 rfl (lv_at hl 1 rfl) ?_
            refine gX_X11_9 hx hb htg hown hK hP dX11_seated_35 ?_
            refine lv_aload_n hx hb dX11_seated_38 rfl (lv_at hl 1 rfl) ?_
            refine gX_X11_50 hx hb htg hown hK hP dX11_seated_39 ?_
            refine my_ti (y := fv 0) ((fr_24 0 rfl)) ?_
            refine lv_iload_n hx hb dX11_seated_42 rfl (lv_at hl 2 rfl) ?_
            have z_34 : (fv_21 0).toInt = (fv 0).toInt := congrArg Int32.toInt ((fr_24 0 rfl))
            have z_35 : 0 ≤ (fv_21 0).toInt ∧ (fv_21 0).toInt ≤ 340 := hF_fv_21 0
            refine va_calli (va_runV (As := [.ref (ad 1), .int (fv 0), .int mm]) (rest := []) ⟨hx, hb, hml, hown, hts⟩ (x_seat l dC dI H.size ob ad cA hd fv_21 wd_22 ar_23 hF_fv_21 hA_ar_23 (fv 0) mm i_31 (fun j hj => by rw [((fA_call (fA_rf [] _) fa_25 (by decide)) 1 rfl)]; exact q_32 j (by omega))) (cwV 3 hts (gV kw_6_9 kw_6_10 kw_6_11 kw_1_14 kw_6_12) rfl rfl rfl (by decide +kernel) ⟨Nat.le_of_ble_eq_true rfl, Nat.le_of_ble_eq_true rfl⟩) ⟨fun a U g mk q => ⟨q.1, q.2.1, q.2.2.1, va_K.moved (u := U) (U := U.calling g mk a) (Vm.Alike.refl U.vm) q.2.2.2⟩, va_recv hK hP (ci := 6) (q0 := 10) rfl rfl, fun U hU hW => ⟨rfl, by rw [hU], by rw [hU]; exact hP, va_K.moved hW.alike hK⟩⟩ rfl rfl hl.1 rfl (lv_room (Nat.le_of_ble_eq_true rfl)) dX11_seated_43 ⟨Nat.le_of_ble_eq_true rfl, Nat.le_of_ble_eq_true rfl⟩) hS (fun q _ h9 => aX_up hS q h9) (aX_up hS) (fun r_36 u t H1 locs ht _ hw hB _ hk1 hS => ?_)
            obtain ⟨fv_37, wd_38, ar_39⟩ := u
            obtain ⟨hF_fv_37, hA_ar_39, fr_40, fa_41, wf_42, -⟩ := hw
            have wf_42 : wd_38.2 = wd_22.2 := wf_42
            have hP : va_P (dC, dI) vwCl (wsX ob ad cA fv_37 wd_38 ar_39) H1 := by have h9 := hB.1; rw [ht] at h9; exact h9
            have fr_40 : fM [25, 26, 27, 28] fv_21 fv_37 := fr_40
            have fa_41 : fA [65, 66, 67, 68, 69, 70, 71, 72] ar_23 ar_39 := fa_41
            generalize H1 = H at hP hS ⊢
            refine lv_istore_n (lv' := [(2, .int r_36), (0, .ref (ob 0)), (1, .int mm)]) hx hb dX11_seated_46 rfl hl (by decide) rfl (fun ls hl => ?_)
            refine lv_aload_n hx hb dX11_seated_47 rfl (lv_at hl 1 rfl) ?_
            refine lv_iconst (v := 0) hx hb dX11_seated_48 (by decide) ?_
            refine pX_X11_50 hx hb htg hown hK hP hS hd dX11_seated_49 (fun H locs fv_43 efv_43 hP hS => ?_)
            have hF_fv_43 : rX fv_43 := rX_put hF_fv_37 efv_43 (iv_w (⟨by decide, by decide⟩ : (0 : Int) ≤ (0 : Int32).toInt ∧ (0 : Int32).toInt ≤ 0) (by decide) (by decide))
            refine lv_iload_n hx hb dX11_seated_52 rfl (lv_at hl 0 rfl) ?_
            exact W.iret (v := r_36) hx hb hr (fun t ht hW => ⟨⟨r_36, (fv_43, wd_38, ar_39), rfl, ⟨hF_fv_43, hA_ar_39, (fM_put (fM_call (fM_call (fM_rf [0, 25, 26, 27, 28] _) fr_24 (by decide)) fr_40 (by decide)) efv_43 (by decide)), (fA_call (fA_call (fA_rf [65, 66, 67, 68, 69, 70, 71, 72] _) fa_25 (by decide)) fa_41 (by decide)), (wf_42.trans wf_26), (show (fv_43 0).toInt = 0 from by rw [show fv_43 0 = (0 : Int32) from (congrFun efv_43 0)]; decide), trivial⟩, ⟨by rw [ht]; exact hP, va_K.moved hW.alike hK⟩⟩, hS.F ht⟩) hS.2.2 dX11_seated_53

set_option maxHeartbeats 4000000 in
set_option maxRecDepth 100000 in
theorem x_isStopE (l : Launch) (dC : Nat → ClassId) (dI : Nat → Nat → Nat) (sz : Nat) (ob ad : Nat → Nat) (cA : Nat → ClassId) (hd : dX ob ad) (fv : Nat → Int32) (wd : xT) (ar : Nat → Nat → Int32) (hF_fv : rX fv) (hA_ar : rB ar) (v : Int32) : Met l yX7_isStop (.code yX7_isStop cX7_isStop 2 (some .boolean) :: lw_good) ({ frames := 2, cells := 0, slots := 0, locals := 40 }) (va_Pc [.ref (ob 1), .int v] (prX dC dI ob ad cA fv wd ar sz)) (va_Qi (fun (r : Int32) (u : xS) => rX u.1 ∧ rB u.2.2 ∧ fM [] fv u.1 ∧ fA [] ar u.2.2 ∧ u.2.1.2 = wd.2 ∧ (0 ≤ r.toInt ∧ r.toInt ≤ 1) ∧ ((r = 0 ∧ (v.toInt < 0 ∨ (fv 4).toInt ≤ v.toInt)) ∨ (r = 1 ∧ (0 ≤ v.toInt) ∧ (v.toInt ≤ 7) ∧ (v.toInt < (fv 4).toInt))) ∧ True) (enX dC dI ob ad cA) (aX ob ad sz)) 0 0 (aX ob ad sz) := by
  refine Met.ofW (cc := cX7_isStop) (maxL := 2) (ret := (some .boolean)) (by decide) rfl ?_
  intro p e s m args below meth c s₁ B hml hv
  obtain ⟨rfl, hsz, hP, hK⟩ := hv
  have hx := B.exec
  have hb := B.bytes
  have hr := B.returns
  have hts := atoms_spec (ws := (.code yX7_isStop cX7_isStop 2 (some .boolean) :: lw_good)) B.pre
  have htg : ∀ w ∈ lw_good, w.before _ s = true := fun w hw => hts w (List.mem_cons_of_mem _ hw)
  have hown : s.vm.findClass RX7 = some m.cls := findClass_of_methodNamed B.named
  have hlocks := B.notSynchronized
  subst hsz
  have hS : va_S (aX ob ad s.heap.size) s.heap s.heap [] := va_S.rf
  have hl := lv_entry ([.ref (ob 1), .int v]) (n := 2) (Nat.le_of_ble_eq_true rfl)
  rw [lg_entry_eq]
  generalize (lg_sl ([.ref (ob 1), .int v]) ++ List.replicate (2 - (lg_sl ([.ref (ob 1), .int v])).length) Slot.unset).toArray = ls at hl ⊢
  have hl : lv_has ls 2 [(0, .ref (ob 1)), (1, .int v)] := hl
  refine lv_iload_n hx hb dX7_isStop_0 rfl (lv_at hl 1 rfl) ?_
  refine lv_if_lt (tgt := 16) hx hb dX7_isStop_1 (by decide) (fun c_1 => ?_) (fun c_1 => ?_)
  · skip
    have i_2 : (-2147483648) ≤ v.toInt ∧ v.toInt ≤ (-1) := iv_lt1 (iv_any v) (⟨by decide, by decide⟩ : (0 : Int) ≤ (0 : Int32).toInt ∧ (0 : Int32).toInt ≤ 0) c_1
    refine lv_iconst (v := 0) hx hb dX7_isStop_16 (by decide) ?_
    exact W.zret (v := 0) hx hb hr (by decide) (fun t ht hW => ⟨⟨0, (fv, wd, ar), rfl, ⟨hF_fv, hA_ar, (fM_rf [] _), (fA_rf [] _), rfl, (iv_w (⟨by decide, by decide⟩ : (0 : Int) ≤ (0 : Int32).toInt ∧ (0 : Int32).toInt ≤ 0) (by decide) (by decide)), (Or.inl ⟨rfl, by omega⟩), trivial⟩, ⟨by rw [ht]; exact hP, va_K.moved hW.alike hK⟩⟩, hS.F ht⟩) hS.2.2 dX7_isStop_17
  · skip
    have i_3 : 0 ≤ v.toInt ∧ v.toInt ≤ 2147483647 := iv_le2 (⟨by decide, by decide⟩ : (0 : Int) ≤ (0 : Int32).toInt ∧ (0 : Int32).toInt ≤ 0) (iv_any v) (Int32.not_lt.mp c_1)
    refine lv_iload_n hx hb dX7_isStop_4 rfl (lv_at hl 1 rfl) ?_
    refine lv_aload_n hx hb dX7_isStop_5 rfl (lv_at hl 0 rfl) ?_
    refine gX_X7_65 hx hb htg hown hK hP dX7_isStop_6 ?_
    have i_4 : 0 ≤ (fv 4).toInt ∧ (fv 4).toInt ≤ 8 := hF_fv 4
    refine lv_icmp_ge (tgt := 16) hx hb dX7_isStop_9 (by decide) (fun c_5 => ?_) (fun c_5 => ?_)
    · skip
      have k_6 := Int32.le_iff_toInt_le.mp c_5
      refine lv_iconst (v := 0) hx hb dX7_isStop_16 (by decide) ?_
      exact W.zret (v := 0) hx hb hr (by decide) (fun t ht hW => ⟨⟨0, (fv, wd, ar), rfl, ⟨hF_fv, hA_ar, (fM_rf [] _), (fA_rf [] _), rfl, (iv_w (⟨by decide, by decide⟩ : (0 : Int) ≤ (0 : Int32).toInt ∧ (0 : Int32).toInt ≤ 0) (by decide) (by decide)), (Or.inl ⟨rfl, by omega⟩), trivial⟩, ⟨by rw [ht]; exact hP, va_K.moved hW.alike hK⟩⟩, hS.F ht⟩) hS.2.2 dX7_isStop_17
    · skip
      have i_7 : 0 ≤ v.toInt ∧ v.toInt ≤ 7 := iv_lt1 i_3 i_4 (Int32.not_le.mp c_5)
      have i_8 : 1 ≤ (fv 4).toInt ∧ (fv 4).toInt ≤ 8 := iv_lt2 i_3 i_4 (Int32.not_le.mp c_5)
      have k_9 := Int32.lt_iff_toInt_lt.mp (Int32.not_le.mp c_5)
      refine lv_iconst (v := 1) hx hb dX7_isStop_12 (by decide) ?_
      refine lv_goto (tgt := 17) hx hb dX7_isStop_13 (by decide) ?_
      exact W.zret (v := 1) hx hb hr (by decide) (fun t ht hW => ⟨⟨1, (fv, wd, ar), rfl, ⟨hF_fv, hA_ar, (fM_rf [] _), (fA_rf [] _), rfl, (iv_w (⟨by decide, by decide⟩ : (1 : Int) ≤ (1 : Int32).toInt ∧ (1 : Int32).toInt ≤ 1) (by decide) (by decide)), (Or.inr (⟨rfl, by omega⟩)), trivial⟩, ⟨by rw [ht]; exact hP, va_K.moved hW.alike hK⟩⟩, hS.F ht⟩) hS.2.2 dX7_isStop_17
set_option maxHeartbeats 4000000 in
set_option maxRecDepth 100000 in
theorem x_wheels_hasE (l : Launch) (dC : Nat → ClassId) (dI : Nat → Nat → Nat) (sz : Nat) (ob ad : Nat → Nat) (cA : Nat → ClassId) (hd : dX ob ad) (fv : Nat → Int32) (wd : xT) (ar : Nat → Nat → Int32) (hF_fv : rX fv) (hA_ar : rB ar) (v : Int32) : Met l yX10_has (.code yX10_has cX10_has 2 (some .boolean) :: lw_good) ({ frames := 2, cells := 0, slots := 0, locals := 40 }) (va_Pc [.ref (ob 4), .int v] (prX dC dI ob ad cA fv wd ar sz)) (va_Qi (fun (r : Int32) (u : xS) => rX u.1 ∧ rB u.2.2 ∧ fM [] fv u.1 ∧ fA [] ar u.2.2 ∧ u.2.1.2 = wd.2 ∧ (0 ≤ r.toInt ∧ r.toInt ≤ 1) ∧ ((r = 0 ∧ (v.toInt < 0 ∨ (fv 11).toInt ≤ v.toInt)) ∨ (r = 1 ∧ (0 ≤ v.toInt) ∧ (v.toInt ≤ 19) ∧ (v.toInt < (fv 11).toInt))) ∧ True) (enX dC dI ob ad cA) (aX ob ad sz)) 0 0 (aX ob ad sz) := by
  refine Met.ofW (cc := cX10_has) (maxL := 2) (ret := (some .boolean)) (by decide) rfl ?_
  intro p e s m args below meth c s₁ B hml hv
  obtain ⟨rfl, hsz, hP, hK⟩ := hv
  have hx := B.exec
  have hb := B.bytes
  have hr := B.returns
  have hts := atoms_spec (ws := (.code yX10_has cX10_has 2 (some .boolean) :: lw_good)) B.pre
  have htg : ∀ w ∈ lw_good, w.before _ s = true := fun w hw => hts w (List.mem_cons_of_mem _ hw)
  have hown : s.vm.findClass RX10 = some m.cls := findClass_of_methodNamed B.named
  have hlocks := B.notSynchronized
  subst hsz
  have hS : va_S (aX ob ad s.heap.size) s.heap s.heap [] := va_S.rf
  have hl := lv_entry ([.ref (ob 4), .int v]) (n := 2) (Nat.le_of_ble_eq_true rfl)
  rw [lg_entry_eq]
  generalize (lg_sl ([.ref (ob 4), .int v]) ++ List.replicate (2 - (lg_sl ([.ref (ob 4), .int v])).length) Slot.unset).toArray = ls at hl ⊢
  have hl : lv_has ls 2 [(0, .ref (ob 4)), (1, .int v)] := hl
  refine lv_iload_n hx hb dX10_has_0 rfl (lv_at hl 1 rfl) ?_
  refine lv_if_lt (tgt := 16) hx hb dX10_has_1 (by decide) (fun c_1 => ?_) (fun c_1 => ?_)
  · skip
    have i_2 : (-2147483648) ≤ v.toInt ∧ v.toInt ≤ (-1) := iv_lt1 (iv_any v) (⟨by decide, by decide⟩ : (0 : Int) ≤ (0 : Int32).toInt ∧ (0 : Int32).toInt ≤ 0) c_1
    refine lv_iconst (v := 0) hx hb dX10_has_16 (by decide) ?_
    exact W.zret (v := 0) hx hb hr (by decide) (fun t ht hW => ⟨⟨0, (fv, wd, ar), rfl, ⟨hF_fv, hA_ar, (fM_rf [] _), (fA_rf [] _), rfl, (iv_w (⟨by decide, by decide⟩ : (0 : Int) ≤ (0 : Int32).toInt ∧ (0 : Int32).toInt ≤ 0) (by decide) (by decide)), (Or.inl ⟨rfl, by omega⟩), trivial⟩, ⟨by rw [ht]; exact hP, va_K.moved hW.alike hK⟩⟩, hS.F ht⟩) hS.2.2 dX10_has_17
  · skip
    have i_3 : 0 ≤ v.toInt ∧ v.toInt ≤ 2147483647 := iv_le2 (⟨by decide, by decide⟩ : (0 : Int) ≤ (0 : Int32).toInt ∧ (0 : Int32).toInt ≤ 0) (iv_any v) (Int32.not_lt.mp c_1)
    refine lv_iload_n hx hb dX10_has_4 rfl (lv_at hl 1 rfl) ?_
    refine lv_aload_n hx hb dX10_has_5 rfl (lv_at hl 0 rfl) ?_
    refine gX_X10_36 hx hb htg hown hK hP dX10_has_6 ?_
    have i_4 : 0 ≤ (fv 11).toInt ∧ (fv 11).toInt ≤ 20 := hF_fv 11
    refine lv_icmp_ge (tgt := 16) hx hb dX10_has_9 (by decide) (fun c_5 => ?_) (fun c_5 => ?_)
    · skip
      have k_6 := Int32.le_iff_toInt_le.mp c_5
      refine lv_iconst (v := 0) hx hb dX10_has_16 (by decide) ?_
      exact W.zret (v := 0) hx hb hr (by decide) (fun t ht hW => ⟨⟨0, (fv, wd, ar), rfl, ⟨hF_fv, hA_ar, (fM_rf [] _), (fA_rf [] _), rfl, (iv_w (⟨by decide, by decide⟩ : (0 : Int) ≤ (0 : Int32).toInt ∧ (0 : Int32).toInt ≤ 0) (by decide) (by decide)), (Or.inl ⟨rfl, by omega⟩), trivial⟩, ⟨by rw [ht]; exact hP, va_K.moved hW.alike hK⟩⟩, hS.F ht⟩) hS.2.2 dX10_has_17
    · skip
      have i_7 : 0 ≤ v.toInt ∧ v.toInt ≤ 19 := iv_lt1 i_3 i_4 (Int32.not_le.mp c_5)
      have i_8 : 1 ≤ (fv 11).toInt ∧ (fv 11).toInt ≤ 20 := iv_lt2 i_3 i_4 (Int32.not_le.mp c_5)
      have k_9 := Int32.lt_iff_toInt_lt.mp (Int32.not_le.mp c_5)
      refine lv_iconst (v := 1) hx hb dX10_has_12 (by decide) ?_
      refine lv_goto (tgt := 17) hx hb dX10_has_13 (by decide) ?_
      exact W.zret (v := 1) hx hb hr (by decide) (fun t ht hW => ⟨⟨1, (fv, wd, ar), rfl, ⟨hF_fv, hA_ar, (fM_rf [] _), (fA_rf [] _), rfl, (iv_w (⟨by decide, by decide⟩ : (1 : Int) ≤ (1 : Int32).toInt ∧ (1 : Int32).toInt ≤ 1) (by decide) (by decide)), (Or.inr (⟨rfl, by omega⟩)), trivial⟩, ⟨by rw [ht]; exact hP, va_K.moved hW.alike hK⟩⟩, hS.F ht⟩) hS.2.2 dX10_has_17
set_option maxHeartbeats 4000000 in
set_option maxRecDepth 100000 in
theorem x_isFullE (l : Launch) (dC : Nat → ClassId) (dI : Nat → Nat → Nat) (sz : Nat) (ob ad : Nat → Nat) (cA : Nat → ClassId) (hd : dX ob ad) (fv : Nat → Int32) (wd : xT) (ar : Nat → Nat → Int32) (hF_fv : rX fv) (hA_ar : rB ar) : Met l yX8_isFull (.code yX8_isFull cX8_isFull 1 (some .boolean) :: lw_good) ({ frames := 2, cells := 0, slots := 0, locals := 40 }) (va_Pc [.ref (ob 5)] (prX dC dI ob ad cA fv wd ar sz)) (va_Qi (fun (r : Int32) (u : xS) => rX u.1 ∧ rB u.2.2 ∧ fM [] fv u.1 ∧ fA [] ar u.2.2 ∧ u.2.1.2 = wd.2 ∧ (0 ≤ r.toInt ∧ r.toInt ≤ 1) ∧ ((r = 0 ∧ ((fv 12).toInt ≤ 79)) ∨ (r = 1 ∧ (80 ≤ (fv 12).toInt))) ∧ True) (enX dC dI ob ad cA) (aX ob ad sz)) 0 0 (aX ob ad sz) := by
  refine Met.ofW (cc := cX8_isFull) (maxL := 1) (ret := (some .boolean)) (by decide) rfl ?_
  intro p e s m args below meth c s₁ B hml hv
  obtain ⟨rfl, hsz, hP, hK⟩ := hv
  have hx := B.exec
  have hb := B.bytes
  have hr := B.returns
  have hts := atoms_spec (ws := (.code yX8_isFull cX8_isFull 1 (some .boolean) :: lw_good)) B.pre
  have htg : ∀ w ∈ lw_good, w.before _ s = true := fun w hw => hts w (List.mem_cons_of_mem _ hw)
  have hown : s.vm.findClass RX8 = some m.cls := findClass_of_methodNamed B.named
  have hlocks := B.notSynchronized
  subst hsz
  have hS : va_S (aX ob ad s.heap.size) s.heap s.heap [] := va_S.rf
  have hl := lv_entry ([.ref (ob 5)]) (n := 1) (Nat.le_of_ble_eq_true rfl)
  rw [lg_entry_eq]
  generalize (lg_sl ([.ref (ob 5)]) ++ List.replicate (1 - (lg_sl ([.ref (ob 5)])).length) Slot.unset).toArray = ls at hl ⊢
  have hl : lv_has ls 1 [(0, .ref (ob 5))] := hl
  refine lv_aload_n hx hb dX8_isFull_0 rfl (lv_at hl 0 rfl) ?_
  refine gX_X8_36 hx hb htg hown hK hP dX8_isFull_1 ?_
  have i_1 : 0 ≤ (fv 12).toInt ∧ (fv 12).toInt ≤ 80 := hF_fv 12
  refine lv_bipush (v := 80) hx hb dX8_isFull_4 (by decide) ?_
  refine lv_icmp_lt (tgt := 13) hx hb dX8_isFull_6 (by decide) (fun c_2 => ?_) (fun c_2 => ?_)
  · skip
    have i_3 : 0 ≤ (fv 12).toInt ∧ (fv 12).toInt ≤ 79 := iv_lt1 i_1 (⟨by decide, by decide⟩ : (80 : Int) ≤ (80 : Int32).toInt ∧ (80 : Int32).toInt ≤ 80) c_2
    refine lv_iconst (v := 0) hx hb dX8_isFull_13 (by decide) ?_
    exact W.zret (v := 0) hx hb hr (by decide) (fun t ht hW => ⟨⟨0, (fv, wd, ar), rfl, ⟨hF_fv, hA_ar, (fM_rf [] _), (fA_rf [] _), rfl, (iv_w (⟨by decide, by decide⟩ : (0 : Int) ≤ (0 : Int32).toInt ∧ (0 : Int32).toInt ≤ 0) (by decide) (by decide)), (Or.inl ⟨rfl, by omega⟩), trivial⟩, ⟨by rw [ht]; exact hP, va_K.moved hW.alike hK⟩⟩, hS.F ht⟩) hS.2.2 dX8_isFull_14
  · skip
    have i_4 : 80 ≤ (fv 12).toInt ∧ (fv 12).toInt ≤ 80 := iv_le2 (⟨by decide, by decide⟩ : (80 : Int) ≤ (80 : Int32).toInt ∧ (80 : Int32).toInt ≤ 80) i_1 (Int32.not_lt.mp c_2)
    refine lv_iconst (v := 1) hx hb dX8_isFull_9 (by decide) ?_
    refine lv_goto (tgt := 14) hx hb dX8_isFull_10 (by decide) ?_
    exact W.zret (v := 1) hx hb hr (by decide) (fun t ht hW => ⟨⟨1, (fv, wd, ar), rfl, ⟨hF_fv, hA_ar, (fM_rf [] _), (fA_rf [] _), rfl, (iv_w (⟨by decide, by decide⟩ : (1 : Int) ≤ (1 : Int32).toInt ∧ (1 : Int32).toInt ≤ 1) (by decide) (by decide)), (Or.inr (⟨rfl, by omega⟩)), trivial⟩, ⟨by rw [ht]; exact hP, va_K.moved hW.alike hK⟩⟩, hS.F ht⟩) hS.2.2 dX8_isFull_14
set_option maxHeartbeats 4000000 in
set_option maxRecDepth 100000 in
theorem x_layE (l : Launch) (dC : Nat → ClassId) (dI : Nat → Nat → Nat) (sz : Nat) (ob ad : Nat → Nat) (cA : Nat → ClassId) (hd : dX ob ad) (fv : Nat → Int32) (wd : xT) (ar : Nat → Nat → Int32) (hF_fv : rX fv) (hA_ar : rB ar) (a : Int32) (b : Int32) (v : Int32) : Met l yX4_lay (.code yX4_lay cX4_lay 9 (some .boolean) :: lw_good) ({ frames := 3, cells := 0, slots := 0, locals := 62 }) (va_Pc [.ref (ob 2), .int a, .int b, .int v] (prX dC dI ob ad cA fv wd ar sz)) (va_Qi (fun (r : Int32) (u : xS) => rX u.1 ∧ rB u.2.2 ∧ fM [9] fv u.1 ∧ fA [5] ar u.2.2 ∧ u.2.1.2 = wd.2 ∧ (0 ≤ r.toInt ∧ r.toInt ≤ 1) ∧ (ps_street r (u.1 9) (fv 9) a b v) ∧ True) (enX dC dI ob ad cA) (aX ob ad sz)) 0 0 (aX ob ad sz) := by
  refine Met.ofW (cc := cX4_lay) (maxL := 9) (ret := (some .boolean)) (by decide) rfl ?_
  intro p e s m args below meth c s₁ B hml hv
  obtain ⟨rfl, hsz, hP, hK⟩ := hv
  have hx := B.exec
  have hb := B.bytes
  have hr := B.returns
  have hts := atoms_spec (ws := (.code yX4_lay cX4_lay 9 (some .boolean) :: lw_good)) B.pre
  have htg : ∀ w ∈ lw_good, w.before _ s = true := fun w hw => hts w (List.mem_cons_of_mem _ hw)
  have hown : s.vm.findClass RX4 = some m.cls := findClass_of_methodNamed B.named
  have hlocks := B.notSynchronized
  subst hsz
  have hS : va_S (aX ob ad s.heap.size) s.heap s.heap [] := va_S.rf
  have hl := lv_entry ([.ref (ob 2), .int a, .int b, .int v]) (n := 9) (Nat.le_of_ble_eq_true rfl)
  rw [lg_entry_eq]
  generalize (lg_sl ([.ref (ob 2), .int a, .int b, .int v]) ++ List.replicate (9 - (lg_sl ([.ref (ob 2), .int a, .int b, .int v])).length) Slot.unset).toArray = ls at hl ⊢
  have hl : lv_has ls 9 [(0, .ref (ob 2)), (1, .int a), (2, .int b), (3, .int v)] := hl
  refine lv_aload_n hx hb dX4_lay_0 rfl (lv_at hl 0 rfl) ?_
  refine gX_X4_16 hx hb htg hown hK hP dX4_lay_1 ?_
  have i_1 : 0 ≤ (fv 9).toInt ∧ (fv 9).toInt ≤ 30 := hF_fv 9
  refine lv_bipush (v := 30) hx hb dX4_lay_4 (by decide) ?_
  refine lv_icmp_ge (tgt := 28) hx hb dX4_lay_6 (by decide) (fun c_2 => ?_) (fun c_2 => ?_)
  · skip
    have i_3 : 30 ≤ (fv 9).toInt ∧ (fv 9).toInt ≤ 30 := iv_le2 (⟨by decide, by decide⟩ : (30 : Int) ≤ (30 : Int32).toInt ∧ (30 : Int32).toInt ≤ 30) i_1 c_2
    refine lv_iconst (v := 0) hx hb dX4_lay_28 (by decide) ?_
    have z_4 : (0 : Int32).toInt = 0 := by decide
    exact W.zret (v := 0) hx hb hr (by decide) (fun t ht hW => ⟨⟨0, (fv, wd, ar), rfl, ⟨hF_fv, hA_ar, (fM_rf [9] _), (fA_rf [5] _), rfl, (iv_w (⟨by decide, by decide⟩ : (0 : Int) ≤ (0 : Int32).toInt ∧ (0 : Int32).toInt ≤ 0) (by decide) (by decide)), (show ps_street (0 : Int32) (fv 9) (fv 9) a b v from Or.inl ⟨rfl, rfl, by omega⟩), trivial⟩, ⟨by rw [ht]; exact hP, va_K.moved hW.alike hK⟩⟩, hS.F ht⟩) hS.2.2 dX4_lay_29
  · skip
    have i_5 : 0 ≤ (fv 9).toInt ∧ (fv 9).toInt ≤ 29 := iv_lt1 i_1 (⟨by decide, by decide⟩ : (30 : Int) ≤ (30 : Int32).toInt ∧ (30 : Int32).toInt ≤ 30) (Int32.not_le.mp c_2)
    refine lv_iload_n hx hb dX4_lay_9 rfl (lv_at hl 1 rfl) ?_
    refine va_calli (va_runS (As := [.int a]) (rest := []) ⟨hx, hb, hml, hown, hts⟩ (x_isCorner l s.heap.size a) (va_cwS 1 hts (gS kw_3_143 kw_3_144 kw_1_3 kw_3_145) rfl rfl rfl (by decide +kernel) ⟨Nat.le_of_ble_eq_true rfl, Nat.le_of_ble_eq_true rfl⟩) ⟨fun a U g mk q => ⟨q.1, q.2⟩, fun U hU hW => ⟨rfl, congrArg Array.size hU⟩⟩ rfl rfl hl.1 rfl (lv_room (Nat.le_of_ble_eq_true rfl)) dX4_lay_10 ⟨Nat.le_of_ble_eq_true rfl, Nat.le_of_ble_eq_true rfl⟩) hS (fun q _ h9 => nX_up hS q h9) (nX_up hS) (fun r_6 u t H1 locs ht _ hw hB _ hk1 hS => ?_)
    obtain ⟨p_7, p_8, -⟩ := hw
    have hP := my_keepM hP hk1
    generalize H1 = H at hP hS ⊢
    rcases p_8 with ⟨rfl, p_8⟩ | ⟨rfl, p_8⟩
    · skip
      refine lv_if_eq (tgt := 28) hx hb dX4_lay_13 (by decide) (fun c_9 => ?_) (fun c_9 => ?_)
      · skip
        refine lv_iconst (v := 0) hx hb dX4_lay_28 (by decide) ?_
        have z_10 : (0 : Int32).toInt = 0 := by decide
        exact W.zret (v := 0) hx hb hr (by decide) (fun t ht hW => ⟨⟨0, (fv, wd, ar), rfl, ⟨hF_fv, hA_ar, (fM_rf [9] _), (fA_rf [5] _), rfl, (iv_w (⟨by decide, by decide⟩ : (0 : Int) ≤ (0 : Int32).toInt ∧ (0 : Int32).toInt ≤ 0) (by decide) (by decide)), (show ps_street (0 : Int32) (fv 9) (fv 9) a b v from Or.inl ⟨rfl, rfl, by omega⟩), trivial⟩, ⟨by rw [ht]; exact hP, va_K.moved hW.alike hK⟩⟩, hS.F ht⟩) hS.2.2 dX4_lay_29
      · skip
        exact absurd c_9 (by decide)
    · skip
      have i_11 : 0 ≤ a.toInt ∧ a.toInt ≤ 2147483647 := ⟨p_8.1, (iv_any a).2⟩
      have i_12 : 0 ≤ a.toInt ∧ a.toInt ≤ 11 := ⟨i_11.1, p_8.2⟩
      refine lv_if_eq (tgt := 28) hx hb dX4_lay_13 (by decide) (fun c_13 => ?_) (fun c_13 => ?_)
      · skip
        exact absurd c_13 (by decide)
      · skip
        refine lv_iload_n hx hb dX4_lay_16 rfl (lv_at hl 2 rfl) ?_
        refine va_calli (va_runS (As := [.int b]) (rest := []) ⟨hx, hb, hml, hown, hts⟩ (x_isCorner l H.size b) (va_cwS 1 hts (gS kw_3_143 kw_3_144 kw_1_3 kw_3_145) rfl rfl rfl (by decide +kernel) ⟨Nat.le_of_ble_eq_true rfl, Nat.le_of_ble_eq_true rfl⟩) ⟨fun a U g mk q => ⟨q.1, q.2⟩, fun U hU hW => ⟨rfl, congrArg Array.size hU⟩⟩ rfl rfl hl.1 rfl (lv_room (Nat.le_of_ble_eq_true rfl)) dX4_lay_17 ⟨Nat.le_of_ble_eq_true rfl, Nat.le_of_ble_eq_true rfl⟩) hS (fun q _ h9 => nX_up hS q h9) (nX_up hS) (fun r_14 u t H1 locs ht _ hw hB _ hk1 hS => ?_)
        obtain ⟨p_15, p_16, -⟩ := hw
        have hP := my_keepM hP hk1
        generalize H1 = H at hP hS ⊢
        rcases p_16 with ⟨rfl, p_16⟩ | ⟨rfl, p_16⟩
        · skip
          refine lv_if_eq (tgt := 28) hx hb dX4_lay_20 (by decide) (fun c_17 => ?_) (fun c_17 => ?_)
          · skip
            refine lv_iconst (v := 0) hx hb dX4_lay_28 (by decide) ?_
            have z_18 : (0 : Int32).toInt = 0 := by decide
            exact W.zret (v := 0) hx hb hr (by decide) (fun t ht hW => ⟨⟨0, (fv, wd, ar), rfl, ⟨hF_fv, hA_ar, (fM_rf [9] _), (fA_rf [5] _), rfl, (iv_w (⟨by decide, by decide⟩ : (0 : Int) ≤ (0 : Int32).toInt ∧ (0 : Int32).toInt ≤ 0) (by decide) (by decide)), (show ps_street (0 : Int32) (fv 9) (fv 9) a b v from Or.inl ⟨rfl, rfl, by omega⟩), trivial⟩, ⟨by rw [ht]; exact hP, va_K.moved hW.alike hK⟩⟩, hS.F ht⟩) hS.2.2 dX4_lay_29
          · skip
            exact absurd c_17 (by decide)
        · skip
          have i_19 : 0 ≤ b.toInt ∧ b.toInt ≤ 2147483647 := ⟨p_16.1, (iv_any b).2⟩
          have i_20 : 0 ≤ b.toInt ∧ b.toInt ≤ 11 := ⟨i_19.1, p_16.2⟩
          refine lv_if_eq (tgt := 28) hx hb dX4_lay_20 (by decide) (fun c_21 => ?_) (fun c_21 => ?_)
          · skip
            exact absurd c_21 (by decide)
          · skip
            refine lv_iload_n hx hb dX4_lay_23 rfl (lv_at hl 1 rfl) ?_
            refine lv_iload_n hx hb dX4_lay_24 rfl (lv_at hl 2 rfl) ?_
            refine lv_icmp_ne (tgt := 30) hx hb dX4_lay_25 (by decide) (fun c_22 => ?_) (fun c_22 => ?_)
            · skip
              have k_23 : ¬ a.toInt = b.toInt := fun q => c_22 (Int32.toInt_inj.mp q)
              refine lv_iload_n hx hb dX4_lay_30 rfl (lv_at hl 3 rfl) ?_
              refine lv_iconst (v := 1) hx hb dX4_lay_31 (by decide) ?_
              refine lv_icmp_lt (tgt := 41) hx hb dX4_lay_32 (by decide) (fun c_24 => ?_) (fun c_24 => ?_)
              · skip
                have i_25 : (-2147483648) ≤ v.toInt ∧ v.toInt ≤ 0 := iv_lt1 (iv_any v) (⟨by decide, by decide⟩ : (1 : Int) ≤ (1 : Int32).toInt ∧ (1 : Int32).toInt ≤ 1) c_24
                refine lv_iconst (v := 0) hx hb dX4_lay_41 (by decide) ?_
                have z_26 : (0 : Int32).toInt = 0 := by decide
                exact W.zret (v := 0) hx hb hr (by decide) (fun t ht hW => ⟨⟨0, (fv, wd, ar), rfl, ⟨hF_fv, hA_ar, (fM_rf [9] _), (fA_rf [5] _), rfl, (iv_w (⟨by decide, by decide⟩ : (0 : Int) ≤ (0 : Int32).toInt ∧ (0 : Int32).toInt ≤ 0) (by decide) (by decide)), (show ps_street (0 : Int32) (fv 9) (fv 9) a b v from Or.inl ⟨rfl, rfl, by omega⟩), trivial⟩, ⟨by rw [ht]; exact hP, va_K.moved hW.alike hK⟩⟩, hS.F ht⟩) hS.2.2 dX4_lay_42
              · skip
                have i_27 : 1 ≤ v.toInt ∧ v.toInt ≤ 2147483647 := iv_le2 (⟨by decide, by decide⟩ : (1 : Int) ≤ (1 : Int32).toInt ∧ (1 : Int32).toInt ≤ 1) (iv_any v) (Int32.not_lt.mp c_24)
                refine lv_iload_n hx hb dX4_lay_35 rfl (lv_at hl 3 rfl) ?_
                refine lv_bipush (v := 99) hx hb dX4_lay_36 (by decide) ?_
                refine lv_icmp_le (tgt := 43) hx hb dX4_lay_38 (by decide) (fun c_28 => ?_) (fun c_28 => ?_)
                · skip
                  have i_29 : 1 ≤ v.toInt ∧ v.toInt ≤ 99 := iv_le1 i_27 (⟨by decide, by decide⟩ : (99 : Int) ≤ (99 : Int32).toInt ∧ (99 : Int32).toInt ≤ 99) c_28
                  refine lv_aload_n hx hb dX4_lay_43 rfl (lv_at hl 0 rfl) ?_
                  refine lv_dup hx hb dX4_lay_44 rfl ?_
                  refine gX_X4_16 hx hb htg hown hK hP dX4_lay_45 ?_
                  refine lv_iconst (v := 1) hx hb dX4_lay_48 (by decide) ?_
                  refine lv_iadd hx hb dX4_lay_49 ?_
                  refine lv_topi (fun v_30 ev_30 => ?_)
                  have t_31 : v_30.toInt = (fv 9).toInt + 1 ∧ 1 ≤ v_30.toInt ∧ v_30.toInt ≤ 30 := iv_addc ev_30 i_5 (by decide) (by decide) (by decide)
                  refine pX_X4_16 hx hb htg hown hK hP hS hd dX4_lay_50 (fun H locs fv_33 efv_33 hP hS => ?_)
                  have hF_fv_33 : rX fv_33 := rX_put hF_fv efv_33 (iv_w t_31.2 (by decide) (by decide))
                  refine lv_iconst (v := 0) hx hb dX4_lay_53 (by decide) ?_
                  refine lv_istore (lv' := [(4, .int 0), (0, .ref (ob 2)), (1, .int a), (2, .int b), (3, .int v)]) hx hb dX4_lay_54 hl (by decide) rfl (fun ls hl => ?_)
                  refine my_cut (P := fun R9 a9 Q9 => ∀ (n_41 : Nat) (x_34 : Int32) (fv_35 : Nat → Int32) (ar_37 : Nat → Nat → Int32) (wd_39 : xT) (H : Heap) (locs : List Loc) (ls : Array Slot), 144 - x_34.toInt < (n_41 : Int) → (0 ≤ x_34.toInt ∧ x_34.toInt ≤ 144) → rX fv_35 → fM [] fv_33 fv_35 → rB ar_37 → fA [5] ar ar_37 → wd_39.2 = wd.2 → va_P (dC, dI) vwCl (wsX ob ad cA fv_35 wd_39 ar_37) H → va_S (aX ob ad s.heap.size) s.heap H locs → lv_has ls 9 [(0, .ref (ob 2)), (1, .int a), (2, .int b), (3, .int v), (4, .int x_34)] → W p l e R9 s m a9 below meth c H locs 0 0 Q9 (F0 m 56 ls [])) ?_ (fun hj_43 => ?_)
                  · intro n_41
                    induction n_41 with
                    | zero => intro x_34 fv_35 ar_37 wd_39 H locs ls fu_42 i_x_34 hF_fv_35 fr_36 hA_ar_37 fa_38 wf_40; exfalso; omega
                    | succ n_41 ih_41 =>
                      intro x_34 fv_35 ar_37 wd_39 H locs ls fu_42 i_x_34 hF_fv_35 fr_36 hA_ar_37 fa_38 wf_40 hP hS hl
                      refine lv_iload hx hb dX4_lay_56 (lv_at hl 4 rfl) ?_
                      refine lv_aload_n hx hb dX4_lay_58 rfl (lv_at hl 0 rfl) ?_
                      refine gX_X4_9 hx hb htg hown hK hP dX4_lay_59 ?_
                      refine nX_5 hx hb hK hP dX4_lay_62 ?_
                      refine lv_icmp_ge (tgt := 148) hx hb dX4_lay_63 (by decide) (fun c_44 => ?_) (fun c_44 => ?_)
                      · skip
                        have i_45 : 144 ≤ x_34.toInt ∧ x_34.toInt ≤ 144 := iv_le2 (⟨by decide, by decide⟩ : (144 : Int) ≤ (144 : Int32).toInt ∧ (144 : Int32).toInt ≤ 144) i_x_34 c_44
                        refine lv_iconst (v := 1) hx hb dX4_lay_148 (by decide) ?_
                        have z_46 : (1 : Int32).toInt = 1 := by decide
                        exact W.zret (v := 1) hx hb hr (by decide) (fun t ht hW => ⟨⟨1, (fv_35, wd_39, ar_37), rfl, ⟨hF_fv_35, hA_ar_37, (fM_call (fM_put (fM_rf [9] _) efv_33 (by decide)) fr_36 (by decide)), (fA_call (fA_rf [5] _) fa_38 (by decide)), wf_40, (iv_w (⟨by decide, by decide⟩ : (1 : Int) ≤ (1 : Int32).toInt ∧ (1 : Int32).toInt ≤ 1) (by decide) (by decide)), (show ps_street (1 : Int32) (fv_35 9) (fv 9) a b v from Or.inr ⟨rfl, by rw [show fv_35 9 = v_30 from (fr_36 9 rfl).trans ((congrFun efv_33 9))]; omega, by omega⟩), trivial⟩, ⟨by rw [ht]; exact hP, va_K.moved hW.alike hK⟩⟩, hS.F ht⟩) hS.2.2 dX4_lay_149
                      · skip
                        have i_47 : 0 ≤ x_34.toInt ∧ x_34.toInt ≤ 143 := iv_lt1 i_x_34 (⟨by decide, by decide⟩ : (144 : Int) ≤ (144 : Int32).toInt ∧ (144 : Int32).toInt ≤ 144) (Int32.not_le.mp c_44)
                        refine lv_iload hx hb dX4_lay_66 (lv_at hl 4 rfl) ?_
                        refine lv_bipush (v := 12) hx hb dX4_lay_68 (by decide) ?_
                        refine lv_idiv hx hb dX4_lay_70 (by decide) ?_
                        refine lv_topi (fun v_48 ev_48 => ?_)
                        refine lv_istore (lv' := [(5, .int v_48), (0, .ref (ob 2)), (1, .int a), (2, .int b), (3, .int v), (4, .int x_34)]) hx hb dX4_lay_71 hl (by decide) rfl (fun ls hl => ?_)
                        refine lv_iload hx hb dX4_lay_73 (lv_at hl 5 rfl) ?_
                        refine lv_bipush (v := 12) hx hb dX4_lay_75 (by decide) ?_
                        refine lv_irem hx hb dX4_lay_77 (by decide) ?_
                        refine lv_topi (fun v_49 ev_49 => ?_)
                        refine lv_istore (lv' := [(6, .int v_49), (5, .int v_48), (0, .ref (ob 2)), (1, .int a), (2, .int b), (3, .int v), (4, .int x_34)]) hx hb dX4_lay_78 hl (by decide) rfl (fun ls hl => ?_)
                        refine lv_aload_n hx hb dX4_lay_80 rfl (lv_at hl 2 rfl) ?_
                        refine lv_iload hx hb dX4_lay_81 (lv_at hl 1 rfl) ?_
                        refine lv_iload_n hx hb dX4_lay_83 rfl (lv_at hl 3 rfl) ?_
                        refine va_calli (va_runV (As := [.int v_48, .int a]) (rest := []) ⟨hx, hb, hml, hown, hts⟩ (x_between l dC dI H.size ob ad cA hd fv_35 wd_39 ar_37 hF_fv_35 hA_ar_37 v_48 a) (cwV 2 hts (gV kw_3_146 kw_3_147 kw_3_148 kw_1_3 kw_3_149) rfl rfl rfl (by decide +kernel) ⟨Nat.le_of_ble_eq_true rfl, Nat.le_of_ble_eq_true rfl⟩) ⟨fun a U g mk q => ⟨q.1, q.2.1, q.2.2.1, va_K.moved (u := U) (U := U.calling g mk a) (Vm.Alike.refl U.vm) q.2.2.2⟩, va_recv hK hP (ci := 5) (q0 := 2) rfl rfl, fun U hU hW => ⟨rfl, by rw [hU], by rw [hU]; exact hP, va_K.moved hW.alike hK⟩⟩ rfl rfl hl.1 rfl (lv_room (Nat.le_of_ble_eq_true rfl)) dX4_lay_84 ⟨Nat.le_of_ble_eq_true rfl, Nat.le_of_ble_eq_true rfl⟩) hS (fun q _ h9 => aX_up hS q h9) (aX_up hS) (fun r_50 u t H1 locs ht _ hw hB _ hk1 hS => ?_)
                        obtain ⟨fv_51, wd_52, ar_53⟩ := u
                        obtain ⟨hF_fv_51, hA_ar_53, fr_54, fa_55, wf_56, -⟩ := hw
                        have wf_56 : wd_52.2 = wd_39.2 := wf_56
                        have hP : va_P (dC, dI) vwCl (wsX ob ad cA fv_51 wd_52 ar_53) H1 := by have h9 := hB.1; rw [ht] at h9; exact h9
                        have fr_54 : fM [] fv_35 fv_51 := fr_54
                        have fa_55 : fA [] ar_37 ar_53 := fa_55
                        generalize H1 = H at hP hS ⊢
                        refine lv_iload_n hx hb dX4_lay_87 rfl (lv_at hl 5 rfl) ?_
                        refine lv_iadd hx hb dX4_lay_88 ?_
                        refine lv_topi (fun v_57 ev_57 => ?_)
                        refine lv_aload_n hx hb dX4_lay_89 rfl (lv_at hl 2 rfl) ?_
                        refine lv_iload_n hx hb dX4_lay_90 rfl (lv_at hl 4 rfl) ?_
                        refine lv_iload hx hb dX4_lay_91 (lv_at hl 0 rfl) ?_
                        refine va_calli (va_runV (As := [.int b, .int v_49]) (rest := [.int v_57]) ⟨hx, hb, hml, hown, hts⟩ (x_between l dC dI H.size ob ad cA hd fv_51 wd_52 ar_53 hF_fv_51 hA_ar_53 b v_49) (cwV 2 hts (gV kw_3_146 kw_3_147 kw_3_148 kw_1_3 kw_3_149) rfl rfl rfl (by decide +kernel) ⟨Nat.le_of_ble_eq_true rfl, Nat.le_of_ble_eq_true rfl⟩) ⟨fun a U g mk q => ⟨q.1, q.2.1, q.2.2.1, va_K.moved (u := U) (U := U.calling g mk a) (Vm.Alike.refl U.vm) q.2.2.2⟩, va_recv hK hP (ci := 5) (q0 := 2) rfl rfl, fun U hU hW => ⟨rfl, by rw [hU], by rw [hU]; exact hP, va_K.moved hW.alike hK⟩⟩ rfl rfl hl.1 rfl (lv_room (Nat.le_of_ble_eq_true rfl)) dX4_lay_93 ⟨Nat.le_of_ble_eq_true rfl, Nat.le_of_ble_eq_true rfl⟩) hS (fun q _ h9 => aX_up hS q h9) (aX_up hS) (fun r_58 u t H1 locs ht _ hw hB _ hk1 hS => ?_)
                        obtain ⟨fv_59, wd_60, ar_61⟩ := u
                        obtain ⟨hF_fv_59, hA_ar_61, fr_62, fa_63, wf_64, -⟩ := hw
                        have wf_64 : wd_60.2 = wd_52.2 := wf_64
                        have hP : va_P (dC, dI) vwCl (wsX ob ad cA fv_59 wd_60 ar_61) H1 := by have h9 := hB.1; rw [ht] at h9; exact h9
                        have fr_62 : fM [] fv_51 fv_59 := fr_62
                        have fa_63 : fA [] ar_53 ar_61 := fa_63
                        generalize H1 = H at hP hS ⊢
                        refine lv_iadd hx hb dX4_lay_96 ?_
                        refine lv_topi (fun v_65 ev_65 => ?_)
                        refine lv_istore (lv' := [(7, .int v_65), (6, .int v_49), (5, .int v_48), (0, .ref (ob 2)), (1, .int a), (2, .int b), (3, .int v), (4, .int x_34)]) hx hb dX4_lay_97 hl (by decide) rfl (fun ls hl => ?_)
                        refine lv_aload_n hx hb dX4_lay_99 rfl (lv_at hl 3 rfl) ?_
                        refine lv_iload hx hb dX4_lay_100 (lv_at hl 2 rfl) ?_
                        refine lv_iload_n hx hb dX4_lay_102 rfl (lv_at hl 5 rfl) ?_
                        refine va_calli (va_runV (As := [.int v_48, .int b]) (rest := []) ⟨hx, hb, hml, hown, hts⟩ (x_between l dC dI H.size ob ad cA hd fv_59 wd_60 ar_61 hF_fv_59 hA_ar_61 v_48 b) (cwV 2 hts (gV kw_3_146 kw_3_147 kw_3_148 kw_1_3 kw_3_149) rfl rfl rfl (by decide +kernel) ⟨Nat.le_of_ble_eq_true rfl, Nat.le_of_ble_eq_true rfl⟩) ⟨fun a U g mk q => ⟨q.1, q.2.1, q.2.2.1, va_K.moved (u := U) (U := U.calling g mk a) (Vm.Alike.refl U.vm) q.2.2.2⟩, va_recv hK hP (ci := 5) (q0 := 2) rfl rfl, fun U hU hW => ⟨rfl, by rw [hU], by rw [hU]; exact hP, va_K.moved hW.alike hK⟩⟩ rfl rfl hl.1 rfl (lv_room (Nat.le_of_ble_eq_true rfl)) dX4_lay_103 ⟨Nat.le_of_ble_eq_true rfl, Nat.le_of_ble_eq_true rfl⟩) hS (fun q _ h9 => aX_up hS q h9) (aX_up hS) (fun r_66 u t H1 locs ht _ hw hB _ hk1 hS => ?_)
                        obtain ⟨fv_67, wd_68, ar_69⟩ := u
                        obtain ⟨hF_fv_67, hA_ar_69, fr_70, fa_71, wf_72, -⟩ := hw
                        have wf_72 : wd_68.2 = wd_60.2 := wf_72
                        have hP : va_P (dC, dI) vwCl (wsX ob ad cA fv_67 wd_68 ar_69) H1 := by have h9 := hB.1; rw [ht] at h9; exact h9
                        have fr_70 : fM [] fv_59 fv_67 := fr_70
                        have fa_71 : fA [] ar_61 ar_69 := fa_71
                        generalize H1 = H at hP hS ⊢
                        refine lv_iload_n hx hb dX4_lay_106 rfl (lv_at hl 6 rfl) ?_
                        refine lv_iadd hx hb dX4_lay_107 ?_
                        refine lv_topi (fun v_73 ev_73 => ?_)
                        refine lv_aload_n hx hb dX4_lay_108 rfl (lv_at hl 3 rfl) ?_
                        refine lv_iload_n hx hb dX4_lay_109 rfl (lv_at hl 4 rfl) ?_
                        refine lv_iload hx hb dX4_lay_110 (lv_at hl 1 rfl) ?_
                        refine va_calli (va_runV (As := [.int a, .int v_49]) (rest := [.int v_73]) ⟨hx, hb, hml, hown, hts⟩ (x_between l dC dI H.size ob ad cA hd fv_67 wd_68 ar_69 hF_fv_67 hA_ar_69 a v_49) (cwV 2 hts (gV kw_3_146 kw_3_147 kw_3_148 kw_1_3 kw_3_149) rfl rfl rfl (by decide +kernel) ⟨Nat.le_of_ble_eq_true rfl, Nat.le_of_ble_eq_true rfl⟩) ⟨fun a U g mk q => ⟨q.1, q.2.1, q.2.2.1, va_K.moved (u := U) (U := U.calling g mk a) (Vm.Alike.refl U.vm) q.2.2.2⟩, va_recv hK hP (ci := 5) (q0 := 2) rfl rfl, fun U hU hW => ⟨rfl, by rw [hU], by rw [hU]; exact hP, va_K.moved hW.alike hK⟩⟩ rfl rfl hl.1 rfl (lv_room (Nat.le_of_ble_eq_true rfl)) dX4_lay_112 ⟨Nat.le_of_ble_eq_true rfl, Nat.le_of_ble_eq_true rfl⟩) hS (fun q _ h9 => aX_up hS q h9) (aX_up hS) (fun r_74 u t H1 locs ht _ hw hB _ hk1 hS => ?_)
                        obtain ⟨fv_75, wd_76, ar_77⟩ := u
                        obtain ⟨hF_fv_75, hA_ar_77, fr_78, fa_79, wf_80, -⟩ := hw
                        have wf_80 : wd_76.2 = wd_68.2 := wf_80
                        have hP : va_P (dC, dI) vwCl (wsX ob ad cA fv_75 wd_76 ar_77) H1 := by have h9 := hB.1; rw [ht] at h9; exact h9
                        have fr_78 : fM [] fv_67 fv_75 := fr_78
                        have fa_79 : fA [] ar_69 ar_77 := fa_79
                        generalize H1 = H at hP hS ⊢
                        refine lv_iadd hx hb dX4_lay_115 ?_
                        refine lv_topi (fun v_81 ev_81 => ?_)
                        refine lv_istore (lv' := [(8, .int v_81), (7, .int v_65), (6, .int v_49), (5, .int v_48), (0, .ref (ob 2)), (1, .int a), (2, .int b), (3, .int v), (4, .int x_34)]) hx hb dX4_lay_116 hl (by decide) rfl (fun ls hl => ?_)
                        refine lv_aload_n hx hb dX4_lay_118 rfl (lv_at hl 4 rfl) ?_
                        refine gX_X4_9 hx hb htg hown hK hP dX4_lay_119 ?_
                        refine lv_iload hx hb dX4_lay_122 (lv_at hl 8 rfl) ?_
                        refine lv_aload_n hx hb dX4_lay_124 rfl (lv_at hl 4 rfl) ?_
                        refine gX_X4_9 hx hb htg hown hK hP dX4_lay_125 ?_
                        refine lv_iload hx hb dX4_lay_128 (lv_at hl 8 rfl) ?_
                        refine lX_5 hx hb hK hP (iv_in i_47 (by decide) (by decide)) dX4_lay_130 (fun v_82 ev_82 => ?_)
                        refine lv_iload hx hb dX4_lay_131 (lv_at hl 1 rfl) ?_
                        refine lv_iload hx hb dX4_lay_133 (lv_at hl 0 rfl) ?_
                        refine va_mmin hx hb (hml.trans hl.1.symm) hown (htg (.methodLink RX4 28 Lib.Math.min.name) kw_3_150) (htg (.static Lib.Math.min.name) kw_3_151) (htg (.initialized RJ9) kw_1_16) (htg (.code Lib.Math.min.name Lib.Math.min.code 2 (some .int)) kw_3_152) (Nat.le_of_ble_eq_true rfl) (Nat.le_of_ble_eq_true rfl) (Nat.le_of_ble_eq_true rfl) (Nat.le_of_ble_eq_true rfl) dX4_lay_135 ?_
                        refine lv_topi (fun v_83 ev_83 => ?_)
                        refine va_mmin hx hb (hml.trans hl.1.symm) hown (htg (.methodLink RX4 28 Lib.Math.min.name) kw_3_150) (htg (.static Lib.Math.min.name) kw_3_151) (htg (.initialized RJ9) kw_1_16) (htg (.code Lib.Math.min.name Lib.Math.min.code 2 (some .int)) kw_3_152) (Nat.le_of_ble_eq_true rfl) (Nat.le_of_ble_eq_true rfl) (Nat.le_of_ble_eq_true rfl) (Nat.le_of_ble_eq_true rfl) dX4_lay_138 ?_
                        refine lv_topi (fun v_84 ev_84 => ?_)
                        refine sX_5 hx hb hK hP hS hd (iv_in i_47 (by decide) (by decide)) dX4_lay_141 (fun H locs ar_85 ear_85 hP hS => ?_)
                        have hA_ar_85 : rB ar_85 := rB_put hA_ar_77 ear_85 (iv_any _)
                        obtain ⟨v_86, ev_86⟩ : ∃ z : Int32, z = x_34 + 1 := ⟨_, rfl⟩
                        refine lv_iinc (v := v_86) (lv' := [(4, .int v_86), (8, .int v_81), (7, .int v_65), (6, .int v_49), (5, .int v_48), (0, .ref (ob 2)), (1, .int a), (2, .int b), (3, .int v)]) hx hb dX4_lay_142 hl (k := 8) rfl (by rw [ev_86]; rfl) (by decide) rfl (fun ls hl => ?_)
                        have t_87 : v_86.toInt = x_34.toInt + 1 ∧ 1 ≤ v_86.toInt ∧ v_86.toInt ≤ 144 := iv_addc ev_86 i_47 (by decide) (by decide) (by decide)
                        refine lv_goto (tgt := 56) hx hb dX4_lay_145 (by decide) ?_
                        exact ih_41 v_86 fv_75 ar_85 wd_76 _ _ ls (by omega) (iv_w t_87.2 (by decide) (by decide)) hF_fv_75 (fM_call (fM_call (fM_call (fM_call (fM_call (fM_rf [] _) fr_36 (by decide)) fr_54 (by decide)) fr_62 (by decide)) fr_70 (by decide)) fr_78 (by decide)) hA_ar_85 (fA_put (fA_call (fA_call (fA_call (fA_call (fA_call (fA_rf [5] _) fa_38 (by decide)) fa_55 (by decide)) fa_63 (by decide)) fa_71 (by decide)) fa_79 (by decide)) ear_85 (by decide)) (wf_80.trans (wf_72.trans (wf_64.trans (wf_56.trans wf_40)))) hP hS (lv_sub hl [5, 6, 7, 8, 0] rfl)
                  · skip
                    have z_89 : (0 : Int32).toInt = 0 := by decide
                    exact hj_43 145 0 fv_33 ar wd _ _ ls (by first | decide | omega) (iv_w (⟨by decide, by decide⟩ : (0 : Int) ≤ (0 : Int32).toInt ∧ (0 : Int32).toInt ≤ 0) (by decide) (by decide)) hF_fv_33 (fM_rf [] _) hA_ar (fA_rf [5] _) rfl hP hS (lv_sub hl [1, 2, 3, 4, 0] rfl)
                · skip
                  have i_90 : 100 ≤ v.toInt ∧ v.toInt ≤ 2147483647 := iv_lt2 (⟨by decide, by decide⟩ : (99 : Int) ≤ (99 : Int32).toInt ∧ (99 : Int32).toInt ≤ 99) i_27 (Int32.not_le.mp c_28)
                  refine lv_iconst (v := 0) hx hb dX4_lay_41 (by decide) ?_
                  have z_91 : (0 : Int32).toInt = 0 := by decide
                  exact W.zret (v := 0) hx hb hr (by decide) (fun t ht hW => ⟨⟨0, (fv, wd, ar), rfl, ⟨hF_fv, hA_ar, (fM_rf [9] _), (fA_rf [5] _), rfl, (iv_w (⟨by decide, by decide⟩ : (0 : Int) ≤ (0 : Int32).toInt ∧ (0 : Int32).toInt ≤ 0) (by decide) (by decide)), (show ps_street (0 : Int32) (fv 9) (fv 9) a b v from Or.inl ⟨rfl, rfl, by omega⟩), trivial⟩, ⟨by rw [ht]; exact hP, va_K.moved hW.alike hK⟩⟩, hS.F ht⟩) hS.2.2 dX4_lay_42
            · skip
              have k_92 := congrArg Int32.toInt c_22
              refine lv_iconst (v := 0) hx hb dX4_lay_28 (by decide) ?_
              have z_93 : (0 : Int32).toInt = 0 := by decide
              exact W.zret (v := 0) hx hb hr (by decide) (fun t ht hW => ⟨⟨0, (fv, wd, ar), rfl, ⟨hF_fv, hA_ar, (fM_rf [9] _), (fA_rf [5] _), rfl, (iv_w (⟨by decide, by decide⟩ : (0 : Int) ≤ (0 : Int32).toInt ∧ (0 : Int32).toInt ≤ 0) (by decide) (by decide)), (show ps_street (0 : Int32) (fv 9) (fv 9) a b v from Or.inl ⟨rfl, rfl, by omega⟩), trivial⟩, ⟨by rw [ht]; exact hP, va_K.moved hW.alike hK⟩⟩, hS.F ht⟩) hS.2.2 dX4_lay_29
set_option maxHeartbeats 4000000 in
set_option maxRecDepth 100000 in
theorem x_streetE (l : Launch) (dC : Nat → ClassId) (dI : Nat → Nat → Nat) (sz : Nat) (ob ad : Nat → Nat) (cA : Nat → ClassId) (hd : dX ob ad) (fv : Nat → Int32) (wd : xT) (ar : Nat → Nat → Int32) (hF_fv : rX fv) (hA_ar : rB ar) (a : Int32) (b : Int32) (v : Int32) : Met l yX11_street (.code yX11_street cX11_street 4 (some .boolean) :: lw_good) ({ frames := 4, cells := 0, slots := 0, locals := 90 }) (va_Pc [.ref (ob 0), .int a, .int b, .int v] (prX dC dI ob ad cA fv wd ar sz)) (va_Qi (fun (r : Int32) (u : xS) => rX u.1 ∧ rB u.2.2 ∧ fM [9] fv u.1 ∧ fA [5] ar u.2.2 ∧ u.2.1.2 = wd.2 ∧ (0 ≤ r.toInt ∧ r.toInt ≤ 1) ∧ (ps_street r (u.1 9) (fv 9) a b v) ∧ True) (enX dC dI ob ad cA) (aX ob ad sz)) 0 0 (aX ob ad sz) := by
  refine Met.ofW (cc := cX11_street) (maxL := 4) (ret := (some .boolean)) (by decide) rfl ?_
  intro p e s m args below meth c s₁ B hml hv
  obtain ⟨rfl, hsz, hP, hK⟩ := hv
  have hx := B.exec
  have hb := B.bytes
  have hr := B.returns
  have hts := atoms_spec (ws := (.code yX11_street cX11_street 4 (some .boolean) :: lw_good)) B.pre
  have htg : ∀ w ∈ lw_good, w.before _ s = true := fun w hw => hts w (List.mem_cons_of_mem _ hw)
  have hown : s.vm.findClass RX11 = some m.cls := findClass_of_methodNamed B.named
  have hlocks := B.notSynchronized
  subst hsz
  have hS : va_S (aX ob ad s.heap.size) s.heap s.heap [] := va_S.rf
  have hl := lv_entry ([.ref (ob 0), .int a, .int b, .int v]) (n := 4) (Nat.le_of_ble_eq_true rfl)
  rw [lg_entry_eq]
  generalize (lg_sl ([.ref (ob 0), .int a, .int b, .int v]) ++ List.replicate (4 - (lg_sl ([.ref (ob 0), .int a, .int b, .int v])).length) Slot.unset).toArray = ls at hl ⊢
  have hl : lv_has ls 4 [(0, .ref (ob 0)), (1, .int a), (2, .int b), (3, .int v)] := hl
  refine lv_aload_n hx hb dX11_street_0 rfl (lv_at hl 0 rfl) ?_
  refine gX_X11_16 hx hb htg hown hK hP dX11_street_1 ?_
  refine gX_X11_60 hx hb htg hown hK hP dX11_street_4 ?_
  refine lv_iload_n hx hb dX11_street_7 rfl (lv_at hl 1 rfl) ?_
  refine lv_iload_n hx hb dX11_street_8 rfl (lv_at hl 2 rfl) ?_
  refine lv_iload_n hx hb dX11_street_9 rfl (lv_at hl 3 rfl) ?_
  have z_1 : 0 ≤ (fv 9).toInt ∧ (fv 9).toInt ≤ 30 := hF_fv 9
  refine va_calli (va_runV (As := [.int a, .int b, .int v]) (rest := []) ⟨hx, hb, hml, hown, hts⟩ (x_layE l dC dI s.heap.size ob ad cA hd fv wd ar hF_fv hA_ar a b v) (cwV 3 hts (gV kw_3_139 kw_3_140 kw_3_141 kw_1_3 kw_3_142) rfl rfl rfl (by decide +kernel) ⟨Nat.le_of_ble_eq_true rfl, Nat.le_of_ble_eq_true rfl⟩) ⟨fun a U g mk q => ⟨q.1, q.2.1, q.2.2.1, va_K.moved (u := U) (U := U.calling g mk a) (Vm.Alike.refl U.vm) q.2.2.2⟩, va_recv hK hP (ci := 5) (q0 := 2) rfl rfl, fun U hU hW => ⟨rfl, by rw [hU], by rw [hU]; exact hP, va_K.moved hW.alike hK⟩⟩ rfl rfl hl.1 rfl (lv_room (Nat.le_of_ble_eq_true rfl)) dX11_street_10 ⟨Nat.le_of_ble_eq_true rfl, Nat.le_of_ble_eq_true rfl⟩) hS (fun q _ h9 => aX_up hS q h9) (aX_up hS) (fun r_2 u t H1 locs ht _ hw hB _ hk1 hS => ?_)
  obtain ⟨fv_5, wd_6, ar_7⟩ := u
  obtain ⟨hF_fv_5, hA_ar_7, fr_8, fa_9, wf_10, p_3, p_4, -⟩ := hw
  have wf_10 : wd_6.2 = wd.2 := wf_10
  have hP : va_P (dC, dI) vwCl (wsX ob ad cA fv_5 wd_6 ar_7) H1 := by have h9 := hB.1; rw [ht] at h9; exact h9
  have fr_8 : fM [9] fv fv_5 := fr_8
  have fa_9 : fA [5] ar ar_7 := fa_9
  have p_4 : ps_street r_2 (fv_5 9) (fv 9) a b v := p_4
  generalize H1 = H at hP hS ⊢
  exact W.zret (v := r_2) hx hb hr (iv_nar p_3) (fun t ht hW => ⟨⟨r_2, (fv_5, wd_6, ar_7), rfl, ⟨hF_fv_5, hA_ar_7, (fM_call (fM_rf [9] _) fr_8 (by decide)), (fA_call (fA_rf [5] _) fa_9 (by decide)), wf_10, p_3, (show ps_street r_2 (fv_5 9) (fv 9) a b v from p_4), trivial⟩, ⟨by rw [ht]; exact hP, va_K.moved hW.alike hK⟩⟩, hS.F ht⟩) hS.2.2 dX11_street_13
set_option maxHeartbeats 4000000 in
set_option maxRecDepth 100000 in
theorem x_endE (l : Launch) (dC : Nat → ClassId) (dI : Nat → Nat → Nat) (sz : Nat) (ob ad : Nat → Nat) (cA : Nat → ClassId) (hd : dX ob ad) (fv : Nat → Int32) (wd : xT) (ar : Nat → Nat → Int32) (hF_fv : rX fv) (hA_ar : rB ar) (n : Int32) : Met l yX11_end (.code yX11_end cX11_end 2 (some .boolean) :: lw_good) ({ frames := 2, cells := 0, slots := 0, locals := 40 }) (va_Pc [.ref (ob 0), .int n] (prX dC dI ob ad cA fv wd ar sz)) (va_Qi (fun (r : Int32) (u : xS) => rX u.1 ∧ rB u.2.2 ∧ fM [0] fv u.1 ∧ fA [] ar u.2.2 ∧ u.2.1.2 = wd.2 ∧ (0 ≤ r.toInt ∧ r.toInt ≤ 1) ∧ (ps_end r (u.1 0) (fv 0) n) ∧ True) (enX dC dI ob ad cA) (aX ob ad sz)) 0 0 (aX ob ad sz) := by
  refine Met.ofW (cc := cX11_end) (maxL := 2) (ret := (some .boolean)) (by decide) rfl ?_
  intro p e s m args below meth c s₁ B hml hv
  obtain ⟨rfl, hsz, hP, hK⟩ := hv
  have hx := B.exec
  have hb := B.bytes
  have hr := B.returns
  have hts := atoms_spec (ws := (.code yX11_end cX11_end 2 (some .boolean) :: lw_good)) B.pre
  have htg : ∀ w ∈ lw_good, w.before _ s = true := fun w hw => hts w (List.mem_cons_of_mem _ hw)
  have hown : s.vm.findClass RX11 = some m.cls := findClass_of_methodNamed B.named
  have hlocks := B.notSynchronized
  subst hsz
  have hS : va_S (aX ob ad s.heap.size) s.heap s.heap [] := va_S.rf
  have hl := lv_entry ([.ref (ob 0), .int n]) (n := 2) (Nat.le_of_ble_eq_true rfl)
  rw [lg_entry_eq]
  generalize (lg_sl ([.ref (ob 0), .int n]) ++ List.replicate (2 - (lg_sl ([.ref (ob 0), .int n])).length) Slot.unset).toArray = ls at hl ⊢
  have hl : lv_has ls 2 [(0, .ref (ob 0)), (1, .int n)] := hl
  refine lv_iload_n hx hb dX11_end_0 rfl (lv_at hl 1 rfl) ?_
  refine lv_if_lt (tgt := 12) hx hb dX11_end_1 (by decide) (fun c_1 => ?_) (fun c_1 => ?_)
  · skip
    have i_2 : (-2147483648) ≤ n.toInt ∧ n.toInt ≤ (-1) := iv_lt1 (iv_any n) (⟨by decide, by decide⟩ : (0 : Int) ≤ (0 : Int32).toInt ∧ (0 : Int32).toInt ≤ 0) c_1
    refine lv_iconst (v := 0) hx hb dX11_end_12 (by decide) ?_
    have z_3 : (0 : Int32).toInt = 0 := by decide
    exact W.zret (v := 0) hx hb hr (by decide) (fun t ht hW => ⟨⟨0, (fv, wd, ar), rfl, ⟨hF_fv, hA_ar, (fM_rf [0] _), (fA_rf [] _), rfl, (iv_w (⟨by decide, by decide⟩ : (0 : Int) ≤ (0 : Int32).toInt ∧ (0 : Int32).toInt ≤ 0) (by decide) (by decide)), (show ps_end (0 : Int32) (fv 0) (fv 0) n from Or.inl ⟨rfl, rfl, by omega⟩), trivial⟩, ⟨by rw [ht]; exact hP, va_K.moved hW.alike hK⟩⟩, hS.F ht⟩) hS.2.2 dX11_end_13
  · skip
    have i_4 : 0 ≤ n.toInt ∧ n.toInt ≤ 2147483647 := iv_le2 (⟨by decide, by decide⟩ : (0 : Int) ≤ (0 : Int32).toInt ∧ (0 : Int32).toInt ≤ 0) (iv_any n) (Int32.not_lt.mp c_1)
    refine lv_iload_n hx hb dX11_end_4 rfl (lv_at hl 1 rfl) ?_
    refine lv_aload_n hx hb dX11_end_5 rfl (lv_at hl 0 rfl) ?_
    refine gX_X11_50 hx hb htg hown hK hP dX11_end_6 ?_
    have i_5 : 0 ≤ (fv 0).toInt ∧ (fv 0).toInt ≤ 340 := hF_fv 0
    refine lv_icmp_le (tgt := 14) hx hb dX11_end_9 (by decide) (fun c_6 => ?_) (fun c_6 => ?_)
    · skip
      have i_7 : 0 ≤ n.toInt ∧ n.toInt ≤ 340 := iv_le1 i_4 i_5 c_6
      have k_8 := Int32.le_iff_toInt_le.mp c_6
      refine lv_aload_n hx hb dX11_end_14 rfl (lv_at hl 0 rfl) ?_
      refine lv_iload_n hx hb dX11_end_15 rfl (lv_at hl 1 rfl) ?_
      refine pX_X11_50 hx hb htg hown hK hP hS hd dX11_end_16 (fun H locs fv_9 efv_9 hP hS => ?_)
      have hF_fv_9 : rX fv_9 := rX_put hF_fv efv_9 i_7
      refine lv_iconst (v := 1) hx hb dX11_end_19 (by decide) ?_
      have z_10 : (1 : Int32).toInt = 1 := by decide
      exact W.zret (v := 1) hx hb hr (by decide) (fun t ht hW => ⟨⟨1, (fv_9, wd, ar), rfl, ⟨hF_fv_9, hA_ar, (fM_put (fM_rf [0] _) efv_9 (by decide)), (fA_rf [] _), rfl, (iv_w (⟨by decide, by decide⟩ : (1 : Int) ≤ (1 : Int32).toInt ∧ (1 : Int32).toInt ≤ 1) (by decide) (by decide)), (show ps_end (1 : Int32) (fv_9 0) (fv 0) n from Or.inr ⟨rfl, (congrFun efv_9 0), by omega⟩), trivial⟩, ⟨by rw [ht]; exact hP, va_K.moved hW.alike hK⟩⟩, hS.F ht⟩) hS.2.2 dX11_end_20
    · skip
      have i_11 : 1 ≤ n.toInt ∧ n.toInt ≤ 2147483647 := iv_lt2 i_5 i_4 (Int32.not_le.mp c_6)
      have k_12 := Int32.lt_iff_toInt_lt.mp (Int32.not_le.mp c_6)
      refine lv_iconst (v := 0) hx hb dX11_end_12 (by decide) ?_
      have z_13 : (0 : Int32).toInt = 0 := by decide
      exact W.zret (v := 0) hx hb hr (by decide) (fun t ht hW => ⟨⟨0, (fv, wd, ar), rfl, ⟨hF_fv, hA_ar, (fM_rf [0] _), (fA_rf [] _), rfl, (iv_w (⟨by decide, by decide⟩ : (0 : Int) ≤ (0 : Int32).toInt ∧ (0 : Int32).toInt ≤ 0) (by decide) (by decide)), (show ps_end (0 : Int32) (fv 0) (fv 0) n from Or.inl ⟨rfl, rfl, by omega⟩), trivial⟩, ⟨by rw [ht]; exact hP, va_K.moved hW.alike hK⟩⟩, hS.F ht⟩) hS.2.2 dX11_end_13
set_option maxHeartbeats 4000000 in
set_option maxRecDepth 100000 in
theorem x_seatedE (l : Launch) (dC : Nat → ClassId) (dI : Nat → Nat → Nat) (sz : Nat) (ob ad : Nat → Nat) (cA : Nat → ClassId) (hd : dX ob ad) (fv : Nat → Int32) (wd : xT) (ar : Nat → Nat → Int32) (hF_fv : rX fv) (hA_ar : rB ar) (mm : Int32) : Met l yX11_seated (.code yX11_seated cX11_seated 3 (some .int) :: lw_good) ({ frames := 9, cells := 0, slots := 0, locals := 209 }) (va_Pc [.ref (ob 0), .int mm] (prX dC dI ob ad cA fv wd ar sz)) (va_Qi (fun (r : Int32) (u : xS) => rX u.1 ∧ rB u.2.2 ∧ fM [0, 25, 26, 27, 28] fv u.1 ∧ fA [65, 66, 67, 68, 69, 70, 71, 72] ar u.2.2 ∧ u.2.1.2 = wd.2 ∧ ((u.1 0).toInt = 0) ∧ True) (enX dC dI ob ad cA) (aX ob ad sz)) 0 0 (aX ob ad sz) := by
  refine Met.ofW (cc := cX11_seated) (maxL := 3) (ret := (some .int)) (by decide) rfl ?_
  intro p e s m args below meth c s₁ B hml hv
  obtain ⟨rfl, hsz, hP, hK⟩ := hv
  have hx := B.exec
  have hb := B.bytes
  have hr := B.returns
  have hts := atoms_spec (ws := (.code yX11_seated cX11_seated 3 (some .int) :: lw_good)) B.pre
  have htg : ∀ w ∈ lw_good, w.before _ s = true := fun w hw => hts w (List.mem_cons_of_mem _ hw)
  have hown : s.vm.findClass RX11 = some m.cls := findClass_of_methodNamed B.named
  have hlocks := B.notSynchronized
  subst hsz
  have hS : va_S (aX ob ad s.heap.size) s.heap s.heap [] := va_S.rf
  have hl := lv_entry ([.ref (ob 0), .int mm]) (n := 3) (Nat.le_of_ble_eq_true rfl)
  rw [lg_entry_eq]
  generalize (lg_sl ([.ref (ob 0), .int mm]) ++ List.replicate (3 - (lg_sl ([.ref (ob 0), .int mm])).length) Slot.unset).toArray = ls at hl ⊢
  have hl : lv_has ls 3 [(0, .ref (ob 0)), (1, .int mm)] := hl
  refine lv_iconst (v := (-1)) hx hb dX11_seated_0 (by decide) ?_
  refine lv_istore_n (lv' := [(2, .int (-1)), (0, .ref (ob 0)), (1, .int mm)]) hx hb dX11_seated_1 rfl hl (by decide) rfl (fun ls hl => ?_)
  refine lv_iload_n hx hb dX11_seated_2 rfl (lv_at hl 2 rfl) ?_
  refine lv_if_lt (tgt := 47) hx hb dX11_seated_3 (by decide) (fun c_1 => ?_) (fun c_1 => ?_)
  · skip
    have i_2 : (-2147483648) ≤ mm.toInt ∧ mm.toInt ≤ (-1) := iv_lt1 (iv_any mm) (⟨by decide, by decide⟩ : (0 : Int) ≤ (0 : Int32).toInt ∧ (0 : Int32).toInt ≤ 0) c_1
    refine lv_aload_n hx hb dX11_seated_47 rfl (lv_at hl 1 rfl) ?_
    refine lv_iconst (v := 0) hx hb dX11_seated_48 (by decide) ?_
    refine pX_X11_50 hx hb htg hown hK hP hS hd dX11_seated_49 (fun H locs fv_3 efv_3 hP hS => ?_)
    have hF_fv_3 : rX fv_3 := rX_put hF_fv efv_3 (iv_w (⟨by decide, by decide⟩ : (0 : Int) ≤ (0 : Int32).toInt ∧ (0 : Int32).toInt ≤ 0) (by decide) (by decide))
    refine lv_iload_n hx hb dX11_seated_52 rfl (lv_at hl 0 rfl) ?_
    have z_4 : ((-1) : Int32).toInt = (-1) := by decide
    exact W.iret (v := (-1)) hx hb hr (fun t ht hW => ⟨⟨(-1), (fv_3, wd, ar), rfl, ⟨hF_fv_3, hA_ar, (fM_put (fM_rf [0, 25, 26, 27, 28] _) efv_3 (by decide)), (fA_rf [65, 66, 67, 68, 69, 70, 71, 72] _), rfl, (show (fv_3 0).toInt = 0 from by rw [show fv_3 0 = (0 : Int32) from (congrFun efv_3 0)]; decide), trivial⟩, ⟨by rw [ht]; exact hP, va_K.moved hW.alike hK⟩⟩, hS.F ht⟩) hS.2.2 dX11_seated_53
  · skip
    have i_5 : 0 ≤ mm.toInt ∧ mm.toInt ≤ 2147483647 := iv_le2 (⟨by decide, by decide⟩ : (0 : Int) ≤ (0 : Int32).toInt ∧ (0 : Int32).toInt ≤ 0) (iv_any mm) (Int32.not_lt.mp c_1)
    refine lv_iload_n hx hb dX11_seated_6 rfl (lv_at hl 2 rfl) ?_
    refine lv_sipush (v := 200) hx hb dX11_seated_7 (by decide) ?_
    refine lv_icmp_gt (tgt := 47) hx hb dX11_seated_10 (by decide) (fun c_6 => ?_) (fun c_6 => ?_)
    · skip
      have i_7 : 201 ≤ mm.toInt ∧ mm.toInt ≤ 2147483647 := iv_lt2 (⟨by decide, by decide⟩ : (200 : Int) ≤ (200 : Int32).toInt ∧ (200 : Int32).toInt ≤ 200) i_5 c_6
      refine lv_aload_n hx hb dX11_seated_47 rfl (lv_at hl 1 rfl) ?_
      refine lv_iconst (v := 0) hx hb dX11_seated_48 (by decide) ?_
      refine pX_X11_50 hx hb htg hown hK hP hS hd dX11_seated_49 (fun H locs fv_8 efv_8 hP hS => ?_)
      have hF_fv_8 : rX fv_8 := rX_put hF_fv efv_8 (iv_w (⟨by decide, by decide⟩ : (0 : Int) ≤ (0 : Int32).toInt ∧ (0 : Int32).toInt ≤ 0) (by decide) (by decide))
      refine lv_iload_n hx hb dX11_seated_52 rfl (lv_at hl 0 rfl) ?_
      have z_9 : ((-1) : Int32).toInt = (-1) := by decide
      exact W.iret (v := (-1)) hx hb hr (fun t ht hW => ⟨⟨(-1), (fv_8, wd, ar), rfl, ⟨hF_fv_8, hA_ar, (fM_put (fM_rf [0, 25, 26, 27, 28] _) efv_8 (by decide)), (fA_rf [65, 66, 67, 68, 69, 70, 71, 72] _), rfl, (show (fv_8 0).toInt = 0 from by rw [show fv_8 0 = (0 : Int32) from (congrFun efv_8 0)]; decide), trivial⟩, ⟨by rw [ht]; exact hP, va_K.moved hW.alike hK⟩⟩, hS.F ht⟩) hS.2.2 dX11_seated_53
    · skip
      have i_10 : 0 ≤ mm.toInt ∧ mm.toInt ≤ 200 := iv_le1 i_5 (⟨by decide, by decide⟩ : (200 : Int) ≤ (200 : Int32).toInt ∧ (200 : Int32).toInt ≤ 200) (Int32.not_lt.mp c_6)
      refine lv_aload_n hx hb dX11_seated_13 rfl (lv_at hl 1 rfl) ?_
      refine gX_X11_16 hx hb htg hown hK hP dX11_seated_14 ?_
      refine gX_X11_89 hx hb htg hown hK hP dX11_seated_17 ?_
      have i_11 : 0 ≤ (fv 4).toInt ∧ (fv 4).toInt ≤ 8 := hF_fv 4
      refine lv_if_le (tgt := 47) hx hb dX11_seated_20 (by decide) (fun c_12 => ?_) (fun c_12 => ?_)
      · skip
        have i_13 : 0 ≤ (fv 4).toInt ∧ (fv 4).toInt ≤ 0 := iv_le1 i_11 (⟨by decide, by decide⟩ : (0 : Int) ≤ (0 : Int32).toInt ∧ (0 : Int32).toInt ≤ 0) c_12
        refine lv_aload_n hx hb dX11_seated_47 rfl (lv_at hl 1 rfl) ?_
        refine lv_iconst (v := 0) hx hb dX11_seated_48 (by decide) ?_
        refine pX_X11_50 hx hb htg hown hK hP hS hd dX11_seated_49 (fun H locs fv_14 efv_14 hP hS => ?_)
        have hF_fv_14 : rX fv_14 := rX_put hF_fv efv_14 (iv_w (⟨by decide, by decide⟩ : (0 : Int) ≤ (0 : Int32).toInt ∧ (0 : Int32).toInt ≤ 0) (by decide) (by decide))
        refine lv_iload_n hx hb dX11_seated_52 rfl (lv_at hl 0 rfl) ?_
        have z_15 : ((-1) : Int32).toInt = (-1) := by decide
        exact W.iret (v := (-1)) hx hb hr (fun t ht hW => ⟨⟨(-1), (fv_14, wd, ar), rfl, ⟨hF_fv_14, hA_ar, (fM_put (fM_rf [0, 25, 26, 27, 28] _) efv_14 (by decide)), (fA_rf [65, 66, 67, 68, 69, 70, 71, 72] _), rfl, (show (fv_14 0).toInt = 0 from by rw [show fv_14 0 = (0 : Int32) from (congrFun efv_14 0)]; decide), trivial⟩, ⟨by rw [ht]; exact hP, va_K.moved hW.alike hK⟩⟩, hS.F ht⟩) hS.2.2 dX11_seated_53
      · skip
        have i_16 : 1 ≤ (fv 4).toInt ∧ (fv 4).toInt ≤ 8 := iv_lt2 (⟨by decide, by decide⟩ : (0 : Int) ≤ (0 : Int32).toInt ∧ (0 : Int32).toInt ≤ 0) i_11 (Int32.not_le.mp c_12)
        refine lv_aload_n hx hb dX11_seated_23 rfl (lv_at hl 1 rfl) ?_
        have z_17 : 0 ≤ (fv 0).toInt ∧ (fv 0).toInt ≤ 340 := hF_fv 0
        refine va_calli (va_runV (As := []) (rest := []) ⟨hx, hb, hml, hown, hts⟩ (x_tapeIsWheels l dC dI s.heap.size ob ad cA hd fv wd ar hF_fv hA_ar) (cwV 0 hts (gV kw_6_1 kw_6_3 kw_p_47 kw_1_1 kw_6_4) rfl rfl rfl (by decide +kernel) ⟨Nat.le_of_ble_eq_true rfl, Nat.le_of_ble_eq_true rfl⟩) ⟨fun a U g mk q => ⟨q.1, q.2.1, q.2.2.1, va_K.moved (u := U) (U := U.calling g mk a) (Vm.Alike.refl U.vm) q.2.2.2⟩, va_recv hK hP (ci := 11) (q0 := 0) rfl rfl, fun U hU hW => ⟨rfl, by rw [hU], by rw [hU]; exact hP, va_K.moved hW.alike hK⟩⟩ rfl rfl hl.1 rfl (lv_room (Nat.le_of_ble_eq_true rfl)) dX11_seated_24 ⟨Nat.le_of_ble_eq_true rfl, Nat.le_of_ble_eq_true rfl⟩) hS (fun q _ h9 => aX_up hS q h9) (aX_up hS) (fun r_18 u t H1 locs ht _ hw hB _ hk1 hS => ?_)
        obtain ⟨fv_21, wd_22, ar_23⟩ := u
        obtain ⟨hF_fv_21, hA_ar_23, fr_24, fa_25, wf_26, p_19, p_20, -⟩ := hw
        have wf_26 : wd_22.2 = wd.2 := wf_26
        have hP : va_P (dC, dI) vwCl (wsX ob ad cA fv_21 wd_22 ar_23) H1 := by have h9 := hB.1; rw [ht] at h9; exact h9
        have fr_24 : fM [] fv fv_21 := fr_24
        have fa_25 : fA [] ar ar_23 := fa_25
        generalize H1 = H at hP hS ⊢
        rcases p_20 with ⟨rfl, p_20⟩ | ⟨rfl, p_20⟩
        · skip
          refine lv_if_eq (tgt := 47) hx hb dX11_seated_27 (by decide) (fun c_27 => ?_) (fun c_27 => ?_)
          · skip
            refine lv_aload_n hx hb dX11_seated_47 rfl (lv_at hl 1 rfl) ?_
            refine lv_iconst (v := 0) hx hb dX11_seated_48 (by decide) ?_
            refine pX_X11_50 hx hb htg hown hK hP hS hd dX11_seated_49 (fun H locs fv_28 efv_28 hP hS => ?_)
            have hF_fv_28 : rX fv_28 := rX_put hF_fv_21 efv_28 (iv_w (⟨by decide, by decide⟩ : (0 : Int) ≤ (0 : Int32).toInt ∧ (0 : Int32).toInt ≤ 0) (by decide) (by decide))
            refine lv_iload_n hx hb dX11_seated_52 rfl (lv_at hl 0 rfl) ?_
            have z_29 : ((-1) : Int32).toInt = (-1) := by decide
            exact W.iret (v := (-1)) hx hb hr (fun t ht hW => ⟨⟨(-1), (fv_28, wd_22, ar_23), rfl, ⟨hF_fv_28, hA_ar_23, (fM_put (fM_call (fM_rf [0, 25, 26, 27, 28] _) fr_24 (by decide)) efv_28 (by decide)), (fA_call (fA_rf [65, 66, 67, 68, 69, 70, 71, 72] _) fa_25 (by decide)), wf_26, (show (fv_28 0).toInt = 0 from by rw [show fv_28 0 = (0 : Int32) from (congrFun efv_28 0)]; decide), trivial⟩, ⟨by rw [ht]; exact hP, va_K.moved hW.alike hK⟩⟩, hS.F ht⟩) hS.2.2 dX11_seated_53
          · skip
            exact absurd c_27 (by decide)
        · skip
          have i_30 : 1 ≤ (fv 0).toInt ∧ (fv 0).toInt ≤ 340 := ⟨p_20.1, (hF_fv 0).2⟩
          have i_31 : 1 ≤ (fv 0).toInt ∧ (fv 0).toInt ≤ 5 := ⟨i_30.1, p_20.2.1⟩
          have q_32 : ∀ j : Nat, (j : Int) < (fv 0).toInt → (ar 1 j).toInt ≤ 19 := p_20.2.2
          refine lv_if_eq (tgt := 47) hx hb dX11_seated_27 (by decide) (fun c_33 => ?_) (fun c_33 => ?_)
          · skip
            exact absurd c_33 (by decide)
          · skip
            refine lv_aload_n hx hb dX11_seated_30 rfl (lv_at hl 1 rfl) ?_
            refine gX_X11_39 hx hb htg hown hK hP dX11_seated_31 ?_
            refine lv_aload_n hx hb dX11_seated_34 rfl (lv_at hl 1 rfl) ?_
            refine gX_X11_9 hx hb htg hown hK hP dX11_seated_35 ?_
            refine lv_aload_n hx hb dX11_seated_38 rfl (lv_at hl 1 rfl) ?_
            refine gX_X11_50 hx hb htg hown hK hP dX11_seated_39 ?_
            refine my_ti (y := fv 0) ((fr_24 0 rfl)) ?_
            refine lv_iload_n hx hb dX11_seated_42 rfl (lv_at hl 2 rfl) ?_
            have z_34 : (fv_21 0).toInt = (fv 0).toInt := congrArg Int32.toInt ((fr_24 0 rfl))
            have z_35 : 0 ≤ (fv_21 0).toInt ∧ (fv_21 0).toInt ≤ 340 := hF_fv_21 0
            refine va_calli (va_runV (As := [.ref (ad 1), .int (fv 0), .int mm]) (rest := []) ⟨hx, hb, hml, hown, hts⟩ (x_seat l dC dI H.size ob ad cA hd fv_21 wd_22 ar_23 hF_fv_21 hA_ar_23 (fv 0) mm i_31 (fun j hj => by rw [((fA_call (fA_rf [] _) fa_25 (by decide)) 1 rfl)]; exact q_32 j (by omega))) (cwV 3 hts (gV kw_6_9 kw_6_10 kw_6_11 kw_1_14 kw_6_12) rfl rfl rfl (by decide +kernel) ⟨Nat.le_of_ble_eq_true rfl, Nat.le_of_ble_eq_true rfl⟩) ⟨fun a U g mk q => ⟨q.1, q.2.1, q.2.2.1, va_K.moved (u := U) (U := U.calling g mk a) (Vm.Alike.refl U.vm) q.2.2.2⟩, va_recv hK hP (ci := 6) (q0 := 10) rfl rfl, fun U hU hW => ⟨rfl, by rw [hU], by rw [hU]; exact hP, va_K.moved hW.alike hK⟩⟩ rfl rfl hl.1 rfl (lv_room (Nat.le_of_ble_eq_true rfl)) dX11_seated_43 ⟨Nat.le_of_ble_eq_true rfl, Nat.le_of_ble_eq_true rfl⟩) hS (fun q _ h9 => aX_up hS q h9) (aX_up hS) (fun r_36 u t H1 locs ht _ hw hB _ hk1 hS => ?_)
            obtain ⟨fv_37, wd_38, ar_39⟩ := u
            obtain ⟨hF_fv_37, hA_ar_39, fr_40, fa_41, wf_42, -⟩ := hw
            have wf_42 : wd_38.2 = wd_22.2 := wf_42
            have hP : va_P (dC, dI) vwCl (wsX ob ad cA fv_37 wd_38 ar_39) H1 := by have h9 := hB.1; rw [ht] at h9; exact h9
            have fr_40 : fM [25, 26, 27, 28] fv_21 fv_37 := fr_40
            have fa_41 : fA [65, 66, 67, 68, 69, 70, 71, 72] ar_23 ar_39 := fa_41
            generalize H1 = H at hP hS ⊢
            refine lv_istore_n (lv' := [(2, .int r_36), (0, .ref (ob 0)), (1, .int mm)]) hx hb dX11_seated_46 rfl hl (by decide) rfl (fun ls hl => ?_)
            refine lv_aload_n hx hb dX11_seated_47 rfl (lv_at hl 1 rfl) ?_
            refine lv_iconst (v := 0) hx hb dX11_seated_48 (by decide) ?_
            refine pX_X11_50 hx hb htg hown hK hP hS hd dX11_seated_49 (fun H locs fv_43 efv_43 hP hS => ?_)
            have hF_fv_43 : rX fv_43 := rX_put hF_fv_37 efv_43 (iv_w (⟨by decide, by decide⟩ : (0 : Int) ≤ (0 : Int32).toInt ∧ (0 : Int32).toInt ≤ 0) (by decide) (by decide))
            refine lv_iload_n hx hb dX11_seated_52 rfl (lv_at hl 0 rfl) ?_
            exact W.iret (v := r_36) hx hb hr (fun t ht hW => ⟨⟨r_36, (fv_43, wd_38, ar_39), rfl, ⟨hF_fv_43, hA_ar_39, (fM_put (fM_call (fM_call (fM_rf [0, 25, 26, 27, 28] _) fr_24 (by decide)) fr_40 (by decide)) efv_43 (by decide)), (fA_call (fA_call (fA_rf [65, 66, 67, 68, 69, 70, 71, 72] _) fa_25 (by decide)) fa_41 (by decide)), (wf_42.trans wf_26), (show (fv_43 0).toInt = 0 from by rw [show fv_43 0 = (0 : Int32) from (congrFun efv_43 0)]; decide), trivial⟩, ⟨by rw [ht]; exact hP, va_K.moved hW.alike hK⟩⟩, hS.F ht⟩) hS.2.2 dX11_seated_53

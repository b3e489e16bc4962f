set_option maxHeartbeats 4000000 in
set_option maxRecDepth 100000 in
theorem x_isStopE (l : Launch) (dC : Nat → ClassId) (dI : Nat → Nat → Nat) (sz : Nat) (ob ad : Nat → Nat) (cA : Nat → ClassId) (hd : dX ob ad) (fv : Nat → Int32) (wd : xT) (ar : Nat → Nat → Int32) (hF_fv : rX fv) (hA_ar : rB ar) (v : Int32) : Met l yX7_isStop (.code yX7_isStop cX7_isStop 2 (some .boolean) :: lw_good) ({ frames := 2, cells := 0, slots := 0, locals := 40 }) (va_Pc [.ref (ob 1), .int v] (prX dC dI ob ad cA fv wd ar sz)) (va_Qi (fun (r : Int32) (u : xS) => rX u.1 ∧ rB u.2.2 ∧ fM [] fv u.1 ∧ fA [] ar u.2.2 ∧ u.2.1.2 = wd.2 ∧ (0 ≤ r.toInt ∧ r.toInt ≤ 1) ∧ ((r = 0 ∧ (v.toInt < 0 ∨ (fv 4).toInt ≤ v.toInt)) ∨ (r = 1 ∧ (0 ≤ v.toInt) ∧ (v.toInt ≤ 7) ∧ (v.toInt < (fv 4).toInt))) ∧ True) (enX dC dI ob ad cA) (aX ob ad sz)) 0 0 (aX ob ad sz) := by
  refine Met.ofW (cc := cX7_isStop) (maxL := 2) (ret := (some .boolean)) (by decide) rfl ?_
  intro p e s m args below meth c s₁ B hml hv
  obtain ⟨rfl, hsz, hP, hK⟩ := hv
  have hx := B.exec
  have hb := B.bytes
  have hr := B.returns
  have hts := atoms_spec (ws := (.code yX7_isStop cX7_isStop 2 (some .boolean) :: lw_good)) B.pre
  have htg : ∀ w ∈ lw_good, w.before _ s = true := fun w hw => hts w (List.mem_cons_of_mem _ hw)
  have hown : s.vm.findClass RX7 = some m.cls := findClass_of_methodNamed B.named
  have hlocks := B.notSynchronized
  subst hsz
  have hS : va_S (aX ob ad s.heap.size) s.heap s.heap [] := va_S.rf
  have hl := lv_entry ([.ref (ob 1), .int v]) (n := 2) (Nat.le_of_ble_eq_true rfl)
  rw [lg_entry_eq]
  generalize (lg_sl ([.ref (ob 1), .int v]) ++ List.replicate (2 - (lg_sl ([.ref (ob 1), .int v])).length) Slot.unset).toArray = ls at hl ⊢
  have hl : lv_has ls 2 [(0, .ref (ob 1)), (1, .int v)] := hl
  refine lv_iload_n hx hb dX7_isStop_0 rfl (lv_at hl 1 rfl) ?_
  refine lv_if_lt (tgt := 16) hx hb dX7_isStop_1 (by decide) (fun c_1 => ?_) (fun c_1 => ?_)
  · skip
    have i_2 : (-2147483648) ≤ v.toInt ∧ v.toInt ≤ (-1) := iv_lt1 (iv_any v) (⟨by decide, by decide⟩ : (0 : Int) ≤ (0 : Int32).toInt ∧ (0 : Int32).toInt ≤ 0) c_1
    refine lv_iconst (v := 0) hx hb dX7_isStop_16 (by decide) ?_
    exact W.zret (v := 0) hx hb hr (by decide) (fun t ht hW => ⟨⟨0, (fv, wd, ar), rfl, ⟨hF_fv, hA_ar, (fM_rf [] _), (fA_rf [] _), rfl, (iv_w (⟨by decide, by decide⟩ : (0 : Int) ≤ (0 : Int32).toInt ∧ (0 : Int32).toInt ≤ 0) (by decide) (by decide)), (Or.inl ⟨rfl, by omega⟩), trivial⟩, ⟨by rw [ht]; exact hP, va_K.moved hW.alike hK⟩⟩, hS.F ht⟩) hS.2.2 dX7_isStop_17
  · skip
    have i_3 : 0 ≤ v.toInt ∧ v.toInt ≤ 2147483647 := iv_le2 (⟨by decide, by decide⟩ : (0 : Int) ≤ (0 : Int32).toInt ∧ (0 : Int32).toInt ≤ 0) (iv_any v) (Int32.not_lt.mp c_1)
    refine lv_iload_n hx hb dX7_isStop_4 rfl (lv_at hl 1 rfl) ?_
    refine lv_aload_n hx hb dX7_isStop_5 rfl (lv_at hl 0 rfl) ?_
    refine gX_X7_65 hx hb htg hown hK hP dX7_isStop_6 ?_
    have i_4 : 0 ≤ (fv 4).toInt ∧ (fv 4).toInt ≤ 8 := hF_fv 4
    refine lv_icmp_ge (tgt := 16) hx hb dX7_isStop_9 (by decide) (fun c_5 => ?_) (fun c_5 => ?_)
    · skip
      have k_6 := Int32.le_iff_toInt_le.mp c_5
      refine lv_iconst (v := 0) hx hb dX7_isStop_16 (by decide) ?_
      exact W.zret (v := 0) hx hb hr (by decide) (fun t ht hW => ⟨⟨0, (fv, wd, ar), rfl, ⟨hF_fv, hA_ar, (fM_rf [] _), (fA_rf [] _), rfl, (iv_w (⟨by decide, by decide⟩ : (0 : Int) ≤ (0 : Int32).toInt ∧ (0 : Int32).toInt ≤ 0) (by decide) (by decide)), (Or.inl ⟨rfl, by omega⟩), trivial⟩, ⟨by rw [ht]; exact hP, va_K.moved hW.alike hK⟩⟩, hS.F ht⟩) hS.2.2 dX7_isStop_17
    · skip
      have i_7 : 0 ≤ v.toInt ∧ v.toInt ≤ 7 := iv_lt1 i_3 i_4 (Int32.not_le.mp c_5)
      have i_8 : 1 ≤ (fv 4).toInt ∧ (fv 4).toInt ≤ 8 := iv_lt2 i_3 i_4 (Int32.not_le.mp c_5)
      have k_9 := Int32.lt_iff_toInt_lt.mp (Int32.not_le.mp c_5)
      refine lv_iconst (v := 1) hx hb dX7_isStop_12 (by decide) ?_
      refine lv_goto (tgt := 17) hx hb dX7_isStop_13 (by decide) ?_
      exact W.zret (v := 1) hx hb hr (by decide) (fun t ht hW => ⟨⟨1, (fv, wd, ar), rfl, ⟨hF_fv, hA_ar, (fM_rf [] _), (fA_rf [] _), rfl, (iv_w (⟨by decide, by decide⟩ : (1 : Int) ≤ (1 : Int32).toInt ∧ (1 : Int32).toInt ≤ 1) (by decide) (by decide)), (Or.inr (⟨rfl, by omega⟩)), trivial⟩, ⟨by rw [ht]; exact hP, va_K.moved hW.alike hK⟩⟩, hS.F ht⟩) hS.2.2 dX7_isStop_17
set_option maxHeartbeats 4000000 in
set_option maxRecDepth 100000 in
theorem x_wheels_hasE (l : Launch) (dC : Nat → ClassId) (dI : Nat → Nat → Nat) (sz : Nat) (ob ad : Nat → Nat) (cA : Nat → ClassId) (hd : dX ob ad) (fv : Nat → Int32) (wd : xT) (ar : Nat → Nat → Int32) (hF_fv : rX fv) (hA_ar : rB ar) (v : Int32) : Met l yX10_has (.code yX10_has cX10_has 2 (some .boolean) :: lw_good) ({ frames := 2, cells := 0, slots := 0, locals := 40 }) (va_Pc [.ref (ob 4), .int v] (prX dC dI ob ad cA fv wd ar sz)) (va_Qi (fun (r : Int32) (u : xS) => rX u.1 ∧ rB u.2.2 ∧ fM [] fv u.1 ∧ fA [] ar u.2.2 ∧ u.2.1.2 = wd.2 ∧ (0 ≤ r.toInt ∧ r.toInt ≤ 1) ∧ ((r = 0 ∧ (v.toInt < 0 ∨ (fv 11).toInt ≤ v.toInt)) ∨ (r = 1 ∧ (0 ≤ v.toInt) ∧ (v.toInt ≤ 19) ∧ (v.toInt < (fv 11).toInt))) ∧ True) (enX dC dI ob ad cA) (aX ob ad sz)) 0 0 (aX ob ad sz) := by
  refine Met.ofW (cc := cX10_has) (maxL := 2) (ret := (some .boolean)) (by decide) rfl ?_
  intro p e s m args below meth c s₁ B hml hv
  obtain ⟨rfl, hsz, hP, hK⟩ := hv
  have hx := B.exec
  have hb := B.bytes
  have hr := B.returns
  have hts := atoms_spec (ws := (.code yX10_has cX10_has 2 (some .boolean) :: lw_good)) B.pre
  have htg : ∀ w ∈ lw_good, w.before _ s = true := fun w hw => hts w (List.mem_cons_of_mem _ hw)
  have hown : s.vm.findClass RX10 = some m.cls := findClass_of_methodNamed B.named
  have hlocks := B.notSynchronized
  subst hsz
  have hS : va_S (aX ob ad s.heap.size) s.heap s.heap [] := va_S.rf
  have hl := lv_entry ([.ref (ob 4), .int v]) (n := 2) (Nat.le_of_ble_eq_true rfl)
  rw [lg_entry_eq]
  generalize (lg_sl ([.ref (ob 4), .int v]) ++ List.replicate (2 - (lg_sl ([.ref (ob 4), .int v])).length) Slot.unset).toArray = ls at hl ⊢
  have hl : lv_has ls 2 [(0, .ref (ob 4)), (1, .int v)] := hl
  refine lv_iload_n hx hb dX10_has_0 rfl (lv_at hl 1 rfl) ?_
  refine lv_if_lt (tgt := 16) hx hb dX10_has_1 (by decide) (fun c_1 => ?_) (fun c_1 => ?_)
  · skip
    have i_2 : (-2147483648) ≤ v.toInt ∧ v.toInt ≤ (-1) := iv_lt1 (iv_any v) (⟨by decide, by decide⟩ : (0 : Int) ≤ (0 : Int32).toInt ∧ (0 : Int32).toInt ≤ 0) c_1
    refine lv_iconst (v := 0) hx hb dX10_has_16 (by decide) ?_
    exact W.zret (v := 0) hx hb hr (by decide) (fun t ht hW => ⟨⟨0, (fv, wd, ar), rfl, ⟨hF_fv, hA_ar, (fM_rf [] _), (fA_rf [] _), rfl, (iv_w (⟨by decide, by decide⟩ : (0 : Int) ≤ (0 : Int32).toInt ∧ (0 : Int32).toInt ≤ 0) (by decide) (by decide)), (Or.inl ⟨rfl, by omega⟩), trivial⟩, ⟨by rw [ht]; exact hP, va_K.moved hW.alike hK⟩⟩, hS.F ht⟩) hS.2.2 dX10_has_17
  · skip
    have i_3 : 0 ≤ v.toInt ∧ v.toInt ≤ 2147483647 := iv_le2 (⟨by decide, by decide⟩ : (0 : Int) ≤ (0 : Int32).toInt ∧ (0 : Int32).toInt ≤ 0) (iv_any v) (Int32.not_lt.mp c_1)
    refine lv_iload_n hx hb dX10_has_4 rfl (lv_at hl 1 rfl) ?_
    refine lv_aload_n hx hb dX10_has_5 rfl (lv_at hl 0 rfl) ?_
    refine gX_X10_36 hx hb htg hown hK hP dX10_has_6 ?_
    have i_4 : 0 ≤ (fv 11).toInt ∧ (fv 11).toInt ≤ 20 := hF_fv 11
    refine lv_icmp_ge (tgt := 16) hx hb dX10_has_9 (by decide) (fun c_5 => ?_) (fun c_5 => ?_)
    · skip
      have k_6 := Int32.le_iff_toInt_le.mp c_5
      refine lv_iconst (v := 0) hx hb dX10_has_16 (by decide) ?_
      exact W.zret (v := 0) hx hb hr (by decide) (fun t ht hW => ⟨⟨0, (fv, wd, ar), rfl, ⟨hF_fv, hA_ar, (fM_rf [] _), (fA_rf [] _), rfl, (iv_w (⟨by decide, by decide⟩ : (0 : Int) ≤ (0 : Int32).toInt ∧ (0 : Int32).toInt ≤ 0) (by decide) (by decide)), (Or.inl ⟨rfl, by omega⟩), trivial⟩, ⟨by rw [ht]; exact hP, va_K.moved hW.alike hK⟩⟩, hS.F ht⟩) hS.2.2 dX10_has_17
    · skip
      have i_7 : 0 ≤ v.toInt ∧ v.toInt ≤ 19 := iv_lt1 i_3 i_4 (Int32.not_le.mp c_5)
      have i_8 : 1 ≤ (fv 11).toInt ∧ (fv 11).toInt ≤ 20 := iv_lt2 i_3 i_4 (Int32.not_le.mp c_5)
      have k_9 := Int32.lt_iff_toInt_lt.mp (Int32.not_le.mp c_5)
      refine lv_iconst (v := 1) hx hb dX10_has_12 (by decide) ?_
      refine lv_goto (tgt := 17) hx hb dX10_has_13 (by decide) ?_
      exact W.zret (v := 1) hx hb hr (by decide) (fun t ht hW => ⟨⟨1, (fv, wd, ar), rfl, ⟨hF_fv, hA_ar, (fM_rf [] _), (fA_rf [] _), rfl, (iv_w (⟨by decide, by decide⟩ : (1 : Int) ≤ (1 : Int32).toInt ∧ (1 : Int32).toInt ≤ 1) (by decide) (by decide)), (Or.inr (⟨rfl, by omega⟩)), trivial⟩, ⟨by rw [ht]; exact hP, va_K.moved hW.alike hK⟩⟩, hS.F ht⟩) hS.2.2 dX10_has_17
set_option maxHeartbeats 4000000 in
set_option maxRecDepth 100000 in
theorem x_isFullE (l : Launch) (dC : Nat → ClassId) (dI : Nat → Nat → Nat) (sz : Nat) (ob ad : Nat → Nat) (cA : Nat → ClassId) (hd : dX ob ad) (fv : Nat → Int32) (wd : xT) (ar : Nat → Nat → Int32) (hF_fv : rX fv) (hA_ar : rB ar) : Met l yX8_isFull (.code yX8_isFull cX8_isFull 1 (some .boolean) :: lw_good) ({ frames := 2, cells := 0, slots := 0, locals := 40 }) (va_Pc [.ref (ob 5)] (prX dC dI ob ad cA fv wd ar sz)) (va_Qi (fun (r : Int32) (u : xS) => rX u.1 ∧ rB u.2.2 ∧ fM [] fv u.1 ∧ fA [] ar u.2.2 ∧ u.2.1.2 = wd.2 ∧ (0 ≤ r.toInt ∧ r.toInt ≤ 1) ∧ ((r = 0 ∧ ((fv 12).toInt ≤ 79)) ∨ (r = 1 ∧ (80 ≤ (fv 12).toInt))) ∧ True) (enX dC dI ob ad cA) (aX ob ad sz)) 0 0 (aX ob ad sz) := by
  refine Met.ofW (cc := cX8_isFull) (maxL := 1) (ret := (some .boolean)) (by decide) rfl ?_
  intro p e s m args below meth c s₁ B hml hv
  obtain ⟨rfl, hsz, hP, hK⟩ := hv
  have hx := B.exec
  have hb := B.bytes
  have hr := B.returns
  have hts := atoms_spec (ws := (.code yX8_isFull cX8_isFull 1 (some .boolean) :: lw_good)) B.pre
  have htg : ∀ w ∈ lw_good, w.before _ s = true := fun w hw => hts w (List.mem_cons_of_mem _ hw)
  have hown : s.vm.findClass RX8 = some m.cls := findClass_of_methodNamed B.named
  have hlocks := B.notSynchronized
  subst hsz
  have hS : va_S (aX ob ad s.heap.size) s.heap s.heap [] := va_S.rf
  have hl := lv_entry ([.ref (ob 5)]) (n := 1) (Nat.le_of_ble_eq_true rfl)
  rw [lg_entry_eq]
  generalize (lg_sl ([.ref (ob 5)]) ++ List.replicate (1 - (lg_sl ([.ref (ob 5)])).length) Slot.unset).toArray = ls at hl ⊢
  have hl : lv_has ls 1 [(0, .ref (ob 5))] := hl
  refine lv_aload_n hx hb dX8_isFull_0 rfl (lv_at hl 0 rfl) ?_
  refine gX_X8_36 hx hb htg hown hK hP dX8_isFull_1 ?_
  have i_1 : 0 ≤ (fv 12).toInt ∧ (fv 12).toInt ≤ 80 := hF_fv 12
  refine lv_bipush (v := 80) hx hb dX8_isFull_4 (by decide) ?_
  refine lv_icmp_lt (tgt := 13) hx hb dX8_isFull_6 (by decide) (fun c_2 => ?_) (fun c_2 => ?_)
  · skip
    have i_3 : 0 ≤ (fv 12).toInt ∧ (fv 12).toInt ≤ 79 := iv_lt1 i_1 (⟨by decide, by decide⟩ : (80 : Int) ≤ (80 : Int32).toInt ∧ (80 : Int32).toInt ≤ 80) c_2
    refine lv_iconst (v := 0) hx hb dX8_isFull_13 (by decide) ?_
    exact W.zret (v := 0) hx hb hr (by decide) (fun t ht hW => ⟨⟨0, (fv, wd, ar), rfl, ⟨hF_fv, hA_ar, (fM_rf [] _), (fA_rf [] _), rfl, (iv_w (⟨by decide, by decide⟩ : (0 : Int) ≤ (0 : Int32).toInt ∧ (0 : Int32).toInt ≤ 0) (by decide) (by decide)), (Or.inl ⟨rfl, by omega⟩), trivial⟩, ⟨by rw [ht]; exact hP, va_K.moved hW.alike hK⟩⟩, hS.F ht⟩) hS.2.2 dX8_isFull_14
  · skip
    have i_4 : 80 ≤ (fv 12).toInt ∧ (fv 12).toInt ≤ 80 := iv_le2 (⟨by decide, by decide⟩ : (80 : Int) ≤ (80 : Int32).toInt ∧ (80 : Int32).toInt ≤ 80) i_1 (Int32.not_lt.mp c_2)
    refine lv_iconst (v := 1) hx hb dX8_isFull_9 (by decide) ?_
    refine lv_goto (tgt := 14) hx hb dX8_isFull_10 (by decide) ?_
    exact W.zret (v := 1) hx hb hr (by decide) (fun t ht hW => ⟨⟨1, (fv, wd, ar), rfl, ⟨hF_fv, hA_ar, (fM_rf [] _), (fA_rf [] _), rfl, (iv_w (⟨by decide, by decide⟩ : (1 : Int) ≤ (1 : Int32).toInt ∧ (1 : Int32).toInt ≤ 1) (by decide) (by decide)), (Or.inr (⟨rfl, by omega⟩)), trivial⟩, ⟨by rw [ht]; exact hP, va_K.moved hW.alike hK⟩⟩, hS.F ht⟩) hS.2.2 dX8_isFull_14
set_option maxHeartbeats 4000000 in
set_option maxRecDepth 100000 in
theorem x_endE (l : Launch) (dC : Nat → ClassId) (dI : Nat → Nat → Nat) (sz : Nat) (ob ad : Nat → Nat) (cA : Nat → ClassId) (hd : dX ob ad) (fv : Nat → Int32) (wd : xT) (ar : Nat → Nat → Int32) (hF_fv : rX fv) (hA_ar : rB ar) (n : Int32) : Met l yX11_end (.code yX11_end cX11_end 2 (some .boolean) :: lw_good) ({ frames := 2, cells := 0, slots := 0, locals := 40 }) (va_Pc [.ref (ob 0), .int n] (prX dC dI ob ad cA fv wd ar sz)) (va_Qi (fun (r : Int32) (u : xS) => rX u.1 ∧ rB u.2.2 ∧ fM [0] fv u.1 ∧ fA [] ar u.2.2 ∧ u.2.1.2 = wd.2 ∧ (0 ≤ r.toInt ∧ r.toInt ≤ 1) ∧ (ps_end r (u.1 0) (fv 0) n) ∧ True) (enX dC dI ob ad cA) (aX ob ad sz)) 0 0 (aX ob ad sz) := by
  refine Met.ofW (cc := cX11_end) (maxL := 2) (ret := (some .boolean)) (by decide) rfl ?_
  intro p e s m args below meth c s₁ B hml hv
  obtain ⟨rfl, hsz, hP, hK⟩ := hv
  have hx := B.exec
  have hb := B.bytes
  have hr := B.returns
  have hts := atoms_spec (ws := (.code yX11_end cX11_end 2 (some .boolean) :: lw_good)) B.pre
  have htg : ∀ w ∈ lw_good, w.before _ s = true := fun w hw => hts w (List.mem_cons_of_mem _ hw)
  have hown : s.vm.findClass RX11 = some m.cls := findClass_of_methodNamed B.named
  have hlocks := B.notSynchronized
  subst hsz
  have hS : va_S (aX ob ad s.heap.size) s.heap s.heap [] := va_S.rf
  have hl := lv_entry ([.ref (ob 0), .int n]) (n := 2) (Nat.le_of_ble_eq_true rfl)
  rw [lg_entry_eq]
  generalize (lg_sl ([.ref (ob 0), .int n]) ++ List.replicate (2 - (lg_sl ([.ref (ob 0), .int n])).length) Slot.unset).toArray = ls at hl ⊢
  have hl : lv_has ls 2 [(0, .ref (ob 0)), (1, .int n)] := hl
  refine lv_iload_n hx hb dX11_end_0 rfl (lv_at hl 1 rfl) ?_
  refine lv_if_lt (tgt := 12) hx hb dX11_end_1 (by decide) (fun c_1 => ?_) (fun c_1 => ?_)
  · skip
    have i_2 : (-2147483648) ≤ n.toInt ∧ n.toInt ≤ (-1) := iv_lt1 (iv_any n) (⟨by decide, by decide⟩ : (0 : Int) ≤ (0 : Int32).toInt ∧ (0 : Int32).toInt ≤ 0) c_1
    refine lv_iconst (v := 0) hx hb dX11_end_12 (by decide) ?_
    have z_3 : (0 : Int32).toInt = 0 := by decide
    exact W.zret (v := 0) hx hb hr (by decide) (fun t ht hW => ⟨⟨0, (fv, wd, ar), rfl, ⟨hF_fv, hA_ar, (fM_rf [0] _), (fA_rf [] _), rfl, (iv_w (⟨by decide, by decide⟩ : (0 : Int) ≤ (0 : Int32).toInt ∧ (0 : Int32).toInt ≤ 0) (by decide) (by decide)), (show ps_end (0 : Int32) (fv 0) (fv 0) n from Or.inl ⟨rfl, rfl, by omega⟩), trivial⟩, ⟨by rw [ht]; exact hP, va_K.moved hW.alike hK⟩⟩, hS.F ht⟩) hS.2.2 dX11_end_13
  · skip
    have i_4 : 0 ≤ n.toInt ∧ n.toInt ≤ 2147483647 := iv_le2 (⟨by decide, by decide⟩ : (0 : Int) ≤ (0 : Int32).toInt ∧ (0 : Int32).toInt ≤ 0) (iv_any n) (Int32.not_lt.mp c_1)
    refine lv_iload_n hx hb dX11_end_4 rfl (lv_at hl 1 rfl) ?_
    refine lv_aload_n hx hb dX11_end_5 rfl (lv_at hl 0 rfl) ?_
    refine gX_X11_50 hx hb htg hown hK hP dX11_end_6 ?_
    have i_5 : 0 ≤ (fv 0).toInt ∧ (fv 0).toInt ≤ 340 := hF_fv 0
    refine lv_icmp_le (tgt := 14) hx hb dX11_end_9 (by decide) (fun c_6 => ?_) (fun c_6 => ?_)
    · skip
      have i_7 : 0 ≤ n.toInt ∧ n.toInt ≤ 340 := iv_le1 i_4 i_5 c_6
      have k_8 := Int32.le_iff_toInt_le.mp c_6
      refine lv_aload_n hx hb dX11_end_14 rfl (lv_at hl 0 rfl) ?_
      refine lv_iload_n hx hb dX11_end_15 rfl (lv_at hl 1 rfl) ?_
      refine pX_X11_50 hx hb htg hown hK hP hS hd dX11_end_16 (fun H locs fv_9 efv_9 hP hS => ?_)
      have hF_fv_9 : rX fv_9 := rX_put hF_fv efv_9 i_7
      refine lv_iconst (v := 1) hx hb dX11_end_19 (by decide) ?_
      have z_10 : (1 : Int32).toInt = 1 := by decide
      exact W.zret (v := 1) hx hb hr (by decide) (fun t ht hW => ⟨⟨1, (fv_9, wd, ar), rfl, ⟨hF_fv_9, hA_ar, (fM_put (fM_rf [0] _) efv_9 (by decide)), (fA_rf [] _), rfl, (iv_w (⟨by decide, by decide⟩ : (1 : Int) ≤ (1 : Int32).toInt ∧ (1 : Int32).toInt ≤ 1) (by decide) (by decide)), (show ps_end (1 : Int32) (fv_9 0) (fv 0) n from Or.inr ⟨rfl, (congrFun efv_9 0), by omega⟩), trivial⟩, ⟨by rw [ht]; exact hP, va_K.moved hW.alike hK⟩⟩, hS.F ht⟩) hS.2.2 dX11_end_20
    · skip
      have i_11 : 1 ≤ n.toInt ∧ n.toInt ≤ 2147483647 := iv_lt2 i_5 i_4 (Int32.not_le.mp c_6)
      have k_12 := Int32.lt_iff_toInt_lt.mp (Int32.not_le.mp c_6)
      refine lv_iconst (v := 0) hx hb dX11_end_12 (by decide) ?_
      have z_13 : (0 : Int32).toInt = 0 := by decide
      exact W.zret (v := 0) hx hb hr (by decide) (fun t ht hW => ⟨⟨0, (fv, wd, ar), rfl, ⟨hF_fv, hA_ar, (fM_rf [0] _), (fA_rf [] _), rfl, (iv_w (⟨by decide, by decide⟩ : (0 : Int) ≤ (0 : Int32).toInt ∧ (0 : Int32).toInt ≤ 0) (by decide) (by decide)), (show ps_end (0 : Int32) (fv 0) (fv 0) n from Or.inl ⟨rfl, rfl, by omega⟩), trivial⟩, ⟨by rw [ht]; exact hP, va_K.moved hW.alike hK⟩⟩, hS.F ht⟩) hS.2.2 dX11_end_13
set_option maxHeartbeats 4000000 in
set_option maxRecDepth 100000 in
theorem x_seatedE (l : Launch) (dC : Nat → ClassId) (dI : Nat → Nat → Nat) (sz : Nat) (ob ad : Nat → Nat) (cA : Nat → ClassId) (hd : dX ob ad) (fv : Nat → Int32) (wd : xT) (ar : Nat → Nat → Int32) (hF_fv : rX fv) (hA_ar : rB ar) (mm : Int32) : Met l yX11_seated (.code yX11_seated cX11_seated 3 (some .int) :: lw_good) ({ frames := 9, cells := 0, slots := 0, locals := 209 }) (va_Pc [.ref (ob 0), .int mm] (prX dC dI ob ad cA fv wd ar sz)) (va_Qi (fun (r : Int32) (u : xS) => rX u.1 ∧ rB u.2.2 ∧ fM [0, 25, 26, 27, 28] fv u.1 ∧ fA [65, 66, 67, 68, 69, 70, 71, 72] ar u.2.2 ∧ u.2.1.2 = wd.2 ∧ ((u.1 0).toInt = 0) ∧ True) (enX dC dI ob ad cA) (aX ob ad sz)) 0 0 (aX ob ad sz) := by
  refine Met.ofW (cc := cX11_seated) (maxL := 3) (ret := (some .int)) (by decide) rfl ?_
  intro p e s m args below meth c s₁ B hml hv
  obtain ⟨rfl, hsz, hP, hK⟩ := hv
  have hx := B.exec
  have hb := B.bytes
  have hr := B.returns
  have hts := atoms_spec (ws := (.code yX11_seated cX11_seated 3 (some .int) :: lw_good)) B.pre
  have htg : ∀ w ∈ lw_good, w.before _ s = true := fun w hw => hts w (List.mem_cons_of_mem _ hw)
  have hown : s.vm.findClass RX11 = some m.cls := findClass_of_methodNamed B.named
  have hlocks := B.notSynchronized
  subst hsz
  have hS : va_S (aX ob ad s.heap.size) s.heap s.heap [] := va_S.rf
  have hl := lv_entry ([.ref (ob 0), .int mm]) (n := 3) (Nat.le_of_ble_eq_true rfl)
  rw [lg_entry_eq]
  generalize (lg_sl ([.ref (ob 0), .int mm]) ++ List.replicate (3 - (lg_sl ([.ref (ob 0), .int mm])).length) Slot.unset).toArray = ls at hl ⊢
  have hl : lv_has ls 3 [(0, .ref (ob 0)), (1, .int mm)] := hl
  refine lv_iconst (v := (-1)) hx hb dX11_seated_0 (by decide) ?_
  refine lv_istore_n (lv' := [(2, .int (-1)), (0, .ref (ob 0)), (1, .int mm)]) hx hb dX11_seated_1 rfl hl (by decide) rfl (fun ls hl => ?_)
  refine lv_iload_n hx hb dX11_seated_2 rfl (lv_at hl 2 rfl) ?_
  refine lv_if_lt (tgt := 47) hx hb dX11_seated_3 (by decide) (fun c_1 => ?_) (fun c_1 => ?_)
  · skip
    have i_2 : (-2147483648) ≤ mm.toInt ∧ mm.toInt ≤ (-1) := iv_lt1 (iv_any mm) (⟨by decide, by decide⟩ : (0 : Int) ≤ (0 : Int32).toInt ∧ (0 : Int32).toInt ≤ 0) c_1
    refine lv_aload_n hx hb dX11_seated_47 rfl (lv_at hl 1 rfl) ?_
    refine lv_iconst (v := 0) hx hb dX11_seated_48 (by decide) ?_
    refine pX_X11_50 hx hb htg hown hK hP hS hd dX11_seated_49 (fun H locs fv_3 efv_3 hP hS => ?_)
    have hF_fv_3 : rX fv_3 := rX_put hF_fv efv_3 (iv_w (⟨by decide, by decide⟩ : (0 : Int) ≤ (0 : Int32).toInt ∧ (0 : Int32).toInt ≤ 0) (by decide) (by decide))
    refine lv_iload_n hx hb dX11_seated_52 rfl (lv_at hl 0 rfl) ?_
    have z_4 : ((-1) : Int32).toInt = (-1) := by decide
    exact W.iret (v := (-1)) hx hb hr (fun t ht hW => ⟨⟨(-1), (fv_3, wd, ar), rfl, ⟨hF_fv_3, hA_ar, (fM_put (fM_rf [0, 25, 26, 27, 28] _) efv_3 (by decide)), (fA_rf [65, 66, 67, 68, 69, 70, 71, 72] _), rfl, (show (fv_3 0).toInt = 0 from by rw [show fv_3 0 = (0 : Int32) from (congrFun efv_3 0)]; decide), trivial⟩, ⟨by rw [ht]; exact hP, va_K.moved hW.alike hK⟩⟩, hS.F ht⟩) hS.2.2 dX11_seated_53
  · skip
    have i_5 : 0 ≤ mm.toInt ∧ mm.toInt ≤ 2147483647 := iv_le2 (⟨by decide, by decide⟩ : (0 : Int) ≤ (0 : Int32).toInt ∧ (0 : Int32).toInt ≤ 0) (iv_any mm) (Int32.not_lt.mp c_1)
    refine lv_iload_n hx hb dX11_seated_6 rfl (lv_at hl 2 rfl) ?_
    refine lv_sipush (v := 200) hx hb dX11_seated_7 (by decide) ?_
    refine lv_icmp_gt (tgt := 47) hx hb dX11_seated_10 (by decide) (fun c_6 => ?_) (fun c_6 => ?_)
    · skip
      have i_7 : 201 ≤ mm.toInt ∧ mm.toInt ≤ 2147483647 := iv_lt2 (⟨by decide, by decide⟩ : (200 : Int) ≤ (200 : Int32).toInt ∧ (200 : Int32).toInt ≤ 200) i_5 c_6
      refine lv_aload_n hx hb dX11_seated_47 rfl (lv_at hl 1 rfl) ?_
      refine lv_iconst (v := 0) hx hb dX11_seated_48 (by decide) ?_
      refine pX_X11_50 hx hb htg hown hK hP hS hd dX11_seated_49 (fun H locs fv_8 efv_8 hP hS => ?_)
      have hF_fv_8 : rX fv_8 := rX_put hF_fv efv_8 (iv_w (⟨by decide, by decide⟩ : (0 : Int) ≤ (0 : Int32).toInt ∧ (0 : Int32).toInt ≤ 0) (by decide) (by decide))
      refine lv_iload_n hx hb dX11_seated_52 rfl (lv_at hl 0 rfl) ?_
      have z_9 : ((-1) : Int32).toInt = (-1) := by decide
      exact W.iret (v := (-1)) hx hb hr (fun t ht hW => ⟨⟨(-1), (fv_8, wd, ar), rfl, ⟨hF_fv_8, hA_ar, (fM_put (fM_rf [0, 25, 26, 27, 28] _) efv_8 (by decide)), (fA_rf [65, 66, 67, 68, 69, 70, 71, 72] _), rfl, (show (fv_8 0).toInt = 0 from by rw [show fv_8 0 = (0 : Int32) from (congrFun efv_8 0)]; decide), trivial⟩, ⟨by rw [ht]; exact hP, va_K.moved hW.alike hK⟩⟩, hS.F ht⟩) hS.2.2 dX11_seated_53
    · skip
      have i_10 : 0 ≤ mm.toInt ∧ mm.toInt ≤ 200 := iv_le1 i_5 (⟨by decide, by decide⟩ : (200 : Int) ≤ (200 : Int32).toInt ∧ (200 : Int32).toInt ≤ 200) (Int32.not_lt.mp c_6)
      refine lv_aload_n hx hb dX11_seated_13 rfl (lv_at hl 1 rfl) ?_
      refine gX_X11_16 hx hb htg hown hK hP dX11_seated_14 ?_
      refine gX_X11_89 hx hb htg hown hK hP dX11_seated_17 ?_
      have i_11 : 0 ≤ (fv 4).toInt ∧ (fv 4).toInt ≤ 8 := hF_fv 4
      refine lv_if_le (tgt := 47) hx hb dX11_seated_20 (by decide) (fun c_12 => ?_) (fun c_12 => ?_)
      · skip
        have i_13 : 0 ≤ (fv 4).toInt ∧ (fv 4).toInt ≤ 0 := iv_le1 i_11 (⟨by decide, by decide⟩ : (0 : Int) ≤ (0 : Int32).toInt ∧ (0 : Int32).toInt ≤ 0) c_12
        refine lv_aload_n hx hb dX11_seated_47 rfl (lv_at hl 1 rfl) ?_
        refine lv_iconst (v := 0) hx hb dX11_seated_48 (by decide) ?_
        refine pX_X11_50 hx hb htg hown hK hP hS hd dX11_seated_49 (fun H locs fv_14 efv_14 hP hS => ?_)
        have hF_fv_14 : rX fv_14 := rX_put hF_fv efv_14 (iv_w (⟨by decide, by decide⟩ : (0 : Int) ≤ (0 : Int32).toInt ∧ (0 : Int32).toInt ≤ 0) (by decide) (by decide))
        refine lv_iload_n hx hb dX11_seated_52 rfl (lv_at hl 0 rfl) ?_
        have z_15 : ((-1) : Int32).toInt = (-1) := by decide
        exact W.iret (v := (-1)) hx hb hr (fun t ht hW => ⟨⟨(-1), (fv_14, wd, ar), rfl, ⟨hF_fv_14, hA_ar, (fM_put (fM_rf [0, 25, 26, 27, 28] _) efv_14 (by decide)), (fA_rf [65, 66, 67, 68, 69, 70, 71, 72] _), rfl, (show (fv_14 0).toInt = 0 from by rw [show fv_14 0 = (0 : Int32) from (congrFun efv_14 0)]; decide), trivial⟩, ⟨by rw [ht]; exact hP, va_K.moved hW.alike hK⟩⟩, hS.F ht⟩) hS.2.2 dX11_seated_53
      · skip
        have i_16 : 1 ≤ (fv 4).toInt ∧ (fv 4).toInt ≤ 8 := iv_lt2 (⟨by decide, by decide⟩ : (0 : Int) ≤ (0 : Int32).toInt ∧ (0 : Int32).toInt ≤ 0) i_11 (Int32.not_le.mp c_12)
        refine lv_aload_n hx hb dX11_seated_23 rfl (lv_at hl 1 rfl) ?_
        have z_17 : 0 ≤ (fv 0).toInt ∧ (fv 0).toInt ≤ 340 := hF_fv 0
        refine va_calli (va_runV (As := []) (rest := []) ⟨hx, hb, hml, hown, hts⟩ (x_tapeIsWheels l dC dI s.heap.size ob ad cA hd fv wd ar hF_fv hA_ar) (cwV 0 hts (gV kw_6_1 kw_6_3 kw_p_47 kw_1_1 kw_6_4) rfl rfl rfl (by decide +kernel) ⟨Nat.le_of_ble_eq_true rfl, Nat.le_of_ble_eq_true rfl⟩) ⟨fun a U g mk q => ⟨q.1, q.2.1, q.2.2.1, va_K.moved (u := U) (U := U.calling g mk a) (Vm.Alike.refl U.vm) q.2.2.2⟩, va_recv hK hP (ci := 11) (q0 := 0) rfl rfl, fun U hU hW => ⟨rfl, by rw [hU], by rw [hU]; exact hP, va_K.moved hW.alike hK⟩⟩ rfl rfl hl.1 rfl (lv_room (Nat.le_of_ble_eq_true rfl)) dX11_seated_24 ⟨Nat.le_of_ble_eq_true rfl, Nat.le_of_ble_eq_true rfl⟩) hS (fun q _ h9 => aX_up hS q h9) (aX_up hS) (fun r_18 u t H1 locs ht _ hw hB _ hk1 hS => ?_)
        obtain ⟨fv_21, wd_22, ar_23⟩ := u
        obtain ⟨hF_fv_21, hA_ar_23, fr_24, fa_25, wf_26, p_19, p_20, -⟩ := hw
        have wf_26 : wd_22.2 = wd.2 := wf_26
        have hP : va_P (dC, dI) vwCl (wsX ob ad cA fv_21 wd_22 ar_23) H1 := by have h9 := hB.1; rw [ht] at h9; exact h9
        have fr_24 : fM [] fv fv_21 := fr_24
        have fa_25 : fA [] ar ar_23 := fa_25
        generalize H1 = H at hP hS ⊢
        rcases p_20 with ⟨rfl, p_20⟩ | ⟨rfl, p_20⟩
        · skip
          refine lv_if_eq (tgt := 47) hx hb dX11_seated_27 (by decide) (fun c_27 => ?_) (fun c_27 => ?_)
          · skip
            refine lv_aload_n hx hb dX11_seated_47 rfl (lv_at hl 1 rfl) ?_
            refine lv_iconst (v := 0) hx hb dX11_seated_48 (by decide) ?_
            refine pX_X11_50 hx hb htg hown hK hP hS hd dX11_seated_49 (fun H locs fv_28 efv_28 hP hS => ?_)
            have hF_fv_28 : rX fv_28 := rX_put hF_fv_21 efv_28 (iv_w (⟨by decide, by decide⟩ : (0 : Int) ≤ (0 : Int32).toInt ∧ (0 : Int32).toInt ≤ 0) (by decide) (by decide))
            refine lv_iload_n hx hb dX11_seated_52 rfl (lv_at hl 0 rfl) ?_
            have z_29 : ((-1) : Int32).toInt = (-1) := by decide
            exact W.iret (v := (-1)) hx hb hr (fun t ht hW => ⟨⟨(-1), (fv_28, wd_22, ar_23), rfl, ⟨hF_fv_28, hA_ar_23, (fM_put (fM_call (fM_rf [0, 25, 26, 27, 28] _) fr_24 (by decide)) efv_28 (by decide)), (fA_call (fA_rf [65, 66, 67, 68, 69, 70, 71, 72] _) fa_25 (by decide)), wf_26, (show (fv_28 0).toInt = 0 from by rw [show fv_28 0 = (0 : Int32) from (congrFun efv_28 0)]; decide), trivial⟩, ⟨by rw [ht]; exact hP, va_K.moved hW.alike hK⟩⟩, hS.F ht⟩) hS.2.2 dX11_seated_53
          · skip
            exact absurd c_27 (by decide)
        · skip
          have i_30 : 1 ≤ (fv 0).toInt ∧ (fv 0).toInt ≤ 340 := ⟨p_20.1, (hF_fv 0).2⟩
          have i_31 : 1 ≤ (fv 0).toInt ∧ (fv 0).toInt ≤ 5 := ⟨i_30.1, p_20.2.1⟩
          have q_32 : ∀ j : Nat, (j : Int) < (fv 0).toInt → (ar 1 j).toInt ≤ 19 := p_20.2.2
          refine lv_if_eq (tgt := 47) hx hb dX11_seated_27 (by decide) (fun c_33 => ?_) (fun c_33 => ?_)
          · skip
            exact absurd c_33 (by decide)
          · skip
            refine lv_aload_n hx hb dX11_seated_30 rfl (lv_at hl 1 rfl) ?_
            refine gX_X11_39 hx hb htg hown hK hP dX11_seated_31 ?_
            refine lv_aload_n hx hb dX11_seated_34 rfl (lv_at hl 1 rfl) ?_
            refine gX_X11_9 hx hb htg hown hK hP dX11_seated_35 ?_
            refine lv_aload_n hx hb dX11_seated_38 rfl (lv_at hl 1 rfl) ?_
            refine gX_X11_50 hx hb htg hown hK hP dX11_seated_39 ?_
            refine my_ti (y := fv 0) ((fr_24 0 rfl)) ?_
            refine lv_iload_n hx hb dX11_seated_42 rfl (lv_at hl 2 rfl) ?_
            have z_34 : (fv_21 0).toInt = (fv 0).toInt := congrArg Int32.toInt ((fr_24 0 rfl))
            have z_35 : 0 ≤ (fv_21 0).toInt ∧ (fv_21 0).toInt ≤ 340 := hF_fv_21 0
            refine va_calli (va_runV (As := [.ref (ad 1), .int (fv 0), .int mm]) (rest := []) ⟨hx, hb, hml, hown, hts⟩ (x_seat l dC dI H.size ob ad cA hd fv_21 wd_22 ar_23 hF_fv_21 hA_ar_23 (fv 0) mm i_31 (fun j hj => by rw [((fA_call (fA_rf [] _) fa_25 (by decide)) 1 rfl)]; exact q_32 j (by omega))) (cwV 3 hts (gV kw_6_9 kw_6_10 kw_6_11 kw_1_14 kw_6_12) rfl rfl rfl (by decide +kernel) ⟨Nat.le_of_ble_eq_true rfl, Nat.le_of_ble_eq_true rfl⟩) ⟨fun a U g mk q => ⟨q.1, q.2.1, q.2.2.1, va_K.moved (u := U) (U := U.calling g mk a) (Vm.Alike.refl U.vm) q.2.2.2⟩, va_recv hK hP (ci := 6) (q0 := 10) rfl rfl, fun U hU hW => ⟨rfl, by rw [hU], by rw [hU]; exact hP, va_K.moved hW.alike hK⟩⟩ rfl rfl hl.1 rfl (lv_room (Nat.le_of_ble_eq_true rfl)) dX11_seated_43 ⟨Nat.le_of_ble_eq_true rfl, Nat.le_of_ble_eq_true rfl⟩) hS (fun q _ h9 => aX_up hS q h9) (aX_up hS) (fun r_36 u t H1 locs ht _ hw hB _ hk1 hS => ?_)
            obtain ⟨fv_37, wd_38, ar_39⟩ := u
            obtain ⟨hF_fv_37, hA_ar_39, fr_40, fa_41, wf_42, -⟩ := hw
            have wf_42 : wd_38.2 = wd_22.2 := wf_42
            have hP : va_P (dC, dI) vwCl (wsX ob ad cA fv_37 wd_38 ar_39) H1 := by have h9 := hB.1; rw [ht] at h9; exact h9
            have fr_40 : fM [25, 26, 27, 28] fv_21 fv_37 := fr_40
            have fa_41 : fA [65, 66, 67, 68, 69, 70, 71, 72] ar_23 ar_39 := fa_41
            generalize H1 = H at hP hS ⊢
            refine lv_istore_n (lv' := [(2, .int r_36), (0, .ref (ob 0)), (1, .int mm)]) hx hb dX11_seated_46 rfl hl (by decide) rfl (fun ls hl => ?_)
            refine lv_aload_n hx hb dX11_seated_47 rfl (lv_at hl 1 rfl) ?_
            refine lv_iconst (v := 0) hx hb dX11_seated_48 (by decide) ?_
            refine pX_X11_50 hx hb htg hown hK hP hS hd dX11_seated_49 (fun H locs fv_43 efv_43 hP hS => ?_)
            have hF_fv_43 : rX fv_43 := rX_put hF_fv_37 efv_43 (iv_w (⟨by decide, by decide⟩ : (0 : Int) ≤ (0 : Int32).toInt ∧ (0 : Int32).toInt ≤ 0) (by decide) (by decide))
            refine lv_iload_n hx hb dX11_seated_52 rfl (lv_at hl 0 rfl) ?_
            exact W.iret (v := r_36) hx hb hr (fun t ht hW => ⟨⟨r_36, (fv_43, wd_38, ar_39), rfl, ⟨hF_fv_43, hA_ar_39, (fM_put (fM_call (fM_call (fM_rf [0, 25, 26, 27, 28] _) fr_24 (by decide)) fr_40 (by decide)) efv_43 (by decide)), (fA_call (fA_call (fA_rf [65, 66, 67, 68, 69, 70, 71, 72] _) fa_25 (by decide)) fa_41 (by decide)), (wf_42.trans wf_26), (show (fv_43 0).toInt = 0 from by rw [show fv_43 0 = (0 : Int32) from (congrFun efv_43 0)]; decide), trivial⟩, ⟨by rw [ht]; exact hP, va_K.moved hW.alike hK⟩⟩, hS.F ht⟩) hS.2.2 dX11_seated_53

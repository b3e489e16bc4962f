theorem rd_cmp {x y : Int64} {v : Int32} (e : v = lg_cmp x y) : v = 0 ↔ x = y := by
  subst e
  unfold lg_cmp
  by_cases h1 : y < x
  · have h2 : ¬ x = y := fun q => by rw [q] at h1; exact Int64.lt_irrefl h1
    simp [h1, h2]
  · by_cases h2 : x = y
    · simp [h2]
    · simp [h1, h2]
def rd_p1 (v : Int64) (c : Int32) : Int64 := if (0 : Int32) < c then 27 * v + c.toInt64 - 96 else v
theorem rd_p1_y {v : Int64} {c : Int32} (h : 0 < c.toInt) : rd_p1 v c = 27 * v + c.toInt64 - 96 := if_pos (Int32.lt_iff_toInt_lt.mpr (by have h2 : (0 : Int32).toInt = 0 := (by decide); omega))
theorem rd_p1_n {v : Int64} {c : Int32} (h : c.toInt ≤ 0) : rd_p1 v c = v := if_neg (fun q => by have h1 := Int32.lt_iff_toInt_lt.mp q; have h2 : (0 : Int32).toInt = 0 := (by decide); omega)
def rd_sp (a b c d f : Int32) : Int64 := rd_p1 (rd_p1 (rd_p1 (27 * (a.toInt64 - 96) + b.toInt64 - 96) c) d) f
theorem rd_key {t : Nat} {num : Int} {kd sg nu : Int32} {w w0 : Int64} (h : rd_rel t num kd sg nu w) {j : Nat} (hj : j ≤ 18 ∨ (22 ≤ j ∧ j ≤ 25)) (e : w0.toInt = rd_u (rd_tb.getD j [])) : (kd.toInt = 2 ∧ w = w0) ↔ t = j := by
  rw [← h.2.2.2.2 j hj, ← e]
  exact ⟨fun q => ⟨q.1, by rw [q.2]⟩, fun q => ⟨q.1, Int64.toInt_inj.mp q.2⟩⟩
set_option maxHeartbeats 4000000 in
set_option maxRecDepth 100000 in
theorem m_speltC (l : Launch) (sz : Nat) (a : Int32) (b : Int32) (v : Int32) (d : Int32) (f : Int32) : Met l yX12_spelt (.code yX12_spelt cX12_spelt 7 (some .long) :: lw_good) ({ frames := 2, cells := 0, slots := 0, locals := 40 }) (va_Pc [.int a, .int b, .int v, .int d, .int f] (fun U => U.heap.size = sz)) (va_Ql (fun (r : Int64) (_ : Unit) => (r = rd_sp a b v d f) ∧ True) (fun (_ : Unit) (_ : State) => True) (fun q => sz ≤ q)) 0 0 (fun q => sz ≤ q) := by
  refine Met.ofW (cc := cX12_spelt) (maxL := 7) (ret := (some .long)) (by decide) rfl ?_
  intro p e s m args below meth c s₁ B hml hv
  obtain ⟨rfl, hsz⟩ := hv
  have hx := B.exec
  have hb := B.bytes
  have hr := B.returns
  have hts := atoms_spec (ws := (.code yX12_spelt cX12_spelt 7 (some .long) :: lw_good)) B.pre
  have htg : ∀ w ∈ lw_good, w.before _ s = true := fun w hw => hts w (List.mem_cons_of_mem _ hw)
  have hown : s.vm.findClass RX12 = some m.cls := findClass_of_methodNamed B.named
  have hlocks := B.notSynchronized
  subst hsz
  have hS : va_S (fun q => s.heap.size ≤ q) s.heap s.heap [] := va_S.rf
  have hl := lv_entry ([.int a, .int b, .int v, .int d, .int f]) (n := 7) (Nat.le_of_ble_eq_true rfl)
  rw [lg_entry_eq]
  generalize (lg_sl ([.int a, .int b, .int v, .int d, .int f]) ++ List.replicate (7 - (lg_sl ([.int a, .int b, .int v, .int d, .int f])).length) Slot.unset).toArray = ls at hl ⊢
  have hl : lv_has ls 7 [(0, .int a), (1, .int b), (2, .int v), (3, .int d), (4, .int f)] := hl
  refine lv_ldc2 (v := 27) hx hb hown (htg (.constantLong RX12 313 27) kw_8_77) dX12_spelt_0 ?_
  refine lv_iload_n hx hb dX12_spelt_3 rfl (lv_at hl 0 rfl) ?_
  refine lv_i2l hx hb dX12_spelt_4 rfl ?_
  refine lv_topl (fun w_1 ew_1 => ?_)
  refine lv_ldc2 (v := 96) hx hb hown (htg (.constantLong RX12 315 96) kw_8_78) dX12_spelt_5 ?_
  refine lv_lsub hx hb dX12_spelt_8 ?_
  refine lv_topl (fun w_2 ew_2 => ?_)
  refine lv_lmul hx hb dX12_spelt_9 ?_
  refine lv_topl (fun w_3 ew_3 => ?_)
  refine lv_iload_n hx hb dX12_spelt_10 rfl (lv_at hl 1 rfl) ?_
  refine lv_i2l hx hb dX12_spelt_11 rfl ?_
  refine lv_topl (fun w_4 ew_4 => ?_)
  refine lv_ladd hx hb dX12_spelt_12 ?_
  refine lv_topl (fun w_5 ew_5 => ?_)
  refine lv_ldc2 (v := 96) hx hb hown (htg (.constantLong RX12 315 96) kw_8_78) dX12_spelt_13 ?_
  refine lv_lsub hx hb dX12_spelt_16 ?_
  refine lv_topl (fun w_6 ew_6 => ?_)
  refine lv_lstore (lv' := [(5, .long w_6), (0, .int a), (1, .int b), (2, .int v), (3, .int d), (4, .int f)]) hx hb dX12_spelt_17 hl (by decide) rfl (fun ls hl => ?_)
  refine lv_iload_n hx hb dX12_spelt_19 rfl (lv_at hl 3 rfl) ?_
  refine lv_if_le (tgt := 38) hx hb dX12_spelt_20 (by decide) (fun c_7 => ?_) (fun c_7 => ?_)
  · skip
    have i_8 : (-2147483648) ≤ v.toInt ∧ v.toInt ≤ 0 := iv_le1 (iv_any v) (⟨by decide, by decide⟩ : (0 : Int) ≤ (0 : Int32).toInt ∧ (0 : Int32).toInt ≤ 0) c_7
    refine lv_iload_n hx hb dX12_spelt_38 rfl (lv_at hl 4 rfl) ?_
    refine lv_if_le (tgt := 57) hx hb dX12_spelt_39 (by decide) (fun c_9 => ?_) (fun c_9 => ?_)
    · skip
      have i_10 : (-2147483648) ≤ d.toInt ∧ d.toInt ≤ 0 := iv_le1 (iv_any d) (⟨by decide, by decide⟩ : (0 : Int) ≤ (0 : Int32).toInt ∧ (0 : Int32).toInt ≤ 0) c_9
      refine lv_iload hx hb dX12_spelt_57 (lv_at hl 5 rfl) ?_
      refine lv_if_le (tgt := 79) hx hb dX12_spelt_59 (by decide) (fun c_11 => ?_) (fun c_11 => ?_)
      · skip
        have i_12 : (-2147483648) ≤ f.toInt ∧ f.toInt ≤ 0 := iv_le1 (iv_any f) (⟨by decide, by decide⟩ : (0 : Int) ≤ (0 : Int32).toInt ∧ (0 : Int32).toInt ≤ 0) c_11
        refine lv_lload hx hb dX12_spelt_79 (lv_at hl 0 rfl) ?_
        exact W.lret (v := w_6) hx hb hr (fun t ht hW => ⟨⟨w_6, (), rfl, ⟨(show w_6 = rd_sp a b v d f from by unfold rd_sp; rw [rd_p1_n (c := v) (by omega), rd_p1_n (c := d) (by omega), rd_p1_n (c := f) (by omega)]; rw [ew_6, ew_5, ew_4, ew_3, ew_2, ew_1]), trivial⟩, trivial⟩, hS.F ht⟩) hS.2.2 dX12_spelt_81
      · skip
        have i_13 : 1 ≤ f.toInt ∧ f.toInt ≤ 2147483647 := iv_lt2 (⟨by decide, by decide⟩ : (0 : Int) ≤ (0 : Int32).toInt ∧ (0 : Int32).toInt ≤ 0) (iv_any f) (Int32.not_le.mp c_11)
        refine lv_ldc2 (v := 27) hx hb hown (htg (.constantLong RX12 313 27) kw_8_77) dX12_spelt_62 ?_
        refine lv_lload hx hb dX12_spelt_65 (lv_at hl 0 rfl) ?_
        refine lv_lmul hx hb dX12_spelt_67 ?_
        refine lv_topl (fun w_14 ew_14 => ?_)
        refine lv_iload hx hb dX12_spelt_68 (lv_at hl 5 rfl) ?_
        refine lv_i2l hx hb dX12_spelt_70 rfl ?_
        refine lv_topl (fun w_15 ew_15 => ?_)
        refine lv_ladd hx hb dX12_spelt_71 ?_
        refine lv_topl (fun w_16 ew_16 => ?_)
        refine lv_ldc2 (v := 96) hx hb hown (htg (.constantLong RX12 315 96) kw_8_78) dX12_spelt_72 ?_
        refine lv_lsub hx hb dX12_spelt_75 ?_
        refine lv_topl (fun w_17 ew_17 => ?_)
        refine lv_goto (tgt := 81) hx hb dX12_spelt_76 (by decide) ?_
        exact W.lret (v := w_17) hx hb hr (fun t ht hW => ⟨⟨w_17, (), rfl, ⟨(show w_17 = rd_sp a b v d f from by unfold rd_sp; rw [rd_p1_n (c := v) (by omega), rd_p1_n (c := d) (by omega), rd_p1_y (c := f) (by omega)]; rw [ew_17, ew_16, ew_15, ew_14, ew_6, ew_5, ew_4, ew_3, ew_2, ew_1]), trivial⟩, trivial⟩, hS.F ht⟩) hS.2.2 dX12_spelt_81
    · skip
      have i_18 : 1 ≤ d.toInt ∧ d.toInt ≤ 2147483647 := iv_lt2 (⟨by decide, by decide⟩ : (0 : Int) ≤ (0 : Int32).toInt ∧ (0 : Int32).toInt ≤ 0) (iv_any d) (Int32.not_le.mp c_9)
      refine lv_ldc2 (v := 27) hx hb hown (htg (.constantLong RX12 313 27) kw_8_77) dX12_spelt_42 ?_
      refine lv_lload hx hb dX12_spelt_45 (lv_at hl 0 rfl) ?_
      refine lv_lmul hx hb dX12_spelt_47 ?_
      refine lv_topl (fun w_19 ew_19 => ?_)
      refine lv_iload_n hx hb dX12_spelt_48 rfl (lv_at hl 4 rfl) ?_
      refine lv_i2l hx hb dX12_spelt_49 rfl ?_
      refine lv_topl (fun w_20 ew_20 => ?_)
      refine lv_ladd hx hb dX12_spelt_50 ?_
      refine lv_topl (fun w_21 ew_21 => ?_)
      refine lv_ldc2 (v := 96) hx hb hown (htg (.constantLong RX12 315 96) kw_8_78) dX12_spelt_51 ?_
      refine lv_lsub hx hb dX12_spelt_54 ?_
      refine lv_topl (fun w_22 ew_22 => ?_)
      refine lv_lstore (lv' := [(5, .long w_22), (0, .int a), (1, .int b), (2, .int v), (3, .int d), (4, .int f)]) hx hb dX12_spelt_55 hl (by decide) rfl (fun ls hl => ?_)
      refine lv_iload hx hb dX12_spelt_57 (lv_at hl 5 rfl) ?_
      refine lv_if_le (tgt := 79) hx hb dX12_spelt_59 (by decide) (fun c_23 => ?_) (fun c_23 => ?_)
      · skip
        have i_24 : (-2147483648) ≤ f.toInt ∧ f.toInt ≤ 0 := iv_le1 (iv_any f) (⟨by decide, by decide⟩ : (0 : Int) ≤ (0 : Int32).toInt ∧ (0 : Int32).toInt ≤ 0) c_23
        refine lv_lload hx hb dX12_spelt_79 (lv_at hl 0 rfl) ?_
        exact W.lret (v := w_22) hx hb hr (fun t ht hW => ⟨⟨w_22, (), rfl, ⟨(show w_22 = rd_sp a b v d f from by unfold rd_sp; rw [rd_p1_n (c := v) (by omega), rd_p1_y (c := d) (by omega), rd_p1_n (c := f) (by omega)]; rw [ew_22, ew_21, ew_20, ew_19, ew_6, ew_5, ew_4, ew_3, ew_2, ew_1]), trivial⟩, trivial⟩, hS.F ht⟩) hS.2.2 dX12_spelt_81
      · skip
        have i_25 : 1 ≤ f.toInt ∧ f.toInt ≤ 2147483647 := iv_lt2 (⟨by decide, by decide⟩ : (0 : Int) ≤ (0 : Int32).toInt ∧ (0 : Int32).toInt ≤ 0) (iv_any f) (Int32.not_le.mp c_23)
        refine lv_ldc2 (v := 27) hx hb hown (htg (.constantLong RX12 313 27) kw_8_77) dX12_spelt_62 ?_
        refine lv_lload hx hb dX12_spelt_65 (lv_at hl 0 rfl) ?_
        refine lv_lmul hx hb dX12_spelt_67 ?_
        refine lv_topl (fun w_26 ew_26 => ?_)
        refine lv_iload hx hb dX12_spelt_68 (lv_at hl 5 rfl) ?_
        refine lv_i2l hx hb dX12_spelt_70 rfl ?_
        refine lv_topl (fun w_27 ew_27 => ?_)
        refine lv_ladd hx hb dX12_spelt_71 ?_
        refine lv_topl (fun w_28 ew_28 => ?_)
        refine lv_ldc2 (v := 96) hx hb hown (htg (.constantLong RX12 315 96) kw_8_78) dX12_spelt_72 ?_
        refine lv_lsub hx hb dX12_spelt_75 ?_
        refine lv_topl (fun w_29 ew_29 => ?_)
        refine lv_goto (tgt := 81) hx hb dX12_spelt_76 (by decide) ?_
        exact W.lret (v := w_29) hx hb hr (fun t ht hW => ⟨⟨w_29, (), rfl, ⟨(show w_29 = rd_sp a b v d f from by unfold rd_sp; rw [rd_p1_n (c := v) (by omega), rd_p1_y (c := d) (by omega), rd_p1_y (c := f) (by omega)]; rw [ew_29, ew_28, ew_27, ew_26, ew_22, ew_21, ew_20, ew_19, ew_6, ew_5, ew_4, ew_3, ew_2, ew_1]), trivial⟩, trivial⟩, hS.F ht⟩) hS.2.2 dX12_spelt_81
  · skip
    have i_30 : 1 ≤ v.toInt ∧ v.toInt ≤ 2147483647 := iv_lt2 (⟨by decide, by decide⟩ : (0 : Int) ≤ (0 : Int32).toInt ∧ (0 : Int32).toInt ≤ 0) (iv_any v) (Int32.not_le.mp c_7)
    refine lv_ldc2 (v := 27) hx hb hown (htg (.constantLong RX12 313 27) kw_8_77) dX12_spelt_23 ?_
    refine lv_lload hx hb dX12_spelt_26 (lv_at hl 0 rfl) ?_
    refine lv_lmul hx hb dX12_spelt_28 ?_
    refine lv_topl (fun w_31 ew_31 => ?_)
    refine lv_iload_n hx hb dX12_spelt_29 rfl (lv_at hl 3 rfl) ?_
    refine lv_i2l hx hb dX12_spelt_30 rfl ?_
    refine lv_topl (fun w_32 ew_32 => ?_)
    refine lv_ladd hx hb dX12_spelt_31 ?_
    refine lv_topl (fun w_33 ew_33 => ?_)
    refine lv_ldc2 (v := 96) hx hb hown (htg (.constantLong RX12 315 96) kw_8_78) dX12_spelt_32 ?_
    refine lv_lsub hx hb dX12_spelt_35 ?_
    refine lv_topl (fun w_34 ew_34 => ?_)
    refine lv_lstore (lv' := [(5, .long w_34), (0, .int a), (1, .int b), (2, .int v), (3, .int d), (4, .int f)]) hx hb dX12_spelt_36 hl (by decide) rfl (fun ls hl => ?_)
    refine lv_iload_n hx hb dX12_spelt_38 rfl (lv_at hl 4 rfl) ?_
    refine lv_if_le (tgt := 57) hx hb dX12_spelt_39 (by decide) (fun c_35 => ?_) (fun c_35 => ?_)
    · skip
      have i_36 : (-2147483648) ≤ d.toInt ∧ d.toInt ≤ 0 := iv_le1 (iv_any d) (⟨by decide, by decide⟩ : (0 : Int) ≤ (0 : Int32).toInt ∧ (0 : Int32).toInt ≤ 0) c_35
      refine lv_iload hx hb dX12_spelt_57 (lv_at hl 5 rfl) ?_
      refine lv_if_le (tgt := 79) hx hb dX12_spelt_59 (by decide) (fun c_37 => ?_) (fun c_37 => ?_)
      · skip
        have i_38 : (-2147483648) ≤ f.toInt ∧ f.toInt ≤ 0 := iv_le1 (iv_any f) (⟨by decide, by decide⟩ : (0 : Int) ≤ (0 : Int32).toInt ∧ (0 : Int32).toInt ≤ 0) c_37
        refine lv_lload hx hb dX12_spelt_79 (lv_at hl 0 rfl) ?_
        exact W.lret (v := w_34) hx hb hr (fun t ht hW => ⟨⟨w_34, (), rfl, ⟨(show w_34 = rd_sp a b v d f from by unfold rd_sp; rw [rd_p1_y (c := v) (by omega), rd_p1_n (c := d) (by omega), rd_p1_n (c := f) (by omega)]; rw [ew_34, ew_33, ew_32, ew_31, ew_6, ew_5, ew_4, ew_3, ew_2, ew_1]), trivial⟩, trivial⟩, hS.F ht⟩) hS.2.2 dX12_spelt_81
      · skip
        have i_39 : 1 ≤ f.toInt ∧ f.toInt ≤ 2147483647 := iv_lt2 (⟨by decide, by decide⟩ : (0 : Int) ≤ (0 : Int32).toInt ∧ (0 : Int32).toInt ≤ 0) (iv_any f) (Int32.not_le.mp c_37)
        refine lv_ldc2 (v := 27) hx hb hown (htg (.constantLong RX12 313 27) kw_8_77) dX12_spelt_62 ?_
        refine lv_lload hx hb dX12_spelt_65 (lv_at hl 0 rfl) ?_
        refine lv_lmul hx hb dX12_spelt_67 ?_
        refine lv_topl (fun w_40 ew_40 => ?_)
        refine lv_iload hx hb dX12_spelt_68 (lv_at hl 5 rfl) ?_
        refine lv_i2l hx hb dX12_spelt_70 rfl ?_
        refine lv_topl (fun w_41 ew_41 => ?_)
        refine lv_ladd hx hb dX12_spelt_71 ?_
        refine lv_topl (fun w_42 ew_42 => ?_)
        refine lv_ldc2 (v := 96) hx hb hown (htg (.constantLong RX12 315 96) kw_8_78) dX12_spelt_72 ?_
        refine lv_lsub hx hb dX12_spelt_75 ?_
        refine lv_topl (fun w_43 ew_43 => ?_)
        refine lv_goto (tgt := 81) hx hb dX12_spelt_76 (by decide) ?_
        exact W.lret (v := w_43) hx hb hr (fun t ht hW => ⟨⟨w_43, (), rfl, ⟨(show w_43 = rd_sp a b v d f from by unfold rd_sp; rw [rd_p1_y (c := v) (by omega), rd_p1_n (c := d) (by omega), rd_p1_y (c := f) (by omega)]; rw [ew_43, ew_42, ew_41, ew_40, ew_34, ew_33, ew_32, ew_31, ew_6, ew_5, ew_4, ew_3, ew_2, ew_1]), trivial⟩, trivial⟩, hS.F ht⟩) hS.2.2 dX12_spelt_81
    · skip
      have i_44 : 1 ≤ d.toInt ∧ d.toInt ≤ 2147483647 := iv_lt2 (⟨by decide, by decide⟩ : (0 : Int) ≤ (0 : Int32).toInt ∧ (0 : Int32).toInt ≤ 0) (iv_any d) (Int32.not_le.mp c_35)
      refine lv_ldc2 (v := 27) hx hb hown (htg (.constantLong RX12 313 27) kw_8_77) dX12_spelt_42 ?_
      refine lv_lload hx hb dX12_spelt_45 (lv_at hl 0 rfl) ?_
      refine lv_lmul hx hb dX12_spelt_47 ?_
      refine lv_topl (fun w_45 ew_45 => ?_)
      refine lv_iload_n hx hb dX12_spelt_48 rfl (lv_at hl 4 rfl) ?_
      refine lv_i2l hx hb dX12_spelt_49 rfl ?_
      refine lv_topl (fun w_46 ew_46 => ?_)
      refine lv_ladd hx hb dX12_spelt_50 ?_
      refine lv_topl (fun w_47 ew_47 => ?_)
      refine lv_ldc2 (v := 96) hx hb hown (htg (.constantLong RX12 315 96) kw_8_78) dX12_spelt_51 ?_
      refine lv_lsub hx hb dX12_spelt_54 ?_
      refine lv_topl (fun w_48 ew_48 => ?_)
      refine lv_lstore (lv' := [(5, .long w_48), (0, .int a), (1, .int b), (2, .int v), (3, .int d), (4, .int f)]) hx hb dX12_spelt_55 hl (by decide) rfl (fun ls hl => ?_)
      refine lv_iload hx hb dX12_spelt_57 (lv_at hl 5 rfl) ?_
      refine lv_if_le (tgt := 79) hx hb dX12_spelt_59 (by decide) (fun c_49 => ?_) (fun c_49 => ?_)
      · skip
        have i_50 : (-2147483648) ≤ f.toInt ∧ f.toInt ≤ 0 := iv_le1 (iv_any f) (⟨by decide, by decide⟩ : (0 : Int) ≤ (0 : Int32).toInt ∧ (0 : Int32).toInt ≤ 0) c_49
        refine lv_lload hx hb dX12_spelt_79 (lv_at hl 0 rfl) ?_
        exact W.lret (v := w_48) hx hb hr (fun t ht hW => ⟨⟨w_48, (), rfl, ⟨(show w_48 = rd_sp a b v d f from by unfold rd_sp; rw [rd_p1_y (c := v) (by omega), rd_p1_y (c := d) (by omega), rd_p1_n (c := f) (by omega)]; rw [ew_48, ew_47, ew_46, ew_45, ew_34, ew_33, ew_32, ew_31, ew_6, ew_5, ew_4, ew_3, ew_2, ew_1]), trivial⟩, trivial⟩, hS.F ht⟩) hS.2.2 dX12_spelt_81
      · skip
        have i_51 : 1 ≤ f.toInt ∧ f.toInt ≤ 2147483647 := iv_lt2 (⟨by decide, by decide⟩ : (0 : Int) ≤ (0 : Int32).toInt ∧ (0 : Int32).toInt ≤ 0) (iv_any f) (Int32.not_le.mp c_49)
        refine lv_ldc2 (v := 27) hx hb hown (htg (.constantLong RX12 313 27) kw_8_77) dX12_spelt_62 ?_
        refine lv_lload hx hb dX12_spelt_65 (lv_at hl 0 rfl) ?_
        refine lv_lmul hx hb dX12_spelt_67 ?_
        refine lv_topl (fun w_52 ew_52 => ?_)
        refine lv_iload hx hb dX12_spelt_68 (lv_at hl 5 rfl) ?_
        refine lv_i2l hx hb dX12_spelt_70 rfl ?_
        refine lv_topl (fun w_53 ew_53 => ?_)
        refine lv_ladd hx hb dX12_spelt_71 ?_
        refine lv_topl (fun w_54 ew_54 => ?_)
        refine lv_ldc2 (v := 96) hx hb hown (htg (.constantLong RX12 315 96) kw_8_78) dX12_spelt_72 ?_
        refine lv_lsub hx hb dX12_spelt_75 ?_
        refine lv_topl (fun w_55 ew_55 => ?_)
        refine lv_goto (tgt := 81) hx hb dX12_spelt_76 (by decide) ?_
        exact W.lret (v := w_55) hx hb hr (fun t ht hW => ⟨⟨w_55, (), rfl, ⟨(show w_55 = rd_sp a b v d f from by unfold rd_sp; rw [rd_p1_y (c := v) (by omega), rd_p1_y (c := d) (by omega), rd_p1_y (c := f) (by omega)]; rw [ew_55, ew_54, ew_53, ew_52, ew_48, ew_47, ew_46, ew_45, ew_34, ew_33, ew_32, ew_31, ew_6, ew_5, ew_4, ew_3, ew_2, ew_1]), trivial⟩, trivial⟩, hS.F ht⟩) hS.2.2 dX12_spelt_81
set_option maxHeartbeats 4000000 in
set_option maxRecDepth 100000 in
theorem m_isKeyC (l : Launch) (dC : Nat → ClassId) (dI : Nat → Nat → Nat) (sz h : Nat) (ad : Nat → Nat) (cA : Nat → ClassId) (hd : dM h ad) (fv : Nat → Int32) (wd : Int64) (ar : Nat → Nat → Int32) (hF_fv : rF fv) (hA_ar : rA ar) (w0 : Int64) : Met l yX12_isKey (.code yX12_isKey cX12_isKey 3 (some .boolean) :: lw_good) ({ frames := 2, cells := 0, slots := 0, locals := 40 }) (va_Pc [.ref h, .long w0] (prM dC dI h ad cA fv wd ar sz)) (va_Qi (fun (r : Int32) (u : mS) => rF u.1 ∧ rA u.2.2 ∧ fM [] fv u.1 ∧ fA [] ar u.2.2 ∧ (0 ≤ r.toInt ∧ r.toInt ≤ 1) ∧ (u.2.1 = wd) ∧ ((r = 1 ∧ (fv 40).toInt = 2 ∧ wd = w0) ∨ (r = 0 ∧ ¬ ((fv 40).toInt = 2 ∧ wd = w0))) ∧ True) (enM dC dI h ad cA) (aM h ad sz)) 0 0 (aM h ad sz) := by
  refine Met.ofW (cc := cX12_isKey) (maxL := 3) (ret := (some .boolean)) (by decide) rfl ?_
  intro p e s m args below meth c s₁ B hml hv
  obtain ⟨rfl, hsz, hP, hK⟩ := hv
  have hx := B.exec
  have hb := B.bytes
  have hr := B.returns
  have hts := atoms_spec (ws := (.code yX12_isKey cX12_isKey 3 (some .boolean) :: lw_good)) B.pre
  have htg : ∀ w ∈ lw_good, w.before _ s = true := fun w hw => hts w (List.mem_cons_of_mem _ hw)
  have hown : s.vm.findClass RX12 = some m.cls := findClass_of_methodNamed B.named
  have hlocks := B.notSynchronized
  subst hsz
  have hS : va_S (aM h ad s.heap.size) s.heap s.heap [] := va_S.rf
  have hl := lv_entry ([.ref h, .long w0]) (n := 3) (Nat.le_of_ble_eq_true rfl)
  rw [lg_entry_eq]
  generalize (lg_sl ([.ref h, .long w0]) ++ List.replicate (3 - (lg_sl ([.ref h, .long w0])).length) Slot.unset).toArray = ls at hl ⊢
  have hl : lv_has ls 3 [(0, .ref h), (1, .long w0)] := hl
  refine lv_aload_n hx hb dX12_isKey_0 rfl (lv_at hl 0 rfl) ?_
  refine gM_40 hx hb htg hown hK hP dX12_isKey_1 ?_
  refine lv_iconst (v := 2) hx hb dX12_isKey_4 (by decide) ?_
  refine lv_icmp_ne (tgt := 21) hx hb dX12_isKey_5 (by decide) (fun c_1 => ?_) (fun c_1 => ?_)
  · skip
    have k_2 : ¬ (fv 40).toInt = 2 := fun q => c_1 (Int32.toInt_inj.mp q)
    refine lv_iconst (v := 0) hx hb dX12_isKey_21 (by decide) ?_
    have z_3 : (0 : Int32).toInt = 0 := by decide
    exact W.zret (v := 0) hx hb hr (by decide) (fun t ht hW => ⟨⟨0, (fv, wd, ar), rfl, ⟨hF_fv, hA_ar, (fM_rf [] _), (fA_rf [] _), (iv_w (⟨by decide, by decide⟩ : (0 : Int) ≤ (0 : Int32).toInt ∧ (0 : Int32).toInt ≤ 0) (by decide) (by decide)), rfl, (show ((0 : Int32) = 1 ∧ (fv 40).toInt = 2 ∧ wd = w0) ∨ ((0 : Int32) = 0 ∧ ¬ ((fv 40).toInt = 2 ∧ wd = w0)) from Or.inr ⟨rfl, fun w => by omega⟩), trivial⟩, ⟨by rw [ht]; exact hP, va_K.moved hW.alike hK⟩⟩, hS.F ht⟩) hS.2.2 dX12_isKey_22
  · skip
    have i_4 : 2 ≤ (fv 40).toInt ∧ (fv 40).toInt ≤ 2 := iv_eq1 (⟨by decide, by decide⟩ : (2 : Int) ≤ (2 : Int32).toInt ∧ (2 : Int32).toInt ≤ 2) c_1
    refine lv_aload_n hx hb dX12_isKey_8 rfl (lv_at hl 0 rfl) ?_
    refine gM_46 hx hb htg hown hK hP dX12_isKey_9 ?_
    refine lv_lload_n hx hb dX12_isKey_12 rfl (lv_at hl 1 rfl) ?_
    refine W.lcmp hx hb dX12_isKey_13 ?_
    refine lv_topi (fun v_6 ev_6 => ?_)
    refine lv_if_ne (tgt := 21) hx hb dX12_isKey_14 (by decide) (fun c_7 => ?_) (fun c_7 => ?_)
    · skip
      have k_8 : ¬ v_6.toInt = 0 := fun q => c_7 (Int32.toInt_inj.mp q)
      refine lv_iconst (v := 0) hx hb dX12_isKey_21 (by decide) ?_
      have z_9 : (0 : Int32).toInt = 0 := by decide
      exact W.zret (v := 0) hx hb hr (by decide) (fun t ht hW => ⟨⟨0, (fv, wd, ar), rfl, ⟨hF_fv, hA_ar, (fM_rf [] _), (fA_rf [] _), (iv_w (⟨by decide, by decide⟩ : (0 : Int) ≤ (0 : Int32).toInt ∧ (0 : Int32).toInt ≤ 0) (by decide) (by decide)), rfl, (show ((0 : Int32) = 1 ∧ (fv 40).toInt = 2 ∧ wd = w0) ∨ ((0 : Int32) = 0 ∧ ¬ ((fv 40).toInt = 2 ∧ wd = w0)) from Or.inr ⟨rfl, fun w => by have h9 := (rd_cmp ev_6).mpr w.2; have h8 := congrArg Int32.toInt h9; have h7 : (0 : Int32).toInt = 0 := (by decide); omega⟩), trivial⟩, ⟨by rw [ht]; exact hP, va_K.moved hW.alike hK⟩⟩, hS.F ht⟩) hS.2.2 dX12_isKey_22
    · skip
      have i_10 : 0 ≤ v_6.toInt ∧ v_6.toInt ≤ 0 := iv_eq1 (⟨by decide, by decide⟩ : (0 : Int) ≤ (0 : Int32).toInt ∧ (0 : Int32).toInt ≤ 0) c_7
      refine lv_iconst (v := 1) hx hb dX12_isKey_17 (by decide) ?_
      refine lv_goto (tgt := 22) hx hb dX12_isKey_18 (by decide) ?_
      have z_12 : (1 : Int32).toInt = 1 := by decide
      exact W.zret (v := 1) hx hb hr (by decide) (fun t ht hW => ⟨⟨1, (fv, wd, ar), rfl, ⟨hF_fv, hA_ar, (fM_rf [] _), (fA_rf [] _), (iv_w (⟨by decide, by decide⟩ : (1 : Int) ≤ (1 : Int32).toInt ∧ (1 : Int32).toInt ≤ 1) (by decide) (by decide)), rfl, (show ((1 : Int32) = 1 ∧ (fv 40).toInt = 2 ∧ wd = w0) ∨ ((1 : Int32) = 0 ∧ ¬ ((fv 40).toInt = 2 ∧ wd = w0)) from Or.inl ⟨rfl, by omega, (rd_cmp ev_6).mp (Int32.toInt_inj.mp (by rw [show (0 : Int32).toInt = 0 from (by decide)]; omega))⟩), trivial⟩, ⟨by rw [ht]; exact hP, va_K.moved hW.alike hK⟩⟩, hS.F ht⟩) hS.2.2 dX12_isKey_22
set_option maxHeartbeats 4000000 in
set_option maxRecDepth 100000 in
theorem m_isSignC (l : Launch) (dC : Nat → ClassId) (dI : Nat → Nat → Nat) (sz h : Nat) (ad : Nat → Nat) (cA : Nat → ClassId) (hd : dM h ad) (fv : Nat → Int32) (wd : Int64) (ar : Nat → Nat → Int32) (hF_fv : rF fv) (hA_ar : rA ar) (a : Int32) : Met l yX12_isSign (.code yX12_isSign cX12_isSign 2 (some .boolean) :: lw_good) ({ frames := 2, cells := 0, slots := 0, locals := 40 }) (va_Pc [.ref h, .int a] (prM dC dI h ad cA fv wd ar sz)) (va_Qi (fun (r : Int32) (u : mS) => rF u.1 ∧ rA u.2.2 ∧ fM [] fv u.1 ∧ fA [] ar u.2.2 ∧ (0 ≤ r.toInt ∧ r.toInt ≤ 1) ∧ (u.2.1 = wd) ∧ ((r = 1 ∧ (fv 40).toInt = 4 ∧ (fv 42).toInt = a.toInt) ∨ (r = 0 ∧ ¬ ((fv 40).toInt = 4 ∧ (fv 42).toInt = a.toInt))) ∧ True) (enM dC dI h ad cA) (aM h ad sz)) 0 0 (aM h ad sz) := by
  refine Met.ofW (cc := cX12_isSign) (maxL := 2) (ret := (some .boolean)) (by decide) rfl ?_
  intro p e s m args below meth c s₁ B hml hv
  obtain ⟨rfl, hsz, hP, hK⟩ := hv
  have hx := B.exec
  have hb := B.bytes
  have hr := B.returns
  have hts := atoms_spec (ws := (.code yX12_isSign cX12_isSign 2 (some .boolean) :: lw_good)) B.pre
  have htg : ∀ w ∈ lw_good, w.before _ s = true := fun w hw => hts w (List.mem_cons_of_mem _ hw)
  have hown : s.vm.findClass RX12 = some m.cls := findClass_of_methodNamed B.named
  have hlocks := B.notSynchronized
  subst hsz
  have hS : va_S (aM h ad s.heap.size) s.heap s.heap [] := va_S.rf
  have hl := lv_entry ([.ref h, .int a]) (n := 2) (Nat.le_of_ble_eq_true rfl)
  rw [lg_entry_eq]
  generalize (lg_sl ([.ref h, .int a]) ++ List.replicate (2 - (lg_sl ([.ref h, .int a])).length) Slot.unset).toArray = ls at hl ⊢
  have hl : lv_has ls 2 [(0, .ref h), (1, .int a)] := hl
  refine lv_aload_n hx hb dX12_isSign_0 rfl (lv_at hl 0 rfl) ?_
  refine gM_40 hx hb htg hown hK hP dX12_isSign_1 ?_
  refine lv_iconst (v := 4) hx hb dX12_isSign_4 (by decide) ?_
  refine lv_icmp_ne (tgt := 20) hx hb dX12_isSign_5 (by decide) (fun c_1 => ?_) (fun c_1 => ?_)
  · skip
    have k_2 : ¬ (fv 40).toInt = 4 := fun q => c_1 (Int32.toInt_inj.mp q)
    refine lv_iconst (v := 0) hx hb dX12_isSign_20 (by decide) ?_
    have z_3 : (0 : Int32).toInt = 0 := by decide
    exact W.zret (v := 0) hx hb hr (by decide) (fun t ht hW => ⟨⟨0, (fv, wd, ar), rfl, ⟨hF_fv, hA_ar, (fM_rf [] _), (fA_rf [] _), (iv_w (⟨by decide, by decide⟩ : (0 : Int) ≤ (0 : Int32).toInt ∧ (0 : Int32).toInt ≤ 0) (by decide) (by decide)), rfl, (show ((0 : Int32) = 1 ∧ (fv 40).toInt = 4 ∧ (fv 42).toInt = a.toInt) ∨ ((0 : Int32) = 0 ∧ ¬ ((fv 40).toInt = 4 ∧ (fv 42).toInt = a.toInt)) from Or.inr ⟨rfl, by omega⟩), trivial⟩, ⟨by rw [ht]; exact hP, va_K.moved hW.alike hK⟩⟩, hS.F ht⟩) hS.2.2 dX12_isSign_21
  · skip
    have i_4 : 4 ≤ (fv 40).toInt ∧ (fv 40).toInt ≤ 4 := iv_eq1 (⟨by decide, by decide⟩ : (4 : Int) ≤ (4 : Int32).toInt ∧ (4 : Int32).toInt ≤ 4) c_1
    refine lv_aload_n hx hb dX12_isSign_8 rfl (lv_at hl 0 rfl) ?_
    refine gM_42 hx hb htg hown hK hP dX12_isSign_9 ?_
    refine lv_iload_n hx hb dX12_isSign_12 rfl (lv_at hl 1 rfl) ?_
    refine lv_icmp_ne (tgt := 20) hx hb dX12_isSign_13 (by decide) (fun c_6 => ?_) (fun c_6 => ?_)
    · skip
      have k_7 : ¬ (fv 42).toInt = a.toInt := fun q => c_6 (Int32.toInt_inj.mp q)
      refine lv_iconst (v := 0) hx hb dX12_isSign_20 (by decide) ?_
      have z_8 : (0 : Int32).toInt = 0 := by decide
      exact W.zret (v := 0) hx hb hr (by decide) (fun t ht hW => ⟨⟨0, (fv, wd, ar), rfl, ⟨hF_fv, hA_ar, (fM_rf [] _), (fA_rf [] _), (iv_w (⟨by decide, by decide⟩ : (0 : Int) ≤ (0 : Int32).toInt ∧ (0 : Int32).toInt ≤ 0) (by decide) (by decide)), rfl, (show ((0 : Int32) = 1 ∧ (fv 40).toInt = 4 ∧ (fv 42).toInt = a.toInt) ∨ ((0 : Int32) = 0 ∧ ¬ ((fv 40).toInt = 4 ∧ (fv 42).toInt = a.toInt)) from Or.inr ⟨rfl, by omega⟩), trivial⟩, ⟨by rw [ht]; exact hP, va_K.moved hW.alike hK⟩⟩, hS.F ht⟩) hS.2.2 dX12_isSign_21
    · skip
      have k_9 := congrArg Int32.toInt c_6
      refine lv_iconst (v := 1) hx hb dX12_isSign_16 (by decide) ?_
      refine lv_goto (tgt := 21) hx hb dX12_isSign_17 (by decide) ?_
      have z_10 : (1 : Int32).toInt = 1 := by decide
      exact W.zret (v := 1) hx hb hr (by decide) (fun t ht hW => ⟨⟨1, (fv, wd, ar), rfl, ⟨hF_fv, hA_ar, (fM_rf [] _), (fA_rf [] _), (iv_w (⟨by decide, by decide⟩ : (1 : Int) ≤ (1 : Int32).toInt ∧ (1 : Int32).toInt ≤ 1) (by decide) (by decide)), rfl, (show ((1 : Int32) = 1 ∧ (fv 40).toInt = 4 ∧ (fv 42).toInt = a.toInt) ∨ ((1 : Int32) = 0 ∧ ¬ ((fv 40).toInt = 4 ∧ (fv 42).toInt = a.toInt)) from Or.inl ⟨rfl, by omega, by omega⟩), trivial⟩, ⟨by rw [ht]; exact hP, va_K.moved hW.alike hK⟩⟩, hS.F ht⟩) hS.2.2 dX12_isSign_21
set_option maxHeartbeats 4000000 in
set_option maxRecDepth 100000 in
theorem m_badC (l : Launch) (dC : Nat → ClassId) (dI : Nat → Nat → Nat) (sz h : Nat) (ad : Nat → Nat) (cA : Nat → ClassId) (hd : dM h ad) (fv : Nat → Int32) (wd : Int64) (ar : Nat → Nat → Int32) (hF_fv : rF fv) (hA_ar : rA ar) (a : Int32) : Met l yX12_bad (.code yX12_bad cX12_bad 2 (some .boolean) :: lw_good) ({ frames := 2, cells := 0, slots := 0, locals := 40 }) (va_Pc [.ref h, .int a] (prM dC dI h ad cA fv wd ar sz)) (va_Qi (fun (r : Int32) (u : mS) => rF u.1 ∧ rA u.2.2 ∧ fM [43, 44] fv u.1 ∧ fA [] ar u.2.2 ∧ (0 ≤ r.toInt ∧ r.toInt ≤ 1) ∧ ((r = 0 ∧ True)) ∧ (u.2.1 = wd) ∧ ((u.1 43 = 1 ∨ u.1 43 = a) ∧ ((fv 40).toInt = 1 → u.1 43 = 1) ∧ (¬ (fv 40).toInt = 1 → u.1 43 = a) ∧ (u.1 44).toInt = (fv 39).toInt) ∧ True) (enM dC dI h ad cA) (aM h ad sz)) 0 0 (aM h ad sz) := by
  refine Met.ofW (cc := cX12_bad) (maxL := 2) (ret := (some .boolean)) (by decide) rfl ?_
  intro p e s m args below meth c s₁ B hml hv
  obtain ⟨rfl, hsz, hP, hK⟩ := hv
  have hx := B.exec
  have hb := B.bytes
  have hr := B.returns
  have hts := atoms_spec (ws := (.code yX12_bad cX12_bad 2 (some .boolean) :: lw_good)) B.pre
  have htg : ∀ w ∈ lw_good, w.before _ s = true := fun w hw => hts w (List.mem_cons_of_mem _ hw)
  have hown : s.vm.findClass RX12 = some m.cls := findClass_of_methodNamed B.named
  have hlocks := B.notSynchronized
  subst hsz
  have hS : va_S (aM h ad s.heap.size) s.heap s.heap [] := va_S.rf
  have hl := lv_entry ([.ref h, .int a]) (n := 2) (Nat.le_of_ble_eq_true rfl)
  rw [lg_entry_eq]
  generalize (lg_sl ([.ref h, .int a]) ++ List.replicate (2 - (lg_sl ([.ref h, .int a])).length) Slot.unset).toArray = ls at hl ⊢
  have hl : lv_has ls 2 [(0, .ref h), (1, .int a)] := hl
  refine lv_aload_n hx hb dX12_bad_0 rfl (lv_at hl 0 rfl) ?_
  refine lv_aload_n hx hb dX12_bad_1 rfl (lv_at hl 0 rfl) ?_
  refine gM_40 hx hb htg hown hK hP dX12_bad_2 ?_
  refine lv_iconst (v := 1) hx hb dX12_bad_5 (by decide) ?_
  refine lv_icmp_ne (tgt := 13) hx hb dX12_bad_6 (by decide) (fun c_1 => ?_) (fun c_1 => ?_)
  · skip
    have k_2 : ¬ (fv 40).toInt = 1 := fun q => c_1 (Int32.toInt_inj.mp q)
    refine lv_iload_n hx hb dX12_bad_13 rfl (lv_at hl 1 rfl) ?_
    refine pM_43 hx hb htg hown hK hP hS hd dX12_bad_14 (fun H locs fv_3 efv_3 hP hS => ?_)
    have hF_fv_3 : rF fv_3 := rF_put hF_fv efv_3 (iv_any a)
    refine lv_aload_n hx hb dX12_bad_17 rfl (lv_at hl 0 rfl) ?_
    refine lv_aload_n hx hb dX12_bad_18 rfl (lv_at hl 0 rfl) ?_
    refine gM_39 hx hb htg hown hK hP dX12_bad_19 ?_
    refine my_ti (y := fv 39) ((congrFun efv_3 39)) ?_
    have i_4 : 0 ≤ (fv 39).toInt ∧ (fv 39).toInt ≤ 340 := hF_fv 39
    refine pM_44 hx hb htg hown hK hP hS hd dX12_bad_22 (fun H locs fv_5 efv_5 hP hS => ?_)
    have hF_fv_5 : rF fv_5 := rF_put hF_fv_3 efv_5 (iv_any _)
    refine lv_iconst (v := 0) hx hb dX12_bad_25 (by decide) ?_
    have z_6 : (0 : Int32).toInt = 0 := by decide
    exact W.zret (v := 0) hx hb hr (by decide) (fun t ht hW => ⟨⟨0, (fv_5, wd, ar), rfl, ⟨hF_fv_5, hA_ar, (fM_put (fM_put (fM_rf [43, 44] _) efv_3 (by decide)) efv_5 (by decide)), (fA_rf [] _), (iv_w (⟨by decide, by decide⟩ : (0 : Int) ≤ (0 : Int32).toInt ∧ (0 : Int32).toInt ≤ 0) (by decide) (by decide)), (⟨rfl, trivial⟩), rfl, (show (fv_5 43 = 1 ∨ fv_5 43 = a) ∧ ((fv 40).toInt = 1 → fv_5 43 = 1) ∧ (¬ (fv 40).toInt = 1 → fv_5 43 = a) ∧ (fv_5 44).toInt = (fv 39).toInt from ⟨Or.inr ((congrFun efv_5 43).trans ((congrFun efv_3 43))), fun q => by exfalso; omega, fun _ => ((congrFun efv_5 43).trans ((congrFun efv_3 43))), (by rw [show fv_5 44 = (fv 39) from (congrFun efv_5 44)])⟩), trivial⟩, ⟨by rw [ht]; exact hP, va_K.moved hW.alike hK⟩⟩, hS.F ht⟩) hS.2.2 dX12_bad_26
  · skip
    have i_7 : 1 ≤ (fv 40).toInt ∧ (fv 40).toInt ≤ 1 := iv_eq1 (⟨by decide, by decide⟩ : (1 : Int) ≤ (1 : Int32).toInt ∧ (1 : Int32).toInt ≤ 1) c_1
    refine lv_iconst (v := 1) hx hb dX12_bad_9 (by decide) ?_
    refine lv_goto (tgt := 14) hx hb dX12_bad_10 (by decide) ?_
    refine pM_43 hx hb htg hown hK hP hS hd dX12_bad_14 (fun H locs fv_9 efv_9 hP hS => ?_)
    have hF_fv_9 : rF fv_9 := rF_put hF_fv efv_9 (iv_any _)
    refine lv_aload_n hx hb dX12_bad_17 rfl (lv_at hl 0 rfl) ?_
    refine lv_aload_n hx hb dX12_bad_18 rfl (lv_at hl 0 rfl) ?_
    refine gM_39 hx hb htg hown hK hP dX12_bad_19 ?_
    refine my_ti (y := fv 39) ((congrFun efv_9 39)) ?_
    have i_10 : 0 ≤ (fv 39).toInt ∧ (fv 39).toInt ≤ 340 := hF_fv 39
    refine pM_44 hx hb htg hown hK hP hS hd dX12_bad_22 (fun H locs fv_11 efv_11 hP hS => ?_)
    have hF_fv_11 : rF fv_11 := rF_put hF_fv_9 efv_11 (iv_any _)
    refine lv_iconst (v := 0) hx hb dX12_bad_25 (by decide) ?_
    have z_12 : (0 : Int32).toInt = 0 := by decide
    exact W.zret (v := 0) hx hb hr (by decide) (fun t ht hW => ⟨⟨0, (fv_11, wd, ar), rfl, ⟨hF_fv_11, hA_ar, (fM_put (fM_put (fM_rf [43, 44] _) efv_9 (by decide)) efv_11 (by decide)), (fA_rf [] _), (iv_w (⟨by decide, by decide⟩ : (0 : Int) ≤ (0 : Int32).toInt ∧ (0 : Int32).toInt ≤ 0) (by decide) (by decide)), (⟨rfl, trivial⟩), rfl, (show (fv_11 43 = 1 ∨ fv_11 43 = a) ∧ ((fv 40).toInt = 1 → fv_11 43 = 1) ∧ (¬ (fv 40).toInt = 1 → fv_11 43 = a) ∧ (fv_11 44).toInt = (fv 39).toInt from ⟨Or.inl ((congrFun efv_11 43).trans ((congrFun efv_9 43))), fun _ => ((congrFun efv_11 43).trans ((congrFun efv_9 43))), fun q => by exfalso; omega, (by rw [show fv_11 44 = (fv 39) from (congrFun efv_11 44)])⟩), trivial⟩, ⟨by rw [ht]; exact hP, va_K.moved hW.alike hK⟩⟩, hS.F ht⟩) hS.2.2 dX12_bad_26
set_option maxHeartbeats 4000000 in
set_option maxRecDepth 100000 in
theorem m_sortAtHandC (l : Launch) (dC : Nat → ClassId) (dI : Nat → Nat → Nat) (sz h : Nat) (ad : Nat → Nat) (cA : Nat → ClassId) (hd : dM h ad) (fv : Nat → Int32) (wd : Int64) (ar : Nat → Nat → Int32) (hF_fv : rF fv) (hA_ar : rA ar) (t9 : Nat) (num9 : Int) (hrl : rd_rel t9 num9 (fv 40) (fv 42) (fv 41) wd) : Met l yX12_sortAtHand (.code yX12_sortAtHand cX12_sortAtHand 1 (some .int) :: lw_good) ({ frames := 3, cells := 0, slots := 0, locals := 66 }) (va_Pc [.ref h] (prM dC dI h ad cA fv wd ar sz)) (va_Qi (fun (r : Int32) (u : mS) => rF u.1 ∧ rA u.2.2 ∧ fM [] fv u.1 ∧ fA [] ar u.2.2 ∧ ((-1) ≤ r.toInt ∧ r.toInt ≤ 6) ∧ (u.2.1 = wd) ∧ ((r.toInt = (t9 : Int) ∧ t9 < 7) ∨ (r = -1 ∧ ¬ t9 < 7)) ∧ True) (enM dC dI h ad cA) (aM h ad sz)) 0 0 (aM h ad sz) := by
  refine Met.ofW (cc := cX12_sortAtHand) (maxL := 1) (ret := (some .int)) (by decide) rfl ?_
  intro p e s m args below meth c s₁ B hml hv
  obtain ⟨rfl, hsz, hP, hK⟩ := hv
  have hx := B.exec
  have hb := B.bytes
  have hr := B.returns
  have hts := atoms_spec (ws := (.code yX12_sortAtHand cX12_sortAtHand 1 (some .int) :: lw_good)) B.pre
  have htg : ∀ w ∈ lw_good, w.before _ s = true := fun w hw => hts w (List.mem_cons_of_mem _ hw)
  have hown : s.vm.findClass RX12 = some m.cls := findClass_of_methodNamed B.named
  have hlocks := B.notSynchronized
  subst hsz
  have hS : va_S (aM h ad s.heap.size) s.heap s.heap [] := va_S.rf
  have hl := lv_entry ([.ref h]) (n := 1) (Nat.le_of_ble_eq_true rfl)
  rw [lg_entry_eq]
  generalize (lg_sl ([.ref h]) ++ List.replicate (1 - (lg_sl ([.ref h])).length) Slot.unset).toArray = ls at hl ⊢
  have hl : lv_has ls 1 [(0, .ref h)] := hl
  refine lv_aload_n hx hb dX12_sortAtHand_0 rfl (lv_at hl 0 rfl) ?_
  refine lv_bipush (v := 99) hx hb dX12_sortAtHand_1 (by decide) ?_
  refine lv_bipush (v := 97) hx hb dX12_sortAtHand_3 (by decide) ?_
  refine lv_bipush (v := 114) hx hb dX12_sortAtHand_5 (by decide) ?_
  refine lv_bipush (v := 114) hx hb dX12_sortAtHand_7 (by decide) ?_
  refine lv_bipush (v := 121) hx hb dX12_sortAtHand_9 (by decide) ?_
  refine va_calll (va_runS (As := [.int 99, .int 97, .int 114, .int 114, .int 121]) (rest := [.ref h]) ⟨hx, hb, hml, hown, hts⟩ (m_speltC l s.heap.size 99 97 114 114 121) (va_cwS 5 hts (gS kw_8_87 kw_8_88 kw_1_15 kw_8_89) rfl rfl rfl (by decide +kernel) ⟨Nat.le_of_ble_eq_true rfl, Nat.le_of_ble_eq_true rfl⟩) ⟨fun a U g mk q => ⟨q.1, q.2⟩, fun U hU hW => ⟨rfl, congrArg Array.size hU⟩⟩ rfl rfl hl.1 rfl (lv_room (Nat.le_of_ble_eq_true rfl)) dX12_sortAtHand_11 ⟨Nat.le_of_ble_eq_true rfl, Nat.le_of_ble_eq_true rfl⟩) hS (fun q _ h9 => nM_up hS q h9) (nM_up hS) (fun r_1 u t H1 locs ht _ hw hB _ hk1 hS => ?_)
  obtain ⟨p_2, -⟩ := hw
  have hP := my_keepM hP hk1
  generalize H1 = H at hP hS ⊢
  refine va_calli (va_runV (As := [.long r_1]) (rest := []) ⟨hx, hb, hml, hown, hts⟩ (m_isKeyC l dC dI H.size h ad cA hd fv wd ar hF_fv hA_ar r_1) (cwV 1 hts (gV kw_8_90 kw_8_92 kw_p_68 kw_1_15 kw_8_93) rfl rfl rfl (by decide +kernel) ⟨Nat.le_of_ble_eq_true rfl, Nat.le_of_ble_eq_true rfl⟩) ⟨fun a U g mk q => ⟨q.1, q.2.1, q.2.2.1, va_K.moved (u := U) (U := U.calling g mk a) (Vm.Alike.refl U.vm) q.2.2.2⟩, va_recv hK hP (ci := 12) (q0 := 0) rfl rfl, fun U hU hW => ⟨rfl, by rw [hU], by rw [hU]; exact hP, va_K.moved hW.alike hK⟩⟩ rfl rfl hl.1 rfl (lv_room (Nat.le_of_ble_eq_true rfl)) dX12_sortAtHand_14 ⟨Nat.le_of_ble_eq_true rfl, Nat.le_of_ble_eq_true rfl⟩) hS (fun q _ h9 => aM_up hS q h9) (aM_up hS) (fun r_3 u t H1 locs ht _ hw hB _ hk1 hS => ?_)
  obtain ⟨fv_7, wd_8, ar_9⟩ := u
  obtain ⟨hF_fv_7, hA_ar_9, fr_10, fa_11, p_4, p_5, p_6, -⟩ := hw
  have hP : va_P (dC, dI) vwCl (wsM h ad cA fv_7 wd_8 ar_9) H1 := by have h9 := hB.1; rw [ht] at h9; exact h9
  have fr_10 : fM [] fv fv_7 := fr_10
  have fa_11 : fA [] ar ar_9 := fa_11
  have p_5 : wd_8 = wd := p_5
  have p_6 : (r_3 = 1 ∧ (fv 40).toInt = 2 ∧ wd = r_1) ∨ (r_3 = 0 ∧ ¬ ((fv 40).toInt = 2 ∧ wd = r_1)) := p_6
  generalize H1 = H at hP hS ⊢
  rw [p_5] at hP
  have k_12 : (r_3 = 1 ∧ t9 = 0) ∨ (r_3 = 0 ∧ ¬ t9 = 0) := by have h9 := p_6; have hk9 := rd_key hrl (w0 := r_1) (j := 0) (by decide) (by rw [p_2]; decide +kernel); rcases h9 with ⟨a9, b9⟩ | ⟨a9, b9⟩; exact Or.inl ⟨a9, hk9.mp b9⟩; exact Or.inr ⟨a9, fun w => b9 (hk9.mpr w)⟩
  refine lv_if_eq (tgt := 22) hx hb dX12_sortAtHand_17 (by decide) (fun c_13 => ?_) (fun c_13 => ?_)
  · skip
    have i_14 : 0 ≤ r_3.toInt ∧ r_3.toInt ≤ 0 := iv_eq1 (⟨by decide, by decide⟩ : (0 : Int) ≤ (0 : Int32).toInt ∧ (0 : Int32).toInt ≤ 0) c_13
    refine lv_aload_n hx hb dX12_sortAtHand_22 rfl (lv_at hl 0 rfl) ?_
    refine lv_bipush (v := 115) hx hb dX12_sortAtHand_23 (by decide) ?_
    refine lv_bipush (v := 116) hx hb dX12_sortAtHand_25 (by decide) ?_
    refine lv_bipush (v := 111) hx hb dX12_sortAtHand_27 (by decide) ?_
    refine lv_bipush (v := 112) hx hb dX12_sortAtHand_29 (by decide) ?_
    refine lv_iconst (v := 0) hx hb dX12_sortAtHand_31 (by decide) ?_
    refine va_calll (va_runS (As := [.int 115, .int 116, .int 111, .int 112, .int 0]) (rest := [.ref h]) ⟨hx, hb, hml, hown, hts⟩ (m_speltC l H.size 115 116 111 112 0) (va_cwS 5 hts (gS kw_8_87 kw_8_88 kw_1_15 kw_8_89) rfl rfl rfl (by decide +kernel) ⟨Nat.le_of_ble_eq_true rfl, Nat.le_of_ble_eq_true rfl⟩) ⟨fun a U g mk q => ⟨q.1, q.2⟩, fun U hU hW => ⟨rfl, congrArg Array.size hU⟩⟩ rfl rfl hl.1 rfl (lv_room (Nat.le_of_ble_eq_true rfl)) dX12_sortAtHand_32 ⟨Nat.le_of_ble_eq_true rfl, Nat.le_of_ble_eq_true rfl⟩) hS (fun q _ h9 => nM_up hS q h9) (nM_up hS) (fun r_16 u t H1 locs ht _ hw hB _ hk1 hS => ?_)
    obtain ⟨p_17, -⟩ := hw
    have hP := my_keepM hP hk1
    generalize H1 = H at hP hS ⊢
    have z_18 : (fv_7 40).toInt = (fv 40).toInt := congrArg Int32.toInt ((fr_10 40 rfl))
    refine va_calli (va_runV (As := [.long r_16]) (rest := []) ⟨hx, hb, hml, hown, hts⟩ (m_isKeyC l dC dI H.size h ad cA hd fv_7 wd ar_9 hF_fv_7 hA_ar_9 r_16) (cwV 1 hts (gV kw_8_90 kw_8_92 kw_p_68 kw_1_15 kw_8_93) rfl rfl rfl (by decide +kernel) ⟨Nat.le_of_ble_eq_true rfl, Nat.le_of_ble_eq_true rfl⟩) ⟨fun a U g mk q => ⟨q.1, q.2.1, q.2.2.1, va_K.moved (u := U) (U := U.calling g mk a) (Vm.Alike.refl U.vm) q.2.2.2⟩, va_recv hK hP (ci := 12) (q0 := 0) rfl rfl, fun U hU hW => ⟨rfl, by rw [hU], by rw [hU]; exact hP, va_K.moved hW.alike hK⟩⟩ rfl rfl hl.1 rfl (lv_room (Nat.le_of_ble_eq_true rfl)) dX12_sortAtHand_35 ⟨Nat.le_of_ble_eq_true rfl, Nat.le_of_ble_eq_true rfl⟩) hS (fun q _ h9 => aM_up hS q h9) (aM_up hS) (fun r_19 u t H1 locs ht _ hw hB _ hk1 hS => ?_)
    obtain ⟨fv_23, wd_24, ar_25⟩ := u
    obtain ⟨hF_fv_23, hA_ar_25, fr_26, fa_27, p_20, p_21, p_22, -⟩ := hw
    have hP : va_P (dC, dI) vwCl (wsM h ad cA fv_23 wd_24 ar_25) H1 := by have h9 := hB.1; rw [ht] at h9; exact h9
    have fr_26 : fM [] fv_7 fv_23 := fr_26
    have fa_27 : fA [] ar_9 ar_25 := fa_27
    have p_21 : wd_24 = wd := p_21
    have p_22 : (r_19 = 1 ∧ (fv_7 40).toInt = 2 ∧ wd = r_16) ∨ (r_19 = 0 ∧ ¬ ((fv_7 40).toInt = 2 ∧ wd = r_16)) := p_22
    generalize H1 = H at hP hS ⊢
    rw [p_21] at hP
    have k_28 : (r_19 = 1 ∧ t9 = 1) ∨ (r_19 = 0 ∧ ¬ t9 = 1) := by have h9 := p_22; rw [show fv_7 40 = fv 40 from ((fM_call (fM_rf [] _) fr_10 (by decide)) 40 rfl)] at h9; have hk9 := rd_key hrl (w0 := r_16) (j := 1) (by decide) (by rw [p_17]; decide +kernel); rcases h9 with ⟨a9, b9⟩ | ⟨a9, b9⟩; exact Or.inl ⟨a9, hk9.mp b9⟩; exact Or.inr ⟨a9, fun w => b9 (hk9.mpr w)⟩
    refine lv_if_eq (tgt := 43) hx hb dX12_sortAtHand_38 (by decide) (fun c_29 => ?_) (fun c_29 => ?_)
    · skip
      have i_30 : 0 ≤ r_19.toInt ∧ r_19.toInt ≤ 0 := iv_eq1 (⟨by decide, by decide⟩ : (0 : Int) ≤ (0 : Int32).toInt ∧ (0 : Int32).toInt ≤ 0) c_29
      refine lv_aload_n hx hb dX12_sortAtHand_43 rfl (lv_at hl 0 rfl) ?_
      refine lv_bipush (v := 102) hx hb dX12_sortAtHand_44 (by decide) ?_
      refine lv_bipush (v := 97) hx hb dX12_sortAtHand_46 (by decide) ?_
      refine lv_bipush (v := 114) hx hb dX12_sortAtHand_48 (by decide) ?_
      refine lv_bipush (v := 101) hx hb dX12_sortAtHand_50 (by decide) ?_
      refine lv_iconst (v := 0) hx hb dX12_sortAtHand_52 (by decide) ?_
      refine va_calll (va_runS (As := [.int 102, .int 97, .int 114, .int 101, .int 0]) (rest := [.ref h]) ⟨hx, hb, hml, hown, hts⟩ (m_speltC l H.size 102 97 114 101 0) (va_cwS 5 hts (gS kw_8_87 kw_8_88 kw_1_15 kw_8_89) rfl rfl rfl (by decide +kernel) ⟨Nat.le_of_ble_eq_true rfl, Nat.le_of_ble_eq_true rfl⟩) ⟨fun a U g mk q => ⟨q.1, q.2⟩, fun U hU hW => ⟨rfl, congrArg Array.size hU⟩⟩ rfl rfl hl.1 rfl (lv_room (Nat.le_of_ble_eq_true rfl)) dX12_sortAtHand_53 ⟨Nat.le_of_ble_eq_true rfl, Nat.le_of_ble_eq_true rfl⟩) hS (fun q _ h9 => nM_up hS q h9) (nM_up hS) (fun r_32 u t H1 locs ht _ hw hB _ hk1 hS => ?_)
      obtain ⟨p_33, -⟩ := hw
      have hP := my_keepM hP hk1
      generalize H1 = H at hP hS ⊢
      have z_34 : (fv_23 40).toInt = (fv 40).toInt := congrArg Int32.toInt ((fr_26 40 rfl).trans ((fr_10 40 rfl)))
      refine va_calli (va_runV (As := [.long r_32]) (rest := []) ⟨hx, hb, hml, hown, hts⟩ (m_isKeyC l dC dI H.size h ad cA hd fv_23 wd ar_25 hF_fv_23 hA_ar_25 r_32) (cwV 1 hts (gV kw_8_90 kw_8_92 kw_p_68 kw_1_15 kw_8_93) rfl rfl rfl (by decide +kernel) ⟨Nat.le_of_ble_eq_true rfl, Nat.le_of_ble_eq_true rfl⟩) ⟨fun a U g mk q => ⟨q.1, q.2.1, q.2.2.1, va_K.moved (u := U) (U := U.calling g mk a) (Vm.Alike.refl U.vm) q.2.2.2⟩, va_recv hK hP (ci := 12) (q0 := 0) rfl rfl, fun U hU hW => ⟨rfl, by rw [hU], by rw [hU]; exact hP, va_K.moved hW.alike hK⟩⟩ rfl rfl hl.1 rfl (lv_room (Nat.le_of_ble_eq_true rfl)) dX12_sortAtHand_56 ⟨Nat.le_of_ble_eq_true rfl, Nat.le_of_ble_eq_true rfl⟩) hS (fun q _ h9 => aM_up hS q h9) (aM_up hS) (fun r_35 u t H1 locs ht _ hw hB _ hk1 hS => ?_)
      obtain ⟨fv_39, wd_40, ar_41⟩ := u
      obtain ⟨hF_fv_39, hA_ar_41, fr_42, fa_43, p_36, p_37, p_38, -⟩ := hw
      have hP : va_P (dC, dI) vwCl (wsM h ad cA fv_39 wd_40 ar_41) H1 := by have h9 := hB.1; rw [ht] at h9; exact h9
      have fr_42 : fM [] fv_23 fv_39 := fr_42
      have fa_43 : fA [] ar_25 ar_41 := fa_43
      have p_37 : wd_40 = wd := p_37
      have p_38 : (r_35 = 1 ∧ (fv_23 40).toInt = 2 ∧ wd = r_32) ∨ (r_35 = 0 ∧ ¬ ((fv_23 40).toInt = 2 ∧ wd = r_32)) := p_38
      generalize H1 = H at hP hS ⊢
      rw [p_37] at hP
      have k_44 : (r_35 = 1 ∧ t9 = 2) ∨ (r_35 = 0 ∧ ¬ t9 = 2) := by have h9 := p_38; rw [show fv_23 40 = fv 40 from ((fM_call (fM_call (fM_rf [] _) fr_10 (by decide)) fr_26 (by decide)) 40 rfl)] at h9; have hk9 := rd_key hrl (w0 := r_32) (j := 2) (by decide) (by rw [p_33]; decide +kernel); rcases h9 with ⟨a9, b9⟩ | ⟨a9, b9⟩; exact Or.inl ⟨a9, hk9.mp b9⟩; exact Or.inr ⟨a9, fun w => b9 (hk9.mpr w)⟩
      refine lv_if_eq (tgt := 64) hx hb dX12_sortAtHand_59 (by decide) (fun c_45 => ?_) (fun c_45 => ?_)
      · skip
        have i_46 : 0 ≤ r_35.toInt ∧ r_35.toInt ≤ 0 := iv_eq1 (⟨by decide, by decide⟩ : (0 : Int) ≤ (0 : Int32).toInt ∧ (0 : Int32).toInt ≤ 0) c_45
        refine lv_aload_n hx hb dX12_sortAtHand_64 rfl (lv_at hl 0 rfl) ?_
        refine lv_bipush (v := 104) hx hb dX12_sortAtHand_65 (by decide) ?_
        refine lv_bipush (v := 111) hx hb dX12_sortAtHand_67 (by decide) ?_
        refine lv_bipush (v := 108) hx hb dX12_sortAtHand_69 (by decide) ?_
        refine lv_bipush (v := 100) hx hb dX12_sortAtHand_71 (by decide) ?_
        refine lv_iconst (v := 0) hx hb dX12_sortAtHand_73 (by decide) ?_
        refine va_calll (va_runS (As := [.int 104, .int 111, .int 108, .int 100, .int 0]) (rest := [.ref h]) ⟨hx, hb, hml, hown, hts⟩ (m_speltC l H.size 104 111 108 100 0) (va_cwS 5 hts (gS kw_8_87 kw_8_88 kw_1_15 kw_8_89) rfl rfl rfl (by decide +kernel) ⟨Nat.le_of_ble_eq_true rfl, Nat.le_of_ble_eq_true rfl⟩) ⟨fun a U g mk q => ⟨q.1, q.2⟩, fun U hU hW => ⟨rfl, congrArg Array.size hU⟩⟩ rfl rfl hl.1 rfl (lv_room (Nat.le_of_ble_eq_true rfl)) dX12_sortAtHand_74 ⟨Nat.le_of_ble_eq_true rfl, Nat.le_of_ble_eq_true rfl⟩) hS (fun q _ h9 => nM_up hS q h9) (nM_up hS) (fun r_48 u t H1 locs ht _ hw hB _ hk1 hS => ?_)
        obtain ⟨p_49, -⟩ := hw
        have hP := my_keepM hP hk1
        generalize H1 = H at hP hS ⊢
        have z_50 : (fv_39 40).toInt = (fv 40).toInt := congrArg Int32.toInt ((fr_42 40 rfl).trans ((fr_26 40 rfl).trans ((fr_10 40 rfl))))
        refine va_calli (va_runV (As := [.long r_48]) (rest := []) ⟨hx, hb, hml, hown, hts⟩ (m_isKeyC l dC dI H.size h ad cA hd fv_39 wd ar_41 hF_fv_39 hA_ar_41 r_48) (cwV 1 hts (gV kw_8_90 kw_8_92 kw_p_68 kw_1_15 kw_8_93) rfl rfl rfl (by decide +kernel) ⟨Nat.le_of_ble_eq_true rfl, Nat.le_of_ble_eq_true rfl⟩) ⟨fun a U g mk q => ⟨q.1, q.2.1, q.2.2.1, va_K.moved (u := U) (U := U.calling g mk a) (Vm.Alike.refl U.vm) q.2.2.2⟩, va_recv hK hP (ci := 12) (q0 := 0) rfl rfl, fun U hU hW => ⟨rfl, by rw [hU], by rw [hU]; exact hP, va_K.moved hW.alike hK⟩⟩ rfl rfl hl.1 rfl (lv_room (Nat.le_of_ble_eq_true rfl)) dX12_sortAtHand_77 ⟨Nat.le_of_ble_eq_true rfl, Nat.le_of_ble_eq_true rfl⟩) hS (fun q _ h9 => aM_up hS q h9) (aM_up hS) (fun r_51 u t H1 locs ht _ hw hB _ hk1 hS => ?_)
        obtain ⟨fv_55, wd_56, ar_57⟩ := u
        obtain ⟨hF_fv_55, hA_ar_57, fr_58, fa_59, p_52, p_53, p_54, -⟩ := hw
        have hP : va_P (dC, dI) vwCl (wsM h ad cA fv_55 wd_56 ar_57) H1 := by have h9 := hB.1; rw [ht] at h9; exact h9
        have fr_58 : fM [] fv_39 fv_55 := fr_58
        have fa_59 : fA [] ar_41 ar_57 := fa_59
        have p_53 : wd_56 = wd := p_53
        have p_54 : (r_51 = 1 ∧ (fv_39 40).toInt = 2 ∧ wd = r_48) ∨ (r_51 = 0 ∧ ¬ ((fv_39 40).toInt = 2 ∧ wd = r_48)) := p_54
        generalize H1 = H at hP hS ⊢
        rw [p_53] at hP
        have k_60 : (r_51 = 1 ∧ t9 = 3) ∨ (r_51 = 0 ∧ ¬ t9 = 3) := by have h9 := p_54; rw [show fv_39 40 = fv 40 from ((fM_call (fM_call (fM_call (fM_rf [] _) fr_10 (by decide)) fr_26 (by decide)) fr_42 (by decide)) 40 rfl)] at h9; have hk9 := rd_key hrl (w0 := r_48) (j := 3) (by decide) (by rw [p_49]; decide +kernel); rcases h9 with ⟨a9, b9⟩ | ⟨a9, b9⟩; exact Or.inl ⟨a9, hk9.mp b9⟩; exact Or.inr ⟨a9, fun w => b9 (hk9.mpr w)⟩
        refine lv_if_eq (tgt := 85) hx hb dX12_sortAtHand_80 (by decide) (fun c_61 => ?_) (fun c_61 => ?_)
        · skip
          have i_62 : 0 ≤ r_51.toInt ∧ r_51.toInt ≤ 0 := iv_eq1 (⟨by decide, by decide⟩ : (0 : Int) ≤ (0 : Int32).toInt ∧ (0 : Int32).toInt ≤ 0) c_61
          refine lv_aload_n hx hb dX12_sortAtHand_85 rfl (lv_at hl 0 rfl) ?_
          refine lv_bipush (v := 102) hx hb dX12_sortAtHand_86 (by decide) ?_
          refine lv_bipush (v := 105) hx hb dX12_sortAtHand_88 (by decide) ?_
          refine lv_bipush (v := 110) hx hb dX12_sortAtHand_90 (by decide) ?_
          refine lv_bipush (v := 101) hx hb dX12_sortAtHand_92 (by decide) ?_
          refine lv_iconst (v := 0) hx hb dX12_sortAtHand_94 (by decide) ?_
          refine va_calll (va_runS (As := [.int 102, .int 105, .int 110, .int 101, .int 0]) (rest := [.ref h]) ⟨hx, hb, hml, hown, hts⟩ (m_speltC l H.size 102 105 110 101 0) (va_cwS 5 hts (gS kw_8_87 kw_8_88 kw_1_15 kw_8_89) rfl rfl rfl (by decide +kernel) ⟨Nat.le_of_ble_eq_true rfl, Nat.le_of_ble_eq_true rfl⟩) ⟨fun a U g mk q => ⟨q.1, q.2⟩, fun U hU hW => ⟨rfl, congrArg Array.size hU⟩⟩ rfl rfl hl.1 rfl (lv_room (Nat.le_of_ble_eq_true rfl)) dX12_sortAtHand_95 ⟨Nat.le_of_ble_eq_true rfl, Nat.le_of_ble_eq_true rfl⟩) hS (fun q _ h9 => nM_up hS q h9) (nM_up hS) (fun r_64 u t H1 locs ht _ hw hB _ hk1 hS => ?_)
          obtain ⟨p_65, -⟩ := hw
          have hP := my_keepM hP hk1
          generalize H1 = H at hP hS ⊢
          have z_66 : (fv_55 40).toInt = (fv 40).toInt := congrArg Int32.toInt ((fr_58 40 rfl).trans ((fr_42 40 rfl).trans ((fr_26 40 rfl).trans ((fr_10 40 rfl)))))
          refine va_calli (va_runV (As := [.long r_64]) (rest := []) ⟨hx, hb, hml, hown, hts⟩ (m_isKeyC l dC dI H.size h ad cA hd fv_55 wd ar_57 hF_fv_55 hA_ar_57 r_64) (cwV 1 hts (gV kw_8_90 kw_8_92 kw_p_68 kw_1_15 kw_8_93) rfl rfl rfl (by decide +kernel) ⟨Nat.le_of_ble_eq_true rfl, Nat.le_of_ble_eq_true rfl⟩) ⟨fun a U g mk q => ⟨q.1, q.2.1, q.2.2.1, va_K.moved (u := U) (U := U.calling g mk a) (Vm.Alike.refl U.vm) q.2.2.2⟩, va_recv hK hP (ci := 12) (q0 := 0) rfl rfl, fun U hU hW => ⟨rfl, by rw [hU], by rw [hU]; exact hP, va_K.moved hW.alike hK⟩⟩ rfl rfl hl.1 rfl (lv_room (Nat.le_of_ble_eq_true rfl)) dX12_sortAtHand_98 ⟨Nat.le_of_ble_eq_true rfl, Nat.le_of_ble_eq_true rfl⟩) hS (fun q _ h9 => aM_up hS q h9) (aM_up hS) (fun r_67 u t H1 locs ht _ hw hB _ hk1 hS => ?_)
          obtain ⟨fv_71, wd_72, ar_73⟩ := u
          obtain ⟨hF_fv_71, hA_ar_73, fr_74, fa_75, p_68, p_69, p_70, -⟩ := hw
          have hP : va_P (dC, dI) vwCl (wsM h ad cA fv_71 wd_72 ar_73) H1 := by have h9 := hB.1; rw [ht] at h9; exact h9
          have fr_74 : fM [] fv_55 fv_71 := fr_74
          have fa_75 : fA [] ar_57 ar_73 := fa_75
          have p_69 : wd_72 = wd := p_69
          have p_70 : (r_67 = 1 ∧ (fv_55 40).toInt = 2 ∧ wd = r_64) ∨ (r_67 = 0 ∧ ¬ ((fv_55 40).toInt = 2 ∧ wd = r_64)) := p_70
          generalize H1 = H at hP hS ⊢
          rw [p_69] at hP
          have k_76 : (r_67 = 1 ∧ t9 = 4) ∨ (r_67 = 0 ∧ ¬ t9 = 4) := by have h9 := p_70; rw [show fv_55 40 = fv 40 from ((fM_call (fM_call (fM_call (fM_call (fM_rf [] _) fr_10 (by decide)) fr_26 (by decide)) fr_42 (by decide)) fr_58 (by decide)) 40 rfl)] at h9; have hk9 := rd_key hrl (w0 := r_64) (j := 4) (by decide) (by rw [p_65]; decide +kernel); rcases h9 with ⟨a9, b9⟩ | ⟨a9, b9⟩; exact Or.inl ⟨a9, hk9.mp b9⟩; exact Or.inr ⟨a9, fun w => b9 (hk9.mpr w)⟩
          refine lv_if_eq (tgt := 106) hx hb dX12_sortAtHand_101 (by decide) (fun c_77 => ?_) (fun c_77 => ?_)
          · skip
            have i_78 : 0 ≤ r_67.toInt ∧ r_67.toInt ≤ 0 := iv_eq1 (⟨by decide, by decide⟩ : (0 : Int) ≤ (0 : Int32).toInt ∧ (0 : Int32).toInt ≤ 0) c_77
            refine lv_aload_n hx hb dX12_sortAtHand_106 rfl (lv_at hl 0 rfl) ?_
            refine lv_bipush (v := 103) hx hb dX12_sortAtHand_107 (by decide) ?_
            refine lv_bipush (v := 97) hx hb dX12_sortAtHand_109 (by decide) ?_
            refine lv_bipush (v := 115) hx hb dX12_sortAtHand_111 (by decide) ?_
            refine lv_iconst (v := 0) hx hb dX12_sortAtHand_113 (by decide) ?_
            refine lv_iconst (v := 0) hx hb dX12_sortAtHand_114 (by decide) ?_
            refine va_calll (va_runS (As := [.int 103, .int 97, .int 115, .int 0, .int 0]) (rest := [.ref h]) ⟨hx, hb, hml, hown, hts⟩ (m_speltC l H.size 103 97 115 0 0) (va_cwS 5 hts (gS kw_8_87 kw_8_88 kw_1_15 kw_8_89) rfl rfl rfl (by decide +kernel) ⟨Nat.le_of_ble_eq_true rfl, Nat.le_of_ble_eq_true rfl⟩) ⟨fun a U g mk q => ⟨q.1, q.2⟩, fun U hU hW => ⟨rfl, congrArg Array.size hU⟩⟩ rfl rfl hl.1 rfl (lv_room (Nat.le_of_ble_eq_true rfl)) dX12_sortAtHand_115 ⟨Nat.le_of_ble_eq_true rfl, Nat.le_of_ble_eq_true rfl⟩) hS (fun q _ h9 => nM_up hS q h9) (nM_up hS) (fun r_80 u t H1 locs ht _ hw hB _ hk1 hS => ?_)
            obtain ⟨p_81, -⟩ := hw
            have hP := my_keepM hP hk1
            generalize H1 = H at hP hS ⊢
            have z_82 : (fv_71 40).toInt = (fv 40).toInt := congrArg Int32.toInt ((fr_74 40 rfl).trans ((fr_58 40 rfl).trans ((fr_42 40 rfl).trans ((fr_26 40 rfl).trans ((fr_10 40 rfl))))))
            refine va_calli (va_runV (As := [.long r_80]) (rest := []) ⟨hx, hb, hml, hown, hts⟩ (m_isKeyC l dC dI H.size h ad cA hd fv_71 wd ar_73 hF_fv_71 hA_ar_73 r_80) (cwV 1 hts (gV kw_8_90 kw_8_92 kw_p_68 kw_1_15 kw_8_93) rfl rfl rfl (by decide +kernel) ⟨Nat.le_of_ble_eq_true rfl, Nat.le_of_ble_eq_true rfl⟩) ⟨fun a U g mk q => ⟨q.1, q.2.1, q.2.2.1, va_K.moved (u := U) (U := U.calling g mk a) (Vm.Alike.refl U.vm) q.2.2.2⟩, va_recv hK hP (ci := 12) (q0 := 0) rfl rfl, fun U hU hW => ⟨rfl, by rw [hU], by rw [hU]; exact hP, va_K.moved hW.alike hK⟩⟩ rfl rfl hl.1 rfl (lv_room (Nat.le_of_ble_eq_true rfl)) dX12_sortAtHand_118 ⟨Nat.le_of_ble_eq_true rfl, Nat.le_of_ble_eq_true rfl⟩) hS (fun q _ h9 => aM_up hS q h9) (aM_up hS) (fun r_83 u t H1 locs ht _ hw hB _ hk1 hS => ?_)
            obtain ⟨fv_87, wd_88, ar_89⟩ := u
            obtain ⟨hF_fv_87, hA_ar_89, fr_90, fa_91, p_84, p_85, p_86, -⟩ := hw
            have hP : va_P (dC, dI) vwCl (wsM h ad cA fv_87 wd_88 ar_89) H1 := by have h9 := hB.1; rw [ht] at h9; exact h9
            have fr_90 : fM [] fv_71 fv_87 := fr_90
            have fa_91 : fA [] ar_73 ar_89 := fa_91
            have p_85 : wd_88 = wd := p_85
            have p_86 : (r_83 = 1 ∧ (fv_71 40).toInt = 2 ∧ wd = r_80) ∨ (r_83 = 0 ∧ ¬ ((fv_71 40).toInt = 2 ∧ wd = r_80)) := p_86
            generalize H1 = H at hP hS ⊢
            rw [p_85] at hP
            have k_92 : (r_83 = 1 ∧ t9 = 5) ∨ (r_83 = 0 ∧ ¬ t9 = 5) := by have h9 := p_86; rw [show fv_71 40 = fv 40 from ((fM_call (fM_call (fM_call (fM_call (fM_call (fM_rf [] _) fr_10 (by decide)) fr_26 (by decide)) fr_42 (by decide)) fr_58 (by decide)) fr_74 (by decide)) 40 rfl)] at h9; have hk9 := rd_key hrl (w0 := r_80) (j := 5) (by decide) (by rw [p_81]; decide +kernel); rcases h9 with ⟨a9, b9⟩ | ⟨a9, b9⟩; exact Or.inl ⟨a9, hk9.mp b9⟩; exact Or.inr ⟨a9, fun w => b9 (hk9.mpr w)⟩
            refine lv_if_eq (tgt := 126) hx hb dX12_sortAtHand_121 (by decide) (fun c_93 => ?_) (fun c_93 => ?_)
            · skip
              have i_94 : 0 ≤ r_83.toInt ∧ r_83.toInt ≤ 0 := iv_eq1 (⟨by decide, by decide⟩ : (0 : Int) ≤ (0 : Int32).toInt ∧ (0 : Int32).toInt ≤ 0) c_93
              refine lv_aload_n hx hb dX12_sortAtHand_126 rfl (lv_at hl 0 rfl) ?_
              refine lv_bipush (v := 100) hx hb dX12_sortAtHand_127 (by decide) ?_
              refine lv_bipush (v := 111) hx hb dX12_sortAtHand_129 (by decide) ?_
              refine lv_bipush (v := 99) hx hb dX12_sortAtHand_131 (by decide) ?_
              refine lv_bipush (v := 107) hx hb dX12_sortAtHand_133 (by decide) ?_
              refine lv_iconst (v := 0) hx hb dX12_sortAtHand_135 (by decide) ?_
              refine va_calll (va_runS (As := [.int 100, .int 111, .int 99, .int 107, .int 0]) (rest := [.ref h]) ⟨hx, hb, hml, hown, hts⟩ (m_speltC l H.size 100 111 99 107 0) (va_cwS 5 hts (gS kw_8_87 kw_8_88 kw_1_15 kw_8_89) rfl rfl rfl (by decide +kernel) ⟨Nat.le_of_ble_eq_true rfl, Nat.le_of_ble_eq_true rfl⟩) ⟨fun a U g mk q => ⟨q.1, q.2⟩, fun U hU hW => ⟨rfl, congrArg Array.size hU⟩⟩ rfl rfl hl.1 rfl (lv_room (Nat.le_of_ble_eq_true rfl)) dX12_sortAtHand_136 ⟨Nat.le_of_ble_eq_true rfl, Nat.le_of_ble_eq_true rfl⟩) hS (fun q _ h9 => nM_up hS q h9) (nM_up hS) (fun r_96 u t H1 locs ht _ hw hB _ hk1 hS => ?_)
              obtain ⟨p_97, -⟩ := hw
              have hP := my_keepM hP hk1
              generalize H1 = H at hP hS ⊢
              have z_98 : (fv_87 40).toInt = (fv 40).toInt := congrArg Int32.toInt ((fr_90 40 rfl).trans ((fr_74 40 rfl).trans ((fr_58 40 rfl).trans ((fr_42 40 rfl).trans ((fr_26 40 rfl).trans ((fr_10 40 rfl)))))))
              refine va_calli (va_runV (As := [.long r_96]) (rest := []) ⟨hx, hb, hml, hown, hts⟩ (m_isKeyC l dC dI H.size h ad cA hd fv_87 wd ar_89 hF_fv_87 hA_ar_89 r_96) (cwV 1 hts (gV kw_8_90 kw_8_92 kw_p_68 kw_1_15 kw_8_93) rfl rfl rfl (by decide +kernel) ⟨Nat.le_of_ble_eq_true rfl, Nat.le_of_ble_eq_true rfl⟩) ⟨fun a U g mk q => ⟨q.1, q.2.1, q.2.2.1, va_K.moved (u := U) (U := U.calling g mk a) (Vm.Alike.refl U.vm) q.2.2.2⟩, va_recv hK hP (ci := 12) (q0 := 0) rfl rfl, fun U hU hW => ⟨rfl, by rw [hU], by rw [hU]; exact hP, va_K.moved hW.alike hK⟩⟩ rfl rfl hl.1 rfl (lv_room (Nat.le_of_ble_eq_true rfl)) dX12_sortAtHand_139 ⟨Nat.le_of_ble_eq_true rfl, Nat.le_of_ble_eq_true rfl⟩) hS (fun q _ h9 => aM_up hS q h9) (aM_up hS) (fun r_99 u t H1 locs ht _ hw hB _ hk1 hS => ?_)
              obtain ⟨fv_103, wd_104, ar_105⟩ := u
              obtain ⟨hF_fv_103, hA_ar_105, fr_106, fa_107, p_100, p_101, p_102, -⟩ := hw
              have hP : va_P (dC, dI) vwCl (wsM h ad cA fv_103 wd_104 ar_105) H1 := by have h9 := hB.1; rw [ht] at h9; exact h9
              have fr_106 : fM [] fv_87 fv_103 := fr_106
              have fa_107 : fA [] ar_89 ar_105 := fa_107
              have p_101 : wd_104 = wd := p_101
              have p_102 : (r_99 = 1 ∧ (fv_87 40).toInt = 2 ∧ wd = r_96) ∨ (r_99 = 0 ∧ ¬ ((fv_87 40).toInt = 2 ∧ wd = r_96)) := p_102
              generalize H1 = H at hP hS ⊢
              rw [p_101] at hP
              have k_108 : (r_99 = 1 ∧ t9 = 6) ∨ (r_99 = 0 ∧ ¬ t9 = 6) := by have h9 := p_102; rw [show fv_87 40 = fv 40 from ((fM_call (fM_call (fM_call (fM_call (fM_call (fM_call (fM_rf [] _) fr_10 (by decide)) fr_26 (by decide)) fr_42 (by decide)) fr_58 (by decide)) fr_74 (by decide)) fr_90 (by decide)) 40 rfl)] at h9; have hk9 := rd_key hrl (w0 := r_96) (j := 6) (by decide) (by rw [p_97]; decide +kernel); rcases h9 with ⟨a9, b9⟩ | ⟨a9, b9⟩; exact Or.inl ⟨a9, hk9.mp b9⟩; exact Or.inr ⟨a9, fun w => b9 (hk9.mpr w)⟩
              refine lv_if_eq (tgt := 150) hx hb dX12_sortAtHand_142 (by decide) (fun c_109 => ?_) (fun c_109 => ?_)
              · skip
                have i_110 : 0 ≤ r_99.toInt ∧ r_99.toInt ≤ 0 := iv_eq1 (⟨by decide, by decide⟩ : (0 : Int) ≤ (0 : Int32).toInt ∧ (0 : Int32).toInt ≤ 0) c_109
                refine lv_iconst (v := (-1)) hx hb dX12_sortAtHand_150 (by decide) ?_
                have z_112 : ((-1) : Int32).toInt = (-1) := by decide
                exact W.iret (v := (-1)) hx hb hr (fun t ht hW => ⟨⟨(-1), (fv_103, wd, ar_105), rfl, ⟨hF_fv_103, hA_ar_105, (fM_call (fM_call (fM_call (fM_call (fM_call (fM_call (fM_call (fM_rf [] _) fr_10 (by decide)) fr_26 (by decide)) fr_42 (by decide)) fr_58 (by decide)) fr_74 (by decide)) fr_90 (by decide)) fr_106 (by decide)), (fA_call (fA_call (fA_call (fA_call (fA_call (fA_call (fA_call (fA_rf [] _) fa_11 (by decide)) fa_27 (by decide)) fa_43 (by decide)) fa_59 (by decide)) fa_75 (by decide)) fa_91 (by decide)) fa_107 (by decide)), (iv_w (⟨by decide, by decide⟩ : (-1 : Int) ≤ ((-1) : Int32).toInt ∧ ((-1) : Int32).toInt ≤ -1) (by decide) (by decide)), rfl, (show (((-1) : Int32).toInt = (t9 : Int) ∧ t9 < 7) ∨ (((-1) : Int32) = -1 ∧ ¬ t9 < 7) from by have y_0 : ¬ t9 = 0 := (by rcases k_12 with ⟨a9, b9⟩ | ⟨a9, b9⟩; exfalso; have h8 := congrArg Int32.toInt a9; have h7 : (1 : Int32).toInt = 1 := (by decide); omega; exact b9); have y_1 : ¬ t9 = 1 := (by rcases k_28 with ⟨a9, b9⟩ | ⟨a9, b9⟩; exfalso; have h8 := congrArg Int32.toInt a9; have h7 : (1 : Int32).toInt = 1 := (by decide); omega; exact b9); have y_2 : ¬ t9 = 2 := (by rcases k_44 with ⟨a9, b9⟩ | ⟨a9, b9⟩; exfalso; have h8 := congrArg Int32.toInt a9; have h7 : (1 : Int32).toInt = 1 := (by decide); omega; exact b9); have y_3 : ¬ t9 = 3 := (by rcases k_60 with ⟨a9, b9⟩ | ⟨a9, b9⟩; exfalso; have h8 := congrArg Int32.toInt a9; have h7 : (1 : Int32).toInt = 1 := (by decide); omega; exact b9); have y_4 : ¬ t9 = 4 := (by rcases k_76 with ⟨a9, b9⟩ | ⟨a9, b9⟩; exfalso; have h8 := congrArg Int32.toInt a9; have h7 : (1 : Int32).toInt = 1 := (by decide); omega; exact b9); have y_5 : ¬ t9 = 5 := (by rcases k_92 with ⟨a9, b9⟩ | ⟨a9, b9⟩; exfalso; have h8 := congrArg Int32.toInt a9; have h7 : (1 : Int32).toInt = 1 := (by decide); omega; exact b9); have y_6 : ¬ t9 = 6 := (by rcases k_108 with ⟨a9, b9⟩ | ⟨a9, b9⟩; exfalso; have h8 := congrArg Int32.toInt a9; have h7 : (1 : Int32).toInt = 1 := (by decide); omega; exact b9); exact Or.inr ⟨rfl, by omega⟩), trivial⟩, ⟨by rw [ht]; exact hP, va_K.moved hW.alike hK⟩⟩, hS.F ht⟩) hS.2.2 dX12_sortAtHand_151
              · skip
                have i_120 : 1 ≤ r_99.toInt ∧ r_99.toInt ≤ 1 := iv_nel p_100 (by decide) c_109
                have k_121 : ¬ r_99.toInt = 0 := fun q => c_109 (Int32.toInt_inj.mp q)
                refine lv_bipush (v := 6) hx hb dX12_sortAtHand_145 (by decide) ?_
                refine lv_goto (tgt := 151) hx hb dX12_sortAtHand_147 (by decide) ?_
                have z_122 : (6 : Int32).toInt = 6 := by decide
                exact W.iret (v := 6) hx hb hr (fun t ht hW => ⟨⟨6, (fv_103, wd, ar_105), rfl, ⟨hF_fv_103, hA_ar_105, (fM_call (fM_call (fM_call (fM_call (fM_call (fM_call (fM_call (fM_rf [] _) fr_10 (by decide)) fr_26 (by decide)) fr_42 (by decide)) fr_58 (by decide)) fr_74 (by decide)) fr_90 (by decide)) fr_106 (by decide)), (fA_call (fA_call (fA_call (fA_call (fA_call (fA_call (fA_call (fA_rf [] _) fa_11 (by decide)) fa_27 (by decide)) fa_43 (by decide)) fa_59 (by decide)) fa_75 (by decide)) fa_91 (by decide)) fa_107 (by decide)), (iv_w (⟨by decide, by decide⟩ : (6 : Int) ≤ (6 : Int32).toInt ∧ (6 : Int32).toInt ≤ 6) (by decide) (by decide)), rfl, (show ((6 : Int32).toInt = (t9 : Int) ∧ t9 < 7) ∨ ((6 : Int32) = -1 ∧ ¬ t9 < 7) from by have y_0 : ¬ t9 = 0 := (by rcases k_12 with ⟨a9, b9⟩ | ⟨a9, b9⟩; exfalso; have h8 := congrArg Int32.toInt a9; have h7 : (1 : Int32).toInt = 1 := (by decide); omega; exact b9); have y_1 : ¬ t9 = 1 := (by rcases k_28 with ⟨a9, b9⟩ | ⟨a9, b9⟩; exfalso; have h8 := congrArg Int32.toInt a9; have h7 : (1 : Int32).toInt = 1 := (by decide); omega; exact b9); have y_2 : ¬ t9 = 2 := (by rcases k_44 with ⟨a9, b9⟩ | ⟨a9, b9⟩; exfalso; have h8 := congrArg Int32.toInt a9; have h7 : (1 : Int32).toInt = 1 := (by decide); omega; exact b9); have y_3 : ¬ t9 = 3 := (by rcases k_60 with ⟨a9, b9⟩ | ⟨a9, b9⟩; exfalso; have h8 := congrArg Int32.toInt a9; have h7 : (1 : Int32).toInt = 1 := (by decide); omega; exact b9); have y_4 : ¬ t9 = 4 := (by rcases k_76 with ⟨a9, b9⟩ | ⟨a9, b9⟩; exfalso; have h8 := congrArg Int32.toInt a9; have h7 : (1 : Int32).toInt = 1 := (by decide); omega; exact b9); have y_5 : ¬ t9 = 5 := (by rcases k_92 with ⟨a9, b9⟩ | ⟨a9, b9⟩; exfalso; have h8 := congrArg Int32.toInt a9; have h7 : (1 : Int32).toInt = 1 := (by decide); omega; exact b9); have y_6 : t9 = 6 := (by rcases k_108 with ⟨a9, b9⟩ | ⟨a9, b9⟩; exact b9; exfalso; have h8 := congrArg Int32.toInt a9; have h7 : (0 : Int32).toInt = 0 := (by decide); omega); exact Or.inl (by constructor <;> (first | omega | (rw [show t9 = _ from by assumption]; decide)))), trivial⟩, ⟨by rw [ht]; exact hP, va_K.moved hW.alike hK⟩⟩, hS.F ht⟩) hS.2.2 dX12_sortAtHand_151
            · skip
              have i_130 : 1 ≤ r_83.toInt ∧ r_83.toInt ≤ 1 := iv_nel p_84 (by decide) c_93
              have k_131 : ¬ r_83.toInt = 0 := fun q => c_93 (Int32.toInt_inj.mp q)
              refine lv_iconst (v := 5) hx hb dX12_sortAtHand_124 (by decide) ?_
              have z_132 : (5 : Int32).toInt = 5 := by decide
              exact W.iret (v := 5) hx hb hr (fun t ht hW => ⟨⟨5, (fv_87, wd, ar_89), rfl, ⟨hF_fv_87, hA_ar_89, (fM_call (fM_call (fM_call (fM_call (fM_call (fM_call (fM_rf [] _) fr_10 (by decide)) fr_26 (by decide)) fr_42 (by decide)) fr_58 (by decide)) fr_74 (by decide)) fr_90 (by decide)), (fA_call (fA_call (fA_call (fA_call (fA_call (fA_call (fA_rf [] _) fa_11 (by decide)) fa_27 (by decide)) fa_43 (by decide)) fa_59 (by decide)) fa_75 (by decide)) fa_91 (by decide)), (iv_w (⟨by decide, by decide⟩ : (5 : Int) ≤ (5 : Int32).toInt ∧ (5 : Int32).toInt ≤ 5) (by decide) (by decide)), rfl, (show ((5 : Int32).toInt = (t9 : Int) ∧ t9 < 7) ∨ ((5 : Int32) = -1 ∧ ¬ t9 < 7) from by have y_0 : ¬ t9 = 0 := (by rcases k_12 with ⟨a9, b9⟩ | ⟨a9, b9⟩; exfalso; have h8 := congrArg Int32.toInt a9; have h7 : (1 : Int32).toInt = 1 := (by decide); omega; exact b9); have y_1 : ¬ t9 = 1 := (by rcases k_28 with ⟨a9, b9⟩ | ⟨a9, b9⟩; exfalso; have h8 := congrArg Int32.toInt a9; have h7 : (1 : Int32).toInt = 1 := (by decide); omega; exact b9); have y_2 : ¬ t9 = 2 := (by rcases k_44 with ⟨a9, b9⟩ | ⟨a9, b9⟩; exfalso; have h8 := congrArg Int32.toInt a9; have h7 : (1 : Int32).toInt = 1 := (by decide); omega; exact b9); have y_3 : ¬ t9 = 3 := (by rcases k_60 with ⟨a9, b9⟩ | ⟨a9, b9⟩; exfalso; have h8 := congrArg Int32.toInt a9; have h7 : (1 : Int32).toInt = 1 := (by decide); omega; exact b9); have y_4 : ¬ t9 = 4 := (by rcases k_76 with ⟨a9, b9⟩ | ⟨a9, b9⟩; exfalso; have h8 := congrArg Int32.toInt a9; have h7 : (1 : Int32).toInt = 1 := (by decide); omega; exact b9); have y_5 : t9 = 5 := (by rcases k_92 with ⟨a9, b9⟩ | ⟨a9, b9⟩; exact b9; exfalso; have h8 := congrArg Int32.toInt a9; have h7 : (0 : Int32).toInt = 0 := (by decide); omega); exact Or.inl (by constructor <;> (first | omega | (rw [show t9 = _ from by assumption]; decide)))), trivial⟩, ⟨by rw [ht]; exact hP, va_K.moved hW.alike hK⟩⟩, hS.F ht⟩) hS.2.2 dX12_sortAtHand_125
          · skip
            have i_139 : 1 ≤ r_67.toInt ∧ r_67.toInt ≤ 1 := iv_nel p_68 (by decide) c_77
            have k_140 : ¬ r_67.toInt = 0 := fun q => c_77 (Int32.toInt_inj.mp q)
            refine lv_iconst (v := 4) hx hb dX12_sortAtHand_104 (by decide) ?_
            have z_141 : (4 : Int32).toInt = 4 := by decide
            exact W.iret (v := 4) hx hb hr (fun t ht hW => ⟨⟨4, (fv_71, wd, ar_73), rfl, ⟨hF_fv_71, hA_ar_73, (fM_call (fM_call (fM_call (fM_call (fM_call (fM_rf [] _) fr_10 (by decide)) fr_26 (by decide)) fr_42 (by decide)) fr_58 (by decide)) fr_74 (by decide)), (fA_call (fA_call (fA_call (fA_call (fA_call (fA_rf [] _) fa_11 (by decide)) fa_27 (by decide)) fa_43 (by decide)) fa_59 (by decide)) fa_75 (by decide)), (iv_w (⟨by decide, by decide⟩ : (4 : Int) ≤ (4 : Int32).toInt ∧ (4 : Int32).toInt ≤ 4) (by decide) (by decide)), rfl, (show ((4 : Int32).toInt = (t9 : Int) ∧ t9 < 7) ∨ ((4 : Int32) = -1 ∧ ¬ t9 < 7) from by have y_0 : ¬ t9 = 0 := (by rcases k_12 with ⟨a9, b9⟩ | ⟨a9, b9⟩; exfalso; have h8 := congrArg Int32.toInt a9; have h7 : (1 : Int32).toInt = 1 := (by decide); omega; exact b9); have y_1 : ¬ t9 = 1 := (by rcases k_28 with ⟨a9, b9⟩ | ⟨a9, b9⟩; exfalso; have h8 := congrArg Int32.toInt a9; have h7 : (1 : Int32).toInt = 1 := (by decide); omega; exact b9); have y_2 : ¬ t9 = 2 := (by rcases k_44 with ⟨a9, b9⟩ | ⟨a9, b9⟩; exfalso; have h8 := congrArg Int32.toInt a9; have h7 : (1 : Int32).toInt = 1 := (by decide); omega; exact b9); have y_3 : ¬ t9 = 3 := (by rcases k_60 with ⟨a9, b9⟩ | ⟨a9, b9⟩; exfalso; have h8 := congrArg Int32.toInt a9; have h7 : (1 : Int32).toInt = 1 := (by decide); omega; exact b9); have y_4 : t9 = 4 := (by rcases k_76 with ⟨a9, b9⟩ | ⟨a9, b9⟩; exact b9; exfalso; have h8 := congrArg Int32.toInt a9; have h7 : (0 : Int32).toInt = 0 := (by decide); omega); exact Or.inl (by constructor <;> (first | omega | (rw [show t9 = _ from by assumption]; decide)))), trivial⟩, ⟨by rw [ht]; exact hP, va_K.moved hW.alike hK⟩⟩, hS.F ht⟩) hS.2.2 dX12_sortAtHand_105
        · skip
          have i_147 : 1 ≤ r_51.toInt ∧ r_51.toInt ≤ 1 := iv_nel p_52 (by decide) c_61
          have k_148 : ¬ r_51.toInt = 0 := fun q => c_61 (Int32.toInt_inj.mp q)
          refine lv_iconst (v := 3) hx hb dX12_sortAtHand_83 (by decide) ?_
          have z_149 : (3 : Int32).toInt = 3 := by decide
          exact W.iret (v := 3) hx hb hr (fun t ht hW => ⟨⟨3, (fv_55, wd, ar_57), rfl, ⟨hF_fv_55, hA_ar_57, (fM_call (fM_call (fM_call (fM_call (fM_rf [] _) fr_10 (by decide)) fr_26 (by decide)) fr_42 (by decide)) fr_58 (by decide)), (fA_call (fA_call (fA_call (fA_call (fA_rf [] _) fa_11 (by decide)) fa_27 (by decide)) fa_43 (by decide)) fa_59 (by decide)), (iv_w (⟨by decide, by decide⟩ : (3 : Int) ≤ (3 : Int32).toInt ∧ (3 : Int32).toInt ≤ 3) (by decide) (by decide)), rfl, (show ((3 : Int32).toInt = (t9 : Int) ∧ t9 < 7) ∨ ((3 : Int32) = -1 ∧ ¬ t9 < 7) from by have y_0 : ¬ t9 = 0 := (by rcases k_12 with ⟨a9, b9⟩ | ⟨a9, b9⟩; exfalso; have h8 := congrArg Int32.toInt a9; have h7 : (1 : Int32).toInt = 1 := (by decide); omega; exact b9); have y_1 : ¬ t9 = 1 := (by rcases k_28 with ⟨a9, b9⟩ | ⟨a9, b9⟩; exfalso; have h8 := congrArg Int32.toInt a9; have h7 : (1 : Int32).toInt = 1 := (by decide); omega; exact b9); have y_2 : ¬ t9 = 2 := (by rcases k_44 with ⟨a9, b9⟩ | ⟨a9, b9⟩; exfalso; have h8 := congrArg Int32.toInt a9; have h7 : (1 : Int32).toInt = 1 := (by decide); omega; exact b9); have y_3 : t9 = 3 := (by rcases k_60 with ⟨a9, b9⟩ | ⟨a9, b9⟩; exact b9; exfalso; have h8 := congrArg Int32.toInt a9; have h7 : (0 : Int32).toInt = 0 := (by decide); omega); exact Or.inl (by constructor <;> (first | omega | (rw [show t9 = _ from by assumption]; decide)))), trivial⟩, ⟨by rw [ht]; exact hP, va_K.moved hW.alike hK⟩⟩, hS.F ht⟩) hS.2.2 dX12_sortAtHand_84
      · skip
        have i_154 : 1 ≤ r_35.toInt ∧ r_35.toInt ≤ 1 := iv_nel p_36 (by decide) c_45
        have k_155 : ¬ r_35.toInt = 0 := fun q => c_45 (Int32.toInt_inj.mp q)
        refine lv_iconst (v := 2) hx hb dX12_sortAtHand_62 (by decide) ?_
        have z_156 : (2 : Int32).toInt = 2 := by decide
        exact W.iret (v := 2) hx hb hr (fun t ht hW => ⟨⟨2, (fv_39, wd, ar_41), rfl, ⟨hF_fv_39, hA_ar_41, (fM_call (fM_call (fM_call (fM_rf [] _) fr_10 (by decide)) fr_26 (by decide)) fr_42 (by decide)), (fA_call (fA_call (fA_call (fA_rf [] _) fa_11 (by decide)) fa_27 (by decide)) fa_43 (by decide)), (iv_w (⟨by decide, by decide⟩ : (2 : Int) ≤ (2 : Int32).toInt ∧ (2 : Int32).toInt ≤ 2) (by decide) (by decide)), rfl, (show ((2 : Int32).toInt = (t9 : Int) ∧ t9 < 7) ∨ ((2 : Int32) = -1 ∧ ¬ t9 < 7) from by have y_0 : ¬ t9 = 0 := (by rcases k_12 with ⟨a9, b9⟩ | ⟨a9, b9⟩; exfalso; have h8 := congrArg Int32.toInt a9; have h7 : (1 : Int32).toInt = 1 := (by decide); omega; exact b9); have y_1 : ¬ t9 = 1 := (by rcases k_28 with ⟨a9, b9⟩ | ⟨a9, b9⟩; exfalso; have h8 := congrArg Int32.toInt a9; have h7 : (1 : Int32).toInt = 1 := (by decide); omega; exact b9); have y_2 : t9 = 2 := (by rcases k_44 with ⟨a9, b9⟩ | ⟨a9, b9⟩; exact b9; exfalso; have h8 := congrArg Int32.toInt a9; have h7 : (0 : Int32).toInt = 0 := (by decide); omega); exact Or.inl (by constructor <;> (first | omega | (rw [show t9 = _ from by assumption]; decide)))), trivial⟩, ⟨by rw [ht]; exact hP, va_K.moved hW.alike hK⟩⟩, hS.F ht⟩) hS.2.2 dX12_sortAtHand_63
    · skip
      have i_160 : 1 ≤ r_19.toInt ∧ r_19.toInt ≤ 1 := iv_nel p_20 (by decide) c_29
      have k_161 : ¬ r_19.toInt = 0 := fun q => c_29 (Int32.toInt_inj.mp q)
      refine lv_iconst (v := 1) hx hb dX12_sortAtHand_41 (by decide) ?_
      have z_162 : (1 : Int32).toInt = 1 := by decide
      exact W.iret (v := 1) hx hb hr (fun t ht hW => ⟨⟨1, (fv_23, wd, ar_25), rfl, ⟨hF_fv_23, hA_ar_25, (fM_call (fM_call (fM_rf [] _) fr_10 (by decide)) fr_26 (by decide)), (fA_call (fA_call (fA_rf [] _) fa_11 (by decide)) fa_27 (by decide)), (iv_w (⟨by decide, by decide⟩ : (1 : Int) ≤ (1 : Int32).toInt ∧ (1 : Int32).toInt ≤ 1) (by decide) (by decide)), rfl, (show ((1 : Int32).toInt = (t9 : Int) ∧ t9 < 7) ∨ ((1 : Int32) = -1 ∧ ¬ t9 < 7) from by have y_0 : ¬ t9 = 0 := (by rcases k_12 with ⟨a9, b9⟩ | ⟨a9, b9⟩; exfalso; have h8 := congrArg Int32.toInt a9; have h7 : (1 : Int32).toInt = 1 := (by decide); omega; exact b9); have y_1 : t9 = 1 := (by rcases k_28 with ⟨a9, b9⟩ | ⟨a9, b9⟩; exact b9; exfalso; have h8 := congrArg Int32.toInt a9; have h7 : (0 : Int32).toInt = 0 := (by decide); omega); exact Or.inl (by constructor <;> (first | omega | (rw [show t9 = _ from by assumption]; decide)))), trivial⟩, ⟨by rw [ht]; exact hP, va_K.moved hW.alike hK⟩⟩, hS.F ht⟩) hS.2.2 dX12_sortAtHand_42
  · skip
    have i_165 : 1 ≤ r_3.toInt ∧ r_3.toInt ≤ 1 := iv_nel p_4 (by decide) c_13
    have k_166 : ¬ r_3.toInt = 0 := fun q => c_13 (Int32.toInt_inj.mp q)
    refine lv_iconst (v := 0) hx hb dX12_sortAtHand_20 (by decide) ?_
    have z_167 : (0 : Int32).toInt = 0 := by decide
    exact W.iret (v := 0) hx hb hr (fun t ht hW => ⟨⟨0, (fv_7, wd, ar_9), rfl, ⟨hF_fv_7, hA_ar_9, (fM_call (fM_rf [] _) fr_10 (by decide)), (fA_call (fA_rf [] _) fa_11 (by decide)), (iv_w (⟨by decide, by decide⟩ : (0 : Int) ≤ (0 : Int32).toInt ∧ (0 : Int32).toInt ≤ 0) (by decide) (by decide)), rfl, (show ((0 : Int32).toInt = (t9 : Int) ∧ t9 < 7) ∨ ((0 : Int32) = -1 ∧ ¬ t9 < 7) from by have y_0 : t9 = 0 := (by rcases k_12 with ⟨a9, b9⟩ | ⟨a9, b9⟩; exact b9; exfalso; have h8 := congrArg Int32.toInt a9; have h7 : (0 : Int32).toInt = 0 := (by decide); omega); exact Or.inl (by constructor <;> (first | omega | (rw [show t9 = _ from by assumption]; decide)))), trivial⟩, ⟨by rw [ht]; exact hP, va_K.moved hW.alike hK⟩⟩, hS.F ht⟩) hS.2.2 dX12_sortAtHand_21
set_option maxHeartbeats 4000000 in
set_option maxRecDepth 100000 in
theorem m_isNotC (l : Launch) (dC : Nat → ClassId) (dI : Nat → Nat → Nat) (sz h : Nat) (ad : Nat → Nat) (cA : Nat → ClassId) (hd : dM h ad) (fv : Nat → Int32) (wd : Int64) (ar : Nat → Nat → Int32) (hF_fv : rF fv) (hA_ar : rA ar) (t9 : Nat) (num9 : Int) (hrl : rd_rel t9 num9 (fv 40) (fv 42) (fv 41) wd) : Met l yX12_isNot (.code yX12_isNot cX12_isNot 1 (some .boolean) :: lw_good) ({ frames := 3, cells := 0, slots := 0, locals := 66 }) (va_Pc [.ref h] (prM dC dI h ad cA fv wd ar sz)) (va_Qi (fun (r : Int32) (u : mS) => rF u.1 ∧ rA u.2.2 ∧ fM [] fv u.1 ∧ fA [] ar u.2.2 ∧ (0 ≤ r.toInt ∧ r.toInt ≤ 1) ∧ (u.2.1 = wd) ∧ ((r = 1 ∧ t9 = 22) ∨ (r = 0 ∧ ¬ t9 = 22)) ∧ True) (enM dC dI h ad cA) (aM h ad sz)) 0 0 (aM h ad sz) := by
  refine Met.ofW (cc := cX12_isNot) (maxL := 1) (ret := (some .boolean)) (by decide) rfl ?_
  intro p e s m args below meth c s₁ B hml hv
  obtain ⟨rfl, hsz, hP, hK⟩ := hv
  have hx := B.exec
  have hb := B.bytes
  have hr := B.returns
  have hts := atoms_spec (ws := (.code yX12_isNot cX12_isNot 1 (some .boolean) :: lw_good)) B.pre
  have htg : ∀ w ∈ lw_good, w.before _ s = true := fun w hw => hts w (List.mem_cons_of_mem _ hw)
  have hown : s.vm.findClass RX12 = some m.cls := findClass_of_methodNamed B.named
  have hlocks := B.notSynchronized
  subst hsz
  have hS : va_S (aM h ad s.heap.size) s.heap s.heap [] := va_S.rf
  have hl := lv_entry ([.ref h]) (n := 1) (Nat.le_of_ble_eq_true rfl)
  rw [lg_entry_eq]
  generalize (lg_sl ([.ref h]) ++ List.replicate (1 - (lg_sl ([.ref h])).length) Slot.unset).toArray = ls at hl ⊢
  have hl : lv_has ls 1 [(0, .ref h)] := hl
  refine lv_aload_n hx hb dX12_isNot_0 rfl (lv_at hl 0 rfl) ?_
  refine lv_bipush (v := 110) hx hb dX12_isNot_1 (by decide) ?_
  refine lv_bipush (v := 111) hx hb dX12_isNot_3 (by decide) ?_
  refine lv_bipush (v := 116) hx hb dX12_isNot_5 (by decide) ?_
  refine lv_iconst (v := 0) hx hb dX12_isNot_7 (by decide) ?_
  refine lv_iconst (v := 0) hx hb dX12_isNot_8 (by decide) ?_
  refine va_calll (va_runS (As := [.int 110, .int 111, .int 116, .int 0, .int 0]) (rest := [.ref h]) ⟨hx, hb, hml, hown, hts⟩ (m_speltC l s.heap.size 110 111 116 0 0) (va_cwS 5 hts (gS kw_8_87 kw_8_88 kw_1_15 kw_8_89) rfl rfl rfl (by decide +kernel) ⟨Nat.le_of_ble_eq_true rfl, Nat.le_of_ble_eq_true rfl⟩) ⟨fun a U g mk q => ⟨q.1, q.2⟩, fun U hU hW => ⟨rfl, congrArg Array.size hU⟩⟩ rfl rfl hl.1 rfl (lv_room (Nat.le_of_ble_eq_true rfl)) dX12_isNot_9 ⟨Nat.le_of_ble_eq_true rfl, Nat.le_of_ble_eq_true rfl⟩) hS (fun q _ h9 => nM_up hS q h9) (nM_up hS) (fun r_1 u t H1 locs ht _ hw hB _ hk1 hS => ?_)
  obtain ⟨p_2, -⟩ := hw
  have hP := my_keepM hP hk1
  generalize H1 = H at hP hS ⊢
  refine va_calli (va_runV (As := [.long r_1]) (rest := []) ⟨hx, hb, hml, hown, hts⟩ (m_isKeyC l dC dI H.size h ad cA hd fv wd ar hF_fv hA_ar r_1) (cwV 1 hts (gV kw_8_90 kw_8_92 kw_p_68 kw_1_15 kw_8_93) rfl rfl rfl (by decide +kernel) ⟨Nat.le_of_ble_eq_true rfl, Nat.le_of_ble_eq_true rfl⟩) ⟨fun a U g mk q => ⟨q.1, q.2.1, q.2.2.1, va_K.moved (u := U) (U := U.calling g mk a) (Vm.Alike.refl U.vm) q.2.2.2⟩, va_recv hK hP (ci := 12) (q0 := 0) rfl rfl, fun U hU hW => ⟨rfl, by rw [hU], by rw [hU]; exact hP, va_K.moved hW.alike hK⟩⟩ rfl rfl hl.1 rfl (lv_room (Nat.le_of_ble_eq_true rfl)) dX12_isNot_12 ⟨Nat.le_of_ble_eq_true rfl, Nat.le_of_ble_eq_true rfl⟩) hS (fun q _ h9 => aM_up hS q h9) (aM_up hS) (fun r_3 u t H1 locs ht _ hw hB _ hk1 hS => ?_)
  obtain ⟨fv_7, wd_8, ar_9⟩ := u
  obtain ⟨hF_fv_7, hA_ar_9, fr_10, fa_11, p_4, p_5, p_6, -⟩ := hw
  have hP : va_P (dC, dI) vwCl (wsM h ad cA fv_7 wd_8 ar_9) H1 := by have h9 := hB.1; rw [ht] at h9; exact h9
  have fr_10 : fM [] fv fv_7 := fr_10
  have fa_11 : fA [] ar ar_9 := fa_11
  have p_5 : wd_8 = wd := p_5
  have p_6 : (r_3 = 1 ∧ (fv 40).toInt = 2 ∧ wd = r_1) ∨ (r_3 = 0 ∧ ¬ ((fv 40).toInt = 2 ∧ wd = r_1)) := p_6
  generalize H1 = H at hP hS ⊢
  rw [p_5] at hP
  have k_12 : (r_3 = 1 ∧ t9 = 22) ∨ (r_3 = 0 ∧ ¬ t9 = 22) := by have h9 := p_6; have hk9 := rd_key hrl (w0 := r_1) (j := 22) (by decide) (by rw [p_2]; decide +kernel); rcases h9 with ⟨a9, b9⟩ | ⟨a9, b9⟩; exact Or.inl ⟨a9, hk9.mp b9⟩; exact Or.inr ⟨a9, fun w => b9 (hk9.mpr w)⟩
  exact W.zret (v := r_3) hx hb hr (iv_nar p_4) (fun t ht hW => ⟨⟨r_3, (fv_7, wd, ar_9), rfl, ⟨hF_fv_7, hA_ar_9, (fM_call (fM_rf [] _) fr_10 (by decide)), (fA_call (fA_rf [] _) fa_11 (by decide)), p_4, rfl, (show (r_3 = 1 ∧ t9 = 22) ∨ (r_3 = 0 ∧ ¬ t9 = 22) from k_12), trivial⟩, ⟨by rw [ht]; exact hP, va_K.moved hW.alike hK⟩⟩, hS.F ht⟩) hS.2.2 dX12_isNot_15
set_option maxHeartbeats 4000000 in
set_option maxRecDepth 100000 in
theorem m_atomC (l : Launch) (dC : Nat → ClassId) (dI : Nat → Nat → Nat) (sz h : Nat) (ad : Nat → Nat) (cA : Nat → ClassId) (hd : dM h ad) (fv : Nat → Int32) (wd : Int64) (ar : Nat → Nat → Int32) (hF_fv : rF fv) (hA_ar : rA ar) (t9 : Nat) (num9 : Int) (hrl : rd_rel t9 num9 (fv 40) (fv 42) (fv 41) wd) : Met l yX12_atom (.code yX12_atom cX12_atom 1 (some .int) :: lw_good) ({ frames := 3, cells := 0, slots := 0, locals := 66 }) (va_Pc [.ref h] (prM dC dI h ad cA fv wd ar sz)) (va_Qi (fun (r : Int32) (u : mS) => rF u.1 ∧ rA u.2.2 ∧ fM [] fv u.1 ∧ fA [] ar u.2.2 ∧ ((-1) ≤ r.toInt ∧ r.toInt ≤ 11) ∧ (u.2.1 = wd) ∧ ((r.toInt + 7 = (t9 : Int) ∧ 7 ≤ t9 ∧ t9 ≤ 18) ∨ (r = -1 ∧ ¬ (7 ≤ t9 ∧ t9 ≤ 18))) ∧ True) (enM dC dI h ad cA) (aM h ad sz)) 0 0 (aM h ad sz) := by
  refine Met.ofW (cc := cX12_atom) (maxL := 1) (ret := (some .int)) (by decide) rfl ?_
  intro p e s m args below meth c s₁ B hml hv
  obtain ⟨rfl, hsz, hP, hK⟩ := hv
  have hx := B.exec
  have hb := B.bytes
  have hr := B.returns
  have hts := atoms_spec (ws := (.code yX12_atom cX12_atom 1 (some .int) :: lw_good)) B.pre
  have htg : ∀ w ∈ lw_good, w.before _ s = true := fun w hw => hts w (List.mem_cons_of_mem _ hw)
  have hown : s.vm.findClass RX12 = some m.cls := findClass_of_methodNamed B.named
  have hlocks := B.notSynchronized
  subst hsz
  have hS : va_S (aM h ad s.heap.size) s.heap s.heap [] := va_S.rf
  have hl := lv_entry ([.ref h]) (n := 1) (Nat.le_of_ble_eq_true rfl)
  rw [lg_entry_eq]
  generalize (lg_sl ([.ref h]) ++ List.replicate (1 - (lg_sl ([.ref h])).length) Slot.unset).toArray = ls at hl ⊢
  have hl : lv_has ls 1 [(0, .ref h)] := hl
  refine lv_aload_n hx hb dX12_atom_0 rfl (lv_at hl 0 rfl) ?_
  refine lv_bipush (v := 99) hx hb dX12_atom_1 (by decide) ?_
  refine lv_bipush (v := 97) hx hb dX12_atom_3 (by decide) ?_
  refine lv_bipush (v := 114) hx hb dX12_atom_5 (by decide) ?_
  refine lv_iconst (v := 0) hx hb dX12_atom_7 (by decide) ?_
  refine lv_iconst (v := 0) hx hb dX12_atom_8 (by decide) ?_
  refine va_calll (va_runS (As := [.int 99, .int 97, .int 114, .int 0, .int 0]) (rest := [.ref h]) ⟨hx, hb, hml, hown, hts⟩ (m_speltC l s.heap.size 99 97 114 0 0) (va_cwS 5 hts (gS kw_8_87 kw_8_88 kw_1_15 kw_8_89) rfl rfl rfl (by decide +kernel) ⟨Nat.le_of_ble_eq_true rfl, Nat.le_of_ble_eq_true rfl⟩) ⟨fun a U g mk q => ⟨q.1, q.2⟩, fun U hU hW => ⟨rfl, congrArg Array.size hU⟩⟩ rfl rfl hl.1 rfl (lv_room (Nat.le_of_ble_eq_true rfl)) dX12_atom_9 ⟨Nat.le_of_ble_eq_true rfl, Nat.le_of_ble_eq_true rfl⟩) hS (fun q _ h9 => nM_up hS q h9) (nM_up hS) (fun r_1 u t H1 locs ht _ hw hB _ hk1 hS => ?_)
  obtain ⟨p_2, -⟩ := hw
  have hP := my_keepM hP hk1
  generalize H1 = H at hP hS ⊢
  refine va_calli (va_runV (As := [.long r_1]) (rest := []) ⟨hx, hb, hml, hown, hts⟩ (m_isKeyC l dC dI H.size h ad cA hd fv wd ar hF_fv hA_ar r_1) (cwV 1 hts (gV kw_8_90 kw_8_92 kw_p_68 kw_1_15 kw_8_93) rfl rfl rfl (by decide +kernel) ⟨Nat.le_of_ble_eq_true rfl, Nat.le_of_ble_eq_true rfl⟩) ⟨fun a U g mk q => ⟨q.1, q.2.1, q.2.2.1, va_K.moved (u := U) (U := U.calling g mk a) (Vm.Alike.refl U.vm) q.2.2.2⟩, va_recv hK hP (ci := 12) (q0 := 0) rfl rfl, fun U hU hW => ⟨rfl, by rw [hU], by rw [hU]; exact hP, va_K.moved hW.alike hK⟩⟩ rfl rfl hl.1 rfl (lv_room (Nat.le_of_ble_eq_true rfl)) dX12_atom_12 ⟨Nat.le_of_ble_eq_true rfl, Nat.le_of_ble_eq_true rfl⟩) hS (fun q _ h9 => aM_up hS q h9) (aM_up hS) (fun r_3 u t H1 locs ht _ hw hB _ hk1 hS => ?_)
  obtain ⟨fv_7, wd_8, ar_9⟩ := u
  obtain ⟨hF_fv_7, hA_ar_9, fr_10, fa_11, p_4, p_5, p_6, -⟩ := hw
  have hP : va_P (dC, dI) vwCl (wsM h ad cA fv_7 wd_8 ar_9) H1 := by have h9 := hB.1; rw [ht] at h9; exact h9
  have fr_10 : fM [] fv fv_7 := fr_10
  have fa_11 : fA [] ar ar_9 := fa_11
  have p_5 : wd_8 = wd := p_5
  have p_6 : (r_3 = 1 ∧ (fv 40).toInt = 2 ∧ wd = r_1) ∨ (r_3 = 0 ∧ ¬ ((fv 40).toInt = 2 ∧ wd = r_1)) := p_6
  generalize H1 = H at hP hS ⊢
  rw [p_5] at hP
  have k_12 : (r_3 = 1 ∧ t9 = 7) ∨ (r_3 = 0 ∧ ¬ t9 = 7) := by have h9 := p_6; have hk9 := rd_key hrl (w0 := r_1) (j := 7) (by decide) (by rw [p_2]; decide +kernel); rcases h9 with ⟨a9, b9⟩ | ⟨a9, b9⟩; exact Or.inl ⟨a9, hk9.mp b9⟩; exact Or.inr ⟨a9, fun w => b9 (hk9.mpr w)⟩
  refine lv_if_eq (tgt := 20) hx hb dX12_atom_15 (by decide) (fun c_13 => ?_) (fun c_13 => ?_)
  · skip
    have i_14 : 0 ≤ r_3.toInt ∧ r_3.toInt ≤ 0 := iv_eq1 (⟨by decide, by decide⟩ : (0 : Int) ≤ (0 : Int32).toInt ∧ (0 : Int32).toInt ≤ 0) c_13
    refine lv_aload_n hx hb dX12_atom_20 rfl (lv_at hl 0 rfl) ?_
    refine lv_bipush (v := 119) hx hb dX12_atom_21 (by decide) ?_
    refine lv_bipush (v := 97) hx hb dX12_atom_23 (by decide) ?_
    refine lv_bipush (v := 103) hx hb dX12_atom_25 (by decide) ?_
    refine lv_bipush (v := 111) hx hb dX12_atom_27 (by decide) ?_
    refine lv_bipush (v := 110) hx hb dX12_atom_29 (by decide) ?_
    refine va_calll (va_runS (As := [.int 119, .int 97, .int 103, .int 111, .int 110]) (rest := [.ref h]) ⟨hx, hb, hml, hown, hts⟩ (m_speltC l H.size 119 97 103 111 110) (va_cwS 5 hts (gS kw_8_87 kw_8_88 kw_1_15 kw_8_89) rfl rfl rfl (by decide +kernel) ⟨Nat.le_of_ble_eq_true rfl, Nat.le_of_ble_eq_true rfl⟩) ⟨fun a U g mk q => ⟨q.1, q.2⟩, fun U hU hW => ⟨rfl, congrArg Array.size hU⟩⟩ rfl rfl hl.1 rfl (lv_room (Nat.le_of_ble_eq_true rfl)) dX12_atom_31 ⟨Nat.le_of_ble_eq_true rfl, Nat.le_of_ble_eq_true rfl⟩) hS (fun q _ h9 => nM_up hS q h9) (nM_up hS) (fun r_16 u t H1 locs ht _ hw hB _ hk1 hS => ?_)
    obtain ⟨p_17, -⟩ := hw
    have hP := my_keepM hP hk1
    generalize H1 = H at hP hS ⊢
    have z_18 : (fv_7 40).toInt = (fv 40).toInt := congrArg Int32.toInt ((fr_10 40 rfl))
    refine va_calli (va_runV (As := [.long r_16]) (rest := []) ⟨hx, hb, hml, hown, hts⟩ (m_isKeyC l dC dI H.size h ad cA hd fv_7 wd ar_9 hF_fv_7 hA_ar_9 r_16) (cwV 1 hts (gV kw_8_90 kw_8_92 kw_p_68 kw_1_15 kw_8_93) rfl rfl rfl (by decide +kernel) ⟨Nat.le_of_ble_eq_true rfl, Nat.le_of_ble_eq_true rfl⟩) ⟨fun a U g mk q => ⟨q.1, q.2.1, q.2.2.1, va_K.moved (u := U) (U := U.calling g mk a) (Vm.Alike.refl U.vm) q.2.2.2⟩, va_recv hK hP (ci := 12) (q0 := 0) rfl rfl, fun U hU hW => ⟨rfl, by rw [hU], by rw [hU]; exact hP, va_K.moved hW.alike hK⟩⟩ rfl rfl hl.1 rfl (lv_room (Nat.le_of_ble_eq_true rfl)) dX12_atom_34 ⟨Nat.le_of_ble_eq_true rfl, Nat.le_of_ble_eq_true rfl⟩) hS (fun q _ h9 => aM_up hS q h9) (aM_up hS) (fun r_19 u t H1 locs ht _ hw hB _ hk1 hS => ?_)
    obtain ⟨fv_23, wd_24, ar_25⟩ := u
    obtain ⟨hF_fv_23, hA_ar_25, fr_26, fa_27, p_20, p_21, p_22, -⟩ := hw
    have hP : va_P (dC, dI) vwCl (wsM h ad cA fv_23 wd_24 ar_25) H1 := by have h9 := hB.1; rw [ht] at h9; exact h9
    have fr_26 : fM [] fv_7 fv_23 := fr_26
    have fa_27 : fA [] ar_9 ar_25 := fa_27
    have p_21 : wd_24 = wd := p_21
    have p_22 : (r_19 = 1 ∧ (fv_7 40).toInt = 2 ∧ wd = r_16) ∨ (r_19 = 0 ∧ ¬ ((fv_7 40).toInt = 2 ∧ wd = r_16)) := p_22
    generalize H1 = H at hP hS ⊢
    rw [p_21] at hP
    have k_28 : (r_19 = 1 ∧ t9 = 8) ∨ (r_19 = 0 ∧ ¬ t9 = 8) := by have h9 := p_22; rw [show fv_7 40 = fv 40 from ((fM_call (fM_rf [] _) fr_10 (by decide)) 40 rfl)] at h9; have hk9 := rd_key hrl (w0 := r_16) (j := 8) (by decide) (by rw [p_17]; decide +kernel); rcases h9 with ⟨a9, b9⟩ | ⟨a9, b9⟩; exact Or.inl ⟨a9, hk9.mp b9⟩; exact Or.inr ⟨a9, fun w => b9 (hk9.mpr w)⟩
    refine lv_if_eq (tgt := 42) hx hb dX12_atom_37 (by decide) (fun c_29 => ?_) (fun c_29 => ?_)
    · skip
      have i_30 : 0 ≤ r_19.toInt ∧ r_19.toInt ≤ 0 := iv_eq1 (⟨by decide, by decide⟩ : (0 : Int) ≤ (0 : Int32).toInt ∧ (0 : Int32).toInt ≤ 0) c_29
      refine lv_aload_n hx hb dX12_atom_42 rfl (lv_at hl 0 rfl) ?_
      refine lv_bipush (v := 116) hx hb dX12_atom_43 (by decide) ?_
      refine lv_bipush (v := 97) hx hb dX12_atom_45 (by decide) ?_
      refine lv_bipush (v := 120) hx hb dX12_atom_47 (by decide) ?_
      refine lv_bipush (v := 105) hx hb dX12_atom_49 (by decide) ?_
      refine lv_iconst (v := 0) hx hb dX12_atom_51 (by decide) ?_
      refine va_calll (va_runS (As := [.int 116, .int 97, .int 120, .int 105, .int 0]) (rest := [.ref h]) ⟨hx, hb, hml, hown, hts⟩ (m_speltC l H.size 116 97 120 105 0) (va_cwS 5 hts (gS kw_8_87 kw_8_88 kw_1_15 kw_8_89) rfl rfl rfl (by decide +kernel) ⟨Nat.le_of_ble_eq_true rfl, Nat.le_of_ble_eq_true rfl⟩) ⟨fun a U g mk q => ⟨q.1, q.2⟩, fun U hU hW => ⟨rfl, congrArg Array.size hU⟩⟩ rfl rfl hl.1 rfl (lv_room (Nat.le_of_ble_eq_true rfl)) dX12_atom_52 ⟨Nat.le_of_ble_eq_true rfl, Nat.le_of_ble_eq_true rfl⟩) hS (fun q _ h9 => nM_up hS q h9) (nM_up hS) (fun r_32 u t H1 locs ht _ hw hB _ hk1 hS => ?_)
      obtain ⟨p_33, -⟩ := hw
      have hP := my_keepM hP hk1
      generalize H1 = H at hP hS ⊢
      have z_34 : (fv_23 40).toInt = (fv 40).toInt := congrArg Int32.toInt ((fr_26 40 rfl).trans ((fr_10 40 rfl)))
      refine va_calli (va_runV (As := [.long r_32]) (rest := []) ⟨hx, hb, hml, hown, hts⟩ (m_isKeyC l dC dI H.size h ad cA hd fv_23 wd ar_25 hF_fv_23 hA_ar_25 r_32) (cwV 1 hts (gV kw_8_90 kw_8_92 kw_p_68 kw_1_15 kw_8_93) rfl rfl rfl (by decide +kernel) ⟨Nat.le_of_ble_eq_true rfl, Nat.le_of_ble_eq_true rfl⟩) ⟨fun a U g mk q => ⟨q.1, q.2.1, q.2.2.1, va_K.moved (u := U) (U := U.calling g mk a) (Vm.Alike.refl U.vm) q.2.2.2⟩, va_recv hK hP (ci := 12) (q0 := 0) rfl rfl, fun U hU hW => ⟨rfl, by rw [hU], by rw [hU]; exact hP, va_K.moved hW.alike hK⟩⟩ rfl rfl hl.1 rfl (lv_room (Nat.le_of_ble_eq_true rfl)) dX12_atom_55 ⟨Nat.le_of_ble_eq_true rfl, Nat.le_of_ble_eq_true rfl⟩) hS (fun q _ h9 => aM_up hS q h9) (aM_up hS) (fun r_35 u t H1 locs ht _ hw hB _ hk1 hS => ?_)
      obtain ⟨fv_39, wd_40, ar_41⟩ := u
      obtain ⟨hF_fv_39, hA_ar_41, fr_42, fa_43, p_36, p_37, p_38, -⟩ := hw
      have hP : va_P (dC, dI) vwCl (wsM h ad cA fv_39 wd_40 ar_41) H1 := by have h9 := hB.1; rw [ht] at h9; exact h9
      have fr_42 : fM [] fv_23 fv_39 := fr_42
      have fa_43 : fA [] ar_25 ar_41 := fa_43
      have p_37 : wd_40 = wd := p_37
      have p_38 : (r_35 = 1 ∧ (fv_23 40).toInt = 2 ∧ wd = r_32) ∨ (r_35 = 0 ∧ ¬ ((fv_23 40).toInt = 2 ∧ wd = r_32)) := p_38
      generalize H1 = H at hP hS ⊢
      rw [p_37] at hP
      have k_44 : (r_35 = 1 ∧ t9 = 9) ∨ (r_35 = 0 ∧ ¬ t9 = 9) := by have h9 := p_38; rw [show fv_23 40 = fv 40 from ((fM_call (fM_call (fM_rf [] _) fr_10 (by decide)) fr_26 (by decide)) 40 rfl)] at h9; have hk9 := rd_key hrl (w0 := r_32) (j := 9) (by decide) (by rw [p_33]; decide +kernel); rcases h9 with ⟨a9, b9⟩ | ⟨a9, b9⟩; exact Or.inl ⟨a9, hk9.mp b9⟩; exact Or.inr ⟨a9, fun w => b9 (hk9.mpr w)⟩
      refine lv_if_eq (tgt := 63) hx hb dX12_atom_58 (by decide) (fun c_45 => ?_) (fun c_45 => ?_)
      · skip
        have i_46 : 0 ≤ r_35.toInt ∧ r_35.toInt ≤ 0 := iv_eq1 (⟨by decide, by decide⟩ : (0 : Int) ≤ (0 : Int32).toInt ∧ (0 : Int32).toInt ≤ 0) c_45
        refine lv_aload_n hx hb dX12_atom_63 rfl (lv_at hl 0 rfl) ?_
        refine lv_ldc2 (v := 27) hx hb hown (htg (.constantLong RX12 313 27) kw_8_77) dX12_atom_64 ?_
        refine lv_ldc2 (v := 27) hx hb hown (htg (.constantLong RX12 313 27) kw_8_77) dX12_atom_67 ?_
        refine lv_bipush (v := 105) hx hb dX12_atom_70 (by decide) ?_
        refine lv_bipush (v := 110) hx hb dX12_atom_72 (by decide) ?_
        refine lv_bipush (v := 115) hx hb dX12_atom_74 (by decide) ?_
        refine lv_bipush (v := 117) hx hb dX12_atom_76 (by decide) ?_
        refine lv_bipush (v := 114) hx hb dX12_atom_78 (by decide) ?_
        refine va_calll (va_runS (As := [.int 105, .int 110, .int 115, .int 117, .int 114]) (rest := [.long 27, .long 27, .ref h]) ⟨hx, hb, hml, hown, hts⟩ (m_speltC l H.size 105 110 115 117 114) (va_cwS 5 hts (gS kw_8_87 kw_8_88 kw_1_15 kw_8_89) rfl rfl rfl (by decide +kernel) ⟨Nat.le_of_ble_eq_true rfl, Nat.le_of_ble_eq_true rfl⟩) ⟨fun a U g mk q => ⟨q.1, q.2⟩, fun U hU hW => ⟨rfl, congrArg Array.size hU⟩⟩ rfl rfl hl.1 rfl (lv_room (Nat.le_of_ble_eq_true rfl)) dX12_atom_80 ⟨Nat.le_of_ble_eq_true rfl, Nat.le_of_ble_eq_true rfl⟩) hS (fun q _ h9 => nM_up hS q h9) (nM_up hS) (fun r_48 u t H1 locs ht _ hw hB _ hk1 hS => ?_)
        obtain ⟨p_49, -⟩ := hw
        have hP := my_keepM hP hk1
        generalize H1 = H at hP hS ⊢
        refine lv_lmul hx hb dX12_atom_83 ?_
        refine lv_topl (fun w_50 ew_50 => ?_)
        refine lv_ldc2 (v := 5) hx hb hown (htg (.constantLong RX12 331 5) kw_8_114) dX12_atom_84 ?_
        refine lv_ladd hx hb dX12_atom_87 ?_
        refine lv_topl (fun w_51 ew_51 => ?_)
        refine lv_lmul hx hb dX12_atom_88 ?_
        refine lv_topl (fun w_52 ew_52 => ?_)
        refine lv_ldc2 (v := 4) hx hb hown (htg (.constantLong RX12 333 4) kw_8_115) dX12_atom_89 ?_
        refine lv_ladd hx hb dX12_atom_92 ?_
        refine lv_topl (fun w_53 ew_53 => ?_)
        have z_54 : (fv_39 40).toInt = (fv 40).toInt := congrArg Int32.toInt ((fr_42 40 rfl).trans ((fr_26 40 rfl).trans ((fr_10 40 rfl))))
        refine va_calli (va_runV (As := [.long w_53]) (rest := []) ⟨hx, hb, hml, hown, hts⟩ (m_isKeyC l dC dI H.size h ad cA hd fv_39 wd ar_41 hF_fv_39 hA_ar_41 w_53) (cwV 1 hts (gV kw_8_90 kw_8_92 kw_p_68 kw_1_15 kw_8_93) rfl rfl rfl (by decide +kernel) ⟨Nat.le_of_ble_eq_true rfl, Nat.le_of_ble_eq_true rfl⟩) ⟨fun a U g mk q => ⟨q.1, q.2.1, q.2.2.1, va_K.moved (u := U) (U := U.calling g mk a) (Vm.Alike.refl U.vm) q.2.2.2⟩, va_recv hK hP (ci := 12) (q0 := 0) rfl rfl, fun U hU hW => ⟨rfl, by rw [hU], by rw [hU]; exact hP, va_K.moved hW.alike hK⟩⟩ rfl rfl hl.1 rfl (lv_room (Nat.le_of_ble_eq_true rfl)) dX12_atom_93 ⟨Nat.le_of_ble_eq_true rfl, Nat.le_of_ble_eq_true rfl⟩) hS (fun q _ h9 => aM_up hS q h9) (aM_up hS) (fun r_55 u t H1 locs ht _ hw hB _ hk1 hS => ?_)
        obtain ⟨fv_59, wd_60, ar_61⟩ := u
        obtain ⟨hF_fv_59, hA_ar_61, fr_62, fa_63, p_56, p_57, p_58, -⟩ := hw
        have hP : va_P (dC, dI) vwCl (wsM h ad cA fv_59 wd_60 ar_61) H1 := by have h9 := hB.1; rw [ht] at h9; exact h9
        have fr_62 : fM [] fv_39 fv_59 := fr_62
        have fa_63 : fA [] ar_41 ar_61 := fa_63
        have p_57 : wd_60 = wd := p_57
        have p_58 : (r_55 = 1 ∧ (fv_39 40).toInt = 2 ∧ wd = w_53) ∨ (r_55 = 0 ∧ ¬ ((fv_39 40).toInt = 2 ∧ wd = w_53)) := p_58
        generalize H1 = H at hP hS ⊢
        rw [p_57] at hP
        have k_64 : (r_55 = 1 ∧ t9 = 10) ∨ (r_55 = 0 ∧ ¬ t9 = 10) := by have h9 := p_58; rw [show fv_39 40 = fv 40 from ((fM_call (fM_call (fM_call (fM_rf [] _) fr_10 (by decide)) fr_26 (by decide)) fr_42 (by decide)) 40 rfl)] at h9; have hk9 := rd_key hrl (w0 := w_53) (j := 10) (by decide) (by rw [ew_53, ew_52, ew_51, ew_50, p_49]; decide +kernel); rcases h9 with ⟨a9, b9⟩ | ⟨a9, b9⟩; exact Or.inl ⟨a9, hk9.mp b9⟩; exact Or.inr ⟨a9, fun w => b9 (hk9.mpr w)⟩
        refine lv_if_eq (tgt := 101) hx hb dX12_atom_96 (by decide) (fun c_65 => ?_) (fun c_65 => ?_)
        · skip
          have i_66 : 0 ≤ r_55.toInt ∧ r_55.toInt ≤ 0 := iv_eq1 (⟨by decide, by decide⟩ : (0 : Int) ≤ (0 : Int32).toInt ∧ (0 : Int32).toInt ≤ 0) c_65
          refine lv_aload_n hx hb dX12_atom_101 rfl (lv_at hl 0 rfl) ?_
          refine lv_ldc2 (v := 27) hx hb hown (htg (.constantLong RX12 313 27) kw_8_77) dX12_atom_102 ?_
          refine lv_bipush (v := 114) hx hb dX12_atom_105 (by decide) ?_
          refine lv_bipush (v := 105) hx hb dX12_atom_107 (by decide) ?_
          refine lv_bipush (v := 100) hx hb dX12_atom_109 (by decide) ?_
          refine lv_bipush (v := 101) hx hb dX12_atom_111 (by decide) ?_
          refine lv_bipush (v := 114) hx hb dX12_atom_113 (by decide) ?_
          refine va_calll (va_runS (As := [.int 114, .int 105, .int 100, .int 101, .int 114]) (rest := [.long 27, .ref h]) ⟨hx, hb, hml, hown, hts⟩ (m_speltC l H.size 114 105 100 101 114) (va_cwS 5 hts (gS kw_8_87 kw_8_88 kw_1_15 kw_8_89) rfl rfl rfl (by decide +kernel) ⟨Nat.le_of_ble_eq_true rfl, Nat.le_of_ble_eq_true rfl⟩) ⟨fun a U g mk q => ⟨q.1, q.2⟩, fun U hU hW => ⟨rfl, congrArg Array.size hU⟩⟩ rfl rfl hl.1 rfl (lv_room (Nat.le_of_ble_eq_true rfl)) dX12_atom_115 ⟨Nat.le_of_ble_eq_true rfl, Nat.le_of_ble_eq_true rfl⟩) hS (fun q _ h9 => nM_up hS q h9) (nM_up hS) (fun r_68 u t H1 locs ht _ hw hB _ hk1 hS => ?_)
          obtain ⟨p_69, -⟩ := hw
          have hP := my_keepM hP hk1
          generalize H1 = H at hP hS ⊢
          refine lv_lmul hx hb dX12_atom_118 ?_
          refine lv_topl (fun w_70 ew_70 => ?_)
          refine lv_ldc2 (v := 19) hx hb hown (htg (.constantLong RX12 335 19) kw_8_116) dX12_atom_119 ?_
          refine lv_ladd hx hb dX12_atom_122 ?_
          refine lv_topl (fun w_71 ew_71 => ?_)
          have z_72 : (fv_59 40).toInt = (fv 40).toInt := congrArg Int32.toInt ((fr_62 40 rfl).trans ((fr_42 40 rfl).trans ((fr_26 40 rfl).trans ((fr_10 40 rfl)))))
          refine va_calli (va_runV (As := [.long w_71]) (rest := []) ⟨hx, hb, hml, hown, hts⟩ (m_isKeyC l dC dI H.size h ad cA hd fv_59 wd ar_61 hF_fv_59 hA_ar_61 w_71) (cwV 1 hts (gV kw_8_90 kw_8_92 kw_p_68 kw_1_15 kw_8_93) rfl rfl rfl (by decide +kernel) ⟨Nat.le_of_ble_eq_true rfl, Nat.le_of_ble_eq_true rfl⟩) ⟨fun a U g mk q => ⟨q.1, q.2.1, q.2.2.1, va_K.moved (u := U) (U := U.calling g mk a) (Vm.Alike.refl U.vm) q.2.2.2⟩, va_recv hK hP (ci := 12) (q0 := 0) rfl rfl, fun U hU hW => ⟨rfl, by rw [hU], by rw [hU]; exact hP, va_K.moved hW.alike hK⟩⟩ rfl rfl hl.1 rfl (lv_room (Nat.le_of_ble_eq_true rfl)) dX12_atom_123 ⟨Nat.le_of_ble_eq_true rfl, Nat.le_of_ble_eq_true rfl⟩) hS (fun q _ h9 => aM_up hS q h9) (aM_up hS) (fun r_73 u t H1 locs ht _ hw hB _ hk1 hS => ?_)
          obtain ⟨fv_77, wd_78, ar_79⟩ := u
          obtain ⟨hF_fv_77, hA_ar_79, fr_80, fa_81, p_74, p_75, p_76, -⟩ := hw
          have hP : va_P (dC, dI) vwCl (wsM h ad cA fv_77 wd_78 ar_79) H1 := by have h9 := hB.1; rw [ht] at h9; exact h9
          have fr_80 : fM [] fv_59 fv_77 := fr_80
          have fa_81 : fA [] ar_61 ar_79 := fa_81
          have p_75 : wd_78 = wd := p_75
          have p_76 : (r_73 = 1 ∧ (fv_59 40).toInt = 2 ∧ wd = w_71) ∨ (r_73 = 0 ∧ ¬ ((fv_59 40).toInt = 2 ∧ wd = w_71)) := p_76
          generalize H1 = H at hP hS ⊢
          rw [p_75] at hP
          have k_82 : (r_73 = 1 ∧ t9 = 11) ∨ (r_73 = 0 ∧ ¬ t9 = 11) := by have h9 := p_76; rw [show fv_59 40 = fv 40 from ((fM_call (fM_call (fM_call (fM_call (fM_rf [] _) fr_10 (by decide)) fr_26 (by decide)) fr_42 (by decide)) fr_62 (by decide)) 40 rfl)] at h9; have hk9 := rd_key hrl (w0 := w_71) (j := 11) (by decide) (by rw [ew_71, ew_70, p_69]; decide +kernel); rcases h9 with ⟨a9, b9⟩ | ⟨a9, b9⟩; exact Or.inl ⟨a9, hk9.mp b9⟩; exact Or.inr ⟨a9, fun w => b9 (hk9.mpr w)⟩
          refine lv_if_eq (tgt := 131) hx hb dX12_atom_126 (by decide) (fun c_83 => ?_) (fun c_83 => ?_)
          · skip
            have i_84 : 0 ≤ r_73.toInt ∧ r_73.toInt ≤ 0 := iv_eq1 (⟨by decide, by decide⟩ : (0 : Int) ≤ (0 : Int32).toInt ∧ (0 : Int32).toInt ≤ 0) c_83
            refine lv_aload_n hx hb dX12_atom_131 rfl (lv_at hl 0 rfl) ?_
            refine lv_bipush (v := 115) hx hb dX12_atom_132 (by decide) ?_
            refine lv_bipush (v := 101) hx hb dX12_atom_134 (by decide) ?_
            refine lv_bipush (v := 97) hx hb dX12_atom_136 (by decide) ?_
            refine lv_bipush (v := 116) hx hb dX12_atom_138 (by decide) ?_
            refine lv_bipush (v := 115) hx hb dX12_atom_140 (by decide) ?_
            refine va_calll (va_runS (As := [.int 115, .int 101, .int 97, .int 116, .int 115]) (rest := [.ref h]) ⟨hx, hb, hml, hown, hts⟩ (m_speltC l H.size 115 101 97 116 115) (va_cwS 5 hts (gS kw_8_87 kw_8_88 kw_1_15 kw_8_89) rfl rfl rfl (by decide +kernel) ⟨Nat.le_of_ble_eq_true rfl, Nat.le_of_ble_eq_true rfl⟩) ⟨fun a U g mk q => ⟨q.1, q.2⟩, fun U hU hW => ⟨rfl, congrArg Array.size hU⟩⟩ rfl rfl hl.1 rfl (lv_room (Nat.le_of_ble_eq_true rfl)) dX12_atom_142 ⟨Nat.le_of_ble_eq_true rfl, Nat.le_of_ble_eq_true rfl⟩) hS (fun q _ h9 => nM_up hS q h9) (nM_up hS) (fun r_86 u t H1 locs ht _ hw hB _ hk1 hS => ?_)
            obtain ⟨p_87, -⟩ := hw
            have hP := my_keepM hP hk1
            generalize H1 = H at hP hS ⊢
            have z_88 : (fv_77 40).toInt = (fv 40).toInt := congrArg Int32.toInt ((fr_80 40 rfl).trans ((fr_62 40 rfl).trans ((fr_42 40 rfl).trans ((fr_26 40 rfl).trans ((fr_10 40 rfl))))))
            refine va_calli (va_runV (As := [.long r_86]) (rest := []) ⟨hx, hb, hml, hown, hts⟩ (m_isKeyC l dC dI H.size h ad cA hd fv_77 wd ar_79 hF_fv_77 hA_ar_79 r_86) (cwV 1 hts (gV kw_8_90 kw_8_92 kw_p_68 kw_1_15 kw_8_93) rfl rfl rfl (by decide +kernel) ⟨Nat.le_of_ble_eq_true rfl, Nat.le_of_ble_eq_true rfl⟩) ⟨fun a U g mk q => ⟨q.1, q.2.1, q.2.2.1, va_K.moved (u := U) (U := U.calling g mk a) (Vm.Alike.refl U.vm) q.2.2.2⟩, va_recv hK hP (ci := 12) (q0 := 0) rfl rfl, fun U hU hW => ⟨rfl, by rw [hU], by rw [hU]; exact hP, va_K.moved hW.alike hK⟩⟩ rfl rfl hl.1 rfl (lv_room (Nat.le_of_ble_eq_true rfl)) dX12_atom_145 ⟨Nat.le_of_ble_eq_true rfl, Nat.le_of_ble_eq_true rfl⟩) hS (fun q _ h9 => aM_up hS q h9) (aM_up hS) (fun r_89 u t H1 locs ht _ hw hB _ hk1 hS => ?_)
            obtain ⟨fv_93, wd_94, ar_95⟩ := u
            obtain ⟨hF_fv_93, hA_ar_95, fr_96, fa_97, p_90, p_91, p_92, -⟩ := hw
            have hP : va_P (dC, dI) vwCl (wsM h ad cA fv_93 wd_94 ar_95) H1 := by have h9 := hB.1; rw [ht] at h9; exact h9
            have fr_96 : fM [] fv_77 fv_93 := fr_96
            have fa_97 : fA [] ar_79 ar_95 := fa_97
            have p_91 : wd_94 = wd := p_91
            have p_92 : (r_89 = 1 ∧ (fv_77 40).toInt = 2 ∧ wd = r_86) ∨ (r_89 = 0 ∧ ¬ ((fv_77 40).toInt = 2 ∧ wd = r_86)) := p_92
            generalize H1 = H at hP hS ⊢
            rw [p_91] at hP
            have k_98 : (r_89 = 1 ∧ t9 = 12) ∨ (r_89 = 0 ∧ ¬ t9 = 12) := by have h9 := p_92; rw [show fv_77 40 = fv 40 from ((fM_call (fM_call (fM_call (fM_call (fM_call (fM_rf [] _) fr_10 (by decide)) fr_26 (by decide)) fr_42 (by decide)) fr_62 (by decide)) fr_80 (by decide)) 40 rfl)] at h9; have hk9 := rd_key hrl (w0 := r_86) (j := 12) (by decide) (by rw [p_87]; decide +kernel); rcases h9 with ⟨a9, b9⟩ | ⟨a9, b9⟩; exact Or.inl ⟨a9, hk9.mp b9⟩; exact Or.inr ⟨a9, fun w => b9 (hk9.mpr w)⟩
            refine lv_if_eq (tgt := 153) hx hb dX12_atom_148 (by decide) (fun c_99 => ?_) (fun c_99 => ?_)
            · skip
              have i_100 : 0 ≤ r_89.toInt ∧ r_89.toInt ≤ 0 := iv_eq1 (⟨by decide, by decide⟩ : (0 : Int) ≤ (0 : Int32).toInt ∧ (0 : Int32).toInt ≤ 0) c_99
              refine lv_aload_n hx hb dX12_atom_153 rfl (lv_at hl 0 rfl) ?_
              refine lv_bipush (v := 114) hx hb dX12_atom_154 (by decide) ?_
              refine lv_bipush (v := 97) hx hb dX12_atom_156 (by decide) ?_
              refine lv_bipush (v := 105) hx hb dX12_atom_158 (by decide) ?_
              refine lv_bipush (v := 110) hx hb dX12_atom_160 (by decide) ?_
              refine lv_iconst (v := 0) hx hb dX12_atom_162 (by decide) ?_
              refine va_calll (va_runS (As := [.int 114, .int 97, .int 105, .int 110, .int 0]) (rest := [.ref h]) ⟨hx, hb, hml, hown, hts⟩ (m_speltC l H.size 114 97 105 110 0) (va_cwS 5 hts (gS kw_8_87 kw_8_88 kw_1_15 kw_8_89) rfl rfl rfl (by decide +kernel) ⟨Nat.le_of_ble_eq_true rfl, Nat.le_of_ble_eq_true rfl⟩) ⟨fun a U g mk q => ⟨q.1, q.2⟩, fun U hU hW => ⟨rfl, congrArg Array.size hU⟩⟩ rfl rfl hl.1 rfl (lv_room (Nat.le_of_ble_eq_true rfl)) dX12_atom_163 ⟨Nat.le_of_ble_eq_true rfl, Nat.le_of_ble_eq_true rfl⟩) hS (fun q _ h9 => nM_up hS q h9) (nM_up hS) (fun r_102 u t H1 locs ht _ hw hB _ hk1 hS => ?_)
              obtain ⟨p_103, -⟩ := hw
              have hP := my_keepM hP hk1
              generalize H1 = H at hP hS ⊢
              have z_104 : (fv_93 40).toInt = (fv 40).toInt := congrArg Int32.toInt ((fr_96 40 rfl).trans ((fr_80 40 rfl).trans ((fr_62 40 rfl).trans ((fr_42 40 rfl).trans ((fr_26 40 rfl).trans ((fr_10 40 rfl)))))))
              refine va_calli (va_runV (As := [.long r_102]) (rest := []) ⟨hx, hb, hml, hown, hts⟩ (m_isKeyC l dC dI H.size h ad cA hd fv_93 wd ar_95 hF_fv_93 hA_ar_95 r_102) (cwV 1 hts (gV kw_8_90 kw_8_92 kw_p_68 kw_1_15 kw_8_93) rfl rfl rfl (by decide +kernel) ⟨Nat.le_of_ble_eq_true rfl, Nat.le_of_ble_eq_true rfl⟩) ⟨fun a U g mk q => ⟨q.1, q.2.1, q.2.2.1, va_K.moved (u := U) (U := U.calling g mk a) (Vm.Alike.refl U.vm) q.2.2.2⟩, va_recv hK hP (ci := 12) (q0 := 0) rfl rfl, fun U hU hW => ⟨rfl, by rw [hU], by rw [hU]; exact hP, va_K.moved hW.alike hK⟩⟩ rfl rfl hl.1 rfl (lv_room (Nat.le_of_ble_eq_true rfl)) dX12_atom_166 ⟨Nat.le_of_ble_eq_true rfl, Nat.le_of_ble_eq_true rfl⟩) hS (fun q _ h9 => aM_up hS q h9) (aM_up hS) (fun r_105 u t H1 locs ht _ hw hB _ hk1 hS => ?_)
              obtain ⟨fv_109, wd_110, ar_111⟩ := u
              obtain ⟨hF_fv_109, hA_ar_111, fr_112, fa_113, p_106, p_107, p_108, -⟩ := hw
              have hP : va_P (dC, dI) vwCl (wsM h ad cA fv_109 wd_110 ar_111) H1 := by have h9 := hB.1; rw [ht] at h9; exact h9
              have fr_112 : fM [] fv_93 fv_109 := fr_112
              have fa_113 : fA [] ar_95 ar_111 := fa_113
              have p_107 : wd_110 = wd := p_107
              have p_108 : (r_105 = 1 ∧ (fv_93 40).toInt = 2 ∧ wd = r_102) ∨ (r_105 = 0 ∧ ¬ ((fv_93 40).toInt = 2 ∧ wd = r_102)) := p_108
              generalize H1 = H at hP hS ⊢
              rw [p_107] at hP
              have k_114 : (r_105 = 1 ∧ t9 = 13) ∨ (r_105 = 0 ∧ ¬ t9 = 13) := by have h9 := p_108; rw [show fv_93 40 = fv 40 from ((fM_call (fM_call (fM_call (fM_call (fM_call (fM_call (fM_rf [] _) fr_10 (by decide)) fr_26 (by decide)) fr_42 (by decide)) fr_62 (by decide)) fr_80 (by decide)) fr_96 (by decide)) 40 rfl)] at h9; have hk9 := rd_key hrl (w0 := r_102) (j := 13) (by decide) (by rw [p_103]; decide +kernel); rcases h9 with ⟨a9, b9⟩ | ⟨a9, b9⟩; exact Or.inl ⟨a9, hk9.mp b9⟩; exact Or.inr ⟨a9, fun w => b9 (hk9.mpr w)⟩
              refine lv_if_eq (tgt := 175) hx hb dX12_atom_169 (by decide) (fun c_115 => ?_) (fun c_115 => ?_)
              · skip
                have i_116 : 0 ≤ r_105.toInt ∧ r_105.toInt ≤ 0 := iv_eq1 (⟨by decide, by decide⟩ : (0 : Int) ≤ (0 : Int32).toInt ∧ (0 : Int32).toInt ≤ 0) c_115
                refine lv_aload_n hx hb dX12_atom_175 rfl (lv_at hl 0 rfl) ?_
                refine lv_ldc2 (v := 27) hx hb hown (htg (.constantLong RX12 313 27) kw_8_77) dX12_atom_176 ?_
                refine lv_bipush (v := 109) hx hb dX12_atom_179 (by decide) ?_
                refine lv_bipush (v := 105) hx hb dX12_atom_181 (by decide) ?_
                refine lv_bipush (v := 110) hx hb dX12_atom_183 (by decide) ?_
                refine lv_bipush (v := 117) hx hb dX12_atom_185 (by decide) ?_
                refine lv_bipush (v := 116) hx hb dX12_atom_187 (by decide) ?_
                refine va_calll (va_runS (As := [.int 109, .int 105, .int 110, .int 117, .int 116]) (rest := [.long 27, .ref h]) ⟨hx, hb, hml, hown, hts⟩ (m_speltC l H.size 109 105 110 117 116) (va_cwS 5 hts (gS kw_8_87 kw_8_88 kw_1_15 kw_8_89) rfl rfl rfl (by decide +kernel) ⟨Nat.le_of_ble_eq_true rfl, Nat.le_of_ble_eq_true rfl⟩) ⟨fun a U g mk q => ⟨q.1, q.2⟩, fun U hU hW => ⟨rfl, congrArg Array.size hU⟩⟩ rfl rfl hl.1 rfl (lv_room (Nat.le_of_ble_eq_true rfl)) dX12_atom_189 ⟨Nat.le_of_ble_eq_true rfl, Nat.le_of_ble_eq_true rfl⟩) hS (fun q _ h9 => nM_up hS q h9) (nM_up hS) (fun r_118 u t H1 locs ht _ hw hB _ hk1 hS => ?_)
                obtain ⟨p_119, -⟩ := hw
                have hP := my_keepM hP hk1
                generalize H1 = H at hP hS ⊢
                refine lv_lmul hx hb dX12_atom_192 ?_
                refine lv_topl (fun w_120 ew_120 => ?_)
                refine lv_ldc2 (v := 5) hx hb hown (htg (.constantLong RX12 331 5) kw_8_114) dX12_atom_193 ?_
                refine lv_ladd hx hb dX12_atom_196 ?_
                refine lv_topl (fun w_121 ew_121 => ?_)
                have z_122 : (fv_109 40).toInt = (fv 40).toInt := congrArg Int32.toInt ((fr_112 40 rfl).trans ((fr_96 40 rfl).trans ((fr_80 40 rfl).trans ((fr_62 40 rfl).trans ((fr_42 40 rfl).trans ((fr_26 40 rfl).trans ((fr_10 40 rfl))))))))
                refine va_calli (va_runV (As := [.long w_121]) (rest := []) ⟨hx, hb, hml, hown, hts⟩ (m_isKeyC l dC dI H.size h ad cA hd fv_109 wd ar_111 hF_fv_109 hA_ar_111 w_121) (cwV 1 hts (gV kw_8_90 kw_8_92 kw_p_68 kw_1_15 kw_8_93) rfl rfl rfl (by decide +kernel) ⟨Nat.le_of_ble_eq_true rfl, Nat.le_of_ble_eq_true rfl⟩) ⟨fun a U g mk q => ⟨q.1, q.2.1, q.2.2.1, va_K.moved (u := U) (U := U.calling g mk a) (Vm.Alike.refl U.vm) q.2.2.2⟩, va_recv hK hP (ci := 12) (q0 := 0) rfl rfl, fun U hU hW => ⟨rfl, by rw [hU], by rw [hU]; exact hP, va_K.moved hW.alike hK⟩⟩ rfl rfl hl.1 rfl (lv_room (Nat.le_of_ble_eq_true rfl)) dX12_atom_197 ⟨Nat.le_of_ble_eq_true rfl, Nat.le_of_ble_eq_true rfl⟩) hS (fun q _ h9 => aM_up hS q h9) (aM_up hS) (fun r_123 u t H1 locs ht _ hw hB _ hk1 hS => ?_)
                obtain ⟨fv_127, wd_128, ar_129⟩ := u
                obtain ⟨hF_fv_127, hA_ar_129, fr_130, fa_131, p_124, p_125, p_126, -⟩ := hw
                have hP : va_P (dC, dI) vwCl (wsM h ad cA fv_127 wd_128 ar_129) H1 := by have h9 := hB.1; rw [ht] at h9; exact h9
                have fr_130 : fM [] fv_109 fv_127 := fr_130
                have fa_131 : fA [] ar_111 ar_129 := fa_131
                have p_125 : wd_128 = wd := p_125
                have p_126 : (r_123 = 1 ∧ (fv_109 40).toInt = 2 ∧ wd = w_121) ∨ (r_123 = 0 ∧ ¬ ((fv_109 40).toInt = 2 ∧ wd = w_121)) := p_126
                generalize H1 = H at hP hS ⊢
                rw [p_125] at hP
                have k_132 : (r_123 = 1 ∧ t9 = 14) ∨ (r_123 = 0 ∧ ¬ t9 = 14) := by have h9 := p_126; rw [show fv_109 40 = fv 40 from ((fM_call (fM_call (fM_call (fM_call (fM_call (fM_call (fM_call (fM_rf [] _) fr_10 (by decide)) fr_26 (by decide)) fr_42 (by decide)) fr_62 (by decide)) fr_80 (by decide)) fr_96 (by decide)) fr_112 (by decide)) 40 rfl)] at h9; have hk9 := rd_key hrl (w0 := w_121) (j := 14) (by decide) (by rw [ew_121, ew_120, p_119]; decide +kernel); rcases h9 with ⟨a9, b9⟩ | ⟨a9, b9⟩; exact Or.inl ⟨a9, hk9.mp b9⟩; exact Or.inr ⟨a9, fun w => b9 (hk9.mpr w)⟩
                refine lv_if_eq (tgt := 206) hx hb dX12_atom_200 (by decide) (fun c_133 => ?_) (fun c_133 => ?_)
                · skip
                  have i_134 : 0 ≤ r_123.toInt ∧ r_123.toInt ≤ 0 := iv_eq1 (⟨by decide, by decide⟩ : (0 : Int) ≤ (0 : Int32).toInt ∧ (0 : Int32).toInt ≤ 0) c_133
                  refine lv_aload_n hx hb dX12_atom_206 rfl (lv_at hl 0 rfl) ?_
                  refine lv_bipush (v := 100) hx hb dX12_atom_207 (by decide) ?_
                  refine lv_bipush (v := 97) hx hb dX12_atom_209 (by decide) ?_
                  refine lv_bipush (v := 121) hx hb dX12_atom_211 (by decide) ?_
                  refine lv_iconst (v := 0) hx hb dX12_atom_213 (by decide) ?_
                  refine lv_iconst (v := 0) hx hb dX12_atom_214 (by decide) ?_
                  refine va_calll (va_runS (As := [.int 100, .int 97, .int 121, .int 0, .int 0]) (rest := [.ref h]) ⟨hx, hb, hml, hown, hts⟩ (m_speltC l H.size 100 97 121 0 0) (va_cwS 5 hts (gS kw_8_87 kw_8_88 kw_1_15 kw_8_89) rfl rfl rfl (by decide +kernel) ⟨Nat.le_of_ble_eq_true rfl, Nat.le_of_ble_eq_true rfl⟩) ⟨fun a U g mk q => ⟨q.1, q.2⟩, fun U hU hW => ⟨rfl, congrArg Array.size hU⟩⟩ rfl rfl hl.1 rfl (lv_room (Nat.le_of_ble_eq_true rfl)) dX12_atom_215 ⟨Nat.le_of_ble_eq_true rfl, Nat.le_of_ble_eq_true rfl⟩) hS (fun q _ h9 => nM_up hS q h9) (nM_up hS) (fun r_136 u t H1 locs ht _ hw hB _ hk1 hS => ?_)
                  obtain ⟨p_137, -⟩ := hw
                  have hP := my_keepM hP hk1
                  generalize H1 = H at hP hS ⊢
                  have z_138 : (fv_127 40).toInt = (fv 40).toInt := congrArg Int32.toInt ((fr_130 40 rfl).trans ((fr_112 40 rfl).trans ((fr_96 40 rfl).trans ((fr_80 40 rfl).trans ((fr_62 40 rfl).trans ((fr_42 40 rfl).trans ((fr_26 40 rfl).trans ((fr_10 40 rfl)))))))))
                  refine va_calli (va_runV (As := [.long r_136]) (rest := []) ⟨hx, hb, hml, hown, hts⟩ (m_isKeyC l dC dI H.size h ad cA hd fv_127 wd ar_129 hF_fv_127 hA_ar_129 r_136) (cwV 1 hts (gV kw_8_90 kw_8_92 kw_p_68 kw_1_15 kw_8_93) rfl rfl rfl (by decide +kernel) ⟨Nat.le_of_ble_eq_true rfl, Nat.le_of_ble_eq_true rfl⟩) ⟨fun a U g mk q => ⟨q.1, q.2.1, q.2.2.1, va_K.moved (u := U) (U := U.calling g mk a) (Vm.Alike.refl U.vm) q.2.2.2⟩, va_recv hK hP (ci := 12) (q0 := 0) rfl rfl, fun U hU hW => ⟨rfl, by rw [hU], by rw [hU]; exact hP, va_K.moved hW.alike hK⟩⟩ rfl rfl hl.1 rfl (lv_room (Nat.le_of_ble_eq_true rfl)) dX12_atom_218 ⟨Nat.le_of_ble_eq_true rfl, Nat.le_of_ble_eq_true rfl⟩) hS (fun q _ h9 => aM_up hS q h9) (aM_up hS) (fun r_139 u t H1 locs ht _ hw hB _ hk1 hS => ?_)
                  obtain ⟨fv_143, wd_144, ar_145⟩ := u
                  obtain ⟨hF_fv_143, hA_ar_145, fr_146, fa_147, p_140, p_141, p_142, -⟩ := hw
                  have hP : va_P (dC, dI) vwCl (wsM h ad cA fv_143 wd_144 ar_145) H1 := by have h9 := hB.1; rw [ht] at h9; exact h9
                  have fr_146 : fM [] fv_127 fv_143 := fr_146
                  have fa_147 : fA [] ar_129 ar_145 := fa_147
                  have p_141 : wd_144 = wd := p_141
                  have p_142 : (r_139 = 1 ∧ (fv_127 40).toInt = 2 ∧ wd = r_136) ∨ (r_139 = 0 ∧ ¬ ((fv_127 40).toInt = 2 ∧ wd = r_136)) := p_142
                  generalize H1 = H at hP hS ⊢
                  rw [p_141] at hP
                  have k_148 : (r_139 = 1 ∧ t9 = 15) ∨ (r_139 = 0 ∧ ¬ t9 = 15) := by have h9 := p_142; rw [show fv_127 40 = fv 40 from ((fM_call (fM_call (fM_call (fM_call (fM_call (fM_call (fM_call (fM_call (fM_rf [] _) fr_10 (by decide)) fr_26 (by decide)) fr_42 (by decide)) fr_62 (by decide)) fr_80 (by decide)) fr_96 (by decide)) fr_112 (by decide)) fr_130 (by decide)) 40 rfl)] at h9; have hk9 := rd_key hrl (w0 := r_136) (j := 15) (by decide) (by rw [p_137]; decide +kernel); rcases h9 with ⟨a9, b9⟩ | ⟨a9, b9⟩; exact Or.inl ⟨a9, hk9.mp b9⟩; exact Or.inr ⟨a9, fun w => b9 (hk9.mpr w)⟩
                  refine lv_if_eq (tgt := 227) hx hb dX12_atom_221 (by decide) (fun c_149 => ?_) (fun c_149 => ?_)
                  · skip
                    have i_150 : 0 ≤ r_139.toInt ∧ r_139.toInt ≤ 0 := iv_eq1 (⟨by decide, by decide⟩ : (0 : Int) ≤ (0 : Int32).toInt ∧ (0 : Int32).toInt ≤ 0) c_149
                    refine lv_aload_n hx hb dX12_atom_227 rfl (lv_at hl 0 rfl) ?_
                    refine lv_bipush (v := 102) hx hb dX12_atom_228 (by decide) ?_
                    refine lv_bipush (v := 114) hx hb dX12_atom_230 (by decide) ?_
                    refine lv_bipush (v := 111) hx hb dX12_atom_232 (by decide) ?_
                    refine lv_bipush (v := 109) hx hb dX12_atom_234 (by decide) ?_
                    refine lv_iconst (v := 0) hx hb dX12_atom_236 (by decide) ?_
                    refine va_calll (va_runS (As := [.int 102, .int 114, .int 111, .int 109, .int 0]) (rest := [.ref h]) ⟨hx, hb, hml, hown, hts⟩ (m_speltC l H.size 102 114 111 109 0) (va_cwS 5 hts (gS kw_8_87 kw_8_88 kw_1_15 kw_8_89) rfl rfl rfl (by decide +kernel) ⟨Nat.le_of_ble_eq_true rfl, Nat.le_of_ble_eq_true rfl⟩) ⟨fun a U g mk q => ⟨q.1, q.2⟩, fun U hU hW => ⟨rfl, congrArg Array.size hU⟩⟩ rfl rfl hl.1 rfl (lv_room (Nat.le_of_ble_eq_true rfl)) dX12_atom_237 ⟨Nat.le_of_ble_eq_true rfl, Nat.le_of_ble_eq_true rfl⟩) hS (fun q _ h9 => nM_up hS q h9) (nM_up hS) (fun r_152 u t H1 locs ht _ hw hB _ hk1 hS => ?_)
                    obtain ⟨p_153, -⟩ := hw
                    have hP := my_keepM hP hk1
                    generalize H1 = H at hP hS ⊢
                    have z_154 : (fv_143 40).toInt = (fv 40).toInt := congrArg Int32.toInt ((fr_146 40 rfl).trans ((fr_130 40 rfl).trans ((fr_112 40 rfl).trans ((fr_96 40 rfl).trans ((fr_80 40 rfl).trans ((fr_62 40 rfl).trans ((fr_42 40 rfl).trans ((fr_26 40 rfl).trans ((fr_10 40 rfl))))))))))
                    refine va_calli (va_runV (As := [.long r_152]) (rest := []) ⟨hx, hb, hml, hown, hts⟩ (m_isKeyC l dC dI H.size h ad cA hd fv_143 wd ar_145 hF_fv_143 hA_ar_145 r_152) (cwV 1 hts (gV kw_8_90 kw_8_92 kw_p_68 kw_1_15 kw_8_93) rfl rfl rfl (by decide +kernel) ⟨Nat.le_of_ble_eq_true rfl, Nat.le_of_ble_eq_true rfl⟩) ⟨fun a U g mk q => ⟨q.1, q.2.1, q.2.2.1, va_K.moved (u := U) (U := U.calling g mk a) (Vm.Alike.refl U.vm) q.2.2.2⟩, va_recv hK hP (ci := 12) (q0 := 0) rfl rfl, fun U hU hW => ⟨rfl, by rw [hU], by rw [hU]; exact hP, va_K.moved hW.alike hK⟩⟩ rfl rfl hl.1 rfl (lv_room (Nat.le_of_ble_eq_true rfl)) dX12_atom_240 ⟨Nat.le_of_ble_eq_true rfl, Nat.le_of_ble_eq_true rfl⟩) hS (fun q _ h9 => aM_up hS q h9) (aM_up hS) (fun r_155 u t H1 locs ht _ hw hB _ hk1 hS => ?_)
                    obtain ⟨fv_159, wd_160, ar_161⟩ := u
                    obtain ⟨hF_fv_159, hA_ar_161, fr_162, fa_163, p_156, p_157, p_158, -⟩ := hw
                    have hP : va_P (dC, dI) vwCl (wsM h ad cA fv_159 wd_160 ar_161) H1 := by have h9 := hB.1; rw [ht] at h9; exact h9
                    have fr_162 : fM [] fv_143 fv_159 := fr_162
                    have fa_163 : fA [] ar_145 ar_161 := fa_163
                    have p_157 : wd_160 = wd := p_157
                    have p_158 : (r_155 = 1 ∧ (fv_143 40).toInt = 2 ∧ wd = r_152) ∨ (r_155 = 0 ∧ ¬ ((fv_143 40).toInt = 2 ∧ wd = r_152)) := p_158
                    generalize H1 = H at hP hS ⊢
                    rw [p_157] at hP
                    have k_164 : (r_155 = 1 ∧ t9 = 16) ∨ (r_155 = 0 ∧ ¬ t9 = 16) := by have h9 := p_158; rw [show fv_143 40 = fv 40 from ((fM_call (fM_call (fM_call (fM_call (fM_call (fM_call (fM_call (fM_call (fM_call (fM_rf [] _) fr_10 (by decide)) fr_26 (by decide)) fr_42 (by decide)) fr_62 (by decide)) fr_80 (by decide)) fr_96 (by decide)) fr_112 (by decide)) fr_130 (by decide)) fr_146 (by decide)) 40 rfl)] at h9; have hk9 := rd_key hrl (w0 := r_152) (j := 16) (by decide) (by rw [p_153]; decide +kernel); rcases h9 with ⟨a9, b9⟩ | ⟨a9, b9⟩; exact Or.inl ⟨a9, hk9.mp b9⟩; exact Or.inr ⟨a9, fun w => b9 (hk9.mpr w)⟩
                    refine lv_if_eq (tgt := 249) hx hb dX12_atom_243 (by decide) (fun c_165 => ?_) (fun c_165 => ?_)
                    · skip
                      have i_166 : 0 ≤ r_155.toInt ∧ r_155.toInt ≤ 0 := iv_eq1 (⟨by decide, by decide⟩ : (0 : Int) ≤ (0 : Int32).toInt ∧ (0 : Int32).toInt ≤ 0) c_165
                      refine lv_aload_n hx hb dX12_atom_249 rfl (lv_at hl 0 rfl) ?_
                      refine lv_bipush (v := 116) hx hb dX12_atom_250 (by decide) ?_
                      refine lv_bipush (v := 111) hx hb dX12_atom_252 (by decide) ?_
                      refine lv_iconst (v := 0) hx hb dX12_atom_254 (by decide) ?_
                      refine lv_iconst (v := 0) hx hb dX12_atom_255 (by decide) ?_
                      refine lv_iconst (v := 0) hx hb dX12_atom_256 (by decide) ?_
                      refine va_calll (va_runS (As := [.int 116, .int 111, .int 0, .int 0, .int 0]) (rest := [.ref h]) ⟨hx, hb, hml, hown, hts⟩ (m_speltC l H.size 116 111 0 0 0) (va_cwS 5 hts (gS kw_8_87 kw_8_88 kw_1_15 kw_8_89) rfl rfl rfl (by decide +kernel) ⟨Nat.le_of_ble_eq_true rfl, Nat.le_of_ble_eq_true rfl⟩) ⟨fun a U g mk q => ⟨q.1, q.2⟩, fun U hU hW => ⟨rfl, congrArg Array.size hU⟩⟩ rfl rfl hl.1 rfl (lv_room (Nat.le_of_ble_eq_true rfl)) dX12_atom_257 ⟨Nat.le_of_ble_eq_true rfl, Nat.le_of_ble_eq_true rfl⟩) hS (fun q _ h9 => nM_up hS q h9) (nM_up hS) (fun r_168 u t H1 locs ht _ hw hB _ hk1 hS => ?_)
                      obtain ⟨p_169, -⟩ := hw
                      have hP := my_keepM hP hk1
                      generalize H1 = H at hP hS ⊢
                      have z_170 : (fv_159 40).toInt = (fv 40).toInt := congrArg Int32.toInt ((fr_162 40 rfl).trans ((fr_146 40 rfl).trans ((fr_130 40 rfl).trans ((fr_112 40 rfl).trans ((fr_96 40 rfl).trans ((fr_80 40 rfl).trans ((fr_62 40 rfl).trans ((fr_42 40 rfl).trans ((fr_26 40 rfl).trans ((fr_10 40 rfl)))))))))))
                      refine va_calli (va_runV (As := [.long r_168]) (rest := []) ⟨hx, hb, hml, hown, hts⟩ (m_isKeyC l dC dI H.size h ad cA hd fv_159 wd ar_161 hF_fv_159 hA_ar_161 r_168) (cwV 1 hts (gV kw_8_90 kw_8_92 kw_p_68 kw_1_15 kw_8_93) rfl rfl rfl (by decide +kernel) ⟨Nat.le_of_ble_eq_true rfl, Nat.le_of_ble_eq_true rfl⟩) ⟨fun a U g mk q => ⟨q.1, q.2.1, q.2.2.1, va_K.moved (u := U) (U := U.calling g mk a) (Vm.Alike.refl U.vm) q.2.2.2⟩, va_recv hK hP (ci := 12) (q0 := 0) rfl rfl, fun U hU hW => ⟨rfl, by rw [hU], by rw [hU]; exact hP, va_K.moved hW.alike hK⟩⟩ rfl rfl hl.1 rfl (lv_room (Nat.le_of_ble_eq_true rfl)) dX12_atom_260 ⟨Nat.le_of_ble_eq_true rfl, Nat.le_of_ble_eq_true rfl⟩) hS (fun q _ h9 => aM_up hS q h9) (aM_up hS) (fun r_171 u t H1 locs ht _ hw hB _ hk1 hS => ?_)
                      obtain ⟨fv_175, wd_176, ar_177⟩ := u
                      obtain ⟨hF_fv_175, hA_ar_177, fr_178, fa_179, p_172, p_173, p_174, -⟩ := hw
                      have hP : va_P (dC, dI) vwCl (wsM h ad cA fv_175 wd_176 ar_177) H1 := by have h9 := hB.1; rw [ht] at h9; exact h9
                      have fr_178 : fM [] fv_159 fv_175 := fr_178
                      have fa_179 : fA [] ar_161 ar_177 := fa_179
                      have p_173 : wd_176 = wd := p_173
                      have p_174 : (r_171 = 1 ∧ (fv_159 40).toInt = 2 ∧ wd = r_168) ∨ (r_171 = 0 ∧ ¬ ((fv_159 40).toInt = 2 ∧ wd = r_168)) := p_174
                      generalize H1 = H at hP hS ⊢
                      rw [p_173] at hP
                      have k_180 : (r_171 = 1 ∧ t9 = 17) ∨ (r_171 = 0 ∧ ¬ t9 = 17) := by have h9 := p_174; rw [show fv_159 40 = fv 40 from ((fM_call (fM_call (fM_call (fM_call (fM_call (fM_call (fM_call (fM_call (fM_call (fM_call (fM_rf [] _) fr_10 (by decide)) fr_26 (by decide)) fr_42 (by decide)) fr_62 (by decide)) fr_80 (by decide)) fr_96 (by decide)) fr_112 (by decide)) fr_130 (by decide)) fr_146 (by decide)) fr_162 (by decide)) 40 rfl)] at h9; have hk9 := rd_key hrl (w0 := r_168) (j := 17) (by decide) (by rw [p_169]; decide +kernel); rcases h9 with ⟨a9, b9⟩ | ⟨a9, b9⟩; exact Or.inl ⟨a9, hk9.mp b9⟩; exact Or.inr ⟨a9, fun w => b9 (hk9.mpr w)⟩
                      refine lv_if_eq (tgt := 269) hx hb dX12_atom_263 (by decide) (fun c_181 => ?_) (fun c_181 => ?_)
                      · skip
                        have i_182 : 0 ≤ r_171.toInt ∧ r_171.toInt ≤ 0 := iv_eq1 (⟨by decide, by decide⟩ : (0 : Int) ≤ (0 : Int32).toInt ∧ (0 : Int32).toInt ≤ 0) c_181
                        refine lv_aload_n hx hb dX12_atom_269 rfl (lv_at hl 0 rfl) ?_
                        refine lv_bipush (v := 116) hx hb dX12_atom_270 (by decide) ?_
                        refine lv_bipush (v := 105) hx hb dX12_atom_272 (by decide) ?_
                        refine lv_bipush (v := 109) hx hb dX12_atom_274 (by decide) ?_
                        refine lv_bipush (v := 101) hx hb dX12_atom_276 (by decide) ?_
                        refine lv_bipush (v := 115) hx hb dX12_atom_278 (by decide) ?_
                        refine va_calll (va_runS (As := [.int 116, .int 105, .int 109, .int 101, .int 115]) (rest := [.ref h]) ⟨hx, hb, hml, hown, hts⟩ (m_speltC l H.size 116 105 109 101 115) (va_cwS 5 hts (gS kw_8_87 kw_8_88 kw_1_15 kw_8_89) rfl rfl rfl (by decide +kernel) ⟨Nat.le_of_ble_eq_true rfl, Nat.le_of_ble_eq_true rfl⟩) ⟨fun a U g mk q => ⟨q.1, q.2⟩, fun U hU hW => ⟨rfl, congrArg Array.size hU⟩⟩ rfl rfl hl.1 rfl (lv_room (Nat.le_of_ble_eq_true rfl)) dX12_atom_280 ⟨Nat.le_of_ble_eq_true rfl, Nat.le_of_ble_eq_true rfl⟩) hS (fun q _ h9 => nM_up hS q h9) (nM_up hS) (fun r_184 u t H1 locs ht _ hw hB _ hk1 hS => ?_)
                        obtain ⟨p_185, -⟩ := hw
                        have hP := my_keepM hP hk1
                        generalize H1 = H at hP hS ⊢
                        have z_186 : (fv_175 40).toInt = (fv 40).toInt := congrArg Int32.toInt ((fr_178 40 rfl).trans ((fr_162 40 rfl).trans ((fr_146 40 rfl).trans ((fr_130 40 rfl).trans ((fr_112 40 rfl).trans ((fr_96 40 rfl).trans ((fr_80 40 rfl).trans ((fr_62 40 rfl).trans ((fr_42 40 rfl).trans ((fr_26 40 rfl).trans ((fr_10 40 rfl))))))))))))
                        refine va_calli (va_runV (As := [.long r_184]) (rest := []) ⟨hx, hb, hml, hown, hts⟩ (m_isKeyC l dC dI H.size h ad cA hd fv_175 wd ar_177 hF_fv_175 hA_ar_177 r_184) (cwV 1 hts (gV kw_8_90 kw_8_92 kw_p_68 kw_1_15 kw_8_93) rfl rfl rfl (by decide +kernel) ⟨Nat.le_of_ble_eq_true rfl, Nat.le_of_ble_eq_true rfl⟩) ⟨fun a U g mk q => ⟨q.1, q.2.1, q.2.2.1, va_K.moved (u := U) (U := U.calling g mk a) (Vm.Alike.refl U.vm) q.2.2.2⟩, va_recv hK hP (ci := 12) (q0 := 0) rfl rfl, fun U hU hW => ⟨rfl, by rw [hU], by rw [hU]; exact hP, va_K.moved hW.alike hK⟩⟩ rfl rfl hl.1 rfl (lv_room (Nat.le_of_ble_eq_true rfl)) dX12_atom_283 ⟨Nat.le_of_ble_eq_true rfl, Nat.le_of_ble_eq_true rfl⟩) hS (fun q _ h9 => aM_up hS q h9) (aM_up hS) (fun r_187 u t H1 locs ht _ hw hB _ hk1 hS => ?_)
                        obtain ⟨fv_191, wd_192, ar_193⟩ := u
                        obtain ⟨hF_fv_191, hA_ar_193, fr_194, fa_195, p_188, p_189, p_190, -⟩ := hw
                        have hP : va_P (dC, dI) vwCl (wsM h ad cA fv_191 wd_192 ar_193) H1 := by have h9 := hB.1; rw [ht] at h9; exact h9
                        have fr_194 : fM [] fv_175 fv_191 := fr_194
                        have fa_195 : fA [] ar_177 ar_193 := fa_195
                        have p_189 : wd_192 = wd := p_189
                        have p_190 : (r_187 = 1 ∧ (fv_175 40).toInt = 2 ∧ wd = r_184) ∨ (r_187 = 0 ∧ ¬ ((fv_175 40).toInt = 2 ∧ wd = r_184)) := p_190
                        generalize H1 = H at hP hS ⊢
                        rw [p_189] at hP
                        have k_196 : (r_187 = 1 ∧ t9 = 18) ∨ (r_187 = 0 ∧ ¬ t9 = 18) := by have h9 := p_190; rw [show fv_175 40 = fv 40 from ((fM_call (fM_call (fM_call (fM_call (fM_call (fM_call (fM_call (fM_call (fM_call (fM_call (fM_call (fM_rf [] _) fr_10 (by decide)) fr_26 (by decide)) fr_42 (by decide)) fr_62 (by decide)) fr_80 (by decide)) fr_96 (by decide)) fr_112 (by decide)) fr_130 (by decide)) fr_146 (by decide)) fr_162 (by decide)) fr_178 (by decide)) 40 rfl)] at h9; have hk9 := rd_key hrl (w0 := r_184) (j := 18) (by decide) (by rw [p_185]; decide +kernel); rcases h9 with ⟨a9, b9⟩ | ⟨a9, b9⟩; exact Or.inl ⟨a9, hk9.mp b9⟩; exact Or.inr ⟨a9, fun w => b9 (hk9.mpr w)⟩
                        refine lv_if_eq (tgt := 294) hx hb dX12_atom_286 (by decide) (fun c_197 => ?_) (fun c_197 => ?_)
                        · skip
                          have i_198 : 0 ≤ r_187.toInt ∧ r_187.toInt ≤ 0 := iv_eq1 (⟨by decide, by decide⟩ : (0 : Int) ≤ (0 : Int32).toInt ∧ (0 : Int32).toInt ≤ 0) c_197
                          refine lv_iconst (v := (-1)) hx hb dX12_atom_294 (by decide) ?_
                          have z_200 : ((-1) : Int32).toInt = (-1) := by decide
                          exact W.iret (v := (-1)) hx hb hr (fun t ht hW => ⟨⟨(-1), (fv_191, wd, ar_193), rfl, ⟨hF_fv_191, hA_ar_193, (fM_call (fM_call (fM_call (fM_call (fM_call (fM_call (fM_call (fM_call (fM_call (fM_call (fM_call (fM_call (fM_rf [] _) fr_10 (by decide)) fr_26 (by decide)) fr_42 (by decide)) fr_62 (by decide)) fr_80 (by decide)) fr_96 (by decide)) fr_112 (by decide)) fr_130 (by decide)) fr_146 (by decide)) fr_162 (by decide)) fr_178 (by decide)) fr_194 (by decide)), (fA_call (fA_call (fA_call (fA_call (fA_call (fA_call (fA_call (fA_call (fA_call (fA_call (fA_call (fA_call (fA_rf [] _) fa_11 (by decide)) fa_27 (by decide)) fa_43 (by decide)) fa_63 (by decide)) fa_81 (by decide)) fa_97 (by decide)) fa_113 (by decide)) fa_131 (by decide)) fa_147 (by decide)) fa_163 (by decide)) fa_179 (by decide)) fa_195 (by decide)), (iv_w (⟨by decide, by decide⟩ : (-1 : Int) ≤ ((-1) : Int32).toInt ∧ ((-1) : Int32).toInt ≤ -1) (by decide) (by decide)), rfl, (show (((-1) : Int32).toInt + 7 = (t9 : Int) ∧ 7 ≤ t9 ∧ t9 ≤ 18) ∨ (((-1) : Int32) = -1 ∧ ¬ (7 ≤ t9 ∧ t9 ≤ 18)) from by have y_0 : ¬ t9 = 7 := (by rcases k_12 with ⟨a9, b9⟩ | ⟨a9, b9⟩; exfalso; have h8 := congrArg Int32.toInt a9; have h7 : (1 : Int32).toInt = 1 := (by decide); omega; exact b9); have y_1 : ¬ t9 = 8 := (by rcases k_28 with ⟨a9, b9⟩ | ⟨a9, b9⟩; exfalso; have h8 := congrArg Int32.toInt a9; have h7 : (1 : Int32).toInt = 1 := (by decide); omega; exact b9); have y_2 : ¬ t9 = 9 := (by rcases k_44 with ⟨a9, b9⟩ | ⟨a9, b9⟩; exfalso; have h8 := congrArg Int32.toInt a9; have h7 : (1 : Int32).toInt = 1 := (by decide); omega; exact b9); have y_3 : ¬ t9 = 10 := (by rcases k_64 with ⟨a9, b9⟩ | ⟨a9, b9⟩; exfalso; have h8 := congrArg Int32.toInt a9; have h7 : (1 : Int32).toInt = 1 := (by decide); omega; exact b9); have y_4 : ¬ t9 = 11 := (by rcases k_82 with ⟨a9, b9⟩ | ⟨a9, b9⟩; exfalso; have h8 := congrArg Int32.toInt a9; have h7 : (1 : Int32).toInt = 1 := (by decide); omega; exact b9); have y_5 : ¬ t9 = 12 := (by rcases k_98 with ⟨a9, b9⟩ | ⟨a9, b9⟩; exfalso; have h8 := congrArg Int32.toInt a9; have h7 : (1 : Int32).toInt = 1 := (by decide); omega; exact b9); have y_6 : ¬ t9 = 13 := (by rcases k_114 with ⟨a9, b9⟩ | ⟨a9, b9⟩; exfalso; have h8 := congrArg Int32.toInt a9; have h7 : (1 : Int32).toInt = 1 := (by decide); omega; exact b9); have y_7 : ¬ t9 = 14 := (by rcases k_132 with ⟨a9, b9⟩ | ⟨a9, b9⟩; exfalso; have h8 := congrArg Int32.toInt a9; have h7 : (1 : Int32).toInt = 1 := (by decide); omega; exact b9); have y_8 : ¬ t9 = 15 := (by rcases k_148 with ⟨a9, b9⟩ | ⟨a9, b9⟩; exfalso; have h8 := congrArg Int32.toInt a9; have h7 : (1 : Int32).toInt = 1 := (by decide); omega; exact b9); have y_9 : ¬ t9 = 16 := (by rcases k_164 with ⟨a9, b9⟩ | ⟨a9, b9⟩; exfalso; have h8 := congrArg Int32.toInt a9; have h7 : (1 : Int32).toInt = 1 := (by decide); omega; exact b9); have y_10 : ¬ t9 = 17 := (by rcases k_180 with ⟨a9, b9⟩ | ⟨a9, b9⟩; exfalso; have h8 := congrArg Int32.toInt a9; have h7 : (1 : Int32).toInt = 1 := (by decide); omega; exact b9); have y_11 : ¬ t9 = 18 := (by rcases k_196 with ⟨a9, b9⟩ | ⟨a9, b9⟩; exfalso; have h8 := congrArg Int32.toInt a9; have h7 : (1 : Int32).toInt = 1 := (by decide); omega; exact b9); exact Or.inr ⟨rfl, by omega⟩), trivial⟩, ⟨by rw [ht]; exact hP, va_K.moved hW.alike hK⟩⟩, hS.F ht⟩) hS.2.2 dX12_atom_295
                        · skip
                          have i_213 : 1 ≤ r_187.toInt ∧ r_187.toInt ≤ 1 := iv_nel p_188 (by decide) c_197
                          have k_214 : ¬ r_187.toInt = 0 := fun q => c_197 (Int32.toInt_inj.mp q)
                          refine lv_bipush (v := 11) hx hb dX12_atom_289 (by decide) ?_
                          refine lv_goto (tgt := 295) hx hb dX12_atom_291 (by decide) ?_
                          have z_215 : (11 : Int32).toInt = 11 := by decide
                          exact W.iret (v := 11) hx hb hr (fun t ht hW => ⟨⟨11, (fv_191, wd, ar_193), rfl, ⟨hF_fv_191, hA_ar_193, (fM_call (fM_call (fM_call (fM_call (fM_call (fM_call (fM_call (fM_call (fM_call (fM_call (fM_call (fM_call (fM_rf [] _) fr_10 (by decide)) fr_26 (by decide)) fr_42 (by decide)) fr_62 (by decide)) fr_80 (by decide)) fr_96 (by decide)) fr_112 (by decide)) fr_130 (by decide)) fr_146 (by decide)) fr_162 (by decide)) fr_178 (by decide)) fr_194 (by decide)), (fA_call (fA_call (fA_call (fA_call (fA_call (fA_call (fA_call (fA_call (fA_call (fA_call (fA_call (fA_call (fA_rf [] _) fa_11 (by decide)) fa_27 (by decide)) fa_43 (by decide)) fa_63 (by decide)) fa_81 (by decide)) fa_97 (by decide)) fa_113 (by decide)) fa_131 (by decide)) fa_147 (by decide)) fa_163 (by decide)) fa_179 (by decide)) fa_195 (by decide)), (iv_w (⟨by decide, by decide⟩ : (11 : Int) ≤ (11 : Int32).toInt ∧ (11 : Int32).toInt ≤ 11) (by decide) (by decide)), rfl, (show ((11 : Int32).toInt + 7 = (t9 : Int) ∧ 7 ≤ t9 ∧ t9 ≤ 18) ∨ ((11 : Int32) = -1 ∧ ¬ (7 ≤ t9 ∧ t9 ≤ 18)) from by have y_0 : ¬ t9 = 7 := (by rcases k_12 with ⟨a9, b9⟩ | ⟨a9, b9⟩; exfalso; have h8 := congrArg Int32.toInt a9; have h7 : (1 : Int32).toInt = 1 := (by decide); omega; exact b9); have y_1 : ¬ t9 = 8 := (by rcases k_28 with ⟨a9, b9⟩ | ⟨a9, b9⟩; exfalso; have h8 := congrArg Int32.toInt a9; have h7 : (1 : Int32).toInt = 1 := (by decide); omega; exact b9); have y_2 : ¬ t9 = 9 := (by rcases k_44 with ⟨a9, b9⟩ | ⟨a9, b9⟩; exfalso; have h8 := congrArg Int32.toInt a9; have h7 : (1 : Int32).toInt = 1 := (by decide); omega; exact b9); have y_3 : ¬ t9 = 10 := (by rcases k_64 with ⟨a9, b9⟩ | ⟨a9, b9⟩; exfalso; have h8 := congrArg Int32.toInt a9; have h7 : (1 : Int32).toInt = 1 := (by decide); omega; exact b9); have y_4 : ¬ t9 = 11 := (by rcases k_82 with ⟨a9, b9⟩ | ⟨a9, b9⟩; exfalso; have h8 := congrArg Int32.toInt a9; have h7 : (1 : Int32).toInt = 1 := (by decide); omega; exact b9); have y_5 : ¬ t9 = 12 := (by rcases k_98 with ⟨a9, b9⟩ | ⟨a9, b9⟩; exfalso; have h8 := congrArg Int32.toInt a9; have h7 : (1 : Int32).toInt = 1 := (by decide); omega; exact b9); have y_6 : ¬ t9 = 13 := (by rcases k_114 with ⟨a9, b9⟩ | ⟨a9, b9⟩; exfalso; have h8 := congrArg Int32.toInt a9; have h7 : (1 : Int32).toInt = 1 := (by decide); omega; exact b9); have y_7 : ¬ t9 = 14 := (by rcases k_132 with ⟨a9, b9⟩ | ⟨a9, b9⟩; exfalso; have h8 := congrArg Int32.toInt a9; have h7 : (1 : Int32).toInt = 1 := (by decide); omega; exact b9); have y_8 : ¬ t9 = 15 := (by rcases k_148 with ⟨a9, b9⟩ | ⟨a9, b9⟩; exfalso; have h8 := congrArg Int32.toInt a9; have h7 : (1 : Int32).toInt = 1 := (by decide); omega; exact b9); have y_9 : ¬ t9 = 16 := (by rcases k_164 with ⟨a9, b9⟩ | ⟨a9, b9⟩; exfalso; have h8 := congrArg Int32.toInt a9; have h7 : (1 : Int32).toInt = 1 := (by decide); omega; exact b9); have y_10 : ¬ t9 = 17 := (by rcases k_180 with ⟨a9, b9⟩ | ⟨a9, b9⟩; exfalso; have h8 := congrArg Int32.toInt a9; have h7 : (1 : Int32).toInt = 1 := (by decide); omega; exact b9); have y_11 : t9 = 18 := (by rcases k_196 with ⟨a9, b9⟩ | ⟨a9, b9⟩; exact b9; exfalso; have h8 := congrArg Int32.toInt a9; have h7 : (0 : Int32).toInt = 0 := (by decide); omega); exact Or.inl (⟨by omega, by omega, by omega⟩)), trivial⟩, ⟨by rw [ht]; exact hP, va_K.moved hW.alike hK⟩⟩, hS.F ht⟩) hS.2.2 dX12_atom_295
                      · skip
                        have i_228 : 1 ≤ r_171.toInt ∧ r_171.toInt ≤ 1 := iv_nel p_172 (by decide) c_181
                        have k_229 : ¬ r_171.toInt = 0 := fun q => c_181 (Int32.toInt_inj.mp q)
                        refine lv_bipush (v := 10) hx hb dX12_atom_266 (by decide) ?_
                        have z_230 : (10 : Int32).toInt = 10 := by decide
                        exact W.iret (v := 10) hx hb hr (fun t ht hW => ⟨⟨10, (fv_175, wd, ar_177), rfl, ⟨hF_fv_175, hA_ar_177, (fM_call (fM_call (fM_call (fM_call (fM_call (fM_call (fM_call (fM_call (fM_call (fM_call (fM_call (fM_rf [] _) fr_10 (by decide)) fr_26 (by decide)) fr_42 (by decide)) fr_62 (by decide)) fr_80 (by decide)) fr_96 (by decide)) fr_112 (by decide)) fr_130 (by decide)) fr_146 (by decide)) fr_162 (by decide)) fr_178 (by decide)), (fA_call (fA_call (fA_call (fA_call (fA_call (fA_call (fA_call (fA_call (fA_call (fA_call (fA_call (fA_rf [] _) fa_11 (by decide)) fa_27 (by decide)) fa_43 (by decide)) fa_63 (by decide)) fa_81 (by decide)) fa_97 (by decide)) fa_113 (by decide)) fa_131 (by decide)) fa_147 (by decide)) fa_163 (by decide)) fa_179 (by decide)), (iv_w (⟨by decide, by decide⟩ : (10 : Int) ≤ (10 : Int32).toInt ∧ (10 : Int32).toInt ≤ 10) (by decide) (by decide)), rfl, (show ((10 : Int32).toInt + 7 = (t9 : Int) ∧ 7 ≤ t9 ∧ t9 ≤ 18) ∨ ((10 : Int32) = -1 ∧ ¬ (7 ≤ t9 ∧ t9 ≤ 18)) from by have y_0 : ¬ t9 = 7 := (by rcases k_12 with ⟨a9, b9⟩ | ⟨a9, b9⟩; exfalso; have h8 := congrArg Int32.toInt a9; have h7 : (1 : Int32).toInt = 1 := (by decide); omega; exact b9); have y_1 : ¬ t9 = 8 := (by rcases k_28 with ⟨a9, b9⟩ | ⟨a9, b9⟩; exfalso; have h8 := congrArg Int32.toInt a9; have h7 : (1 : Int32).toInt = 1 := (by decide); omega; exact b9); have y_2 : ¬ t9 = 9 := (by rcases k_44 with ⟨a9, b9⟩ | ⟨a9, b9⟩; exfalso; have h8 := congrArg Int32.toInt a9; have h7 : (1 : Int32).toInt = 1 := (by decide); omega; exact b9); have y_3 : ¬ t9 = 10 := (by rcases k_64 with ⟨a9, b9⟩ | ⟨a9, b9⟩; exfalso; have h8 := congrArg Int32.toInt a9; have h7 : (1 : Int32).toInt = 1 := (by decide); omega; exact b9); have y_4 : ¬ t9 = 11 := (by rcases k_82 with ⟨a9, b9⟩ | ⟨a9, b9⟩; exfalso; have h8 := congrArg Int32.toInt a9; have h7 : (1 : Int32).toInt = 1 := (by decide); omega; exact b9); have y_5 : ¬ t9 = 12 := (by rcases k_98 with ⟨a9, b9⟩ | ⟨a9, b9⟩; exfalso; have h8 := congrArg Int32.toInt a9; have h7 : (1 : Int32).toInt = 1 := (by decide); omega; exact b9); have y_6 : ¬ t9 = 13 := (by rcases k_114 with ⟨a9, b9⟩ | ⟨a9, b9⟩; exfalso; have h8 := congrArg Int32.toInt a9; have h7 : (1 : Int32).toInt = 1 := (by decide); omega; exact b9); have y_7 : ¬ t9 = 14 := (by rcases k_132 with ⟨a9, b9⟩ | ⟨a9, b9⟩; exfalso; have h8 := congrArg Int32.toInt a9; have h7 : (1 : Int32).toInt = 1 := (by decide); omega; exact b9); have y_8 : ¬ t9 = 15 := (by rcases k_148 with ⟨a9, b9⟩ | ⟨a9, b9⟩; exfalso; have h8 := congrArg Int32.toInt a9; have h7 : (1 : Int32).toInt = 1 := (by decide); omega; exact b9); have y_9 : ¬ t9 = 16 := (by rcases k_164 with ⟨a9, b9⟩ | ⟨a9, b9⟩; exfalso; have h8 := congrArg Int32.toInt a9; have h7 : (1 : Int32).toInt = 1 := (by decide); omega; exact b9); have y_10 : t9 = 17 := (by rcases k_180 with ⟨a9, b9⟩ | ⟨a9, b9⟩; exact b9; exfalso; have h8 := congrArg Int32.toInt a9; have h7 : (0 : Int32).toInt = 0 := (by decide); omega); exact Or.inl (⟨by omega, by omega, by omega⟩)), trivial⟩, ⟨by rw [ht]; exact hP, va_K.moved hW.alike hK⟩⟩, hS.F ht⟩) hS.2.2 dX12_atom_268
                    · skip
                      have i_242 : 1 ≤ r_155.toInt ∧ r_155.toInt ≤ 1 := iv_nel p_156 (by decide) c_165
                      have k_243 : ¬ r_155.toInt = 0 := fun q => c_165 (Int32.toInt_inj.mp q)
                      refine lv_bipush (v := 9) hx hb dX12_atom_246 (by decide) ?_
                      have z_244 : (9 : Int32).toInt = 9 := by decide
                      exact W.iret (v := 9) hx hb hr (fun t ht hW => ⟨⟨9, (fv_159, wd, ar_161), rfl, ⟨hF_fv_159, hA_ar_161, (fM_call (fM_call (fM_call (fM_call (fM_call (fM_call (fM_call (fM_call (fM_call (fM_call (fM_rf [] _) fr_10 (by decide)) fr_26 (by decide)) fr_42 (by decide)) fr_62 (by decide)) fr_80 (by decide)) fr_96 (by decide)) fr_112 (by decide)) fr_130 (by decide)) fr_146 (by decide)) fr_162 (by decide)), (fA_call (fA_call (fA_call (fA_call (fA_call (fA_call (fA_call (fA_call (fA_call (fA_call (fA_rf [] _) fa_11 (by decide)) fa_27 (by decide)) fa_43 (by decide)) fa_63 (by decide)) fa_81 (by decide)) fa_97 (by decide)) fa_113 (by decide)) fa_131 (by decide)) fa_147 (by decide)) fa_163 (by decide)), (iv_w (⟨by decide, by decide⟩ : (9 : Int) ≤ (9 : Int32).toInt ∧ (9 : Int32).toInt ≤ 9) (by decide) (by decide)), rfl, (show ((9 : Int32).toInt + 7 = (t9 : Int) ∧ 7 ≤ t9 ∧ t9 ≤ 18) ∨ ((9 : Int32) = -1 ∧ ¬ (7 ≤ t9 ∧ t9 ≤ 18)) from by have y_0 : ¬ t9 = 7 := (by rcases k_12 with ⟨a9, b9⟩ | ⟨a9, b9⟩; exfalso; have h8 := congrArg Int32.toInt a9; have h7 : (1 : Int32).toInt = 1 := (by decide); omega; exact b9); have y_1 : ¬ t9 = 8 := (by rcases k_28 with ⟨a9, b9⟩ | ⟨a9, b9⟩; exfalso; have h8 := congrArg Int32.toInt a9; have h7 : (1 : Int32).toInt = 1 := (by decide); omega; exact b9); have y_2 : ¬ t9 = 9 := (by rcases k_44 with ⟨a9, b9⟩ | ⟨a9, b9⟩; exfalso; have h8 := congrArg Int32.toInt a9; have h7 : (1 : Int32).toInt = 1 := (by decide); omega; exact b9); have y_3 : ¬ t9 = 10 := (by rcases k_64 with ⟨a9, b9⟩ | ⟨a9, b9⟩; exfalso; have h8 := congrArg Int32.toInt a9; have h7 : (1 : Int32).toInt = 1 := (by decide); omega; exact b9); have y_4 : ¬ t9 = 11 := (by rcases k_82 with ⟨a9, b9⟩ | ⟨a9, b9⟩; exfalso; have h8 := congrArg Int32.toInt a9; have h7 : (1 : Int32).toInt = 1 := (by decide); omega; exact b9); have y_5 : ¬ t9 = 12 := (by rcases k_98 with ⟨a9, b9⟩ | ⟨a9, b9⟩; exfalso; have h8 := congrArg Int32.toInt a9; have h7 : (1 : Int32).toInt = 1 := (by decide); omega; exact b9); have y_6 : ¬ t9 = 13 := (by rcases k_114 with ⟨a9, b9⟩ | ⟨a9, b9⟩; exfalso; have h8 := congrArg Int32.toInt a9; have h7 : (1 : Int32).toInt = 1 := (by decide); omega; exact b9); have y_7 : ¬ t9 = 14 := (by rcases k_132 with ⟨a9, b9⟩ | ⟨a9, b9⟩; exfalso; have h8 := congrArg Int32.toInt a9; have h7 : (1 : Int32).toInt = 1 := (by decide); omega; exact b9); have y_8 : ¬ t9 = 15 := (by rcases k_148 with ⟨a9, b9⟩ | ⟨a9, b9⟩; exfalso; have h8 := congrArg Int32.toInt a9; have h7 : (1 : Int32).toInt = 1 := (by decide); omega; exact b9); have y_9 : t9 = 16 := (by rcases k_164 with ⟨a9, b9⟩ | ⟨a9, b9⟩; exact b9; exfalso; have h8 := congrArg Int32.toInt a9; have h7 : (0 : Int32).toInt = 0 := (by decide); omega); exact Or.inl (⟨by omega, by omega, by omega⟩)), trivial⟩, ⟨by rw [ht]; exact hP, va_K.moved hW.alike hK⟩⟩, hS.F ht⟩) hS.2.2 dX12_atom_248
                  · skip
                    have i_255 : 1 ≤ r_139.toInt ∧ r_139.toInt ≤ 1 := iv_nel p_140 (by decide) c_149
                    have k_256 : ¬ r_139.toInt = 0 := fun q => c_149 (Int32.toInt_inj.mp q)
                    refine lv_bipush (v := 8) hx hb dX12_atom_224 (by decide) ?_
                    have z_257 : (8 : Int32).toInt = 8 := by decide
                    exact W.iret (v := 8) hx hb hr (fun t ht hW => ⟨⟨8, (fv_143, wd, ar_145), rfl, ⟨hF_fv_143, hA_ar_145, (fM_call (fM_call (fM_call (fM_call (fM_call (fM_call (fM_call (fM_call (fM_call (fM_rf [] _) fr_10 (by decide)) fr_26 (by decide)) fr_42 (by decide)) fr_62 (by decide)) fr_80 (by decide)) fr_96 (by decide)) fr_112 (by decide)) fr_130 (by decide)) fr_146 (by decide)), (fA_call (fA_call (fA_call (fA_call (fA_call (fA_call (fA_call (fA_call (fA_call (fA_rf [] _) fa_11 (by decide)) fa_27 (by decide)) fa_43 (by decide)) fa_63 (by decide)) fa_81 (by decide)) fa_97 (by decide)) fa_113 (by decide)) fa_131 (by decide)) fa_147 (by decide)), (iv_w (⟨by decide, by decide⟩ : (8 : Int) ≤ (8 : Int32).toInt ∧ (8 : Int32).toInt ≤ 8) (by decide) (by decide)), rfl, (show ((8 : Int32).toInt + 7 = (t9 : Int) ∧ 7 ≤ t9 ∧ t9 ≤ 18) ∨ ((8 : Int32) = -1 ∧ ¬ (7 ≤ t9 ∧ t9 ≤ 18)) from by have y_0 : ¬ t9 = 7 := (by rcases k_12 with ⟨a9, b9⟩ | ⟨a9, b9⟩; exfalso; have h8 := congrArg Int32.toInt a9; have h7 : (1 : Int32).toInt = 1 := (by decide); omega; exact b9); have y_1 : ¬ t9 = 8 := (by rcases k_28 with ⟨a9, b9⟩ | ⟨a9, b9⟩; exfalso; have h8 := congrArg Int32.toInt a9; have h7 : (1 : Int32).toInt = 1 := (by decide); omega; exact b9); have y_2 : ¬ t9 = 9 := (by rcases k_44 with ⟨a9, b9⟩ | ⟨a9, b9⟩; exfalso; have h8 := congrArg Int32.toInt a9; have h7 : (1 : Int32).toInt = 1 := (by decide); omega; exact b9); have y_3 : ¬ t9 = 10 := (by rcases k_64 with ⟨a9, b9⟩ | ⟨a9, b9⟩; exfalso; have h8 := congrArg Int32.toInt a9; have h7 : (1 : Int32).toInt = 1 := (by decide); omega; exact b9); have y_4 : ¬ t9 = 11 := (by rcases k_82 with ⟨a9, b9⟩ | ⟨a9, b9⟩; exfalso; have h8 := congrArg Int32.toInt a9; have h7 : (1 : Int32).toInt = 1 := (by decide); omega; exact b9); have y_5 : ¬ t9 = 12 := (by rcases k_98 with ⟨a9, b9⟩ | ⟨a9, b9⟩; exfalso; have h8 := congrArg Int32.toInt a9; have h7 : (1 : Int32).toInt = 1 := (by decide); omega; exact b9); have y_6 : ¬ t9 = 13 := (by rcases k_114 with ⟨a9, b9⟩ | ⟨a9, b9⟩; exfalso; have h8 := congrArg Int32.toInt a9; have h7 : (1 : Int32).toInt = 1 := (by decide); omega; exact b9); have y_7 : ¬ t9 = 14 := (by rcases k_132 with ⟨a9, b9⟩ | ⟨a9, b9⟩; exfalso; have h8 := congrArg Int32.toInt a9; have h7 : (1 : Int32).toInt = 1 := (by decide); omega; exact b9); have y_8 : t9 = 15 := (by rcases k_148 with ⟨a9, b9⟩ | ⟨a9, b9⟩; exact b9; exfalso; have h8 := congrArg Int32.toInt a9; have h7 : (0 : Int32).toInt = 0 := (by decide); omega); exact Or.inl (⟨by omega, by omega, by omega⟩)), trivial⟩, ⟨by rw [ht]; exact hP, va_K.moved hW.alike hK⟩⟩, hS.F ht⟩) hS.2.2 dX12_atom_226
                · skip
                  have i_267 : 1 ≤ r_123.toInt ∧ r_123.toInt ≤ 1 := iv_nel p_124 (by decide) c_133
                  have k_268 : ¬ r_123.toInt = 0 := fun q => c_133 (Int32.toInt_inj.mp q)
                  refine lv_bipush (v := 7) hx hb dX12_atom_203 (by decide) ?_
                  have z_269 : (7 : Int32).toInt = 7 := by decide
                  exact W.iret (v := 7) hx hb hr (fun t ht hW => ⟨⟨7, (fv_127, wd, ar_129), rfl, ⟨hF_fv_127, hA_ar_129, (fM_call (fM_call (fM_call (fM_call (fM_call (fM_call (fM_call (fM_call (fM_rf [] _) fr_10 (by decide)) fr_26 (by decide)) fr_42 (by decide)) fr_62 (by decide)) fr_80 (by decide)) fr_96 (by decide)) fr_112 (by decide)) fr_130 (by decide)), (fA_call (fA_call (fA_call (fA_call (fA_call (fA_call (fA_call (fA_call (fA_rf [] _) fa_11 (by decide)) fa_27 (by decide)) fa_43 (by decide)) fa_63 (by decide)) fa_81 (by decide)) fa_97 (by decide)) fa_113 (by decide)) fa_131 (by decide)), (iv_w (⟨by decide, by decide⟩ : (7 : Int) ≤ (7 : Int32).toInt ∧ (7 : Int32).toInt ≤ 7) (by decide) (by decide)), rfl, (show ((7 : Int32).toInt + 7 = (t9 : Int) ∧ 7 ≤ t9 ∧ t9 ≤ 18) ∨ ((7 : Int32) = -1 ∧ ¬ (7 ≤ t9 ∧ t9 ≤ 18)) from by have y_0 : ¬ t9 = 7 := (by rcases k_12 with ⟨a9, b9⟩ | ⟨a9, b9⟩; exfalso; have h8 := congrArg Int32.toInt a9; have h7 : (1 : Int32).toInt = 1 := (by decide); omega; exact b9); have y_1 : ¬ t9 = 8 := (by rcases k_28 with ⟨a9, b9⟩ | ⟨a9, b9⟩; exfalso; have h8 := congrArg Int32.toInt a9; have h7 : (1 : Int32).toInt = 1 := (by decide); omega; exact b9); have y_2 : ¬ t9 = 9 := (by rcases k_44 with ⟨a9, b9⟩ | ⟨a9, b9⟩; exfalso; have h8 := congrArg Int32.toInt a9; have h7 : (1 : Int32).toInt = 1 := (by decide); omega; exact b9); have y_3 : ¬ t9 = 10 := (by rcases k_64 with ⟨a9, b9⟩ | ⟨a9, b9⟩; exfalso; have h8 := congrArg Int32.toInt a9; have h7 : (1 : Int32).toInt = 1 := (by decide); omega; exact b9); have y_4 : ¬ t9 = 11 := (by rcases k_82 with ⟨a9, b9⟩ | ⟨a9, b9⟩; exfalso; have h8 := congrArg Int32.toInt a9; have h7 : (1 : Int32).toInt = 1 := (by decide); omega; exact b9); have y_5 : ¬ t9 = 12 := (by rcases k_98 with ⟨a9, b9⟩ | ⟨a9, b9⟩; exfalso; have h8 := congrArg Int32.toInt a9; have h7 : (1 : Int32).toInt = 1 := (by decide); omega; exact b9); have y_6 : ¬ t9 = 13 := (by rcases k_114 with ⟨a9, b9⟩ | ⟨a9, b9⟩; exfalso; have h8 := congrArg Int32.toInt a9; have h7 : (1 : Int32).toInt = 1 := (by decide); omega; exact b9); have y_7 : t9 = 14 := (by rcases k_132 with ⟨a9, b9⟩ | ⟨a9, b9⟩; exact b9; exfalso; have h8 := congrArg Int32.toInt a9; have h7 : (0 : Int32).toInt = 0 := (by decide); omega); exact Or.inl (⟨by omega, by omega, by omega⟩)), trivial⟩, ⟨by rw [ht]; exact hP, va_K.moved hW.alike hK⟩⟩, hS.F ht⟩) hS.2.2 dX12_atom_205
              · skip
                have i_278 : 1 ≤ r_105.toInt ∧ r_105.toInt ≤ 1 := iv_nel p_106 (by decide) c_115
                have k_279 : ¬ r_105.toInt = 0 := fun q => c_115 (Int32.toInt_inj.mp q)
                refine lv_bipush (v := 6) hx hb dX12_atom_172 (by decide) ?_
                have z_280 : (6 : Int32).toInt = 6 := by decide
                exact W.iret (v := 6) hx hb hr (fun t ht hW => ⟨⟨6, (fv_109, wd, ar_111), rfl, ⟨hF_fv_109, hA_ar_111, (fM_call (fM_call (fM_call (fM_call (fM_call (fM_call (fM_call (fM_rf [] _) fr_10 (by decide)) fr_26 (by decide)) fr_42 (by decide)) fr_62 (by decide)) fr_80 (by decide)) fr_96 (by decide)) fr_112 (by decide)), (fA_call (fA_call (fA_call (fA_call (fA_call (fA_call (fA_call (fA_rf [] _) fa_11 (by decide)) fa_27 (by decide)) fa_43 (by decide)) fa_63 (by decide)) fa_81 (by decide)) fa_97 (by decide)) fa_113 (by decide)), (iv_w (⟨by decide, by decide⟩ : (6 : Int) ≤ (6 : Int32).toInt ∧ (6 : Int32).toInt ≤ 6) (by decide) (by decide)), rfl, (show ((6 : Int32).toInt + 7 = (t9 : Int) ∧ 7 ≤ t9 ∧ t9 ≤ 18) ∨ ((6 : Int32) = -1 ∧ ¬ (7 ≤ t9 ∧ t9 ≤ 18)) from by have y_0 : ¬ t9 = 7 := (by rcases k_12 with ⟨a9, b9⟩ | ⟨a9, b9⟩; exfalso; have h8 := congrArg Int32.toInt a9; have h7 : (1 : Int32).toInt = 1 := (by decide); omega; exact b9); have y_1 : ¬ t9 = 8 := (by rcases k_28 with ⟨a9, b9⟩ | ⟨a9, b9⟩; exfalso; have h8 := congrArg Int32.toInt a9; have h7 : (1 : Int32).toInt = 1 := (by decide); omega; exact b9); have y_2 : ¬ t9 = 9 := (by rcases k_44 with ⟨a9, b9⟩ | ⟨a9, b9⟩; exfalso; have h8 := congrArg Int32.toInt a9; have h7 : (1 : Int32).toInt = 1 := (by decide); omega; exact b9); have y_3 : ¬ t9 = 10 := (by rcases k_64 with ⟨a9, b9⟩ | ⟨a9, b9⟩; exfalso; have h8 := congrArg Int32.toInt a9; have h7 : (1 : Int32).toInt = 1 := (by decide); omega; exact b9); have y_4 : ¬ t9 = 11 := (by rcases k_82 with ⟨a9, b9⟩ | ⟨a9, b9⟩; exfalso; have h8 := congrArg Int32.toInt a9; have h7 : (1 : Int32).toInt = 1 := (by decide); omega; exact b9); have y_5 : ¬ t9 = 12 := (by rcases k_98 with ⟨a9, b9⟩ | ⟨a9, b9⟩; exfalso; have h8 := congrArg Int32.toInt a9; have h7 : (1 : Int32).toInt = 1 := (by decide); omega; exact b9); have y_6 : t9 = 13 := (by rcases k_114 with ⟨a9, b9⟩ | ⟨a9, b9⟩; exact b9; exfalso; have h8 := congrArg Int32.toInt a9; have h7 : (0 : Int32).toInt = 0 := (by decide); omega); exact Or.inl (⟨by omega, by omega, by omega⟩)), trivial⟩, ⟨by rw [ht]; exact hP, va_K.moved hW.alike hK⟩⟩, hS.F ht⟩) hS.2.2 dX12_atom_174
            · skip
              have i_288 : 1 ≤ r_89.toInt ∧ r_89.toInt ≤ 1 := iv_nel p_90 (by decide) c_99
              have k_289 : ¬ r_89.toInt = 0 := fun q => c_99 (Int32.toInt_inj.mp q)
              refine lv_iconst (v := 5) hx hb dX12_atom_151 (by decide) ?_
              have z_290 : (5 : Int32).toInt = 5 := by decide
              exact W.iret (v := 5) hx hb hr (fun t ht hW => ⟨⟨5, (fv_93, wd, ar_95), rfl, ⟨hF_fv_93, hA_ar_95, (fM_call (fM_call (fM_call (fM_call (fM_call (fM_call (fM_rf [] _) fr_10 (by decide)) fr_26 (by decide)) fr_42 (by decide)) fr_62 (by decide)) fr_80 (by decide)) fr_96 (by decide)), (fA_call (fA_call (fA_call (fA_call (fA_call (fA_call (fA_rf [] _) fa_11 (by decide)) fa_27 (by decide)) fa_43 (by decide)) fa_63 (by decide)) fa_81 (by decide)) fa_97 (by decide)), (iv_w (⟨by decide, by decide⟩ : (5 : Int) ≤ (5 : Int32).toInt ∧ (5 : Int32).toInt ≤ 5) (by decide) (by decide)), rfl, (show ((5 : Int32).toInt + 7 = (t9 : Int) ∧ 7 ≤ t9 ∧ t9 ≤ 18) ∨ ((5 : Int32) = -1 ∧ ¬ (7 ≤ t9 ∧ t9 ≤ 18)) from by have y_0 : ¬ t9 = 7 := (by rcases k_12 with ⟨a9, b9⟩ | ⟨a9, b9⟩; exfalso; have h8 := congrArg Int32.toInt a9; have h7 : (1 : Int32).toInt = 1 := (by decide); omega; exact b9); have y_1 : ¬ t9 = 8 := (by rcases k_28 with ⟨a9, b9⟩ | ⟨a9, b9⟩; exfalso; have h8 := congrArg Int32.toInt a9; have h7 : (1 : Int32).toInt = 1 := (by decide); omega; exact b9); have y_2 : ¬ t9 = 9 := (by rcases k_44 with ⟨a9, b9⟩ | ⟨a9, b9⟩; exfalso; have h8 := congrArg Int32.toInt a9; have h7 : (1 : Int32).toInt = 1 := (by decide); omega; exact b9); have y_3 : ¬ t9 = 10 := (by rcases k_64 with ⟨a9, b9⟩ | ⟨a9, b9⟩; exfalso; have h8 := congrArg Int32.toInt a9; have h7 : (1 : Int32).toInt = 1 := (by decide); omega; exact b9); have y_4 : ¬ t9 = 11 := (by rcases k_82 with ⟨a9, b9⟩ | ⟨a9, b9⟩; exfalso; have h8 := congrArg Int32.toInt a9; have h7 : (1 : Int32).toInt = 1 := (by decide); omega; exact b9); have y_5 : t9 = 12 := (by rcases k_98 with ⟨a9, b9⟩ | ⟨a9, b9⟩; exact b9; exfalso; have h8 := congrArg Int32.toInt a9; have h7 : (0 : Int32).toInt = 0 := (by decide); omega); exact Or.inl (⟨by omega, by omega, by omega⟩)), trivial⟩, ⟨by rw [ht]; exact hP, va_K.moved hW.alike hK⟩⟩, hS.F ht⟩) hS.2.2 dX12_atom_152
          · skip
            have i_297 : 1 ≤ r_73.toInt ∧ r_73.toInt ≤ 1 := iv_nel p_74 (by decide) c_83
            have k_298 : ¬ r_73.toInt = 0 := fun q => c_83 (Int32.toInt_inj.mp q)
            refine lv_iconst (v := 4) hx hb dX12_atom_129 (by decide) ?_
            have z_299 : (4 : Int32).toInt = 4 := by decide
            exact W.iret (v := 4) hx hb hr (fun t ht hW => ⟨⟨4, (fv_77, wd, ar_79), rfl, ⟨hF_fv_77, hA_ar_79, (fM_call (fM_call (fM_call (fM_call (fM_call (fM_rf [] _) fr_10 (by decide)) fr_26 (by decide)) fr_42 (by decide)) fr_62 (by decide)) fr_80 (by decide)), (fA_call (fA_call (fA_call (fA_call (fA_call (fA_rf [] _) fa_11 (by decide)) fa_27 (by decide)) fa_43 (by decide)) fa_63 (by decide)) fa_81 (by decide)), (iv_w (⟨by decide, by decide⟩ : (4 : Int) ≤ (4 : Int32).toInt ∧ (4 : Int32).toInt ≤ 4) (by decide) (by decide)), rfl, (show ((4 : Int32).toInt + 7 = (t9 : Int) ∧ 7 ≤ t9 ∧ t9 ≤ 18) ∨ ((4 : Int32) = -1 ∧ ¬ (7 ≤ t9 ∧ t9 ≤ 18)) from by have y_0 : ¬ t9 = 7 := (by rcases k_12 with ⟨a9, b9⟩ | ⟨a9, b9⟩; exfalso; have h8 := congrArg Int32.toInt a9; have h7 : (1 : Int32).toInt = 1 := (by decide); omega; exact b9); have y_1 : ¬ t9 = 8 := (by rcases k_28 with ⟨a9, b9⟩ | ⟨a9, b9⟩; exfalso; have h8 := congrArg Int32.toInt a9; have h7 : (1 : Int32).toInt = 1 := (by decide); omega; exact b9); have y_2 : ¬ t9 = 9 := (by rcases k_44 with ⟨a9, b9⟩ | ⟨a9, b9⟩; exfalso; have h8 := congrArg Int32.toInt a9; have h7 : (1 : Int32).toInt = 1 := (by decide); omega; exact b9); have y_3 : ¬ t9 = 10 := (by rcases k_64 with ⟨a9, b9⟩ | ⟨a9, b9⟩; exfalso; have h8 := congrArg Int32.toInt a9; have h7 : (1 : Int32).toInt = 1 := (by decide); omega; exact b9); have y_4 : t9 = 11 := (by rcases k_82 with ⟨a9, b9⟩ | ⟨a9, b9⟩; exact b9; exfalso; have h8 := congrArg Int32.toInt a9; have h7 : (0 : Int32).toInt = 0 := (by decide); omega); exact Or.inl (⟨by omega, by omega, by omega⟩)), trivial⟩, ⟨by rw [ht]; exact hP, va_K.moved hW.alike hK⟩⟩, hS.F ht⟩) hS.2.2 dX12_atom_130
        · skip
          have i_305 : 1 ≤ r_55.toInt ∧ r_55.toInt ≤ 1 := iv_nel p_56 (by decide) c_65
          have k_306 : ¬ r_55.toInt = 0 := fun q => c_65 (Int32.toInt_inj.mp q)
          refine lv_iconst (v := 3) hx hb dX12_atom_99 (by decide) ?_
          have z_307 : (3 : Int32).toInt = 3 := by decide
          exact W.iret (v := 3) hx hb hr (fun t ht hW => ⟨⟨3, (fv_59, wd, ar_61), rfl, ⟨hF_fv_59, hA_ar_61, (fM_call (fM_call (fM_call (fM_call (fM_rf [] _) fr_10 (by decide)) fr_26 (by decide)) fr_42 (by decide)) fr_62 (by decide)), (fA_call (fA_call (fA_call (fA_call (fA_rf [] _) fa_11 (by decide)) fa_27 (by decide)) fa_43 (by decide)) fa_63 (by decide)), (iv_w (⟨by decide, by decide⟩ : (3 : Int) ≤ (3 : Int32).toInt ∧ (3 : Int32).toInt ≤ 3) (by decide) (by decide)), rfl, (show ((3 : Int32).toInt + 7 = (t9 : Int) ∧ 7 ≤ t9 ∧ t9 ≤ 18) ∨ ((3 : Int32) = -1 ∧ ¬ (7 ≤ t9 ∧ t9 ≤ 18)) from by have y_0 : ¬ t9 = 7 := (by rcases k_12 with ⟨a9, b9⟩ | ⟨a9, b9⟩; exfalso; have h8 := congrArg Int32.toInt a9; have h7 : (1 : Int32).toInt = 1 := (by decide); omega; exact b9); have y_1 : ¬ t9 = 8 := (by rcases k_28 with ⟨a9, b9⟩ | ⟨a9, b9⟩; exfalso; have h8 := congrArg Int32.toInt a9; have h7 : (1 : Int32).toInt = 1 := (by decide); omega; exact b9); have y_2 : ¬ t9 = 9 := (by rcases k_44 with ⟨a9, b9⟩ | ⟨a9, b9⟩; exfalso; have h8 := congrArg Int32.toInt a9; have h7 : (1 : Int32).toInt = 1 := (by decide); omega; exact b9); have y_3 : t9 = 10 := (by rcases k_64 with ⟨a9, b9⟩ | ⟨a9, b9⟩; exact b9; exfalso; have h8 := congrArg Int32.toInt a9; have h7 : (0 : Int32).toInt = 0 := (by decide); omega); exact Or.inl (⟨by omega, by omega, by omega⟩)), trivial⟩, ⟨by rw [ht]; exact hP, va_K.moved hW.alike hK⟩⟩, hS.F ht⟩) hS.2.2 dX12_atom_100
      · skip
        have i_312 : 1 ≤ r_35.toInt ∧ r_35.toInt ≤ 1 := iv_nel p_36 (by decide) c_45
        have k_313 : ¬ r_35.toInt = 0 := fun q => c_45 (Int32.toInt_inj.mp q)
        refine lv_iconst (v := 2) hx hb dX12_atom_61 (by decide) ?_
        have z_314 : (2 : Int32).toInt = 2 := by decide
        exact W.iret (v := 2) hx hb hr (fun t ht hW => ⟨⟨2, (fv_39, wd, ar_41), rfl, ⟨hF_fv_39, hA_ar_41, (fM_call (fM_call (fM_call (fM_rf [] _) fr_10 (by decide)) fr_26 (by decide)) fr_42 (by decide)), (fA_call (fA_call (fA_call (fA_rf [] _) fa_11 (by decide)) fa_27 (by decide)) fa_43 (by decide)), (iv_w (⟨by decide, by decide⟩ : (2 : Int) ≤ (2 : Int32).toInt ∧ (2 : Int32).toInt ≤ 2) (by decide) (by decide)), rfl, (show ((2 : Int32).toInt + 7 = (t9 : Int) ∧ 7 ≤ t9 ∧ t9 ≤ 18) ∨ ((2 : Int32) = -1 ∧ ¬ (7 ≤ t9 ∧ t9 ≤ 18)) from by have y_0 : ¬ t9 = 7 := (by rcases k_12 with ⟨a9, b9⟩ | ⟨a9, b9⟩; exfalso; have h8 := congrArg Int32.toInt a9; have h7 : (1 : Int32).toInt = 1 := (by decide); omega; exact b9); have y_1 : ¬ t9 = 8 := (by rcases k_28 with ⟨a9, b9⟩ | ⟨a9, b9⟩; exfalso; have h8 := congrArg Int32.toInt a9; have h7 : (1 : Int32).toInt = 1 := (by decide); omega; exact b9); have y_2 : t9 = 9 := (by rcases k_44 with ⟨a9, b9⟩ | ⟨a9, b9⟩; exact b9; exfalso; have h8 := congrArg Int32.toInt a9; have h7 : (0 : Int32).toInt = 0 := (by decide); omega); exact Or.inl (⟨by omega, by omega, by omega⟩)), trivial⟩, ⟨by rw [ht]; exact hP, va_K.moved hW.alike hK⟩⟩, hS.F ht⟩) hS.2.2 dX12_atom_62
    · skip
      have i_318 : 1 ≤ r_19.toInt ∧ r_19.toInt ≤ 1 := iv_nel p_20 (by decide) c_29
      have k_319 : ¬ r_19.toInt = 0 := fun q => c_29 (Int32.toInt_inj.mp q)
      refine lv_iconst (v := 1) hx hb dX12_atom_40 (by decide) ?_
      have z_320 : (1 : Int32).toInt = 1 := by decide
      exact W.iret (v := 1) hx hb hr (fun t ht hW => ⟨⟨1, (fv_23, wd, ar_25), rfl, ⟨hF_fv_23, hA_ar_25, (fM_call (fM_call (fM_rf [] _) fr_10 (by decide)) fr_26 (by decide)), (fA_call (fA_call (fA_rf [] _) fa_11 (by decide)) fa_27 (by decide)), (iv_w (⟨by decide, by decide⟩ : (1 : Int) ≤ (1 : Int32).toInt ∧ (1 : Int32).toInt ≤ 1) (by decide) (by decide)), rfl, (show ((1 : Int32).toInt + 7 = (t9 : Int) ∧ 7 ≤ t9 ∧ t9 ≤ 18) ∨ ((1 : Int32) = -1 ∧ ¬ (7 ≤ t9 ∧ t9 ≤ 18)) from by have y_0 : ¬ t9 = 7 := (by rcases k_12 with ⟨a9, b9⟩ | ⟨a9, b9⟩; exfalso; have h8 := congrArg Int32.toInt a9; have h7 : (1 : Int32).toInt = 1 := (by decide); omega; exact b9); have y_1 : t9 = 8 := (by rcases k_28 with ⟨a9, b9⟩ | ⟨a9, b9⟩; exact b9; exfalso; have h8 := congrArg Int32.toInt a9; have h7 : (0 : Int32).toInt = 0 := (by decide); omega); exact Or.inl (⟨by omega, by omega, by omega⟩)), trivial⟩, ⟨by rw [ht]; exact hP, va_K.moved hW.alike hK⟩⟩, hS.F ht⟩) hS.2.2 dX12_atom_41
  · skip
    have i_323 : 1 ≤ r_3.toInt ∧ r_3.toInt ≤ 1 := iv_nel p_4 (by decide) c_13
    have k_324 : ¬ r_3.toInt = 0 := fun q => c_13 (Int32.toInt_inj.mp q)
    refine lv_iconst (v := 0) hx hb dX12_atom_18 (by decide) ?_
    have z_325 : (0 : Int32).toInt = 0 := by decide
    exact W.iret (v := 0) hx hb hr (fun t ht hW => ⟨⟨0, (fv_7, wd, ar_9), rfl, ⟨hF_fv_7, hA_ar_9, (fM_call (fM_rf [] _) fr_10 (by decide)), (fA_call (fA_rf [] _) fa_11 (by decide)), (iv_w (⟨by decide, by decide⟩ : (0 : Int) ≤ (0 : Int32).toInt ∧ (0 : Int32).toInt ≤ 0) (by decide) (by decide)), rfl, (show ((0 : Int32).toInt + 7 = (t9 : Int) ∧ 7 ≤ t9 ∧ t9 ≤ 18) ∨ ((0 : Int32) = -1 ∧ ¬ (7 ≤ t9 ∧ t9 ≤ 18)) from by have y_0 : t9 = 7 := (by rcases k_12 with ⟨a9, b9⟩ | ⟨a9, b9⟩; exact b9; exfalso; have h8 := congrArg Int32.toInt a9; have h7 : (0 : Int32).toInt = 0 := (by decide); omega); exact Or.inl (⟨by omega, by omega, by omega⟩)), trivial⟩, ⟨by rw [ht]; exact hP, va_K.moved hW.alike hK⟩⟩, hS.F ht⟩) hS.2.2 dX12_atom_19

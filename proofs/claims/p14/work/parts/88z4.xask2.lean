set_option maxHeartbeats 4000000 in
set_option maxRecDepth 100000 in
theorem x_isAskedEmptyE (l : Launch) (sz : Nat) (v : Int32) : Met l yX7_isAskedEmpty (.code yX7_isAskedEmpty cX7_isAskedEmpty 1 (some .boolean) :: lw_good) ({ frames := 2, cells := 0, slots := 0, locals := 40 }) (va_Pc [.int v] (fun U => U.heap.size = sz)) (va_Qi (fun (r : Int32) (_ : Unit) => (0 ≤ r.toInt ∧ r.toInt ≤ 1) ∧ ((r = 0 ∧ (¬ (v.toInt = 0 ∨ v.toInt = 2 ∨ v.toInt = 5))) ∨ (r = 1 ∧ (v.toInt = 0 ∨ v.toInt = 2 ∨ v.toInt = 5))) ∧ True) (fun (_ : Unit) (_ : State) => True) (fun q => sz ≤ q)) 0 0 (fun q => sz ≤ q) := by
  refine Met.ofW (cc := cX7_isAskedEmpty) (maxL := 1) (ret := (some .boolean)) (by decide) rfl ?_
  intro p e s m args below meth c s₁ B hml hv
  obtain ⟨rfl, hsz⟩ := hv
  have hx := B.exec
  have hb := B.bytes
  have hr := B.returns
  have hts := atoms_spec (ws := (.code yX7_isAskedEmpty cX7_isAskedEmpty 1 (some .boolean) :: lw_good)) B.pre
  have htg : ∀ w ∈ lw_good, w.before _ s = true := fun w hw => hts w (List.mem_cons_of_mem _ hw)
  have hown : s.vm.findClass RX7 = some m.cls := findClass_of_methodNamed B.named
  have hlocks := B.notSynchronized
  subst hsz
  have hS : va_S (fun q => s.heap.size ≤ q) s.heap s.heap [] := va_S.rf
  have hl := lv_entry ([.int v]) (n := 1) (Nat.le_of_ble_eq_true rfl)
  rw [lg_entry_eq]
  generalize (lg_sl ([.int v]) ++ List.replicate (1 - (lg_sl ([.int v])).length) Slot.unset).toArray = ls at hl ⊢
  have hl : lv_has ls 1 [(0, .int v)] := hl
  refine lv_iload_n hx hb dX7_isAskedEmpty_0 rfl (lv_at hl 0 rfl) ?_
  refine lv_if_eq (tgt := 14) hx hb dX7_isAskedEmpty_1 (by decide) (fun c_1 => ?_) (fun c_1 => ?_)
  · skip
    have i_2 : 0 ≤ v.toInt ∧ v.toInt ≤ 0 := iv_eq1 (⟨by decide, by decide⟩ : (0 : Int) ≤ (0 : Int32).toInt ∧ (0 : Int32).toInt ≤ 0) c_1
    refine lv_iconst (v := 1) hx hb dX7_isAskedEmpty_14 (by decide) ?_
    refine lv_goto (tgt := 19) hx hb dX7_isAskedEmpty_15 (by decide) ?_
    exact W.zret (v := 1) hx hb hr (by decide) (fun t ht hW => ⟨⟨1, (), rfl, ⟨(iv_w (⟨by decide, by decide⟩ : (1 : Int) ≤ (1 : Int32).toInt ∧ (1 : Int32).toInt ≤ 1) (by decide) (by decide)), (Or.inr (⟨rfl, by omega⟩)), trivial⟩, trivial⟩, hS.F ht⟩) hS.2.2 dX7_isAskedEmpty_19
  · skip
    have k_4 : ¬ v.toInt = 0 := fun q => c_1 (Int32.toInt_inj.mp q)
    refine lv_iload_n hx hb dX7_isAskedEmpty_4 rfl (lv_at hl 0 rfl) ?_
    refine lv_iconst (v := 2) hx hb dX7_isAskedEmpty_5 (by decide) ?_
    refine lv_icmp_eq (tgt := 14) hx hb dX7_isAskedEmpty_6 (by decide) (fun c_5 => ?_) (fun c_5 => ?_)
    · skip
      have i_6 : 2 ≤ v.toInt ∧ v.toInt ≤ 2 := iv_eq1 (⟨by decide, by decide⟩ : (2 : Int) ≤ (2 : Int32).toInt ∧ (2 : Int32).toInt ≤ 2) c_5
      refine lv_iconst (v := 1) hx hb dX7_isAskedEmpty_14 (by decide) ?_
      refine lv_goto (tgt := 19) hx hb dX7_isAskedEmpty_15 (by decide) ?_
      exact W.zret (v := 1) hx hb hr (by decide) (fun t ht hW => ⟨⟨1, (), rfl, ⟨(iv_w (⟨by decide, by decide⟩ : (1 : Int) ≤ (1 : Int32).toInt ∧ (1 : Int32).toInt ≤ 1) (by decide) (by decide)), (Or.inr (⟨rfl, by omega⟩)), trivial⟩, trivial⟩, hS.F ht⟩) hS.2.2 dX7_isAskedEmpty_19
    · skip
      have k_8 : ¬ v.toInt = 2 := fun q => c_5 (Int32.toInt_inj.mp q)
      refine lv_iload_n hx hb dX7_isAskedEmpty_9 rfl (lv_at hl 0 rfl) ?_
      refine lv_iconst (v := 5) hx hb dX7_isAskedEmpty_10 (by decide) ?_
      refine lv_icmp_ne (tgt := 18) hx hb dX7_isAskedEmpty_11 (by decide) (fun c_9 => ?_) (fun c_9 => ?_)
      · skip
        have k_10 : ¬ v.toInt = 5 := fun q => c_9 (Int32.toInt_inj.mp q)
        refine lv_iconst (v := 0) hx hb dX7_isAskedEmpty_18 (by decide) ?_
        exact W.zret (v := 0) hx hb hr (by decide) (fun t ht hW => ⟨⟨0, (), rfl, ⟨(iv_w (⟨by decide, by decide⟩ : (0 : Int) ≤ (0 : Int32).toInt ∧ (0 : Int32).toInt ≤ 0) (by decide) (by decide)), (Or.inl ⟨rfl, by omega⟩), trivial⟩, trivial⟩, hS.F ht⟩) hS.2.2 dX7_isAskedEmpty_19
      · skip
        have i_11 : 5 ≤ v.toInt ∧ v.toInt ≤ 5 := iv_eq1 (⟨by decide, by decide⟩ : (5 : Int) ≤ (5 : Int32).toInt ∧ (5 : Int32).toInt ≤ 5) c_9
        refine lv_iconst (v := 1) hx hb dX7_isAskedEmpty_14 (by decide) ?_
        refine lv_goto (tgt := 19) hx hb dX7_isAskedEmpty_15 (by decide) ?_
        exact W.zret (v := 1) hx hb hr (by decide) (fun t ht hW => ⟨⟨1, (), rfl, ⟨(iv_w (⟨by decide, by decide⟩ : (1 : Int) ≤ (1 : Int32).toInt ∧ (1 : Int32).toInt ≤ 1) (by decide) (by decide)), (Or.inr (⟨rfl, by omega⟩)), trivial⟩, trivial⟩, hS.F ht⟩) hS.2.2 dX7_isAskedEmpty_19
set_option maxHeartbeats 4000000 in
set_option maxRecDepth 100000 in
theorem x_plainValueE (l : Launch) (sz : Nat) (z : Int32) (b : Int32) (h_z : 0 ≤ z.toInt ∧ z.toInt ≤ 1) : Met l yX7_plainValue (.code yX7_plainValue cX7_plainValue 2 (some .int) :: lw_good) ({ frames := 2, cells := 0, slots := 0, locals := 40 }) (va_Pc [.int z, .int b] (fun U => U.heap.size = sz)) (va_Qi (fun (r : Int32) (_ : Unit) => (r.toInt = cd_pl b.toInt (decide (z.toInt = 1))) ∧ True) (fun (_ : Unit) (_ : State) => True) (fun q => sz ≤ q)) 0 0 (fun q => sz ≤ q) := by
  refine Met.ofW (cc := cX7_plainValue) (maxL := 2) (ret := (some .int)) (by decide) rfl ?_
  intro p e s m args below meth c s₁ B hml hv
  obtain ⟨rfl, hsz⟩ := hv
  have hx := B.exec
  have hb := B.bytes
  have hr := B.returns
  have hts := atoms_spec (ws := (.code yX7_plainValue cX7_plainValue 2 (some .int) :: lw_good)) B.pre
  have htg : ∀ w ∈ lw_good, w.before _ s = true := fun w hw => hts w (List.mem_cons_of_mem _ hw)
  have hown : s.vm.findClass RX7 = some m.cls := findClass_of_methodNamed B.named
  have hlocks := B.notSynchronized
  subst hsz
  have hS : va_S (fun q => s.heap.size ≤ q) s.heap s.heap [] := va_S.rf
  have hl := lv_entry ([.int z, .int b]) (n := 2) (Nat.le_of_ble_eq_true rfl)
  rw [lg_entry_eq]
  generalize (lg_sl ([.int z, .int b]) ++ List.replicate (2 - (lg_sl ([.int z, .int b])).length) Slot.unset).toArray = ls at hl ⊢
  have hl : lv_has ls 2 [(0, .int z), (1, .int b)] := hl
  refine lv_iload_n hx hb dX7_plainValue_0 rfl (lv_at hl 1 rfl) ?_
  rcases ix_sw_0_6 b with w_1 | w_1 | w_1 | w_1 | w_1 | w_1 | w_1 | w_1
  · skip
    refine lv_tableOut (tgt := 71) hx hb dX7_plainValue_1 (Or.inl w_1) (by decide) ?_
    refine lv_iconst (v := 0) hx hb dX7_plainValue_71 (by decide) ?_
    have z_2 : (0 : Int32).toInt = 0 := by decide
    exact W.iret (v := 0) hx hb hr (fun t ht hW => ⟨⟨0, (), rfl, ⟨(show (0 : Int32).toInt = cd_pl b.toInt (decide (z.toInt = 1)) from by have hz1 : (1 : Int32).toInt = 1 := (by decide); have hk9 : ¬ b.toInt = 0 ∧ ¬ b.toInt = 2 ∧ ¬ b.toInt = 3 ∧ ¬ b.toInt = 4 ∧ ¬ b.toInt = 5 := (by first | (refine ⟨?_, ?_, ?_, ?_, ?_⟩ <;> omega) | (have h8 : b.toInt = 1 := (congrArg Int32.toInt (by assumption : b = (1 : Int32))).trans (by decide); refine ⟨?_, ?_, ?_, ?_, ?_⟩ <;> omega)); unfold cd_pl; rw [if_neg (by omega), if_neg (by omega), if_neg (by omega), if_neg (by omega), if_neg (by omega)]; decide), trivial⟩, trivial⟩, hS.F ht⟩) hS.2.2 dX7_plainValue_72
  · skip
    refine lv_tableOut (tgt := 71) hx hb dX7_plainValue_1 (Or.inr w_1) (by decide) ?_
    refine lv_iconst (v := 0) hx hb dX7_plainValue_71 (by decide) ?_
    have z_3 : (0 : Int32).toInt = 0 := by decide
    exact W.iret (v := 0) hx hb hr (fun t ht hW => ⟨⟨0, (), rfl, ⟨(show (0 : Int32).toInt = cd_pl b.toInt (decide (z.toInt = 1)) from by have hz1 : (1 : Int32).toInt = 1 := (by decide); have hk9 : ¬ b.toInt = 0 ∧ ¬ b.toInt = 2 ∧ ¬ b.toInt = 3 ∧ ¬ b.toInt = 4 ∧ ¬ b.toInt = 5 := (by first | (refine ⟨?_, ?_, ?_, ?_, ?_⟩ <;> omega) | (have h8 : b.toInt = 1 := (congrArg Int32.toInt (by assumption : b = (1 : Int32))).trans (by decide); refine ⟨?_, ?_, ?_, ?_, ?_⟩ <;> omega)); unfold cd_pl; rw [if_neg (by omega), if_neg (by omega), if_neg (by omega), if_neg (by omega), if_neg (by omega)]; decide), trivial⟩, trivial⟩, hS.F ht⟩) hS.2.2 dX7_plainValue_72
  · skip
    refine lv_tableIn (off := 39) (tgt := 40) hx hb dX7_plainValue_1 (by rw [w_1]; decide) (by rw [w_1]; decide) (by rw [w_1]; rfl) (by decide) ?_
    refine lv_iconst (v := 1) hx hb dX7_plainValue_40 (by decide) ?_
    have z_4 : (1 : Int32).toInt = 1 := by decide
    exact W.iret (v := 1) hx hb hr (fun t ht hW => ⟨⟨1, (), rfl, ⟨(show (1 : Int32).toInt = cd_pl b.toInt (decide (z.toInt = 1)) from by have hk9 : b.toInt = 0 := (congrArg Int32.toInt (by assumption : b = (0 : Int32))).trans (by decide); unfold cd_pl; (repeat (first | rw [if_pos (by omega)] | rw [if_neg (by omega)])); decide), trivial⟩, trivial⟩, hS.F ht⟩) hS.2.2 dX7_plainValue_41
  · skip
    refine lv_tableIn (off := 70) (tgt := 71) hx hb dX7_plainValue_1 (by rw [w_1]; decide) (by rw [w_1]; decide) (by rw [w_1]; rfl) (by decide) ?_
    refine lv_iconst (v := 0) hx hb dX7_plainValue_71 (by decide) ?_
    have z_5 : (0 : Int32).toInt = 0 := by decide
    exact W.iret (v := 0) hx hb hr (fun t ht hW => ⟨⟨0, (), rfl, ⟨(show (0 : Int32).toInt = cd_pl b.toInt (decide (z.toInt = 1)) from by have hz1 : (1 : Int32).toInt = 1 := (by decide); have hk9 : ¬ b.toInt = 0 ∧ ¬ b.toInt = 2 ∧ ¬ b.toInt = 3 ∧ ¬ b.toInt = 4 ∧ ¬ b.toInt = 5 := (by first | (refine ⟨?_, ?_, ?_, ?_, ?_⟩ <;> omega) | (have h8 : b.toInt = 1 := (congrArg Int32.toInt (by assumption : b = (1 : Int32))).trans (by decide); refine ⟨?_, ?_, ?_, ?_, ?_⟩ <;> omega)); unfold cd_pl; rw [if_neg (by omega), if_neg (by omega), if_neg (by omega), if_neg (by omega), if_neg (by omega)]; decide), trivial⟩, trivial⟩, hS.F ht⟩) hS.2.2 dX7_plainValue_72
  · skip
    refine lv_tableIn (off := 41) (tgt := 42) hx hb dX7_plainValue_1 (by rw [w_1]; decide) (by rw [w_1]; decide) (by rw [w_1]; rfl) (by decide) ?_
    refine lv_iload_n hx hb dX7_plainValue_42 rfl (lv_at hl 0 rfl) ?_
    refine lv_if_eq (tgt := 51) hx hb dX7_plainValue_43 (by decide) (fun c_6 => ?_) (fun c_6 => ?_)
    · skip
      have i_7 : 0 ≤ z.toInt ∧ z.toInt ≤ 0 := iv_eq1 (⟨by decide, by decide⟩ : (0 : Int) ≤ (0 : Int32).toInt ∧ (0 : Int32).toInt ≤ 0) c_6
      refine lv_iconst (v := 0) hx hb dX7_plainValue_51 (by decide) ?_
      have z_9 : (0 : Int32).toInt = 0 := by decide
      exact W.iret (v := 0) hx hb hr (fun t ht hW => ⟨⟨0, (), rfl, ⟨(show (0 : Int32).toInt = cd_pl b.toInt (decide (z.toInt = 1)) from by have hk9 : b.toInt = 2 := (congrArg Int32.toInt (by assumption : b = (2 : Int32))).trans (by decide); rw [show decide (z.toInt = 1) = false from decide_eq_false (by omega)]; unfold cd_pl; rw [if_neg (by omega), if_pos (by omega)]; decide), trivial⟩, trivial⟩, hS.F ht⟩) hS.2.2 dX7_plainValue_52
    · skip
      have i_10 : 1 ≤ z.toInt ∧ z.toInt ≤ 1 := iv_nel h_z (by decide) c_6
      have k_11 : ¬ z.toInt = 0 := fun q => c_6 (Int32.toInt_inj.mp q)
      refine lv_bipush (v := 10) hx hb dX7_plainValue_46 (by decide) ?_
      refine lv_goto (tgt := 52) hx hb dX7_plainValue_48 (by decide) ?_
      have z_12 : (10 : Int32).toInt = 10 := by decide
      exact W.iret (v := 10) hx hb hr (fun t ht hW => ⟨⟨10, (), rfl, ⟨(show (10 : Int32).toInt = cd_pl b.toInt (decide (z.toInt = 1)) from by have hk9 : b.toInt = 2 := (congrArg Int32.toInt (by assumption : b = (2 : Int32))).trans (by decide); rw [show decide (z.toInt = 1) = true from decide_eq_true (by omega)]; unfold cd_pl; rw [if_neg (by omega), if_pos (by omega)]; decide), trivial⟩, trivial⟩, hS.F ht⟩) hS.2.2 dX7_plainValue_52
  · skip
    refine lv_tableIn (off := 52) (tgt := 53) hx hb dX7_plainValue_1 (by rw [w_1]; decide) (by rw [w_1]; decide) (by rw [w_1]; rfl) (by decide) ?_
    refine lv_bipush (v := 15) hx hb dX7_plainValue_53 (by decide) ?_
    have z_13 : (15 : Int32).toInt = 15 := by decide
    exact W.iret (v := 15) hx hb hr (fun t ht hW => ⟨⟨15, (), rfl, ⟨(show (15 : Int32).toInt = cd_pl b.toInt (decide (z.toInt = 1)) from by have hk9 : b.toInt = 3 := (congrArg Int32.toInt (by assumption : b = (3 : Int32))).trans (by decide); unfold cd_pl; (repeat (first | rw [if_pos (by omega)] | rw [if_neg (by omega)])); decide), trivial⟩, trivial⟩, hS.F ht⟩) hS.2.2 dX7_plainValue_55
  · skip
    refine lv_tableIn (off := 55) (tgt := 56) hx hb dX7_plainValue_1 (by rw [w_1]; decide) (by rw [w_1]; decide) (by rw [w_1]; rfl) (by decide) ?_
    refine lv_sipush (v := 500) hx hb dX7_plainValue_56 (by decide) ?_
    have z_14 : (500 : Int32).toInt = 500 := by decide
    exact W.iret (v := 500) hx hb hr (fun t ht hW => ⟨⟨500, (), rfl, ⟨(show (500 : Int32).toInt = cd_pl b.toInt (decide (z.toInt = 1)) from by have hk9 : b.toInt = 4 := (congrArg Int32.toInt (by assumption : b = (4 : Int32))).trans (by decide); unfold cd_pl; (repeat (first | rw [if_pos (by omega)] | rw [if_neg (by omega)])); decide), trivial⟩, trivial⟩, hS.F ht⟩) hS.2.2 dX7_plainValue_59
  · skip
    refine lv_tableIn (off := 59) (tgt := 60) hx hb dX7_plainValue_1 (by rw [w_1]; decide) (by rw [w_1]; decide) (by rw [w_1]; rfl) (by decide) ?_
    refine lv_iload_n hx hb dX7_plainValue_60 rfl (lv_at hl 0 rfl) ?_
    refine lv_if_eq (tgt := 68) hx hb dX7_plainValue_61 (by decide) (fun c_15 => ?_) (fun c_15 => ?_)
    · skip
      have i_16 : 0 ≤ z.toInt ∧ z.toInt ≤ 0 := iv_eq1 (⟨by decide, by decide⟩ : (0 : Int) ≤ (0 : Int32).toInt ∧ (0 : Int32).toInt ≤ 0) c_15
      refine lv_bipush (v := 20) hx hb dX7_plainValue_68 (by decide) ?_
      have z_18 : (20 : Int32).toInt = 20 := by decide
      exact W.iret (v := 20) hx hb hr (fun t ht hW => ⟨⟨20, (), rfl, ⟨(show (20 : Int32).toInt = cd_pl b.toInt (decide (z.toInt = 1)) from by have hk9 : b.toInt = 5 := (congrArg Int32.toInt (by assumption : b = (5 : Int32))).trans (by decide); rw [show decide (z.toInt = 1) = false from decide_eq_false (by omega)]; unfold cd_pl; rw [if_neg (by omega), if_neg (by omega), if_neg (by omega), if_neg (by omega), if_pos (by omega)]; decide), trivial⟩, trivial⟩, hS.F ht⟩) hS.2.2 dX7_plainValue_70
    · skip
      have i_19 : 1 ≤ z.toInt ∧ z.toInt ≤ 1 := iv_nel h_z (by decide) c_15
      have k_20 : ¬ z.toInt = 0 := fun q => c_15 (Int32.toInt_inj.mp q)
      refine lv_iconst (v := 0) hx hb dX7_plainValue_64 (by decide) ?_
      refine lv_goto (tgt := 70) hx hb dX7_plainValue_65 (by decide) ?_
      have z_21 : (0 : Int32).toInt = 0 := by decide
      exact W.iret (v := 0) hx hb hr (fun t ht hW => ⟨⟨0, (), rfl, ⟨(show (0 : Int32).toInt = cd_pl b.toInt (decide (z.toInt = 1)) from by have hk9 : b.toInt = 5 := (congrArg Int32.toInt (by assumption : b = (5 : Int32))).trans (by decide); rw [show decide (z.toInt = 1) = true from decide_eq_true (by omega)]; unfold cd_pl; rw [if_neg (by omega), if_neg (by omega), if_neg (by omega), if_neg (by omega), if_pos (by omega)]; decide), trivial⟩, trivial⟩, hS.F ht⟩) hS.2.2 dX7_plainValue_70
set_option maxHeartbeats 4000000 in
set_option maxRecDepth 100000 in
theorem x_setFactsE (l : Launch) (dC : Nat → ClassId) (dI : Nat → Nat → Nat) (sz : Nat) (ob ad : Nat → Nat) (cA : Nat → ClassId) (hd : dX ob ad) (fv : Nat → Int32) (wd : xT) (ar : Nat → Nat → Int32) (hF_fv : rX fv) (hA_ar : rB ar) (kk : Int32) (b : Int32) (d : Int32) (h_kk : 0 ≤ kk.toInt ∧ kk.toInt ≤ 79) : Met l yX7_setFacts (.code yX7_setFacts cX7_setFacts 5 none :: lw_good) ({ frames := 3, cells := 0, slots := 0, locals := 61 }) (va_Pc [.ref (ob 1), .int kk, .int b, .int d] (prX dC dI ob ad cA fv wd ar sz)) (va_Qv (fun (u : xS) => rX u.1 ∧ rB u.2.2 ∧ fM [] fv u.1 ∧ fA [4] ar u.2.2 ∧ u.2.1.2 = wd.2 ∧ (cd_f (u.2.2 4) = (cd_fc (ar 20 ((ar 28 (kk.toInt.toNat)).toInt.toNat)).toInt (ar 23 ((ar 28 (kk.toInt.toNat)).toInt.toNat)).toInt (ar 22 ((ar 28 (kk.toInt.toNat)).toInt.toNat)).toInt (wt_rf (fv 7) (fv 5) (ar 3)) (ar 31 (kk.toInt.toNat)).toInt (fv 7).toInt (ar 29 (kk.toInt.toNat)).toInt (ar 30 (kk.toInt.toNat)).toInt b.toInt d.toInt)) ∧ True) (enX dC dI ob ad cA) (aX ob ad sz)) 0 0 (aX ob ad sz) := by
  refine Met.ofW (cc := cX7_setFacts) (maxL := 5) (ret := none) (by decide) rfl ?_
  intro p e s m args below meth c s₁ B hml hv
  obtain ⟨rfl, hsz, hP, hK⟩ := hv
  have hx := B.exec
  have hb := B.bytes
  have hr := B.returns
  have hts := atoms_spec (ws := (.code yX7_setFacts cX7_setFacts 5 none :: lw_good)) B.pre
  have htg : ∀ w ∈ lw_good, w.before _ s = true := fun w hw => hts w (List.mem_cons_of_mem _ hw)
  have hown : s.vm.findClass RX7 = some m.cls := findClass_of_methodNamed B.named
  have hlocks := B.notSynchronized
  subst hsz
  have hS : va_S (aX ob ad s.heap.size) s.heap s.heap [] := va_S.rf
  have hl := lv_entry ([.ref (ob 1), .int kk, .int b, .int d]) (n := 5) (Nat.le_of_ble_eq_true rfl)
  rw [lg_entry_eq]
  generalize (lg_sl ([.ref (ob 1), .int kk, .int b, .int d]) ++ List.replicate (5 - (lg_sl ([.ref (ob 1), .int kk, .int b, .int d])).length) Slot.unset).toArray = ls at hl ⊢
  have hl : lv_has ls 5 [(0, .ref (ob 1)), (1, .int kk), (2, .int b), (3, .int d)] := hl
  refine lv_aload_n hx hb dX7_setFacts_0 rfl (lv_at hl 0 rfl) ?_
  refine gX_X7_35 hx hb htg hown hK hP dX7_setFacts_1 ?_
  refine gX_X7_86 hx hb htg hown hK hP dX7_setFacts_4 ?_
  refine lv_iload_n hx hb dX7_setFacts_7 rfl (lv_at hl 1 rfl) ?_
  refine lX_28 hx hb hK hP (iv_in h_kk (by decide) (by decide)) dX7_setFacts_8 (fun v_1 ev_1 => ?_)
  have i_2 : 0 ≤ v_1.toInt ∧ v_1.toInt ≤ 19 := ev_1 ▸ hA_ar 28 _
  refine lv_istore (lv' := [(4, .int v_1), (0, .ref (ob 1)), (1, .int kk), (2, .int b), (3, .int d)]) hx hb dX7_setFacts_9 hl (by decide) rfl (fun ls hl => ?_)
  refine lv_aload_n hx hb dX7_setFacts_11 rfl (lv_at hl 1 rfl) ?_
  refine gX_X7_62 hx hb htg hown hK hP dX7_setFacts_12 ?_
  refine lv_iconst (v := 0) hx hb dX7_setFacts_15 (by decide) ?_
  refine lv_aload_n hx hb dX7_setFacts_16 rfl (lv_at hl 1 rfl) ?_
  refine gX_X7_28 hx hb htg hown hK hP dX7_setFacts_17 ?_
  refine gX_X7_83 hx hb htg hown hK hP dX7_setFacts_20 ?_
  refine lv_iload hx hb dX7_setFacts_23 (lv_at hl 0 rfl) ?_
  refine lX_20 hx hb hK hP (iv_in i_2 (by decide) (by decide)) dX7_setFacts_25 (fun v_3 ev_3 => ?_)
  refine my_cut (P := fun R9 a9 Q9 => ∀ (x_8 : Int32) (H : Heap) (locs : List Loc) (ls : Array Slot), (0 ≤ x_8.toInt ∧ x_8.toInt ≤ 1) → (x_8.toInt = (if (ar 20 ((ar 28 (kk.toInt.toNat)).toInt.toNat)).toInt = 0 then 1 else 0)) → va_P (dC, dI) vwCl (wsX ob ad cA fv wd ar) H → va_S (aX ob ad s.heap.size) s.heap H locs → lv_has ls 5 [(0, .ref (ob 1)), (1, .int kk), (2, .int b), (3, .int d), (4, .int v_1)] → W p l e R9 s m a9 below meth c H locs 0 0 Q9 (F0 m 34 ls [.int x_8, .int 0, .ref (ad 4)])) ?_ (fun hj_10 => ?_)
  · intro x_8 H locs ls i_x_8 q_9 hP hS hl
    refine sX_4 hx hb hK hP hS hd (iv_in (⟨by decide, by decide⟩ : (0 : Int) ≤ (0 : Int32).toInt ∧ (0 : Int32).toInt ≤ 0) (by decide) (by decide)) dX7_setFacts_34 (fun H locs ar_11 ear_11 hP hS => ?_)
    have hA_ar_11 : rB ar_11 := rB_put hA_ar ear_11 (iv_any _)
    refine lv_aload_n hx hb dX7_setFacts_35 rfl (lv_at hl 0 rfl) ?_
    refine gX_X7_62 hx hb htg hown hK hP dX7_setFacts_36 ?_
    refine lv_iconst (v := 1) hx hb dX7_setFacts_39 (by decide) ?_
    refine lv_aload_n hx hb dX7_setFacts_40 rfl (lv_at hl 0 rfl) ?_
    refine gX_X7_28 hx hb htg hown hK hP dX7_setFacts_41 ?_
    refine gX_X7_83 hx hb htg hown hK hP dX7_setFacts_44 ?_
    refine lv_iload hx hb dX7_setFacts_47 (lv_at hl 4 rfl) ?_
    refine lX_20 hx hb hK hP (iv_in i_2 (by decide) (by decide)) dX7_setFacts_49 (fun v_12 ev_12 => ?_)
    obtain rfl : v_3 = v_12 := ev_3.trans ((congrFun ((fA_put (fA_rf [4] _) ear_11 (by decide)) 20 rfl) _).symm.trans ev_12.symm)
    refine lv_iconst (v := 1) hx hb dX7_setFacts_50 (by decide) ?_
    refine my_cut (P := fun R9 a9 Q9 => ∀ (x_17 : Int32) (H : Heap) (locs : List Loc) (ls : Array Slot), (0 ≤ x_17.toInt ∧ x_17.toInt ≤ 1) → (x_17.toInt = (if (ar 20 ((ar 28 (kk.toInt.toNat)).toInt.toNat)).toInt = 1 then 1 else 0)) → va_P (dC, dI) vwCl (wsX ob ad cA fv wd ar_11) H → va_S (aX ob ad s.heap.size) s.heap H locs → lv_has ls 5 [(0, .ref (ob 1)), (1, .int kk), (2, .int b), (3, .int d), (4, .int v_1)] → W p l e R9 s m a9 below meth c H locs 0 0 Q9 (F0 m 59 ls [.int x_17, .int 1, .ref (ad 4)])) ?_ (fun hj_19 => ?_)
    · intro x_17 H locs ls i_x_17 q_18 hP hS hl
      refine sX_4 hx hb hK hP hS hd (iv_in (⟨by decide, by decide⟩ : (1 : Int) ≤ (1 : Int32).toInt ∧ (1 : Int32).toInt ≤ 1) (by decide) (by decide)) dX7_setFacts_59 (fun H locs ar_20 ear_20 hP hS => ?_)
      have hA_ar_20 : rB ar_20 := rB_put hA_ar_11 ear_20 (iv_any _)
      refine lv_aload_n hx hb dX7_setFacts_60 rfl (lv_at hl 0 rfl) ?_
      refine gX_X7_62 hx hb htg hown hK hP dX7_setFacts_61 ?_
      refine lv_iconst (v := 2) hx hb dX7_setFacts_64 (by decide) ?_
      refine lv_aload_n hx hb dX7_setFacts_65 rfl (lv_at hl 0 rfl) ?_
      refine gX_X7_28 hx hb htg hown hK hP dX7_setFacts_66 ?_
      refine gX_X7_83 hx hb htg hown hK hP dX7_setFacts_69 ?_
      refine lv_iload hx hb dX7_setFacts_72 (lv_at hl 4 rfl) ?_
      refine lX_20 hx hb hK hP (iv_in i_2 (by decide) (by decide)) dX7_setFacts_74 (fun v_21 ev_21 => ?_)
      obtain rfl : v_3 = v_21 := ev_3.trans ((congrFun ((fA_put (fA_put (fA_rf [4] _) ear_11 (by decide)) ear_20 (by decide)) 20 rfl) _).symm.trans ev_21.symm)
      refine lv_iconst (v := 2) hx hb dX7_setFacts_75 (by decide) ?_
      refine my_cut (P := fun R9 a9 Q9 => ∀ (x_26 : Int32) (H : Heap) (locs : List Loc) (ls : Array Slot), (0 ≤ x_26.toInt ∧ x_26.toInt ≤ 1) → (x_26.toInt = (if (ar 20 ((ar 28 (kk.toInt.toNat)).toInt.toNat)).toInt = 2 then 1 else 0)) → va_P (dC, dI) vwCl (wsX ob ad cA fv wd ar_20) H → va_S (aX ob ad s.heap.size) s.heap H locs → lv_has ls 5 [(0, .ref (ob 1)), (1, .int kk), (2, .int b), (3, .int d), (4, .int v_1)] → W p l e R9 s m a9 below meth c H locs 0 0 Q9 (F0 m 84 ls [.int x_26, .int 2, .ref (ad 4)])) ?_ (fun hj_28 => ?_)
      · intro x_26 H locs ls i_x_26 q_27 hP hS hl
        refine sX_4 hx hb hK hP hS hd (iv_in (⟨by decide, by decide⟩ : (2 : Int) ≤ (2 : Int32).toInt ∧ (2 : Int32).toInt ≤ 2) (by decide) (by decide)) dX7_setFacts_84 (fun H locs ar_29 ear_29 hP hS => ?_)
        have hA_ar_29 : rB ar_29 := rB_put hA_ar_20 ear_29 (iv_any _)
        refine lv_aload_n hx hb dX7_setFacts_85 rfl (lv_at hl 0 rfl) ?_
        refine gX_X7_62 hx hb htg hown hK hP dX7_setFacts_86 ?_
        refine lv_iconst (v := 3) hx hb dX7_setFacts_89 (by decide) ?_
        refine lv_aload_n hx hb dX7_setFacts_90 rfl (lv_at hl 0 rfl) ?_
        refine gX_X7_28 hx hb htg hown hK hP dX7_setFacts_91 ?_
        refine gX_X7_114 hx hb htg hown hK hP dX7_setFacts_94 ?_
        refine lv_iload hx hb dX7_setFacts_97 (lv_at hl 4 rfl) ?_
        refine lX_23 hx hb hK hP (iv_in i_2 (by decide) (by decide)) dX7_setFacts_99 (fun v_30 ev_30 => ?_)
        refine lv_aload_n hx hb dX7_setFacts_100 rfl (lv_at hl 0 rfl) ?_
        refine gX_X7_111 hx hb htg hown hK hP dX7_setFacts_101 ?_
        have i_31 : 0 ≤ (fv 7).toInt ∧ (fv 7).toInt ≤ 199 := hF_fv 7
        refine my_cut (P := fun R9 a9 Q9 => ∀ (x_37 : Int32) (H : Heap) (locs : List Loc) (ls : Array Slot), (0 ≤ x_37.toInt ∧ x_37.toInt ≤ 1) → (x_37.toInt = (if (fv 7).toInt ≤ (ar 23 ((ar 28 (kk.toInt.toNat)).toInt.toNat)).toInt then 1 else 0)) → va_P (dC, dI) vwCl (wsX ob ad cA fv wd ar_29) H → va_S (aX ob ad s.heap.size) s.heap H locs → lv_has ls 5 [(0, .ref (ob 1)), (1, .int kk), (2, .int b), (3, .int d), (4, .int v_1)] → W p l e R9 s m a9 below meth c H locs 0 0 Q9 (F0 m 112 ls [.int x_37, .int 3, .ref (ad 4)])) ?_ (fun hj_39 => ?_)
        · intro x_37 H locs ls i_x_37 q_38 hP hS hl
          refine sX_4 hx hb hK hP hS hd (iv_in (⟨by decide, by decide⟩ : (3 : Int) ≤ (3 : Int32).toInt ∧ (3 : Int32).toInt ≤ 3) (by decide) (by decide)) dX7_setFacts_112 (fun H locs ar_40 ear_40 hP hS => ?_)
          have hA_ar_40 : rB ar_40 := rB_put hA_ar_29 ear_40 (iv_any _)
          refine lv_aload_n hx hb dX7_setFacts_113 rfl (lv_at hl 0 rfl) ?_
          refine gX_X7_62 hx hb htg hown hK hP dX7_setFacts_114 ?_
          refine lv_iconst (v := 4) hx hb dX7_setFacts_117 (by decide) ?_
          refine lv_iload_n hx hb dX7_setFacts_118 rfl (lv_at hl 2 rfl) ?_
          refine sX_4 hx hb hK hP hS hd (iv_in (⟨by decide, by decide⟩ : (4 : Int) ≤ (4 : Int32).toInt ∧ (4 : Int32).toInt ≤ 4) (by decide) (by decide)) dX7_setFacts_119 (fun H locs ar_41 ear_41 hP hS => ?_)
          have hA_ar_41 : rB ar_41 := rB_put hA_ar_40 ear_41 (iv_any _)
          refine lv_aload_n hx hb dX7_setFacts_120 rfl (lv_at hl 0 rfl) ?_
          refine gX_X7_62 hx hb htg hown hK hP dX7_setFacts_121 ?_
          refine lv_iconst (v := 5) hx hb dX7_setFacts_124 (by decide) ?_
          refine lv_aload_n hx hb dX7_setFacts_125 rfl (lv_at hl 0 rfl) ?_
          refine gX_X7_28 hx hb htg hown hK hP dX7_setFacts_126 ?_
          refine gX_X7_117 hx hb htg hown hK hP dX7_setFacts_129 ?_
          refine lv_iload hx hb dX7_setFacts_132 (lv_at hl 4 rfl) ?_
          refine lX_22 hx hb hK hP (iv_in i_2 (by decide) (by decide)) dX7_setFacts_134 (fun v_42 ev_42 => ?_)
          have i_43 : 0 ≤ v_42.toInt ∧ v_42.toInt ≤ 9 := ev_42 ▸ hA_ar_41 22 _
          refine sX_4 hx hb hK hP hS hd (iv_in (⟨by decide, by decide⟩ : (5 : Int) ≤ (5 : Int32).toInt ∧ (5 : Int32).toInt ≤ 5) (by decide) (by decide)) dX7_setFacts_135 (fun H locs ar_44 ear_44 hP hS => ?_)
          have hA_ar_44 : rB ar_44 := rB_put hA_ar_41 ear_44 (iv_any _)
          refine lv_aload_n hx hb dX7_setFacts_136 rfl (lv_at hl 0 rfl) ?_
          refine gX_X7_62 hx hb htg hown hK hP dX7_setFacts_137 ?_
          refine lv_bipush (v := 6) hx hb dX7_setFacts_140 (by decide) ?_
          refine lv_aload_n hx hb dX7_setFacts_142 rfl (lv_at hl 0 rfl) ?_
          refine lv_aload_n hx hb dX7_setFacts_143 rfl (lv_at hl 0 rfl) ?_
          refine gX_X7_111 hx hb htg hown hK hP dX7_setFacts_144 ?_
          have z_45 : 0 ≤ (fv 5).toInt ∧ (fv 5).toInt ≤ 200 := hF_fv 5
          refine va_calli (va_runV (As := [.int (fv 7)]) (rest := [.int 6, .ref (ad 4)]) ⟨hx, hb, hml, hown, hts⟩ (x_rainOnC l dC dI H.size ob ad cA hd fv wd ar_44 hF_fv hA_ar_44 (fv 7) i_31) (cwV 1 hts (gV kw_5_29 kw_3_231 kw_3_232 kw_1_2 kw_3_233) rfl rfl rfl (by decide +kernel) ⟨Nat.le_of_ble_eq_true rfl, Nat.le_of_ble_eq_true rfl⟩) ⟨fun a U g mk q => ⟨q.1, q.2.1, q.2.2.1, va_K.moved (u := U) (U := U.calling g mk a) (Vm.Alike.refl U.vm) q.2.2.2⟩, va_recv hK hP (ci := 7) (q0 := 1) rfl rfl, fun U hU hW => ⟨rfl, by rw [hU], by rw [hU]; exact hP, va_K.moved hW.alike hK⟩⟩ rfl rfl hl.1 rfl (lv_room (Nat.le_of_ble_eq_true rfl)) dX7_setFacts_147 ⟨Nat.le_of_ble_eq_true rfl, Nat.le_of_ble_eq_true rfl⟩) hS (fun q _ h9 => aX_up hS q h9) (aX_up hS) (fun r_46 u t H1 locs ht _ hw hB _ hk1 hS => ?_)
          obtain ⟨fv_48, wd_49, ar_50⟩ := u
          obtain ⟨hF_fv_48, hA_ar_50, fr_51, fa_52, wf_53, p_47, -⟩ := hw
          have wf_53 : wd_49.2 = wd.2 := wf_53
          have hP : va_P (dC, dI) vwCl (wsX ob ad cA fv_48 wd_49 ar_50) H1 := by have h9 := hB.1; rw [ht] at h9; exact h9
          have fr_51 : fM [] fv fv_48 := fr_51
          have fa_52 : fA [] ar_44 ar_50 := fa_52
          have p_47 : wt_on r_46 (fv 7) (fv 5) (ar_44 3) := p_47
          generalize H1 = H at hP hS ⊢
          have rn_54 : r_46.toInt = wt_rf (fv 7) (fv 5) (ar 3) := by have h9 := wt_on_rf p_47; rw [show ar_44 3 = ar 3 from ((fA_put (fA_put (fA_put (fA_put (fA_put (fA_put (fA_rf [4] _) ear_11 (by decide)) ear_20 (by decide)) ear_29 (by decide)) ear_40 (by decide)) ear_41 (by decide)) ear_44 (by decide)) 3 rfl)] at h9; exact h9
          refine sX_4 hx hb hK hP hS hd (iv_in (⟨by decide, by decide⟩ : (6 : Int) ≤ (6 : Int32).toInt ∧ (6 : Int32).toInt ≤ 6) (by decide) (by decide)) dX7_setFacts_150 (fun H locs ar_55 ear_55 hP hS => ?_)
          have hA_ar_55 : rB ar_55 := rB_put hA_ar_50 ear_55 (iv_any _)
          refine lv_aload_n hx hb dX7_setFacts_151 rfl (lv_at hl 0 rfl) ?_
          refine gX_X7_62 hx hb htg hown hK hP dX7_setFacts_152 ?_
          refine lv_bipush (v := 7) hx hb dX7_setFacts_155 (by decide) ?_
          refine lv_aload_n hx hb dX7_setFacts_157 rfl (lv_at hl 0 rfl) ?_
          refine gX_X7_35 hx hb htg hown hK hP dX7_setFacts_158 ?_
          refine gX_X7_123 hx hb htg hown hK hP dX7_setFacts_161 ?_
          refine lv_iload_n hx hb dX7_setFacts_164 rfl (lv_at hl 1 rfl) ?_
          refine lX_31 hx hb hK hP (iv_in h_kk (by decide) (by decide)) dX7_setFacts_165 (fun v_56 ev_56 => ?_)
          refine sX_4 hx hb hK hP hS hd (iv_in (⟨by decide, by decide⟩ : (7 : Int) ≤ (7 : Int32).toInt ∧ (7 : Int32).toInt ≤ 7) (by decide) (by decide)) dX7_setFacts_166 (fun H locs ar_57 ear_57 hP hS => ?_)
          have hA_ar_57 : rB ar_57 := rB_put hA_ar_55 ear_57 (iv_any _)
          refine lv_aload_n hx hb dX7_setFacts_167 rfl (lv_at hl 0 rfl) ?_
          refine gX_X7_62 hx hb htg hown hK hP dX7_setFacts_168 ?_
          refine lv_bipush (v := 8) hx hb dX7_setFacts_171 (by decide) ?_
          refine lv_aload_n hx hb dX7_setFacts_173 rfl (lv_at hl 0 rfl) ?_
          refine gX_X7_111 hx hb htg hown hK hP dX7_setFacts_174 ?_
          refine my_ti (y := fv 7) ((fr_51 7 rfl)) ?_
          refine sX_4 hx hb hK hP hS hd (iv_in (⟨by decide, by decide⟩ : (8 : Int) ≤ (8 : Int32).toInt ∧ (8 : Int32).toInt ≤ 8) (by decide) (by decide)) dX7_setFacts_177 (fun H locs ar_58 ear_58 hP hS => ?_)
          have hA_ar_58 : rB ar_58 := rB_put hA_ar_57 ear_58 (iv_any _)
          refine lv_aload_n hx hb dX7_setFacts_178 rfl (lv_at hl 0 rfl) ?_
          refine gX_X7_62 hx hb htg hown hK hP dX7_setFacts_179 ?_
          refine lv_bipush (v := 9) hx hb dX7_setFacts_182 (by decide) ?_
          refine lv_aload_n hx hb dX7_setFacts_184 rfl (lv_at hl 0 rfl) ?_
          refine gX_X7_35 hx hb htg hown hK hP dX7_setFacts_185 ?_
          refine gX_X7_73 hx hb htg hown hK hP dX7_setFacts_188 ?_
          refine lv_iload_n hx hb dX7_setFacts_191 rfl (lv_at hl 1 rfl) ?_
          refine lX_29 hx hb hK hP (iv_in h_kk (by decide) (by decide)) dX7_setFacts_192 (fun v_59 ev_59 => ?_)
          have i_60 : 0 ≤ v_59.toInt ∧ v_59.toInt ≤ 7 := ev_59 ▸ hA_ar_58 29 _
          refine sX_4 hx hb hK hP hS hd (iv_in (⟨by decide, by decide⟩ : (9 : Int) ≤ (9 : Int32).toInt ∧ (9 : Int32).toInt ≤ 9) (by decide) (by decide)) dX7_setFacts_193 (fun H locs ar_61 ear_61 hP hS => ?_)
          have hA_ar_61 : rB ar_61 := rB_put hA_ar_58 ear_61 (iv_any _)
          refine lv_aload_n hx hb dX7_setFacts_194 rfl (lv_at hl 0 rfl) ?_
          refine gX_X7_62 hx hb htg hown hK hP dX7_setFacts_195 ?_
          refine lv_bipush (v := 10) hx hb dX7_setFacts_198 (by decide) ?_
          refine lv_aload_n hx hb dX7_setFacts_200 rfl (lv_at hl 0 rfl) ?_
          refine gX_X7_35 hx hb htg hown hK hP dX7_setFacts_201 ?_
          refine gX_X7_76 hx hb htg hown hK hP dX7_setFacts_204 ?_
          refine lv_iload_n hx hb dX7_setFacts_207 rfl (lv_at hl 1 rfl) ?_
          refine lX_30 hx hb hK hP (iv_in h_kk (by decide) (by decide)) dX7_setFacts_208 (fun v_62 ev_62 => ?_)
          have i_63 : 0 ≤ v_62.toInt ∧ v_62.toInt ≤ 7 := ev_62 ▸ hA_ar_61 30 _
          refine sX_4 hx hb hK hP hS hd (iv_in (⟨by decide, by decide⟩ : (10 : Int) ≤ (10 : Int32).toInt ∧ (10 : Int32).toInt ≤ 10) (by decide) (by decide)) dX7_setFacts_209 (fun H locs ar_64 ear_64 hP hS => ?_)
          have hA_ar_64 : rB ar_64 := rB_put hA_ar_61 ear_64 (iv_any _)
          refine lv_aload_n hx hb dX7_setFacts_210 rfl (lv_at hl 0 rfl) ?_
          refine gX_X7_62 hx hb htg hown hK hP dX7_setFacts_211 ?_
          refine lv_bipush (v := 11) hx hb dX7_setFacts_214 (by decide) ?_
          refine lv_iload_n hx hb dX7_setFacts_216 rfl (lv_at hl 3 rfl) ?_
          refine sX_4 hx hb hK hP hS hd (iv_in (⟨by decide, by decide⟩ : (11 : Int) ≤ (11 : Int32).toInt ∧ (11 : Int32).toInt ≤ 11) (by decide) (by decide)) dX7_setFacts_217 (fun H locs ar_65 ear_65 hP hS => ?_)
          have hA_ar_65 : rB ar_65 := rB_put hA_ar_64 ear_65 (iv_any _)
          exact W.vret hx hb hr (fun t ht hW => ⟨⟨(fv_48, wd_49, ar_65), rfl, ⟨hF_fv_48, hA_ar_65, (fM_call (fM_rf [] _) fr_51 (by decide)), (fA_put (fA_put (fA_put (fA_put (fA_put (fA_put (fA_call (fA_put (fA_put (fA_put (fA_put (fA_put (fA_put (fA_rf [4] _) ear_11 (by decide)) ear_20 (by decide)) ear_29 (by decide)) ear_40 (by decide)) ear_41 (by decide)) ear_44 (by decide)) fa_52 (by decide)) ear_55 (by decide)) ear_57 (by decide)) ear_58 (by decide)) ear_61 (by decide)) ear_64 (by decide)) ear_65 (by decide)), wf_53, (show cd_f (ar_65 4) = (cd_fc (ar 20 ((ar 28 (kk.toInt.toNat)).toInt.toNat)).toInt (ar 23 ((ar 28 (kk.toInt.toNat)).toInt.toNat)).toInt (ar 22 ((ar 28 (kk.toInt.toNat)).toInt.toNat)).toInt (wt_rf (fv 7) (fv 5) (ar 3)) (ar 31 (kk.toInt.toNat)).toInt (fv 7).toInt (ar 29 (kk.toInt.toNat)).toInt (ar 30 (kk.toInt.toNat)).toInt b.toInt d.toInt) from by have hw9 : v_1 = ar 28 (kk.toInt.toNat) := (by rw [ev_1]; exact congrArg (ar 28) (show Int32.toNatClampNeg kk = (kk.toInt.toNat) from (show kk.toInt.toNat = (kk.toInt.toNat) from by omega))); have hw8 : v_1.toInt.toNat = ((ar 28 (kk.toInt.toNat)).toInt.toNat) := (by rw [hw9]); have hrow : ar_65 4 = upd (upd (upd (upd (upd (upd (upd (upd (upd (upd (upd (upd (ar 4) 0 x_8) 1 x_17) 2 x_26) 3 x_37) 4 b) 5 v_42) 6 r_46) 7 v_56) 8 (fv 7)) 9 v_59) 10 v_62) 11 d := (by rw [show ar_65 4 = upd (ar_64 4) (Int32.toNatClampNeg (11 : Int32)) d from by rw [ear_65]; rfl, show ar_64 4 = upd (ar_61 4) (Int32.toNatClampNeg (10 : Int32)) v_62 from by rw [ear_64]; rfl, show ar_61 4 = upd (ar_58 4) (Int32.toNatClampNeg (9 : Int32)) v_59 from by rw [ear_61]; rfl, show ar_58 4 = upd (ar_57 4) (Int32.toNatClampNeg (8 : Int32)) (fv 7) from by rw [ear_58]; rfl, show ar_57 4 = upd (ar_55 4) (Int32.toNatClampNeg (7 : Int32)) v_56 from by rw [ear_57]; rfl, show ar_55 4 = upd (ar_50 4) (Int32.toNatClampNeg (6 : Int32)) r_46 from by rw [ear_55]; rfl, show ar_50 4 = ar_44 4 from ((fA_call (fA_rf [] _) fa_52 (by decide)) 4 rfl), show ar_44 4 = upd (ar_41 4) (Int32.toNatClampNeg (5 : Int32)) v_42 from by rw [ear_44]; rfl, show ar_41 4 = upd (ar_40 4) (Int32.toNatClampNeg (4 : Int32)) b from by rw [ear_41]; rfl, show ar_40 4 = upd (ar_29 4) (Int32.toNatClampNeg (3 : Int32)) x_37 from by rw [ear_40]; rfl, show ar_29 4 = upd (ar_20 4) (Int32.toNatClampNeg (2 : Int32)) x_26 from by rw [ear_29]; rfl, show ar_20 4 = upd (ar_11 4) (Int32.toNatClampNeg (1 : Int32)) x_17 from by rw [ear_20]; rfl, show ar_11 4 = upd (ar 4) (Int32.toNatClampNeg (0 : Int32)) x_8 from by rw [ear_11]; rfl]; rfl); have hv5 : v_42.toInt = (ar 22 ((ar 28 (kk.toInt.toNat)).toInt.toNat)).toInt := congrArg Int32.toInt (by rw [ev_42, show ar_41 22 = ar 22 from ((fA_put (fA_put (fA_put (fA_put (fA_put (fA_rf [4] _) ear_11 (by decide)) ear_20 (by decide)) ear_29 (by decide)) ear_40 (by decide)) ear_41 (by decide)) 22 rfl)]; exact congrArg (ar 22) (show Int32.toNatClampNeg v_1 = ((ar 28 (kk.toInt.toNat)).toInt.toNat) from (show v_1.toInt.toNat = ((ar 28 (kk.toInt.toNat)).toInt.toNat) from by omega))); have hv7 : v_56.toInt = (ar 31 (kk.toInt.toNat)).toInt := congrArg Int32.toInt (by rw [ev_56, show ar_55 31 = ar 31 from ((fA_put (fA_call (fA_put (fA_put (fA_put (fA_put (fA_put (fA_put (fA_rf [4] _) ear_11 (by decide)) ear_20 (by decide)) ear_29 (by decide)) ear_40 (by decide)) ear_41 (by decide)) ear_44 (by decide)) fa_52 (by decide)) ear_55 (by decide)) 31 rfl)]; exact congrArg (ar 31) (show Int32.toNatClampNeg kk = (kk.toInt.toNat) from (show kk.toInt.toNat = (kk.toInt.toNat) from by omega))); have hv9 : v_59.toInt = (ar 29 (kk.toInt.toNat)).toInt := congrArg Int32.toInt (by rw [ev_59, show ar_58 29 = ar 29 from ((fA_put (fA_put (fA_put (fA_call (fA_put (fA_put (fA_put (fA_put (fA_put (fA_put (fA_rf [4] _) ear_11 (by decide)) ear_20 (by decide)) ear_29 (by decide)) ear_40 (by decide)) ear_41 (by decide)) ear_44 (by decide)) fa_52 (by decide)) ear_55 (by decide)) ear_57 (by decide)) ear_58 (by decide)) 29 rfl)]; exact congrArg (ar 29) (show Int32.toNatClampNeg kk = (kk.toInt.toNat) from (show kk.toInt.toNat = (kk.toInt.toNat) from by omega))); have hv10 : v_62.toInt = (ar 30 (kk.toInt.toNat)).toInt := congrArg Int32.toInt (by rw [ev_62, show ar_61 30 = ar 30 from ((fA_put (fA_put (fA_put (fA_put (fA_call (fA_put (fA_put (fA_put (fA_put (fA_put (fA_put (fA_rf [4] _) ear_11 (by decide)) ear_20 (by decide)) ear_29 (by decide)) ear_40 (by decide)) ear_41 (by decide)) ear_44 (by decide)) fa_52 (by decide)) ear_55 (by decide)) ear_57 (by decide)) ear_58 (by decide)) ear_61 (by decide)) 30 rfl)]; exact congrArg (ar 30) (show Int32.toNatClampNeg kk = (kk.toInt.toNat) from (show kk.toInt.toNat = (kk.toInt.toNat) from by omega))); funext k; unfold cd_f; rw [hrow]; have hk12 : k = 0 ∨ k = 1 ∨ k = 2 ∨ k = 3 ∨ k = 4 ∨ k = 5 ∨ k = 6 ∨ k = 7 ∨ k = 8 ∨ k = 9 ∨ k = 10 ∨ k = 11 ∨ 12 ≤ k := (by omega); rcases hk12 with h9 | h9 | h9 | h9 | h9 | h9 | h9 | h9 | h9 | h9 | h9 | h9 | h9; (subst h9; exact q_9); (subst h9; exact q_18); (subst h9; exact q_27); (subst h9; exact q_38); (subst h9; exact rfl); (subst h9; exact hv5); (subst h9; exact rn_54); (subst h9; exact hv7); (subst h9; exact rfl); (subst h9; exact hv9); (subst h9; exact hv10); (subst h9; exact rfl); (unfold cd_fc; rw [if_neg (by omega)]; repeat rw [if_neg (by omega)])), trivial⟩, ⟨by rw [ht]; exact hP, va_K.moved hW.alike hK⟩⟩, hS.F ht⟩) hS.2.2 dX7_setFacts_218
        · skip
          refine lv_icmp_lt (tgt := 111) hx hb dX7_setFacts_104 (by decide) (fun c_32 => ?_) (fun c_32 => ?_)
          · skip
            have i_33 : (-2147483648) ≤ v_30.toInt ∧ v_30.toInt ≤ 198 := iv_lt1 (iv_any v_30) i_31 c_32
            have k_34 := Int32.lt_iff_toInt_lt.mp c_32
            refine lv_iconst (v := 0) hx hb dX7_setFacts_111 (by decide) ?_
            have z_66 : (0 : Int32).toInt = 0 := by decide
            exact hj_39 0 _ _ ls (iv_w (⟨by decide, by decide⟩ : (0 : Int) ≤ (0 : Int32).toInt ∧ (0 : Int32).toInt ≤ 0) (by decide) (by decide)) (by have hw9 : v_1 = ar 28 (kk.toInt.toNat) := (by rw [ev_1]; exact congrArg (ar 28) (show Int32.toNatClampNeg kk = (kk.toInt.toNat) from (show kk.toInt.toNat = (kk.toInt.toNat) from by omega))); have hw8 : v_1.toInt.toNat = ((ar 28 (kk.toInt.toNat)).toInt.toNat) := (by rw [hw9]); have hk9 : v_30 = ar 23 ((ar 28 (kk.toInt.toNat)).toInt.toNat) := (by rw [ev_30, show ar_29 23 = ar 23 from ((fA_put (fA_put (fA_put (fA_rf [4] _) ear_11 (by decide)) ear_20 (by decide)) ear_29 (by decide)) 23 rfl)]; exact congrArg (ar 23) (show Int32.toNatClampNeg v_1 = ((ar 28 (kk.toInt.toNat)).toInt.toNat) from (show v_1.toInt.toNat = ((ar 28 (kk.toInt.toNat)).toInt.toNat) from by omega))); rw [← hk9, if_neg (by omega)]; decide) hP hS (lv_sub hl [0, 1, 2, 3, 4] rfl)
          · skip
            have i_35 : 0 ≤ v_30.toInt ∧ v_30.toInt ≤ 2147483647 := iv_le2 i_31 (iv_any v_30) (Int32.not_lt.mp c_32)
            have k_36 := Int32.le_iff_toInt_le.mp (Int32.not_lt.mp c_32)
            refine lv_iconst (v := 1) hx hb dX7_setFacts_107 (by decide) ?_
            refine lv_goto (tgt := 112) hx hb dX7_setFacts_108 (by decide) ?_
            have z_67 : (1 : Int32).toInt = 1 := by decide
            exact hj_39 1 _ _ ls (iv_w (⟨by decide, by decide⟩ : (1 : Int) ≤ (1 : Int32).toInt ∧ (1 : Int32).toInt ≤ 1) (by decide) (by decide)) (by have hw9 : v_1 = ar 28 (kk.toInt.toNat) := (by rw [ev_1]; exact congrArg (ar 28) (show Int32.toNatClampNeg kk = (kk.toInt.toNat) from (show kk.toInt.toNat = (kk.toInt.toNat) from by omega))); have hw8 : v_1.toInt.toNat = ((ar 28 (kk.toInt.toNat)).toInt.toNat) := (by rw [hw9]); have hk9 : v_30 = ar 23 ((ar 28 (kk.toInt.toNat)).toInt.toNat) := (by rw [ev_30, show ar_29 23 = ar 23 from ((fA_put (fA_put (fA_put (fA_rf [4] _) ear_11 (by decide)) ear_20 (by decide)) ear_29 (by decide)) 23 rfl)]; exact congrArg (ar 23) (show Int32.toNatClampNeg v_1 = ((ar 28 (kk.toInt.toNat)).toInt.toNat) from (show v_1.toInt.toNat = ((ar 28 (kk.toInt.toNat)).toInt.toNat) from by omega))); rw [← hk9, if_pos (by omega)]; decide) hP hS (lv_sub hl [0, 1, 2, 3, 4] rfl)
      · skip
        refine lv_icmp_ne (tgt := 83) hx hb dX7_setFacts_76 (by decide) (fun c_22 => ?_) (fun c_22 => ?_)
        · skip
          have k_23 : ¬ v_3.toInt = 2 := fun q => c_22 (Int32.toInt_inj.mp q)
          refine lv_iconst (v := 0) hx hb dX7_setFacts_83 (by decide) ?_
          have z_68 : (0 : Int32).toInt = 0 := by decide
          exact hj_28 0 _ _ ls (iv_w (⟨by decide, by decide⟩ : (0 : Int) ≤ (0 : Int32).toInt ∧ (0 : Int32).toInt ≤ 0) (by decide) (by decide)) (by have hw9 : v_1 = ar 28 (kk.toInt.toNat) := (by rw [ev_1]; exact congrArg (ar 28) (show Int32.toNatClampNeg kk = (kk.toInt.toNat) from (show kk.toInt.toNat = (kk.toInt.toNat) from by omega))); have hw8 : v_1.toInt.toNat = ((ar 28 (kk.toInt.toNat)).toInt.toNat) := (by rw [hw9]); have hk9 : v_3 = ar 20 ((ar 28 (kk.toInt.toNat)).toInt.toNat) := (by rw [ev_3]; exact congrArg (ar 20) (show Int32.toNatClampNeg v_1 = ((ar 28 (kk.toInt.toNat)).toInt.toNat) from (show v_1.toInt.toNat = ((ar 28 (kk.toInt.toNat)).toInt.toNat) from by omega))); rw [← hk9, if_neg (by omega)]; decide) hP hS (lv_sub hl [0, 1, 2, 3, 4] rfl)
        · skip
          have i_24 : 2 ≤ v_3.toInt ∧ v_3.toInt ≤ 2 := iv_eq1 (⟨by decide, by decide⟩ : (2 : Int) ≤ (2 : Int32).toInt ∧ (2 : Int32).toInt ≤ 2) c_22
          refine lv_iconst (v := 1) hx hb dX7_setFacts_79 (by decide) ?_
          refine lv_goto (tgt := 84) hx hb dX7_setFacts_80 (by decide) ?_
          have z_69 : (1 : Int32).toInt = 1 := by decide
          exact hj_28 1 _ _ ls (iv_w (⟨by decide, by decide⟩ : (1 : Int) ≤ (1 : Int32).toInt ∧ (1 : Int32).toInt ≤ 1) (by decide) (by decide)) (by have hw9 : v_1 = ar 28 (kk.toInt.toNat) := (by rw [ev_1]; exact congrArg (ar 28) (show Int32.toNatClampNeg kk = (kk.toInt.toNat) from (show kk.toInt.toNat = (kk.toInt.toNat) from by omega))); have hw8 : v_1.toInt.toNat = ((ar 28 (kk.toInt.toNat)).toInt.toNat) := (by rw [hw9]); have hk9 : v_3 = ar 20 ((ar 28 (kk.toInt.toNat)).toInt.toNat) := (by rw [ev_3]; exact congrArg (ar 20) (show Int32.toNatClampNeg v_1 = ((ar 28 (kk.toInt.toNat)).toInt.toNat) from (show v_1.toInt.toNat = ((ar 28 (kk.toInt.toNat)).toInt.toNat) from by omega))); rw [← hk9, if_pos (by omega)]; decide) hP hS (lv_sub hl [0, 1, 2, 3, 4] rfl)
    · skip
      refine lv_icmp_ne (tgt := 58) hx hb dX7_setFacts_51 (by decide) (fun c_13 => ?_) (fun c_13 => ?_)
      · skip
        have k_14 : ¬ v_3.toInt = 1 := fun q => c_13 (Int32.toInt_inj.mp q)
        refine lv_iconst (v := 0) hx hb dX7_setFacts_58 (by decide) ?_
        have z_70 : (0 : Int32).toInt = 0 := by decide
        exact hj_19 0 _ _ ls (iv_w (⟨by decide, by decide⟩ : (0 : Int) ≤ (0 : Int32).toInt ∧ (0 : Int32).toInt ≤ 0) (by decide) (by decide)) (by have hw9 : v_1 = ar 28 (kk.toInt.toNat) := (by rw [ev_1]; exact congrArg (ar 28) (show Int32.toNatClampNeg kk = (kk.toInt.toNat) from (show kk.toInt.toNat = (kk.toInt.toNat) from by omega))); have hw8 : v_1.toInt.toNat = ((ar 28 (kk.toInt.toNat)).toInt.toNat) := (by rw [hw9]); have hk9 : v_3 = ar 20 ((ar 28 (kk.toInt.toNat)).toInt.toNat) := (by rw [ev_3]; exact congrArg (ar 20) (show Int32.toNatClampNeg v_1 = ((ar 28 (kk.toInt.toNat)).toInt.toNat) from (show v_1.toInt.toNat = ((ar 28 (kk.toInt.toNat)).toInt.toNat) from by omega))); rw [← hk9, if_neg (by omega)]; decide) hP hS (lv_sub hl [0, 1, 2, 3, 4] rfl)
      · skip
        have i_15 : 1 ≤ v_3.toInt ∧ v_3.toInt ≤ 1 := iv_eq1 (⟨by decide, by decide⟩ : (1 : Int) ≤ (1 : Int32).toInt ∧ (1 : Int32).toInt ≤ 1) c_13
        refine lv_iconst (v := 1) hx hb dX7_setFacts_54 (by decide) ?_
        refine lv_goto (tgt := 59) hx hb dX7_setFacts_55 (by decide) ?_
        have z_71 : (1 : Int32).toInt = 1 := by decide
        exact hj_19 1 _ _ ls (iv_w (⟨by decide, by decide⟩ : (1 : Int) ≤ (1 : Int32).toInt ∧ (1 : Int32).toInt ≤ 1) (by decide) (by decide)) (by have hw9 : v_1 = ar 28 (kk.toInt.toNat) := (by rw [ev_1]; exact congrArg (ar 28) (show Int32.toNatClampNeg kk = (kk.toInt.toNat) from (show kk.toInt.toNat = (kk.toInt.toNat) from by omega))); have hw8 : v_1.toInt.toNat = ((ar 28 (kk.toInt.toNat)).toInt.toNat) := (by rw [hw9]); have hk9 : v_3 = ar 20 ((ar 28 (kk.toInt.toNat)).toInt.toNat) := (by rw [ev_3]; exact congrArg (ar 20) (show Int32.toNatClampNeg v_1 = ((ar 28 (kk.toInt.toNat)).toInt.toNat) from (show v_1.toInt.toNat = ((ar 28 (kk.toInt.toNat)).toInt.toNat) from by omega))); rw [← hk9, if_pos (by omega)]; decide) hP hS (lv_sub hl [0, 1, 2, 3, 4] rfl)
  · skip
    refine lv_if_ne (tgt := 33) hx hb dX7_setFacts_26 (by decide) (fun c_4 => ?_) (fun c_4 => ?_)
    · skip
      have k_5 : ¬ v_3.toInt = 0 := fun q => c_4 (Int32.toInt_inj.mp q)
      refine lv_iconst (v := 0) hx hb dX7_setFacts_33 (by decide) ?_
      have z_72 : (0 : Int32).toInt = 0 := by decide
      exact hj_10 0 _ _ ls (iv_w (⟨by decide, by decide⟩ : (0 : Int) ≤ (0 : Int32).toInt ∧ (0 : Int32).toInt ≤ 0) (by decide) (by decide)) (by have hw9 : v_1 = ar 28 (kk.toInt.toNat) := (by rw [ev_1]; exact congrArg (ar 28) (show Int32.toNatClampNeg kk = (kk.toInt.toNat) from (show kk.toInt.toNat = (kk.toInt.toNat) from by omega))); have hw8 : v_1.toInt.toNat = ((ar 28 (kk.toInt.toNat)).toInt.toNat) := (by rw [hw9]); have hk9 : v_3 = ar 20 ((ar 28 (kk.toInt.toNat)).toInt.toNat) := (by rw [ev_3]; exact congrArg (ar 20) (show Int32.toNatClampNeg v_1 = ((ar 28 (kk.toInt.toNat)).toInt.toNat) from (show v_1.toInt.toNat = ((ar 28 (kk.toInt.toNat)).toInt.toNat) from by omega))); rw [← hk9, if_neg (by omega)]; decide) hP hS (lv_sub hl [1, 2, 3, 4, 0] rfl)
    · skip
      have i_6 : 0 ≤ v_3.toInt ∧ v_3.toInt ≤ 0 := iv_eq1 (⟨by decide, by decide⟩ : (0 : Int) ≤ (0 : Int32).toInt ∧ (0 : Int32).toInt ≤ 0) c_4
      refine lv_iconst (v := 1) hx hb dX7_setFacts_29 (by decide) ?_
      refine lv_goto (tgt := 34) hx hb dX7_setFacts_30 (by decide) ?_
      have z_73 : (1 : Int32).toInt = 1 := by decide
      exact hj_10 1 _ _ ls (iv_w (⟨by decide, by decide⟩ : (1 : Int) ≤ (1 : Int32).toInt ∧ (1 : Int32).toInt ≤ 1) (by decide) (by decide)) (by have hw9 : v_1 = ar 28 (kk.toInt.toNat) := (by rw [ev_1]; exact congrArg (ar 28) (show Int32.toNatClampNeg kk = (kk.toInt.toNat) from (show kk.toInt.toNat = (kk.toInt.toNat) from by omega))); have hw8 : v_1.toInt.toNat = ((ar 28 (kk.toInt.toNat)).toInt.toNat) := (by rw [hw9]); have hk9 : v_3 = ar 20 ((ar 28 (kk.toInt.toNat)).toInt.toNat) := (by rw [ev_3]; exact congrArg (ar 20) (show Int32.toNatClampNeg v_1 = ((ar 28 (kk.toInt.toNat)).toInt.toNat) from (show v_1.toInt.toNat = ((ar 28 (kk.toInt.toNat)).toInt.toNat) from by omega))); rw [← hk9, if_pos (by omega)]; decide) hP hS (lv_sub hl [1, 2, 3, 4, 0] rfl)
set_option maxHeartbeats 4000000 in
set_option maxRecDepth 100000 in
theorem x_askE (l : Launch) (dC : Nat → ClassId) (dI : Nat → Nat → Nat) (sz : Nat) (ob ad : Nat → Nat) (cA : Nat → ClassId) (hd : dX ob ad) (fv : Nat → Int32) (wd : xT) (ar : Nat → Nat → Int32) (hF_fv : rX fv) (hA_ar : rB ar) (la : Nat) (lfr : Int32) (lra : Nat → Nat) (lrc : Nat → ClassId) (lln lcn : Nat) (llr : Nat → Nat → Int32) (hlq : lwQ lln lcn llr) (kk : Int32) (a : Int32) (b : Int32) (d : Int32) (h_kk : 0 ≤ kk.toInt ∧ kk.toInt ≤ 79) (hgd : ∀ i, i < lln → cd_gd (cd_gX llr i)) (hp_f01 : mx_f01 ar) : Met l yX7_ask (.code yX7_ask cX7_ask 7 (some .int) :: lw_good) ({ frames := 4, cells := 0, slots := 0, locals := 89 }) (va_Pc [.ref (ob 1), .ref la, .int kk, .int a, .int b, .int d] (fun U => prX dC dI ob ad cA fv wd ar sz U ∧ lwA dC dI ob ad la lfr lra lrc lln lcn llr sz U)) (va_Qi (fun (r : Int32) (u : xS) => rX u.1 ∧ rB u.2.2 ∧ fM [6] fv u.1 ∧ fA [4] ar u.2.2 ∧ u.2.1.2 = wd.2 ∧ ((u.1 6).toInt = cd_al (cd_fc (ar 20 ((ar 28 (kk.toInt.toNat)).toInt.toNat)).toInt (ar 23 ((ar 28 (kk.toInt.toNat)).toInt.toNat)).toInt (ar 22 ((ar 28 (kk.toInt.toNat)).toInt.toNat)).toInt (wt_rf (fv 7) (fv 5) (ar 3)) (ar 31 (kk.toInt.toNat)).toInt (fv 7).toInt (ar 29 (kk.toInt.toNat)).toInt (ar 30 (kk.toInt.toNat)).toInt (cd_ri a.toInt b.toInt) d.toInt) a.toInt (decide ((ar 20 ((ar 28 (kk.toInt.toNat)).toInt.toNat)).toInt = 2)) (cd_Wf (cd_gX llr) lln 0)) ∧ (r.toInt = cd_av (cd_fc (ar 20 ((ar 28 (kk.toInt.toNat)).toInt.toNat)).toInt (ar 23 ((ar 28 (kk.toInt.toNat)).toInt.toNat)).toInt (ar 22 ((ar 28 (kk.toInt.toNat)).toInt.toNat)).toInt (wt_rf (fv 7) (fv 5) (ar 3)) (ar 31 (kk.toInt.toNat)).toInt (fv 7).toInt (ar 29 (kk.toInt.toNat)).toInt (ar 30 (kk.toInt.toNat)).toInt (cd_ri a.toInt b.toInt) d.toInt) a.toInt (decide ((ar 20 ((ar 28 (kk.toInt.toNat)).toInt.toNat)).toInt = 2)) (cd_Wf (cd_gX llr) lln 0)) ∧ (mx_f01 u.2.2) ∧ True) (enX dC dI ob ad cA) (aX ob ad sz)) 0 0 (aX ob ad sz) := by
  refine Met.ofW (cc := cX7_ask) (maxL := 7) (ret := (some .int)) (by decide) rfl ?_
  intro p e s m args below meth c s₁ B hml hv
  obtain ⟨rfl, ⟨hsz, hP, hK⟩, hL⟩ := hv
  have hx := B.exec
  have hb := B.bytes
  have hr := B.returns
  have hts := atoms_spec (ws := (.code yX7_ask cX7_ask 7 (some .int) :: lw_good)) B.pre
  have htg : ∀ w ∈ lw_good, w.before _ s = true := fun w hw => hts w (List.mem_cons_of_mem _ hw)
  have hown : s.vm.findClass RX7 = some m.cls := findClass_of_methodNamed B.named
  have hlocks := B.notSynchronized
  subst hsz
  have hS : va_S (aX ob ad s.heap.size) s.heap s.heap [] := va_S.rf
  have hl := lv_entry ([.ref (ob 1), .ref la, .int kk, .int a, .int b, .int d]) (n := 7) (Nat.le_of_ble_eq_true rfl)
  rw [lg_entry_eq]
  generalize (lg_sl ([.ref (ob 1), .ref la, .int kk, .int a, .int b, .int d]) ++ List.replicate (7 - (lg_sl ([.ref (ob 1), .ref la, .int kk, .int a, .int b, .int d])).length) Slot.unset).toArray = ls at hl ⊢
  have hl : lv_has ls 7 [(0, .ref (ob 1)), (1, .ref la), (2, .int kk), (3, .int a), (4, .int b), (5, .int d)] := hl
  refine lv_aload_n hx hb dX7_ask_0 rfl (lv_at hl 0 rfl) ?_
  refine gX_X7_28 hx hb htg hown hK hP dX7_ask_1 ?_
  refine gX_X7_83 hx hb htg hown hK hP dX7_ask_4 ?_
  refine lv_aload_n hx hb dX7_ask_7 rfl (lv_at hl 0 rfl) ?_
  refine gX_X7_35 hx hb htg hown hK hP dX7_ask_8 ?_
  refine gX_X7_86 hx hb htg hown hK hP dX7_ask_11 ?_
  refine lv_iload_n hx hb dX7_ask_14 rfl (lv_at hl 2 rfl) ?_
  refine lX_28 hx hb hK hP (iv_in h_kk (by decide) (by decide)) dX7_ask_15 (fun v_1 ev_1 => ?_)
  have i_2 : 0 ≤ v_1.toInt ∧ v_1.toInt ≤ 19 := ev_1 ▸ hA_ar 28 _
  refine lX_20 hx hb hK hP (iv_in i_2 (by decide) (by decide)) dX7_ask_16 (fun v_3 ev_3 => ?_)
  refine lv_iconst (v := 2) hx hb dX7_ask_17 (by decide) ?_
  refine lv_icmp_ne (tgt := 25) hx hb dX7_ask_18 (by decide) (fun c_4 => ?_) (fun c_4 => ?_)
  · skip
    have k_5 : ¬ v_3.toInt = 2 := fun q => c_4 (Int32.toInt_inj.mp q)
    have htx : (decide ((ar 20 ((ar 28 (kk.toInt.toNat)).toInt.toNat)).toInt = 2)) = false := by have hw9 : v_1 = ar 28 (kk.toInt.toNat) := (by rw [ev_1]; exact congrArg (ar 28) (show Int32.toNatClampNeg kk = (kk.toInt.toNat) from (show kk.toInt.toNat = (kk.toInt.toNat) from by omega))); have hw8 : v_1.toInt.toNat = ((ar 28 (kk.toInt.toNat)).toInt.toNat) := (by rw [hw9]); have hk9 : v_3 = ar 20 ((ar 28 (kk.toInt.toNat)).toInt.toNat) := (by rw [ev_3]; exact congrArg (ar 20) (show Int32.toNatClampNeg v_1 = ((ar 28 (kk.toInt.toNat)).toInt.toNat) from (show v_1.toInt.toNat = ((ar 28 (kk.toInt.toNat)).toInt.toNat) from by omega))); rw [← hk9]; exact decide_eq_false (by omega)
    refine lv_iconst (v := 0) hx hb dX7_ask_25 (by decide) ?_
    refine lv_istore (lv' := [(6, .int 0), (0, .ref (ob 1)), (1, .ref la), (2, .int kk), (3, .int a), (4, .int b), (5, .int d)]) hx hb dX7_ask_26 hl (by decide) rfl (fun ls hl => ?_)
    refine lv_aload_n hx hb dX7_ask_28 rfl (lv_at hl 1 rfl) ?_
    refine lv_iload_n hx hb dX7_ask_29 rfl (lv_at hl 3 rfl) ?_
    refine lv_iload_n hx hb dX7_ask_30 rfl (lv_at hl 4 rfl) ?_
    refine va_calli (va_runS (As := [.int a]) (rest := [.int kk, .ref (ob 1)]) ⟨hx, hb, hml, hown, hts⟩ (x_isAskedEmptyE l s.heap.size a) (va_cwS 1 hts (gS kw_5_22 kw_5_23 kw_1_2 kw_5_24) rfl rfl rfl (by decide +kernel) ⟨Nat.le_of_ble_eq_true rfl, Nat.le_of_ble_eq_true rfl⟩) ⟨fun a U g mk q => ⟨q.1, q.2⟩, fun U hU hW => ⟨rfl, congrArg Array.size hU⟩⟩ rfl rfl hl.1 rfl (lv_room (Nat.le_of_ble_eq_true rfl)) dX7_ask_31 ⟨Nat.le_of_ble_eq_true rfl, Nat.le_of_ble_eq_true rfl⟩) hS (fun q _ h9 => nX_up hS q h9) (nX_up hS) (fun r_6 u t H1 locs ht _ hw hB _ hk1 hS => ?_)
    obtain ⟨p_7, p_8, -⟩ := hw
    have hP := my_keepM hP hk1
    generalize H1 = H at hP hS ⊢
    rcases p_8 with ⟨rfl, p_8⟩ | ⟨rfl, p_8⟩
    · skip
      have q_9 : ¬ (a.toInt = 0 ∨ a.toInt = 2 ∨ a.toInt = 5) := p_8
      refine lv_if_eq (tgt := 41) hx hb dX7_ask_34 (by decide) (fun c_10 => ?_) (fun c_10 => ?_)
      · skip
        refine lv_iload hx hb dX7_ask_41 (lv_at hl 5 rfl) ?_
        refine lv_iload hx hb dX7_ask_43 (lv_at hl 6 rfl) ?_
        have z_11 : 0 ≤ (fv 5).toInt ∧ (fv 5).toInt ≤ 200 := hF_fv 5
        have z_12 : 0 ≤ (fv 7).toInt ∧ (fv 7).toInt ≤ 199 := hF_fv 7
        refine va_callv (va_runV (As := [.int kk, .int b, .int d]) (rest := []) ⟨hx, hb, hml, hown, hts⟩ (x_setFactsE l dC dI H.size ob ad cA hd fv wd ar hF_fv hA_ar kk b d h_kk) (cwV 3 hts (gV kw_5_25 kw_5_27 kw_p_19 kw_1_2 kw_5_28) rfl rfl rfl (by decide +kernel) ⟨Nat.le_of_ble_eq_true rfl, Nat.le_of_ble_eq_true rfl⟩) ⟨fun a U g mk q => ⟨q.1, q.2.1, q.2.2.1, va_K.moved (u := U) (U := U.calling g mk a) (Vm.Alike.refl U.vm) q.2.2.2⟩, va_recv hK hP (ci := 7) (q0 := 1) rfl rfl, fun U hU hW => ⟨rfl, by rw [hU], by rw [hU]; exact hP, va_K.moved hW.alike hK⟩⟩ rfl rfl hl.1 rfl (lv_room (Nat.le_of_ble_eq_true rfl)) dX7_ask_45 ⟨Nat.le_of_ble_eq_true rfl, Nat.le_of_ble_eq_true rfl⟩) hS (fun q _ h9 => aX_up hS q h9) (aX_up hS) (fun u t H1 locs ht _ hw hB _ hk1 hS => ?_)
        obtain ⟨fv_15, wd_16, ar_17⟩ := u
        obtain ⟨hF_fv_15, hA_ar_17, fr_18, fa_19, wf_20, p_14, -⟩ := hw
        have wf_20 : wd_16.2 = wd.2 := wf_20
        have hP : va_P (dC, dI) vwCl (wsX ob ad cA fv_15 wd_16 ar_17) H1 := by have h9 := hB.1; rw [ht] at h9; exact h9
        have fr_18 : fM [] fv fv_15 := fr_18
        have fa_19 : fA [4] ar ar_17 := fa_19
        have p_14 : cd_f (ar_17 4) = (cd_fc (ar 20 ((ar 28 (kk.toInt.toNat)).toInt.toNat)).toInt (ar 23 ((ar 28 (kk.toInt.toNat)).toInt.toNat)).toInt (ar 22 ((ar 28 (kk.toInt.toNat)).toInt.toNat)).toInt (wt_rf (fv 7) (fv 5) (ar 3)) (ar 31 (kk.toInt.toNat)).toInt (fv 7).toInt (ar 29 (kk.toInt.toNat)).toInt (ar 30 (kk.toInt.toNat)).toInt b.toInt d.toInt) := p_14
        generalize H1 = H at hP hS ⊢
        have sf_21 : cd_f (ar_17 4) = (cd_fc (ar 20 ((ar 28 (kk.toInt.toNat)).toInt.toNat)).toInt (ar 23 ((ar 28 (kk.toInt.toNat)).toInt.toNat)).toInt (ar 22 ((ar 28 (kk.toInt.toNat)).toInt.toNat)).toInt (wt_rf (fv 7) (fv 5) (ar 3)) (ar 31 (kk.toInt.toNat)).toInt (fv 7).toInt (ar 29 (kk.toInt.toNat)).toInt (ar 30 (kk.toInt.toNat)).toInt (cd_ri a.toInt b.toInt) d.toInt) := by have hri : (b).toInt = cd_ri a.toInt b.toInt := (by unfold cd_ri; rw [if_neg q_9]); have h9 := p_14; rw [hri] at h9; exact h9
        have hp_22 : mx_f01 ar_17 := by intro k9 h9; rw [sf_21]; exact cd_fc01 k9 h9
        refine lv_aload_n hx hb dX7_ask_48 rfl (lv_at hl 1 rfl) ?_
        refine lv_iload_n hx hb dX7_ask_49 rfl (lv_at hl 4 rfl) ?_
        refine lv_iconst (v := 5) hx hb dX7_ask_50 (by decide) ?_
        refine lv_icmp_ne (tgt := 63) hx hb dX7_ask_51 (by decide) (fun c_23 => ?_) (fun c_23 => ?_)
        · skip
          have k_24 : ¬ a.toInt = 5 := fun q => c_23 (Int32.toInt_inj.mp q)
          refine lv_aload_n hx hb dX7_ask_63 rfl (lv_at hl 2 rfl) ?_
          refine lv_iload_n hx hb dX7_ask_64 rfl (lv_at hl 4 rfl) ?_
          refine lv_aload_n hx hb dX7_ask_65 rfl (lv_at hl 1 rfl) ?_
          refine gX_X7_62 hx hb htg hown hK hP dX7_ask_66 ?_
          refine va_calli (va_runV (As := [.int a, .ref (ad 4)]) (rest := [.ref (ob 1)]) ⟨hx, hb, hml, hown, hts⟩ (x_lineForE l dC dI H.size ob ad cA hd fv_15 wd_16 ar_17 hF_fv_15 hA_ar_17 la lfr lra lrc lln lcn llr hlq a hgd (by rw [sf_21]; exact cd_fc01)) (cwV 2 hts (gV kw_5_30 kw_5_31 kw_5_32 kw_1_10 kw_5_33) rfl rfl rfl (by decide +kernel) ⟨Nat.le_of_ble_eq_true rfl, Nat.le_of_ble_eq_true rfl⟩) ⟨fun a U g mk q => ⟨q.1, ⟨q.2.1.1, q.2.1.2.1, va_K.moved (u := U) (U := U.calling g mk a) (Vm.Alike.refl U.vm) q.2.1.2.2⟩, ⟨q.2.2.1, va_K.moved (u := U) (U := U.calling g mk a) (Vm.Alike.refl U.vm) q.2.2.2.1, q.2.2.2.2⟩⟩, va_recv (lw_K hL) (lw_now hL hS) (ci := 1) (q0 := 0) rfl rfl, fun U hU hW => ⟨rfl, ⟨by rw [hU], by rw [hU]; exact hP, va_K.moved hW.alike hK⟩, lw_pass hL hS hU hW.alike⟩⟩ rfl rfl hl.1 rfl (lv_room (Nat.le_of_ble_eq_true rfl)) dX7_ask_69 ⟨Nat.le_of_ble_eq_true rfl, Nat.le_of_ble_eq_true rfl⟩) hS (fun q _ h9 => aX_up hS q h9) (aX_up hS) (fun r_25 u t H1 locs ht _ hw hB _ hk1 hS => ?_)
          obtain ⟨fv_29, wd_30, ar_31⟩ := u
          obtain ⟨hF_fv_29, hA_ar_31, fr_32, fa_33, wf_34, p_26, p_27, p_28, -⟩ := hw
          have wf_34 : wd_30.2 = wd_16.2 := wf_34
          have hP : va_P (dC, dI) vwCl (wsX ob ad cA fv_29 wd_30 ar_31) H1 := by have h9 := hB.1; rw [ht] at h9; exact h9
          have fr_32 : fM [] fv_15 fv_29 := fr_32
          have fa_33 : fA [] ar_17 ar_31 := fa_33
          have p_27 : r_25.toInt < lln := p_27
          have p_28 : r_25.toInt = cd_fi (cd_f (ar_17 4)) a.toInt (cd_Wf (cd_gX llr) lln 0) 0 := p_28
          generalize H1 = H at hP hS ⊢
          have lf_35 : r_25.toInt = cd_fi (cd_fc (ar 20 ((ar 28 (kk.toInt.toNat)).toInt.toNat)).toInt (ar 23 ((ar 28 (kk.toInt.toNat)).toInt.toNat)).toInt (ar 22 ((ar 28 (kk.toInt.toNat)).toInt.toNat)).toInt (wt_rf (fv 7) (fv 5) (ar 3)) (ar 31 (kk.toInt.toNat)).toInt (fv 7).toInt (ar 29 (kk.toInt.toNat)).toInt (ar 30 (kk.toInt.toNat)).toInt (cd_ri a.toInt b.toInt) d.toInt) a.toInt (cd_Wf (cd_gX llr) lln 0) 0 := by have h9 := p_28; rw [sf_21] at h9; exact h9
          refine pX_X7_137 hx hb htg hown hK hP hS hd dX7_ask_72 (fun H locs fv_36 efv_36 hP hS => ?_)
          have hF_fv_36 : rX fv_36 := rX_put hF_fv_29 efv_36 (iv_any _)
          refine lv_aload_n hx hb dX7_ask_75 rfl (lv_at hl 1 rfl) ?_
          refine gX_X7_137 hx hb htg hown hK hP dX7_ask_76 ?_
          refine my_ti (y := r_25) ((congrFun efv_36 6)) ?_
          refine lv_iconst (v := (-1)) hx hb dX7_ask_79 (by decide) ?_
          refine lv_icmp_ne (tgt := 92) hx hb dX7_ask_80 (by decide) (fun c_37 => ?_) (fun c_37 => ?_)
          · skip
            have i_38 : 0 ≤ r_25.toInt ∧ r_25.toInt ≤ 15 := iv_nel p_26 (by decide) c_37
            have k_39 : ¬ r_25.toInt = (-1) := fun q => c_37 (Int32.toInt_inj.mp q)
            refine lv_aload_n hx hb dX7_ask_92 rfl (lv_at hl 2 rfl) ?_
            refine gL_X7_144 hx hb htg hown (lw_K hL) (lw_now hL hS) dX7_ask_93 ?_
            refine lv_aload_n hx hb dX7_ask_96 rfl (lv_at hl 1 rfl) ?_
            refine gX_X7_137 hx hb htg hown hK hP dX7_ask_97 ?_
            refine my_ti (y := r_25) ((congrFun efv_36 6)) ?_
            refine lL_2 hx hb (lw_K hL) (lw_now hL hS) (vp_in_iff.mpr (by omega)) dX7_ask_100 (fun v_40 ev_40 => ?_)
            exact W.iret (v := v_40) hx hb hr (fun t ht hW => ⟨⟨v_40, (fv_36, wd_30, ar_31), rfl, ⟨hF_fv_36, hA_ar_31, (fM_put (fM_call (fM_call (fM_rf [6] _) fr_18 (by decide)) fr_32 (by decide)) efv_36 (by decide)), (fA_call (fA_call (fA_rf [4] _) fa_19 (by decide)) fa_33 (by decide)), (wf_34.trans wf_20), (show (fv_36 6).toInt = cd_al (cd_fc (ar 20 ((ar 28 (kk.toInt.toNat)).toInt.toNat)).toInt (ar 23 ((ar 28 (kk.toInt.toNat)).toInt.toNat)).toInt (ar 22 ((ar 28 (kk.toInt.toNat)).toInt.toNat)).toInt (wt_rf (fv 7) (fv 5) (ar 3)) (ar 31 (kk.toInt.toNat)).toInt (fv 7).toInt (ar 29 (kk.toInt.toNat)).toInt (ar 30 (kk.toInt.toNat)).toInt (cd_ri a.toInt b.toInt) d.toInt) a.toInt (decide ((ar 20 ((ar 28 (kk.toInt.toNat)).toInt.toNat)).toInt = 2)) (cd_Wf (cd_gX llr) lln 0) from by have hal : cd_al (cd_fc (ar 20 ((ar 28 (kk.toInt.toNat)).toInt.toNat)).toInt (ar 23 ((ar 28 (kk.toInt.toNat)).toInt.toNat)).toInt (ar 22 ((ar 28 (kk.toInt.toNat)).toInt.toNat)).toInt (wt_rf (fv 7) (fv 5) (ar 3)) (ar 31 (kk.toInt.toNat)).toInt (fv 7).toInt (ar 29 (kk.toInt.toNat)).toInt (ar 30 (kk.toInt.toNat)).toInt (cd_ri a.toInt b.toInt) d.toInt) a.toInt (decide ((ar 20 ((ar 28 (kk.toInt.toNat)).toInt.toNat)).toInt = 2)) (cd_Wf (cd_gX llr) lln 0) = r_25.toInt := (by unfold cd_al; rw [if_neg (fun w => by rw [htx] at w; exact absurd w.2 (by decide))]; exact (lf_35).symm); rw [hal, show fv_36 6 = r_25 from (congrFun efv_36 6)]), (show v_40.toInt = cd_av (cd_fc (ar 20 ((ar 28 (kk.toInt.toNat)).toInt.toNat)).toInt (ar 23 ((ar 28 (kk.toInt.toNat)).toInt.toNat)).toInt (ar 22 ((ar 28 (kk.toInt.toNat)).toInt.toNat)).toInt (wt_rf (fv 7) (fv 5) (ar 3)) (ar 31 (kk.toInt.toNat)).toInt (fv 7).toInt (ar 29 (kk.toInt.toNat)).toInt (ar 30 (kk.toInt.toNat)).toInt (cd_ri a.toInt b.toInt) d.toInt) a.toInt (decide ((ar 20 ((ar 28 (kk.toInt.toNat)).toInt.toNat)).toInt = 2)) (cd_Wf (cd_gX llr) lln 0) from by have hal : cd_al (cd_fc (ar 20 ((ar 28 (kk.toInt.toNat)).toInt.toNat)).toInt (ar 23 ((ar 28 (kk.toInt.toNat)).toInt.toNat)).toInt (ar 22 ((ar 28 (kk.toInt.toNat)).toInt.toNat)).toInt (wt_rf (fv 7) (fv 5) (ar 3)) (ar 31 (kk.toInt.toNat)).toInt (fv 7).toInt (ar 29 (kk.toInt.toNat)).toInt (ar 30 (kk.toInt.toNat)).toInt (cd_ri a.toInt b.toInt) d.toInt) a.toInt (decide ((ar 20 ((ar 28 (kk.toInt.toNat)).toInt.toNat)).toInt = 2)) (cd_Wf (cd_gX llr) lln 0) = r_25.toInt := (by unfold cd_al; rw [if_neg (fun w => by rw [htx] at w; exact absurd w.2 (by decide))]; exact (lf_35).symm); have hv9 : llr 2 (r_25.toInt.toNat) = v_40 := ev_40.symm; unfold cd_av; rw [if_neg (by rw [hal]; omega)]; rcases cd_fi_val (f := (cd_fc (ar 20 ((ar 28 (kk.toInt.toNat)).toInt.toNat)).toInt (ar 23 ((ar 28 (kk.toInt.toNat)).toInt.toNat)).toInt (ar 22 ((ar 28 (kk.toInt.toNat)).toInt.toNat)).toInt (wt_rf (fv 7) (fv 5) (ar 3)) (ar 31 (kk.toInt.toNat)).toInt (fv 7).toInt (ar 29 (kk.toInt.toNat)).toInt (ar 30 (kk.toInt.toNat)).toInt (cd_ri a.toInt b.toInt) d.toInt)) (k := a.toInt) (g := cd_gX llr) lln 0 with h9 | ⟨j9, h1, h2, h3, h4⟩; exfalso; omega; rw [← h4, show j9 = r_25.toInt.toNat from by omega]; show _ = (llr 2 (r_25.toInt.toNat)).toInt; rw [hv9]), (mx_f01_fr hp_22 (fA_call (fA_rf [] _) fa_33 (by decide)) rfl), trivial⟩, ⟨by rw [ht]; exact hP, va_K.moved hW.alike hK⟩⟩, hS.F ht⟩) hS.2.2 dX7_ask_101
          · skip
            have i_41 : (-1) ≤ r_25.toInt ∧ r_25.toInt ≤ (-1) := iv_eq1 (⟨by decide, by decide⟩ : (-1 : Int) ≤ ((-1) : Int32).toInt ∧ ((-1) : Int32).toInt ≤ -1) c_37
            refine lv_iload hx hb dX7_ask_83 (lv_at hl 0 rfl) ?_
            refine lv_iload_n hx hb dX7_ask_85 rfl (lv_at hl 4 rfl) ?_
            refine va_calli (va_runS (As := [.int 0, .int a]) (rest := []) ⟨hx, hb, hml, hown, hts⟩ (x_plainValueE l H.size 0 a (iv_w (⟨by decide, by decide⟩ : (0 : Int) ≤ (0 : Int32).toInt ∧ (0 : Int32).toInt ≤ 0) (by decide) (by decide))) (va_cwS 2 hts (gS kw_5_38 kw_5_39 kw_1_2 kw_5_40) rfl rfl rfl (by decide +kernel) ⟨Nat.le_of_ble_eq_true rfl, Nat.le_of_ble_eq_true rfl⟩) ⟨fun a U g mk q => ⟨q.1, q.2⟩, fun U hU hW => ⟨rfl, congrArg Array.size hU⟩⟩ rfl rfl hl.1 rfl (lv_room (Nat.le_of_ble_eq_true rfl)) dX7_ask_86 ⟨Nat.le_of_ble_eq_true rfl, Nat.le_of_ble_eq_true rfl⟩) hS (fun q _ h9 => nX_up hS q h9) (nX_up hS) (fun r_43 u t H1 locs ht _ hw hB _ hk1 hS => ?_)
            obtain ⟨p_44, -⟩ := hw
            have hP := my_keepM hP hk1
            generalize H1 = H at hP hS ⊢
            refine lv_goto (tgt := 101) hx hb dX7_ask_89 (by decide) ?_
            exact W.iret (v := r_43) hx hb hr (fun t ht hW => ⟨⟨r_43, (fv_36, wd_30, ar_31), rfl, ⟨hF_fv_36, hA_ar_31, (fM_put (fM_call (fM_call (fM_rf [6] _) fr_18 (by decide)) fr_32 (by decide)) efv_36 (by decide)), (fA_call (fA_call (fA_rf [4] _) fa_19 (by decide)) fa_33 (by decide)), (wf_34.trans wf_20), (show (fv_36 6).toInt = cd_al (cd_fc (ar 20 ((ar 28 (kk.toInt.toNat)).toInt.toNat)).toInt (ar 23 ((ar 28 (kk.toInt.toNat)).toInt.toNat)).toInt (ar 22 ((ar 28 (kk.toInt.toNat)).toInt.toNat)).toInt (wt_rf (fv 7) (fv 5) (ar 3)) (ar 31 (kk.toInt.toNat)).toInt (fv 7).toInt (ar 29 (kk.toInt.toNat)).toInt (ar 30 (kk.toInt.toNat)).toInt (cd_ri a.toInt b.toInt) d.toInt) a.toInt (decide ((ar 20 ((ar 28 (kk.toInt.toNat)).toInt.toNat)).toInt = 2)) (cd_Wf (cd_gX llr) lln 0) from by have hal : cd_al (cd_fc (ar 20 ((ar 28 (kk.toInt.toNat)).toInt.toNat)).toInt (ar 23 ((ar 28 (kk.toInt.toNat)).toInt.toNat)).toInt (ar 22 ((ar 28 (kk.toInt.toNat)).toInt.toNat)).toInt (wt_rf (fv 7) (fv 5) (ar 3)) (ar 31 (kk.toInt.toNat)).toInt (fv 7).toInt (ar 29 (kk.toInt.toNat)).toInt (ar 30 (kk.toInt.toNat)).toInt (cd_ri a.toInt b.toInt) d.toInt) a.toInt (decide ((ar 20 ((ar 28 (kk.toInt.toNat)).toInt.toNat)).toInt = 2)) (cd_Wf (cd_gX llr) lln 0) = r_25.toInt := (by unfold cd_al; rw [if_neg (fun w => by rw [htx] at w; exact absurd w.2 (by decide))]; exact (lf_35).symm); rw [hal, show fv_36 6 = r_25 from (congrFun efv_36 6)]), (show r_43.toInt = cd_av (cd_fc (ar 20 ((ar 28 (kk.toInt.toNat)).toInt.toNat)).toInt (ar 23 ((ar 28 (kk.toInt.toNat)).toInt.toNat)).toInt (ar 22 ((ar 28 (kk.toInt.toNat)).toInt.toNat)).toInt (wt_rf (fv 7) (fv 5) (ar 3)) (ar 31 (kk.toInt.toNat)).toInt (fv 7).toInt (ar 29 (kk.toInt.toNat)).toInt (ar 30 (kk.toInt.toNat)).toInt (cd_ri a.toInt b.toInt) d.toInt) a.toInt (decide ((ar 20 ((ar 28 (kk.toInt.toNat)).toInt.toNat)).toInt = 2)) (cd_Wf (cd_gX llr) lln 0) from by have hal : cd_al (cd_fc (ar 20 ((ar 28 (kk.toInt.toNat)).toInt.toNat)).toInt (ar 23 ((ar 28 (kk.toInt.toNat)).toInt.toNat)).toInt (ar 22 ((ar 28 (kk.toInt.toNat)).toInt.toNat)).toInt (wt_rf (fv 7) (fv 5) (ar 3)) (ar 31 (kk.toInt.toNat)).toInt (fv 7).toInt (ar 29 (kk.toInt.toNat)).toInt (ar 30 (kk.toInt.toNat)).toInt (cd_ri a.toInt b.toInt) d.toInt) a.toInt (decide ((ar 20 ((ar 28 (kk.toInt.toNat)).toInt.toNat)).toInt = 2)) (cd_Wf (cd_gX llr) lln 0) = r_25.toInt := (by unfold cd_al; rw [if_neg (fun w => by rw [htx] at w; exact absurd w.2 (by decide))]; exact (lf_35).symm); have hm1 : ((-1) : Int32).toInt = -1 := (by decide); unfold cd_av; rw [if_pos (by rw [hal]; omega), p_44, htx]; rfl), (mx_f01_fr hp_22 (fA_call (fA_rf [] _) fa_33 (by decide)) rfl), trivial⟩, ⟨by rw [ht]; exact hP, va_K.moved hW.alike hK⟩⟩, hS.F ht⟩) hS.2.2 dX7_ask_101
        · skip
          have i_45 : 5 ≤ a.toInt ∧ a.toInt ≤ 5 := iv_eq1 (⟨by decide, by decide⟩ : (5 : Int) ≤ (5 : Int32).toInt ∧ (5 : Int32).toInt ≤ 5) c_23
          refine lv_iload hx hb dX7_ask_54 (lv_at hl 0 rfl) ?_
          refine lv_if_eq (tgt := 63) hx hb dX7_ask_56 (by decide) (fun c_47 => ?_) (fun c_47 => ?_)
          · skip
            refine lv_aload_n hx hb dX7_ask_63 rfl (lv_at hl 2 rfl) ?_
            refine lv_iload_n hx hb dX7_ask_64 rfl (lv_at hl 4 rfl) ?_
            refine lv_aload_n hx hb dX7_ask_65 rfl (lv_at hl 1 rfl) ?_
            refine gX_X7_62 hx hb htg hown hK hP dX7_ask_66 ?_
            refine va_calli (va_runV (As := [.int a, .ref (ad 4)]) (rest := [.ref (ob 1)]) ⟨hx, hb, hml, hown, hts⟩ (x_lineForE l dC dI H.size ob ad cA hd fv_15 wd_16 ar_17 hF_fv_15 hA_ar_17 la lfr lra lrc lln lcn llr hlq a hgd (by rw [sf_21]; exact cd_fc01)) (cwV 2 hts (gV kw_5_30 kw_5_31 kw_5_32 kw_1_10 kw_5_33) rfl rfl rfl (by decide +kernel) ⟨Nat.le_of_ble_eq_true rfl, Nat.le_of_ble_eq_true rfl⟩) ⟨fun a U g mk q => ⟨q.1, ⟨q.2.1.1, q.2.1.2.1, va_K.moved (u := U) (U := U.calling g mk a) (Vm.Alike.refl U.vm) q.2.1.2.2⟩, ⟨q.2.2.1, va_K.moved (u := U) (U := U.calling g mk a) (Vm.Alike.refl U.vm) q.2.2.2.1, q.2.2.2.2⟩⟩, va_recv (lw_K hL) (lw_now hL hS) (ci := 1) (q0 := 0) rfl rfl, fun U hU hW => ⟨rfl, ⟨by rw [hU], by rw [hU]; exact hP, va_K.moved hW.alike hK⟩, lw_pass hL hS hU hW.alike⟩⟩ rfl rfl hl.1 rfl (lv_room (Nat.le_of_ble_eq_true rfl)) dX7_ask_69 ⟨Nat.le_of_ble_eq_true rfl, Nat.le_of_ble_eq_true rfl⟩) hS (fun q _ h9 => aX_up hS q h9) (aX_up hS) (fun r_48 u t H1 locs ht _ hw hB _ hk1 hS => ?_)
            obtain ⟨fv_52, wd_53, ar_54⟩ := u
            obtain ⟨hF_fv_52, hA_ar_54, fr_55, fa_56, wf_57, p_49, p_50, p_51, -⟩ := hw
            have wf_57 : wd_53.2 = wd_16.2 := wf_57
            have hP : va_P (dC, dI) vwCl (wsX ob ad cA fv_52 wd_53 ar_54) H1 := by have h9 := hB.1; rw [ht] at h9; exact h9
            have fr_55 : fM [] fv_15 fv_52 := fr_55
            have fa_56 : fA [] ar_17 ar_54 := fa_56
            have p_50 : r_48.toInt < lln := p_50
            have p_51 : r_48.toInt = cd_fi (cd_f (ar_17 4)) a.toInt (cd_Wf (cd_gX llr) lln 0) 0 := p_51
            generalize H1 = H at hP hS ⊢
            have lf_58 : r_48.toInt = cd_fi (cd_fc (ar 20 ((ar 28 (kk.toInt.toNat)).toInt.toNat)).toInt (ar 23 ((ar 28 (kk.toInt.toNat)).toInt.toNat)).toInt (ar 22 ((ar 28 (kk.toInt.toNat)).toInt.toNat)).toInt (wt_rf (fv 7) (fv 5) (ar 3)) (ar 31 (kk.toInt.toNat)).toInt (fv 7).toInt (ar 29 (kk.toInt.toNat)).toInt (ar 30 (kk.toInt.toNat)).toInt (cd_ri a.toInt b.toInt) d.toInt) a.toInt (cd_Wf (cd_gX llr) lln 0) 0 := by have h9 := p_51; rw [sf_21] at h9; exact h9
            refine pX_X7_137 hx hb htg hown hK hP hS hd dX7_ask_72 (fun H locs fv_59 efv_59 hP hS => ?_)
            have hF_fv_59 : rX fv_59 := rX_put hF_fv_52 efv_59 (iv_any _)
            refine lv_aload_n hx hb dX7_ask_75 rfl (lv_at hl 1 rfl) ?_
            refine gX_X7_137 hx hb htg hown hK hP dX7_ask_76 ?_
            refine my_ti (y := r_48) ((congrFun efv_59 6)) ?_
            refine lv_iconst (v := (-1)) hx hb dX7_ask_79 (by decide) ?_
            refine lv_icmp_ne (tgt := 92) hx hb dX7_ask_80 (by decide) (fun c_60 => ?_) (fun c_60 => ?_)
            · skip
              have i_61 : 0 ≤ r_48.toInt ∧ r_48.toInt ≤ 15 := iv_nel p_49 (by decide) c_60
              have k_62 : ¬ r_48.toInt = (-1) := fun q => c_60 (Int32.toInt_inj.mp q)
              refine lv_aload_n hx hb dX7_ask_92 rfl (lv_at hl 2 rfl) ?_
              refine gL_X7_144 hx hb htg hown (lw_K hL) (lw_now hL hS) dX7_ask_93 ?_
              refine lv_aload_n hx hb dX7_ask_96 rfl (lv_at hl 1 rfl) ?_
              refine gX_X7_137 hx hb htg hown hK hP dX7_ask_97 ?_
              refine my_ti (y := r_48) ((congrFun efv_59 6)) ?_
              refine lL_2 hx hb (lw_K hL) (lw_now hL hS) (vp_in_iff.mpr (by omega)) dX7_ask_100 (fun v_63 ev_63 => ?_)
              exact W.iret (v := v_63) hx hb hr (fun t ht hW => ⟨⟨v_63, (fv_59, wd_53, ar_54), rfl, ⟨hF_fv_59, hA_ar_54, (fM_put (fM_call (fM_call (fM_rf [6] _) fr_18 (by decide)) fr_55 (by decide)) efv_59 (by decide)), (fA_call (fA_call (fA_rf [4] _) fa_19 (by decide)) fa_56 (by decide)), (wf_57.trans wf_20), (show (fv_59 6).toInt = cd_al (cd_fc (ar 20 ((ar 28 (kk.toInt.toNat)).toInt.toNat)).toInt (ar 23 ((ar 28 (kk.toInt.toNat)).toInt.toNat)).toInt (ar 22 ((ar 28 (kk.toInt.toNat)).toInt.toNat)).toInt (wt_rf (fv 7) (fv 5) (ar 3)) (ar 31 (kk.toInt.toNat)).toInt (fv 7).toInt (ar 29 (kk.toInt.toNat)).toInt (ar 30 (kk.toInt.toNat)).toInt (cd_ri a.toInt b.toInt) d.toInt) a.toInt (decide ((ar 20 ((ar 28 (kk.toInt.toNat)).toInt.toNat)).toInt = 2)) (cd_Wf (cd_gX llr) lln 0) from by have hal : cd_al (cd_fc (ar 20 ((ar 28 (kk.toInt.toNat)).toInt.toNat)).toInt (ar 23 ((ar 28 (kk.toInt.toNat)).toInt.toNat)).toInt (ar 22 ((ar 28 (kk.toInt.toNat)).toInt.toNat)).toInt (wt_rf (fv 7) (fv 5) (ar 3)) (ar 31 (kk.toInt.toNat)).toInt (fv 7).toInt (ar 29 (kk.toInt.toNat)).toInt (ar 30 (kk.toInt.toNat)).toInt (cd_ri a.toInt b.toInt) d.toInt) a.toInt (decide ((ar 20 ((ar 28 (kk.toInt.toNat)).toInt.toNat)).toInt = 2)) (cd_Wf (cd_gX llr) lln 0) = r_48.toInt := (by unfold cd_al; rw [if_neg (fun w => by rw [htx] at w; exact absurd w.2 (by decide))]; exact (lf_58).symm); rw [hal, show fv_59 6 = r_48 from (congrFun efv_59 6)]), (show v_63.toInt = cd_av (cd_fc (ar 20 ((ar 28 (kk.toInt.toNat)).toInt.toNat)).toInt (ar 23 ((ar 28 (kk.toInt.toNat)).toInt.toNat)).toInt (ar 22 ((ar 28 (kk.toInt.toNat)).toInt.toNat)).toInt (wt_rf (fv 7) (fv 5) (ar 3)) (ar 31 (kk.toInt.toNat)).toInt (fv 7).toInt (ar 29 (kk.toInt.toNat)).toInt (ar 30 (kk.toInt.toNat)).toInt (cd_ri a.toInt b.toInt) d.toInt) a.toInt (decide ((ar 20 ((ar 28 (kk.toInt.toNat)).toInt.toNat)).toInt = 2)) (cd_Wf (cd_gX llr) lln 0) from by have hal : cd_al (cd_fc (ar 20 ((ar 28 (kk.toInt.toNat)).toInt.toNat)).toInt (ar 23 ((ar 28 (kk.toInt.toNat)).toInt.toNat)).toInt (ar 22 ((ar 28 (kk.toInt.toNat)).toInt.toNat)).toInt (wt_rf (fv 7) (fv 5) (ar 3)) (ar 31 (kk.toInt.toNat)).toInt (fv 7).toInt (ar 29 (kk.toInt.toNat)).toInt (ar 30 (kk.toInt.toNat)).toInt (cd_ri a.toInt b.toInt) d.toInt) a.toInt (decide ((ar 20 ((ar 28 (kk.toInt.toNat)).toInt.toNat)).toInt = 2)) (cd_Wf (cd_gX llr) lln 0) = r_48.toInt := (by unfold cd_al; rw [if_neg (fun w => by rw [htx] at w; exact absurd w.2 (by decide))]; exact (lf_58).symm); have hv9 : llr 2 (r_48.toInt.toNat) = v_63 := ev_63.symm; unfold cd_av; rw [if_neg (by rw [hal]; omega)]; rcases cd_fi_val (f := (cd_fc (ar 20 ((ar 28 (kk.toInt.toNat)).toInt.toNat)).toInt (ar 23 ((ar 28 (kk.toInt.toNat)).toInt.toNat)).toInt (ar 22 ((ar 28 (kk.toInt.toNat)).toInt.toNat)).toInt (wt_rf (fv 7) (fv 5) (ar 3)) (ar 31 (kk.toInt.toNat)).toInt (fv 7).toInt (ar 29 (kk.toInt.toNat)).toInt (ar 30 (kk.toInt.toNat)).toInt (cd_ri a.toInt b.toInt) d.toInt)) (k := a.toInt) (g := cd_gX llr) lln 0 with h9 | ⟨j9, h1, h2, h3, h4⟩; exfalso; omega; rw [← h4, show j9 = r_48.toInt.toNat from by omega]; show _ = (llr 2 (r_48.toInt.toNat)).toInt; rw [hv9]), (mx_f01_fr hp_22 (fA_call (fA_rf [] _) fa_56 (by decide)) rfl), trivial⟩, ⟨by rw [ht]; exact hP, va_K.moved hW.alike hK⟩⟩, hS.F ht⟩) hS.2.2 dX7_ask_101
            · skip
              have i_64 : (-1) ≤ r_48.toInt ∧ r_48.toInt ≤ (-1) := iv_eq1 (⟨by decide, by decide⟩ : (-1 : Int) ≤ ((-1) : Int32).toInt ∧ ((-1) : Int32).toInt ≤ -1) c_60
              refine lv_iload hx hb dX7_ask_83 (lv_at hl 0 rfl) ?_
              refine lv_iload_n hx hb dX7_ask_85 rfl (lv_at hl 4 rfl) ?_
              refine va_calli (va_runS (As := [.int 0, .int a]) (rest := []) ⟨hx, hb, hml, hown, hts⟩ (x_plainValueE l H.size 0 a (iv_w (⟨by decide, by decide⟩ : (0 : Int) ≤ (0 : Int32).toInt ∧ (0 : Int32).toInt ≤ 0) (by decide) (by decide))) (va_cwS 2 hts (gS kw_5_38 kw_5_39 kw_1_2 kw_5_40) rfl rfl rfl (by decide +kernel) ⟨Nat.le_of_ble_eq_true rfl, Nat.le_of_ble_eq_true rfl⟩) ⟨fun a U g mk q => ⟨q.1, q.2⟩, fun U hU hW => ⟨rfl, congrArg Array.size hU⟩⟩ rfl rfl hl.1 rfl (lv_room (Nat.le_of_ble_eq_true rfl)) dX7_ask_86 ⟨Nat.le_of_ble_eq_true rfl, Nat.le_of_ble_eq_true rfl⟩) hS (fun q _ h9 => nX_up hS q h9) (nX_up hS) (fun r_66 u t H1 locs ht _ hw hB _ hk1 hS => ?_)
              obtain ⟨p_67, -⟩ := hw
              have hP := my_keepM hP hk1
              generalize H1 = H at hP hS ⊢
              refine lv_goto (tgt := 101) hx hb dX7_ask_89 (by decide) ?_
              exact W.iret (v := r_66) hx hb hr (fun t ht hW => ⟨⟨r_66, (fv_59, wd_53, ar_54), rfl, ⟨hF_fv_59, hA_ar_54, (fM_put (fM_call (fM_call (fM_rf [6] _) fr_18 (by decide)) fr_55 (by decide)) efv_59 (by decide)), (fA_call (fA_call (fA_rf [4] _) fa_19 (by decide)) fa_56 (by decide)), (wf_57.trans wf_20), (show (fv_59 6).toInt = cd_al (cd_fc (ar 20 ((ar 28 (kk.toInt.toNat)).toInt.toNat)).toInt (ar 23 ((ar 28 (kk.toInt.toNat)).toInt.toNat)).toInt (ar 22 ((ar 28 (kk.toInt.toNat)).toInt.toNat)).toInt (wt_rf (fv 7) (fv 5) (ar 3)) (ar 31 (kk.toInt.toNat)).toInt (fv 7).toInt (ar 29 (kk.toInt.toNat)).toInt (ar 30 (kk.toInt.toNat)).toInt (cd_ri a.toInt b.toInt) d.toInt) a.toInt (decide ((ar 20 ((ar 28 (kk.toInt.toNat)).toInt.toNat)).toInt = 2)) (cd_Wf (cd_gX llr) lln 0) from by have hal : cd_al (cd_fc (ar 20 ((ar 28 (kk.toInt.toNat)).toInt.toNat)).toInt (ar 23 ((ar 28 (kk.toInt.toNat)).toInt.toNat)).toInt (ar 22 ((ar 28 (kk.toInt.toNat)).toInt.toNat)).toInt (wt_rf (fv 7) (fv 5) (ar 3)) (ar 31 (kk.toInt.toNat)).toInt (fv 7).toInt (ar 29 (kk.toInt.toNat)).toInt (ar 30 (kk.toInt.toNat)).toInt (cd_ri a.toInt b.toInt) d.toInt) a.toInt (decide ((ar 20 ((ar 28 (kk.toInt.toNat)).toInt.toNat)).toInt = 2)) (cd_Wf (cd_gX llr) lln 0) = r_48.toInt := (by unfold cd_al; rw [if_neg (fun w => by rw [htx] at w; exact absurd w.2 (by decide))]; exact (lf_58).symm); rw [hal, show fv_59 6 = r_48 from (congrFun efv_59 6)]), (show r_66.toInt = cd_av (cd_fc (ar 20 ((ar 28 (kk.toInt.toNat)).toInt.toNat)).toInt (ar 23 ((ar 28 (kk.toInt.toNat)).toInt.toNat)).toInt (ar 22 ((ar 28 (kk.toInt.toNat)).toInt.toNat)).toInt (wt_rf (fv 7) (fv 5) (ar 3)) (ar 31 (kk.toInt.toNat)).toInt (fv 7).toInt (ar 29 (kk.toInt.toNat)).toInt (ar 30 (kk.toInt.toNat)).toInt (cd_ri a.toInt b.toInt) d.toInt) a.toInt (decide ((ar 20 ((ar 28 (kk.toInt.toNat)).toInt.toNat)).toInt = 2)) (cd_Wf (cd_gX llr) lln 0) from by have hal : cd_al (cd_fc (ar 20 ((ar 28 (kk.toInt.toNat)).toInt.toNat)).toInt (ar 23 ((ar 28 (kk.toInt.toNat)).toInt.toNat)).toInt (ar 22 ((ar 28 (kk.toInt.toNat)).toInt.toNat)).toInt (wt_rf (fv 7) (fv 5) (ar 3)) (ar 31 (kk.toInt.toNat)).toInt (fv 7).toInt (ar 29 (kk.toInt.toNat)).toInt (ar 30 (kk.toInt.toNat)).toInt (cd_ri a.toInt b.toInt) d.toInt) a.toInt (decide ((ar 20 ((ar 28 (kk.toInt.toNat)).toInt.toNat)).toInt = 2)) (cd_Wf (cd_gX llr) lln 0) = r_48.toInt := (by unfold cd_al; rw [if_neg (fun w => by rw [htx] at w; exact absurd w.2 (by decide))]; exact (lf_58).symm); have hm1 : ((-1) : Int32).toInt = -1 := (by decide); unfold cd_av; rw [if_pos (by rw [hal]; omega), p_67, htx]; rfl), (mx_f01_fr hp_22 (fA_call (fA_rf [] _) fa_56 (by decide)) rfl), trivial⟩, ⟨by rw [ht]; exact hP, va_K.moved hW.alike hK⟩⟩, hS.F ht⟩) hS.2.2 dX7_ask_101
          · skip
            exact absurd c_47 (by decide)
      · skip
        exact absurd c_10 (by decide)
    · skip
      have q_68 : a.toInt = 0 ∨ a.toInt = 2 ∨ a.toInt = 5 := p_8
      refine lv_if_eq (tgt := 41) hx hb dX7_ask_34 (by decide) (fun c_69 => ?_) (fun c_69 => ?_)
      · skip
        exact absurd c_69 (by decide)
      · skip
        refine lv_iconst (v := 0) hx hb dX7_ask_37 (by decide) ?_
        refine lv_goto (tgt := 43) hx hb dX7_ask_38 (by decide) ?_
        refine lv_iload hx hb dX7_ask_43 (lv_at hl 6 rfl) ?_
        have z_70 : 0 ≤ (fv 5).toInt ∧ (fv 5).toInt ≤ 200 := hF_fv 5
        have z_71 : 0 ≤ (fv 7).toInt ∧ (fv 7).toInt ≤ 199 := hF_fv 7
        refine va_callv (va_runV (As := [.int kk, .int 0, .int d]) (rest := []) ⟨hx, hb, hml, hown, hts⟩ (x_setFactsE l dC dI H.size ob ad cA hd fv wd ar hF_fv hA_ar kk 0 d h_kk) (cwV 3 hts (gV kw_5_25 kw_5_27 kw_p_19 kw_1_2 kw_5_28) rfl rfl rfl (by decide +kernel) ⟨Nat.le_of_ble_eq_true rfl, Nat.le_of_ble_eq_true rfl⟩) ⟨fun a U g mk q => ⟨q.1, q.2.1, q.2.2.1, va_K.moved (u := U) (U := U.calling g mk a) (Vm.Alike.refl U.vm) q.2.2.2⟩, va_recv hK hP (ci := 7) (q0 := 1) rfl rfl, fun U hU hW => ⟨rfl, by rw [hU], by rw [hU]; exact hP, va_K.moved hW.alike hK⟩⟩ rfl rfl hl.1 rfl (lv_room (Nat.le_of_ble_eq_true rfl)) dX7_ask_45 ⟨Nat.le_of_ble_eq_true rfl, Nat.le_of_ble_eq_true rfl⟩) hS (fun q _ h9 => aX_up hS q h9) (aX_up hS) (fun u t H1 locs ht _ hw hB _ hk1 hS => ?_)
        obtain ⟨fv_74, wd_75, ar_76⟩ := u
        obtain ⟨hF_fv_74, hA_ar_76, fr_77, fa_78, wf_79, p_73, -⟩ := hw
        have wf_79 : wd_75.2 = wd.2 := wf_79
        have hP : va_P (dC, dI) vwCl (wsX ob ad cA fv_74 wd_75 ar_76) H1 := by have h9 := hB.1; rw [ht] at h9; exact h9
        have fr_77 : fM [] fv fv_74 := fr_77
        have fa_78 : fA [4] ar ar_76 := fa_78
        have p_73 : cd_f (ar_76 4) = (cd_fc (ar 20 ((ar 28 (kk.toInt.toNat)).toInt.toNat)).toInt (ar 23 ((ar 28 (kk.toInt.toNat)).toInt.toNat)).toInt (ar 22 ((ar 28 (kk.toInt.toNat)).toInt.toNat)).toInt (wt_rf (fv 7) (fv 5) (ar 3)) (ar 31 (kk.toInt.toNat)).toInt (fv 7).toInt (ar 29 (kk.toInt.toNat)).toInt (ar 30 (kk.toInt.toNat)).toInt (0 : Int32).toInt d.toInt) := p_73
        generalize H1 = H at hP hS ⊢
        have sf_80 : cd_f (ar_76 4) = (cd_fc (ar 20 ((ar 28 (kk.toInt.toNat)).toInt.toNat)).toInt (ar 23 ((ar 28 (kk.toInt.toNat)).toInt.toNat)).toInt (ar 22 ((ar 28 (kk.toInt.toNat)).toInt.toNat)).toInt (wt_rf (fv 7) (fv 5) (ar 3)) (ar 31 (kk.toInt.toNat)).toInt (fv 7).toInt (ar 29 (kk.toInt.toNat)).toInt (ar 30 (kk.toInt.toNat)).toInt (cd_ri a.toInt b.toInt) d.toInt) := by have hri : ((0 : Int32)).toInt = cd_ri a.toInt b.toInt := (by unfold cd_ri; rw [if_pos q_68]; decide); have h9 := p_73; rw [hri] at h9; exact h9
        have hp_81 : mx_f01 ar_76 := by intro k9 h9; rw [sf_80]; exact cd_fc01 k9 h9
        refine lv_aload_n hx hb dX7_ask_48 rfl (lv_at hl 1 rfl) ?_
        refine lv_iload_n hx hb dX7_ask_49 rfl (lv_at hl 4 rfl) ?_
        refine lv_iconst (v := 5) hx hb dX7_ask_50 (by decide) ?_
        refine lv_icmp_ne (tgt := 63) hx hb dX7_ask_51 (by decide) (fun c_82 => ?_) (fun c_82 => ?_)
        · skip
          have k_83 : ¬ a.toInt = 5 := fun q => c_82 (Int32.toInt_inj.mp q)
          refine lv_aload_n hx hb dX7_ask_63 rfl (lv_at hl 2 rfl) ?_
          refine lv_iload_n hx hb dX7_ask_64 rfl (lv_at hl 4 rfl) ?_
          refine lv_aload_n hx hb dX7_ask_65 rfl (lv_at hl 1 rfl) ?_
          refine gX_X7_62 hx hb htg hown hK hP dX7_ask_66 ?_
          refine va_calli (va_runV (As := [.int a, .ref (ad 4)]) (rest := [.ref (ob 1)]) ⟨hx, hb, hml, hown, hts⟩ (x_lineForE l dC dI H.size ob ad cA hd fv_74 wd_75 ar_76 hF_fv_74 hA_ar_76 la lfr lra lrc lln lcn llr hlq a hgd (by rw [sf_80]; exact cd_fc01)) (cwV 2 hts (gV kw_5_30 kw_5_31 kw_5_32 kw_1_10 kw_5_33) rfl rfl rfl (by decide +kernel) ⟨Nat.le_of_ble_eq_true rfl, Nat.le_of_ble_eq_true rfl⟩) ⟨fun a U g mk q => ⟨q.1, ⟨q.2.1.1, q.2.1.2.1, va_K.moved (u := U) (U := U.calling g mk a) (Vm.Alike.refl U.vm) q.2.1.2.2⟩, ⟨q.2.2.1, va_K.moved (u := U) (U := U.calling g mk a) (Vm.Alike.refl U.vm) q.2.2.2.1, q.2.2.2.2⟩⟩, va_recv (lw_K hL) (lw_now hL hS) (ci := 1) (q0 := 0) rfl rfl, fun U hU hW => ⟨rfl, ⟨by rw [hU], by rw [hU]; exact hP, va_K.moved hW.alike hK⟩, lw_pass hL hS hU hW.alike⟩⟩ rfl rfl hl.1 rfl (lv_room (Nat.le_of_ble_eq_true rfl)) dX7_ask_69 ⟨Nat.le_of_ble_eq_true rfl, Nat.le_of_ble_eq_true rfl⟩) hS (fun q _ h9 => aX_up hS q h9) (aX_up hS) (fun r_84 u t H1 locs ht _ hw hB _ hk1 hS => ?_)
          obtain ⟨fv_88, wd_89, ar_90⟩ := u
          obtain ⟨hF_fv_88, hA_ar_90, fr_91, fa_92, wf_93, p_85, p_86, p_87, -⟩ := hw
          have wf_93 : wd_89.2 = wd_75.2 := wf_93
          have hP : va_P (dC, dI) vwCl (wsX ob ad cA fv_88 wd_89 ar_90) H1 := by have h9 := hB.1; rw [ht] at h9; exact h9
          have fr_91 : fM [] fv_74 fv_88 := fr_91
          have fa_92 : fA [] ar_76 ar_90 := fa_92
          have p_86 : r_84.toInt < lln := p_86
          have p_87 : r_84.toInt = cd_fi (cd_f (ar_76 4)) a.toInt (cd_Wf (cd_gX llr) lln 0) 0 := p_87
          generalize H1 = H at hP hS ⊢
          have lf_94 : r_84.toInt = cd_fi (cd_fc (ar 20 ((ar 28 (kk.toInt.toNat)).toInt.toNat)).toInt (ar 23 ((ar 28 (kk.toInt.toNat)).toInt.toNat)).toInt (ar 22 ((ar 28 (kk.toInt.toNat)).toInt.toNat)).toInt (wt_rf (fv 7) (fv 5) (ar 3)) (ar 31 (kk.toInt.toNat)).toInt (fv 7).toInt (ar 29 (kk.toInt.toNat)).toInt (ar 30 (kk.toInt.toNat)).toInt (cd_ri a.toInt b.toInt) d.toInt) a.toInt (cd_Wf (cd_gX llr) lln 0) 0 := by have h9 := p_87; rw [sf_80] at h9; exact h9
          refine pX_X7_137 hx hb htg hown hK hP hS hd dX7_ask_72 (fun H locs fv_95 efv_95 hP hS => ?_)
          have hF_fv_95 : rX fv_95 := rX_put hF_fv_88 efv_95 (iv_any _)
          refine lv_aload_n hx hb dX7_ask_75 rfl (lv_at hl 1 rfl) ?_
          refine gX_X7_137 hx hb htg hown hK hP dX7_ask_76 ?_
          refine my_ti (y := r_84) ((congrFun efv_95 6)) ?_
          refine lv_iconst (v := (-1)) hx hb dX7_ask_79 (by decide) ?_
          refine lv_icmp_ne (tgt := 92) hx hb dX7_ask_80 (by decide) (fun c_96 => ?_) (fun c_96 => ?_)
          · skip
            have i_97 : 0 ≤ r_84.toInt ∧ r_84.toInt ≤ 15 := iv_nel p_85 (by decide) c_96
            have k_98 : ¬ r_84.toInt = (-1) := fun q => c_96 (Int32.toInt_inj.mp q)
            refine lv_aload_n hx hb dX7_ask_92 rfl (lv_at hl 2 rfl) ?_
            refine gL_X7_144 hx hb htg hown (lw_K hL) (lw_now hL hS) dX7_ask_93 ?_
            refine lv_aload_n hx hb dX7_ask_96 rfl (lv_at hl 1 rfl) ?_
            refine gX_X7_137 hx hb htg hown hK hP dX7_ask_97 ?_
            refine my_ti (y := r_84) ((congrFun efv_95 6)) ?_
            refine lL_2 hx hb (lw_K hL) (lw_now hL hS) (vp_in_iff.mpr (by omega)) dX7_ask_100 (fun v_99 ev_99 => ?_)
            exact W.iret (v := v_99) hx hb hr (fun t ht hW => ⟨⟨v_99, (fv_95, wd_89, ar_90), rfl, ⟨hF_fv_95, hA_ar_90, (fM_put (fM_call (fM_call (fM_rf [6] _) fr_77 (by decide)) fr_91 (by decide)) efv_95 (by decide)), (fA_call (fA_call (fA_rf [4] _) fa_78 (by decide)) fa_92 (by decide)), (wf_93.trans wf_79), (show (fv_95 6).toInt = cd_al (cd_fc (ar 20 ((ar 28 (kk.toInt.toNat)).toInt.toNat)).toInt (ar 23 ((ar 28 (kk.toInt.toNat)).toInt.toNat)).toInt (ar 22 ((ar 28 (kk.toInt.toNat)).toInt.toNat)).toInt (wt_rf (fv 7) (fv 5) (ar 3)) (ar 31 (kk.toInt.toNat)).toInt (fv 7).toInt (ar 29 (kk.toInt.toNat)).toInt (ar 30 (kk.toInt.toNat)).toInt (cd_ri a.toInt b.toInt) d.toInt) a.toInt (decide ((ar 20 ((ar 28 (kk.toInt.toNat)).toInt.toNat)).toInt = 2)) (cd_Wf (cd_gX llr) lln 0) from by have hal : cd_al (cd_fc (ar 20 ((ar 28 (kk.toInt.toNat)).toInt.toNat)).toInt (ar 23 ((ar 28 (kk.toInt.toNat)).toInt.toNat)).toInt (ar 22 ((ar 28 (kk.toInt.toNat)).toInt.toNat)).toInt (wt_rf (fv 7) (fv 5) (ar 3)) (ar 31 (kk.toInt.toNat)).toInt (fv 7).toInt (ar 29 (kk.toInt.toNat)).toInt (ar 30 (kk.toInt.toNat)).toInt (cd_ri a.toInt b.toInt) d.toInt) a.toInt (decide ((ar 20 ((ar 28 (kk.toInt.toNat)).toInt.toNat)).toInt = 2)) (cd_Wf (cd_gX llr) lln 0) = r_84.toInt := (by unfold cd_al; rw [if_neg (fun w => by rw [htx] at w; exact absurd w.2 (by decide))]; exact (lf_94).symm); rw [hal, show fv_95 6 = r_84 from (congrFun efv_95 6)]), (show v_99.toInt = cd_av (cd_fc (ar 20 ((ar 28 (kk.toInt.toNat)).toInt.toNat)).toInt (ar 23 ((ar 28 (kk.toInt.toNat)).toInt.toNat)).toInt (ar 22 ((ar 28 (kk.toInt.toNat)).toInt.toNat)).toInt (wt_rf (fv 7) (fv 5) (ar 3)) (ar 31 (kk.toInt.toNat)).toInt (fv 7).toInt (ar 29 (kk.toInt.toNat)).toInt (ar 30 (kk.toInt.toNat)).toInt (cd_ri a.toInt b.toInt) d.toInt) a.toInt (decide ((ar 20 ((ar 28 (kk.toInt.toNat)).toInt.toNat)).toInt = 2)) (cd_Wf (cd_gX llr) lln 0) from by have hal : cd_al (cd_fc (ar 20 ((ar 28 (kk.toInt.toNat)).toInt.toNat)).toInt (ar 23 ((ar 28 (kk.toInt.toNat)).toInt.toNat)).toInt (ar 22 ((ar 28 (kk.toInt.toNat)).toInt.toNat)).toInt (wt_rf (fv 7) (fv 5) (ar 3)) (ar 31 (kk.toInt.toNat)).toInt (fv 7).toInt (ar 29 (kk.toInt.toNat)).toInt (ar 30 (kk.toInt.toNat)).toInt (cd_ri a.toInt b.toInt) d.toInt) a.toInt (decide ((ar 20 ((ar 28 (kk.toInt.toNat)).toInt.toNat)).toInt = 2)) (cd_Wf (cd_gX llr) lln 0) = r_84.toInt := (by unfold cd_al; rw [if_neg (fun w => by rw [htx] at w; exact absurd w.2 (by decide))]; exact (lf_94).symm); have hv9 : llr 2 (r_84.toInt.toNat) = v_99 := ev_99.symm; unfold cd_av; rw [if_neg (by rw [hal]; omega)]; rcases cd_fi_val (f := (cd_fc (ar 20 ((ar 28 (kk.toInt.toNat)).toInt.toNat)).toInt (ar 23 ((ar 28 (kk.toInt.toNat)).toInt.toNat)).toInt (ar 22 ((ar 28 (kk.toInt.toNat)).toInt.toNat)).toInt (wt_rf (fv 7) (fv 5) (ar 3)) (ar 31 (kk.toInt.toNat)).toInt (fv 7).toInt (ar 29 (kk.toInt.toNat)).toInt (ar 30 (kk.toInt.toNat)).toInt (cd_ri a.toInt b.toInt) d.toInt)) (k := a.toInt) (g := cd_gX llr) lln 0 with h9 | ⟨j9, h1, h2, h3, h4⟩; exfalso; omega; rw [← h4, show j9 = r_84.toInt.toNat from by omega]; show _ = (llr 2 (r_84.toInt.toNat)).toInt; rw [hv9]), (mx_f01_fr hp_81 (fA_call (fA_rf [] _) fa_92 (by decide)) rfl), trivial⟩, ⟨by rw [ht]; exact hP, va_K.moved hW.alike hK⟩⟩, hS.F ht⟩) hS.2.2 dX7_ask_101
          · skip
            have i_100 : (-1) ≤ r_84.toInt ∧ r_84.toInt ≤ (-1) := iv_eq1 (⟨by decide, by decide⟩ : (-1 : Int) ≤ ((-1) : Int32).toInt ∧ ((-1) : Int32).toInt ≤ -1) c_96
            refine lv_iload hx hb dX7_ask_83 (lv_at hl 0 rfl) ?_
            refine lv_iload_n hx hb dX7_ask_85 rfl (lv_at hl 4 rfl) ?_
            refine va_calli (va_runS (As := [.int 0, .int a]) (rest := []) ⟨hx, hb, hml, hown, hts⟩ (x_plainValueE l H.size 0 a (iv_w (⟨by decide, by decide⟩ : (0 : Int) ≤ (0 : Int32).toInt ∧ (0 : Int32).toInt ≤ 0) (by decide) (by decide))) (va_cwS 2 hts (gS kw_5_38 kw_5_39 kw_1_2 kw_5_40) rfl rfl rfl (by decide +kernel) ⟨Nat.le_of_ble_eq_true rfl, Nat.le_of_ble_eq_true rfl⟩) ⟨fun a U g mk q => ⟨q.1, q.2⟩, fun U hU hW => ⟨rfl, congrArg Array.size hU⟩⟩ rfl rfl hl.1 rfl (lv_room (Nat.le_of_ble_eq_true rfl)) dX7_ask_86 ⟨Nat.le_of_ble_eq_true rfl, Nat.le_of_ble_eq_true rfl⟩) hS (fun q _ h9 => nX_up hS q h9) (nX_up hS) (fun r_102 u t H1 locs ht _ hw hB _ hk1 hS => ?_)
            obtain ⟨p_103, -⟩ := hw
            have hP := my_keepM hP hk1
            generalize H1 = H at hP hS ⊢
            refine lv_goto (tgt := 101) hx hb dX7_ask_89 (by decide) ?_
            exact W.iret (v := r_102) hx hb hr (fun t ht hW => ⟨⟨r_102, (fv_95, wd_89, ar_90), rfl, ⟨hF_fv_95, hA_ar_90, (fM_put (fM_call (fM_call (fM_rf [6] _) fr_77 (by decide)) fr_91 (by decide)) efv_95 (by decide)), (fA_call (fA_call (fA_rf [4] _) fa_78 (by decide)) fa_92 (by decide)), (wf_93.trans wf_79), (show (fv_95 6).toInt = cd_al (cd_fc (ar 20 ((ar 28 (kk.toInt.toNat)).toInt.toNat)).toInt (ar 23 ((ar 28 (kk.toInt.toNat)).toInt.toNat)).toInt (ar 22 ((ar 28 (kk.toInt.toNat)).toInt.toNat)).toInt (wt_rf (fv 7) (fv 5) (ar 3)) (ar 31 (kk.toInt.toNat)).toInt (fv 7).toInt (ar 29 (kk.toInt.toNat)).toInt (ar 30 (kk.toInt.toNat)).toInt (cd_ri a.toInt b.toInt) d.toInt) a.toInt (decide ((ar 20 ((ar 28 (kk.toInt.toNat)).toInt.toNat)).toInt = 2)) (cd_Wf (cd_gX llr) lln 0) from by have hal : cd_al (cd_fc (ar 20 ((ar 28 (kk.toInt.toNat)).toInt.toNat)).toInt (ar 23 ((ar 28 (kk.toInt.toNat)).toInt.toNat)).toInt (ar 22 ((ar 28 (kk.toInt.toNat)).toInt.toNat)).toInt (wt_rf (fv 7) (fv 5) (ar 3)) (ar 31 (kk.toInt.toNat)).toInt (fv 7).toInt (ar 29 (kk.toInt.toNat)).toInt (ar 30 (kk.toInt.toNat)).toInt (cd_ri a.toInt b.toInt) d.toInt) a.toInt (decide ((ar 20 ((ar 28 (kk.toInt.toNat)).toInt.toNat)).toInt = 2)) (cd_Wf (cd_gX llr) lln 0) = r_84.toInt := (by unfold cd_al; rw [if_neg (fun w => by rw [htx] at w; exact absurd w.2 (by decide))]; exact (lf_94).symm); rw [hal, show fv_95 6 = r_84 from (congrFun efv_95 6)]), (show r_102.toInt = cd_av (cd_fc (ar 20 ((ar 28 (kk.toInt.toNat)).toInt.toNat)).toInt (ar 23 ((ar 28 (kk.toInt.toNat)).toInt.toNat)).toInt (ar 22 ((ar 28 (kk.toInt.toNat)).toInt.toNat)).toInt (wt_rf (fv 7) (fv 5) (ar 3)) (ar 31 (kk.toInt.toNat)).toInt (fv 7).toInt (ar 29 (kk.toInt.toNat)).toInt (ar 30 (kk.toInt.toNat)).toInt (cd_ri a.toInt b.toInt) d.toInt) a.toInt (decide ((ar 20 ((ar 28 (kk.toInt.toNat)).toInt.toNat)).toInt = 2)) (cd_Wf (cd_gX llr) lln 0) from by have hal : cd_al (cd_fc (ar 20 ((ar 28 (kk.toInt.toNat)).toInt.toNat)).toInt (ar 23 ((ar 28 (kk.toInt.toNat)).toInt.toNat)).toInt (ar 22 ((ar 28 (kk.toInt.toNat)).toInt.toNat)).toInt (wt_rf (fv 7) (fv 5) (ar 3)) (ar 31 (kk.toInt.toNat)).toInt (fv 7).toInt (ar 29 (kk.toInt.toNat)).toInt (ar 30 (kk.toInt.toNat)).toInt (cd_ri a.toInt b.toInt) d.toInt) a.toInt (decide ((ar 20 ((ar 28 (kk.toInt.toNat)).toInt.toNat)).toInt = 2)) (cd_Wf (cd_gX llr) lln 0) = r_84.toInt := (by unfold cd_al; rw [if_neg (fun w => by rw [htx] at w; exact absurd w.2 (by decide))]; exact (lf_94).symm); have hm1 : ((-1) : Int32).toInt = -1 := (by decide); unfold cd_av; rw [if_pos (by rw [hal]; omega), p_103, htx]; rfl), (mx_f01_fr hp_81 (fA_call (fA_rf [] _) fa_92 (by decide)) rfl), trivial⟩, ⟨by rw [ht]; exact hP, va_K.moved hW.alike hK⟩⟩, hS.F ht⟩) hS.2.2 dX7_ask_101
        · skip
          have i_104 : 5 ≤ a.toInt ∧ a.toInt ≤ 5 := iv_eq1 (⟨by decide, by decide⟩ : (5 : Int) ≤ (5 : Int32).toInt ∧ (5 : Int32).toInt ≤ 5) c_82
          refine lv_iload hx hb dX7_ask_54 (lv_at hl 0 rfl) ?_
          refine lv_if_eq (tgt := 63) hx hb dX7_ask_56 (by decide) (fun c_106 => ?_) (fun c_106 => ?_)
          · skip
            refine lv_aload_n hx hb dX7_ask_63 rfl (lv_at hl 2 rfl) ?_
            refine lv_iload_n hx hb dX7_ask_64 rfl (lv_at hl 4 rfl) ?_
            refine lv_aload_n hx hb dX7_ask_65 rfl (lv_at hl 1 rfl) ?_
            refine gX_X7_62 hx hb htg hown hK hP dX7_ask_66 ?_
            refine va_calli (va_runV (As := [.int a, .ref (ad 4)]) (rest := [.ref (ob 1)]) ⟨hx, hb, hml, hown, hts⟩ (x_lineForE l dC dI H.size ob ad cA hd fv_74 wd_75 ar_76 hF_fv_74 hA_ar_76 la lfr lra lrc lln lcn llr hlq a hgd (by rw [sf_80]; exact cd_fc01)) (cwV 2 hts (gV kw_5_30 kw_5_31 kw_5_32 kw_1_10 kw_5_33) rfl rfl rfl (by decide +kernel) ⟨Nat.le_of_ble_eq_true rfl, Nat.le_of_ble_eq_true rfl⟩) ⟨fun a U g mk q => ⟨q.1, ⟨q.2.1.1, q.2.1.2.1, va_K.moved (u := U) (U := U.calling g mk a) (Vm.Alike.refl U.vm) q.2.1.2.2⟩, ⟨q.2.2.1, va_K.moved (u := U) (U := U.calling g mk a) (Vm.Alike.refl U.vm) q.2.2.2.1, q.2.2.2.2⟩⟩, va_recv (lw_K hL) (lw_now hL hS) (ci := 1) (q0 := 0) rfl rfl, fun U hU hW => ⟨rfl, ⟨by rw [hU], by rw [hU]; exact hP, va_K.moved hW.alike hK⟩, lw_pass hL hS hU hW.alike⟩⟩ rfl rfl hl.1 rfl (lv_room (Nat.le_of_ble_eq_true rfl)) dX7_ask_69 ⟨Nat.le_of_ble_eq_true rfl, Nat.le_of_ble_eq_true rfl⟩) hS (fun q _ h9 => aX_up hS q h9) (aX_up hS) (fun r_107 u t H1 locs ht _ hw hB _ hk1 hS => ?_)
            obtain ⟨fv_111, wd_112, ar_113⟩ := u
            obtain ⟨hF_fv_111, hA_ar_113, fr_114, fa_115, wf_116, p_108, p_109, p_110, -⟩ := hw
            have wf_116 : wd_112.2 = wd_75.2 := wf_116
            have hP : va_P (dC, dI) vwCl (wsX ob ad cA fv_111 wd_112 ar_113) H1 := by have h9 := hB.1; rw [ht] at h9; exact h9
            have fr_114 : fM [] fv_74 fv_111 := fr_114
            have fa_115 : fA [] ar_76 ar_113 := fa_115
            have p_109 : r_107.toInt < lln := p_109
            have p_110 : r_107.toInt = cd_fi (cd_f (ar_76 4)) a.toInt (cd_Wf (cd_gX llr) lln 0) 0 := p_110
            generalize H1 = H at hP hS ⊢
            have lf_117 : r_107.toInt = cd_fi (cd_fc (ar 20 ((ar 28 (kk.toInt.toNat)).toInt.toNat)).toInt (ar 23 ((ar 28 (kk.toInt.toNat)).toInt.toNat)).toInt (ar 22 ((ar 28 (kk.toInt.toNat)).toInt.toNat)).toInt (wt_rf (fv 7) (fv 5) (ar 3)) (ar 31 (kk.toInt.toNat)).toInt (fv 7).toInt (ar 29 (kk.toInt.toNat)).toInt (ar 30 (kk.toInt.toNat)).toInt (cd_ri a.toInt b.toInt) d.toInt) a.toInt (cd_Wf (cd_gX llr) lln 0) 0 := by have h9 := p_110; rw [sf_80] at h9; exact h9
            refine pX_X7_137 hx hb htg hown hK hP hS hd dX7_ask_72 (fun H locs fv_118 efv_118 hP hS => ?_)
            have hF_fv_118 : rX fv_118 := rX_put hF_fv_111 efv_118 (iv_any _)
            refine lv_aload_n hx hb dX7_ask_75 rfl (lv_at hl 1 rfl) ?_
            refine gX_X7_137 hx hb htg hown hK hP dX7_ask_76 ?_
            refine my_ti (y := r_107) ((congrFun efv_118 6)) ?_
            refine lv_iconst (v := (-1)) hx hb dX7_ask_79 (by decide) ?_
            refine lv_icmp_ne (tgt := 92) hx hb dX7_ask_80 (by decide) (fun c_119 => ?_) (fun c_119 => ?_)
            · skip
              have i_120 : 0 ≤ r_107.toInt ∧ r_107.toInt ≤ 15 := iv_nel p_108 (by decide) c_119
              have k_121 : ¬ r_107.toInt = (-1) := fun q => c_119 (Int32.toInt_inj.mp q)
              refine lv_aload_n hx hb dX7_ask_92 rfl (lv_at hl 2 rfl) ?_
              refine gL_X7_144 hx hb htg hown (lw_K hL) (lw_now hL hS) dX7_ask_93 ?_
              refine lv_aload_n hx hb dX7_ask_96 rfl (lv_at hl 1 rfl) ?_
              refine gX_X7_137 hx hb htg hown hK hP dX7_ask_97 ?_
              refine my_ti (y := r_107) ((congrFun efv_118 6)) ?_
              refine lL_2 hx hb (lw_K hL) (lw_now hL hS) (vp_in_iff.mpr (by omega)) dX7_ask_100 (fun v_122 ev_122 => ?_)
              exact W.iret (v := v_122) hx hb hr (fun t ht hW => ⟨⟨v_122, (fv_118, wd_112, ar_113), rfl, ⟨hF_fv_118, hA_ar_113, (fM_put (fM_call (fM_call (fM_rf [6] _) fr_77 (by decide)) fr_114 (by decide)) efv_118 (by decide)), (fA_call (fA_call (fA_rf [4] _) fa_78 (by decide)) fa_115 (by decide)), (wf_116.trans wf_79), (show (fv_118 6).toInt = cd_al (cd_fc (ar 20 ((ar 28 (kk.toInt.toNat)).toInt.toNat)).toInt (ar 23 ((ar 28 (kk.toInt.toNat)).toInt.toNat)).toInt (ar 22 ((ar 28 (kk.toInt.toNat)).toInt.toNat)).toInt (wt_rf (fv 7) (fv 5) (ar 3)) (ar 31 (kk.toInt.toNat)).toInt (fv 7).toInt (ar 29 (kk.toInt.toNat)).toInt (ar 30 (kk.toInt.toNat)).toInt (cd_ri a.toInt b.toInt) d.toInt) a.toInt (decide ((ar 20 ((ar 28 (kk.toInt.toNat)).toInt.toNat)).toInt = 2)) (cd_Wf (cd_gX llr) lln 0) from by have hal : cd_al (cd_fc (ar 20 ((ar 28 (kk.toInt.toNat)).toInt.toNat)).toInt (ar 23 ((ar 28 (kk.toInt.toNat)).toInt.toNat)).toInt (ar 22 ((ar 28 (kk.toInt.toNat)).toInt.toNat)).toInt (wt_rf (fv 7) (fv 5) (ar 3)) (ar 31 (kk.toInt.toNat)).toInt (fv 7).toInt (ar 29 (kk.toInt.toNat)).toInt (ar 30 (kk.toInt.toNat)).toInt (cd_ri a.toInt b.toInt) d.toInt) a.toInt (decide ((ar 20 ((ar 28 (kk.toInt.toNat)).toInt.toNat)).toInt = 2)) (cd_Wf (cd_gX llr) lln 0) = r_107.toInt := (by unfold cd_al; rw [if_neg (fun w => by rw [htx] at w; exact absurd w.2 (by decide))]; exact (lf_117).symm); rw [hal, show fv_118 6 = r_107 from (congrFun efv_118 6)]), (show v_122.toInt = cd_av (cd_fc (ar 20 ((ar 28 (kk.toInt.toNat)).toInt.toNat)).toInt (ar 23 ((ar 28 (kk.toInt.toNat)).toInt.toNat)).toInt (ar 22 ((ar 28 (kk.toInt.toNat)).toInt.toNat)).toInt (wt_rf (fv 7) (fv 5) (ar 3)) (ar 31 (kk.toInt.toNat)).toInt (fv 7).toInt (ar 29 (kk.toInt.toNat)).toInt (ar 30 (kk.toInt.toNat)).toInt (cd_ri a.toInt b.toInt) d.toInt) a.toInt (decide ((ar 20 ((ar 28 (kk.toInt.toNat)).toInt.toNat)).toInt = 2)) (cd_Wf (cd_gX llr) lln 0) from by have hal : cd_al (cd_fc (ar 20 ((ar 28 (kk.toInt.toNat)).toInt.toNat)).toInt (ar 23 ((ar 28 (kk.toInt.toNat)).toInt.toNat)).toInt (ar 22 ((ar 28 (kk.toInt.toNat)).toInt.toNat)).toInt (wt_rf (fv 7) (fv 5) (ar 3)) (ar 31 (kk.toInt.toNat)).toInt (fv 7).toInt (ar 29 (kk.toInt.toNat)).toInt (ar 30 (kk.toInt.toNat)).toInt (cd_ri a.toInt b.toInt) d.toInt) a.toInt (decide ((ar 20 ((ar 28 (kk.toInt.toNat)).toInt.toNat)).toInt = 2)) (cd_Wf (cd_gX llr) lln 0) = r_107.toInt := (by unfold cd_al; rw [if_neg (fun w => by rw [htx] at w; exact absurd w.2 (by decide))]; exact (lf_117).symm); have hv9 : llr 2 (r_107.toInt.toNat) = v_122 := ev_122.symm; unfold cd_av; rw [if_neg (by rw [hal]; omega)]; rcases cd_fi_val (f := (cd_fc (ar 20 ((ar 28 (kk.toInt.toNat)).toInt.toNat)).toInt (ar 23 ((ar 28 (kk.toInt.toNat)).toInt.toNat)).toInt (ar 22 ((ar 28 (kk.toInt.toNat)).toInt.toNat)).toInt (wt_rf (fv 7) (fv 5) (ar 3)) (ar 31 (kk.toInt.toNat)).toInt (fv 7).toInt (ar 29 (kk.toInt.toNat)).toInt (ar 30 (kk.toInt.toNat)).toInt (cd_ri a.toInt b.toInt) d.toInt)) (k := a.toInt) (g := cd_gX llr) lln 0 with h9 | ⟨j9, h1, h2, h3, h4⟩; exfalso; omega; rw [← h4, show j9 = r_107.toInt.toNat from by omega]; show _ = (llr 2 (r_107.toInt.toNat)).toInt; rw [hv9]), (mx_f01_fr hp_81 (fA_call (fA_rf [] _) fa_115 (by decide)) rfl), trivial⟩, ⟨by rw [ht]; exact hP, va_K.moved hW.alike hK⟩⟩, hS.F ht⟩) hS.2.2 dX7_ask_101
            · skip
              have i_123 : (-1) ≤ r_107.toInt ∧ r_107.toInt ≤ (-1) := iv_eq1 (⟨by decide, by decide⟩ : (-1 : Int) ≤ ((-1) : Int32).toInt ∧ ((-1) : Int32).toInt ≤ -1) c_119
              refine lv_iload hx hb dX7_ask_83 (lv_at hl 0 rfl) ?_
              refine lv_iload_n hx hb dX7_ask_85 rfl (lv_at hl 4 rfl) ?_
              refine va_calli (va_runS (As := [.int 0, .int a]) (rest := []) ⟨hx, hb, hml, hown, hts⟩ (x_plainValueE l H.size 0 a (iv_w (⟨by decide, by decide⟩ : (0 : Int) ≤ (0 : Int32).toInt ∧ (0 : Int32).toInt ≤ 0) (by decide) (by decide))) (va_cwS 2 hts (gS kw_5_38 kw_5_39 kw_1_2 kw_5_40) rfl rfl rfl (by decide +kernel) ⟨Nat.le_of_ble_eq_true rfl, Nat.le_of_ble_eq_true rfl⟩) ⟨fun a U g mk q => ⟨q.1, q.2⟩, fun U hU hW => ⟨rfl, congrArg Array.size hU⟩⟩ rfl rfl hl.1 rfl (lv_room (Nat.le_of_ble_eq_true rfl)) dX7_ask_86 ⟨Nat.le_of_ble_eq_true rfl, Nat.le_of_ble_eq_true rfl⟩) hS (fun q _ h9 => nX_up hS q h9) (nX_up hS) (fun r_125 u t H1 locs ht _ hw hB _ hk1 hS => ?_)
              obtain ⟨p_126, -⟩ := hw
              have hP := my_keepM hP hk1
              generalize H1 = H at hP hS ⊢
              refine lv_goto (tgt := 101) hx hb dX7_ask_89 (by decide) ?_
              exact W.iret (v := r_125) hx hb hr (fun t ht hW => ⟨⟨r_125, (fv_118, wd_112, ar_113), rfl, ⟨hF_fv_118, hA_ar_113, (fM_put (fM_call (fM_call (fM_rf [6] _) fr_77 (by decide)) fr_114 (by decide)) efv_118 (by decide)), (fA_call (fA_call (fA_rf [4] _) fa_78 (by decide)) fa_115 (by decide)), (wf_116.trans wf_79), (show (fv_118 6).toInt = cd_al (cd_fc (ar 20 ((ar 28 (kk.toInt.toNat)).toInt.toNat)).toInt (ar 23 ((ar 28 (kk.toInt.toNat)).toInt.toNat)).toInt (ar 22 ((ar 28 (kk.toInt.toNat)).toInt.toNat)).toInt (wt_rf (fv 7) (fv 5) (ar 3)) (ar 31 (kk.toInt.toNat)).toInt (fv 7).toInt (ar 29 (kk.toInt.toNat)).toInt (ar 30 (kk.toInt.toNat)).toInt (cd_ri a.toInt b.toInt) d.toInt) a.toInt (decide ((ar 20 ((ar 28 (kk.toInt.toNat)).toInt.toNat)).toInt = 2)) (cd_Wf (cd_gX llr) lln 0) from by have hal : cd_al (cd_fc (ar 20 ((ar 28 (kk.toInt.toNat)).toInt.toNat)).toInt (ar 23 ((ar 28 (kk.toInt.toNat)).toInt.toNat)).toInt (ar 22 ((ar 28 (kk.toInt.toNat)).toInt.toNat)).toInt (wt_rf (fv 7) (fv 5) (ar 3)) (ar 31 (kk.toInt.toNat)).toInt (fv 7).toInt (ar 29 (kk.toInt.toNat)).toInt (ar 30 (kk.toInt.toNat)).toInt (cd_ri a.toInt b.toInt) d.toInt) a.toInt (decide ((ar 20 ((ar 28 (kk.toInt.toNat)).toInt.toNat)).toInt = 2)) (cd_Wf (cd_gX llr) lln 0) = r_107.toInt := (by unfold cd_al; rw [if_neg (fun w => by rw [htx] at w; exact absurd w.2 (by decide))]; exact (lf_117).symm); rw [hal, show fv_118 6 = r_107 from (congrFun efv_118 6)]), (show r_125.toInt = cd_av (cd_fc (ar 20 ((ar 28 (kk.toInt.toNat)).toInt.toNat)).toInt (ar 23 ((ar 28 (kk.toInt.toNat)).toInt.toNat)).toInt (ar 22 ((ar 28 (kk.toInt.toNat)).toInt.toNat)).toInt (wt_rf (fv 7) (fv 5) (ar 3)) (ar 31 (kk.toInt.toNat)).toInt (fv 7).toInt (ar 29 (kk.toInt.toNat)).toInt (ar 30 (kk.toInt.toNat)).toInt (cd_ri a.toInt b.toInt) d.toInt) a.toInt (decide ((ar 20 ((ar 28 (kk.toInt.toNat)).toInt.toNat)).toInt = 2)) (cd_Wf (cd_gX llr) lln 0) from by have hal : cd_al (cd_fc (ar 20 ((ar 28 (kk.toInt.toNat)).toInt.toNat)).toInt (ar 23 ((ar 28 (kk.toInt.toNat)).toInt.toNat)).toInt (ar 22 ((ar 28 (kk.toInt.toNat)).toInt.toNat)).toInt (wt_rf (fv 7) (fv 5) (ar 3)) (ar 31 (kk.toInt.toNat)).toInt (fv 7).toInt (ar 29 (kk.toInt.toNat)).toInt (ar 30 (kk.toInt.toNat)).toInt (cd_ri a.toInt b.toInt) d.toInt) a.toInt (decide ((ar 20 ((ar 28 (kk.toInt.toNat)).toInt.toNat)).toInt = 2)) (cd_Wf (cd_gX llr) lln 0) = r_107.toInt := (by unfold cd_al; rw [if_neg (fun w => by rw [htx] at w; exact absurd w.2 (by decide))]; exact (lf_117).symm); have hm1 : ((-1) : Int32).toInt = -1 := (by decide); unfold cd_av; rw [if_pos (by rw [hal]; omega), p_126, htx]; rfl), (mx_f01_fr hp_81 (fA_call (fA_rf [] _) fa_115 (by decide)) rfl), trivial⟩, ⟨by rw [ht]; exact hP, va_K.moved hW.alike hK⟩⟩, hS.F ht⟩) hS.2.2 dX7_ask_101
          · skip
            exact absurd c_106 (by decide)
  · skip
    have i_127 : 2 ≤ v_3.toInt ∧ v_3.toInt ≤ 2 := iv_eq1 (⟨by decide, by decide⟩ : (2 : Int) ≤ (2 : Int32).toInt ∧ (2 : Int32).toInt ≤ 2) c_4
    have htx : (decide ((ar 20 ((ar 28 (kk.toInt.toNat)).toInt.toNat)).toInt = 2)) = true := by have hw9 : v_1 = ar 28 (kk.toInt.toNat) := (by rw [ev_1]; exact congrArg (ar 28) (show Int32.toNatClampNeg kk = (kk.toInt.toNat) from (show kk.toInt.toNat = (kk.toInt.toNat) from by omega))); have hw8 : v_1.toInt.toNat = ((ar 28 (kk.toInt.toNat)).toInt.toNat) := (by rw [hw9]); have hk9 : v_3 = ar 20 ((ar 28 (kk.toInt.toNat)).toInt.toNat) := (by rw [ev_3]; exact congrArg (ar 20) (show Int32.toNatClampNeg v_1 = ((ar 28 (kk.toInt.toNat)).toInt.toNat) from (show v_1.toInt.toNat = ((ar 28 (kk.toInt.toNat)).toInt.toNat) from by omega))); rw [← hk9]; exact decide_eq_true (by omega)
    refine lv_iconst (v := 1) hx hb dX7_ask_21 (by decide) ?_
    refine lv_goto (tgt := 26) hx hb dX7_ask_22 (by decide) ?_
    refine lv_istore (lv' := [(6, .int 1), (0, .ref (ob 1)), (1, .ref la), (2, .int kk), (3, .int a), (4, .int b), (5, .int d)]) hx hb dX7_ask_26 hl (by decide) rfl (fun ls hl => ?_)
    refine lv_aload_n hx hb dX7_ask_28 rfl (lv_at hl 1 rfl) ?_
    refine lv_iload_n hx hb dX7_ask_29 rfl (lv_at hl 3 rfl) ?_
    refine lv_iload_n hx hb dX7_ask_30 rfl (lv_at hl 4 rfl) ?_
    refine va_calli (va_runS (As := [.int a]) (rest := [.int kk, .ref (ob 1)]) ⟨hx, hb, hml, hown, hts⟩ (x_isAskedEmptyE l s.heap.size a) (va_cwS 1 hts (gS kw_5_22 kw_5_23 kw_1_2 kw_5_24) rfl rfl rfl (by decide +kernel) ⟨Nat.le_of_ble_eq_true rfl, Nat.le_of_ble_eq_true rfl⟩) ⟨fun a U g mk q => ⟨q.1, q.2⟩, fun U hU hW => ⟨rfl, congrArg Array.size hU⟩⟩ rfl rfl hl.1 rfl (lv_room (Nat.le_of_ble_eq_true rfl)) dX7_ask_31 ⟨Nat.le_of_ble_eq_true rfl, Nat.le_of_ble_eq_true rfl⟩) hS (fun q _ h9 => nX_up hS q h9) (nX_up hS) (fun r_129 u t H1 locs ht _ hw hB _ hk1 hS => ?_)
    obtain ⟨p_130, p_131, -⟩ := hw
    have hP := my_keepM hP hk1
    generalize H1 = H at hP hS ⊢
    rcases p_131 with ⟨rfl, p_131⟩ | ⟨rfl, p_131⟩
    · skip
      have q_132 : ¬ (a.toInt = 0 ∨ a.toInt = 2 ∨ a.toInt = 5) := p_131
      refine lv_if_eq (tgt := 41) hx hb dX7_ask_34 (by decide) (fun c_133 => ?_) (fun c_133 => ?_)
      · skip
        refine lv_iload hx hb dX7_ask_41 (lv_at hl 5 rfl) ?_
        refine lv_iload hx hb dX7_ask_43 (lv_at hl 6 rfl) ?_
        have z_134 : 0 ≤ (fv 5).toInt ∧ (fv 5).toInt ≤ 200 := hF_fv 5
        have z_135 : 0 ≤ (fv 7).toInt ∧ (fv 7).toInt ≤ 199 := hF_fv 7
        refine va_callv (va_runV (As := [.int kk, .int b, .int d]) (rest := []) ⟨hx, hb, hml, hown, hts⟩ (x_setFactsE l dC dI H.size ob ad cA hd fv wd ar hF_fv hA_ar kk b d h_kk) (cwV 3 hts (gV kw_5_25 kw_5_27 kw_p_19 kw_1_2 kw_5_28) rfl rfl rfl (by decide +kernel) ⟨Nat.le_of_ble_eq_true rfl, Nat.le_of_ble_eq_true rfl⟩) ⟨fun a U g mk q => ⟨q.1, q.2.1, q.2.2.1, va_K.moved (u := U) (U := U.calling g mk a) (Vm.Alike.refl U.vm) q.2.2.2⟩, va_recv hK hP (ci := 7) (q0 := 1) rfl rfl, fun U hU hW => ⟨rfl, by rw [hU], by rw [hU]; exact hP, va_K.moved hW.alike hK⟩⟩ rfl rfl hl.1 rfl (lv_room (Nat.le_of_ble_eq_true rfl)) dX7_ask_45 ⟨Nat.le_of_ble_eq_true rfl, Nat.le_of_ble_eq_true rfl⟩) hS (fun q _ h9 => aX_up hS q h9) (aX_up hS) (fun u t H1 locs ht _ hw hB _ hk1 hS => ?_)
        obtain ⟨fv_138, wd_139, ar_140⟩ := u
        obtain ⟨hF_fv_138, hA_ar_140, fr_141, fa_142, wf_143, p_137, -⟩ := hw
        have wf_143 : wd_139.2 = wd.2 := wf_143
        have hP : va_P (dC, dI) vwCl (wsX ob ad cA fv_138 wd_139 ar_140) H1 := by have h9 := hB.1; rw [ht] at h9; exact h9
        have fr_141 : fM [] fv fv_138 := fr_141
        have fa_142 : fA [4] ar ar_140 := fa_142
        have p_137 : cd_f (ar_140 4) = (cd_fc (ar 20 ((ar 28 (kk.toInt.toNat)).toInt.toNat)).toInt (ar 23 ((ar 28 (kk.toInt.toNat)).toInt.toNat)).toInt (ar 22 ((ar 28 (kk.toInt.toNat)).toInt.toNat)).toInt (wt_rf (fv 7) (fv 5) (ar 3)) (ar 31 (kk.toInt.toNat)).toInt (fv 7).toInt (ar 29 (kk.toInt.toNat)).toInt (ar 30 (kk.toInt.toNat)).toInt b.toInt d.toInt) := p_137
        generalize H1 = H at hP hS ⊢
        have sf_144 : cd_f (ar_140 4) = (cd_fc (ar 20 ((ar 28 (kk.toInt.toNat)).toInt.toNat)).toInt (ar 23 ((ar 28 (kk.toInt.toNat)).toInt.toNat)).toInt (ar 22 ((ar 28 (kk.toInt.toNat)).toInt.toNat)).toInt (wt_rf (fv 7) (fv 5) (ar 3)) (ar 31 (kk.toInt.toNat)).toInt (fv 7).toInt (ar 29 (kk.toInt.toNat)).toInt (ar 30 (kk.toInt.toNat)).toInt (cd_ri a.toInt b.toInt) d.toInt) := by have hri : (b).toInt = cd_ri a.toInt b.toInt := (by unfold cd_ri; rw [if_neg q_132]); have h9 := p_137; rw [hri] at h9; exact h9
        have hp_145 : mx_f01 ar_140 := by intro k9 h9; rw [sf_144]; exact cd_fc01 k9 h9
        refine lv_aload_n hx hb dX7_ask_48 rfl (lv_at hl 1 rfl) ?_
        refine lv_iload_n hx hb dX7_ask_49 rfl (lv_at hl 4 rfl) ?_
        refine lv_iconst (v := 5) hx hb dX7_ask_50 (by decide) ?_
        refine lv_icmp_ne (tgt := 63) hx hb dX7_ask_51 (by decide) (fun c_146 => ?_) (fun c_146 => ?_)
        · skip
          have k_147 : ¬ a.toInt = 5 := fun q => c_146 (Int32.toInt_inj.mp q)
          refine lv_aload_n hx hb dX7_ask_63 rfl (lv_at hl 2 rfl) ?_
          refine lv_iload_n hx hb dX7_ask_64 rfl (lv_at hl 4 rfl) ?_
          refine lv_aload_n hx hb dX7_ask_65 rfl (lv_at hl 1 rfl) ?_
          refine gX_X7_62 hx hb htg hown hK hP dX7_ask_66 ?_
          refine va_calli (va_runV (As := [.int a, .ref (ad 4)]) (rest := [.ref (ob 1)]) ⟨hx, hb, hml, hown, hts⟩ (x_lineForE l dC dI H.size ob ad cA hd fv_138 wd_139 ar_140 hF_fv_138 hA_ar_140 la lfr lra lrc lln lcn llr hlq a hgd (by rw [sf_144]; exact cd_fc01)) (cwV 2 hts (gV kw_5_30 kw_5_31 kw_5_32 kw_1_10 kw_5_33) rfl rfl rfl (by decide +kernel) ⟨Nat.le_of_ble_eq_true rfl, Nat.le_of_ble_eq_true rfl⟩) ⟨fun a U g mk q => ⟨q.1, ⟨q.2.1.1, q.2.1.2.1, va_K.moved (u := U) (U := U.calling g mk a) (Vm.Alike.refl U.vm) q.2.1.2.2⟩, ⟨q.2.2.1, va_K.moved (u := U) (U := U.calling g mk a) (Vm.Alike.refl U.vm) q.2.2.2.1, q.2.2.2.2⟩⟩, va_recv (lw_K hL) (lw_now hL hS) (ci := 1) (q0 := 0) rfl rfl, fun U hU hW => ⟨rfl, ⟨by rw [hU], by rw [hU]; exact hP, va_K.moved hW.alike hK⟩, lw_pass hL hS hU hW.alike⟩⟩ rfl rfl hl.1 rfl (lv_room (Nat.le_of_ble_eq_true rfl)) dX7_ask_69 ⟨Nat.le_of_ble_eq_true rfl, Nat.le_of_ble_eq_true rfl⟩) hS (fun q _ h9 => aX_up hS q h9) (aX_up hS) (fun r_148 u t H1 locs ht _ hw hB _ hk1 hS => ?_)
          obtain ⟨fv_152, wd_153, ar_154⟩ := u
          obtain ⟨hF_fv_152, hA_ar_154, fr_155, fa_156, wf_157, p_149, p_150, p_151, -⟩ := hw
          have wf_157 : wd_153.2 = wd_139.2 := wf_157
          have hP : va_P (dC, dI) vwCl (wsX ob ad cA fv_152 wd_153 ar_154) H1 := by have h9 := hB.1; rw [ht] at h9; exact h9
          have fr_155 : fM [] fv_138 fv_152 := fr_155
          have fa_156 : fA [] ar_140 ar_154 := fa_156
          have p_150 : r_148.toInt < lln := p_150
          have p_151 : r_148.toInt = cd_fi (cd_f (ar_140 4)) a.toInt (cd_Wf (cd_gX llr) lln 0) 0 := p_151
          generalize H1 = H at hP hS ⊢
          have lf_158 : r_148.toInt = cd_fi (cd_fc (ar 20 ((ar 28 (kk.toInt.toNat)).toInt.toNat)).toInt (ar 23 ((ar 28 (kk.toInt.toNat)).toInt.toNat)).toInt (ar 22 ((ar 28 (kk.toInt.toNat)).toInt.toNat)).toInt (wt_rf (fv 7) (fv 5) (ar 3)) (ar 31 (kk.toInt.toNat)).toInt (fv 7).toInt (ar 29 (kk.toInt.toNat)).toInt (ar 30 (kk.toInt.toNat)).toInt (cd_ri a.toInt b.toInt) d.toInt) a.toInt (cd_Wf (cd_gX llr) lln 0) 0 := by have h9 := p_151; rw [sf_144] at h9; exact h9
          refine pX_X7_137 hx hb htg hown hK hP hS hd dX7_ask_72 (fun H locs fv_159 efv_159 hP hS => ?_)
          have hF_fv_159 : rX fv_159 := rX_put hF_fv_152 efv_159 (iv_any _)
          refine lv_aload_n hx hb dX7_ask_75 rfl (lv_at hl 1 rfl) ?_
          refine gX_X7_137 hx hb htg hown hK hP dX7_ask_76 ?_
          refine my_ti (y := r_148) ((congrFun efv_159 6)) ?_
          refine lv_iconst (v := (-1)) hx hb dX7_ask_79 (by decide) ?_
          refine lv_icmp_ne (tgt := 92) hx hb dX7_ask_80 (by decide) (fun c_160 => ?_) (fun c_160 => ?_)
          · skip
            have i_161 : 0 ≤ r_148.toInt ∧ r_148.toInt ≤ 15 := iv_nel p_149 (by decide) c_160
            have k_162 : ¬ r_148.toInt = (-1) := fun q => c_160 (Int32.toInt_inj.mp q)
            refine lv_aload_n hx hb dX7_ask_92 rfl (lv_at hl 2 rfl) ?_
            refine gL_X7_144 hx hb htg hown (lw_K hL) (lw_now hL hS) dX7_ask_93 ?_
            refine lv_aload_n hx hb dX7_ask_96 rfl (lv_at hl 1 rfl) ?_
            refine gX_X7_137 hx hb htg hown hK hP dX7_ask_97 ?_
            refine my_ti (y := r_148) ((congrFun efv_159 6)) ?_
            refine lL_2 hx hb (lw_K hL) (lw_now hL hS) (vp_in_iff.mpr (by omega)) dX7_ask_100 (fun v_163 ev_163 => ?_)
            exact W.iret (v := v_163) hx hb hr (fun t ht hW => ⟨⟨v_163, (fv_159, wd_153, ar_154), rfl, ⟨hF_fv_159, hA_ar_154, (fM_put (fM_call (fM_call (fM_rf [6] _) fr_141 (by decide)) fr_155 (by decide)) efv_159 (by decide)), (fA_call (fA_call (fA_rf [4] _) fa_142 (by decide)) fa_156 (by decide)), (wf_157.trans wf_143), (show (fv_159 6).toInt = cd_al (cd_fc (ar 20 ((ar 28 (kk.toInt.toNat)).toInt.toNat)).toInt (ar 23 ((ar 28 (kk.toInt.toNat)).toInt.toNat)).toInt (ar 22 ((ar 28 (kk.toInt.toNat)).toInt.toNat)).toInt (wt_rf (fv 7) (fv 5) (ar 3)) (ar 31 (kk.toInt.toNat)).toInt (fv 7).toInt (ar 29 (kk.toInt.toNat)).toInt (ar 30 (kk.toInt.toNat)).toInt (cd_ri a.toInt b.toInt) d.toInt) a.toInt (decide ((ar 20 ((ar 28 (kk.toInt.toNat)).toInt.toNat)).toInt = 2)) (cd_Wf (cd_gX llr) lln 0) from by have hal : cd_al (cd_fc (ar 20 ((ar 28 (kk.toInt.toNat)).toInt.toNat)).toInt (ar 23 ((ar 28 (kk.toInt.toNat)).toInt.toNat)).toInt (ar 22 ((ar 28 (kk.toInt.toNat)).toInt.toNat)).toInt (wt_rf (fv 7) (fv 5) (ar 3)) (ar 31 (kk.toInt.toNat)).toInt (fv 7).toInt (ar 29 (kk.toInt.toNat)).toInt (ar 30 (kk.toInt.toNat)).toInt (cd_ri a.toInt b.toInt) d.toInt) a.toInt (decide ((ar 20 ((ar 28 (kk.toInt.toNat)).toInt.toNat)).toInt = 2)) (cd_Wf (cd_gX llr) lln 0) = r_148.toInt := (by unfold cd_al; rw [if_neg (fun w => by omega)]; exact (lf_158).symm); rw [hal, show fv_159 6 = r_148 from (congrFun efv_159 6)]), (show v_163.toInt = cd_av (cd_fc (ar 20 ((ar 28 (kk.toInt.toNat)).toInt.toNat)).toInt (ar 23 ((ar 28 (kk.toInt.toNat)).toInt.toNat)).toInt (ar 22 ((ar 28 (kk.toInt.toNat)).toInt.toNat)).toInt (wt_rf (fv 7) (fv 5) (ar 3)) (ar 31 (kk.toInt.toNat)).toInt (fv 7).toInt (ar 29 (kk.toInt.toNat)).toInt (ar 30 (kk.toInt.toNat)).toInt (cd_ri a.toInt b.toInt) d.toInt) a.toInt (decide ((ar 20 ((ar 28 (kk.toInt.toNat)).toInt.toNat)).toInt = 2)) (cd_Wf (cd_gX llr) lln 0) from by have hal : cd_al (cd_fc (ar 20 ((ar 28 (kk.toInt.toNat)).toInt.toNat)).toInt (ar 23 ((ar 28 (kk.toInt.toNat)).toInt.toNat)).toInt (ar 22 ((ar 28 (kk.toInt.toNat)).toInt.toNat)).toInt (wt_rf (fv 7) (fv 5) (ar 3)) (ar 31 (kk.toInt.toNat)).toInt (fv 7).toInt (ar 29 (kk.toInt.toNat)).toInt (ar 30 (kk.toInt.toNat)).toInt (cd_ri a.toInt b.toInt) d.toInt) a.toInt (decide ((ar 20 ((ar 28 (kk.toInt.toNat)).toInt.toNat)).toInt = 2)) (cd_Wf (cd_gX llr) lln 0) = r_148.toInt := (by unfold cd_al; rw [if_neg (fun w => by omega)]; exact (lf_158).symm); have hv9 : llr 2 (r_148.toInt.toNat) = v_163 := ev_163.symm; unfold cd_av; rw [if_neg (by rw [hal]; omega)]; rcases cd_fi_val (f := (cd_fc (ar 20 ((ar 28 (kk.toInt.toNat)).toInt.toNat)).toInt (ar 23 ((ar 28 (kk.toInt.toNat)).toInt.toNat)).toInt (ar 22 ((ar 28 (kk.toInt.toNat)).toInt.toNat)).toInt (wt_rf (fv 7) (fv 5) (ar 3)) (ar 31 (kk.toInt.toNat)).toInt (fv 7).toInt (ar 29 (kk.toInt.toNat)).toInt (ar 30 (kk.toInt.toNat)).toInt (cd_ri a.toInt b.toInt) d.toInt)) (k := a.toInt) (g := cd_gX llr) lln 0 with h9 | ⟨j9, h1, h2, h3, h4⟩; exfalso; omega; rw [← h4, show j9 = r_148.toInt.toNat from by omega]; show _ = (llr 2 (r_148.toInt.toNat)).toInt; rw [hv9]), (mx_f01_fr hp_145 (fA_call (fA_rf [] _) fa_156 (by decide)) rfl), trivial⟩, ⟨by rw [ht]; exact hP, va_K.moved hW.alike hK⟩⟩, hS.F ht⟩) hS.2.2 dX7_ask_101
          · skip
            have i_164 : (-1) ≤ r_148.toInt ∧ r_148.toInt ≤ (-1) := iv_eq1 (⟨by decide, by decide⟩ : (-1 : Int) ≤ ((-1) : Int32).toInt ∧ ((-1) : Int32).toInt ≤ -1) c_160
            refine lv_iload hx hb dX7_ask_83 (lv_at hl 0 rfl) ?_
            refine lv_iload_n hx hb dX7_ask_85 rfl (lv_at hl 4 rfl) ?_
            refine va_calli (va_runS (As := [.int 1, .int a]) (rest := []) ⟨hx, hb, hml, hown, hts⟩ (x_plainValueE l H.size 1 a (iv_w (⟨by decide, by decide⟩ : (1 : Int) ≤ (1 : Int32).toInt ∧ (1 : Int32).toInt ≤ 1) (by decide) (by decide))) (va_cwS 2 hts (gS kw_5_38 kw_5_39 kw_1_2 kw_5_40) rfl rfl rfl (by decide +kernel) ⟨Nat.le_of_ble_eq_true rfl, Nat.le_of_ble_eq_true rfl⟩) ⟨fun a U g mk q => ⟨q.1, q.2⟩, fun U hU hW => ⟨rfl, congrArg Array.size hU⟩⟩ rfl rfl hl.1 rfl (lv_room (Nat.le_of_ble_eq_true rfl)) dX7_ask_86 ⟨Nat.le_of_ble_eq_true rfl, Nat.le_of_ble_eq_true rfl⟩) hS (fun q _ h9 => nX_up hS q h9) (nX_up hS) (fun r_166 u t H1 locs ht _ hw hB _ hk1 hS => ?_)
            obtain ⟨p_167, -⟩ := hw
            have hP := my_keepM hP hk1
            generalize H1 = H at hP hS ⊢
            refine lv_goto (tgt := 101) hx hb dX7_ask_89 (by decide) ?_
            exact W.iret (v := r_166) hx hb hr (fun t ht hW => ⟨⟨r_166, (fv_159, wd_153, ar_154), rfl, ⟨hF_fv_159, hA_ar_154, (fM_put (fM_call (fM_call (fM_rf [6] _) fr_141 (by decide)) fr_155 (by decide)) efv_159 (by decide)), (fA_call (fA_call (fA_rf [4] _) fa_142 (by decide)) fa_156 (by decide)), (wf_157.trans wf_143), (show (fv_159 6).toInt = cd_al (cd_fc (ar 20 ((ar 28 (kk.toInt.toNat)).toInt.toNat)).toInt (ar 23 ((ar 28 (kk.toInt.toNat)).toInt.toNat)).toInt (ar 22 ((ar 28 (kk.toInt.toNat)).toInt.toNat)).toInt (wt_rf (fv 7) (fv 5) (ar 3)) (ar 31 (kk.toInt.toNat)).toInt (fv 7).toInt (ar 29 (kk.toInt.toNat)).toInt (ar 30 (kk.toInt.toNat)).toInt (cd_ri a.toInt b.toInt) d.toInt) a.toInt (decide ((ar 20 ((ar 28 (kk.toInt.toNat)).toInt.toNat)).toInt = 2)) (cd_Wf (cd_gX llr) lln 0) from by have hal : cd_al (cd_fc (ar 20 ((ar 28 (kk.toInt.toNat)).toInt.toNat)).toInt (ar 23 ((ar 28 (kk.toInt.toNat)).toInt.toNat)).toInt (ar 22 ((ar 28 (kk.toInt.toNat)).toInt.toNat)).toInt (wt_rf (fv 7) (fv 5) (ar 3)) (ar 31 (kk.toInt.toNat)).toInt (fv 7).toInt (ar 29 (kk.toInt.toNat)).toInt (ar 30 (kk.toInt.toNat)).toInt (cd_ri a.toInt b.toInt) d.toInt) a.toInt (decide ((ar 20 ((ar 28 (kk.toInt.toNat)).toInt.toNat)).toInt = 2)) (cd_Wf (cd_gX llr) lln 0) = r_148.toInt := (by unfold cd_al; rw [if_neg (fun w => by omega)]; exact (lf_158).symm); rw [hal, show fv_159 6 = r_148 from (congrFun efv_159 6)]), (show r_166.toInt = cd_av (cd_fc (ar 20 ((ar 28 (kk.toInt.toNat)).toInt.toNat)).toInt (ar 23 ((ar 28 (kk.toInt.toNat)).toInt.toNat)).toInt (ar 22 ((ar 28 (kk.toInt.toNat)).toInt.toNat)).toInt (wt_rf (fv 7) (fv 5) (ar 3)) (ar 31 (kk.toInt.toNat)).toInt (fv 7).toInt (ar 29 (kk.toInt.toNat)).toInt (ar 30 (kk.toInt.toNat)).toInt (cd_ri a.toInt b.toInt) d.toInt) a.toInt (decide ((ar 20 ((ar 28 (kk.toInt.toNat)).toInt.toNat)).toInt = 2)) (cd_Wf (cd_gX llr) lln 0) from by have hal : cd_al (cd_fc (ar 20 ((ar 28 (kk.toInt.toNat)).toInt.toNat)).toInt (ar 23 ((ar 28 (kk.toInt.toNat)).toInt.toNat)).toInt (ar 22 ((ar 28 (kk.toInt.toNat)).toInt.toNat)).toInt (wt_rf (fv 7) (fv 5) (ar 3)) (ar 31 (kk.toInt.toNat)).toInt (fv 7).toInt (ar 29 (kk.toInt.toNat)).toInt (ar 30 (kk.toInt.toNat)).toInt (cd_ri a.toInt b.toInt) d.toInt) a.toInt (decide ((ar 20 ((ar 28 (kk.toInt.toNat)).toInt.toNat)).toInt = 2)) (cd_Wf (cd_gX llr) lln 0) = r_148.toInt := (by unfold cd_al; rw [if_neg (fun w => by omega)]; exact (lf_158).symm); have hm1 : ((-1) : Int32).toInt = -1 := (by decide); unfold cd_av; rw [if_pos (by rw [hal]; omega), p_167, htx]; rfl), (mx_f01_fr hp_145 (fA_call (fA_rf [] _) fa_156 (by decide)) rfl), trivial⟩, ⟨by rw [ht]; exact hP, va_K.moved hW.alike hK⟩⟩, hS.F ht⟩) hS.2.2 dX7_ask_101
        · skip
          have i_168 : 5 ≤ a.toInt ∧ a.toInt ≤ 5 := iv_eq1 (⟨by decide, by decide⟩ : (5 : Int) ≤ (5 : Int32).toInt ∧ (5 : Int32).toInt ≤ 5) c_146
          refine lv_iload hx hb dX7_ask_54 (lv_at hl 0 rfl) ?_
          refine lv_if_eq (tgt := 63) hx hb dX7_ask_56 (by decide) (fun c_170 => ?_) (fun c_170 => ?_)
          · skip
            exact absurd c_170 (by decide)
          · skip
            refine lv_iconst (v := (-1)) hx hb dX7_ask_59 (by decide) ?_
            refine lv_goto (tgt := 72) hx hb dX7_ask_60 (by decide) ?_
            refine pX_X7_137 hx hb htg hown hK hP hS hd dX7_ask_72 (fun H locs fv_171 efv_171 hP hS => ?_)
            have hF_fv_171 : rX fv_171 := rX_put hF_fv_138 efv_171 (iv_any _)
            refine lv_aload_n hx hb dX7_ask_75 rfl (lv_at hl 1 rfl) ?_
            refine gX_X7_137 hx hb htg hown hK hP dX7_ask_76 ?_
            refine my_ti (y := (-1)) ((congrFun efv_171 6)) ?_
            refine lv_iconst (v := (-1)) hx hb dX7_ask_79 (by decide) ?_
            refine lv_icmp_ne (tgt := 92) hx hb dX7_ask_80 (by decide) (fun c_172 => ?_) (fun c_172 => ?_)
            · skip
              exact absurd c_172 (by decide)
            · skip
              refine lv_iload hx hb dX7_ask_83 (lv_at hl 0 rfl) ?_
              refine lv_iload_n hx hb dX7_ask_85 rfl (lv_at hl 4 rfl) ?_
              refine va_calli (va_runS (As := [.int 1, .int a]) (rest := []) ⟨hx, hb, hml, hown, hts⟩ (x_plainValueE l H.size 1 a (iv_w (⟨by decide, by decide⟩ : (1 : Int) ≤ (1 : Int32).toInt ∧ (1 : Int32).toInt ≤ 1) (by decide) (by decide))) (va_cwS 2 hts (gS kw_5_38 kw_5_39 kw_1_2 kw_5_40) rfl rfl rfl (by decide +kernel) ⟨Nat.le_of_ble_eq_true rfl, Nat.le_of_ble_eq_true rfl⟩) ⟨fun a U g mk q => ⟨q.1, q.2⟩, fun U hU hW => ⟨rfl, congrArg Array.size hU⟩⟩ rfl rfl hl.1 rfl (lv_room (Nat.le_of_ble_eq_true rfl)) dX7_ask_86 ⟨Nat.le_of_ble_eq_true rfl, Nat.le_of_ble_eq_true rfl⟩) hS (fun q _ h9 => nX_up hS q h9) (nX_up hS) (fun r_173 u t H1 locs ht _ hw hB _ hk1 hS => ?_)
              obtain ⟨p_174, -⟩ := hw
              have hP := my_keepM hP hk1
              generalize H1 = H at hP hS ⊢
              refine lv_goto (tgt := 101) hx hb dX7_ask_89 (by decide) ?_
              exact W.iret (v := r_173) hx hb hr (fun t ht hW => ⟨⟨r_173, (fv_171, wd_139, ar_140), rfl, ⟨hF_fv_171, hA_ar_140, (fM_put (fM_call (fM_rf [6] _) fr_141 (by decide)) efv_171 (by decide)), (fA_call (fA_rf [4] _) fa_142 (by decide)), wf_143, (show (fv_171 6).toInt = cd_al (cd_fc (ar 20 ((ar 28 (kk.toInt.toNat)).toInt.toNat)).toInt (ar 23 ((ar 28 (kk.toInt.toNat)).toInt.toNat)).toInt (ar 22 ((ar 28 (kk.toInt.toNat)).toInt.toNat)).toInt (wt_rf (fv 7) (fv 5) (ar 3)) (ar 31 (kk.toInt.toNat)).toInt (fv 7).toInt (ar 29 (kk.toInt.toNat)).toInt (ar 30 (kk.toInt.toNat)).toInt (cd_ri a.toInt b.toInt) d.toInt) a.toInt (decide ((ar 20 ((ar 28 (kk.toInt.toNat)).toInt.toNat)).toInt = 2)) (cd_Wf (cd_gX llr) lln 0) from by have hal : cd_al (cd_fc (ar 20 ((ar 28 (kk.toInt.toNat)).toInt.toNat)).toInt (ar 23 ((ar 28 (kk.toInt.toNat)).toInt.toNat)).toInt (ar 22 ((ar 28 (kk.toInt.toNat)).toInt.toNat)).toInt (wt_rf (fv 7) (fv 5) (ar 3)) (ar 31 (kk.toInt.toNat)).toInt (fv 7).toInt (ar 29 (kk.toInt.toNat)).toInt (ar 30 (kk.toInt.toNat)).toInt (cd_ri a.toInt b.toInt) d.toInt) a.toInt (decide ((ar 20 ((ar 28 (kk.toInt.toNat)).toInt.toNat)).toInt = 2)) (cd_Wf (cd_gX llr) lln 0) = -1 := (by unfold cd_al; rw [if_pos ⟨by omega, htx⟩]); rw [hal, show fv_171 6 = ((-1) : Int32) from (congrFun efv_171 6)]; decide), (show r_173.toInt = cd_av (cd_fc (ar 20 ((ar 28 (kk.toInt.toNat)).toInt.toNat)).toInt (ar 23 ((ar 28 (kk.toInt.toNat)).toInt.toNat)).toInt (ar 22 ((ar 28 (kk.toInt.toNat)).toInt.toNat)).toInt (wt_rf (fv 7) (fv 5) (ar 3)) (ar 31 (kk.toInt.toNat)).toInt (fv 7).toInt (ar 29 (kk.toInt.toNat)).toInt (ar 30 (kk.toInt.toNat)).toInt (cd_ri a.toInt b.toInt) d.toInt) a.toInt (decide ((ar 20 ((ar 28 (kk.toInt.toNat)).toInt.toNat)).toInt = 2)) (cd_Wf (cd_gX llr) lln 0) from by have hal : cd_al (cd_fc (ar 20 ((ar 28 (kk.toInt.toNat)).toInt.toNat)).toInt (ar 23 ((ar 28 (kk.toInt.toNat)).toInt.toNat)).toInt (ar 22 ((ar 28 (kk.toInt.toNat)).toInt.toNat)).toInt (wt_rf (fv 7) (fv 5) (ar 3)) (ar 31 (kk.toInt.toNat)).toInt (fv 7).toInt (ar 29 (kk.toInt.toNat)).toInt (ar 30 (kk.toInt.toNat)).toInt (cd_ri a.toInt b.toInt) d.toInt) a.toInt (decide ((ar 20 ((ar 28 (kk.toInt.toNat)).toInt.toNat)).toInt = 2)) (cd_Wf (cd_gX llr) lln 0) = -1 := (by unfold cd_al; rw [if_pos ⟨by omega, htx⟩]); have hm1 : ((-1) : Int32).toInt = -1 := (by decide); unfold cd_av; rw [if_pos (by rw [hal]), p_174, htx]; rfl), hp_145, trivial⟩, ⟨by rw [ht]; exact hP, va_K.moved hW.alike hK⟩⟩, hS.F ht⟩) hS.2.2 dX7_ask_101
      · skip
        exact absurd c_133 (by decide)
    · skip
      have q_175 : a.toInt = 0 ∨ a.toInt = 2 ∨ a.toInt = 5 := p_131
      refine lv_if_eq (tgt := 41) hx hb dX7_ask_34 (by decide) (fun c_176 => ?_) (fun c_176 => ?_)
      · skip
        exact absurd c_176 (by decide)
      · skip
        refine lv_iconst (v := 0) hx hb dX7_ask_37 (by decide) ?_
        refine lv_goto (tgt := 43) hx hb dX7_ask_38 (by decide) ?_
        refine lv_iload hx hb dX7_ask_43 (lv_at hl 6 rfl) ?_
        have z_177 : 0 ≤ (fv 5).toInt ∧ (fv 5).toInt ≤ 200 := hF_fv 5
        have z_178 : 0 ≤ (fv 7).toInt ∧ (fv 7).toInt ≤ 199 := hF_fv 7
        refine va_callv (va_runV (As := [.int kk, .int 0, .int d]) (rest := []) ⟨hx, hb, hml, hown, hts⟩ (x_setFactsE l dC dI H.size ob ad cA hd fv wd ar hF_fv hA_ar kk 0 d h_kk) (cwV 3 hts (gV kw_5_25 kw_5_27 kw_p_19 kw_1_2 kw_5_28) rfl rfl rfl (by decide +kernel) ⟨Nat.le_of_ble_eq_true rfl, Nat.le_of_ble_eq_true rfl⟩) ⟨fun a U g mk q => ⟨q.1, q.2.1, q.2.2.1, va_K.moved (u := U) (U := U.calling g mk a) (Vm.Alike.refl U.vm) q.2.2.2⟩, va_recv hK hP (ci := 7) (q0 := 1) rfl rfl, fun U hU hW => ⟨rfl, by rw [hU], by rw [hU]; exact hP, va_K.moved hW.alike hK⟩⟩ rfl rfl hl.1 rfl (lv_room (Nat.le_of_ble_eq_true rfl)) dX7_ask_45 ⟨Nat.le_of_ble_eq_true rfl, Nat.le_of_ble_eq_true rfl⟩) hS (fun q _ h9 => aX_up hS q h9) (aX_up hS) (fun u t H1 locs ht _ hw hB _ hk1 hS => ?_)
        obtain ⟨fv_181, wd_182, ar_183⟩ := u
        obtain ⟨hF_fv_181, hA_ar_183, fr_184, fa_185, wf_186, p_180, -⟩ := hw
        have wf_186 : wd_182.2 = wd.2 := wf_186
        have hP : va_P (dC, dI) vwCl (wsX ob ad cA fv_181 wd_182 ar_183) H1 := by have h9 := hB.1; rw [ht] at h9; exact h9
        have fr_184 : fM [] fv fv_181 := fr_184
        have fa_185 : fA [4] ar ar_183 := fa_185
        have p_180 : cd_f (ar_183 4) = (cd_fc (ar 20 ((ar 28 (kk.toInt.toNat)).toInt.toNat)).toInt (ar 23 ((ar 28 (kk.toInt.toNat)).toInt.toNat)).toInt (ar 22 ((ar 28 (kk.toInt.toNat)).toInt.toNat)).toInt (wt_rf (fv 7) (fv 5) (ar 3)) (ar 31 (kk.toInt.toNat)).toInt (fv 7).toInt (ar 29 (kk.toInt.toNat)).toInt (ar 30 (kk.toInt.toNat)).toInt (0 : Int32).toInt d.toInt) := p_180
        generalize H1 = H at hP hS ⊢
        have sf_187 : cd_f (ar_183 4) = (cd_fc (ar 20 ((ar 28 (kk.toInt.toNat)).toInt.toNat)).toInt (ar 23 ((ar 28 (kk.toInt.toNat)).toInt.toNat)).toInt (ar 22 ((ar 28 (kk.toInt.toNat)).toInt.toNat)).toInt (wt_rf (fv 7) (fv 5) (ar 3)) (ar 31 (kk.toInt.toNat)).toInt (fv 7).toInt (ar 29 (kk.toInt.toNat)).toInt (ar 30 (kk.toInt.toNat)).toInt (cd_ri a.toInt b.toInt) d.toInt) := by have hri : ((0 : Int32)).toInt = cd_ri a.toInt b.toInt := (by unfold cd_ri; rw [if_pos q_175]; decide); have h9 := p_180; rw [hri] at h9; exact h9
        have hp_188 : mx_f01 ar_183 := by intro k9 h9; rw [sf_187]; exact cd_fc01 k9 h9
        refine lv_aload_n hx hb dX7_ask_48 rfl (lv_at hl 1 rfl) ?_
        refine lv_iload_n hx hb dX7_ask_49 rfl (lv_at hl 4 rfl) ?_
        refine lv_iconst (v := 5) hx hb dX7_ask_50 (by decide) ?_
        refine lv_icmp_ne (tgt := 63) hx hb dX7_ask_51 (by decide) (fun c_189 => ?_) (fun c_189 => ?_)
        · skip
          have k_190 : ¬ a.toInt = 5 := fun q => c_189 (Int32.toInt_inj.mp q)
          refine lv_aload_n hx hb dX7_ask_63 rfl (lv_at hl 2 rfl) ?_
          refine lv_iload_n hx hb dX7_ask_64 rfl (lv_at hl 4 rfl) ?_
          refine lv_aload_n hx hb dX7_ask_65 rfl (lv_at hl 1 rfl) ?_
          refine gX_X7_62 hx hb htg hown hK hP dX7_ask_66 ?_
          refine va_calli (va_runV (As := [.int a, .ref (ad 4)]) (rest := [.ref (ob 1)]) ⟨hx, hb, hml, hown, hts⟩ (x_lineForE l dC dI H.size ob ad cA hd fv_181 wd_182 ar_183 hF_fv_181 hA_ar_183 la lfr lra lrc lln lcn llr hlq a hgd (by rw [sf_187]; exact cd_fc01)) (cwV 2 hts (gV kw_5_30 kw_5_31 kw_5_32 kw_1_10 kw_5_33) rfl rfl rfl (by decide +kernel) ⟨Nat.le_of_ble_eq_true rfl, Nat.le_of_ble_eq_true rfl⟩) ⟨fun a U g mk q => ⟨q.1, ⟨q.2.1.1, q.2.1.2.1, va_K.moved (u := U) (U := U.calling g mk a) (Vm.Alike.refl U.vm) q.2.1.2.2⟩, ⟨q.2.2.1, va_K.moved (u := U) (U := U.calling g mk a) (Vm.Alike.refl U.vm) q.2.2.2.1, q.2.2.2.2⟩⟩, va_recv (lw_K hL) (lw_now hL hS) (ci := 1) (q0 := 0) rfl rfl, fun U hU hW => ⟨rfl, ⟨by rw [hU], by rw [hU]; exact hP, va_K.moved hW.alike hK⟩, lw_pass hL hS hU hW.alike⟩⟩ rfl rfl hl.1 rfl (lv_room (Nat.le_of_ble_eq_true rfl)) dX7_ask_69 ⟨Nat.le_of_ble_eq_true rfl, Nat.le_of_ble_eq_true rfl⟩) hS (fun q _ h9 => aX_up hS q h9) (aX_up hS) (fun r_191 u t H1 locs ht _ hw hB _ hk1 hS => ?_)
          obtain ⟨fv_195, wd_196, ar_197⟩ := u
          obtain ⟨hF_fv_195, hA_ar_197, fr_198, fa_199, wf_200, p_192, p_193, p_194, -⟩ := hw
          have wf_200 : wd_196.2 = wd_182.2 := wf_200
          have hP : va_P (dC, dI) vwCl (wsX ob ad cA fv_195 wd_196 ar_197) H1 := by have h9 := hB.1; rw [ht] at h9; exact h9
          have fr_198 : fM [] fv_181 fv_195 := fr_198
          have fa_199 : fA [] ar_183 ar_197 := fa_199
          have p_193 : r_191.toInt < lln := p_193
          have p_194 : r_191.toInt = cd_fi (cd_f (ar_183 4)) a.toInt (cd_Wf (cd_gX llr) lln 0) 0 := p_194
          generalize H1 = H at hP hS ⊢
          have lf_201 : r_191.toInt = cd_fi (cd_fc (ar 20 ((ar 28 (kk.toInt.toNat)).toInt.toNat)).toInt (ar 23 ((ar 28 (kk.toInt.toNat)).toInt.toNat)).toInt (ar 22 ((ar 28 (kk.toInt.toNat)).toInt.toNat)).toInt (wt_rf (fv 7) (fv 5) (ar 3)) (ar 31 (kk.toInt.toNat)).toInt (fv 7).toInt (ar 29 (kk.toInt.toNat)).toInt (ar 30 (kk.toInt.toNat)).toInt (cd_ri a.toInt b.toInt) d.toInt) a.toInt (cd_Wf (cd_gX llr) lln 0) 0 := by have h9 := p_194; rw [sf_187] at h9; exact h9
          refine pX_X7_137 hx hb htg hown hK hP hS hd dX7_ask_72 (fun H locs fv_202 efv_202 hP hS => ?_)
          have hF_fv_202 : rX fv_202 := rX_put hF_fv_195 efv_202 (iv_any _)
          refine lv_aload_n hx hb dX7_ask_75 rfl (lv_at hl 1 rfl) ?_
          refine gX_X7_137 hx hb htg hown hK hP dX7_ask_76 ?_
          refine my_ti (y := r_191) ((congrFun efv_202 6)) ?_
          refine lv_iconst (v := (-1)) hx hb dX7_ask_79 (by decide) ?_
          refine lv_icmp_ne (tgt := 92) hx hb dX7_ask_80 (by decide) (fun c_203 => ?_) (fun c_203 => ?_)
          · skip
            have i_204 : 0 ≤ r_191.toInt ∧ r_191.toInt ≤ 15 := iv_nel p_192 (by decide) c_203
            have k_205 : ¬ r_191.toInt = (-1) := fun q => c_203 (Int32.toInt_inj.mp q)
            refine lv_aload_n hx hb dX7_ask_92 rfl (lv_at hl 2 rfl) ?_
            refine gL_X7_144 hx hb htg hown (lw_K hL) (lw_now hL hS) dX7_ask_93 ?_
            refine lv_aload_n hx hb dX7_ask_96 rfl (lv_at hl 1 rfl) ?_
            refine gX_X7_137 hx hb htg hown hK hP dX7_ask_97 ?_
            refine my_ti (y := r_191) ((congrFun efv_202 6)) ?_
            refine lL_2 hx hb (lw_K hL) (lw_now hL hS) (vp_in_iff.mpr (by omega)) dX7_ask_100 (fun v_206 ev_206 => ?_)
            exact W.iret (v := v_206) hx hb hr (fun t ht hW => ⟨⟨v_206, (fv_202, wd_196, ar_197), rfl, ⟨hF_fv_202, hA_ar_197, (fM_put (fM_call (fM_call (fM_rf [6] _) fr_184 (by decide)) fr_198 (by decide)) efv_202 (by decide)), (fA_call (fA_call (fA_rf [4] _) fa_185 (by decide)) fa_199 (by decide)), (wf_200.trans wf_186), (show (fv_202 6).toInt = cd_al (cd_fc (ar 20 ((ar 28 (kk.toInt.toNat)).toInt.toNat)).toInt (ar 23 ((ar 28 (kk.toInt.toNat)).toInt.toNat)).toInt (ar 22 ((ar 28 (kk.toInt.toNat)).toInt.toNat)).toInt (wt_rf (fv 7) (fv 5) (ar 3)) (ar 31 (kk.toInt.toNat)).toInt (fv 7).toInt (ar 29 (kk.toInt.toNat)).toInt (ar 30 (kk.toInt.toNat)).toInt (cd_ri a.toInt b.toInt) d.toInt) a.toInt (decide ((ar 20 ((ar 28 (kk.toInt.toNat)).toInt.toNat)).toInt = 2)) (cd_Wf (cd_gX llr) lln 0) from by have hal : cd_al (cd_fc (ar 20 ((ar 28 (kk.toInt.toNat)).toInt.toNat)).toInt (ar 23 ((ar 28 (kk.toInt.toNat)).toInt.toNat)).toInt (ar 22 ((ar 28 (kk.toInt.toNat)).toInt.toNat)).toInt (wt_rf (fv 7) (fv 5) (ar 3)) (ar 31 (kk.toInt.toNat)).toInt (fv 7).toInt (ar 29 (kk.toInt.toNat)).toInt (ar 30 (kk.toInt.toNat)).toInt (cd_ri a.toInt b.toInt) d.toInt) a.toInt (decide ((ar 20 ((ar 28 (kk.toInt.toNat)).toInt.toNat)).toInt = 2)) (cd_Wf (cd_gX llr) lln 0) = r_191.toInt := (by unfold cd_al; rw [if_neg (fun w => by omega)]; exact (lf_201).symm); rw [hal, show fv_202 6 = r_191 from (congrFun efv_202 6)]), (show v_206.toInt = cd_av (cd_fc (ar 20 ((ar 28 (kk.toInt.toNat)).toInt.toNat)).toInt (ar 23 ((ar 28 (kk.toInt.toNat)).toInt.toNat)).toInt (ar 22 ((ar 28 (kk.toInt.toNat)).toInt.toNat)).toInt (wt_rf (fv 7) (fv 5) (ar 3)) (ar 31 (kk.toInt.toNat)).toInt (fv 7).toInt (ar 29 (kk.toInt.toNat)).toInt (ar 30 (kk.toInt.toNat)).toInt (cd_ri a.toInt b.toInt) d.toInt) a.toInt (decide ((ar 20 ((ar 28 (kk.toInt.toNat)).toInt.toNat)).toInt = 2)) (cd_Wf (cd_gX llr) lln 0) from by have hal : cd_al (cd_fc (ar 20 ((ar 28 (kk.toInt.toNat)).toInt.toNat)).toInt (ar 23 ((ar 28 (kk.toInt.toNat)).toInt.toNat)).toInt (ar 22 ((ar 28 (kk.toInt.toNat)).toInt.toNat)).toInt (wt_rf (fv 7) (fv 5) (ar 3)) (ar 31 (kk.toInt.toNat)).toInt (fv 7).toInt (ar 29 (kk.toInt.toNat)).toInt (ar 30 (kk.toInt.toNat)).toInt (cd_ri a.toInt b.toInt) d.toInt) a.toInt (decide ((ar 20 ((ar 28 (kk.toInt.toNat)).toInt.toNat)).toInt = 2)) (cd_Wf (cd_gX llr) lln 0) = r_191.toInt := (by unfold cd_al; rw [if_neg (fun w => by omega)]; exact (lf_201).symm); have hv9 : llr 2 (r_191.toInt.toNat) = v_206 := ev_206.symm; unfold cd_av; rw [if_neg (by rw [hal]; omega)]; rcases cd_fi_val (f := (cd_fc (ar 20 ((ar 28 (kk.toInt.toNat)).toInt.toNat)).toInt (ar 23 ((ar 28 (kk.toInt.toNat)).toInt.toNat)).toInt (ar 22 ((ar 28 (kk.toInt.toNat)).toInt.toNat)).toInt (wt_rf (fv 7) (fv 5) (ar 3)) (ar 31 (kk.toInt.toNat)).toInt (fv 7).toInt (ar 29 (kk.toInt.toNat)).toInt (ar 30 (kk.toInt.toNat)).toInt (cd_ri a.toInt b.toInt) d.toInt)) (k := a.toInt) (g := cd_gX llr) lln 0 with h9 | ⟨j9, h1, h2, h3, h4⟩; exfalso; omega; rw [← h4, show j9 = r_191.toInt.toNat from by omega]; show _ = (llr 2 (r_191.toInt.toNat)).toInt; rw [hv9]), (mx_f01_fr hp_188 (fA_call (fA_rf [] _) fa_199 (by decide)) rfl), trivial⟩, ⟨by rw [ht]; exact hP, va_K.moved hW.alike hK⟩⟩, hS.F ht⟩) hS.2.2 dX7_ask_101
          · skip
            have i_207 : (-1) ≤ r_191.toInt ∧ r_191.toInt ≤ (-1) := iv_eq1 (⟨by decide, by decide⟩ : (-1 : Int) ≤ ((-1) : Int32).toInt ∧ ((-1) : Int32).toInt ≤ -1) c_203
            refine lv_iload hx hb dX7_ask_83 (lv_at hl 0 rfl) ?_
            refine lv_iload_n hx hb dX7_ask_85 rfl (lv_at hl 4 rfl) ?_
            refine va_calli (va_runS (As := [.int 1, .int a]) (rest := []) ⟨hx, hb, hml, hown, hts⟩ (x_plainValueE l H.size 1 a (iv_w (⟨by decide, by decide⟩ : (1 : Int) ≤ (1 : Int32).toInt ∧ (1 : Int32).toInt ≤ 1) (by decide) (by decide))) (va_cwS 2 hts (gS kw_5_38 kw_5_39 kw_1_2 kw_5_40) rfl rfl rfl (by decide +kernel) ⟨Nat.le_of_ble_eq_true rfl, Nat.le_of_ble_eq_true rfl⟩) ⟨fun a U g mk q => ⟨q.1, q.2⟩, fun U hU hW => ⟨rfl, congrArg Array.size hU⟩⟩ rfl rfl hl.1 rfl (lv_room (Nat.le_of_ble_eq_true rfl)) dX7_ask_86 ⟨Nat.le_of_ble_eq_true rfl, Nat.le_of_ble_eq_true rfl⟩) hS (fun q _ h9 => nX_up hS q h9) (nX_up hS) (fun r_209 u t H1 locs ht _ hw hB _ hk1 hS => ?_)
            obtain ⟨p_210, -⟩ := hw
            have hP := my_keepM hP hk1
            generalize H1 = H at hP hS ⊢
            refine lv_goto (tgt := 101) hx hb dX7_ask_89 (by decide) ?_
            exact W.iret (v := r_209) hx hb hr (fun t ht hW => ⟨⟨r_209, (fv_202, wd_196, ar_197), rfl, ⟨hF_fv_202, hA_ar_197, (fM_put (fM_call (fM_call (fM_rf [6] _) fr_184 (by decide)) fr_198 (by decide)) efv_202 (by decide)), (fA_call (fA_call (fA_rf [4] _) fa_185 (by decide)) fa_199 (by decide)), (wf_200.trans wf_186), (show (fv_202 6).toInt = cd_al (cd_fc (ar 20 ((ar 28 (kk.toInt.toNat)).toInt.toNat)).toInt (ar 23 ((ar 28 (kk.toInt.toNat)).toInt.toNat)).toInt (ar 22 ((ar 28 (kk.toInt.toNat)).toInt.toNat)).toInt (wt_rf (fv 7) (fv 5) (ar 3)) (ar 31 (kk.toInt.toNat)).toInt (fv 7).toInt (ar 29 (kk.toInt.toNat)).toInt (ar 30 (kk.toInt.toNat)).toInt (cd_ri a.toInt b.toInt) d.toInt) a.toInt (decide ((ar 20 ((ar 28 (kk.toInt.toNat)).toInt.toNat)).toInt = 2)) (cd_Wf (cd_gX llr) lln 0) from by have hal : cd_al (cd_fc (ar 20 ((ar 28 (kk.toInt.toNat)).toInt.toNat)).toInt (ar 23 ((ar 28 (kk.toInt.toNat)).toInt.toNat)).toInt (ar 22 ((ar 28 (kk.toInt.toNat)).toInt.toNat)).toInt (wt_rf (fv 7) (fv 5) (ar 3)) (ar 31 (kk.toInt.toNat)).toInt (fv 7).toInt (ar 29 (kk.toInt.toNat)).toInt (ar 30 (kk.toInt.toNat)).toInt (cd_ri a.toInt b.toInt) d.toInt) a.toInt (decide ((ar 20 ((ar 28 (kk.toInt.toNat)).toInt.toNat)).toInt = 2)) (cd_Wf (cd_gX llr) lln 0) = r_191.toInt := (by unfold cd_al; rw [if_neg (fun w => by omega)]; exact (lf_201).symm); rw [hal, show fv_202 6 = r_191 from (congrFun efv_202 6)]), (show r_209.toInt = cd_av (cd_fc (ar 20 ((ar 28 (kk.toInt.toNat)).toInt.toNat)).toInt (ar 23 ((ar 28 (kk.toInt.toNat)).toInt.toNat)).toInt (ar 22 ((ar 28 (kk.toInt.toNat)).toInt.toNat)).toInt (wt_rf (fv 7) (fv 5) (ar 3)) (ar 31 (kk.toInt.toNat)).toInt (fv 7).toInt (ar 29 (kk.toInt.toNat)).toInt (ar 30 (kk.toInt.toNat)).toInt (cd_ri a.toInt b.toInt) d.toInt) a.toInt (decide ((ar 20 ((ar 28 (kk.toInt.toNat)).toInt.toNat)).toInt = 2)) (cd_Wf (cd_gX llr) lln 0) from by have hal : cd_al (cd_fc (ar 20 ((ar 28 (kk.toInt.toNat)).toInt.toNat)).toInt (ar 23 ((ar 28 (kk.toInt.toNat)).toInt.toNat)).toInt (ar 22 ((ar 28 (kk.toInt.toNat)).toInt.toNat)).toInt (wt_rf (fv 7) (fv 5) (ar 3)) (ar 31 (kk.toInt.toNat)).toInt (fv 7).toInt (ar 29 (kk.toInt.toNat)).toInt (ar 30 (kk.toInt.toNat)).toInt (cd_ri a.toInt b.toInt) d.toInt) a.toInt (decide ((ar 20 ((ar 28 (kk.toInt.toNat)).toInt.toNat)).toInt = 2)) (cd_Wf (cd_gX llr) lln 0) = r_191.toInt := (by unfold cd_al; rw [if_neg (fun w => by omega)]; exact (lf_201).symm); have hm1 : ((-1) : Int32).toInt = -1 := (by decide); unfold cd_av; rw [if_pos (by rw [hal]; omega), p_210, htx]; rfl), (mx_f01_fr hp_188 (fA_call (fA_rf [] _) fa_199 (by decide)) rfl), trivial⟩, ⟨by rw [ht]; exact hP, va_K.moved hW.alike hK⟩⟩, hS.F ht⟩) hS.2.2 dX7_ask_101
        · skip
          have i_211 : 5 ≤ a.toInt ∧ a.toInt ≤ 5 := iv_eq1 (⟨by decide, by decide⟩ : (5 : Int) ≤ (5 : Int32).toInt ∧ (5 : Int32).toInt ≤ 5) c_189
          refine lv_iload hx hb dX7_ask_54 (lv_at hl 0 rfl) ?_
          refine lv_if_eq (tgt := 63) hx hb dX7_ask_56 (by decide) (fun c_213 => ?_) (fun c_213 => ?_)
          · skip
            exact absurd c_213 (by decide)
          · skip
            refine lv_iconst (v := (-1)) hx hb dX7_ask_59 (by decide) ?_
            refine lv_goto (tgt := 72) hx hb dX7_ask_60 (by decide) ?_
            refine pX_X7_137 hx hb htg hown hK hP hS hd dX7_ask_72 (fun H locs fv_214 efv_214 hP hS => ?_)
            have hF_fv_214 : rX fv_214 := rX_put hF_fv_181 efv_214 (iv_any _)
            refine lv_aload_n hx hb dX7_ask_75 rfl (lv_at hl 1 rfl) ?_
            refine gX_X7_137 hx hb htg hown hK hP dX7_ask_76 ?_
            refine my_ti (y := (-1)) ((congrFun efv_214 6)) ?_
            refine lv_iconst (v := (-1)) hx hb dX7_ask_79 (by decide) ?_
            refine lv_icmp_ne (tgt := 92) hx hb dX7_ask_80 (by decide) (fun c_215 => ?_) (fun c_215 => ?_)
            · skip
              exact absurd c_215 (by decide)
            · skip
              refine lv_iload hx hb dX7_ask_83 (lv_at hl 0 rfl) ?_
              refine lv_iload_n hx hb dX7_ask_85 rfl (lv_at hl 4 rfl) ?_
              refine va_calli (va_runS (As := [.int 1, .int a]) (rest := []) ⟨hx, hb, hml, hown, hts⟩ (x_plainValueE l H.size 1 a (iv_w (⟨by decide, by decide⟩ : (1 : Int) ≤ (1 : Int32).toInt ∧ (1 : Int32).toInt ≤ 1) (by decide) (by decide))) (va_cwS 2 hts (gS kw_5_38 kw_5_39 kw_1_2 kw_5_40) rfl rfl rfl (by decide +kernel) ⟨Nat.le_of_ble_eq_true rfl, Nat.le_of_ble_eq_true rfl⟩) ⟨fun a U g mk q => ⟨q.1, q.2⟩, fun U hU hW => ⟨rfl, congrArg Array.size hU⟩⟩ rfl rfl hl.1 rfl (lv_room (Nat.le_of_ble_eq_true rfl)) dX7_ask_86 ⟨Nat.le_of_ble_eq_true rfl, Nat.le_of_ble_eq_true rfl⟩) hS (fun q _ h9 => nX_up hS q h9) (nX_up hS) (fun r_216 u t H1 locs ht _ hw hB _ hk1 hS => ?_)
              obtain ⟨p_217, -⟩ := hw
              have hP := my_keepM hP hk1
              generalize H1 = H at hP hS ⊢
              refine lv_goto (tgt := 101) hx hb dX7_ask_89 (by decide) ?_
              exact W.iret (v := r_216) hx hb hr (fun t ht hW => ⟨⟨r_216, (fv_214, wd_182, ar_183), rfl, ⟨hF_fv_214, hA_ar_183, (fM_put (fM_call (fM_rf [6] _) fr_184 (by decide)) efv_214 (by decide)), (fA_call (fA_rf [4] _) fa_185 (by decide)), wf_186, (show (fv_214 6).toInt = cd_al (cd_fc (ar 20 ((ar 28 (kk.toInt.toNat)).toInt.toNat)).toInt (ar 23 ((ar 28 (kk.toInt.toNat)).toInt.toNat)).toInt (ar 22 ((ar 28 (kk.toInt.toNat)).toInt.toNat)).toInt (wt_rf (fv 7) (fv 5) (ar 3)) (ar 31 (kk.toInt.toNat)).toInt (fv 7).toInt (ar 29 (kk.toInt.toNat)).toInt (ar 30 (kk.toInt.toNat)).toInt (cd_ri a.toInt b.toInt) d.toInt) a.toInt (decide ((ar 20 ((ar 28 (kk.toInt.toNat)).toInt.toNat)).toInt = 2)) (cd_Wf (cd_gX llr) lln 0) from by have hal : cd_al (cd_fc (ar 20 ((ar 28 (kk.toInt.toNat)).toInt.toNat)).toInt (ar 23 ((ar 28 (kk.toInt.toNat)).toInt.toNat)).toInt (ar 22 ((ar 28 (kk.toInt.toNat)).toInt.toNat)).toInt (wt_rf (fv 7) (fv 5) (ar 3)) (ar 31 (kk.toInt.toNat)).toInt (fv 7).toInt (ar 29 (kk.toInt.toNat)).toInt (ar 30 (kk.toInt.toNat)).toInt (cd_ri a.toInt b.toInt) d.toInt) a.toInt (decide ((ar 20 ((ar 28 (kk.toInt.toNat)).toInt.toNat)).toInt = 2)) (cd_Wf (cd_gX llr) lln 0) = -1 := (by unfold cd_al; rw [if_pos ⟨by omega, htx⟩]); rw [hal, show fv_214 6 = ((-1) : Int32) from (congrFun efv_214 6)]; decide), (show r_216.toInt = cd_av (cd_fc (ar 20 ((ar 28 (kk.toInt.toNat)).toInt.toNat)).toInt (ar 23 ((ar 28 (kk.toInt.toNat)).toInt.toNat)).toInt (ar 22 ((ar 28 (kk.toInt.toNat)).toInt.toNat)).toInt (wt_rf (fv 7) (fv 5) (ar 3)) (ar 31 (kk.toInt.toNat)).toInt (fv 7).toInt (ar 29 (kk.toInt.toNat)).toInt (ar 30 (kk.toInt.toNat)).toInt (cd_ri a.toInt b.toInt) d.toInt) a.toInt (decide ((ar 20 ((ar 28 (kk.toInt.toNat)).toInt.toNat)).toInt = 2)) (cd_Wf (cd_gX llr) lln 0) from by have hal : cd_al (cd_fc (ar 20 ((ar 28 (kk.toInt.toNat)).toInt.toNat)).toInt (ar 23 ((ar 28 (kk.toInt.toNat)).toInt.toNat)).toInt (ar 22 ((ar 28 (kk.toInt.toNat)).toInt.toNat)).toInt (wt_rf (fv 7) (fv 5) (ar 3)) (ar 31 (kk.toInt.toNat)).toInt (fv 7).toInt (ar 29 (kk.toInt.toNat)).toInt (ar 30 (kk.toInt.toNat)).toInt (cd_ri a.toInt b.toInt) d.toInt) a.toInt (decide ((ar 20 ((ar 28 (kk.toInt.toNat)).toInt.toNat)).toInt = 2)) (cd_Wf (cd_gX llr) lln 0) = -1 := (by unfold cd_al; rw [if_pos ⟨by omega, htx⟩]); have hm1 : ((-1) : Int32).toInt = -1 := (by decide); unfold cd_av; rw [if_pos (by rw [hal]), p_217, htx]; rfl), hp_188, trivial⟩, ⟨by rw [ht]; exact hP, va_K.moved hW.alike hK⟩⟩, hS.F ht⟩) hS.2.2 dX7_ask_101

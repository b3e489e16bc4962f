set_option maxHeartbeats 4000000 in
set_option maxRecDepth 100000 in
theorem x_isAskedEmptyE (l : Launch) (sz : Nat) (v : Int32) : Met l yX7_isAskedEmpty (.code yX7_isAskedEmpty cX7_isAskedEmpty 1 (some .boolean) :: lw_good) ({ frames := 2, cells := 0, slots := 0, locals := 40 }) (va_Pc [.int v] (fun U => U.heap.size = sz)) (va_Qi (fun (r : Int32) (_ : Unit) => (0 ≤ r.toInt ∧ r.toInt ≤ 1) ∧ ((r = 0 ∧ (¬ (v.toInt = 0 ∨ v.toInt = 2 ∨ v.toInt = 5))) ∨ (r = 1 ∧ (v.toInt = 0 ∨ v.toInt = 2 ∨ v.toInt = 5))) ∧ True) (fun (_ : Unit) (_ : State) => True) (fun q => sz ≤ q)) 0 0 (fun q => sz ≤ q) := by
  refine Met.ofW (cc := cX7_isAskedEmpty) (maxL := 1) (ret := (some .boolean)) (by decide) rfl ?_
  intro p e s m args below meth c s₁ B hml hv
  obtain ⟨rfl, hsz⟩ := hv
  have hx := B.exec
  have hb := B.bytes
  have hr := B.returns
  have hts := atoms_spec (ws := (.code yX7_isAskedEmpty cX7_isAskedEmpty 1 (some .boolean) :: lw_good)) B.pre
  have htg : ∀ w ∈ lw_good, w.before _ s = true := fun w hw => hts w (List.mem_cons_of_mem _ hw)
  have hown : s.vm.findClass RX7 = some m.cls := findClass_of_methodNamed B.named
  have hlocks := B.notSynchronized
  subst hsz
  have hS : va_S (fun q => s.heap.size ≤ q) s.heap s.heap [] := va_S.rf
  have hl := lv_entry ([.int v]) (n := 1) (Nat.le_of_ble_eq_true rfl)
  rw [lg_entry_eq]
  generalize (lg_sl ([.int v]) ++ List.replicate (1 - (lg_sl ([.int v])).length) Slot.unset).toArray = ls at hl ⊢
  have hl : lv_has ls 1 [(0, .int v)] := hl
  refine lv_iload_n hx hb dX7_isAskedEmpty_0 rfl (lv_at hl 0 rfl) ?_
  refine lv_if_eq (tgt := 14) hx hb dX7_isAskedEmpty_1 (by decide) (fun c_1 => ?_) (fun c_1 => ?_)
  · skip
    have i_2 : 0 ≤ v.toInt ∧ v.toInt ≤ 0 := iv_eq1 (⟨by decide, by decide⟩ : (0 : Int) ≤ (0 : Int32).toInt ∧ (0 : Int32).toInt ≤ 0) c_1
    refine lv_iconst (v := 1) hx hb dX7_isAskedEmpty_14 (by decide) ?_
    refine lv_goto (tgt := 19) hx hb dX7_isAskedEmpty_15 (by decide) ?_
    exact W.zret (v := 1) hx hb hr (by decide) (fun t ht hW => ⟨⟨1, (), rfl, ⟨(iv_w (⟨by decide, by decide⟩ : (1 : Int) ≤ (1 : Int32).toInt ∧ (1 : Int32).toInt ≤ 1) (by decide) (by decide)), (Or.inr (⟨rfl, by omega⟩)), trivial⟩, trivial⟩, hS.F ht⟩) hS.2.2 dX7_isAskedEmpty_19
  · skip
    have k_4 : ¬ v.toInt = 0 := fun q => c_1 (Int32.toInt_inj.mp q)
    refine lv_iload_n hx hb dX7_isAskedEmpty_4 rfl (lv_at hl 0 rfl) ?_
    refine lv_iconst (v := 2) hx hb dX7_isAskedEmpty_5 (by decide) ?_
    refine lv_icmp_eq (tgt := 14) hx hb dX7_isAskedEmpty_6 (by decide) (fun c_5 => ?_) (fun c_5 => ?_)
    · skip
      have i_6 : 2 ≤ v.toInt ∧ v.toInt ≤ 2 := iv_eq1 (⟨by decide, by decide⟩ : (2 : Int) ≤ (2 : Int32).toInt ∧ (2 : Int32).toInt ≤ 2) c_5
      refine lv_iconst (v := 1) hx hb dX7_isAskedEmpty_14 (by decide) ?_
      refine lv_goto (tgt := 19) hx hb dX7_isAskedEmpty_15 (by decide) ?_
      exact W.zret (v := 1) hx hb hr (by decide) (fun t ht hW => ⟨⟨1, (), rfl, ⟨(iv_w (⟨by decide, by decide⟩ : (1 : Int) ≤ (1 : Int32).toInt ∧ (1 : Int32).toInt ≤ 1) (by decide) (by decide)), (Or.inr (⟨rfl, by omega⟩)), trivial⟩, trivial⟩, hS.F ht⟩) hS.2.2 dX7_isAskedEmpty_19
    · skip
      have k_8 : ¬ v.toInt = 2 := fun q => c_5 (Int32.toInt_inj.mp q)
      refine lv_iload_n hx hb dX7_isAskedEmpty_9 rfl (lv_at hl 0 rfl) ?_
      refine lv_iconst (v := 5) hx hb dX7_isAskedEmpty_10 (by decide) ?_
      refine lv_icmp_ne (tgt := 18) hx hb dX7_isAskedEmpty_11 (by decide) (fun c_9 => ?_) (fun c_9 => ?_)
      · skip
        have k_10 : ¬ v.toInt = 5 := fun q => c_9 (Int32.toInt_inj.mp q)
        refine lv_iconst (v := 0) hx hb dX7_isAskedEmpty_18 (by decide) ?_
        exact W.zret (v := 0) hx hb hr (by decide) (fun t ht hW => ⟨⟨0, (), rfl, ⟨(iv_w (⟨by decide, by decide⟩ : (0 : Int) ≤ (0 : Int32).toInt ∧ (0 : Int32).toInt ≤ 0) (by decide) (by decide)), (Or.inl ⟨rfl, by omega⟩), trivial⟩, trivial⟩, hS.F ht⟩) hS.2.2 dX7_isAskedEmpty_19
      · skip
        have i_11 : 5 ≤ v.toInt ∧ v.toInt ≤ 5 := iv_eq1 (⟨by decide, by decide⟩ : (5 : Int) ≤ (5 : Int32).toInt ∧ (5 : Int32).toInt ≤ 5) c_9
        refine lv_iconst (v := 1) hx hb dX7_isAskedEmpty_14 (by decide) ?_
        refine lv_goto (tgt := 19) hx hb dX7_isAskedEmpty_15 (by decide) ?_
        exact W.zret (v := 1) hx hb hr (by decide) (fun t ht hW => ⟨⟨1, (), rfl, ⟨(iv_w (⟨by decide, by decide⟩ : (1 : Int) ≤ (1 : Int32).toInt ∧ (1 : Int32).toInt ≤ 1) (by decide) (by decide)), (Or.inr (⟨rfl, by omega⟩)), trivial⟩, trivial⟩, hS.F ht⟩) hS.2.2 dX7_isAskedEmpty_19
set_option maxHeartbeats 4000000 in
set_option maxRecDepth 100000 in
theorem x_plainValueE (l : Launch) (sz : Nat) (z : Int32) (b : Int32) (h_z : 0 ≤ z.toInt ∧ z.toInt ≤ 1) : Met l yX7_plainValue (.code yX7_plainValue cX7_plainValue 2 (some .int) :: lw_good) ({ frames := 2, cells := 0, slots := 0, locals := 40 }) (va_Pc [.int z, .int b] (fun U => U.heap.size = sz)) (va_Qi (fun (r : Int32) (_ : Unit) => (r.toInt = cd_pl b.toInt (decide (z.toInt = 1))) ∧ True) (fun (_ : Unit) (_ : State) => True) (fun q => sz ≤ q)) 0 0 (fun q => sz ≤ q) := by
  refine Met.ofW (cc := cX7_plainValue) (maxL := 2) (ret := (some .int)) (by decide) rfl ?_
  intro p e s m args below meth c s₁ B hml hv
  obtain ⟨rfl, hsz⟩ := hv
  have hx := B.exec
  have hb := B.bytes
  have hr := B.returns
  have hts := atoms_spec (ws := (.code yX7_plainValue cX7_plainValue 2 (some .int) :: lw_good)) B.pre
  have htg : ∀ w ∈ lw_good, w.before _ s = true := fun w hw => hts w (List.mem_cons_of_mem _ hw)
  have hown : s.vm.findClass RX7 = some m.cls := findClass_of_methodNamed B.named
  have hlocks := B.notSynchronized
  subst hsz
  have hS : va_S (fun q => s.heap.size ≤ q) s.heap s.heap [] := va_S.rf
  have hl := lv_entry ([.int z, .int b]) (n := 2) (Nat.le_of_ble_eq_true rfl)
  rw [lg_entry_eq]
  generalize (lg_sl ([.int z, .int b]) ++ List.replicate (2 - (lg_sl ([.int z, .int b])).length) Slot.unset).toArray = ls at hl ⊢
  have hl : lv_has ls 2 [(0, .int z), (1, .int b)] := hl
  refine lv_iload_n hx hb dX7_plainValue_0 rfl (lv_at hl 1 rfl) ?_
  rcases ix_sw_0_6 b with w_1 | w_1 | w_1 | w_1 | w_1 | w_1 | w_1 | w_1
  · skip
    refine lv_tableOut (tgt := 71) hx hb dX7_plainValue_1 (Or.inl w_1) (by decide) ?_
    refine lv_iconst (v := 0) hx hb dX7_plainValue_71 (by decide) ?_
    have z_2 : (0 : Int32).toInt = 0 := by decide
    exact W.iret (v := 0) hx hb hr (fun t ht hW => ⟨⟨0, (), rfl, ⟨(show (0 : Int32).toInt = cd_pl b.toInt (decide (z.toInt = 1)) from by have hz1 : (1 : Int32).toInt = 1 := (by decide); have hk9 : ¬ b.toInt = 0 ∧ ¬ b.toInt = 2 ∧ ¬ b.toInt = 3 ∧ ¬ b.toInt = 4 ∧ ¬ b.toInt = 5 := (by first | (refine ⟨?_, ?_, ?_, ?_, ?_⟩ <;> omega) | (have h8 : b.toInt = 1 := (congrArg Int32.toInt (by assumption : b = (1 : Int32))).trans (by decide); refine ⟨?_, ?_, ?_, ?_, ?_⟩ <;> omega)); unfold cd_pl; rw [if_neg (by omega), if_neg (by omega), if_neg (by omega), if_neg (by omega), if_neg (by omega)]; decide), trivial⟩, trivial⟩, hS.F ht⟩) hS.2.2 dX7_plainValue_72
  · skip
    refine lv_tableOut (tgt := 71) hx hb dX7_plainValue_1 (Or.inr w_1) (by decide) ?_
    refine lv_iconst (v := 0) hx hb dX7_plainValue_71 (by decide) ?_
    have z_3 : (0 : Int32).toInt = 0 := by decide
    exact W.iret (v := 0) hx hb hr (fun t ht hW => ⟨⟨0, (), rfl, ⟨(show (0 : Int32).toInt = cd_pl b.toInt (decide (z.toInt = 1)) from by have hz1 : (1 : Int32).toInt = 1 := (by decide); have hk9 : ¬ b.toInt = 0 ∧ ¬ b.toInt = 2 ∧ ¬ b.toInt = 3 ∧ ¬ b.toInt = 4 ∧ ¬ b.toInt = 5 := (by first | (refine ⟨?_, ?_, ?_, ?_, ?_⟩ <;> omega) | (have h8 : b.toInt = 1 := (congrArg Int32.toInt (by assumption : b = (1 : Int32))).trans (by decide); refine ⟨?_, ?_, ?_, ?_, ?_⟩ <;> omega)); unfold cd_pl; rw [if_neg (by omega), if_neg (by omega), if_neg (by omega), if_neg (by omega), if_neg (by omega)]; decide), trivial⟩, trivial⟩, hS.F ht⟩) hS.2.2 dX7_plainValue_72
  · skip
    refine lv_tableIn (off := 39) (tgt := 40) hx hb dX7_plainValue_1 (by rw [w_1]; decide) (by rw [w_1]; decide) (by rw [w_1]; rfl) (by decide) ?_
    refine lv_iconst (v := 1) hx hb dX7_plainValue_40 (by decide) ?_
    have z_4 : (1 : Int32).toInt = 1 := by decide
    exact W.iret (v := 1) hx hb hr (fun t ht hW => ⟨⟨1, (), rfl, ⟨(show (1 : Int32).toInt = cd_pl b.toInt (decide (z.toInt = 1)) from by have hk9 : b.toInt = 0 := (congrArg Int32.toInt (by assumption : b = (0 : Int32))).trans (by decide); unfold cd_pl; (repeat (first | rw [if_pos (by omega)] | rw [if_neg (by omega)])); decide), trivial⟩, trivial⟩, hS.F ht⟩) hS.2.2 dX7_plainValue_41
  · skip
    refine lv_tableIn (off := 70) (tgt := 71) hx hb dX7_plainValue_1 (by rw [w_1]; decide) (by rw [w_1]; decide) (by rw [w_1]; rfl) (by decide) ?_
    refine lv_iconst (v := 0) hx hb dX7_plainValue_71 (by decide) ?_
    have z_5 : (0 : Int32).toInt = 0 := by decide
    exact W.iret (v := 0) hx hb hr (fun t ht hW => ⟨⟨0, (), rfl, ⟨(show (0 : Int32).toInt = cd_pl b.toInt (decide (z.toInt = 1)) from by have hz1 : (1 : Int32).toInt = 1 := (by decide); have hk9 : ¬ b.toInt = 0 ∧ ¬ b.toInt = 2 ∧ ¬ b.toInt = 3 ∧ ¬ b.toInt = 4 ∧ ¬ b.toInt = 5 := (by first | (refine ⟨?_, ?_, ?_, ?_, ?_⟩ <;> omega) | (have h8 : b.toInt = 1 := (congrArg Int32.toInt (by assumption : b = (1 : Int32))).trans (by decide); refine ⟨?_, ?_, ?_, ?_, ?_⟩ <;> omega)); unfold cd_pl; rw [if_neg (by omega), if_neg (by omega), if_neg (by omega), if_neg (by omega), if_neg (by omega)]; decide), trivial⟩, trivial⟩, hS.F ht⟩) hS.2.2 dX7_plainValue_72
  · skip
    refine lv_tableIn (off := 41) (tgt := 42) hx hb dX7_plainValue_1 (by rw [w_1]; decide) (by rw [w_1]; decide) (by rw [w_1]; rfl) (by decide) ?_
    refine lv_iload_n hx hb dX7_plainValue_42 rfl (lv_at hl 0 rfl) ?_
    refine lv_if_eq (tgt := 51) hx hb dX7_plainValue_43 (by decide) (fun c_6 => ?_) (fun c_6 => ?_)
    · skip
      have i_7 : 0 ≤ z.toInt ∧ z.toInt ≤ 0 := iv_eq1 (⟨by decide, by decide⟩ : (0 : Int) ≤ (0 : Int32).toInt ∧ (0 : Int32).toInt ≤ 0) c_6
      refine lv_iconst (v := 0) hx hb dX7_plainValue_51 (by decide) ?_
      have z_9 : (0 : Int32).toInt = 0 := by decide
      exact W.iret (v := 0) hx hb hr (fun t ht hW => ⟨⟨0, (), rfl, ⟨(show (0 : Int32).toInt = cd_pl b.toInt (decide (z.toInt = 1)) from by have hk9 : b.toInt = 2 := (congrArg Int32.toInt (by assumption : b = (2 : Int32))).trans (by decide); rw [show decide (z.toInt = 1) = false from decide_eq_false (by omega)]; unfold cd_pl; rw [if_neg (by omega), if_pos (by omega)]; decide), trivial⟩, trivial⟩, hS.F ht⟩) hS.2.2 dX7_plainValue_52
    · skip
      have i_10 : 1 ≤ z.toInt ∧ z.toInt ≤ 1 := iv_nel h_z (by decide) c_6
      have k_11 : ¬ z.toInt = 0 := fun q => c_6 (Int32.toInt_inj.mp q)
      refine lv_bipush (v := 10) hx hb dX7_plainValue_46 (by decide) ?_
      refine lv_goto (tgt := 52) hx hb dX7_plainValue_48 (by decide) ?_
      have z_12 : (10 : Int32).toInt = 10 := by decide
      exact W.iret (v := 10) hx hb hr (fun t ht hW => ⟨⟨10, (), rfl, ⟨(show (10 : Int32).toInt = cd_pl b.toInt (decide (z.toInt = 1)) from by have hk9 : b.toInt = 2 := (congrArg Int32.toInt (by assumption : b = (2 : Int32))).trans (by decide); rw [show decide (z.toInt = 1) = true from decide_eq_true (by omega)]; unfold cd_pl; rw [if_neg (by omega), if_pos (by omega)]; decide), trivial⟩, trivial⟩, hS.F ht⟩) hS.2.2 dX7_plainValue_52
  · skip
    refine lv_tableIn (off := 52) (tgt := 53) hx hb dX7_plainValue_1 (by rw [w_1]; decide) (by rw [w_1]; decide) (by rw [w_1]; rfl) (by decide) ?_
    refine lv_bipush (v := 15) hx hb dX7_plainValue_53 (by decide) ?_
    have z_13 : (15 : Int32).toInt = 15 := by decide
    exact W.iret (v := 15) hx hb hr (fun t ht hW => ⟨⟨15, (), rfl, ⟨(show (15 : Int32).toInt = cd_pl b.toInt (decide (z.toInt = 1)) from by have hk9 : b.toInt = 3 := (congrArg Int32.toInt (by assumption : b = (3 : Int32))).trans (by decide); unfold cd_pl; (repeat (first | rw [if_pos (by omega)] | rw [if_neg (by omega)])); decide), trivial⟩, trivial⟩, hS.F ht⟩) hS.2.2 dX7_plainValue_55
  · skip
    refine lv_tableIn (off := 55) (tgt := 56) hx hb dX7_plainValue_1 (by rw [w_1]; decide) (by rw [w_1]; decide) (by rw [w_1]; rfl) (by decide) ?_
    refine lv_sipush (v := 500) hx hb dX7_plainValue_56 (by decide) ?_
    have z_14 : (500 : Int32).toInt = 500 := by decide
    exact W.iret (v := 500) hx hb hr (fun t ht hW => ⟨⟨500, (), rfl, ⟨(show (500 : Int32).toInt = cd_pl b.toInt (decide (z.toInt = 1)) from by have hk9 : b.toInt = 4 := (congrArg Int32.toInt (by assumption : b = (4 : Int32))).trans (by decide); unfold cd_pl; (repeat (first | rw [if_pos (by omega)] | rw [if_neg (by omega)])); decide), trivial⟩, trivial⟩, hS.F ht⟩) hS.2.2 dX7_plainValue_59
  · skip
    refine lv_tableIn (off := 59) (tgt := 60) hx hb dX7_plainValue_1 (by rw [w_1]; decide) (by rw [w_1]; decide) (by rw [w_1]; rfl) (by decide) ?_
    refine lv_iload_n hx hb dX7_plainValue_60 rfl (lv_at hl 0 rfl) ?_
    refine lv_if_eq (tgt := 68) hx hb dX7_plainValue_61 (by decide) (fun c_15 => ?_) (fun c_15 => ?_)
    · skip
      have i_16 : 0 ≤ z.toInt ∧ z.toInt ≤ 0 := iv_eq1 (⟨by decide, by decide⟩ : (0 : Int) ≤ (0 : Int32).toInt ∧ (0 : Int32).toInt ≤ 0) c_15
      refine lv_bipush (v := 20) hx hb dX7_plainValue_68 (by decide) ?_
      have z_18 : (20 : Int32).toInt = 20 := by decide
      exact W.iret (v := 20) hx hb hr (fun t ht hW => ⟨⟨20, (), rfl, ⟨(show (20 : Int32).toInt = cd_pl b.toInt (decide (z.toInt = 1)) from by have hk9 : b.toInt = 5 := (congrArg Int32.toInt (by assumption : b = (5 : Int32))).trans (by decide); rw [show decide (z.toInt = 1) = false from decide_eq_false (by omega)]; unfold cd_pl; rw [if_neg (by omega), if_neg (by omega), if_neg (by omega), if_neg (by omega), if_pos (by omega)]; decide), trivial⟩, trivial⟩, hS.F ht⟩) hS.2.2 dX7_plainValue_70
    · skip
      have i_19 : 1 ≤ z.toInt ∧ z.toInt ≤ 1 := iv_nel h_z (by decide) c_15
      have k_20 : ¬ z.toInt = 0 := fun q => c_15 (Int32.toInt_inj.mp q)
      refine lv_iconst (v := 0) hx hb dX7_plainValue_64 (by decide) ?_
      refine lv_goto (tgt := 70) hx hb dX7_plainValue_65 (by decide) ?_
      have z_21 : (0 : Int32).toInt = 0 := by decide
      exact W.iret (v := 0) hx hb hr (fun t ht hW => ⟨⟨0, (), rfl, ⟨(show (0 : Int32).toInt = cd_pl b.toInt (decide (z.toInt = 1)) from by have hk9 : b.toInt = 5 := (congrArg Int32.toInt (by assumption : b = (5 : Int32))).trans (by decide); rw [show decide (z.toInt = 1) = true from decide_eq_true (by omega)]; unfold cd_pl; rw [if_neg (by omega), if_neg (by omega), if_neg (by omega), if_neg (by omega), if_pos (by omega)]; decide), trivial⟩, trivial⟩, hS.F ht⟩) hS.2.2 dX7_plainValue_70
set_option maxHeartbeats 4000000 in
set_option maxRecDepth 100000 in
theorem x_setFactsE (l : Launch) (dC : Nat → ClassId) (dI : Nat → Nat → Nat) (sz : Nat) (ob ad : Nat → Nat) (cA : Nat → ClassId) (hd : dX ob ad) (fv : Nat → Int32) (wd : xT) (ar : Nat → Nat → Int32) (hF_fv : rX fv) (hA_ar : rB ar) (kk : Int32) (b : Int32) (d : Int32) (h_kk : 0 ≤ kk.toInt ∧ kk.toInt ≤ 79) : Met l yX7_setFacts (.code yX7_setFacts cX7_setFacts 5 none :: lw_good) ({ frames := 3, cells := 0, slots := 0, locals := 61 }) (va_Pc [.ref (ob 1), .int kk, .int b, .int d] (prX dC dI ob ad cA fv wd ar sz)) (va_Qv (fun (u : xS) => rX u.1 ∧ rB u.2.2 ∧ fM [] fv u.1 ∧ fA [4] ar u.2.2 ∧ u.2.1.2 = wd.2 ∧ (cd_f (u.2.2 4) = (cd_fc (ar 20 ((ar 28 (kk.toInt.toNat)).toInt.toNat)).toInt (ar 23 ((ar 28 (kk.toInt.toNat)).toInt.toNat)).toInt (ar 22 ((ar 28 (kk.toInt.toNat)).toInt.toNat)).toInt (wt_rf (fv 7) (fv 5) (ar 3)) (ar 31 (kk.toInt.toNat)).toInt (fv 7).toInt (ar 29 (kk.toInt.toNat)).toInt (ar 30 (kk.toInt.toNat)).toInt b.toInt d.toInt)) ∧ True) (enX dC dI ob ad cA) (aX ob ad sz)) 0 0 (aX ob ad sz) := by
  refine Met.ofW (cc := cX7_setFacts) (maxL := 5) (ret := none) (by decide) rfl ?_
  intro p e s m args below meth c s₁ B hml hv
  obtain ⟨rfl, hsz, hP, hK⟩ := hv
  have hx := B.exec
  have hb := B.bytes
  have hr := B.returns
  have hts := atoms_spec (ws := (.code yX7_setFacts cX7_setFacts 5 none :: lw_good)) B.pre
  have htg : ∀ w ∈ lw_good, w.before _ s = true := fun w hw => hts w (List.mem_cons_of_mem _ hw)
  have hown : s.vm.findClass RX7 = some m.cls := findClass_of_methodNamed B.named
  have hlocks := B.notSynchronized
  subst hsz
  have hS : va_S (aX ob ad s.heap.size) s.heap s.heap [] := va_S.rf
  have hl := lv_entry ([.ref (ob 1), .int kk, .int b, .int d]) (n := 5) (Nat.le_of_ble_eq_true rfl)
  rw [lg_entry_eq]
  generalize (lg_sl ([.ref (ob 1), .int kk, .int b, .int d]) ++ List.replicate (5 - (lg_sl ([.ref (ob 1), .int kk, .int b, .int d])).length) Slot.unset).toArray = ls at hl ⊢
  have hl : lv_has ls 5 [(0, .ref (ob 1)), (1, .int kk), (2, .int b), (3, .int d)] := hl
  refine lv_aload_n hx hb dX7_setFacts_0 rfl (lv_at hl 0 rfl) ?_
  refine gX_X7_35 hx hb htg hown hK hP dX7_setFacts_1 ?_
  refine gX_X7_86 hx hb htg hown hK hP dX7_setFacts_4 ?_
  refine lv_iload_n hx hb dX7_setFacts_7 rfl (lv_at hl 1 rfl) ?_
  refine lX_28 hx hb hK hP (iv_in h_kk (by decide) (by decide)) dX7_setFacts_8 (fun v_1 ev_1 => ?_)
  have i_2 : 0 ≤ v_1.toInt ∧ v_1.toInt ≤ 19 := ev_1 ▸ hA_ar 28 _
  refine lv_istore (lv' := [(4, .int v_1), (0, .ref (ob 1)), (1, .int kk), (2, .int b), (3, .int d)]) hx hb dX7_setFacts_9 hl (by decide) rfl (fun ls hl => ?_)
  refine lv_aload_n hx hb dX7_setFacts_11 rfl (lv_at hl 1 rfl) ?_
  refine gX_X7_62 hx hb htg hown hK hP dX7_setFacts_12 ?_
  refine lv_iconst (v := 0) hx hb dX7_setFacts_15 (by decide) ?_
  refine lv_aload_n hx hb dX7_setFacts_16 rfl (lv_at hl 1 rfl) ?_
  refine gX_X7_28 hx hb htg hown hK hP dX7_setFacts_17 ?_
  refine gX_X7_83 hx hb htg hown hK hP dX7_setFacts_20 ?_
  refine lv_iload hx hb dX7_setFacts_23 (lv_at hl 0 rfl) ?_
  refine lX_20 hx hb hK hP (iv_in i_2 (by decide) (by decide)) dX7_setFacts_25 (fun v_3 ev_3 => ?_)
  refine my_cut (P := fun R9 a9 Q9 => ∀ (x_8 : Int32) (H : Heap) (locs : List Loc) (ls : Array Slot), (0 ≤ x_8.toInt ∧ x_8.toInt ≤ 1) → (x_8.toInt = (if (ar 20 ((ar 28 (kk.toInt.toNat)).toInt.toNat)).toInt = 0 then 1 else 0)) → va_P (dC, dI) vwCl (wsX ob ad cA fv wd ar) H → va_S (aX ob ad s.heap.size) s.heap H locs → lv_has ls 5 [(0, .ref (ob 1)), (1, .int kk), (2, .int b), (3, .int d), (4, .int v_1)] → W p l e R9 s m a9 below meth c H locs 0 0 Q9 (F0 m 34 ls [.int x_8, .int 0, .ref (ad 4)])) ?_ (fun hj_10 => ?_)
  · intro x_8 H locs ls i_x_8 q_9 hP hS hl
    refine sX_4 hx hb hK hP hS hd (iv_in (⟨by decide, by decide⟩ : (0 : Int) ≤ (0 : Int32).toInt ∧ (0 : Int32).toInt ≤ 0) (by decide) (by decide)) dX7_setFacts_34 (fun H locs ar_11 ear_11 hP hS => ?_)
    have hA_ar_11 : rB ar_11 := rB_put hA_ar ear_11 (iv_any _)
    refine lv_aload_n hx hb dX7_setFacts_35 rfl (lv_at hl 0 rfl) ?_
    refine gX_X7_62 hx hb htg hown hK hP dX7_setFacts_36 ?_
    refine lv_iconst (v := 1) hx hb dX7_setFacts_39 (by decide) ?_
    refine lv_aload_n hx hb dX7_setFacts_40 rfl (lv_at hl 0 rfl) ?_
    refine gX_X7_28 hx hb htg hown hK hP dX7_setFacts_41 ?_
    refine gX_X7_83 hx hb htg hown hK hP dX7_setFacts_44 ?_
    refine lv_iload hx hb dX7_setFacts_47 (lv_at hl 4 rfl) ?_
    refine lX_20 hx hb hK hP (iv_in i_2 (by decide) (by decide)) dX7_setFacts_49 (fun v_12 ev_12 => ?_)
    obtain rfl : v_3 = v_12 := ev_3.trans ((congrFun ((fA_put (fA_rf [4] _) ear_11 (by decide)) 20 rfl) _).symm.trans ev_12.symm)
    refine lv_iconst (v := 1) hx hb dX7_setFacts_50 (by decide) ?_
    refine my_cut (P := fun R9 a9 Q9 => ∀ (x_17 : Int32) (H : Heap) (locs : List Loc) (ls : Array Slot), (0 ≤ x_17.toInt ∧ x_17.toInt ≤ 1) → (x_17.toInt = (if (ar 20 ((ar 28 (kk.toInt.toNat)).toInt.toNat)).toInt = 1 then 1 else 0)) → va_P (dC, dI) vwCl (wsX ob ad cA fv wd ar_11) H → va_S (aX ob ad s.heap.size) s.heap H locs → lv_has ls 5 [(0, .ref (ob 1)), (1, .int kk), (2, .int b), (3, .int d), (4, .int v_1)] → W p l e R9 s m a9 below meth c H locs 0 0 Q9 (F0 m 59 ls [.int x_17, .int 1, .ref (ad 4)])) ?_ (fun hj_19 => ?_)
    · intro x_17 H locs ls i_x_17 q_18 hP hS hl
      refine sX_4 hx hb hK hP hS hd (iv_in (⟨by decide, by decide⟩ : (1 : Int) ≤ (1 : Int32).toInt ∧ (1 : Int32).toInt ≤ 1) (by decide) (by decide)) dX7_setFacts_59 (fun H locs ar_20 ear_20 hP hS => ?_)
      have hA_ar_20 : rB ar_20 := rB_put hA_ar_11 ear_20 (iv_any _)
      refine lv_aload_n hx hb dX7_setFacts_60 rfl (lv_at hl 0 rfl) ?_
      refine gX_X7_62 hx hb htg hown hK hP dX7_setFacts_61 ?_
      refine lv_iconst (v := 2) hx hb dX7_setFacts_64 (by decide) ?_
      refine lv_aload_n hx hb dX7_setFacts_65 rfl (lv_at hl 0 rfl) ?_
      refine gX_X7_28 hx hb htg hown hK hP dX7_setFacts_66 ?_
      refine gX_X7_83 hx hb htg hown hK hP dX7_setFacts_69 ?_
      refine lv_iload hx hb dX7_setFacts_72 (lv_at hl 4 rfl) ?_
      refine lX_20 hx hb hK hP (iv_in i_2 (by decide) (by decide)) dX7_setFacts_74 (fun v_21 ev_21 => ?_)
      obtain rfl : v_3 = v_21 := ev_3.trans ((congrFun ((fA_put (fA_put (fA_rf [4] _) ear_11 (by decide)) ear_20 (by decide)) 20 rfl) _).symm.trans ev_21.symm)
      refine lv_iconst (v := 2) hx hb dX7_setFacts_75 (by decide) ?_
      refine my_cut (P := fun R9 a9 Q9 => ∀ (x_26 : Int32) (H : Heap) (locs : List Loc) (ls : Array Slot), (0 ≤ x_26.toInt ∧ x_26.toInt ≤ 1) → (x_26.toInt = (if (ar 20 ((ar 28 (kk.toInt.toNat)).toInt.toNat)).toInt = 2 then 1 else 0)) → va_P (dC, dI) vwCl (wsX ob ad cA fv wd ar_20) H → va_S (aX ob ad s.heap.size) s.heap H locs → lv_has ls 5 [(0, .ref (ob 1)), (1, .int kk), (2, .int b), (3, .int d), (4, .int v_1)] → W p l e R9 s m a9 below meth c H locs 0 0 Q9 (F0 m 84 ls [.int x_26, .int 2, .ref (ad 4)])) ?_ (fun hj_28 => ?_)
      · intro x_26 H locs ls i_x_26 q_27 hP hS hl
        refine sX_4 hx hb hK hP hS hd (iv_in (⟨by decide, by decide⟩ : (2 : Int) ≤ (2 : Int32).toInt ∧ (2 : Int32).toInt ≤ 2) (by decide) (by decide)) dX7_setFacts_84 (fun H locs ar_29 ear_29 hP hS => ?_)
        have hA_ar_29 : rB ar_29 := rB_put hA_ar_20 ear_29 (iv_any _)
        refine lv_aload_n hx hb dX7_setFacts_85 rfl (lv_at hl 0 rfl) ?_
        refine gX_X7_62 hx hb htg hown hK hP dX7_setFacts_86 ?_
        refine lv_iconst (v := 3) hx hb dX7_setFacts_89 (by decide) ?_
        refine lv_aload_n hx hb dX7_setFacts_90 rfl (lv_at hl 0 rfl) ?_
        refine gX_X7_28 hx hb htg hown hK hP dX7_setFacts_91 ?_
        refine gX_X7_114 hx hb htg hown hK hP dX7_setFacts_94 ?_
        refine lv_iload hx hb dX7_setFacts_97 (lv_at hl 4 rfl) ?_
        refine lX_23 hx hb hK hP (iv_in i_2 (by decide) (by decide)) dX7_setFacts_99 (fun v_30 ev_30 => ?_)
        refine lv_aload_n hx hb dX7_setFacts_100 rfl (lv_at hl 0 rfl) ?_
        refine gX_X7_111 hx hb htg hown hK hP dX7_setFacts_101 ?_
        have i_31 : 0 ≤ (fv 7).toInt ∧ (fv 7).toInt ≤ 199 := hF_fv 7
        refine my_cut (P := fun R9 a9 Q9 => ∀ (x_37 : Int32) (H : Heap) (locs : List Loc) (ls : Array Slot), (0 ≤ x_37.toInt ∧ x_37.toInt ≤ 1) → (x_37.toInt = (if (fv 7).toInt ≤ (ar 23 ((ar 28 (kk.toInt.toNat)).toInt.toNat)).toInt then 1 else 0)) → va_P (dC, dI) vwCl (wsX ob ad cA fv wd ar_29) H → va_S (aX ob ad s.heap.size) s.heap H locs → lv_has ls 5 [(0, .ref (ob 1)), (1, .int kk), (2, .int b), (3, .int d), (4, .int v_1)] → W p l e R9 s m a9 below meth c H locs 0 0 Q9 (F0 m 112 ls [.int x_37, .int 3, .ref (ad 4)])) ?_ (fun hj_39 => ?_)
        · intro x_37 H locs ls i_x_37 q_38 hP hS hl
          refine sX_4 hx hb hK hP hS hd (iv_in (⟨by decide, by decide⟩ : (3 : Int) ≤ (3 : Int32).toInt ∧ (3 : Int32).toInt ≤ 3) (by decide) (by decide)) dX7_setFacts_112 (fun H locs ar_40 ear_40 hP hS => ?_)
          have hA_ar_40 : rB ar_40 := rB_put hA_ar_29 ear_40 (iv_any _)
          refine lv_aload_n hx hb dX7_setFacts_113 rfl (lv_at hl 0 rfl) ?_
          refine gX_X7_62 hx hb htg hown hK hP dX7_setFacts_114 ?_
          refine lv_iconst (v := 4) hx hb dX7_setFacts_117 (by decide) ?_
          refine lv_iload_n hx hb dX7_setFacts_118 rfl (lv_at hl 2 rfl) ?_
          refine sX_4 hx hb hK hP hS hd (iv_in (⟨by decide, by decide⟩ : (4 : Int) ≤ (4 : Int32).toInt ∧ (4 : Int32).toInt ≤ 4) (by decide) (by decide)) dX7_setFacts_119 (fun H locs ar_41 ear_41 hP hS => ?_)
          have hA_ar_41 : rB ar_41 := rB_put hA_ar_40 ear_41 (iv_any _)
          refine lv_aload_n hx hb dX7_setFacts_120 rfl (lv_at hl 0 rfl) ?_
          refine gX_X7_62 hx hb htg hown hK hP dX7_setFacts_121 ?_
          refine lv_iconst (v := 5) hx hb dX7_setFacts_124 (by decide) ?_
          refine lv_aload_n hx hb dX7_setFacts_125 rfl (lv_at hl 0 rfl) ?_
          refine gX_X7_28 hx hb htg hown hK hP dX7_setFacts_126 ?_
          refine gX_X7_117 hx hb htg hown hK hP dX7_setFacts_129 ?_
          refine lv_iload hx hb dX7_setFacts_132 (lv_at hl 4 rfl) ?_
          refine lX_22 hx hb hK hP (iv_in i_2 (by decide) (by decide)) dX7_setFacts_134 (fun v_42 ev_42 => ?_)
          have i_43 : 0 ≤ v_42.toInt ∧ v_42.toInt ≤ 9 := ev_42 ▸ hA_ar_41 22 _
          refine sX_4 hx hb hK hP hS hd (iv_in (⟨by decide, by decide⟩ : (5 : Int) ≤ (5 : Int32).toInt ∧ (5 : Int32).toInt ≤ 5) (by decide) (by decide)) dX7_setFacts_135 (fun H locs ar_44 ear_44 hP hS => ?_)
          have hA_ar_44 : rB ar_44 := rB_put hA_ar_41 ear_44 (iv_any _)
          refine lv_aload_n hx hb dX7_setFacts_136 rfl (lv_at hl 0 rfl) ?_
          refine gX_X7_62 hx hb htg hown hK hP dX7_setFacts_137 ?_
          refine lv_bipush (v := 6) hx hb dX7_setFacts_140 (by decide) ?_
          refine lv_aload_n hx hb dX7_setFacts_142 rfl (lv_at hl 0 rfl) ?_
          refine lv_aload_n hx hb dX7_setFacts_143 rfl (lv_at hl 0 rfl) ?_
          refine gX_X7_111 hx hb htg hown hK hP dX7_setFacts_144 ?_
          have z_45 : 0 ≤ (fv 5).toInt ∧ (fv 5).toInt ≤ 200 := hF_fv 5
          refine va_calli (va_runV (As := [.int (fv 7)]) (rest := [.int 6, .ref (ad 4)]) ⟨hx, hb, hml, hown, hts⟩ (x_rainOnC l dC dI H.size ob ad cA hd fv wd ar_44 hF_fv hA_ar_44 (fv 7) i_31) (cwV 1 hts (gV kw_5_29 kw_3_231 kw_3_232 kw_1_2 kw_3_233) rfl rfl rfl (by decide +kernel) ⟨Nat.le_of_ble_eq_true rfl, Nat.le_of_ble_eq_true rfl⟩) ⟨fun a U g mk q => ⟨q.1, q.2.1, q.2.2.1, va_K.moved (u := U) (U := U.calling g mk a) (Vm.Alike.refl U.vm) q.2.2.2⟩, va_recv hK hP (ci := 7) (q0 := 1) rfl rfl, fun U hU hW => ⟨rfl, by rw [hU], by rw [hU]; exact hP, va_K.moved hW.alike hK⟩⟩ rfl rfl hl.1 rfl (lv_room (Nat.le_of_ble_eq_true rfl)) dX7_setFacts_147 ⟨Nat.le_of_ble_eq_true rfl, Nat.le_of_ble_eq_true rfl⟩) hS (fun q _ h9 => aX_up hS q h9) (aX_up hS) (fun r_46 u t H1 locs ht _ hw hB _ hk1 hS => ?_)
          obtain ⟨fv_48, wd_49, ar_50⟩ := u
          obtain ⟨hF_fv_48, hA_ar_50, fr_51, fa_52, wf_53, p_47, -⟩ := hw
          have wf_53 : wd_49.2 = wd.2 := wf_53
          have hP : va_P (dC, dI) vwCl (wsX ob ad cA fv_48 wd_49 ar_50) H1 := by have h9 := hB.1; rw [ht] at h9; exact h9
          have fr_51 : fM [] fv fv_48 := fr_51
          have fa_52 : fA [] ar_44 ar_50 := fa_52
          have p_47 : wt_on r_46 (fv 7) (fv 5) (ar_44 3) := p_47
          generalize H1 = H at hP hS ⊢
          have rn_54 : r_46.toInt = wt_rf (fv 7) (fv 5) (ar 3) := by have h9 := wt_on_rf p_47; rw [show ar_44 3 = ar 3 from ((fA_put (fA_put (fA_put (fA_put (fA_put (fA_put (fA_rf [4] _) ear_11 (by decide)) ear_20 (by decide)) ear_29 (by decide)) ear_40 (by decide)) ear_41 (by decide)) ear_44 (by decide)) 3 rfl)] at h9; exact h9
          refine sX_4 hx hb hK hP hS hd (iv_in (⟨by decide, by decide⟩ : (6 : Int) ≤ (6 : Int32).toInt ∧ (6 : Int32).toInt ≤ 6) (by decide) (by decide)) dX7_setFacts_150 (fun H locs ar_55 ear_55 hP hS => ?_)
          have hA_ar_55 : rB ar_55 := rB_put hA_ar_50 ear_55 (iv_any _)
          refine lv_aload_n hx hb dX7_setFacts_151 rfl (lv_at hl 0 rfl) ?_
          refine gX_X7_62 hx hb htg hown hK hP dX7_setFacts_152 ?_
          refine lv_bipush (v := 7) hx hb dX7_setFacts_155 (by decide) ?_
          refine lv_aload_n hx hb dX7_setFacts_157 rfl (lv_at hl 0 rfl) ?_
          refine gX_X7_35 hx hb htg hown hK hP dX7_setFacts_158 ?_
          refine gX_X7_123 hx hb htg hown hK hP dX7_setFacts_161 ?_
          refine lv_iload_n hx hb dX7_setFacts_164 rfl (lv_at hl 1 rfl) ?_
          refine lX_31 hx hb hK hP (iv_in h_kk (by decide) (by decide)) dX7_setFacts_165 (fun v_56 ev_56 => ?_)
          refine sX_4 hx hb hK hP hS hd (iv_in (⟨by decide, by decide⟩ : (7 : Int) ≤ (7 : Int32).toInt ∧ (7 : Int32).toInt ≤ 7) (by decide) (by decide)) dX7_setFacts_166 (fun H locs ar_57 ear_57 hP hS => ?_)
          have hA_ar_57 : rB ar_57 := rB_put hA_ar_55 ear_57 (iv_any _)
          refine lv_aload_n hx hb dX7_setFacts_167 rfl (lv_at hl 0 rfl) ?_
          refine gX_X7_62 hx hb htg hown hK hP dX7_setFacts_168 ?_
          refine lv_bipush (v := 8) hx hb dX7_setFacts_171 (by decide) ?_
          refine lv_aload_n hx hb dX7_setFacts_173 rfl (lv_at hl 0 rfl) ?_
          refine gX_X7_111 hx hb htg hown hK hP dX7_setFacts_174 ?_
          refine my_ti (y := fv 7) ((fr_51 7 rfl)) ?_
          refine sX_4 hx hb hK hP hS hd (iv_in (⟨by decide, by decide⟩ : (8 : Int) ≤ (8 : Int32).toInt ∧ (8 : Int32).toInt ≤ 8) (by decide) (by decide)) dX7_setFacts_177 (fun H locs ar_58 ear_58 hP hS => ?_)
          have hA_ar_58 : rB ar_58 := rB_put hA_ar_57 ear_58 (iv_any _)
          refine lv_aload_n hx hb dX7_setFacts_178 rfl (lv_at hl 0 rfl) ?_
          refine gX_X7_62 hx hb htg hown hK hP dX7_setFacts_179 ?_
          refine lv_bipush (v := 9) hx hb dX7_setFacts_182 (by decide) ?_
          refine lv_aload_n hx hb dX7_setFacts_184 rfl (lv_at hl 0 rfl) ?_
          refine gX_X7_35 hx hb htg hown hK hP dX7_setFacts_185 ?_
          refine gX_X7_73 hx hb htg hown hK hP dX7_setFacts_188 ?_
          refine lv_iload_n hx hb dX7_setFacts_191 rfl (lv_at hl 1 rfl) ?_
          refine lX_29 hx hb hK hP (iv_in h_kk (by decide) (by decide)) dX7_setFacts_192 (fun v_59 ev_59 => ?_)
          have i_60 : 0 ≤ v_59.toInt ∧ v_59.toInt ≤ 7 := ev_59 ▸ hA_ar_58 29 _
          refine sX_4 hx hb hK hP hS hd (iv_in (⟨by decide, by decide⟩ : (9 : Int) ≤ (9 : Int32).toInt ∧ (9 : Int32).toInt ≤ 9) (by decide) (by decide)) dX7_setFacts_193 (fun H locs ar_61 ear_61 hP hS => ?_)
          have hA_ar_61 : rB ar_61 := rB_put hA_ar_58 ear_61 (iv_any _)
          refine lv_aload_n hx hb dX7_setFacts_194 rfl (lv_at hl 0 rfl) ?_
          refine gX_X7_62 hx hb htg hown hK hP dX7_setFacts_195 ?_
          refine lv_bipush (v := 10) hx hb dX7_setFacts_198 (by decide) ?_
          refine lv_aload_n hx hb dX7_setFacts_200 rfl (lv_at hl 0 rfl) ?_
          refine gX_X7_35 hx hb htg hown hK hP dX7_setFacts_201 ?_
          refine gX_X7_76 hx hb htg hown hK hP dX7_setFacts_204 ?_
          refine lv_iload_n hx hb dX7_setFacts_207 rfl (lv_at hl 1 rfl) ?_
          refine lX_30 hx hb hK hP (iv_in h_kk (by decide) (by decide)) dX7_setFacts_208 (fun v_62 ev_62 => ?_)
          have i_63 : 0 ≤ v_62.toInt ∧ v_62.toInt ≤ 7 := ev_62 ▸ hA_ar_61 30 _
          refine sX_4 hx hb hK hP hS hd (iv_in (⟨by decide, by decide⟩ : (10 : Int) ≤ (10 : Int32).toInt ∧ (10 : Int32).toInt ≤ 10) (by decide) (by decide)) dX7_setFacts_209 (fun H locs ar_64 ear_64 hP hS => ?_)
          have hA_ar_64 : rB ar_64 := rB_put hA_ar_61 ear_64 (iv_any _)
          refine lv_aload_n hx hb dX7_setFacts_210 rfl (lv_at hl 0 rfl) ?_
          refine gX_X7_62 hx hb htg hown hK hP dX7_setFacts_211 ?_
          refine lv_bipush (v := 11) hx hb dX7_setFacts_214 (by decide) ?_
          refine lv_iload_n hx hb dX7_setFacts_216 rfl (lv_at hl 3 rfl) ?_
          refine sX_4 hx hb hK hP hS hd (iv_in (⟨by decide, by decide⟩ : (11 : Int) ≤ (11 : Int32).toInt ∧ (11 : Int32).toInt ≤ 11) (by decide) (by decide)) dX7_setFacts_217 (fun H locs ar_65 ear_65 hP hS => ?_)
          have hA_ar_65 : rB ar_65 := rB_put hA_ar_64 ear_65 (iv_any _)
          exact W.vret hx hb hr (fun t ht hW => ⟨⟨(fv_48, wd_49, ar_65), rfl, ⟨hF_fv_48, hA_ar_65, (fM_call (fM_rf [] _) fr_51 (by decide)), (fA_put (fA_put (fA_put (fA_put (fA_put (fA_put (fA_call (fA_put (fA_put (fA_put (fA_put (fA_put (fA_put (fA_rf [4] _) ear_11 (by decide)) ear_20 (by decide)) ear_29 (by decide)) ear_40 (by decide)) ear_41 (by decide)) ear_44 (by decide)) fa_52 (by decide)) ear_55 (by decide)) ear_57 (by decide)) ear_58 (by decide)) ear_61 (by decide)) ear_64 (by decide)) ear_65 (by decide)), wf_53, (show cd_f (ar_65 4) = (cd_fc (ar 20 ((ar 28 (kk.toInt.toNat)).toInt.toNat)).toInt (ar 23 ((ar 28 (kk.toInt.toNat)).toInt.toNat)).toInt (ar 22 ((ar 28 (kk.toInt.toNat)).toInt.toNat)).toInt (wt_rf (fv 7) (fv 5) (ar 3)) (ar 31 (kk.toInt.toNat)).toInt (fv 7).toInt (ar 29 (kk.toInt.toNat)).toInt (ar 30 (kk.toInt.toNat)).toInt b.toInt d.toInt) from by have hw9 : v_1 = ar 28 (kk.toInt.toNat) := (by rw [ev_1]; exact congrArg (ar 28) (show Int32.toNatClampNeg kk = (kk.toInt.toNat) from (show kk.toInt.toNat = (kk.toInt.toNat) from by omega))); have hw8 : v_1.toInt.toNat = ((ar 28 (kk.toInt.toNat)).toInt.toNat) := (by rw [hw9]); have hrow : ar_65 4 = upd (upd (upd (upd (upd (upd (upd (upd (upd (upd (upd (upd (ar 4) 0 x_8) 1 x_17) 2 x_26) 3 x_37) 4 b) 5 v_42) 6 r_46) 7 v_56) 8 (fv 7)) 9 v_59) 10 v_62) 11 d := (by rw [show ar_65 4 = upd (ar_64 4) (Int32.toNatClampNeg (11 : Int32)) d from by rw [ear_65]; rfl, show ar_64 4 = upd (ar_61 4) (Int32.toNatClampNeg (10 : Int32)) v_62 from by rw [ear_64]; rfl, show ar_61 4 = upd (ar_58 4) (Int32.toNatClampNeg (9 : Int32)) v_59 from by rw [ear_61]; rfl, show ar_58 4 = upd (ar_57 4) (Int32.toNatClampNeg (8 : Int32)) (fv 7) from by rw [ear_58]; rfl, show ar_57 4 = upd (ar_55 4) (Int32.toNatClampNeg (7 : Int32)) v_56 from by rw [ear_57]; rfl, show ar_55 4 = upd (ar_50 4) (Int32.toNatClampNeg (6 : Int32)) r_46 from by rw [ear_55]; rfl, show ar_50 4 = ar_44 4 from ((fA_call (fA_rf [] _) fa_52 (by decide)) 4 rfl), show ar_44 4 = upd (ar_41 4) (Int32.toNatClampNeg (5 : Int32)) v_42 from by rw [ear_44]; rfl, show ar_41 4 = upd (ar_40 4) (Int32.toNatClampNeg (4 : Int32)) b from by rw [ear_41]; rfl, show ar_40 4 = upd (ar_29 4) (Int32.toNatClampNeg (3 : Int32)) x_37 from by rw [ear_40]; rfl, show ar_29 4 = upd (ar_20 4) (Int32.toNatClampNeg (2 : Int32)) x_26 from by rw [ear_29]; rfl, show ar_20 4 = upd (ar_11 4) (Int32.toNatClampNeg (1 : Int32)) x_17 from by rw [ear_20]; rfl, show ar_11 4 = upd (ar 4) (Int32.toNatClampNeg (0 : Int32)) x_8 from by rw [ear_11]; rfl]; rfl); have hv5 : v_42.toInt = (ar 22 ((ar 28 (kk.toInt.toNat)).toInt.toNat)).toInt := congrArg Int32.toInt (by rw [ev_42, show ar_41 22 = ar 22 from ((fA_put (fA_put (fA_put (fA_put (fA_put (fA_rf [4] _) ear_11 (by decide)) ear_20 (by decide)) ear_29 (by decide)) ear_40 (by decide)) ear_41 (by decide)) 22 rfl)]; exact congrArg (ar 22) (show Int32.toNatClampNeg v_1 = ((ar 28 (kk.toInt.toNat)).toInt.toNat) from (show v_1.toInt.toNat = ((ar 28 (kk.toInt.toNat)).toInt.toNat) from by omega))); have hv7 : v_56.toInt = (ar 31 (kk.toInt.toNat)).toInt := congrArg Int32.toInt (by rw [ev_56, show ar_55 31 = ar 31 from ((fA_put (fA_call (fA_put (fA_put (fA_put (fA_put (fA_put (fA_put (fA_rf [4] _) ear_11 (by decide)) ear_20 (by decide)) ear_29 (by decide)) ear_40 (by decide)) ear_41 (by decide)) ear_44 (by decide)) fa_52 (by decide)) ear_55 (by decide)) 31 rfl)]; exact congrArg (ar 31) (show Int32.toNatClampNeg kk = (kk.toInt.toNat) from (show kk.toInt.toNat = (kk.toInt.toNat) from by omega))); have hv9 : v_59.toInt = (ar 29 (kk.toInt.toNat)).toInt := congrArg Int32.toInt (by rw [ev_59, show ar_58 29 = ar 29 from ((fA_put (fA_put (fA_put (fA_call (fA_put (fA_put (fA_put (fA_put (fA_put (fA_put (fA_rf [4] _) ear_11 (by decide)) ear_20 (by decide)) ear_29 (by decide)) ear_40 (by decide)) ear_41 (by decide)) ear_44 (by decide)) fa_52 (by decide)) ear_55 (by decide)) ear_57 (by decide)) ear_58 (by decide)) 29 rfl)]; exact congrArg (ar 29) (show Int32.toNatClampNeg kk = (kk.toInt.toNat) from (show kk.toInt.toNat = (kk.toInt.toNat) from by omega))); have hv10 : v_62.toInt = (ar 30 (kk.toInt.toNat)).toInt := congrArg Int32.toInt (by rw [ev_62, show ar_61 30 = ar 30 from ((fA_put (fA_put (fA_put (fA_put (fA_call (fA_put (fA_put (fA_put (fA_put (fA_put (fA_put (fA_rf [4] _) ear_11 (by decide)) ear_20 (by decide)) ear_29 (by decide)) ear_40 (by decide)) ear_41 (by decide)) ear_44 (by decide)) fa_52 (by decide)) ear_55 (by decide)) ear_57 (by decide)) ear_58 (by decide)) ear_61 (by decide)) 30 rfl)]; exact congrArg (ar 30) (show Int32.toNatClampNeg kk = (kk.toInt.toNat) from (show kk.toInt.toNat = (kk.toInt.toNat) from by omega))); funext k; unfold cd_f; rw [hrow]; have hk12 : k = 0 ∨ k = 1 ∨ k = 2 ∨ k = 3 ∨ k = 4 ∨ k = 5 ∨ k = 6 ∨ k = 7 ∨ k = 8 ∨ k = 9 ∨ k = 10 ∨ k = 11 ∨ 12 ≤ k := (by omega); rcases hk12 with h9 | h9 | h9 | h9 | h9 | h9 | h9 | h9 | h9 | h9 | h9 | h9 | h9; (subst h9; exact q_9); (subst h9; exact q_18); (subst h9; exact q_27); (subst h9; exact q_38); (subst h9; exact rfl); (subst h9; exact hv5); (subst h9; exact rn_54); (subst h9; exact hv7); (subst h9; exact rfl); (subst h9; exact hv9); (subst h9; exact hv10); (subst h9; exact rfl); (unfold cd_fc; rw [if_neg (by omega)]; repeat rw [if_neg (by omega)])), trivial⟩, ⟨by rw [ht]; exact hP, va_K.moved hW.alike hK⟩⟩, hS.F ht⟩) hS.2.2 dX7_setFacts_218
        · skip
          refine lv_icmp_lt (tgt := 111) hx hb dX7_setFacts_104 (by decide) (fun c_32 => ?_) (fun c_32 => ?_)
          · skip
            have i_33 : (-2147483648) ≤ v_30.toInt ∧ v_30.toInt ≤ 198 := iv_lt1 (iv_any v_30) i_31 c_32
            have k_34 := Int32.lt_iff_toInt_lt.mp c_32
            refine lv_iconst (v := 0) hx hb dX7_setFacts_111 (by decide) ?_
            have z_66 : (0 : Int32).toInt = 0 := by decide
            exact hj_39 0 _ _ ls (iv_w (⟨by decide, by decide⟩ : (0 : Int) ≤ (0 : Int32).toInt ∧ (0 : Int32).toInt ≤ 0) (by decide) (by decide)) (by have hw9 : v_1 = ar 28 (kk.toInt.toNat) := (by rw [ev_1]; exact congrArg (ar 28) (show Int32.toNatClampNeg kk = (kk.toInt.toNat) from (show kk.toInt.toNat = (kk.toInt.toNat) from by omega))); have hw8 : v_1.toInt.toNat = ((ar 28 (kk.toInt.toNat)).toInt.toNat) := (by rw [hw9]); have hk9 : v_30 = ar 23 ((ar 28 (kk.toInt.toNat)).toInt.toNat) := (by rw [ev_30, show ar_29 23 = ar 23 from ((fA_put (fA_put (fA_put (fA_rf [4] _) ear_11 (by decide)) ear_20 (by decide)) ear_29 (by decide)) 23 rfl)]; exact congrArg (ar 23) (show Int32.toNatClampNeg v_1 = ((ar 28 (kk.toInt.toNat)).toInt.toNat) from (show v_1.toInt.toNat = ((ar 28 (kk.toInt.toNat)).toInt.toNat) from by omega))); rw [← hk9, if_neg (by omega)]; decide) hP hS (lv_sub hl [0, 1, 2, 3, 4] rfl)
          · skip
            have i_35 : 0 ≤ v_30.toInt ∧ v_30.toInt ≤ 2147483647 := iv_le2 i_31 (iv_any v_30) (Int32.not_lt.mp c_32)
            have k_36 := Int32.le_iff_toInt_le.mp (Int32.not_lt.mp c_32)
            refine lv_iconst (v := 1) hx hb dX7_setFacts_107 (by decide) ?_
            refine lv_goto (tgt := 112) hx hb dX7_setFacts_108 (by decide) ?_
            have z_67 : (1 : Int32).toInt = 1 := by decide
            exact hj_39 1 _ _ ls (iv_w (⟨by decide, by decide⟩ : (1 : Int) ≤ (1 : Int32).toInt ∧ (1 : Int32).toInt ≤ 1) (by decide) (by decide)) (by have hw9 : v_1 = ar 28 (kk.toInt.toNat) := (by rw [ev_1]; exact congrArg (ar 28) (show Int32.toNatClampNeg kk = (kk.toInt.toNat) from (show kk.toInt.toNat = (kk.toInt.toNat) from by omega))); have hw8 : v_1.toInt.toNat = ((ar 28 (kk.toInt.toNat)).toInt.toNat) := (by rw [hw9]); have hk9 : v_30 = ar 23 ((ar 28 (kk.toInt.toNat)).toInt.toNat) := (by rw [ev_30, show ar_29 23 = ar 23 from ((fA_put (fA_put (fA_put (fA_rf [4] _) ear_11 (by decide)) ear_20 (by decide)) ear_29 (by decide)) 23 rfl)]; exact congrArg (ar 23) (show Int32.toNatClampNeg v_1 = ((ar 28 (kk.toInt.toNat)).toInt.toNat) from (show v_1.toInt.toNat = ((ar 28 (kk.toInt.toNat)).toInt.toNat) from by omega))); rw [← hk9, if_pos (by omega)]; decide) hP hS (lv_sub hl [0, 1, 2, 3, 4] rfl)
      · skip
        refine lv_icmp_ne (tgt := 83) hx hb dX7_setFacts_76 (by decide) (fun c_22 => ?_) (fun c_22 => ?_)
        · skip
          have k_23 : ¬ v_3.toInt = 2 := fun q => c_22 (Int32.toInt_inj.mp q)
          refine lv_iconst (v := 0) hx hb dX7_setFacts_83 (by decide) ?_
          have z_68 : (0 : Int32).toInt = 0 := by decide
          exact hj_28 0 _ _ ls (iv_w (⟨by decide, by decide⟩ : (0 : Int) ≤ (0 : Int32).toInt ∧ (0 : Int32).toInt ≤ 0) (by decide) (by decide)) (by have hw9 : v_1 = ar 28 (kk.toInt.toNat) := (by rw [ev_1]; exact congrArg (ar 28) (show Int32.toNatClampNeg kk = (kk.toInt.toNat) from (show kk.toInt.toNat = (kk.toInt.toNat) from by omega))); have hw8 : v_1.toInt.toNat = ((ar 28 (kk.toInt.toNat)).toInt.toNat) := (by rw [hw9]); have hk9 : v_3 = ar 20 ((ar 28 (kk.toInt.toNat)).toInt.toNat) := (by rw [ev_3]; exact congrArg (ar 20) (show Int32.toNatClampNeg v_1 = ((ar 28 (kk.toInt.toNat)).toInt.toNat) from (show v_1.toInt.toNat = ((ar 28 (kk.toInt.toNat)).toInt.toNat) from by omega))); rw [← hk9, if_neg (by omega)]; decide) hP hS (lv_sub hl [0, 1, 2, 3, 4] rfl)
        · skip
          have i_24 : 2 ≤ v_3.toInt ∧ v_3.toInt ≤ 2 := iv_eq1 (⟨by decide, by decide⟩ : (2 : Int) ≤ (2 : Int32).toInt ∧ (2 : Int32).toInt ≤ 2) c_22
          refine lv_iconst (v := 1) hx hb dX7_setFacts_79 (by decide) ?_
          refine lv_goto (tgt := 84) hx hb dX7_setFacts_80 (by decide) ?_
          have z_69 : (1 : Int32).toInt = 1 := by decide
          exact hj_28 1 _ _ ls (iv_w (⟨by decide, by decide⟩ : (1 : Int) ≤ (1 : Int32).toInt ∧ (1 : Int32).toInt ≤ 1) (by decide) (by decide)) (by have hw9 : v_1 = ar 28 (kk.toInt.toNat) := (by rw [ev_1]; exact congrArg (ar 28) (show Int32.toNatClampNeg kk = (kk.toInt.toNat) from (show kk.toInt.toNat = (kk.toInt.toNat) from by omega))); have hw8 : v_1.toInt.toNat = ((ar 28 (kk.toInt.toNat)).toInt.toNat) := (by rw [hw9]); have hk9 : v_3 = ar 20 ((ar 28 (kk.toInt.toNat)).toInt.toNat) := (by rw [ev_3]; exact congrArg (ar 20) (show Int32.toNatClampNeg v_1 = ((ar 28 (kk.toInt.toNat)).toInt.toNat) from (show v_1.toInt.toNat = ((ar 28 (kk.toInt.toNat)).toInt.toNat) from by omega))); rw [← hk9, if_pos (by omega)]; decide) hP hS (lv_sub hl [0, 1, 2, 3, 4] rfl)
    · skip
      refine lv_icmp_ne (tgt := 58) hx hb dX7_setFacts_51 (by decide) (fun c_13 => ?_) (fun c_13 => ?_)
      · skip
        have k_14 : ¬ v_3.toInt = 1 := fun q => c_13 (Int32.toInt_inj.mp q)
        refine lv_iconst (v := 0) hx hb dX7_setFacts_58 (by decide) ?_
        have z_70 : (0 : Int32).toInt = 0 := by decide
        exact hj_19 0 _ _ ls (iv_w (⟨by decide, by decide⟩ : (0 : Int) ≤ (0 : Int32).toInt ∧ (0 : Int32).toInt ≤ 0) (by decide) (by decide)) (by have hw9 : v_1 = ar 28 (kk.toInt.toNat) := (by rw [ev_1]; exact congrArg (ar 28) (show Int32.toNatClampNeg kk = (kk.toInt.toNat) from (show kk.toInt.toNat = (kk.toInt.toNat) from by omega))); have hw8 : v_1.toInt.toNat = ((ar 28 (kk.toInt.toNat)).toInt.toNat) := (by rw [hw9]); have hk9 : v_3 = ar 20 ((ar 28 (kk.toInt.toNat)).toInt.toNat) := (by rw [ev_3]; exact congrArg (ar 20) (show Int32.toNatClampNeg v_1 = ((ar 28 (kk.toInt.toNat)).toInt.toNat) from (show v_1.toInt.toNat = ((ar 28 (kk.toInt.toNat)).toInt.toNat) from by omega))); rw [← hk9, if_neg (by omega)]; decide) hP hS (lv_sub hl [0, 1, 2, 3, 4] rfl)
      · skip
        have i_15 : 1 ≤ v_3.toInt ∧ v_3.toInt ≤ 1 := iv_eq1 (⟨by decide, by decide⟩ : (1 : Int) ≤ (1 : Int32).toInt ∧ (1 : Int32).toInt ≤ 1) c_13
        refine lv_iconst (v := 1) hx hb dX7_setFacts_54 (by decide) ?_
        refine lv_goto (tgt := 59) hx hb dX7_setFacts_55 (by decide) ?_
        have z_71 : (1 : Int32).toInt = 1 := by decide
        exact hj_19 1 _ _ ls (iv_w (⟨by decide, by decide⟩ : (1 : Int) ≤ (1 : Int32).toInt ∧ (1 : Int32).toInt ≤ 1) (by decide) (by decide)) (by have hw9 : v_1 = ar 28 (kk.toInt.toNat) := (by rw [ev_1]; exact congrArg (ar 28) (show Int32.toNatClampNeg kk = (kk.toInt.toNat) from (show kk.toInt.toNat = (kk.toInt.toNat) from by omega))); have hw8 : v_1.toInt.toNat = ((ar 28 (kk.toInt.toNat)).toInt.toNat) := (by rw [hw9]); have hk9 : v_3 = ar 20 ((ar 28 (kk.toInt.toNat)).toInt.toNat) := (by rw [ev_3]; exact congrArg (ar 20) (show Int32.toNatClampNeg v_1 = ((ar 28 (kk.toInt.toNat)).toInt.toNat) from (show v_1.toInt.toNat = ((ar 28 (kk.toInt.toNat)).toInt.toNat) from by omega))); rw [← hk9, if_pos (by omega)]; decide) hP hS (lv_sub hl [0, 1, 2, 3, 4] rfl)
  · skip
    refine lv_if_ne (tgt := 33) hx hb dX7_setFacts_26 (by decide) (fun c_4 => ?_) (fun c_4 => ?_)
    · skip
      have k_5 : ¬ v_3.toInt = 0 := fun q => c_4 (Int32.toInt_inj.mp q)
      refine lv_iconst (v := 0) hx hb dX7_setFacts_33 (by decide) ?_
      have z_72 : (0 : Int32).toInt = 0 := by decide
      exact hj_10 0 _ _ ls (iv_w (⟨by decide, by decide⟩ : (0 : Int) ≤ (0 : Int32).toInt ∧ (0 : Int32).toInt ≤ 0) (by decide) (by decide)) (by have hw9 : v_1 = ar 28 (kk.toInt.toNat) := (by rw [ev_1]; exact congrArg (ar 28) (show Int32.toNatClampNeg kk = (kk.toInt.toNat) from (show kk.toInt.toNat = (kk.toInt.toNat) from by omega))); have hw8 : v_1.toInt.toNat = ((ar 28 (kk.toInt.toNat)).toInt.toNat) := (by rw [hw9]); have hk9 : v_3 = ar 20 ((ar 28 (kk.toInt.toNat)).toInt.toNat) := (by rw [ev_3]; exact congrArg (ar 20) (show Int32.toNatClampNeg v_1 = ((ar 28 (kk.toInt.toNat)).toInt.toNat) from (show v_1.toInt.toNat = ((ar 28 (kk.toInt.toNat)).toInt.toNat) from by omega))); rw [← hk9, if_neg (by omega)]; decide) hP hS (lv_sub hl [1, 2, 3, 4, 0] rfl)
    · skip
      have i_6 : 0 ≤ v_3.toInt ∧ v_3.toInt ≤ 0 := iv_eq1 (⟨by decide, by decide⟩ : (0 : Int) ≤ (0 : Int32).toInt ∧ (0 : Int32).toInt ≤ 0) c_4
      refine lv_iconst (v := 1) hx hb dX7_setFacts_29 (by decide) ?_
      refine lv_goto (tgt := 34) hx hb dX7_setFacts_30 (by decide) ?_
      have z_73 : (1 : Int32).toInt = 1 := by decide
      exact hj_10 1 _ _ ls (iv_w (⟨by decide, by decide⟩ : (1 : Int) ≤ (1 : Int32).toInt ∧ (1 : Int32).toInt ≤ 1) (by decide) (by decide)) (by have hw9 : v_1 = ar 28 (kk.toInt.toNat) := (by rw [ev_1]; exact congrArg (ar 28) (show Int32.toNatClampNeg kk = (kk.toInt.toNat) from (show kk.toInt.toNat = (kk.toInt.toNat) from by omega))); have hw8 : v_1.toInt.toNat = ((ar 28 (kk.toInt.toNat)).toInt.toNat) := (by rw [hw9]); have hk9 : v_3 = ar 20 ((ar 28 (kk.toInt.toNat)).toInt.toNat) := (by rw [ev_3]; exact congrArg (ar 20) (show Int32.toNatClampNeg v_1 = ((ar 28 (kk.toInt.toNat)).toInt.toNat) from (show v_1.toInt.toNat = ((ar 28 (kk.toInt.toNat)).toInt.toNat) from by omega))); rw [← hk9, if_pos (by omega)]; decide) hP hS (lv_sub hl [1, 2, 3, 4, 0] rfl)
set_option maxHeartbeats 4000000 in
set_option maxRecDepth 100000 in
theorem x_askE (l : Launch) (dC : Nat → ClassId) (dI : Nat → Nat → Nat) (sz : Nat) (ob ad : Nat → Nat) (cA : Nat → ClassId) (hd : dX ob ad) (fv : Nat → Int32) (wd : xT) (ar : Nat → Nat → Int32) (hF_fv : rX fv) (hA_ar : rB ar) (la : Nat) (lfr : Int32) (lra : Nat → Nat) (lrc : Nat → ClassId) (lln lcn : Nat) (llr : Nat → Nat → Int32) (hlq : lwQ lln lcn llr) (kk : Int32) (a : Int32) (b : Int32) (d : Int32) (h_kk : 0 ≤ kk.toInt ∧ kk.toInt ≤ 79) (hgd : ∀ i, i < lln → cd_gd (cd_gX llr i)) : Met l yX7_ask (.code yX7_ask cX7_ask 7 (some .int) :: lw_good) ({ frames := 4, cells := 0, slots := 0, locals := 89 }) (va_Pc [.ref (ob 1), .ref la, .int kk, .int a, .int b, .int d] (fun U => prX dC dI ob ad cA fv wd ar sz U ∧ lwA dC dI ob ad la lfr lra lrc lln lcn llr sz U)) (va_Qi (fun (r : Int32) (u : xS) => rX u.1 ∧ rB u.2.2 ∧ fM [6] fv u.1 ∧ fA [4] ar u.2.2 ∧ u.2.1.2 = wd.2 ∧ ((u.1 6).toInt = cd_al (cd_fc (ar 20 ((ar 28 (kk.toInt.toNat)).toInt.toNat)).toInt (ar 23 ((ar 28 (kk.toInt.toNat)).toInt.toNat)).toInt (ar 22 ((ar 28 (kk.toInt.toNat)).toInt.toNat)).toInt (wt_rf (fv 7) (fv 5) (ar 3)) (ar 31 (kk.toInt.toNat)).toInt (fv 7).toInt (ar 29 (kk.toInt.toNat)).toInt (ar 30 (kk.toInt.toNat)).toInt (cd_ri a.toInt b.toInt) d.toInt) a.toInt (decide ((ar 20 ((ar 28 (kk.toInt.toNat)).toInt.toNat)).toInt = 2)) (cd_Wf (cd_gX llr) lln 0)) ∧ (r.toInt = cd_av (cd_fc (ar 20 ((ar 28 (kk.toInt.toNat)).toInt.toNat)).toInt (ar 23 ((ar 28 (kk.toInt.toNat)).toInt.toNat)).toInt (ar 22 ((ar 28 (kk.toInt.toNat)).toInt.toNat)).toInt (wt_rf (fv 7) (fv 5) (ar 3)) (ar 31 (kk.toInt.toNat)).toInt (fv 7).toInt (ar 29 (kk.toInt.toNat)).toInt (ar 30 (kk.toInt.toNat)).toInt (cd_ri a.toInt b.toInt) d.toInt) a.toInt (decide ((ar 20 ((ar 28 (kk.toInt.toNat)).toInt.toNat)).toInt = 2)) (cd_Wf (cd_gX llr) lln 0)) ∧ True) (enX dC dI ob ad cA) (aX ob ad sz)) 0 0 (aX ob ad sz) := by
  refine Met.ofW (cc := cX7_ask) (maxL := 7) (ret := (some .int)) (by decide) rfl ?_
  intro p e s m args below meth c s₁ B hml hv
  obtain ⟨rfl, ⟨hsz, hP, hK⟩, hL⟩ := hv
  have hx := B.exec
  have hb := B.bytes
  have hr := B.returns
  have hts := atoms_spec (ws := (.code yX7_ask cX7_ask 7 (some .int) :: lw_good)) B.pre
  have htg : ∀ w ∈ lw_good, w.before _ s = true := fun w hw => hts w (List.mem_cons_of_mem _ hw)
  have hown : s.vm.findClass RX7 = some m.cls := findClass_of_methodNamed B.named
  have hlocks := B.notSynchronized
  subst hsz
  have hS : va_S (aX ob ad s.heap.size) s.heap s.heap [] := va_S.rf
  have hl := lv_entry ([.ref (ob 1), .ref la, .int kk, .int a, .int b, .int d]) (n := 7) (Nat.le_of_ble_eq_true rfl)
  rw [lg_entry_eq]
  generalize (lg_sl ([.ref (ob 1), .ref la, .int kk, .int a, .int b, .int d]) ++ List.replicate (7 - (lg_sl ([.ref (ob 1), .ref la, .int kk, .int a, .int b, .int d])).length) Slot.unset).toArray = ls at hl ⊢
  have hl : lv_has ls 7 [(0, .ref (ob 1)), (1, .ref la), (2, .int kk), (3, .int a), (4, .int b), (5, .int d)] := hl
  refine lv_aload_n hx hb dX7_ask_0 rfl (lv_at hl 0 rfl) ?_
  refine gX_X7_28 hx hb htg hown hK hP dX7_ask_1 ?_
  refine gX_X7_83 hx hb htg hown hK hP dX7_ask_4 ?_
  refine lv_aload_n hx hb dX7_ask_7 rfl (lv_at hl 0 rfl) ?_
  refine gX_X7_35 hx hb htg hown hK hP dX7_ask_8 ?_
  refine gX_X7_86 hx hb htg hown hK hP dX7_ask_11 ?_
  refine lv_iload_n hx hb dX7_ask_14 rfl (lv_at hl 2 rfl) ?_
  refine lX_28 hx hb hK hP (iv_in h_kk (by decide) (by decide)) dX7_ask_15 (fun v_1 ev_1 => ?_)
  have i_2 : 0 ≤ v_1.toInt ∧ v_1.toInt ≤ 19 := ev_1 ▸ hA_ar 28 _
  refine lX_20 hx hb hK hP (iv_in i_2 (by decide) (by decide)) dX7_ask_16 (fun v_3 ev_3 => ?_)
  refine lv_iconst (v := 2) hx hb dX7_ask_17 (by decide) ?_
  refine lv_icmp_ne (tgt := 25) hx hb dX7_ask_18 (by decide) (fun c_4 => ?_) (fun c_4 => ?_)
  · skip
    have k_5 : ¬ v_3.toInt = 2 := fun q => c_4 (Int32.toInt_inj.mp q)
    have htx : (decide ((ar 20 ((ar 28 (kk.toInt.toNat)).toInt.toNat)).toInt = 2)) = false := by have hw9 : v_1 = ar 28 (kk.toInt.toNat) := (by rw [ev_1]; exact congrArg (ar 28) (show Int32.toNatClampNeg kk = (kk.toInt.toNat) from (show kk.toInt.toNat = (kk.toInt.toNat) from by omega))); have hw8 : v_1.toInt.toNat = ((ar 28 (kk.toInt.toNat)).toInt.toNat) := (by rw [hw9]); have hk9 : v_3 = ar 20 ((ar 28 (kk.toInt.toNat)).toInt.toNat) := (by rw [ev_3]; exact congrArg (ar 20) (show Int32.toNatClampNeg v_1 = ((ar 28 (kk.toInt.toNat)).toInt.toNat) from (show v_1.toInt.toNat = ((ar 28 (kk.toInt.toNat)).toInt.toNat) from by omega))); rw [← hk9]; exact decide_eq_false (by omega)
    refine lv_iconst (v := 0) hx hb dX7_ask_25 (by decide) ?_
    refine lv_istore (lv' := [(6, .int 0), (0, .ref (ob 1)), (1, .ref la), (2, .int kk), (3, .int a), (4, .int b), (5, .int d)]) hx hb dX7_ask_26 hl (by decide) rfl (fun ls hl => ?_)
    refine lv_aload_n hx hb dX7_ask_28 rfl (lv_at hl 1 rfl) ?_
    refine lv_iload_n hx hb dX7_ask_29 rfl (lv_at hl 3 rfl) ?_
    refine lv_iload_n hx hb dX7_ask_30 rfl (lv_at hl 4 rfl) ?_
    refine va_calli (va_runS (As := [.int a]) (rest := [.int kk, .ref (ob 1)]) ⟨hx, hb, hml, hown, hts⟩ (x_isAskedEmptyE l s.heap.size a) (va_cwS 1 hts (gS kw_5_22 kw_5_23 kw_1_2 kw_5_24) rfl rfl rfl (by decide +kernel) ⟨Nat.le_of_ble_eq_true rfl, Nat.le_of_ble_eq_true rfl⟩) ⟨fun a U g mk q => ⟨q.1, q.2⟩, fun U hU hW => ⟨rfl, congrArg Array.size hU⟩⟩ rfl rfl hl.1 rfl (lv_room (Nat.le_of_ble_eq_true rfl)) dX7_ask_31 ⟨Nat.le_of_ble_eq_true rfl, Nat.le_of_ble_eq_true rfl⟩) hS (fun q _ h9 => nX_up hS q h9) (nX_up hS) (fun r_6 u t H1 locs ht _ hw hB _ hk1 hS => ?_)
    obtain ⟨p_7, p_8, -⟩ := hw
    have hP := my_keepM hP hk1
    generalize H1 = H at hP hS ⊢
    rcases p_8 with ⟨rfl, p_8⟩ | ⟨rfl, p_8⟩
    · skip
      have q_9 : ¬ (a.toInt = 0 ∨ a.toInt = 2 ∨ a.toInt = 5) := p_8
      refine lv_if_eq (tgt := 41) hx hb dX7_ask_34 (by decide) (fun c_10 => ?_) (fun c_10 => ?_)
      · skip
        refine lv_iload hx hb dX7_ask_41 (lv_at hl 5 rfl) ?_
        refine lv_iload hx hb dX7_ask_43 (lv_at hl 6 rfl) ?_
        have z_11 : 0 ≤ (fv 5).toInt ∧ (fv 5).toInt ≤ 200 := hF_fv 5
        have z_12 : 0 ≤ (fv 7).toInt ∧ (fv 7).toInt ≤ 199 := hF_fv 7
        refine va_callv (va_runV (As := [.int kk, .int b, .int d]) (rest := []) ⟨hx, hb, hml, hown, hts⟩ (x_setFactsE l dC dI H.size ob ad cA hd fv wd ar hF_fv hA_ar kk b d h_kk) (cwV 3 hts (gV kw_5_25 kw_5_27 kw_p_19 kw_1_2 kw_5_28) rfl rfl rfl (by decide +kernel) ⟨Nat.le_of_ble_eq_true rfl, Nat.le_of_ble_eq_true rfl⟩) ⟨fun a U g mk q => ⟨q.1, q.2.1, q.2.2.1, va_K.moved (u := U) (U := U.calling g mk a) (Vm.Alike.refl U.vm) q.2.2.2⟩, va_recv hK hP (ci := 7) (q0 := 1) rfl rfl, fun U hU hW => ⟨rfl, by rw [hU], by rw [hU]; exact hP, va_K.moved hW.alike hK⟩⟩ rfl rfl hl.1 rfl (lv_room (Nat.le_of_ble_eq_true rfl)) dX7_ask_45 ⟨Nat.le_of_ble_eq_true rfl, Nat.le_of_ble_eq_true rfl⟩) hS (fun q _ h9 => aX_up hS q h9) (aX_up hS) (fun u t H1 locs ht _ hw hB _ hk1 hS => ?_)
        obtain ⟨fv_15, wd_16, ar_17⟩ := u
        obtain ⟨hF_fv_15, hA_ar_17, fr_18, fa_19, wf_20, p_14, -⟩ := hw
        have wf_20 : wd_16.2 = wd.2 := wf_20
        have hP : va_P (dC, dI) vwCl (wsX ob ad cA fv_15 wd_16 ar_17) H1 := by have h9 := hB.1; rw [ht] at h9; exact h9
        have fr_18 : fM [] fv fv_15 := fr_18
        have fa_19 : fA [4] ar ar_17 := fa_19
        have p_14 : cd_f (ar_17 4) = (cd_fc (ar 20 ((ar 28 (kk.toInt.toNat)).toInt.toNat)).toInt (ar 23 ((ar 28 (kk.toInt.toNat)).toInt.toNat)).toInt (ar 22 ((ar 28 (kk.toInt.toNat)).toInt.toNat)).toInt (wt_rf (fv 7) (fv 5) (ar 3)) (ar 31 (kk.toInt.toNat)).toInt (fv 7).toInt (ar 29 (kk.toInt.toNat)).toInt (ar 30 (kk.toInt.toNat)).toInt b.toInt d.toInt) := p_14
        generalize H1 = H at hP hS ⊢
        have sf_21 : cd_f (ar_17 4) = (cd_fc (ar 20 ((ar 28 (kk.toInt.toNat)).toInt.toNat)).toInt (ar 23 ((ar 28 (kk.toInt.toNat)).toInt.toNat)).toInt (ar 22 ((ar 28 (kk.toInt.toNat)).toInt.toNat)).toInt (wt_rf (fv 7) (fv 5) (ar 3)) (ar 31 (kk.toInt.toNat)).toInt (fv 7).toInt (ar 29 (kk.toInt.toNat)).toInt (ar 30 (kk.toInt.toNat)).toInt (cd_ri a.toInt b.toInt) d.toInt) := by have hri : (b).toInt = cd_ri a.toInt b.toInt := (by unfold cd_ri; rw [if_neg q_9]); have h9 := p_14; rw [hri] at h9; exact h9
        refine lv_aload_n hx hb dX7_ask_48 rfl (lv_at hl 1 rfl) ?_
        refine lv_iload_n hx hb dX7_ask_49 rfl (lv_at hl 4 rfl) ?_
        refine lv_iconst (v := 5) hx hb dX7_ask_50 (by decide) ?_
        refine lv_icmp_ne (tgt := 63) hx hb dX7_ask_51 (by decide) (fun c_22 => ?_) (fun c_22 => ?_)
        · skip
          have k_23 : ¬ a.toInt = 5 := fun q => c_22 (Int32.toInt_inj.mp q)
          refine lv_aload_n hx hb dX7_ask_63 rfl (lv_at hl 2 rfl) ?_
          refine lv_iload_n hx hb dX7_ask_64 rfl (lv_at hl 4 rfl) ?_
          refine lv_aload_n hx hb dX7_ask_65 rfl (lv_at hl 1 rfl) ?_
          refine gX_X7_62 hx hb htg hown hK hP dX7_ask_66 ?_
          refine va_calli (va_runV (As := [.int a, .ref (ad 4)]) (rest := [.ref (ob 1)]) ⟨hx, hb, hml, hown, hts⟩ (x_lineForE l dC dI H.size ob ad cA hd fv_15 wd_16 ar_17 hF_fv_15 hA_ar_17 la lfr lra lrc lln lcn llr hlq a hgd (by rw [sf_21]; exact cd_fc01)) (cwV 2 hts (gV kw_5_30 kw_5_31 kw_5_32 kw_1_10 kw_5_33) rfl rfl rfl (by decide +kernel) ⟨Nat.le_of_ble_eq_true rfl, Nat.le_of_ble_eq_true rfl⟩) ⟨fun a U g mk q => ⟨q.1, ⟨q.2.1.1, q.2.1.2.1, va_K.moved (u := U) (U := U.calling g mk a) (Vm.Alike.refl U.vm) q.2.1.2.2⟩, ⟨q.2.2.1, va_K.moved (u := U) (U := U.calling g mk a) (Vm.Alike.refl U.vm) q.2.2.2.1, q.2.2.2.2⟩⟩, va_recv (lw_K hL) (lw_now hL hS) (ci := 1) (q0 := 0) rfl rfl, fun U hU hW => ⟨rfl, ⟨by rw [hU], by rw [hU]; exact hP, va_K.moved hW.alike hK⟩, lw_pass hL hS hU hW.alike⟩⟩ rfl rfl hl.1 rfl (lv_room (Nat.le_of_ble_eq_true rfl)) dX7_ask_69 ⟨Nat.le_of_ble_eq_true rfl, Nat.le_of_ble_eq_true rfl⟩) hS (fun q _ h9 => aX_up hS q h9) (aX_up hS) (fun r_24 u t H1 locs ht _ hw hB _ hk1 hS => ?_)
          obtain ⟨fv_28, wd_29, ar_30⟩ := u
          obtain ⟨hF_fv_28, hA_ar_30, fr_31, fa_32, wf_33, p_25, p_26, p_27, -⟩ := hw
          have wf_33 : wd_29.2 = wd_16.2 := wf_33
          have hP : va_P (dC, dI) vwCl (wsX ob ad cA fv_28 wd_29 ar_30) H1 := by have h9 := hB.1; rw [ht] at h9; exact h9
          have fr_31 : fM [] fv_15 fv_28 := fr_31
          have fa_32 : fA [] ar_17 ar_30 := fa_32
          have p_26 : r_24.toInt < lln := p_26
          have p_27 : r_24.toInt = cd_fi (cd_f (ar_17 4)) a.toInt (cd_Wf (cd_gX llr) lln 0) 0 := p_27
          generalize H1 = H at hP hS ⊢
          have lf_34 : r_24.toInt = cd_fi (cd_fc (ar 20 ((ar 28 (kk.toInt.toNat)).toInt.toNat)).toInt (ar 23 ((ar 28 (kk.toInt.toNat)).toInt.toNat)).toInt (ar 22 ((ar 28 (kk.toInt.toNat)).toInt.toNat)).toInt (wt_rf (fv 7) (fv 5) (ar 3)) (ar 31 (kk.toInt.toNat)).toInt (fv 7).toInt (ar 29 (kk.toInt.toNat)).toInt (ar 30 (kk.toInt.toNat)).toInt (cd_ri a.toInt b.toInt) d.toInt) a.toInt (cd_Wf (cd_gX llr) lln 0) 0 := by have h9 := p_27; rw [sf_21] at h9; exact h9
          refine pX_X7_137 hx hb htg hown hK hP hS hd dX7_ask_72 (fun H locs fv_35 efv_35 hP hS => ?_)
          have hF_fv_35 : rX fv_35 := rX_put hF_fv_28 efv_35 (iv_any _)
          refine lv_aload_n hx hb dX7_ask_75 rfl (lv_at hl 1 rfl) ?_
          refine gX_X7_137 hx hb htg hown hK hP dX7_ask_76 ?_
          refine my_ti (y := r_24) ((congrFun efv_35 6)) ?_
          refine lv_iconst (v := (-1)) hx hb dX7_ask_79 (by decide) ?_
          refine lv_icmp_ne (tgt := 92) hx hb dX7_ask_80 (by decide) (fun c_36 => ?_) (fun c_36 => ?_)
          · skip
            have i_37 : 0 ≤ r_24.toInt ∧ r_24.toInt ≤ 15 := iv_nel p_25 (by decide) c_36
            have k_38 : ¬ r_24.toInt = (-1) := fun q => c_36 (Int32.toInt_inj.mp q)
            refine lv_aload_n hx hb dX7_ask_92 rfl (lv_at hl 2 rfl) ?_
            refine gL_X7_144 hx hb htg hown (lw_K hL) (lw_now hL hS) dX7_ask_93 ?_
            refine lv_aload_n hx hb dX7_ask_96 rfl (lv_at hl 1 rfl) ?_
            refine gX_X7_137 hx hb htg hown hK hP dX7_ask_97 ?_
            refine my_ti (y := r_24) ((congrFun efv_35 6)) ?_
            refine lL_2 hx hb (lw_K hL) (lw_now hL hS) (vp_in_iff.mpr (by omega)) dX7_ask_100 (fun v_39 ev_39 => ?_)
            exact W.iret (v := v_39) hx hb hr (fun t ht hW => ⟨⟨v_39, (fv_35, wd_29, ar_30), rfl, ⟨hF_fv_35, hA_ar_30, (fM_put (fM_call (fM_call (fM_rf [6] _) fr_18 (by decide)) fr_31 (by decide)) efv_35 (by decide)), (fA_call (fA_call (fA_rf [4] _) fa_19 (by decide)) fa_32 (by decide)), (wf_33.trans wf_20), (show (fv_35 6).toInt = cd_al (cd_fc (ar 20 ((ar 28 (kk.toInt.toNat)).toInt.toNat)).toInt (ar 23 ((ar 28 (kk.toInt.toNat)).toInt.toNat)).toInt (ar 22 ((ar 28 (kk.toInt.toNat)).toInt.toNat)).toInt (wt_rf (fv 7) (fv 5) (ar 3)) (ar 31 (kk.toInt.toNat)).toInt (fv 7).toInt (ar 29 (kk.toInt.toNat)).toInt (ar 30 (kk.toInt.toNat)).toInt (cd_ri a.toInt b.toInt) d.toInt) a.toInt (decide ((ar 20 ((ar 28 (kk.toInt.toNat)).toInt.toNat)).toInt = 2)) (cd_Wf (cd_gX llr) lln 0) from by have hal : cd_al (cd_fc (ar 20 ((ar 28 (kk.toInt.toNat)).toInt.toNat)).toInt (ar 23 ((ar 28 (kk.toInt.toNat)).toInt.toNat)).toInt (ar 22 ((ar 28 (kk.toInt.toNat)).toInt.toNat)).toInt (wt_rf (fv 7) (fv 5) (ar 3)) (ar 31 (kk.toInt.toNat)).toInt (fv 7).toInt (ar 29 (kk.toInt.toNat)).toInt (ar 30 (kk.toInt.toNat)).toInt (cd_ri a.toInt b.toInt) d.toInt) a.toInt (decide ((ar 20 ((ar 28 (kk.toInt.toNat)).toInt.toNat)).toInt = 2)) (cd_Wf (cd_gX llr) lln 0) = r_24.toInt := (by unfold cd_al; rw [if_neg (fun w => by rw [htx] at w; exact absurd w.2 (by decide))]; exact (lf_34).symm); rw [hal, show fv_35 6 = r_24 from (congrFun efv_35 6)]), (show v_39.toInt = cd_av (cd_fc (ar 20 ((ar 28 (kk.toInt.toNat)).toInt.toNat)).toInt (ar 23 ((ar 28 (kk.toInt.toNat)).toInt.toNat)).toInt (ar 22 ((ar 28 (kk.toInt.toNat)).toInt.toNat)).toInt (wt_rf (fv 7) (fv 5) (ar 3)) (ar 31 (kk.toInt.toNat)).toInt (fv 7).toInt (ar 29 (kk.toInt.toNat)).toInt (ar 30 (kk.toInt.toNat)).toInt (cd_ri a.toInt b.toInt) d.toInt) a.toInt (decide ((ar 20 ((ar 28 (kk.toInt.toNat)).toInt.toNat)).toInt = 2)) (cd_Wf (cd_gX llr) lln 0) from by have hal : cd_al (cd_fc (ar 20 ((ar 28 (kk.toInt.toNat)).toInt.toNat)).toInt (ar 23 ((ar 28 (kk.toInt.toNat)).toInt.toNat)).toInt (ar 22 ((ar 28 (kk.toInt.toNat)).toInt.toNat)).toInt (wt_rf (fv 7) (fv 5) (ar 3)) (ar 31 (kk.toInt.toNat)).toInt (fv 7).toInt (ar 29 (kk.toInt.toNat)).toInt (ar 30 (kk.toInt.toNat)).toInt (cd_ri a.toInt b.toInt) d.toInt) a.toInt (decide ((ar 20 ((ar 28 (kk.toInt.toNat)).toInt.toNat)).toInt = 2)) (cd_Wf (cd_gX llr) lln 0) = r_24.toInt := (by unfold cd_al; rw [if_neg (fun w => by rw [htx] at w; exact absurd w.2 (by decide))]; exact (lf_34).symm); have hv9 : llr 2 (r_24.toInt.toNat) = v_39 := ev_39.symm; unfold cd_av; rw [if_neg (by rw [hal]; omega)]; rcases cd_fi_val (f := (cd_fc (ar 20 ((ar 28 (kk.toInt.toNat)).toInt.toNat)).toInt (ar 23 ((ar 28 (kk.toInt.toNat)).toInt.toNat)).toInt (ar 22 ((ar 28 (kk.toInt.toNat)).toInt.toNat)).toInt (wt_rf (fv 7) (fv 5) (ar 3)) (ar 31 (kk.toInt.toNat)).toInt (fv 7).toInt (ar 29 (kk.toInt.toNat)).toInt (ar 30 (kk.toInt.toNat)).toInt (cd_ri a.toInt b.toInt) d.toInt)) (k := a.toInt) (g := cd_gX llr) lln 0 with h9 | ⟨j9, h1, h2, h3, h4⟩; exfalso; omega; rw [← h4, show j9 = r_24.toInt.toNat from by omega]; show _ = (llr 2 (r_24.toInt.toNat)).toInt; rw [hv9]), trivial⟩, ⟨by rw [ht]; exact hP, va_K.moved hW.alike hK⟩⟩, hS.F ht⟩) hS.2.2 dX7_ask_101
          · skip
            have i_40 : (-1) ≤ r_24.toInt ∧ r_24.toInt ≤ (-1) := iv_eq1 (⟨by decide, by decide⟩ : (-1 : Int) ≤ ((-1) : Int32).toInt ∧ ((-1) : Int32).toInt ≤ -1) c_36
            refine lv_iload hx hb dX7_ask_83 (lv_at hl 0 rfl) ?_
            refine lv_iload_n hx hb dX7_ask_85 rfl (lv_at hl 4 rfl) ?_
            refine va_calli (va_runS (As := [.int 0, .int a]) (rest := []) ⟨hx, hb, hml, hown, hts⟩ (x_plainValueE l H.size 0 a (iv_w (⟨by decide, by decide⟩ : (0 : Int) ≤ (0 : Int32).toInt ∧ (0 : Int32).toInt ≤ 0) (by decide) (by decide))) (va_cwS 2 hts (gS kw_5_38 kw_5_39 kw_1_2 kw_5_40) rfl rfl rfl (by decide +kernel) ⟨Nat.le_of_ble_eq_true rfl, Nat.le_of_ble_eq_true rfl⟩) ⟨fun a U g mk q => ⟨q.1, q.2⟩, fun U hU hW => ⟨rfl, congrArg Array.size hU⟩⟩ rfl rfl hl.1 rfl (lv_room (Nat.le_of_ble_eq_true rfl)) dX7_ask_86 ⟨Nat.le_of_ble_eq_true rfl, Nat.le_of_ble_eq_true rfl⟩) hS (fun q _ h9 => nX_up hS q h9) (nX_up hS) (fun r_42 u t H1 locs ht _ hw hB _ hk1 hS => ?_)
            obtain ⟨p_43, -⟩ := hw
            have hP := my_keepM hP hk1
            generalize H1 = H at hP hS ⊢
            refine lv_goto (tgt := 101) hx hb dX7_ask_89 (by decide) ?_
            exact W.iret (v := r_42) hx hb hr (fun t ht hW => ⟨⟨r_42, (fv_35, wd_29, ar_30), rfl, ⟨hF_fv_35, hA_ar_30, (fM_put (fM_call (fM_call (fM_rf [6] _) fr_18 (by decide)) fr_31 (by decide)) efv_35 (by decide)), (fA_call (fA_call (fA_rf [4] _) fa_19 (by decide)) fa_32 (by decide)), (wf_33.trans wf_20), (show (fv_35 6).toInt = cd_al (cd_fc (ar 20 ((ar 28 (kk.toInt.toNat)).toInt.toNat)).toInt (ar 23 ((ar 28 (kk.toInt.toNat)).toInt.toNat)).toInt (ar 22 ((ar 28 (kk.toInt.toNat)).toInt.toNat)).toInt (wt_rf (fv 7) (fv 5) (ar 3)) (ar 31 (kk.toInt.toNat)).toInt (fv 7).toInt (ar 29 (kk.toInt.toNat)).toInt (ar 30 (kk.toInt.toNat)).toInt (cd_ri a.toInt b.toInt) d.toInt) a.toInt (decide ((ar 20 ((ar 28 (kk.toInt.toNat)).toInt.toNat)).toInt = 2)) (cd_Wf (cd_gX llr) lln 0) from by have hal : cd_al (cd_fc (ar 20 ((ar 28 (kk.toInt.toNat)).toInt.toNat)).toInt (ar 23 ((ar 28 (kk.toInt.toNat)).toInt.toNat)).toInt (ar 22 ((ar 28 (kk.toInt.toNat)).toInt.toNat)).toInt (wt_rf (fv 7) (fv 5) (ar 3)) (ar 31 (kk.toInt.toNat)).toInt (fv 7).toInt (ar 29 (kk.toInt.toNat)).toInt (ar 30 (kk.toInt.toNat)).toInt (cd_ri a.toInt b.toInt) d.toInt) a.toInt (decide ((ar 20 ((ar 28 (kk.toInt.toNat)).toInt.toNat)).toInt = 2)) (cd_Wf (cd_gX llr) lln 0) = r_24.toInt := (by unfold cd_al; rw [if_neg (fun w => by rw [htx] at w; exact absurd w.2 (by decide))]; exact (lf_34).symm); rw [hal, show fv_35 6 = r_24 from (congrFun efv_35 6)]), (show r_42.toInt = cd_av (cd_fc (ar 20 ((ar 28 (kk.toInt.toNat)).toInt.toNat)).toInt (ar 23 ((ar 28 (kk.toInt.toNat)).toInt.toNat)).toInt (ar 22 ((ar 28 (kk.toInt.toNat)).toInt.toNat)).toInt (wt_rf (fv 7) (fv 5) (ar 3)) (ar 31 (kk.toInt.toNat)).toInt (fv 7).toInt (ar 29 (kk.toInt.toNat)).toInt (ar 30 (kk.toInt.toNat)).toInt (cd_ri a.toInt b.toInt) d.toInt) a.toInt (decide ((ar 20 ((ar 28 (kk.toInt.toNat)).toInt.toNat)).toInt = 2)) (cd_Wf (cd_gX llr) lln 0) from by have hal : cd_al (cd_fc (ar 20 ((ar 28 (kk.toInt.toNat)).toInt.toNat)).toInt (ar 23 ((ar 28 (kk.toInt.toNat)).toInt.toNat)).toInt (ar 22 ((ar 28 (kk.toInt.toNat)).toInt.toNat)).toInt (wt_rf (fv 7) (fv 5) (ar 3)) (ar 31 (kk.toInt.toNat)).toInt (fv 7).toInt (ar 29 (kk.toInt.toNat)).toInt (ar 30 (kk.toInt.toNat)).toInt (cd_ri a.toInt b.toInt) d.toInt) a.toInt (decide ((ar 20 ((ar 28 (kk.toInt.toNat)).toInt.toNat)).toInt = 2)) (cd_Wf (cd_gX llr) lln 0) = r_24.toInt := (by unfold cd_al; rw [if_neg (fun w => by rw [htx] at w; exact absurd w.2 (by decide))]; exact (lf_34).symm); have hm1 : ((-1) : Int32).toInt = -1 := (by decide); unfold cd_av; rw [if_pos (by rw [hal]; omega), p_43, htx]; rfl), trivial⟩, ⟨by rw [ht]; exact hP, va_K.moved hW.alike hK⟩⟩, hS.F ht⟩) hS.2.2 dX7_ask_101
        · skip
          have i_44 : 5 ≤ a.toInt ∧ a.toInt ≤ 5 := iv_eq1 (⟨by decide, by decide⟩ : (5 : Int) ≤ (5 : Int32).toInt ∧ (5 : Int32).toInt ≤ 5) c_22
          refine lv_iload hx hb dX7_ask_54 (lv_at hl 0 rfl) ?_
          refine lv_if_eq (tgt := 63) hx hb dX7_ask_56 (by decide) (fun c_46 => ?_) (fun c_46 => ?_)
          · skip
            refine lv_aload_n hx hb dX7_ask_63 rfl (lv_at hl 2 rfl) ?_
            refine lv_iload_n hx hb dX7_ask_64 rfl (lv_at hl 4 rfl) ?_
            refine lv_aload_n hx hb dX7_ask_65 rfl (lv_at hl 1 rfl) ?_
            refine gX_X7_62 hx hb htg hown hK hP dX7_ask_66 ?_
            refine va_calli (va_runV (As := [.int a, .ref (ad 4)]) (rest := [.ref (ob 1)]) ⟨hx, hb, hml, hown, hts⟩ (x_lineForE l dC dI H.size ob ad cA hd fv_15 wd_16 ar_17 hF_fv_15 hA_ar_17 la lfr lra lrc lln lcn llr hlq a hgd (by rw [sf_21]; exact cd_fc01)) (cwV 2 hts (gV kw_5_30 kw_5_31 kw_5_32 kw_1_10 kw_5_33) rfl rfl rfl (by decide +kernel) ⟨Nat.le_of_ble_eq_true rfl, Nat.le_of_ble_eq_true rfl⟩) ⟨fun a U g mk q => ⟨q.1, ⟨q.2.1.1, q.2.1.2.1, va_K.moved (u := U) (U := U.calling g mk a) (Vm.Alike.refl U.vm) q.2.1.2.2⟩, ⟨q.2.2.1, va_K.moved (u := U) (U := U.calling g mk a) (Vm.Alike.refl U.vm) q.2.2.2.1, q.2.2.2.2⟩⟩, va_recv (lw_K hL) (lw_now hL hS) (ci := 1) (q0 := 0) rfl rfl, fun U hU hW => ⟨rfl, ⟨by rw [hU], by rw [hU]; exact hP, va_K.moved hW.alike hK⟩, lw_pass hL hS hU hW.alike⟩⟩ rfl rfl hl.1 rfl (lv_room (Nat.le_of_ble_eq_true rfl)) dX7_ask_69 ⟨Nat.le_of_ble_eq_true rfl, Nat.le_of_ble_eq_true rfl⟩) hS (fun q _ h9 => aX_up hS q h9) (aX_up hS) (fun r_47 u t H1 locs ht _ hw hB _ hk1 hS => ?_)
            obtain ⟨fv_51, wd_52, ar_53⟩ := u
            obtain ⟨hF_fv_51, hA_ar_53, fr_54, fa_55, wf_56, p_48, p_49, p_50, -⟩ := hw
            have wf_56 : wd_52.2 = wd_16.2 := wf_56
            have hP : va_P (dC, dI) vwCl (wsX ob ad cA fv_51 wd_52 ar_53) H1 := by have h9 := hB.1; rw [ht] at h9; exact h9
            have fr_54 : fM [] fv_15 fv_51 := fr_54
            have fa_55 : fA [] ar_17 ar_53 := fa_55
            have p_49 : r_47.toInt < lln := p_49
            have p_50 : r_47.toInt = cd_fi (cd_f (ar_17 4)) a.toInt (cd_Wf (cd_gX llr) lln 0) 0 := p_50
            generalize H1 = H at hP hS ⊢
            have lf_57 : r_47.toInt = cd_fi (cd_fc (ar 20 ((ar 28 (kk.toInt.toNat)).toInt.toNat)).toInt (ar 23 ((ar 28 (kk.toInt.toNat)).toInt.toNat)).toInt (ar 22 ((ar 28 (kk.toInt.toNat)).toInt.toNat)).toInt (wt_rf (fv 7) (fv 5) (ar 3)) (ar 31 (kk.toInt.toNat)).toInt (fv 7).toInt (ar 29 (kk.toInt.toNat)).toInt (ar 30 (kk.toInt.toNat)).toInt (cd_ri a.toInt b.toInt) d.toInt) a.toInt (cd_Wf (cd_gX llr) lln 0) 0 := by have h9 := p_50; rw [sf_21] at h9; exact h9
            refine pX_X7_137 hx hb htg hown hK hP hS hd dX7_ask_72 (fun H locs fv_58 efv_58 hP hS => ?_)
            have hF_fv_58 : rX fv_58 := rX_put hF_fv_51 efv_58 (iv_any _)
            refine lv_aload_n hx hb dX7_ask_75 rfl (lv_at hl 1 rfl) ?_
            refine gX_X7_137 hx hb htg hown hK hP dX7_ask_76 ?_
            refine my_ti (y := r_47) ((congrFun efv_58 6)) ?_
            refine lv_iconst (v := (-1)) hx hb dX7_ask_79 (by decide) ?_
            refine lv_icmp_ne (tgt := 92) hx hb dX7_ask_80 (by decide) (fun c_59 => ?_) (fun c_59 => ?_)
            · skip
              have i_60 : 0 ≤ r_47.toInt ∧ r_47.toInt ≤ 15 := iv_nel p_48 (by decide) c_59
              have k_61 : ¬ r_47.toInt = (-1) := fun q => c_59 (Int32.toInt_inj.mp q)
              refine lv_aload_n hx hb dX7_ask_92 rfl (lv_at hl 2 rfl) ?_
              refine gL_X7_144 hx hb htg hown (lw_K hL) (lw_now hL hS) dX7_ask_93 ?_
              refine lv_aload_n hx hb dX7_ask_96 rfl (lv_at hl 1 rfl) ?_
              refine gX_X7_137 hx hb htg hown hK hP dX7_ask_97 ?_
              refine my_ti (y := r_47) ((congrFun efv_58 6)) ?_
              refine lL_2 hx hb (lw_K hL) (lw_now hL hS) (vp_in_iff.mpr (by omega)) dX7_ask_100 (fun v_62 ev_62 => ?_)
              exact W.iret (v := v_62) hx hb hr (fun t ht hW => ⟨⟨v_62, (fv_58, wd_52, ar_53), rfl, ⟨hF_fv_58, hA_ar_53, (fM_put (fM_call (fM_call (fM_rf [6] _) fr_18 (by decide)) fr_54 (by decide)) efv_58 (by decide)), (fA_call (fA_call (fA_rf [4] _) fa_19 (by decide)) fa_55 (by decide)), (wf_56.trans wf_20), (show (fv_58 6).toInt = cd_al (cd_fc (ar 20 ((ar 28 (kk.toInt.toNat)).toInt.toNat)).toInt (ar 23 ((ar 28 (kk.toInt.toNat)).toInt.toNat)).toInt (ar 22 ((ar 28 (kk.toInt.toNat)).toInt.toNat)).toInt (wt_rf (fv 7) (fv 5) (ar 3)) (ar 31 (kk.toInt.toNat)).toInt (fv 7).toInt (ar 29 (kk.toInt.toNat)).toInt (ar 30 (kk.toInt.toNat)).toInt (cd_ri a.toInt b.toInt) d.toInt) a.toInt (decide ((ar 20 ((ar 28 (kk.toInt.toNat)).toInt.toNat)).toInt = 2)) (cd_Wf (cd_gX llr) lln 0) from by have hal : cd_al (cd_fc (ar 20 ((ar 28 (kk.toInt.toNat)).toInt.toNat)).toInt (ar 23 ((ar 28 (kk.toInt.toNat)).toInt.toNat)).toInt (ar 22 ((ar 28 (kk.toInt.toNat)).toInt.toNat)).toInt (wt_rf (fv 7) (fv 5) (ar 3)) (ar 31 (kk.toInt.toNat)).toInt (fv 7).toInt (ar 29 (kk.toInt.toNat)).toInt (ar 30 (kk.toInt.toNat)).toInt (cd_ri a.toInt b.toInt) d.toInt) a.toInt (decide ((ar 20 ((ar 28 (kk.toInt.toNat)).toInt.toNat)).toInt = 2)) (cd_Wf (cd_gX llr) lln 0) = r_47.toInt := (by unfold cd_al; rw [if_neg (fun w => by rw [htx] at w; exact absurd w.2 (by decide))]; exact (lf_57).symm); rw [hal, show fv_58 6 = r_47 from (congrFun efv_58 6)]), (show v_62.toInt = cd_av (cd_fc (ar 20 ((ar 28 (kk.toInt.toNat)).toInt.toNat)).toInt (ar 23 ((ar 28 (kk.toInt.toNat)).toInt.toNat)).toInt (ar 22 ((ar 28 (kk.toInt.toNat)).toInt.toNat)).toInt (wt_rf (fv 7) (fv 5) (ar 3)) (ar 31 (kk.toInt.toNat)).toInt (fv 7).toInt (ar 29 (kk.toInt.toNat)).toInt (ar 30 (kk.toInt.toNat)).toInt (cd_ri a.toInt b.toInt) d.toInt) a.toInt (decide ((ar 20 ((ar 28 (kk.toInt.toNat)).toInt.toNat)).toInt = 2)) (cd_Wf (cd_gX llr) lln 0) from by have hal : cd_al (cd_fc (ar 20 ((ar 28 (kk.toInt.toNat)).toInt.toNat)).toInt (ar 23 ((ar 28 (kk.toInt.toNat)).toInt.toNat)).toInt (ar 22 ((ar 28 (kk.toInt.toNat)).toInt.toNat)).toInt (wt_rf (fv 7) (fv 5) (ar 3)) (ar 31 (kk.toInt.toNat)).toInt (fv 7).toInt (ar 29 (kk.toInt.toNat)).toInt (ar 30 (kk.toInt.toNat)).toInt (cd_ri a.toInt b.toInt) d.toInt) a.toInt (decide ((ar 20 ((ar 28 (kk.toInt.toNat)).toInt.toNat)).toInt = 2)) (cd_Wf (cd_gX llr) lln 0) = r_47.toInt := (by unfold cd_al; rw [if_neg (fun w => by rw [htx] at w; exact absurd w.2 (by decide))]; exact (lf_57).symm); have hv9 : llr 2 (r_47.toInt.toNat) = v_62 := ev_62.symm; unfold cd_av; rw [if_neg (by rw [hal]; omega)]; rcases cd_fi_val (f := (cd_fc (ar 20 ((ar 28 (kk.toInt.toNat)).toInt.toNat)).toInt (ar 23 ((ar 28 (kk.toInt.toNat)).toInt.toNat)).toInt (ar 22 ((ar 28 (kk.toInt.toNat)).toInt.toNat)).toInt (wt_rf (fv 7) (fv 5) (ar 3)) (ar 31 (kk.toInt.toNat)).toInt (fv 7).toInt (ar 29 (kk.toInt.toNat)).toInt (ar 30 (kk.toInt.toNat)).toInt (cd_ri a.toInt b.toInt) d.toInt)) (k := a.toInt) (g := cd_gX llr) lln 0 with h9 | ⟨j9, h1, h2, h3, h4⟩; exfalso; omega; rw [← h4, show j9 = r_47.toInt.toNat from by omega]; show _ = (llr 2 (r_47.toInt.toNat)).toInt; rw [hv9]), trivial⟩, ⟨by rw [ht]; exact hP, va_K.moved hW.alike hK⟩⟩, hS.F ht⟩) hS.2.2 dX7_ask_101
            · skip
              have i_63 : (-1) ≤ r_47.toInt ∧ r_47.toInt ≤ (-1) := iv_eq1 (⟨by decide, by decide⟩ : (-1 : Int) ≤ ((-1) : Int32).toInt ∧ ((-1) : Int32).toInt ≤ -1) c_59
              refine lv_iload hx hb dX7_ask_83 (lv_at hl 0 rfl) ?_
              refine lv_iload_n hx hb dX7_ask_85 rfl (lv_at hl 4 rfl) ?_
              refine va_calli (va_runS (As := [.int 0, .int a]) (rest := []) ⟨hx, hb, hml, hown, hts⟩ (x_plainValueE l H.size 0 a (iv_w (⟨by decide, by decide⟩ : (0 : Int) ≤ (0 : Int32).toInt ∧ (0 : Int32).toInt ≤ 0) (by decide) (by decide))) (va_cwS 2 hts (gS kw_5_38 kw_5_39 kw_1_2 kw_5_40) rfl rfl rfl (by decide +kernel) ⟨Nat.le_of_ble_eq_true rfl, Nat.le_of_ble_eq_true rfl⟩) ⟨fun a U g mk q => ⟨q.1, q.2⟩, fun U hU hW => ⟨rfl, congrArg Array.size hU⟩⟩ rfl rfl hl.1 rfl (lv_room (Nat.le_of_ble_eq_true rfl)) dX7_ask_86 ⟨Nat.le_of_ble_eq_true rfl, Nat.le_of_ble_eq_true rfl⟩) hS (fun q _ h9 => nX_up hS q h9) (nX_up hS) (fun r_65 u t H1 locs ht _ hw hB _ hk1 hS => ?_)
              obtain ⟨p_66, -⟩ := hw
              have hP := my_keepM hP hk1
              generalize H1 = H at hP hS ⊢
              refine lv_goto (tgt := 101) hx hb dX7_ask_89 (by decide) ?_
              exact W.iret (v := r_65) hx hb hr (fun t ht hW => ⟨⟨r_65, (fv_58, wd_52, ar_53), rfl, ⟨hF_fv_58, hA_ar_53, (fM_put (fM_call (fM_call (fM_rf [6] _) fr_18 (by decide)) fr_54 (by decide)) efv_58 (by decide)), (fA_call (fA_call (fA_rf [4] _) fa_19 (by decide)) fa_55 (by decide)), (wf_56.trans wf_20), (show (fv_58 6).toInt = cd_al (cd_fc (ar 20 ((ar 28 (kk.toInt.toNat)).toInt.toNat)).toInt (ar 23 ((ar 28 (kk.toInt.toNat)).toInt.toNat)).toInt (ar 22 ((ar 28 (kk.toInt.toNat)).toInt.toNat)).toInt (wt_rf (fv 7) (fv 5) (ar 3)) (ar 31 (kk.toInt.toNat)).toInt (fv 7).toInt (ar 29 (kk.toInt.toNat)).toInt (ar 30 (kk.toInt.toNat)).toInt (cd_ri a.toInt b.toInt) d.toInt) a.toInt (decide ((ar 20 ((ar 28 (kk.toInt.toNat)).toInt.toNat)).toInt = 2)) (cd_Wf (cd_gX llr) lln 0) from by have hal : cd_al (cd_fc (ar 20 ((ar 28 (kk.toInt.toNat)).toInt.toNat)).toInt (ar 23 ((ar 28 (kk.toInt.toNat)).toInt.toNat)).toInt (ar 22 ((ar 28 (kk.toInt.toNat)).toInt.toNat)).toInt (wt_rf (fv 7) (fv 5) (ar 3)) (ar 31 (kk.toInt.toNat)).toInt (fv 7).toInt (ar 29 (kk.toInt.toNat)).toInt (ar 30 (kk.toInt.toNat)).toInt (cd_ri a.toInt b.toInt) d.toInt) a.toInt (decide ((ar 20 ((ar 28 (kk.toInt.toNat)).toInt.toNat)).toInt = 2)) (cd_Wf (cd_gX llr) lln 0) = r_47.toInt := (by unfold cd_al; rw [if_neg (fun w => by rw [htx] at w; exact absurd w.2 (by decide))]; exact (lf_57).symm); rw [hal, show fv_58 6 = r_47 from (congrFun efv_58 6)]), (show r_65.toInt = cd_av (cd_fc (ar 20 ((ar 28 (kk.toInt.toNat)).toInt.toNat)).toInt (ar 23 ((ar 28 (kk.toInt.toNat)).toInt.toNat)).toInt (ar 22 ((ar 28 (kk.toInt.toNat)).toInt.toNat)).toInt (wt_rf (fv 7) (fv 5) (ar 3)) (ar 31 (kk.toInt.toNat)).toInt (fv 7).toInt (ar 29 (kk.toInt.toNat)).toInt (ar 30 (kk.toInt.toNat)).toInt (cd_ri a.toInt b.toInt) d.toInt) a.toInt (decide ((ar 20 ((ar 28 (kk.toInt.toNat)).toInt.toNat)).toInt = 2)) (cd_Wf (cd_gX llr) lln 0) from by have hal : cd_al (cd_fc (ar 20 ((ar 28 (kk.toInt.toNat)).toInt.toNat)).toInt (ar 23 ((ar 28 (kk.toInt.toNat)).toInt.toNat)).toInt (ar 22 ((ar 28 (kk.toInt.toNat)).toInt.toNat)).toInt (wt_rf (fv 7) (fv 5) (ar 3)) (ar 31 (kk.toInt.toNat)).toInt (fv 7).toInt (ar 29 (kk.toInt.toNat)).toInt (ar 30 (kk.toInt.toNat)).toInt (cd_ri a.toInt b.toInt) d.toInt) a.toInt (decide ((ar 20 ((ar 28 (kk.toInt.toNat)).toInt.toNat)).toInt = 2)) (cd_Wf (cd_gX llr) lln 0) = r_47.toInt := (by unfold cd_al; rw [if_neg (fun w => by rw [htx] at w; exact absurd w.2 (by decide))]; exact (lf_57).symm); have hm1 : ((-1) : Int32).toInt = -1 := (by decide); unfold cd_av; rw [if_pos (by rw [hal]; omega), p_66, htx]; rfl), trivial⟩, ⟨by rw [ht]; exact hP, va_K.moved hW.alike hK⟩⟩, hS.F ht⟩) hS.2.2 dX7_ask_101
          · skip
            exact absurd c_46 (by decide)
      · skip
        exact absurd c_10 (by decide)
    · skip
      have q_67 : a.toInt = 0 ∨ a.toInt = 2 ∨ a.toInt = 5 := p_8
      refine lv_if_eq (tgt := 41) hx hb dX7_ask_34 (by decide) (fun c_68 => ?_) (fun c_68 => ?_)
      · skip
        exact absurd c_68 (by decide)
      · skip
        refine lv_iconst (v := 0) hx hb dX7_ask_37 (by decide) ?_
        refine lv_goto (tgt := 43) hx hb dX7_ask_38 (by decide) ?_
        refine lv_iload hx hb dX7_ask_43 (lv_at hl 6 rfl) ?_
        have z_69 : 0 ≤ (fv 5).toInt ∧ (fv 5).toInt ≤ 200 := hF_fv 5
        have z_70 : 0 ≤ (fv 7).toInt ∧ (fv 7).toInt ≤ 199 := hF_fv 7
        refine va_callv (va_runV (As := [.int kk, .int 0, .int d]) (rest := []) ⟨hx, hb, hml, hown, hts⟩ (x_setFactsE l dC dI H.size ob ad cA hd fv wd ar hF_fv hA_ar kk 0 d h_kk) (cwV 3 hts (gV kw_5_25 kw_5_27 kw_p_19 kw_1_2 kw_5_28) rfl rfl rfl (by decide +kernel) ⟨Nat.le_of_ble_eq_true rfl, Nat.le_of_ble_eq_true rfl⟩) ⟨fun a U g mk q => ⟨q.1, q.2.1, q.2.2.1, va_K.moved (u := U) (U := U.calling g mk a) (Vm.Alike.refl U.vm) q.2.2.2⟩, va_recv hK hP (ci := 7) (q0 := 1) rfl rfl, fun U hU hW => ⟨rfl, by rw [hU], by rw [hU]; exact hP, va_K.moved hW.alike hK⟩⟩ rfl rfl hl.1 rfl (lv_room (Nat.le_of_ble_eq_true rfl)) dX7_ask_45 ⟨Nat.le_of_ble_eq_true rfl, Nat.le_of_ble_eq_true rfl⟩) hS (fun q _ h9 => aX_up hS q h9) (aX_up hS) (fun u t H1 locs ht _ hw hB _ hk1 hS => ?_)
        obtain ⟨fv_73, wd_74, ar_75⟩ := u
        obtain ⟨hF_fv_73, hA_ar_75, fr_76, fa_77, wf_78, p_72, -⟩ := hw
        have wf_78 : wd_74.2 = wd.2 := wf_78
        have hP : va_P (dC, dI) vwCl (wsX ob ad cA fv_73 wd_74 ar_75) H1 := by have h9 := hB.1; rw [ht] at h9; exact h9
        have fr_76 : fM [] fv fv_73 := fr_76
        have fa_77 : fA [4] ar ar_75 := fa_77
        have p_72 : cd_f (ar_75 4) = (cd_fc (ar 20 ((ar 28 (kk.toInt.toNat)).toInt.toNat)).toInt (ar 23 ((ar 28 (kk.toInt.toNat)).toInt.toNat)).toInt (ar 22 ((ar 28 (kk.toInt.toNat)).toInt.toNat)).toInt (wt_rf (fv 7) (fv 5) (ar 3)) (ar 31 (kk.toInt.toNat)).toInt (fv 7).toInt (ar 29 (kk.toInt.toNat)).toInt (ar 30 (kk.toInt.toNat)).toInt (0 : Int32).toInt d.toInt) := p_72
        generalize H1 = H at hP hS ⊢
        have sf_79 : cd_f (ar_75 4) = (cd_fc (ar 20 ((ar 28 (kk.toInt.toNat)).toInt.toNat)).toInt (ar 23 ((ar 28 (kk.toInt.toNat)).toInt.toNat)).toInt (ar 22 ((ar 28 (kk.toInt.toNat)).toInt.toNat)).toInt (wt_rf (fv 7) (fv 5) (ar 3)) (ar 31 (kk.toInt.toNat)).toInt (fv 7).toInt (ar 29 (kk.toInt.toNat)).toInt (ar 30 (kk.toInt.toNat)).toInt (cd_ri a.toInt b.toInt) d.toInt) := by have hri : ((0 : Int32)).toInt = cd_ri a.toInt b.toInt := (by unfold cd_ri; rw [if_pos q_67]; decide); have h9 := p_72; rw [hri] at h9; exact h9
        refine lv_aload_n hx hb dX7_ask_48 rfl (lv_at hl 1 rfl) ?_
        refine lv_iload_n hx hb dX7_ask_49 rfl (lv_at hl 4 rfl) ?_
        refine lv_iconst (v := 5) hx hb dX7_ask_50 (by decide) ?_
        refine lv_icmp_ne (tgt := 63) hx hb dX7_ask_51 (by decide) (fun c_80 => ?_) (fun c_80 => ?_)
        · skip
          have k_81 : ¬ a.toInt = 5 := fun q => c_80 (Int32.toInt_inj.mp q)
          refine lv_aload_n hx hb dX7_ask_63 rfl (lv_at hl 2 rfl) ?_
          refine lv_iload_n hx hb dX7_ask_64 rfl (lv_at hl 4 rfl) ?_
          refine lv_aload_n hx hb dX7_ask_65 rfl (lv_at hl 1 rfl) ?_
          refine gX_X7_62 hx hb htg hown hK hP dX7_ask_66 ?_
          refine va_calli (va_runV (As := [.int a, .ref (ad 4)]) (rest := [.ref (ob 1)]) ⟨hx, hb, hml, hown, hts⟩ (x_lineForE l dC dI H.size ob ad cA hd fv_73 wd_74 ar_75 hF_fv_73 hA_ar_75 la lfr lra lrc lln lcn llr hlq a hgd (by rw [sf_79]; exact cd_fc01)) (cwV 2 hts (gV kw_5_30 kw_5_31 kw_5_32 kw_1_10 kw_5_33) rfl rfl rfl (by decide +kernel) ⟨Nat.le_of_ble_eq_true rfl, Nat.le_of_ble_eq_true rfl⟩) ⟨fun a U g mk q => ⟨q.1, ⟨q.2.1.1, q.2.1.2.1, va_K.moved (u := U) (U := U.calling g mk a) (Vm.Alike.refl U.vm) q.2.1.2.2⟩, ⟨q.2.2.1, va_K.moved (u := U) (U := U.calling g mk a) (Vm.Alike.refl U.vm) q.2.2.2.1, q.2.2.2.2⟩⟩, va_recv (lw_K hL) (lw_now hL hS) (ci := 1) (q0 := 0) rfl rfl, fun U hU hW => ⟨rfl, ⟨by rw [hU], by rw [hU]; exact hP, va_K.moved hW.alike hK⟩, lw_pass hL hS hU hW.alike⟩⟩ rfl rfl hl.1 rfl (lv_room (Nat.le_of_ble_eq_true rfl)) dX7_ask_69 ⟨Nat.le_of_ble_eq_true rfl, Nat.le_of_ble_eq_true rfl⟩) hS (fun q _ h9 => aX_up hS q h9) (aX_up hS) (fun r_82 u t H1 locs ht _ hw hB _ hk1 hS => ?_)
          obtain ⟨fv_86, wd_87, ar_88⟩ := u
          obtain ⟨hF_fv_86, hA_ar_88, fr_89, fa_90, wf_91, p_83, p_84, p_85, -⟩ := hw
          have wf_91 : wd_87.2 = wd_74.2 := wf_91
          have hP : va_P (dC, dI) vwCl (wsX ob ad cA fv_86 wd_87 ar_88) H1 := by have h9 := hB.1; rw [ht] at h9; exact h9
          have fr_89 : fM [] fv_73 fv_86 := fr_89
          have fa_90 : fA [] ar_75 ar_88 := fa_90
          have p_84 : r_82.toInt < lln := p_84
          have p_85 : r_82.toInt = cd_fi (cd_f (ar_75 4)) a.toInt (cd_Wf (cd_gX llr) lln 0) 0 := p_85
          generalize H1 = H at hP hS ⊢
          have lf_92 : r_82.toInt = cd_fi (cd_fc (ar 20 ((ar 28 (kk.toInt.toNat)).toInt.toNat)).toInt (ar 23 ((ar 28 (kk.toInt.toNat)).toInt.toNat)).toInt (ar 22 ((ar 28 (kk.toInt.toNat)).toInt.toNat)).toInt (wt_rf (fv 7) (fv 5) (ar 3)) (ar 31 (kk.toInt.toNat)).toInt (fv 7).toInt (ar 29 (kk.toInt.toNat)).toInt (ar 30 (kk.toInt.toNat)).toInt (cd_ri a.toInt b.toInt) d.toInt) a.toInt (cd_Wf (cd_gX llr) lln 0) 0 := by have h9 := p_85; rw [sf_79] at h9; exact h9
          refine pX_X7_137 hx hb htg hown hK hP hS hd dX7_ask_72 (fun H locs fv_93 efv_93 hP hS => ?_)
          have hF_fv_93 : rX fv_93 := rX_put hF_fv_86 efv_93 (iv_any _)
          refine lv_aload_n hx hb dX7_ask_75 rfl (lv_at hl 1 rfl) ?_
          refine gX_X7_137 hx hb htg hown hK hP dX7_ask_76 ?_
          refine my_ti (y := r_82) ((congrFun efv_93 6)) ?_
          refine lv_iconst (v := (-1)) hx hb dX7_ask_79 (by decide) ?_
          refine lv_icmp_ne (tgt := 92) hx hb dX7_ask_80 (by decide) (fun c_94 => ?_) (fun c_94 => ?_)
          · skip
            have i_95 : 0 ≤ r_82.toInt ∧ r_82.toInt ≤ 15 := iv_nel p_83 (by decide) c_94
            have k_96 : ¬ r_82.toInt = (-1) := fun q => c_94 (Int32.toInt_inj.mp q)
            refine lv_aload_n hx hb dX7_ask_92 rfl (lv_at hl 2 rfl) ?_
            refine gL_X7_144 hx hb htg hown (lw_K hL) (lw_now hL hS) dX7_ask_93 ?_
            refine lv_aload_n hx hb dX7_ask_96 rfl (lv_at hl 1 rfl) ?_
            refine gX_X7_137 hx hb htg hown hK hP dX7_ask_97 ?_
            refine my_ti (y := r_82) ((congrFun efv_93 6)) ?_
            refine lL_2 hx hb (lw_K hL) (lw_now hL hS) (vp_in_iff.mpr (by omega)) dX7_ask_100 (fun v_97 ev_97 => ?_)
            exact W.iret (v := v_97) hx hb hr (fun t ht hW => ⟨⟨v_97, (fv_93, wd_87, ar_88), rfl, ⟨hF_fv_93, hA_ar_88, (fM_put (fM_call (fM_call (fM_rf [6] _) fr_76 (by decide)) fr_89 (by decide)) efv_93 (by decide)), (fA_call (fA_call (fA_rf [4] _) fa_77 (by decide)) fa_90 (by decide)), (wf_91.trans wf_78), (show (fv_93 6).toInt = cd_al (cd_fc (ar 20 ((ar 28 (kk.toInt.toNat)).toInt.toNat)).toInt (ar 23 ((ar 28 (kk.toInt.toNat)).toInt.toNat)).toInt (ar 22 ((ar 28 (kk.toInt.toNat)).toInt.toNat)).toInt (wt_rf (fv 7) (fv 5) (ar 3)) (ar 31 (kk.toInt.toNat)).toInt (fv 7).toInt (ar 29 (kk.toInt.toNat)).toInt (ar 30 (kk.toInt.toNat)).toInt (cd_ri a.toInt b.toInt) d.toInt) a.toInt (decide ((ar 20 ((ar 28 (kk.toInt.toNat)).toInt.toNat)).toInt = 2)) (cd_Wf (cd_gX llr) lln 0) from by have hal : cd_al (cd_fc (ar 20 ((ar 28 (kk.toInt.toNat)).toInt.toNat)).toInt (ar 23 ((ar 28 (kk.toInt.toNat)).toInt.toNat)).toInt (ar 22 ((ar 28 (kk.toInt.toNat)).toInt.toNat)).toInt (wt_rf (fv 7) (fv 5) (ar 3)) (ar 31 (kk.toInt.toNat)).toInt (fv 7).toInt (ar 29 (kk.toInt.toNat)).toInt (ar 30 (kk.toInt.toNat)).toInt (cd_ri a.toInt b.toInt) d.toInt) a.toInt (decide ((ar 20 ((ar 28 (kk.toInt.toNat)).toInt.toNat)).toInt = 2)) (cd_Wf (cd_gX llr) lln 0) = r_82.toInt := (by unfold cd_al; rw [if_neg (fun w => by rw [htx] at w; exact absurd w.2 (by decide))]; exact (lf_92).symm); rw [hal, show fv_93 6 = r_82 from (congrFun efv_93 6)]), (show v_97.toInt = cd_av (cd_fc (ar 20 ((ar 28 (kk.toInt.toNat)).toInt.toNat)).toInt (ar 23 ((ar 28 (kk.toInt.toNat)).toInt.toNat)).toInt (ar 22 ((ar 28 (kk.toInt.toNat)).toInt.toNat)).toInt (wt_rf (fv 7) (fv 5) (ar 3)) (ar 31 (kk.toInt.toNat)).toInt (fv 7).toInt (ar 29 (kk.toInt.toNat)).toInt (ar 30 (kk.toInt.toNat)).toInt (cd_ri a.toInt b.toInt) d.toInt) a.toInt (decide ((ar 20 ((ar 28 (kk.toInt.toNat)).toInt.toNat)).toInt = 2)) (cd_Wf (cd_gX llr) lln 0) from by have hal : cd_al (cd_fc (ar 20 ((ar 28 (kk.toInt.toNat)).toInt.toNat)).toInt (ar 23 ((ar 28 (kk.toInt.toNat)).toInt.toNat)).toInt (ar 22 ((ar 28 (kk.toInt.toNat)).toInt.toNat)).toInt (wt_rf (fv 7) (fv 5) (ar 3)) (ar 31 (kk.toInt.toNat)).toInt (fv 7).toInt (ar 29 (kk.toInt.toNat)).toInt (ar 30 (kk.toInt.toNat)).toInt (cd_ri a.toInt b.toInt) d.toInt) a.toInt (decide ((ar 20 ((ar 28 (kk.toInt.toNat)).toInt.toNat)).toInt = 2)) (cd_Wf (cd_gX llr) lln 0) = r_82.toInt := (by unfold cd_al; rw [if_neg (fun w => by rw [htx] at w; exact absurd w.2 (by decide))]; exact (lf_92).symm); have hv9 : llr 2 (r_82.toInt.toNat) = v_97 := ev_97.symm; unfold cd_av; rw [if_neg (by rw [hal]; omega)]; rcases cd_fi_val (f := (cd_fc (ar 20 ((ar 28 (kk.toInt.toNat)).toInt.toNat)).toInt (ar 23 ((ar 28 (kk.toInt.toNat)).toInt.toNat)).toInt (ar 22 ((ar 28 (kk.toInt.toNat)).toInt.toNat)).toInt (wt_rf (fv 7) (fv 5) (ar 3)) (ar 31 (kk.toInt.toNat)).toInt (fv 7).toInt (ar 29 (kk.toInt.toNat)).toInt (ar 30 (kk.toInt.toNat)).toInt (cd_ri a.toInt b.toInt) d.toInt)) (k := a.toInt) (g := cd_gX llr) lln 0 with h9 | ⟨j9, h1, h2, h3, h4⟩; exfalso; omega; rw [← h4, show j9 = r_82.toInt.toNat from by omega]; show _ = (llr 2 (r_82.toInt.toNat)).toInt; rw [hv9]), trivial⟩, ⟨by rw [ht]; exact hP, va_K.moved hW.alike hK⟩⟩, hS.F ht⟩) hS.2.2 dX7_ask_101
          · skip
            have i_98 : (-1) ≤ r_82.toInt ∧ r_82.toInt ≤ (-1) := iv_eq1 (⟨by decide, by decide⟩ : (-1 : Int) ≤ ((-1) : Int32).toInt ∧ ((-1) : Int32).toInt ≤ -1) c_94
            refine lv_iload hx hb dX7_ask_83 (lv_at hl 0 rfl) ?_
            refine lv_iload_n hx hb dX7_ask_85 rfl (lv_at hl 4 rfl) ?_
            refine va_calli (va_runS (As := [.int 0, .int a]) (rest := []) ⟨hx, hb, hml, hown, hts⟩ (x_plainValueE l H.size 0 a (iv_w (⟨by decide, by decide⟩ : (0 : Int) ≤ (0 : Int32).toInt ∧ (0 : Int32).toInt ≤ 0) (by decide) (by decide))) (va_cwS 2 hts (gS kw_5_38 kw_5_39 kw_1_2 kw_5_40) rfl rfl rfl (by decide +kernel) ⟨Nat.le_of_ble_eq_true rfl, Nat.le_of_ble_eq_true rfl⟩) ⟨fun a U g mk q => ⟨q.1, q.2⟩, fun U hU hW => ⟨rfl, congrArg Array.size hU⟩⟩ rfl rfl hl.1 rfl (lv_room (Nat.le_of_ble_eq_true rfl)) dX7_ask_86 ⟨Nat.le_of_ble_eq_true rfl, Nat.le_of_ble_eq_true rfl⟩) hS (fun q _ h9 => nX_up hS q h9) (nX_up hS) (fun r_100 u t H1 locs ht _ hw hB _ hk1 hS => ?_)
            obtain ⟨p_101, -⟩ := hw
            have hP := my_keepM hP hk1
            generalize H1 = H at hP hS ⊢
            refine lv_goto (tgt := 101) hx hb dX7_ask_89 (by decide) ?_
            exact W.iret (v := r_100) hx hb hr (fun t ht hW => ⟨⟨r_100, (fv_93, wd_87, ar_88), rfl, ⟨hF_fv_93, hA_ar_88, (fM_put (fM_call (fM_call (fM_rf [6] _) fr_76 (by decide)) fr_89 (by decide)) efv_93 (by decide)), (fA_call (fA_call (fA_rf [4] _) fa_77 (by decide)) fa_90 (by decide)), (wf_91.trans wf_78), (show (fv_93 6).toInt = cd_al (cd_fc (ar 20 ((ar 28 (kk.toInt.toNat)).toInt.toNat)).toInt (ar 23 ((ar 28 (kk.toInt.toNat)).toInt.toNat)).toInt (ar 22 ((ar 28 (kk.toInt.toNat)).toInt.toNat)).toInt (wt_rf (fv 7) (fv 5) (ar 3)) (ar 31 (kk.toInt.toNat)).toInt (fv 7).toInt (ar 29 (kk.toInt.toNat)).toInt (ar 30 (kk.toInt.toNat)).toInt (cd_ri a.toInt b.toInt) d.toInt) a.toInt (decide ((ar 20 ((ar 28 (kk.toInt.toNat)).toInt.toNat)).toInt = 2)) (cd_Wf (cd_gX llr) lln 0) from by have hal : cd_al (cd_fc (ar 20 ((ar 28 (kk.toInt.toNat)).toInt.toNat)).toInt (ar 23 ((ar 28 (kk.toInt.toNat)).toInt.toNat)).toInt (ar 22 ((ar 28 (kk.toInt.toNat)).toInt.toNat)).toInt (wt_rf (fv 7) (fv 5) (ar 3)) (ar 31 (kk.toInt.toNat)).toInt (fv 7).toInt (ar 29 (kk.toInt.toNat)).toInt (ar 30 (kk.toInt.toNat)).toInt (cd_ri a.toInt b.toInt) d.toInt) a.toInt (decide ((ar 20 ((ar 28 (kk.toInt.toNat)).toInt.toNat)).toInt = 2)) (cd_Wf (cd_gX llr) lln 0) = r_82.toInt := (by unfold cd_al; rw [if_neg (fun w => by rw [htx] at w; exact absurd w.2 (by decide))]; exact (lf_92).symm); rw [hal, show fv_93 6 = r_82 from (congrFun efv_93 6)]), (show r_100.toInt = cd_av (cd_fc (ar 20 ((ar 28 (kk.toInt.toNat)).toInt.toNat)).toInt (ar 23 ((ar 28 (kk.toInt.toNat)).toInt.toNat)).toInt (ar 22 ((ar 28 (kk.toInt.toNat)).toInt.toNat)).toInt (wt_rf (fv 7) (fv 5) (ar 3)) (ar 31 (kk.toInt.toNat)).toInt (fv 7).toInt (ar 29 (kk.toInt.toNat)).toInt (ar 30 (kk.toInt.toNat)).toInt (cd_ri a.toInt b.toInt) d.toInt) a.toInt (decide ((ar 20 ((ar 28 (kk.toInt.toNat)).toInt.toNat)).toInt = 2)) (cd_Wf (cd_gX llr) lln 0) from by have hal : cd_al (cd_fc (ar 20 ((ar 28 (kk.toInt.toNat)).toInt.toNat)).toInt (ar 23 ((ar 28 (kk.toInt.toNat)).toInt.toNat)).toInt (ar 22 ((ar 28 (kk.toInt.toNat)).toInt.toNat)).toInt (wt_rf (fv 7) (fv 5) (ar 3)) (ar 31 (kk.toInt.toNat)).toInt (fv 7).toInt (ar 29 (kk.toInt.toNat)).toInt (ar 30 (kk.toInt.toNat)).toInt (cd_ri a.toInt b.toInt) d.toInt) a.toInt (decide ((ar 20 ((ar 28 (kk.toInt.toNat)).toInt.toNat)).toInt = 2)) (cd_Wf (cd_gX llr) lln 0) = r_82.toInt := (by unfold cd_al; rw [if_neg (fun w => by rw [htx] at w; exact absurd w.2 (by decide))]; exact (lf_92).symm); have hm1 : ((-1) : Int32).toInt = -1 := (by decide); unfold cd_av; rw [if_pos (by rw [hal]; omega), p_101, htx]; rfl), trivial⟩, ⟨by rw [ht]; exact hP, va_K.moved hW.alike hK⟩⟩, hS.F ht⟩) hS.2.2 dX7_ask_101
        · skip
          have i_102 : 5 ≤ a.toInt ∧ a.toInt ≤ 5 := iv_eq1 (⟨by decide, by decide⟩ : (5 : Int) ≤ (5 : Int32).toInt ∧ (5 : Int32).toInt ≤ 5) c_80
          refine lv_iload hx hb dX7_ask_54 (lv_at hl 0 rfl) ?_
          refine lv_if_eq (tgt := 63) hx hb dX7_ask_56 (by decide) (fun c_104 => ?_) (fun c_104 => ?_)
          · skip
            refine lv_aload_n hx hb dX7_ask_63 rfl (lv_at hl 2 rfl) ?_
            refine lv_iload_n hx hb dX7_ask_64 rfl (lv_at hl 4 rfl) ?_
            refine lv_aload_n hx hb dX7_ask_65 rfl (lv_at hl 1 rfl) ?_
            refine gX_X7_62 hx hb htg hown hK hP dX7_ask_66 ?_
            refine va_calli (va_runV (As := [.int a, .ref (ad 4)]) (rest := [.ref (ob 1)]) ⟨hx, hb, hml, hown, hts⟩ (x_lineForE l dC dI H.size ob ad cA hd fv_73 wd_74 ar_75 hF_fv_73 hA_ar_75 la lfr lra lrc lln lcn llr hlq a hgd (by rw [sf_79]; exact cd_fc01)) (cwV 2 hts (gV kw_5_30 kw_5_31 kw_5_32 kw_1_10 kw_5_33) rfl rfl rfl (by decide +kernel) ⟨Nat.le_of_ble_eq_true rfl, Nat.le_of_ble_eq_true rfl⟩) ⟨fun a U g mk q => ⟨q.1, ⟨q.2.1.1, q.2.1.2.1, va_K.moved (u := U) (U := U.calling g mk a) (Vm.Alike.refl U.vm) q.2.1.2.2⟩, ⟨q.2.2.1, va_K.moved (u := U) (U := U.calling g mk a) (Vm.Alike.refl U.vm) q.2.2.2.1, q.2.2.2.2⟩⟩, va_recv (lw_K hL) (lw_now hL hS) (ci := 1) (q0 := 0) rfl rfl, fun U hU hW => ⟨rfl, ⟨by rw [hU], by rw [hU]; exact hP, va_K.moved hW.alike hK⟩, lw_pass hL hS hU hW.alike⟩⟩ rfl rfl hl.1 rfl (lv_room (Nat.le_of_ble_eq_true rfl)) dX7_ask_69 ⟨Nat.le_of_ble_eq_true rfl, Nat.le_of_ble_eq_true rfl⟩) hS (fun q _ h9 => aX_up hS q h9) (aX_up hS) (fun r_105 u t H1 locs ht _ hw hB _ hk1 hS => ?_)
            obtain ⟨fv_109, wd_110, ar_111⟩ := u
            obtain ⟨hF_fv_109, hA_ar_111, fr_112, fa_113, wf_114, p_106, p_107, p_108, -⟩ := hw
            have wf_114 : wd_110.2 = wd_74.2 := wf_114
            have hP : va_P (dC, dI) vwCl (wsX ob ad cA fv_109 wd_110 ar_111) H1 := by have h9 := hB.1; rw [ht] at h9; exact h9
            have fr_112 : fM [] fv_73 fv_109 := fr_112
            have fa_113 : fA [] ar_75 ar_111 := fa_113
            have p_107 : r_105.toInt < lln := p_107
            have p_108 : r_105.toInt = cd_fi (cd_f (ar_75 4)) a.toInt (cd_Wf (cd_gX llr) lln 0) 0 := p_108
            generalize H1 = H at hP hS ⊢
            have lf_115 : r_105.toInt = cd_fi (cd_fc (ar 20 ((ar 28 (kk.toInt.toNat)).toInt.toNat)).toInt (ar 23 ((ar 28 (kk.toInt.toNat)).toInt.toNat)).toInt (ar 22 ((ar 28 (kk.toInt.toNat)).toInt.toNat)).toInt (wt_rf (fv 7) (fv 5) (ar 3)) (ar 31 (kk.toInt.toNat)).toInt (fv 7).toInt (ar 29 (kk.toInt.toNat)).toInt (ar 30 (kk.toInt.toNat)).toInt (cd_ri a.toInt b.toInt) d.toInt) a.toInt (cd_Wf (cd_gX llr) lln 0) 0 := by have h9 := p_108; rw [sf_79] at h9; exact h9
            refine pX_X7_137 hx hb htg hown hK hP hS hd dX7_ask_72 (fun H locs fv_116 efv_116 hP hS => ?_)
            have hF_fv_116 : rX fv_116 := rX_put hF_fv_109 efv_116 (iv_any _)
            refine lv_aload_n hx hb dX7_ask_75 rfl (lv_at hl 1 rfl) ?_
            refine gX_X7_137 hx hb htg hown hK hP dX7_ask_76 ?_
            refine my_ti (y := r_105) ((congrFun efv_116 6)) ?_
            refine lv_iconst (v := (-1)) hx hb dX7_ask_79 (by decide) ?_
            refine lv_icmp_ne (tgt := 92) hx hb dX7_ask_80 (by decide) (fun c_117 => ?_) (fun c_117 => ?_)
            · skip
              have i_118 : 0 ≤ r_105.toInt ∧ r_105.toInt ≤ 15 := iv_nel p_106 (by decide) c_117
              have k_119 : ¬ r_105.toInt = (-1) := fun q => c_117 (Int32.toInt_inj.mp q)
              refine lv_aload_n hx hb dX7_ask_92 rfl (lv_at hl 2 rfl) ?_
              refine gL_X7_144 hx hb htg hown (lw_K hL) (lw_now hL hS) dX7_ask_93 ?_
              refine lv_aload_n hx hb dX7_ask_96 rfl (lv_at hl 1 rfl) ?_
              refine gX_X7_137 hx hb htg hown hK hP dX7_ask_97 ?_
              refine my_ti (y := r_105) ((congrFun efv_116 6)) ?_
              refine lL_2 hx hb (lw_K hL) (lw_now hL hS) (vp_in_iff.mpr (by omega)) dX7_ask_100 (fun v_120 ev_120 => ?_)
              exact W.iret (v := v_120) hx hb hr (fun t ht hW => ⟨⟨v_120, (fv_116, wd_110, ar_111), rfl, ⟨hF_fv_116, hA_ar_111, (fM_put (fM_call (fM_call (fM_rf [6] _) fr_76 (by decide)) fr_112 (by decide)) efv_116 (by decide)), (fA_call (fA_call (fA_rf [4] _) fa_77 (by decide)) fa_113 (by decide)), (wf_114.trans wf_78), (show (fv_116 6).toInt = cd_al (cd_fc (ar 20 ((ar 28 (kk.toInt.toNat)).toInt.toNat)).toInt (ar 23 ((ar 28 (kk.toInt.toNat)).toInt.toNat)).toInt (ar 22 ((ar 28 (kk.toInt.toNat)).toInt.toNat)).toInt (wt_rf (fv 7) (fv 5) (ar 3)) (ar 31 (kk.toInt.toNat)).toInt (fv 7).toInt (ar 29 (kk.toInt.toNat)).toInt (ar 30 (kk.toInt.toNat)).toInt (cd_ri a.toInt b.toInt) d.toInt) a.toInt (decide ((ar 20 ((ar 28 (kk.toInt.toNat)).toInt.toNat)).toInt = 2)) (cd_Wf (cd_gX llr) lln 0) from by have hal : cd_al (cd_fc (ar 20 ((ar 28 (kk.toInt.toNat)).toInt.toNat)).toInt (ar 23 ((ar 28 (kk.toInt.toNat)).toInt.toNat)).toInt (ar 22 ((ar 28 (kk.toInt.toNat)).toInt.toNat)).toInt (wt_rf (fv 7) (fv 5) (ar 3)) (ar 31 (kk.toInt.toNat)).toInt (fv 7).toInt (ar 29 (kk.toInt.toNat)).toInt (ar 30 (kk.toInt.toNat)).toInt (cd_ri a.toInt b.toInt) d.toInt) a.toInt (decide ((ar 20 ((ar 28 (kk.toInt.toNat)).toInt.toNat)).toInt = 2)) (cd_Wf (cd_gX llr) lln 0) = r_105.toInt := (by unfold cd_al; rw [if_neg (fun w => by rw [htx] at w; exact absurd w.2 (by decide))]; exact (lf_115).symm); rw [hal, show fv_116 6 = r_105 from (congrFun efv_116 6)]), (show v_120.toInt = cd_av (cd_fc (ar 20 ((ar 28 (kk.toInt.toNat)).toInt.toNat)).toInt (ar 23 ((ar 28 (kk.toInt.toNat)).toInt.toNat)).toInt (ar 22 ((ar 28 (kk.toInt.toNat)).toInt.toNat)).toInt (wt_rf (fv 7) (fv 5) (ar 3)) (ar 31 (kk.toInt.toNat)).toInt (fv 7).toInt (ar 29 (kk.toInt.toNat)).toInt (ar 30 (kk.toInt.toNat)).toInt (cd_ri a.toInt b.toInt) d.toInt) a.toInt (decide ((ar 20 ((ar 28 (kk.toInt.toNat)).toInt.toNat)).toInt = 2)) (cd_Wf (cd_gX llr) lln 0) from by have hal : cd_al (cd_fc (ar 20 ((ar 28 (kk.toInt.toNat)).toInt.toNat)).toInt (ar 23 ((ar 28 (kk.toInt.toNat)).toInt.toNat)).toInt (ar 22 ((ar 28 (kk.toInt.toNat)).toInt.toNat)).toInt (wt_rf (fv 7) (fv 5) (ar 3)) (ar 31 (kk.toInt.toNat)).toInt (fv 7).toInt (ar 29 (kk.toInt.toNat)).toInt (ar 30 (kk.toInt.toNat)).toInt (cd_ri a.toInt b.toInt) d.toInt) a.toInt (decide ((ar 20 ((ar 28 (kk.toInt.toNat)).toInt.toNat)).toInt = 2)) (cd_Wf (cd_gX llr) lln 0) = r_105.toInt := (by unfold cd_al; rw [if_neg (fun w => by rw [htx] at w; exact absurd w.2 (by decide))]; exact (lf_115).symm); have hv9 : llr 2 (r_105.toInt.toNat) = v_120 := ev_120.symm; unfold cd_av; rw [if_neg (by rw [hal]; omega)]; rcases cd_fi_val (f := (cd_fc (ar 20 ((ar 28 (kk.toInt.toNat)).toInt.toNat)).toInt (ar 23 ((ar 28 (kk.toInt.toNat)).toInt.toNat)).toInt (ar 22 ((ar 28 (kk.toInt.toNat)).toInt.toNat)).toInt (wt_rf (fv 7) (fv 5) (ar 3)) (ar 31 (kk.toInt.toNat)).toInt (fv 7).toInt (ar 29 (kk.toInt.toNat)).toInt (ar 30 (kk.toInt.toNat)).toInt (cd_ri a.toInt b.toInt) d.toInt)) (k := a.toInt) (g := cd_gX llr) lln 0 with h9 | ⟨j9, h1, h2, h3, h4⟩; exfalso; omega; rw [← h4, show j9 = r_105.toInt.toNat from by omega]; show _ = (llr 2 (r_105.toInt.toNat)).toInt; rw [hv9]), trivial⟩, ⟨by rw [ht]; exact hP, va_K.moved hW.alike hK⟩⟩, hS.F ht⟩) hS.2.2 dX7_ask_101
            · skip
              have i_121 : (-1) ≤ r_105.toInt ∧ r_105.toInt ≤ (-1) := iv_eq1 (⟨by decide, by decide⟩ : (-1 : Int) ≤ ((-1) : Int32).toInt ∧ ((-1) : Int32).toInt ≤ -1) c_117
              refine lv_iload hx hb dX7_ask_83 (lv_at hl 0 rfl) ?_
              refine lv_iload_n hx hb dX7_ask_85 rfl (lv_at hl 4 rfl) ?_
              refine va_calli (va_runS (As := [.int 0, .int a]) (rest := []) ⟨hx, hb, hml, hown, hts⟩ (x_plainValueE l H.size 0 a (iv_w (⟨by decide, by decide⟩ : (0 : Int) ≤ (0 : Int32).toInt ∧ (0 : Int32).toInt ≤ 0) (by decide) (by decide))) (va_cwS 2 hts (gS kw_5_38 kw_5_39 kw_1_2 kw_5_40) rfl rfl rfl (by decide +kernel) ⟨Nat.le_of_ble_eq_true rfl, Nat.le_of_ble_eq_true rfl⟩) ⟨fun a U g mk q => ⟨q.1, q.2⟩, fun U hU hW => ⟨rfl, congrArg Array.size hU⟩⟩ rfl rfl hl.1 rfl (lv_room (Nat.le_of_ble_eq_true rfl)) dX7_ask_86 ⟨Nat.le_of_ble_eq_true rfl, Nat.le_of_ble_eq_true rfl⟩) hS (fun q _ h9 => nX_up hS q h9) (nX_up hS) (fun r_123 u t H1 locs ht _ hw hB _ hk1 hS => ?_)
              obtain ⟨p_124, -⟩ := hw
              have hP := my_keepM hP hk1
              generalize H1 = H at hP hS ⊢
              refine lv_goto (tgt := 101) hx hb dX7_ask_89 (by decide) ?_
              exact W.iret (v := r_123) hx hb hr (fun t ht hW => ⟨⟨r_123, (fv_116, wd_110, ar_111), rfl, ⟨hF_fv_116, hA_ar_111, (fM_put (fM_call (fM_call (fM_rf [6] _) fr_76 (by decide)) fr_112 (by decide)) efv_116 (by decide)), (fA_call (fA_call (fA_rf [4] _) fa_77 (by decide)) fa_113 (by decide)), (wf_114.trans wf_78), (show (fv_116 6).toInt = cd_al (cd_fc (ar 20 ((ar 28 (kk.toInt.toNat)).toInt.toNat)).toInt (ar 23 ((ar 28 (kk.toInt.toNat)).toInt.toNat)).toInt (ar 22 ((ar 28 (kk.toInt.toNat)).toInt.toNat)).toInt (wt_rf (fv 7) (fv 5) (ar 3)) (ar 31 (kk.toInt.toNat)).toInt (fv 7).toInt (ar 29 (kk.toInt.toNat)).toInt (ar 30 (kk.toInt.toNat)).toInt (cd_ri a.toInt b.toInt) d.toInt) a.toInt (decide ((ar 20 ((ar 28 (kk.toInt.toNat)).toInt.toNat)).toInt = 2)) (cd_Wf (cd_gX llr) lln 0) from by have hal : cd_al (cd_fc (ar 20 ((ar 28 (kk.toInt.toNat)).toInt.toNat)).toInt (ar 23 ((ar 28 (kk.toInt.toNat)).toInt.toNat)).toInt (ar 22 ((ar 28 (kk.toInt.toNat)).toInt.toNat)).toInt (wt_rf (fv 7) (fv 5) (ar 3)) (ar 31 (kk.toInt.toNat)).toInt (fv 7).toInt (ar 29 (kk.toInt.toNat)).toInt (ar 30 (kk.toInt.toNat)).toInt (cd_ri a.toInt b.toInt) d.toInt) a.toInt (decide ((ar 20 ((ar 28 (kk.toInt.toNat)).toInt.toNat)).toInt = 2)) (cd_Wf (cd_gX llr) lln 0) = r_105.toInt := (by unfold cd_al; rw [if_neg (fun w => by rw [htx] at w; exact absurd w.2 (by decide))]; exact (lf_115).symm); rw [hal, show fv_116 6 = r_105 from (congrFun efv_116 6)]), (show r_123.toInt = cd_av (cd_fc (ar 20 ((ar 28 (kk.toInt.toNat)).toInt.toNat)).toInt (ar 23 ((ar 28 (kk.toInt.toNat)).toInt.toNat)).toInt (ar 22 ((ar 28 (kk.toInt.toNat)).toInt.toNat)).toInt (wt_rf (fv 7) (fv 5) (ar 3)) (ar 31 (kk.toInt.toNat)).toInt (fv 7).toInt (ar 29 (kk.toInt.toNat)).toInt (ar 30 (kk.toInt.toNat)).toInt (cd_ri a.toInt b.toInt) d.toInt) a.toInt (decide ((ar 20 ((ar 28 (kk.toInt.toNat)).toInt.toNat)).toInt = 2)) (cd_Wf (cd_gX llr) lln 0) from by have hal : cd_al (cd_fc (ar 20 ((ar 28 (kk.toInt.toNat)).toInt.toNat)).toInt (ar 23 ((ar 28 (kk.toInt.toNat)).toInt.toNat)).toInt (ar 22 ((ar 28 (kk.toInt.toNat)).toInt.toNat)).toInt (wt_rf (fv 7) (fv 5) (ar 3)) (ar 31 (kk.toInt.toNat)).toInt (fv 7).toInt (ar 29 (kk.toInt.toNat)).toInt (ar 30 (kk.toInt.toNat)).toInt (cd_ri a.toInt b.toInt) d.toInt) a.toInt (decide ((ar 20 ((ar 28 (kk.toInt.toNat)).toInt.toNat)).toInt = 2)) (cd_Wf (cd_gX llr) lln 0) = r_105.toInt := (by unfold cd_al; rw [if_neg (fun w => by rw [htx] at w; exact absurd w.2 (by decide))]; exact (lf_115).symm); have hm1 : ((-1) : Int32).toInt = -1 := (by decide); unfold cd_av; rw [if_pos (by rw [hal]; omega), p_124, htx]; rfl), trivial⟩, ⟨by rw [ht]; exact hP, va_K.moved hW.alike hK⟩⟩, hS.F ht⟩) hS.2.2 dX7_ask_101
          · skip
            exact absurd c_104 (by decide)
  · skip
    have i_125 : 2 ≤ v_3.toInt ∧ v_3.toInt ≤ 2 := iv_eq1 (⟨by decide, by decide⟩ : (2 : Int) ≤ (2 : Int32).toInt ∧ (2 : Int32).toInt ≤ 2) c_4
    have htx : (decide ((ar 20 ((ar 28 (kk.toInt.toNat)).toInt.toNat)).toInt = 2)) = true := by have hw9 : v_1 = ar 28 (kk.toInt.toNat) := (by rw [ev_1]; exact congrArg (ar 28) (show Int32.toNatClampNeg kk = (kk.toInt.toNat) from (show kk.toInt.toNat = (kk.toInt.toNat) from by omega))); have hw8 : v_1.toInt.toNat = ((ar 28 (kk.toInt.toNat)).toInt.toNat) := (by rw [hw9]); have hk9 : v_3 = ar 20 ((ar 28 (kk.toInt.toNat)).toInt.toNat) := (by rw [ev_3]; exact congrArg (ar 20) (show Int32.toNatClampNeg v_1 = ((ar 28 (kk.toInt.toNat)).toInt.toNat) from (show v_1.toInt.toNat = ((ar 28 (kk.toInt.toNat)).toInt.toNat) from by omega))); rw [← hk9]; exact decide_eq_true (by omega)
    refine lv_iconst (v := 1) hx hb dX7_ask_21 (by decide) ?_
    refine lv_goto (tgt := 26) hx hb dX7_ask_22 (by decide) ?_
    refine lv_istore (lv' := [(6, .int 1), (0, .ref (ob 1)), (1, .ref la), (2, .int kk), (3, .int a), (4, .int b), (5, .int d)]) hx hb dX7_ask_26 hl (by decide) rfl (fun ls hl => ?_)
    refine lv_aload_n hx hb dX7_ask_28 rfl (lv_at hl 1 rfl) ?_
    refine lv_iload_n hx hb dX7_ask_29 rfl (lv_at hl 3 rfl) ?_
    refine lv_iload_n hx hb dX7_ask_30 rfl (lv_at hl 4 rfl) ?_
    refine va_calli (va_runS (As := [.int a]) (rest := [.int kk, .ref (ob 1)]) ⟨hx, hb, hml, hown, hts⟩ (x_isAskedEmptyE l s.heap.size a) (va_cwS 1 hts (gS kw_5_22 kw_5_23 kw_1_2 kw_5_24) rfl rfl rfl (by decide +kernel) ⟨Nat.le_of_ble_eq_true rfl, Nat.le_of_ble_eq_true rfl⟩) ⟨fun a U g mk q => ⟨q.1, q.2⟩, fun U hU hW => ⟨rfl, congrArg Array.size hU⟩⟩ rfl rfl hl.1 rfl (lv_room (Nat.le_of_ble_eq_true rfl)) dX7_ask_31 ⟨Nat.le_of_ble_eq_true rfl, Nat.le_of_ble_eq_true rfl⟩) hS (fun q _ h9 => nX_up hS q h9) (nX_up hS) (fun r_127 u t H1 locs ht _ hw hB _ hk1 hS => ?_)
    obtain ⟨p_128, p_129, -⟩ := hw
    have hP := my_keepM hP hk1
    generalize H1 = H at hP hS ⊢
    rcases p_129 with ⟨rfl, p_129⟩ | ⟨rfl, p_129⟩
    · skip
      have q_130 : ¬ (a.toInt = 0 ∨ a.toInt = 2 ∨ a.toInt = 5) := p_129
      refine lv_if_eq (tgt := 41) hx hb dX7_ask_34 (by decide) (fun c_131 => ?_) (fun c_131 => ?_)
      · skip
        refine lv_iload hx hb dX7_ask_41 (lv_at hl 5 rfl) ?_
        refine lv_iload hx hb dX7_ask_43 (lv_at hl 6 rfl) ?_
        have z_132 : 0 ≤ (fv 5).toInt ∧ (fv 5).toInt ≤ 200 := hF_fv 5
        have z_133 : 0 ≤ (fv 7).toInt ∧ (fv 7).toInt ≤ 199 := hF_fv 7
        refine va_callv (va_runV (As := [.int kk, .int b, .int d]) (rest := []) ⟨hx, hb, hml, hown, hts⟩ (x_setFactsE l dC dI H.size ob ad cA hd fv wd ar hF_fv hA_ar kk b d h_kk) (cwV 3 hts (gV kw_5_25 kw_5_27 kw_p_19 kw_1_2 kw_5_28) rfl rfl rfl (by decide +kernel) ⟨Nat.le_of_ble_eq_true rfl, Nat.le_of_ble_eq_true rfl⟩) ⟨fun a U g mk q => ⟨q.1, q.2.1, q.2.2.1, va_K.moved (u := U) (U := U.calling g mk a) (Vm.Alike.refl U.vm) q.2.2.2⟩, va_recv hK hP (ci := 7) (q0 := 1) rfl rfl, fun U hU hW => ⟨rfl, by rw [hU], by rw [hU]; exact hP, va_K.moved hW.alike hK⟩⟩ rfl rfl hl.1 rfl (lv_room (Nat.le_of_ble_eq_true rfl)) dX7_ask_45 ⟨Nat.le_of_ble_eq_true rfl, Nat.le_of_ble_eq_true rfl⟩) hS (fun q _ h9 => aX_up hS q h9) (aX_up hS) (fun u t H1 locs ht _ hw hB _ hk1 hS => ?_)
        obtain ⟨fv_136, wd_137, ar_138⟩ := u
        obtain ⟨hF_fv_136, hA_ar_138, fr_139, fa_140, wf_141, p_135, -⟩ := hw
        have wf_141 : wd_137.2 = wd.2 := wf_141
        have hP : va_P (dC, dI) vwCl (wsX ob ad cA fv_136 wd_137 ar_138) H1 := by have h9 := hB.1; rw [ht] at h9; exact h9
        have fr_139 : fM [] fv fv_136 := fr_139
        have fa_140 : fA [4] ar ar_138 := fa_140
        have p_135 : cd_f (ar_138 4) = (cd_fc (ar 20 ((ar 28 (kk.toInt.toNat)).toInt.toNat)).toInt (ar 23 ((ar 28 (kk.toInt.toNat)).toInt.toNat)).toInt (ar 22 ((ar 28 (kk.toInt.toNat)).toInt.toNat)).toInt (wt_rf (fv 7) (fv 5) (ar 3)) (ar 31 (kk.toInt.toNat)).toInt (fv 7).toInt (ar 29 (kk.toInt.toNat)).toInt (ar 30 (kk.toInt.toNat)).toInt b.toInt d.toInt) := p_135
        generalize H1 = H at hP hS ⊢
        have sf_142 : cd_f (ar_138 4) = (cd_fc (ar 20 ((ar 28 (kk.toInt.toNat)).toInt.toNat)).toInt (ar 23 ((ar 28 (kk.toInt.toNat)).toInt.toNat)).toInt (ar 22 ((ar 28 (kk.toInt.toNat)).toInt.toNat)).toInt (wt_rf (fv 7) (fv 5) (ar 3)) (ar 31 (kk.toInt.toNat)).toInt (fv 7).toInt (ar 29 (kk.toInt.toNat)).toInt (ar 30 (kk.toInt.toNat)).toInt (cd_ri a.toInt b.toInt) d.toInt) := by have hri : (b).toInt = cd_ri a.toInt b.toInt := (by unfold cd_ri; rw [if_neg q_130]); have h9 := p_135; rw [hri] at h9; exact h9
        refine lv_aload_n hx hb dX7_ask_48 rfl (lv_at hl 1 rfl) ?_
        refine lv_iload_n hx hb dX7_ask_49 rfl (lv_at hl 4 rfl) ?_
        refine lv_iconst (v := 5) hx hb dX7_ask_50 (by decide) ?_
        refine lv_icmp_ne (tgt := 63) hx hb dX7_ask_51 (by decide) (fun c_143 => ?_) (fun c_143 => ?_)
        · skip
          have k_144 : ¬ a.toInt = 5 := fun q => c_143 (Int32.toInt_inj.mp q)
          refine lv_aload_n hx hb dX7_ask_63 rfl (lv_at hl 2 rfl) ?_
          refine lv_iload_n hx hb dX7_ask_64 rfl (lv_at hl 4 rfl) ?_
          refine lv_aload_n hx hb dX7_ask_65 rfl (lv_at hl 1 rfl) ?_
          refine gX_X7_62 hx hb htg hown hK hP dX7_ask_66 ?_
          refine va_calli (va_runV (As := [.int a, .ref (ad 4)]) (rest := [.ref (ob 1)]) ⟨hx, hb, hml, hown, hts⟩ (x_lineForE l dC dI H.size ob ad cA hd fv_136 wd_137 ar_138 hF_fv_136 hA_ar_138 la lfr lra lrc lln lcn llr hlq a hgd (by rw [sf_142]; exact cd_fc01)) (cwV 2 hts (gV kw_5_30 kw_5_31 kw_5_32 kw_1_10 kw_5_33) rfl rfl rfl (by decide +kernel) ⟨Nat.le_of_ble_eq_true rfl, Nat.le_of_ble_eq_true rfl⟩) ⟨fun a U g mk q => ⟨q.1, ⟨q.2.1.1, q.2.1.2.1, va_K.moved (u := U) (U := U.calling g mk a) (Vm.Alike.refl U.vm) q.2.1.2.2⟩, ⟨q.2.2.1, va_K.moved (u := U) (U := U.calling g mk a) (Vm.Alike.refl U.vm) q.2.2.2.1, q.2.2.2.2⟩⟩, va_recv (lw_K hL) (lw_now hL hS) (ci := 1) (q0 := 0) rfl rfl, fun U hU hW => ⟨rfl, ⟨by rw [hU], by rw [hU]; exact hP, va_K.moved hW.alike hK⟩, lw_pass hL hS hU hW.alike⟩⟩ rfl rfl hl.1 rfl (lv_room (Nat.le_of_ble_eq_true rfl)) dX7_ask_69 ⟨Nat.le_of_ble_eq_true rfl, Nat.le_of_ble_eq_true rfl⟩) hS (fun q _ h9 => aX_up hS q h9) (aX_up hS) (fun r_145 u t H1 locs ht _ hw hB _ hk1 hS => ?_)
          obtain ⟨fv_149, wd_150, ar_151⟩ := u
          obtain ⟨hF_fv_149, hA_ar_151, fr_152, fa_153, wf_154, p_146, p_147, p_148, -⟩ := hw
          have wf_154 : wd_150.2 = wd_137.2 := wf_154
          have hP : va_P (dC, dI) vwCl (wsX ob ad cA fv_149 wd_150 ar_151) H1 := by have h9 := hB.1; rw [ht] at h9; exact h9
          have fr_152 : fM [] fv_136 fv_149 := fr_152
          have fa_153 : fA [] ar_138 ar_151 := fa_153
          have p_147 : r_145.toInt < lln := p_147
          have p_148 : r_145.toInt = cd_fi (cd_f (ar_138 4)) a.toInt (cd_Wf (cd_gX llr) lln 0) 0 := p_148
          generalize H1 = H at hP hS ⊢
          have lf_155 : r_145.toInt = cd_fi (cd_fc (ar 20 ((ar 28 (kk.toInt.toNat)).toInt.toNat)).toInt (ar 23 ((ar 28 (kk.toInt.toNat)).toInt.toNat)).toInt (ar 22 ((ar 28 (kk.toInt.toNat)).toInt.toNat)).toInt (wt_rf (fv 7) (fv 5) (ar 3)) (ar 31 (kk.toInt.toNat)).toInt (fv 7).toInt (ar 29 (kk.toInt.toNat)).toInt (ar 30 (kk.toInt.toNat)).toInt (cd_ri a.toInt b.toInt) d.toInt) a.toInt (cd_Wf (cd_gX llr) lln 0) 0 := by have h9 := p_148; rw [sf_142] at h9; exact h9
          refine pX_X7_137 hx hb htg hown hK hP hS hd dX7_ask_72 (fun H locs fv_156 efv_156 hP hS => ?_)
          have hF_fv_156 : rX fv_156 := rX_put hF_fv_149 efv_156 (iv_any _)
          refine lv_aload_n hx hb dX7_ask_75 rfl (lv_at hl 1 rfl) ?_
          refine gX_X7_137 hx hb htg hown hK hP dX7_ask_76 ?_
          refine my_ti (y := r_145) ((congrFun efv_156 6)) ?_
          refine lv_iconst (v := (-1)) hx hb dX7_ask_79 (by decide) ?_
          refine lv_icmp_ne (tgt := 92) hx hb dX7_ask_80 (by decide) (fun c_157 => ?_) (fun c_157 => ?_)
          · skip
            have i_158 : 0 ≤ r_145.toInt ∧ r_145.toInt ≤ 15 := iv_nel p_146 (by decide) c_157
            have k_159 : ¬ r_145.toInt = (-1) := fun q => c_157 (Int32.toInt_inj.mp q)
            refine lv_aload_n hx hb dX7_ask_92 rfl (lv_at hl 2 rfl) ?_
            refine gL_X7_144 hx hb htg hown (lw_K hL) (lw_now hL hS) dX7_ask_93 ?_
            refine lv_aload_n hx hb dX7_ask_96 rfl (lv_at hl 1 rfl) ?_
            refine gX_X7_137 hx hb htg hown hK hP dX7_ask_97 ?_
            refine my_ti (y := r_145) ((congrFun efv_156 6)) ?_
            refine lL_2 hx hb (lw_K hL) (lw_now hL hS) (vp_in_iff.mpr (by omega)) dX7_ask_100 (fun v_160 ev_160 => ?_)
            exact W.iret (v := v_160) hx hb hr (fun t ht hW => ⟨⟨v_160, (fv_156, wd_150, ar_151), rfl, ⟨hF_fv_156, hA_ar_151, (fM_put (fM_call (fM_call (fM_rf [6] _) fr_139 (by decide)) fr_152 (by decide)) efv_156 (by decide)), (fA_call (fA_call (fA_rf [4] _) fa_140 (by decide)) fa_153 (by decide)), (wf_154.trans wf_141), (show (fv_156 6).toInt = cd_al (cd_fc (ar 20 ((ar 28 (kk.toInt.toNat)).toInt.toNat)).toInt (ar 23 ((ar 28 (kk.toInt.toNat)).toInt.toNat)).toInt (ar 22 ((ar 28 (kk.toInt.toNat)).toInt.toNat)).toInt (wt_rf (fv 7) (fv 5) (ar 3)) (ar 31 (kk.toInt.toNat)).toInt (fv 7).toInt (ar 29 (kk.toInt.toNat)).toInt (ar 30 (kk.toInt.toNat)).toInt (cd_ri a.toInt b.toInt) d.toInt) a.toInt (decide ((ar 20 ((ar 28 (kk.toInt.toNat)).toInt.toNat)).toInt = 2)) (cd_Wf (cd_gX llr) lln 0) from by have hal : cd_al (cd_fc (ar 20 ((ar 28 (kk.toInt.toNat)).toInt.toNat)).toInt (ar 23 ((ar 28 (kk.toInt.toNat)).toInt.toNat)).toInt (ar 22 ((ar 28 (kk.toInt.toNat)).toInt.toNat)).toInt (wt_rf (fv 7) (fv 5) (ar 3)) (ar 31 (kk.toInt.toNat)).toInt (fv 7).toInt (ar 29 (kk.toInt.toNat)).toInt (ar 30 (kk.toInt.toNat)).toInt (cd_ri a.toInt b.toInt) d.toInt) a.toInt (decide ((ar 20 ((ar 28 (kk.toInt.toNat)).toInt.toNat)).toInt = 2)) (cd_Wf (cd_gX llr) lln 0) = r_145.toInt := (by unfold cd_al; rw [if_neg (fun w => by omega)]; exact (lf_155).symm); rw [hal, show fv_156 6 = r_145 from (congrFun efv_156 6)]), (show v_160.toInt = cd_av (cd_fc (ar 20 ((ar 28 (kk.toInt.toNat)).toInt.toNat)).toInt (ar 23 ((ar 28 (kk.toInt.toNat)).toInt.toNat)).toInt (ar 22 ((ar 28 (kk.toInt.toNat)).toInt.toNat)).toInt (wt_rf (fv 7) (fv 5) (ar 3)) (ar 31 (kk.toInt.toNat)).toInt (fv 7).toInt (ar 29 (kk.toInt.toNat)).toInt (ar 30 (kk.toInt.toNat)).toInt (cd_ri a.toInt b.toInt) d.toInt) a.toInt (decide ((ar 20 ((ar 28 (kk.toInt.toNat)).toInt.toNat)).toInt = 2)) (cd_Wf (cd_gX llr) lln 0) from by have hal : cd_al (cd_fc (ar 20 ((ar 28 (kk.toInt.toNat)).toInt.toNat)).toInt (ar 23 ((ar 28 (kk.toInt.toNat)).toInt.toNat)).toInt (ar 22 ((ar 28 (kk.toInt.toNat)).toInt.toNat)).toInt (wt_rf (fv 7) (fv 5) (ar 3)) (ar 31 (kk.toInt.toNat)).toInt (fv 7).toInt (ar 29 (kk.toInt.toNat)).toInt (ar 30 (kk.toInt.toNat)).toInt (cd_ri a.toInt b.toInt) d.toInt) a.toInt (decide ((ar 20 ((ar 28 (kk.toInt.toNat)).toInt.toNat)).toInt = 2)) (cd_Wf (cd_gX llr) lln 0) = r_145.toInt := (by unfold cd_al; rw [if_neg (fun w => by omega)]; exact (lf_155).symm); have hv9 : llr 2 (r_145.toInt.toNat) = v_160 := ev_160.symm; unfold cd_av; rw [if_neg (by rw [hal]; omega)]; rcases cd_fi_val (f := (cd_fc (ar 20 ((ar 28 (kk.toInt.toNat)).toInt.toNat)).toInt (ar 23 ((ar 28 (kk.toInt.toNat)).toInt.toNat)).toInt (ar 22 ((ar 28 (kk.toInt.toNat)).toInt.toNat)).toInt (wt_rf (fv 7) (fv 5) (ar 3)) (ar 31 (kk.toInt.toNat)).toInt (fv 7).toInt (ar 29 (kk.toInt.toNat)).toInt (ar 30 (kk.toInt.toNat)).toInt (cd_ri a.toInt b.toInt) d.toInt)) (k := a.toInt) (g := cd_gX llr) lln 0 with h9 | ⟨j9, h1, h2, h3, h4⟩; exfalso; omega; rw [← h4, show j9 = r_145.toInt.toNat from by omega]; show _ = (llr 2 (r_145.toInt.toNat)).toInt; rw [hv9]), trivial⟩, ⟨by rw [ht]; exact hP, va_K.moved hW.alike hK⟩⟩, hS.F ht⟩) hS.2.2 dX7_ask_101
          · skip
            have i_161 : (-1) ≤ r_145.toInt ∧ r_145.toInt ≤ (-1) := iv_eq1 (⟨by decide, by decide⟩ : (-1 : Int) ≤ ((-1) : Int32).toInt ∧ ((-1) : Int32).toInt ≤ -1) c_157
            refine lv_iload hx hb dX7_ask_83 (lv_at hl 0 rfl) ?_
            refine lv_iload_n hx hb dX7_ask_85 rfl (lv_at hl 4 rfl) ?_
            refine va_calli (va_runS (As := [.int 1, .int a]) (rest := []) ⟨hx, hb, hml, hown, hts⟩ (x_plainValueE l H.size 1 a (iv_w (⟨by decide, by decide⟩ : (1 : Int) ≤ (1 : Int32).toInt ∧ (1 : Int32).toInt ≤ 1) (by decide) (by decide))) (va_cwS 2 hts (gS kw_5_38 kw_5_39 kw_1_2 kw_5_40) rfl rfl rfl (by decide +kernel) ⟨Nat.le_of_ble_eq_true rfl, Nat.le_of_ble_eq_true rfl⟩) ⟨fun a U g mk q => ⟨q.1, q.2⟩, fun U hU hW => ⟨rfl, congrArg Array.size hU⟩⟩ rfl rfl hl.1 rfl (lv_room (Nat.le_of_ble_eq_true rfl)) dX7_ask_86 ⟨Nat.le_of_ble_eq_true rfl, Nat.le_of_ble_eq_true rfl⟩) hS (fun q _ h9 => nX_up hS q h9) (nX_up hS) (fun r_163 u t H1 locs ht _ hw hB _ hk1 hS => ?_)
            obtain ⟨p_164, -⟩ := hw
            have hP := my_keepM hP hk1
            generalize H1 = H at hP hS ⊢
            refine lv_goto (tgt := 101) hx hb dX7_ask_89 (by decide) ?_
            exact W.iret (v := r_163) hx hb hr (fun t ht hW => ⟨⟨r_163, (fv_156, wd_150, ar_151), rfl, ⟨hF_fv_156, hA_ar_151, (fM_put (fM_call (fM_call (fM_rf [6] _) fr_139 (by decide)) fr_152 (by decide)) efv_156 (by decide)), (fA_call (fA_call (fA_rf [4] _) fa_140 (by decide)) fa_153 (by decide)), (wf_154.trans wf_141), (show (fv_156 6).toInt = cd_al (cd_fc (ar 20 ((ar 28 (kk.toInt.toNat)).toInt.toNat)).toInt (ar 23 ((ar 28 (kk.toInt.toNat)).toInt.toNat)).toInt (ar 22 ((ar 28 (kk.toInt.toNat)).toInt.toNat)).toInt (wt_rf (fv 7) (fv 5) (ar 3)) (ar 31 (kk.toInt.toNat)).toInt (fv 7).toInt (ar 29 (kk.toInt.toNat)).toInt (ar 30 (kk.toInt.toNat)).toInt (cd_ri a.toInt b.toInt) d.toInt) a.toInt (decide ((ar 20 ((ar 28 (kk.toInt.toNat)).toInt.toNat)).toInt = 2)) (cd_Wf (cd_gX llr) lln 0) from by have hal : cd_al (cd_fc (ar 20 ((ar 28 (kk.toInt.toNat)).toInt.toNat)).toInt (ar 23 ((ar 28 (kk.toInt.toNat)).toInt.toNat)).toInt (ar 22 ((ar 28 (kk.toInt.toNat)).toInt.toNat)).toInt (wt_rf (fv 7) (fv 5) (ar 3)) (ar 31 (kk.toInt.toNat)).toInt (fv 7).toInt (ar 29 (kk.toInt.toNat)).toInt (ar 30 (kk.toInt.toNat)).toInt (cd_ri a.toInt b.toInt) d.toInt) a.toInt (decide ((ar 20 ((ar 28 (kk.toInt.toNat)).toInt.toNat)).toInt = 2)) (cd_Wf (cd_gX llr) lln 0) = r_145.toInt := (by unfold cd_al; rw [if_neg (fun w => by omega)]; exact (lf_155).symm); rw [hal, show fv_156 6 = r_145 from (congrFun efv_156 6)]), (show r_163.toInt = cd_av (cd_fc (ar 20 ((ar 28 (kk.toInt.toNat)).toInt.toNat)).toInt (ar 23 ((ar 28 (kk.toInt.toNat)).toInt.toNat)).toInt (ar 22 ((ar 28 (kk.toInt.toNat)).toInt.toNat)).toInt (wt_rf (fv 7) (fv 5) (ar 3)) (ar 31 (kk.toInt.toNat)).toInt (fv 7).toInt (ar 29 (kk.toInt.toNat)).toInt (ar 30 (kk.toInt.toNat)).toInt (cd_ri a.toInt b.toInt) d.toInt) a.toInt (decide ((ar 20 ((ar 28 (kk.toInt.toNat)).toInt.toNat)).toInt = 2)) (cd_Wf (cd_gX llr) lln 0) from by have hal : cd_al (cd_fc (ar 20 ((ar 28 (kk.toInt.toNat)).toInt.toNat)).toInt (ar 23 ((ar 28 (kk.toInt.toNat)).toInt.toNat)).toInt (ar 22 ((ar 28 (kk.toInt.toNat)).toInt.toNat)).toInt (wt_rf (fv 7) (fv 5) (ar 3)) (ar 31 (kk.toInt.toNat)).toInt (fv 7).toInt (ar 29 (kk.toInt.toNat)).toInt (ar 30 (kk.toInt.toNat)).toInt (cd_ri a.toInt b.toInt) d.toInt) a.toInt (decide ((ar 20 ((ar 28 (kk.toInt.toNat)).toInt.toNat)).toInt = 2)) (cd_Wf (cd_gX llr) lln 0) = r_145.toInt := (by unfold cd_al; rw [if_neg (fun w => by omega)]; exact (lf_155).symm); have hm1 : ((-1) : Int32).toInt = -1 := (by decide); unfold cd_av; rw [if_pos (by rw [hal]; omega), p_164, htx]; rfl), trivial⟩, ⟨by rw [ht]; exact hP, va_K.moved hW.alike hK⟩⟩, hS.F ht⟩) hS.2.2 dX7_ask_101
        · skip
          have i_165 : 5 ≤ a.toInt ∧ a.toInt ≤ 5 := iv_eq1 (⟨by decide, by decide⟩ : (5 : Int) ≤ (5 : Int32).toInt ∧ (5 : Int32).toInt ≤ 5) c_143
          refine lv_iload hx hb dX7_ask_54 (lv_at hl 0 rfl) ?_
          refine lv_if_eq (tgt := 63) hx hb dX7_ask_56 (by decide) (fun c_167 => ?_) (fun c_167 => ?_)
          · skip
            exact absurd c_167 (by decide)
          · skip
            refine lv_iconst (v := (-1)) hx hb dX7_ask_59 (by decide) ?_
            refine lv_goto (tgt := 72) hx hb dX7_ask_60 (by decide) ?_
            refine pX_X7_137 hx hb htg hown hK hP hS hd dX7_ask_72 (fun H locs fv_168 efv_168 hP hS => ?_)
            have hF_fv_168 : rX fv_168 := rX_put hF_fv_136 efv_168 (iv_any _)
            refine lv_aload_n hx hb dX7_ask_75 rfl (lv_at hl 1 rfl) ?_
            refine gX_X7_137 hx hb htg hown hK hP dX7_ask_76 ?_
            refine my_ti (y := (-1)) ((congrFun efv_168 6)) ?_
            refine lv_iconst (v := (-1)) hx hb dX7_ask_79 (by decide) ?_
            refine lv_icmp_ne (tgt := 92) hx hb dX7_ask_80 (by decide) (fun c_169 => ?_) (fun c_169 => ?_)
            · skip
              exact absurd c_169 (by decide)
            · skip
              refine lv_iload hx hb dX7_ask_83 (lv_at hl 0 rfl) ?_
              refine lv_iload_n hx hb dX7_ask_85 rfl (lv_at hl 4 rfl) ?_
              refine va_calli (va_runS (As := [.int 1, .int a]) (rest := []) ⟨hx, hb, hml, hown, hts⟩ (x_plainValueE l H.size 1 a (iv_w (⟨by decide, by decide⟩ : (1 : Int) ≤ (1 : Int32).toInt ∧ (1 : Int32).toInt ≤ 1) (by decide) (by decide))) (va_cwS 2 hts (gS kw_5_38 kw_5_39 kw_1_2 kw_5_40) rfl rfl rfl (by decide +kernel) ⟨Nat.le_of_ble_eq_true rfl, Nat.le_of_ble_eq_true rfl⟩) ⟨fun a U g mk q => ⟨q.1, q.2⟩, fun U hU hW => ⟨rfl, congrArg Array.size hU⟩⟩ rfl rfl hl.1 rfl (lv_room (Nat.le_of_ble_eq_true rfl)) dX7_ask_86 ⟨Nat.le_of_ble_eq_true rfl, Nat.le_of_ble_eq_true rfl⟩) hS (fun q _ h9 => nX_up hS q h9) (nX_up hS) (fun r_170 u t H1 locs ht _ hw hB _ hk1 hS => ?_)
              obtain ⟨p_171, -⟩ := hw
              have hP := my_keepM hP hk1
              generalize H1 = H at hP hS ⊢
              refine lv_goto (tgt := 101) hx hb dX7_ask_89 (by decide) ?_
              exact W.iret (v := r_170) hx hb hr (fun t ht hW => ⟨⟨r_170, (fv_168, wd_137, ar_138), rfl, ⟨hF_fv_168, hA_ar_138, (fM_put (fM_call (fM_rf [6] _) fr_139 (by decide)) efv_168 (by decide)), (fA_call (fA_rf [4] _) fa_140 (by decide)), wf_141, (show (fv_168 6).toInt = cd_al (cd_fc (ar 20 ((ar 28 (kk.toInt.toNat)).toInt.toNat)).toInt (ar 23 ((ar 28 (kk.toInt.toNat)).toInt.toNat)).toInt (ar 22 ((ar 28 (kk.toInt.toNat)).toInt.toNat)).toInt (wt_rf (fv 7) (fv 5) (ar 3)) (ar 31 (kk.toInt.toNat)).toInt (fv 7).toInt (ar 29 (kk.toInt.toNat)).toInt (ar 30 (kk.toInt.toNat)).toInt (cd_ri a.toInt b.toInt) d.toInt) a.toInt (decide ((ar 20 ((ar 28 (kk.toInt.toNat)).toInt.toNat)).toInt = 2)) (cd_Wf (cd_gX llr) lln 0) from by have hal : cd_al (cd_fc (ar 20 ((ar 28 (kk.toInt.toNat)).toInt.toNat)).toInt (ar 23 ((ar 28 (kk.toInt.toNat)).toInt.toNat)).toInt (ar 22 ((ar 28 (kk.toInt.toNat)).toInt.toNat)).toInt (wt_rf (fv 7) (fv 5) (ar 3)) (ar 31 (kk.toInt.toNat)).toInt (fv 7).toInt (ar 29 (kk.toInt.toNat)).toInt (ar 30 (kk.toInt.toNat)).toInt (cd_ri a.toInt b.toInt) d.toInt) a.toInt (decide ((ar 20 ((ar 28 (kk.toInt.toNat)).toInt.toNat)).toInt = 2)) (cd_Wf (cd_gX llr) lln 0) = -1 := (by unfold cd_al; rw [if_pos ⟨by omega, htx⟩]); rw [hal, show fv_168 6 = ((-1) : Int32) from (congrFun efv_168 6)]; decide), (show r_170.toInt = cd_av (cd_fc (ar 20 ((ar 28 (kk.toInt.toNat)).toInt.toNat)).toInt (ar 23 ((ar 28 (kk.toInt.toNat)).toInt.toNat)).toInt (ar 22 ((ar 28 (kk.toInt.toNat)).toInt.toNat)).toInt (wt_rf (fv 7) (fv 5) (ar 3)) (ar 31 (kk.toInt.toNat)).toInt (fv 7).toInt (ar 29 (kk.toInt.toNat)).toInt (ar 30 (kk.toInt.toNat)).toInt (cd_ri a.toInt b.toInt) d.toInt) a.toInt (decide ((ar 20 ((ar 28 (kk.toInt.toNat)).toInt.toNat)).toInt = 2)) (cd_Wf (cd_gX llr) lln 0) from by have hal : cd_al (cd_fc (ar 20 ((ar 28 (kk.toInt.toNat)).toInt.toNat)).toInt (ar 23 ((ar 28 (kk.toInt.toNat)).toInt.toNat)).toInt (ar 22 ((ar 28 (kk.toInt.toNat)).toInt.toNat)).toInt (wt_rf (fv 7) (fv 5) (ar 3)) (ar 31 (kk.toInt.toNat)).toInt (fv 7).toInt (ar 29 (kk.toInt.toNat)).toInt (ar 30 (kk.toInt.toNat)).toInt (cd_ri a.toInt b.toInt) d.toInt) a.toInt (decide ((ar 20 ((ar 28 (kk.toInt.toNat)).toInt.toNat)).toInt = 2)) (cd_Wf (cd_gX llr) lln 0) = -1 := (by unfold cd_al; rw [if_pos ⟨by omega, htx⟩]); have hm1 : ((-1) : Int32).toInt = -1 := (by decide); unfold cd_av; rw [if_pos (by rw [hal]), p_171, htx]; rfl), trivial⟩, ⟨by rw [ht]; exact hP, va_K.moved hW.alike hK⟩⟩, hS.F ht⟩) hS.2.2 dX7_ask_101
      · skip
        exact absurd c_131 (by decide)
    · skip
      have q_172 : a.toInt = 0 ∨ a.toInt = 2 ∨ a.toInt = 5 := p_129
      refine lv_if_eq (tgt := 41) hx hb dX7_ask_34 (by decide) (fun c_173 => ?_) (fun c_173 => ?_)
      · skip
        exact absurd c_173 (by decide)
      · skip
        refine lv_iconst (v := 0) hx hb dX7_ask_37 (by decide) ?_
        refine lv_goto (tgt := 43) hx hb dX7_ask_38 (by decide) ?_
        refine lv_iload hx hb dX7_ask_43 (lv_at hl 6 rfl) ?_
        have z_174 : 0 ≤ (fv 5).toInt ∧ (fv 5).toInt ≤ 200 := hF_fv 5
        have z_175 : 0 ≤ (fv 7).toInt ∧ (fv 7).toInt ≤ 199 := hF_fv 7
        refine va_callv (va_runV (As := [.int kk, .int 0, .int d]) (rest := []) ⟨hx, hb, hml, hown, hts⟩ (x_setFactsE l dC dI H.size ob ad cA hd fv wd ar hF_fv hA_ar kk 0 d h_kk) (cwV 3 hts (gV kw_5_25 kw_5_27 kw_p_19 kw_1_2 kw_5_28) rfl rfl rfl (by decide +kernel) ⟨Nat.le_of_ble_eq_true rfl, Nat.le_of_ble_eq_true rfl⟩) ⟨fun a U g mk q => ⟨q.1, q.2.1, q.2.2.1, va_K.moved (u := U) (U := U.calling g mk a) (Vm.Alike.refl U.vm) q.2.2.2⟩, va_recv hK hP (ci := 7) (q0 := 1) rfl rfl, fun U hU hW => ⟨rfl, by rw [hU], by rw [hU]; exact hP, va_K.moved hW.alike hK⟩⟩ rfl rfl hl.1 rfl (lv_room (Nat.le_of_ble_eq_true rfl)) dX7_ask_45 ⟨Nat.le_of_ble_eq_true rfl, Nat.le_of_ble_eq_true rfl⟩) hS (fun q _ h9 => aX_up hS q h9) (aX_up hS) (fun u t H1 locs ht _ hw hB _ hk1 hS => ?_)
        obtain ⟨fv_178, wd_179, ar_180⟩ := u
        obtain ⟨hF_fv_178, hA_ar_180, fr_181, fa_182, wf_183, p_177, -⟩ := hw
        have wf_183 : wd_179.2 = wd.2 := wf_183
        have hP : va_P (dC, dI) vwCl (wsX ob ad cA fv_178 wd_179 ar_180) H1 := by have h9 := hB.1; rw [ht] at h9; exact h9
        have fr_181 : fM [] fv fv_178 := fr_181
        have fa_182 : fA [4] ar ar_180 := fa_182
        have p_177 : cd_f (ar_180 4) = (cd_fc (ar 20 ((ar 28 (kk.toInt.toNat)).toInt.toNat)).toInt (ar 23 ((ar 28 (kk.toInt.toNat)).toInt.toNat)).toInt (ar 22 ((ar 28 (kk.toInt.toNat)).toInt.toNat)).toInt (wt_rf (fv 7) (fv 5) (ar 3)) (ar 31 (kk.toInt.toNat)).toInt (fv 7).toInt (ar 29 (kk.toInt.toNat)).toInt (ar 30 (kk.toInt.toNat)).toInt (0 : Int32).toInt d.toInt) := p_177
        generalize H1 = H at hP hS ⊢
        have sf_184 : cd_f (ar_180 4) = (cd_fc (ar 20 ((ar 28 (kk.toInt.toNat)).toInt.toNat)).toInt (ar 23 ((ar 28 (kk.toInt.toNat)).toInt.toNat)).toInt (ar 22 ((ar 28 (kk.toInt.toNat)).toInt.toNat)).toInt (wt_rf (fv 7) (fv 5) (ar 3)) (ar 31 (kk.toInt.toNat)).toInt (fv 7).toInt (ar 29 (kk.toInt.toNat)).toInt (ar 30 (kk.toInt.toNat)).toInt (cd_ri a.toInt b.toInt) d.toInt) := by have hri : ((0 : Int32)).toInt = cd_ri a.toInt b.toInt := (by unfold cd_ri; rw [if_pos q_172]; decide); have h9 := p_177; rw [hri] at h9; exact h9
        refine lv_aload_n hx hb dX7_ask_48 rfl (lv_at hl 1 rfl) ?_
        refine lv_iload_n hx hb dX7_ask_49 rfl (lv_at hl 4 rfl) ?_
        refine lv_iconst (v := 5) hx hb dX7_ask_50 (by decide) ?_
        refine lv_icmp_ne (tgt := 63) hx hb dX7_ask_51 (by decide) (fun c_185 => ?_) (fun c_185 => ?_)
        · skip
          have k_186 : ¬ a.toInt = 5 := fun q => c_185 (Int32.toInt_inj.mp q)
          refine lv_aload_n hx hb dX7_ask_63 rfl (lv_at hl 2 rfl) ?_
          refine lv_iload_n hx hb dX7_ask_64 rfl (lv_at hl 4 rfl) ?_
          refine lv_aload_n hx hb dX7_ask_65 rfl (lv_at hl 1 rfl) ?_
          refine gX_X7_62 hx hb htg hown hK hP dX7_ask_66 ?_
          refine va_calli (va_runV (As := [.int a, .ref (ad 4)]) (rest := [.ref (ob 1)]) ⟨hx, hb, hml, hown, hts⟩ (x_lineForE l dC dI H.size ob ad cA hd fv_178 wd_179 ar_180 hF_fv_178 hA_ar_180 la lfr lra lrc lln lcn llr hlq a hgd (by rw [sf_184]; exact cd_fc01)) (cwV 2 hts (gV kw_5_30 kw_5_31 kw_5_32 kw_1_10 kw_5_33) rfl rfl rfl (by decide +kernel) ⟨Nat.le_of_ble_eq_true rfl, Nat.le_of_ble_eq_true rfl⟩) ⟨fun a U g mk q => ⟨q.1, ⟨q.2.1.1, q.2.1.2.1, va_K.moved (u := U) (U := U.calling g mk a) (Vm.Alike.refl U.vm) q.2.1.2.2⟩, ⟨q.2.2.1, va_K.moved (u := U) (U := U.calling g mk a) (Vm.Alike.refl U.vm) q.2.2.2.1, q.2.2.2.2⟩⟩, va_recv (lw_K hL) (lw_now hL hS) (ci := 1) (q0 := 0) rfl rfl, fun U hU hW => ⟨rfl, ⟨by rw [hU], by rw [hU]; exact hP, va_K.moved hW.alike hK⟩, lw_pass hL hS hU hW.alike⟩⟩ rfl rfl hl.1 rfl (lv_room (Nat.le_of_ble_eq_true rfl)) dX7_ask_69 ⟨Nat.le_of_ble_eq_true rfl, Nat.le_of_ble_eq_true rfl⟩) hS (fun q _ h9 => aX_up hS q h9) (aX_up hS) (fun r_187 u t H1 locs ht _ hw hB _ hk1 hS => ?_)
          obtain ⟨fv_191, wd_192, ar_193⟩ := u
          obtain ⟨hF_fv_191, hA_ar_193, fr_194, fa_195, wf_196, p_188, p_189, p_190, -⟩ := hw
          have wf_196 : wd_192.2 = wd_179.2 := wf_196
          have hP : va_P (dC, dI) vwCl (wsX ob ad cA fv_191 wd_192 ar_193) H1 := by have h9 := hB.1; rw [ht] at h9; exact h9
          have fr_194 : fM [] fv_178 fv_191 := fr_194
          have fa_195 : fA [] ar_180 ar_193 := fa_195
          have p_189 : r_187.toInt < lln := p_189
          have p_190 : r_187.toInt = cd_fi (cd_f (ar_180 4)) a.toInt (cd_Wf (cd_gX llr) lln 0) 0 := p_190
          generalize H1 = H at hP hS ⊢
          have lf_197 : r_187.toInt = cd_fi (cd_fc (ar 20 ((ar 28 (kk.toInt.toNat)).toInt.toNat)).toInt (ar 23 ((ar 28 (kk.toInt.toNat)).toInt.toNat)).toInt (ar 22 ((ar 28 (kk.toInt.toNat)).toInt.toNat)).toInt (wt_rf (fv 7) (fv 5) (ar 3)) (ar 31 (kk.toInt.toNat)).toInt (fv 7).toInt (ar 29 (kk.toInt.toNat)).toInt (ar 30 (kk.toInt.toNat)).toInt (cd_ri a.toInt b.toInt) d.toInt) a.toInt (cd_Wf (cd_gX llr) lln 0) 0 := by have h9 := p_190; rw [sf_184] at h9; exact h9
          refine pX_X7_137 hx hb htg hown hK hP hS hd dX7_ask_72 (fun H locs fv_198 efv_198 hP hS => ?_)
          have hF_fv_198 : rX fv_198 := rX_put hF_fv_191 efv_198 (iv_any _)
          refine lv_aload_n hx hb dX7_ask_75 rfl (lv_at hl 1 rfl) ?_
          refine gX_X7_137 hx hb htg hown hK hP dX7_ask_76 ?_
          refine my_ti (y := r_187) ((congrFun efv_198 6)) ?_
          refine lv_iconst (v := (-1)) hx hb dX7_ask_79 (by decide) ?_
          refine lv_icmp_ne (tgt := 92) hx hb dX7_ask_80 (by decide) (fun c_199 => ?_) (fun c_199 => ?_)
          · skip
            have i_200 : 0 ≤ r_187.toInt ∧ r_187.toInt ≤ 15 := iv_nel p_188 (by decide) c_199
            have k_201 : ¬ r_187.toInt = (-1) := fun q => c_199 (Int32.toInt_inj.mp q)
            refine lv_aload_n hx hb dX7_ask_92 rfl (lv_at hl 2 rfl) ?_
            refine gL_X7_144 hx hb htg hown (lw_K hL) (lw_now hL hS) dX7_ask_93 ?_
            refine lv_aload_n hx hb dX7_ask_96 rfl (lv_at hl 1 rfl) ?_
            refine gX_X7_137 hx hb htg hown hK hP dX7_ask_97 ?_
            refine my_ti (y := r_187) ((congrFun efv_198 6)) ?_
            refine lL_2 hx hb (lw_K hL) (lw_now hL hS) (vp_in_iff.mpr (by omega)) dX7_ask_100 (fun v_202 ev_202 => ?_)
            exact W.iret (v := v_202) hx hb hr (fun t ht hW => ⟨⟨v_202, (fv_198, wd_192, ar_193), rfl, ⟨hF_fv_198, hA_ar_193, (fM_put (fM_call (fM_call (fM_rf [6] _) fr_181 (by decide)) fr_194 (by decide)) efv_198 (by decide)), (fA_call (fA_call (fA_rf [4] _) fa_182 (by decide)) fa_195 (by decide)), (wf_196.trans wf_183), (show (fv_198 6).toInt = cd_al (cd_fc (ar 20 ((ar 28 (kk.toInt.toNat)).toInt.toNat)).toInt (ar 23 ((ar 28 (kk.toInt.toNat)).toInt.toNat)).toInt (ar 22 ((ar 28 (kk.toInt.toNat)).toInt.toNat)).toInt (wt_rf (fv 7) (fv 5) (ar 3)) (ar 31 (kk.toInt.toNat)).toInt (fv 7).toInt (ar 29 (kk.toInt.toNat)).toInt (ar 30 (kk.toInt.toNat)).toInt (cd_ri a.toInt b.toInt) d.toInt) a.toInt (decide ((ar 20 ((ar 28 (kk.toInt.toNat)).toInt.toNat)).toInt = 2)) (cd_Wf (cd_gX llr) lln 0) from by have hal : cd_al (cd_fc (ar 20 ((ar 28 (kk.toInt.toNat)).toInt.toNat)).toInt (ar 23 ((ar 28 (kk.toInt.toNat)).toInt.toNat)).toInt (ar 22 ((ar 28 (kk.toInt.toNat)).toInt.toNat)).toInt (wt_rf (fv 7) (fv 5) (ar 3)) (ar 31 (kk.toInt.toNat)).toInt (fv 7).toInt (ar 29 (kk.toInt.toNat)).toInt (ar 30 (kk.toInt.toNat)).toInt (cd_ri a.toInt b.toInt) d.toInt) a.toInt (decide ((ar 20 ((ar 28 (kk.toInt.toNat)).toInt.toNat)).toInt = 2)) (cd_Wf (cd_gX llr) lln 0) = r_187.toInt := (by unfold cd_al; rw [if_neg (fun w => by omega)]; exact (lf_197).symm); rw [hal, show fv_198 6 = r_187 from (congrFun efv_198 6)]), (show v_202.toInt = cd_av (cd_fc (ar 20 ((ar 28 (kk.toInt.toNat)).toInt.toNat)).toInt (ar 23 ((ar 28 (kk.toInt.toNat)).toInt.toNat)).toInt (ar 22 ((ar 28 (kk.toInt.toNat)).toInt.toNat)).toInt (wt_rf (fv 7) (fv 5) (ar 3)) (ar 31 (kk.toInt.toNat)).toInt (fv 7).toInt (ar 29 (kk.toInt.toNat)).toInt (ar 30 (kk.toInt.toNat)).toInt (cd_ri a.toInt b.toInt) d.toInt) a.toInt (decide ((ar 20 ((ar 28 (kk.toInt.toNat)).toInt.toNat)).toInt = 2)) (cd_Wf (cd_gX llr) lln 0) from by have hal : cd_al (cd_fc (ar 20 ((ar 28 (kk.toInt.toNat)).toInt.toNat)).toInt (ar 23 ((ar 28 (kk.toInt.toNat)).toInt.toNat)).toInt (ar 22 ((ar 28 (kk.toInt.toNat)).toInt.toNat)).toInt (wt_rf (fv 7) (fv 5) (ar 3)) (ar 31 (kk.toInt.toNat)).toInt (fv 7).toInt (ar 29 (kk.toInt.toNat)).toInt (ar 30 (kk.toInt.toNat)).toInt (cd_ri a.toInt b.toInt) d.toInt) a.toInt (decide ((ar 20 ((ar 28 (kk.toInt.toNat)).toInt.toNat)).toInt = 2)) (cd_Wf (cd_gX llr) lln 0) = r_187.toInt := (by unfold cd_al; rw [if_neg (fun w => by omega)]; exact (lf_197).symm); have hv9 : llr 2 (r_187.toInt.toNat) = v_202 := ev_202.symm; unfold cd_av; rw [if_neg (by rw [hal]; omega)]; rcases cd_fi_val (f := (cd_fc (ar 20 ((ar 28 (kk.toInt.toNat)).toInt.toNat)).toInt (ar 23 ((ar 28 (kk.toInt.toNat)).toInt.toNat)).toInt (ar 22 ((ar 28 (kk.toInt.toNat)).toInt.toNat)).toInt (wt_rf (fv 7) (fv 5) (ar 3)) (ar 31 (kk.toInt.toNat)).toInt (fv 7).toInt (ar 29 (kk.toInt.toNat)).toInt (ar 30 (kk.toInt.toNat)).toInt (cd_ri a.toInt b.toInt) d.toInt)) (k := a.toInt) (g := cd_gX llr) lln 0 with h9 | ⟨j9, h1, h2, h3, h4⟩; exfalso; omega; rw [← h4, show j9 = r_187.toInt.toNat from by omega]; show _ = (llr 2 (r_187.toInt.toNat)).toInt; rw [hv9]), trivial⟩, ⟨by rw [ht]; exact hP, va_K.moved hW.alike hK⟩⟩, hS.F ht⟩) hS.2.2 dX7_ask_101
          · skip
            have i_203 : (-1) ≤ r_187.toInt ∧ r_187.toInt ≤ (-1) := iv_eq1 (⟨by decide, by decide⟩ : (-1 : Int) ≤ ((-1) : Int32).toInt ∧ ((-1) : Int32).toInt ≤ -1) c_199
            refine lv_iload hx hb dX7_ask_83 (lv_at hl 0 rfl) ?_
            refine lv_iload_n hx hb dX7_ask_85 rfl (lv_at hl 4 rfl) ?_
            refine va_calli (va_runS (As := [.int 1, .int a]) (rest := []) ⟨hx, hb, hml, hown, hts⟩ (x_plainValueE l H.size 1 a (iv_w (⟨by decide, by decide⟩ : (1 : Int) ≤ (1 : Int32).toInt ∧ (1 : Int32).toInt ≤ 1) (by decide) (by decide))) (va_cwS 2 hts (gS kw_5_38 kw_5_39 kw_1_2 kw_5_40) rfl rfl rfl (by decide +kernel) ⟨Nat.le_of_ble_eq_true rfl, Nat.le_of_ble_eq_true rfl⟩) ⟨fun a U g mk q => ⟨q.1, q.2⟩, fun U hU hW => ⟨rfl, congrArg Array.size hU⟩⟩ rfl rfl hl.1 rfl (lv_room (Nat.le_of_ble_eq_true rfl)) dX7_ask_86 ⟨Nat.le_of_ble_eq_true rfl, Nat.le_of_ble_eq_true rfl⟩) hS (fun q _ h9 => nX_up hS q h9) (nX_up hS) (fun r_205 u t H1 locs ht _ hw hB _ hk1 hS => ?_)
            obtain ⟨p_206, -⟩ := hw
            have hP := my_keepM hP hk1
            generalize H1 = H at hP hS ⊢
            refine lv_goto (tgt := 101) hx hb dX7_ask_89 (by decide) ?_
            exact W.iret (v := r_205) hx hb hr (fun t ht hW => ⟨⟨r_205, (fv_198, wd_192, ar_193), rfl, ⟨hF_fv_198, hA_ar_193, (fM_put (fM_call (fM_call (fM_rf [6] _) fr_181 (by decide)) fr_194 (by decide)) efv_198 (by decide)), (fA_call (fA_call (fA_rf [4] _) fa_182 (by decide)) fa_195 (by decide)), (wf_196.trans wf_183), (show (fv_198 6).toInt = cd_al (cd_fc (ar 20 ((ar 28 (kk.toInt.toNat)).toInt.toNat)).toInt (ar 23 ((ar 28 (kk.toInt.toNat)).toInt.toNat)).toInt (ar 22 ((ar 28 (kk.toInt.toNat)).toInt.toNat)).toInt (wt_rf (fv 7) (fv 5) (ar 3)) (ar 31 (kk.toInt.toNat)).toInt (fv 7).toInt (ar 29 (kk.toInt.toNat)).toInt (ar 30 (kk.toInt.toNat)).toInt (cd_ri a.toInt b.toInt) d.toInt) a.toInt (decide ((ar 20 ((ar 28 (kk.toInt.toNat)).toInt.toNat)).toInt = 2)) (cd_Wf (cd_gX llr) lln 0) from by have hal : cd_al (cd_fc (ar 20 ((ar 28 (kk.toInt.toNat)).toInt.toNat)).toInt (ar 23 ((ar 28 (kk.toInt.toNat)).toInt.toNat)).toInt (ar 22 ((ar 28 (kk.toInt.toNat)).toInt.toNat)).toInt (wt_rf (fv 7) (fv 5) (ar 3)) (ar 31 (kk.toInt.toNat)).toInt (fv 7).toInt (ar 29 (kk.toInt.toNat)).toInt (ar 30 (kk.toInt.toNat)).toInt (cd_ri a.toInt b.toInt) d.toInt) a.toInt (decide ((ar 20 ((ar 28 (kk.toInt.toNat)).toInt.toNat)).toInt = 2)) (cd_Wf (cd_gX llr) lln 0) = r_187.toInt := (by unfold cd_al; rw [if_neg (fun w => by omega)]; exact (lf_197).symm); rw [hal, show fv_198 6 = r_187 from (congrFun efv_198 6)]), (show r_205.toInt = cd_av (cd_fc (ar 20 ((ar 28 (kk.toInt.toNat)).toInt.toNat)).toInt (ar 23 ((ar 28 (kk.toInt.toNat)).toInt.toNat)).toInt (ar 22 ((ar 28 (kk.toInt.toNat)).toInt.toNat)).toInt (wt_rf (fv 7) (fv 5) (ar 3)) (ar 31 (kk.toInt.toNat)).toInt (fv 7).toInt (ar 29 (kk.toInt.toNat)).toInt (ar 30 (kk.toInt.toNat)).toInt (cd_ri a.toInt b.toInt) d.toInt) a.toInt (decide ((ar 20 ((ar 28 (kk.toInt.toNat)).toInt.toNat)).toInt = 2)) (cd_Wf (cd_gX llr) lln 0) from by have hal : cd_al (cd_fc (ar 20 ((ar 28 (kk.toInt.toNat)).toInt.toNat)).toInt (ar 23 ((ar 28 (kk.toInt.toNat)).toInt.toNat)).toInt (ar 22 ((ar 28 (kk.toInt.toNat)).toInt.toNat)).toInt (wt_rf (fv 7) (fv 5) (ar 3)) (ar 31 (kk.toInt.toNat)).toInt (fv 7).toInt (ar 29 (kk.toInt.toNat)).toInt (ar 30 (kk.toInt.toNat)).toInt (cd_ri a.toInt b.toInt) d.toInt) a.toInt (decide ((ar 20 ((ar 28 (kk.toInt.toNat)).toInt.toNat)).toInt = 2)) (cd_Wf (cd_gX llr) lln 0) = r_187.toInt := (by unfold cd_al; rw [if_neg (fun w => by omega)]; exact (lf_197).symm); have hm1 : ((-1) : Int32).toInt = -1 := (by decide); unfold cd_av; rw [if_pos (by rw [hal]; omega), p_206, htx]; rfl), trivial⟩, ⟨by rw [ht]; exact hP, va_K.moved hW.alike hK⟩⟩, hS.F ht⟩) hS.2.2 dX7_ask_101
        · skip
          have i_207 : 5 ≤ a.toInt ∧ a.toInt ≤ 5 := iv_eq1 (⟨by decide, by decide⟩ : (5 : Int) ≤ (5 : Int32).toInt ∧ (5 : Int32).toInt ≤ 5) c_185
          refine lv_iload hx hb dX7_ask_54 (lv_at hl 0 rfl) ?_
          refine lv_if_eq (tgt := 63) hx hb dX7_ask_56 (by decide) (fun c_209 => ?_) (fun c_209 => ?_)
          · skip
            exact absurd c_209 (by decide)
          · skip
            refine lv_iconst (v := (-1)) hx hb dX7_ask_59 (by decide) ?_
            refine lv_goto (tgt := 72) hx hb dX7_ask_60 (by decide) ?_
            refine pX_X7_137 hx hb htg hown hK hP hS hd dX7_ask_72 (fun H locs fv_210 efv_210 hP hS => ?_)
            have hF_fv_210 : rX fv_210 := rX_put hF_fv_178 efv_210 (iv_any _)
            refine lv_aload_n hx hb dX7_ask_75 rfl (lv_at hl 1 rfl) ?_
            refine gX_X7_137 hx hb htg hown hK hP dX7_ask_76 ?_
            refine my_ti (y := (-1)) ((congrFun efv_210 6)) ?_
            refine lv_iconst (v := (-1)) hx hb dX7_ask_79 (by decide) ?_
            refine lv_icmp_ne (tgt := 92) hx hb dX7_ask_80 (by decide) (fun c_211 => ?_) (fun c_211 => ?_)
            · skip
              exact absurd c_211 (by decide)
            · skip
              refine lv_iload hx hb dX7_ask_83 (lv_at hl 0 rfl) ?_
              refine lv_iload_n hx hb dX7_ask_85 rfl (lv_at hl 4 rfl) ?_
              refine va_calli (va_runS (As := [.int 1, .int a]) (rest := []) ⟨hx, hb, hml, hown, hts⟩ (x_plainValueE l H.size 1 a (iv_w (⟨by decide, by decide⟩ : (1 : Int) ≤ (1 : Int32).toInt ∧ (1 : Int32).toInt ≤ 1) (by decide) (by decide))) (va_cwS 2 hts (gS kw_5_38 kw_5_39 kw_1_2 kw_5_40) rfl rfl rfl (by decide +kernel) ⟨Nat.le_of_ble_eq_true rfl, Nat.le_of_ble_eq_true rfl⟩) ⟨fun a U g mk q => ⟨q.1, q.2⟩, fun U hU hW => ⟨rfl, congrArg Array.size hU⟩⟩ rfl rfl hl.1 rfl (lv_room (Nat.le_of_ble_eq_true rfl)) dX7_ask_86 ⟨Nat.le_of_ble_eq_true rfl, Nat.le_of_ble_eq_true rfl⟩) hS (fun q _ h9 => nX_up hS q h9) (nX_up hS) (fun r_212 u t H1 locs ht _ hw hB _ hk1 hS => ?_)
              obtain ⟨p_213, -⟩ := hw
              have hP := my_keepM hP hk1
              generalize H1 = H at hP hS ⊢
              refine lv_goto (tgt := 101) hx hb dX7_ask_89 (by decide) ?_
              exact W.iret (v := r_212) hx hb hr (fun t ht hW => ⟨⟨r_212, (fv_210, wd_179, ar_180), rfl, ⟨hF_fv_210, hA_ar_180, (fM_put (fM_call (fM_rf [6] _) fr_181 (by decide)) efv_210 (by decide)), (fA_call (fA_rf [4] _) fa_182 (by decide)), wf_183, (show (fv_210 6).toInt = cd_al (cd_fc (ar 20 ((ar 28 (kk.toInt.toNat)).toInt.toNat)).toInt (ar 23 ((ar 28 (kk.toInt.toNat)).toInt.toNat)).toInt (ar 22 ((ar 28 (kk.toInt.toNat)).toInt.toNat)).toInt (wt_rf (fv 7) (fv 5) (ar 3)) (ar 31 (kk.toInt.toNat)).toInt (fv 7).toInt (ar 29 (kk.toInt.toNat)).toInt (ar 30 (kk.toInt.toNat)).toInt (cd_ri a.toInt b.toInt) d.toInt) a.toInt (decide ((ar 20 ((ar 28 (kk.toInt.toNat)).toInt.toNat)).toInt = 2)) (cd_Wf (cd_gX llr) lln 0) from by have hal : cd_al (cd_fc (ar 20 ((ar 28 (kk.toInt.toNat)).toInt.toNat)).toInt (ar 23 ((ar 28 (kk.toInt.toNat)).toInt.toNat)).toInt (ar 22 ((ar 28 (kk.toInt.toNat)).toInt.toNat)).toInt (wt_rf (fv 7) (fv 5) (ar 3)) (ar 31 (kk.toInt.toNat)).toInt (fv 7).toInt (ar 29 (kk.toInt.toNat)).toInt (ar 30 (kk.toInt.toNat)).toInt (cd_ri a.toInt b.toInt) d.toInt) a.toInt (decide ((ar 20 ((ar 28 (kk.toInt.toNat)).toInt.toNat)).toInt = 2)) (cd_Wf (cd_gX llr) lln 0) = -1 := (by unfold cd_al; rw [if_pos ⟨by omega, htx⟩]); rw [hal, show fv_210 6 = ((-1) : Int32) from (congrFun efv_210 6)]; decide), (show r_212.toInt = cd_av (cd_fc (ar 20 ((ar 28 (kk.toInt.toNat)).toInt.toNat)).toInt (ar 23 ((ar 28 (kk.toInt.toNat)).toInt.toNat)).toInt (ar 22 ((ar 28 (kk.toInt.toNat)).toInt.toNat)).toInt (wt_rf (fv 7) (fv 5) (ar 3)) (ar 31 (kk.toInt.toNat)).toInt (fv 7).toInt (ar 29 (kk.toInt.toNat)).toInt (ar 30 (kk.toInt.toNat)).toInt (cd_ri a.toInt b.toInt) d.toInt) a.toInt (decide ((ar 20 ((ar 28 (kk.toInt.toNat)).toInt.toNat)).toInt = 2)) (cd_Wf (cd_gX llr) lln 0) from by have hal : cd_al (cd_fc (ar 20 ((ar 28 (kk.toInt.toNat)).toInt.toNat)).toInt (ar 23 ((ar 28 (kk.toInt.toNat)).toInt.toNat)).toInt (ar 22 ((ar 28 (kk.toInt.toNat)).toInt.toNat)).toInt (wt_rf (fv 7) (fv 5) (ar 3)) (ar 31 (kk.toInt.toNat)).toInt (fv 7).toInt (ar 29 (kk.toInt.toNat)).toInt (ar 30 (kk.toInt.toNat)).toInt (cd_ri a.toInt b.toInt) d.toInt) a.toInt (decide ((ar 20 ((ar 28 (kk.toInt.toNat)).toInt.toNat)).toInt = 2)) (cd_Wf (cd_gX llr) lln 0) = -1 := (by unfold cd_al; rw [if_pos ⟨by omega, htx⟩]); have hm1 : ((-1) : Int32).toInt = -1 := (by decide); unfold cd_av; rw [if_pos (by rw [hal]), p_213, htx]; rfl), trivial⟩, ⟨by rw [ht]; exact hP, va_K.moved hW.alike hK⟩⟩, hS.F ht⟩) hS.2.2 dX7_ask_101

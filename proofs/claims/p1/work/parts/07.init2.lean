theorem dJx4a65c_init_da8c8_0 : decode cJx4a65c_init_da8c8 0 = .ok (.aload_n 0, 1) := by decide +kernel
theorem dJx4a65c_init_da8c8_1 : decode cJx4a65c_init_da8c8 1 = .ok (.invokespecial 1, 3) := by decide +kernel
theorem dJx4a65c_init_da8c8_4 : decode cJx4a65c_init_da8c8 4 = .ok (.aload_n 0, 1) := by decide +kernel
theorem dJx4a65c_init_da8c8_5 : decode cJx4a65c_init_da8c8 5 = .ok (.getstatic 39, 3) := by decide +kernel
theorem dJx4a65c_init_da8c8_8 : decode cJx4a65c_init_da8c8 8 = .ok (.putfield 9, 3) := by decide +kernel
theorem dJx4a65c_init_da8c8_11 : decode cJx4a65c_init_da8c8 11 = .ok (.return_, 1) := by decide +kernel
theorem dJxa1e45_init_da8c8_0 : decode cJxa1e45_init_da8c8 0 = .ok (.aload_n 0, 1) := by decide +kernel
theorem dJxa1e45_init_da8c8_1 : decode cJxa1e45_init_da8c8 1 = .ok (.invokespecial 1, 3) := by decide +kernel
theorem dJxa1e45_init_da8c8_4 : decode cJxa1e45_init_da8c8 4 = .ok (.return_, 1) := by decide +kernel
theorem dJxc12de_init_da8c8_0 : decode cJxc12de_init_da8c8 0 = .ok (.aload_n 0, 1) := by decide +kernel
theorem dJxc12de_init_da8c8_1 : decode cJxc12de_init_da8c8 1 = .ok (.invokespecial 1, 3) := by decide +kernel
theorem dJxc12de_init_da8c8_4 : decode cJxc12de_init_da8c8 4 = .ok (.aload_n 0, 1) := by decide +kernel
theorem dJxc12de_init_da8c8_5 : decode cJxc12de_init_da8c8 5 = .ok (.iconst 0, 1) := by decide +kernel
theorem dJxc12de_init_da8c8_6 : decode cJxc12de_init_da8c8 6 = .ok (.putfield 7, 3) := by decide +kernel
theorem dJxc12de_init_da8c8_9 : decode cJxc12de_init_da8c8 9 = .ok (.return_, 1) := by decide +kernel
theorem dX3_init_0 : decode cX3_init 0 = .ok (.aload_n 0, 1) := by decide +kernel
theorem dX3_init_1 : decode cX3_init 1 = .ok (.invokespecial 3, 3) := by decide +kernel
theorem dX3_init_4 : decode cX3_init 4 = .ok (.aload_n 0, 1) := by decide +kernel
theorem dX3_init_5 : decode cX3_init 5 = .ok (.sipush 301, 3) := by decide +kernel
theorem dX3_init_8 : decode cX3_init 8 = .ok (.anewarray 9, 3) := by decide +kernel
theorem dX3_init_11 : decode cX3_init 11 = .ok (.putfield 11, 3) := by decide +kernel
theorem dX3_init_14 : decode cX3_init 14 = .ok (.aload_n 0, 1) := by decide +kernel
theorem dX3_init_15 : decode cX3_init 15 = .ok (.sipush 301, 3) := by decide +kernel
theorem dX3_init_18 : decode cX3_init 18 = .ok (.newarray .int, 2) := by decide +kernel
theorem dX3_init_20 : decode cX3_init 20 = .ok (.putfield 15, 3) := by decide +kernel
theorem dX3_init_23 : decode cX3_init 23 = .ok (.aload_n 0, 1) := by decide +kernel
theorem dX3_init_24 : decode cX3_init 24 = .ok (.sipush 301, 3) := by decide +kernel
theorem dX3_init_27 : decode cX3_init 27 = .ok (.newarray .int, 2) := by decide +kernel
theorem dX3_init_29 : decode cX3_init 29 = .ok (.putfield 19, 3) := by decide +kernel
theorem dX3_init_32 : decode cX3_init 32 = .ok (.aload_n 0, 1) := by decide +kernel
theorem dX3_init_33 : decode cX3_init 33 = .ok (.new 22, 3) := by decide +kernel
theorem dX3_init_36 : decode cX3_init 36 = .ok (.dup, 1) := by decide +kernel
theorem dX3_init_37 : decode cX3_init 37 = .ok (.iconst 0, 1) := by decide +kernel
theorem dX3_init_38 : decode cX3_init 38 = .ok (.bipush 16, 2) := by decide +kernel
theorem dX3_init_40 : decode cX3_init 40 = .ok (.bipush 100, 2) := by decide +kernel
theorem dX3_init_42 : decode cX3_init 42 = .ok (.invokespecial 24, 3) := by decide +kernel
theorem dX3_init_45 : decode cX3_init 45 = .ok (.putfield 27, 3) := by decide +kernel
theorem dX3_init_48 : decode cX3_init 48 = .ok (.return_, 1) := by decide +kernel
theorem dX4_init_0 : decode cX4_init 0 = .ok (.aload_n 0, 1) := by decide +kernel
theorem dX4_init_1 : decode cX4_init 1 = .ok (.invokespecial 1, 3) := by decide +kernel
theorem dX4_init_4 : decode cX4_init 4 = .ok (.aload_n 0, 1) := by decide +kernel
theorem dX4_init_5 : decode cX4_init 5 = .ok (.sipush 144, 3) := by decide +kernel
theorem dX4_init_8 : decode cX4_init 8 = .ok (.newarray .int, 2) := by decide +kernel
theorem dX4_init_10 : decode cX4_init 10 = .ok (.putfield 9, 3) := by decide +kernel
theorem dX4_init_13 : decode cX4_init 13 = .ok (.iconst 0, 1) := by decide +kernel
theorem dX4_init_14 : decode cX4_init 14 = .ok (.istore_n 1, 1) := by decide +kernel
theorem dX4_init_15 : decode cX4_init 15 = .ok (.iload_n 1, 1) := by decide +kernel
theorem dX4_init_16 : decode cX4_init 16 = .ok (.aload_n 0, 1) := by decide +kernel
theorem dX4_init_17 : decode cX4_init 17 = .ok (.getfield 9, 3) := by decide +kernel
theorem dX4_init_20 : decode cX4_init 20 = .ok (.arraylength, 1) := by decide +kernel
theorem dX4_init_21 : decode cX4_init 21 = .ok (.if_icmp .ge 32, 3) := by decide +kernel
theorem dX4_init_24 : decode cX4_init 24 = .ok (.aload_n 0, 1) := by decide +kernel
theorem dX4_init_25 : decode cX4_init 25 = .ok (.getfield 9, 3) := by decide +kernel
theorem dX4_init_28 : decode cX4_init 28 = .ok (.iload_n 1, 1) := by decide +kernel
theorem dX4_init_29 : decode cX4_init 29 = .ok (.iload_n 1, 1) := by decide +kernel
theorem dX4_init_30 : decode cX4_init 30 = .ok (.bipush 12, 2) := by decide +kernel
theorem dX4_init_32 : decode cX4_init 32 = .ok (.idiv, 1) := by decide +kernel
theorem dX4_init_33 : decode cX4_init 33 = .ok (.iload_n 1, 1) := by decide +kernel
theorem dX4_init_34 : decode cX4_init 34 = .ok (.bipush 12, 2) := by decide +kernel
theorem dX4_init_36 : decode cX4_init 36 = .ok (.irem, 1) := by decide +kernel
theorem dX4_init_37 : decode cX4_init 37 = .ok (.if_icmp .ne 7, 3) := by decide +kernel
theorem dX4_init_40 : decode cX4_init 40 = .ok (.iconst 0, 1) := by decide +kernel
theorem dX4_init_41 : decode cX4_init 41 = .ok (.goto 5, 3) := by decide +kernel
theorem dX4_init_44 : decode cX4_init 44 = .ok (.ldc 15, 2) := by decide +kernel
theorem dX4_init_46 : decode cX4_init 46 = .ok (.iastore, 1) := by decide +kernel
theorem dX4_init_47 : decode cX4_init 47 = .ok (.iinc 1 1, 3) := by decide +kernel
theorem dX4_init_50 : decode cX4_init 50 = .ok (.goto (-35), 3) := by decide +kernel
theorem dX4_init_53 : decode cX4_init 53 = .ok (.return_, 1) := by decide +kernel
def roadsG (k : Nat) : Int32 := if k / 12 = k % 12 then 0 else 10000000
def roadsF (i : Nat) : Nat → Int32 := fun k => if k < i then roadsG k else 0
theorem roadsF_0 : (fun _ => 0) = roadsF 0 := by funext k; simp [roadsF]
theorem my_lt {i N : Nat} {x y : Int32} (hx : x = nI i) (hy : y = nI N) (hi : i ≤ N) (c : ¬ y ≤ x) : i < N := by
  rcases Nat.lt_or_ge i N with h | h
  · exact h
  · exact absurd (by rw [hx, hy, Nat.le_antisymm h hi]; exact Int32.le_refl _) c
theorem my_ge {i N : Nat} {x y : Int32} (hx : x = nI i) (hy : y = nI N) (hN : N < 2 ^ 31) (hi : i ≤ N) (c : y ≤ x) : i = N := by
  rcases Nat.lt_or_ge i N with h | h
  · exact absurd c (by rw [hx, hy]; exact nI_ge h hN)
  · exact Nat.le_antisymm hi h
theorem my_cl {i : Nat} {x : Int32} (hx : x = nI i) (h : i < 2 ^ 31) : x.toNatClampNeg = i := by rw [hx]; exact nI_clamp h
theorem my_in {i N : Nat} {x : Int32} (hx : x = nI i) (h : i < N) (hN : N < 2 ^ 31) : vp_in x N := by rw [hx]; exact vp_in_nI h hN
theorem my_dm {i : Nat} {x d r : Int32} (hx : x = nI i) (hi : i < 144) (hd : d = x / 12) (hr : r = x - x / 12 * 12) : (d = r ↔ i / 12 = i % 12) := by
  have h1 : x / 12 = nI (i / 12) := by rw [hx]; exact pk_div (d := 12) (by omega) (by decide) (by decide)
  have h2 : x - x / 12 * 12 = nI (i % 12) := by rw [hx]; exact pk_rem (d := 12) (by omega) (by decide) (by decide)
  rw [hd, hr, h2, h1]
  exact nI_eq (by omega) (by omega)
theorem roads_s {i : Nat} {x v : Int32} {f : Nat → Int32} (hx : x = nI i) (hi : i < 144) (hf : f = roadsF i) (hv : v = roadsG i) : upd f x.toNatClampNeg v = roadsF (i + 1) := by
  rw [my_cl hx (by omega), hf, hv]
  funext k
  by_cases h : k = i
  · subst h; rw [pk_us]; simp [roadsF]
  · rw [pk_un h]; simp only [roadsF]; by_cases h2 : k < i
    · rw [if_pos h2, if_pos (by omega)]
    · rw [if_neg h2, if_neg (by omega)]
theorem roads_0 {i : Nat} {x d r : Int32} (hx : x = nI i) (hi : i < 144) (hd : d = x / 12) (hr : r = x - x / 12 * 12) (c : d = r) : (0 : Int32) = roadsG i := by
  have h := (my_dm hx hi hd hr).mp c
  rw [roadsG, if_pos h]
theorem roads_1 {i : Nat} {x d r : Int32} (hx : x = nI i) (hi : i < 144) (hd : d = x / 12) (hr : r = x - x / 12 * 12) (c : ¬ d = r) : (10000000 : Int32) = roadsG i := by
  rw [roadsG, if_neg (fun h => c ((my_dm hx hi hd hr).mpr h))]
set_option maxHeartbeats 4000000 in
set_option maxRecDepth 100000 in
theorem c_Roads_init (l : Launch) (dC : Nat → ClassId) (dI : Nat → Nat → Nat) (sz : Nat) (h0 : Nat) : Met l yX4_init (.code yX4_init cX4_init 2 none :: lw_good) ({ frames := 2, cells := 1, slots := 144, locals := 60 }) (va_Pc [.ref h0] (fun U => U.heap.size = sz ∧ va_P (dC, dI) vwCl [(h0, .inr (5, [.null, .int 0]))] U.heap ∧ va_K (dC, dI) vwCl [] U ∧ va_D (fun _ => True) [(h0, .inr (5, [.null, .int 0]))])) (va_Qv (fun (_ : Unit) => True) (fun (_ : Unit) (t : State) => ∃ (a_least : Nat), ∃ (k_least : ClassId), ∃ (fL : Nat → Int32), (∀ k, k < 144 → fL k = roadsG k) ∧ va_P (dC, dI) vwCl [(h0, .inr (5, [.ref a_least, .int 0])), (a_least, .inl (k_least, 144, .inl fL))] t.heap ∧ va_K (dC, dI) vwCl [(k_least, .int)] t ∧ va_D (va_A [(h0, .inr (5, [.null, .int 0]))] sz) [(h0, .inr (5, [.ref a_least, .int 0])), (a_least, .inl (k_least, 144, .inl fL))]) (va_A [(h0, .inr (5, [.null, .int 0]))] sz)) 1 144 (va_A [(h0, .inr (5, [.null, .int 0]))] sz) := by
  refine Met.ofW (cc := cX4_init) (maxL := 2) (ret := none) (by decide) rfl ?_
  intro p e s m args below meth c s₁ B hml hv
  obtain ⟨rfl, hsz, hP, hK, hD0⟩ := hv
  have hx := B.exec
  have hb := B.bytes
  have hr := B.returns
  have hts := atoms_spec (ws := (.code yX4_init cX4_init 2 none :: lw_good)) B.pre
  have hown : s.vm.findClass RX4 = some m.cls := findClass_of_methodNamed B.named
  have hlocks := B.notSynchronized
  have hin : meth.name = "<init>" := (name_of_methodNamed B.named B.method).1
  subst hsz
  have hD := hD0.self (sz := s.heap.size)
  generalize hAe : va_A [(h0, .inr (5, [.null, .int 0]))] s.heap.size = A at hD ⊢
  have hA : ∀ q : Nat, s.heap.size ≤ q → A q := fun q h => by rw [← hAe]; exact Or.inr h
  have hS : va_S A s.heap s.heap [] := va_S.rf
  have hP : va_P (dC, dI) vwCl [(h0, .inr (5, [.null, .int 0]))] s.heap := hP
  have hl := lv_entry ([.ref h0]) (n := 2) (Nat.le_of_ble_eq_true rfl)
  rw [lg_entry_eq]
  generalize (lg_sl ([.ref h0]) ++ List.replicate (2 - (lg_sl ([.ref h0])).length) Slot.unset).toArray = ls at hl ⊢
  have hl : lv_has ls 2 [(0, .ref h0)] := hl
  refine lv_aload_n hx hb dX4_init_0 rfl (lv_at hl 0 rfl) ?_
  refine W.objInit hx hb hown (hts (.methodLink RX4 1 objectInit) (List.mem_cons_of_mem _ kw_1_51)) (hts (.instanceMethod objectInit) (List.mem_cons_of_mem _ kw_1_38)) (hts (.code objectInit ⟨#[0xb1]⟩ 1 none) (List.mem_cons_of_mem _ kw_1_39)) rfl (by rw [hml]; exact hl.1) rfl dX4_init_1 (Nat.le_of_ble_eq_true rfl) (Nat.le_of_ble_eq_true rfl) ?_
  refine W.eq (g2 := F0 m 4 ls []) rfl ?_
  refine lv_aload_n hx hb dX4_init_4 rfl (lv_at hl 0 rfl) ?_
  refine lv_sipush (v := 144) hx hb dX4_init_5 (by decide) ?_
  refine va_newa (atype := .int) (N' := 144) (a0 := (144, .inl (fun _ => 0))) hx hb (hts (.arrayClass .int) (List.mem_cons_of_mem _ kw_1_60)) (ty := .int) rfl hK hP hD hS hA (fun _ => rfl) (by decide) (by decide) (by decide) (Nat.le_of_ble_eq_true rfl) (Nat.le_of_ble_eq_true rfl) dX4_init_8 (fun q_1 cA_1 H hK hP hD hS => ?_)
  have hP : va_P (dC, dI) vwCl [(h0, .inr (5, [.null, .int 0])), (q_1, .inl (cA_1, 144, .inl (fun _ => 0)))] H := hP
  have hD : va_D A [(h0, .inr (5, [.null, .int 0])), (q_1, .inl (cA_1, 144, .inl (fun _ => 0)))] := hD
  have hK : va_K (dC, dI) vwCl [(cA_1, .int)] s := hK
  refine W.widen (k := 1) (n := 144) (Nat.le_of_ble_eq_true rfl) (Nat.le_of_ble_eq_true rfl) ?_
  refine va_putF (D := (dC, dI)) (ci := 5) (v := .ref q_1) (ty := .array .int) (C := RX4) (T := TX4) (N := 2) hx hb hts iCX4 tyX4 tyX4_ok nmX4 hown hK hP hD hS 0 rfl rfl 0 (by decide) (hts (.fieldLink RX4 9 "WalkingTown$Roads" "least" "[I") (List.mem_cons_of_mem _ kw_1_53)) (fun _ h9 => h9) rfl hin rfl (by decide +kernel) rfl rfl (Nat.le_of_ble_eq_true rfl) dX4_init_10 (fun H locs hP hD hS => ?_)
  have hP : va_P (dC, dI) vwCl [(h0, .inr (5, [.ref q_1, .int 0])), (q_1, .inl (cA_1, 144, .inl (fun _ => 0)))] H := hP
  have hD : va_D A [(h0, .inr (5, [.ref q_1, .int 0])), (q_1, .inl (cA_1, 144, .inl (fun _ => 0)))] := hD
  refine lv_iconst (v := 0) hx hb dX4_init_13 (by decide) ?_
  refine lv_istore_n (lv' := [(1, .int 0), (0, .ref h0)]) hx hb dX4_init_14 rfl hl (by decide) rfl (fun ls hl => ?_)
  refine (show ∀ (n : Nat) (i : Nat) (x : Int32) (f : Nat → Int32) (H : Heap) (locs : List Loc) (ls : Array Slot), 144 < i + n → i ≤ 144 → x = nI i → f = roadsF i → va_K (dC, dI) vwCl [(cA_1, .int)] s → va_P (dC, dI) vwCl [(h0, .inr (5, [.ref q_1, .int 0])), (q_1, .inl (cA_1, 144, .inl f))] H → va_D A [(h0, .inr (5, [.ref q_1, .int 0])), (q_1, .inl (cA_1, 144, .inl f))] → va_S A s.heap H locs → lv_has ls 2 [(0, .ref h0), (1, .int x)] → W p l e _ s m _ below meth c H locs 1 144 _ (F0 m 15 ls []) from ?_) 145 0 0 (fun _ => 0) H _ ls (by omega) (by omega) rfl roadsF_0 hK hP hD hS (lv_sub hl [1, 0] rfl)
  intro n
  induction n with
  | zero => intro i x f H locs ls hfu hi hxi hf; exfalso; omega
  | succ n ih =>
    intro i x f H locs ls hfu hi hxi hf hK hP hD hS hl
    refine lv_iload_n hx hb dX4_init_15 rfl (lv_at hl 1 rfl) ?_
    refine lv_aload_n hx hb dX4_init_16 rfl (lv_at hl 0 rfl) ?_
    refine va_get (D := (dC, dI)) (ci := 5) (v := .ref q_1) (C := RX4) (T := TX4) (N := 2) hx hb hts iCX4 hown hK hP 0 rfl rfl 0 (by decide) (hts (.fieldLink RX4 9 "WalkingTown$Roads" "least" "[I") (List.mem_cons_of_mem _ kw_1_53)) (fun _ h9 => h9) rfl dX4_init_17 ?_
    refine va_alen hx hb hK hP 1 0 rfl rfl (v := 144) rfl dX4_init_20 ?_
    refine lv_icmp_ge (tgt := 53) hx hb dX4_init_21 (by decide) (fun c_2 => ?_) (fun c_2 => ?_)
    · skip
      have hP9 := hP.sub (ws' := [(h0, .inr (5, [.ref q_1, .int 0])), (q_1, .inl (cA_1, 144, .inl f))]) [0, 1] rfl
      have hD9 := hD.sub (ws' := [(h0, .inr (5, [.ref q_1, .int 0])), (q_1, .inl (cA_1, 144, .inl f))]) [0, 1] (by decide) rfl
      have hK9 := hK.sub (tys' := [(cA_1, .int)]) [0] rfl
      refine W.widen (k := 1) (n := 144) (Nat.le_of_ble_eq_true rfl) (Nat.le_of_ble_eq_true rfl) ?_
      exact W.vret hx hb hr (fun t ht hW => ⟨⟨(), rfl, trivial, ⟨q_1, cA_1, f, (fun k hk => by have h9 := my_ge hxi rfl (by decide) hi c_2; rw [hf, h9]; simp [roadsF, hk]), by rw [ht]; exact hP9, va_K.moved hW.alike hK9, hD9⟩⟩, hS.F ht⟩) hS.2.2 dX4_init_53
    · skip
      refine lv_aload_n hx hb dX4_init_24 rfl (lv_at hl 0 rfl) ?_
      refine va_get (D := (dC, dI)) (ci := 5) (v := .ref q_1) (C := RX4) (T := TX4) (N := 2) hx hb hts iCX4 hown hK hP 0 rfl rfl 0 (by decide) (hts (.fieldLink RX4 9 "WalkingTown$Roads" "least" "[I") (List.mem_cons_of_mem _ kw_1_53)) (fun _ h9 => h9) rfl dX4_init_25 ?_
      refine lv_iload_n hx hb dX4_init_28 rfl (lv_at hl 1 rfl) ?_
      refine lv_iload_n hx hb dX4_init_29 rfl (lv_at hl 1 rfl) ?_
      refine lv_bipush (v := 12) hx hb dX4_init_30 (by decide) ?_
      refine lv_idiv hx hb dX4_init_32 (by decide) ?_
      refine lv_topi (fun v_3 ev_3 => ?_)
      refine lv_iload_n hx hb dX4_init_33 rfl (lv_at hl 1 rfl) ?_
      refine lv_bipush (v := 12) hx hb dX4_init_34 (by decide) ?_
      refine lv_irem hx hb dX4_init_36 (by decide) ?_
      refine lv_topi (fun v_4 ev_4 => ?_)
      refine lv_icmp_ne (tgt := 44) hx hb dX4_init_37 (by decide) (fun c_5 => ?_) (fun c_5 => ?_)
      · skip
        refine lv_ldc hx hb hown (hts (.constant RX4 15 10000000) (List.mem_cons_of_mem _ kw_1_52)) dX4_init_44 ?_
        refine va_iast hx hb hK hP hD hS 1 0 rfl rfl (my_in hxi (my_lt hxi rfl hi c_2) (by decide)) dX4_init_46 (fun H locs hP hD hS => ?_)
        have hP : va_P (dC, dI) vwCl [(h0, .inr (5, [.ref q_1, .int 0])), (q_1, .inl (cA_1, 144, .inl (upd f x.toNatClampNeg 10000000)))] H := hP
        have hD : va_D A [(h0, .inr (5, [.ref q_1, .int 0])), (q_1, .inl (cA_1, 144, .inl (upd f x.toNatClampNeg 10000000)))] := hD
        obtain ⟨f_6, ef_6⟩ : ∃ z : Nat → Int32, z = (upd f x.toNatClampNeg 10000000) := ⟨_, rfl⟩
        rw [← ef_6] at hP hD
        obtain ⟨v_7, ev_7⟩ : ∃ z : Int32, z = x + 1 := ⟨_, rfl⟩
        refine lv_iinc (v := v_7) (lv' := [(1, .int v_7), (0, .ref h0)]) hx hb dX4_init_47 hl (k := 1) rfl (by rw [ev_7]; rfl) (by decide) rfl (fun ls hl => ?_)
        refine lv_goto (tgt := 15) hx hb dX4_init_50 (by decide) ?_
        exact ih (i + 1) v_7 f_6 _ _ _ (by omega) (by have := (my_lt hxi rfl hi c_2); omega) (by rw [ev_7, hxi]; exact nI_1 i) (by rw [ef_6]; exact roads_s hxi (my_lt hxi rfl hi c_2) hf (roads_1 hxi (my_lt hxi rfl hi c_2) ev_3 ev_4 c_5)) (hK.sub [0] rfl) (hP.sub [0, 1] rfl) (hD.sub [0, 1] (by decide) rfl) hS (lv_sub hl [1, 0] rfl)
      · skip
        refine lv_iconst (v := 0) hx hb dX4_init_40 (by decide) ?_
        refine lv_goto (tgt := 46) hx hb dX4_init_41 (by decide) ?_
        refine va_iast hx hb hK hP hD hS 1 0 rfl rfl (my_in hxi (my_lt hxi rfl hi c_2) (by decide)) dX4_init_46 (fun H locs hP hD hS => ?_)
        have hP : va_P (dC, dI) vwCl [(h0, .inr (5, [.ref q_1, .int 0])), (q_1, .inl (cA_1, 144, .inl (upd f x.toNatClampNeg 0)))] H := hP
        have hD : va_D A [(h0, .inr (5, [.ref q_1, .int 0])), (q_1, .inl (cA_1, 144, .inl (upd f x.toNatClampNeg 0)))] := hD
        obtain ⟨f_8, ef_8⟩ : ∃ z : Nat → Int32, z = (upd f x.toNatClampNeg 0) := ⟨_, rfl⟩
        rw [← ef_8] at hP hD
        obtain ⟨v_9, ev_9⟩ : ∃ z : Int32, z = x + 1 := ⟨_, rfl⟩
        refine lv_iinc (v := v_9) (lv' := [(1, .int v_9), (0, .ref h0)]) hx hb dX4_init_47 hl (k := 1) rfl (by rw [ev_9]; rfl) (by decide) rfl (fun ls hl => ?_)
        refine lv_goto (tgt := 15) hx hb dX4_init_50 (by decide) ?_
        exact ih (i + 1) v_9 f_8 _ _ _ (by omega) (by have := (my_lt hxi rfl hi c_2); omega) (by rw [ev_9, hxi]; exact nI_1 i) (by rw [ef_8]; exact roads_s hxi (my_lt hxi rfl hi c_2) hf (roads_0 hxi (my_lt hxi rfl hi c_2) ev_3 ev_4 c_5)) (hK.sub [0] rfl) (hP.sub [0, 1] rfl) (hD.sub [0, 1] (by decide) rfl) hS (lv_sub hl [1, 0] rfl)
set_option maxHeartbeats 4000000 in
set_option maxRecDepth 100000 in
theorem c_Reader_init (l : Launch) (dC : Nat → ClassId) (dI : Nat → Nat → Nat) (sz : Nat) (h0 : Nat) : Met l yX3_init (.code yX3_init cX3_init 1 none :: lw_good) ({ frames := 5, cells := 10, slots := 1258, locals := 120 }) (va_Pc [.ref h0] (fun U => U.heap.size = sz ∧ va_P (dC, dI) vwCl [(h0, .inr (4, [.null, .null, .null, .int 0, .int 0, .null, .int 0, .int 0, .int 0, .int 0, .int 0, .int 0]))] U.heap ∧ va_K (dC, dI) vwCl [] U ∧ va_D (fun _ => True) [(h0, .inr (4, [.null, .null, .null, .int 0, .int 0, .null, .int 0, .int 0, .int 0, .int 0, .int 0, .int 0]))] ∧ va_AO RX6 U)) (va_Qv (fun (_ : Unit) => True) (fun (_ : Unit) (t : State) => ∃ (a_tok : Nat), ∃ (k_tok : ClassId), ∃ (a_sta : Nat), ∃ (k_sta : ClassId), ∃ (a_num : Nat), ∃ (k_num : ClassId), ∃ (a_dr : Nat), ∃ (a_kinds : Nat), ∃ (k_kinds : ClassId), ∃ (a_values : Nat), ∃ (k_values : ClassId), ∃ (a_ends : Nat), ∃ (k_ends : ClassId), ∃ (a_acts : Nat), ∃ (k_acts : ClassId), ∃ (a_asked : Nat), ∃ (k_asked : ClassId), ∃ (a_numbers : Nat), ∃ (k_numbers : ClassId), va_P (dC, dI) vwCl [(h0, .inr (4, [.ref a_tok, .ref a_sta, .ref a_num, .int 0, .int 0, .ref a_dr, .int 0, .int 0, .int 0, .int 0, .int 0, .int 0])), (a_tok, .inl (k_tok, 301, .inr (.inr (.inr (.inr (fun _ => none)))))), (a_sta, .inl (k_sta, 301, .inl (fun _ => 0))), (a_num, .inl (k_num, 301, .inl (fun _ => 0))), (a_dr, .inr (1, [.int 0, .ref a_kinds, .ref a_values, .ref a_ends, .ref a_acts, .ref a_asked, .ref a_numbers])), (a_kinds, .inl (k_kinds, 16, .inl (fun _ => 0))), (a_values, .inl (k_values, 16, .inl (fun _ => 0))), (a_ends, .inl (k_ends, 16, .inl (fun _ => 0))), (a_acts, .inl (k_acts, 100, .inl (fun _ => 0))), (a_asked, .inl (k_asked, 100, .inl (fun _ => 0))), (a_numbers, .inl (k_numbers, 100, .inl (fun _ => 0)))] t.heap ∧ va_K (dC, dI) vwCl [(k_tok, .object RX6), (k_sta, .int), (k_num, .int), (k_kinds, .int), (k_values, .int), (k_ends, .int), (k_acts, .int), (k_asked, .int), (k_numbers, .int)] t ∧ va_D (va_A [(h0, .inr (4, [.null, .null, .null, .int 0, .int 0, .null, .int 0, .int 0, .int 0, .int 0, .int 0, .int 0]))] sz) [(h0, .inr (4, [.ref a_tok, .ref a_sta, .ref a_num, .int 0, .int 0, .ref a_dr, .int 0, .int 0, .int 0, .int 0, .int 0, .int 0])), (a_tok, .inl (k_tok, 301, .inr (.inr (.inr (.inr (fun _ => none)))))), (a_sta, .inl (k_sta, 301, .inl (fun _ => 0))), (a_num, .inl (k_num, 301, .inl (fun _ => 0))), (a_dr, .inr (1, [.int 0, .ref a_kinds, .ref a_values, .ref a_ends, .ref a_acts, .ref a_asked, .ref a_numbers])), (a_kinds, .inl (k_kinds, 16, .inl (fun _ => 0))), (a_values, .inl (k_values, 16, .inl (fun _ => 0))), (a_ends, .inl (k_ends, 16, .inl (fun _ => 0))), (a_acts, .inl (k_acts, 100, .inl (fun _ => 0))), (a_asked, .inl (k_asked, 100, .inl (fun _ => 0))), (a_numbers, .inl (k_numbers, 100, .inl (fun _ => 0)))]) (va_A [(h0, .inr (4, [.null, .null, .null, .int 0, .int 0, .null, .int 0, .int 0, .int 0, .int 0, .int 0, .int 0]))] sz)) 10 1258 (va_A [(h0, .inr (4, [.null, .null, .null, .int 0, .int 0, .null, .int 0, .int 0, .int 0, .int 0, .int 0, .int 0]))] sz) := by
  refine Met.ofW (cc := cX3_init) (maxL := 1) (ret := none) (by decide) rfl ?_
  intro p e s m args below meth c s₁ B hml hv
  obtain ⟨rfl, hsz, hP, hK, hD0, hAO_T⟩ := hv
  have hx := B.exec
  have hb := B.bytes
  have hr := B.returns
  have hts := atoms_spec (ws := (.code yX3_init cX3_init 1 none :: lw_good)) B.pre
  have hown : s.vm.findClass RX3 = some m.cls := findClass_of_methodNamed B.named
  have hlocks := B.notSynchronized
  have hin : meth.name = "<init>" := (name_of_methodNamed B.named B.method).1
  subst hsz
  have hD := hD0.self (sz := s.heap.size)
  generalize hAe : va_A [(h0, .inr (4, [.null, .null, .null, .int 0, .int 0, .null, .int 0, .int 0, .int 0, .int 0, .int 0, .int 0]))] s.heap.size = A at hD ⊢
  have hA : ∀ q : Nat, s.heap.size ≤ q → A q := fun q h => by rw [← hAe]; exact Or.inr h
  have hS : va_S A s.heap s.heap [] := va_S.rf
  have hP : va_P (dC, dI) vwCl [(h0, .inr (4, [.null, .null, .null, .int 0, .int 0, .null, .int 0, .int 0, .int 0, .int 0, .int 0, .int 0]))] s.heap := hP
  have hl := lv_entry ([.ref h0]) (n := 1) (Nat.le_of_ble_eq_true rfl)
  rw [lg_entry_eq]
  generalize (lg_sl ([.ref h0]) ++ List.replicate (1 - (lg_sl ([.ref h0])).length) Slot.unset).toArray = ls at hl ⊢
  have hl : lv_has ls 1 [(0, .ref h0)] := hl
  refine lv_aload_n hx hb dX3_init_0 rfl (lv_at hl 0 rfl) ?_
  refine W.objInit hx hb hown (hts (.methodLink RX3 3 objectInit) (List.mem_cons_of_mem _ kw_2_136)) (hts (.instanceMethod objectInit) (List.mem_cons_of_mem _ kw_1_38)) (hts (.code objectInit ⟨#[0xb1]⟩ 1 none) (List.mem_cons_of_mem _ kw_1_39)) rfl (by rw [hml]; exact hl.1) rfl dX3_init_1 (Nat.le_of_ble_eq_true rfl) (Nat.le_of_ble_eq_true rfl) ?_
  refine W.eq (g2 := F0 m 4 ls []) rfl ?_
  refine lv_aload_n hx hb dX3_init_4 rfl (lv_at hl 0 rfl) ?_
  refine lv_sipush (v := 301) hx hb dX3_init_5 (by decide) ?_
  refine va_newq (N' := 301) hx hb hown (hts (.classLink RX3 9 RX6) (List.mem_cons_of_mem _ kw_2_137)) hAO_T hK hP hD hS hA (by decide) (by decide) (by decide) (Nat.le_of_ble_eq_true rfl) (Nat.le_of_ble_eq_true rfl) dX3_init_8 (fun q_1 cA_1 H hK hP hD hS => ?_)
  have hP : va_P (dC, dI) vwCl [(h0, .inr (4, [.null, .null, .null, .int 0, .int 0, .null, .int 0, .int 0, .int 0, .int 0, .int 0, .int 0])), (q_1, .inl (cA_1, 301, .inr (.inr (.inr (.inr (fun _ => none))))))] H := hP
  have hD : va_D A [(h0, .inr (4, [.null, .null, .null, .int 0, .int 0, .null, .int 0, .int 0, .int 0, .int 0, .int 0, .int 0])), (q_1, .inl (cA_1, 301, .inr (.inr (.inr (.inr (fun _ => none))))))] := hD
  have hK : va_K (dC, dI) vwCl [(cA_1, .object RX6)] s := hK
  refine W.widen (k := 1) (n := 301) (Nat.le_of_ble_eq_true rfl) (Nat.le_of_ble_eq_true rfl) ?_
  refine va_putF (D := (dC, dI)) (ci := 4) (v := .ref q_1) (ty := .array (.object "WalkingTown$Token")) (C := RX3) (T := TX3) (N := 12) hx hb hts iCX3 tyX3 tyX3_ok nmX3 hown hK hP hD hS 0 rfl rfl 0 (by decide) (hts (.fieldLink RX3 11 "WalkingTown$Reader" "tokens" "[LWalkingTown$Token;") (List.mem_cons_of_mem _ kw_2_141)) (fun _ h9 => h9) rfl hin rfl (by decide +kernel) rfl rfl (Nat.le_of_ble_eq_true rfl) dX3_init_11 (fun H locs hP hD hS => ?_)
  have hP : va_P (dC, dI) vwCl [(h0, .inr (4, [.ref q_1, .null, .null, .int 0, .int 0, .null, .int 0, .int 0, .int 0, .int 0, .int 0, .int 0])), (q_1, .inl (cA_1, 301, .inr (.inr (.inr (.inr (fun _ => none))))))] H := hP
  have hD : va_D A [(h0, .inr (4, [.ref q_1, .null, .null, .int 0, .int 0, .null, .int 0, .int 0, .int 0, .int 0, .int 0, .int 0])), (q_1, .inl (cA_1, 301, .inr (.inr (.inr (.inr (fun _ => none))))))] := hD
  refine lv_aload_n hx hb dX3_init_14 rfl (lv_at hl 0 rfl) ?_
  refine lv_sipush (v := 301) hx hb dX3_init_15 (by decide) ?_
  refine va_newa (atype := .int) (N' := 301) (a0 := (301, .inl (fun _ => 0))) hx hb (hts (.arrayClass .int) (List.mem_cons_of_mem _ kw_1_60)) (ty := .int) rfl hK hP hD hS hA (fun _ => rfl) (by decide) (by decide) (by decide) (Nat.le_of_ble_eq_true rfl) (Nat.le_of_ble_eq_true rfl) dX3_init_18 (fun q_2 cA_2 H hK hP hD hS => ?_)
  have hP : va_P (dC, dI) vwCl [(h0, .inr (4, [.ref q_1, .null, .null, .int 0, .int 0, .null, .int 0, .int 0, .int 0, .int 0, .int 0, .int 0])), (q_1, .inl (cA_1, 301, .inr (.inr (.inr (.inr (fun _ => none)))))), (q_2, .inl (cA_2, 301, .inl (fun _ => 0)))] H := hP
  have hD : va_D A [(h0, .inr (4, [.ref q_1, .null, .null, .int 0, .int 0, .null, .int 0, .int 0, .int 0, .int 0, .int 0, .int 0])), (q_1, .inl (cA_1, 301, .inr (.inr (.inr (.inr (fun _ => none)))))), (q_2, .inl (cA_2, 301, .inl (fun _ => 0)))] := hD
  have hK : va_K (dC, dI) vwCl [(cA_1, .object RX6), (cA_2, .int)] s := hK
  refine W.widen (k := 2) (n := 602) (Nat.le_of_ble_eq_true rfl) (Nat.le_of_ble_eq_true rfl) ?_
  refine va_putF (D := (dC, dI)) (ci := 4) (v := .ref q_2) (ty := .array .int) (C := RX3) (T := TX3) (N := 12) hx hb hts iCX3 tyX3 tyX3_ok nmX3 hown hK hP hD hS 0 rfl rfl 1 (by decide) (hts (.fieldLink RX3 15 "WalkingTown$Reader" "starts" "[I") (List.mem_cons_of_mem _ kw_2_142)) (fun _ h9 => h9) rfl hin rfl (by decide +kernel) rfl rfl (Nat.le_of_ble_eq_true rfl) dX3_init_20 (fun H locs hP hD hS => ?_)
  have hP : va_P (dC, dI) vwCl [(h0, .inr (4, [.ref q_1, .ref q_2, .null, .int 0, .int 0, .null, .int 0, .int 0, .int 0, .int 0, .int 0, .int 0])), (q_1, .inl (cA_1, 301, .inr (.inr (.inr (.inr (fun _ => none)))))), (q_2, .inl (cA_2, 301, .inl (fun _ => 0)))] H := hP
  have hD : va_D A [(h0, .inr (4, [.ref q_1, .ref q_2, .null, .int 0, .int 0, .null, .int 0, .int 0, .int 0, .int 0, .int 0, .int 0])), (q_1, .inl (cA_1, 301, .inr (.inr (.inr (.inr (fun _ => none)))))), (q_2, .inl (cA_2, 301, .inl (fun _ => 0)))] := hD
  refine lv_aload_n hx hb dX3_init_23 rfl (lv_at hl 0 rfl) ?_
  refine lv_sipush (v := 301) hx hb dX3_init_24 (by decide) ?_
  refine va_newa (atype := .int) (N' := 301) (a0 := (301, .inl (fun _ => 0))) hx hb (hts (.arrayClass .int) (List.mem_cons_of_mem _ kw_1_60)) (ty := .int) rfl hK hP hD hS hA (fun _ => rfl) (by decide) (by decide) (by decide) (Nat.le_of_ble_eq_true rfl) (Nat.le_of_ble_eq_true rfl) dX3_init_27 (fun q_3 cA_3 H hK hP hD hS => ?_)
  have hP : va_P (dC, dI) vwCl [(h0, .inr (4, [.ref q_1, .ref q_2, .null, .int 0, .int 0, .null, .int 0, .int 0, .int 0, .int 0, .int 0, .int 0])), (q_1, .inl (cA_1, 301, .inr (.inr (.inr (.inr (fun _ => none)))))), (q_2, .inl (cA_2, 301, .inl (fun _ => 0))), (q_3, .inl (cA_3, 301, .inl (fun _ => 0)))] H := hP
  have hD : va_D A [(h0, .inr (4, [.ref q_1, .ref q_2, .null, .int 0, .int 0, .null, .int 0, .int 0, .int 0, .int 0, .int 0, .int 0])), (q_1, .inl (cA_1, 301, .inr (.inr (.inr (.inr (fun _ => none)))))), (q_2, .inl (cA_2, 301, .inl (fun _ => 0))), (q_3, .inl (cA_3, 301, .inl (fun _ => 0)))] := hD
  have hK : va_K (dC, dI) vwCl [(cA_1, .object RX6), (cA_2, .int), (cA_3, .int)] s := hK
  refine W.widen (k := 3) (n := 903) (Nat.le_of_ble_eq_true rfl) (Nat.le_of_ble_eq_true rfl) ?_
  refine va_putF (D := (dC, dI)) (ci := 4) (v := .ref q_3) (ty := .array .int) (C := RX3) (T := TX3) (N := 12) hx hb hts iCX3 tyX3 tyX3_ok nmX3 hown hK hP hD hS 0 rfl rfl 2 (by decide) (hts (.fieldLink RX3 19 "WalkingTown$Reader" "numbers" "[I") (List.mem_cons_of_mem _ kw_2_143)) (fun _ h9 => h9) rfl hin rfl (by decide +kernel) rfl rfl (Nat.le_of_ble_eq_true rfl) dX3_init_29 (fun H locs hP hD hS => ?_)
  have hP : va_P (dC, dI) vwCl [(h0, .inr (4, [.ref q_1, .ref q_2, .ref q_3, .int 0, .int 0, .null, .int 0, .int 0, .int 0, .int 0, .int 0, .int 0])), (q_1, .inl (cA_1, 301, .inr (.inr (.inr (.inr (fun _ => none)))))), (q_2, .inl (cA_2, 301, .inl (fun _ => 0))), (q_3, .inl (cA_3, 301, .inl (fun _ => 0)))] H := hP
  have hD : va_D A [(h0, .inr (4, [.ref q_1, .ref q_2, .ref q_3, .int 0, .int 0, .null, .int 0, .int 0, .int 0, .int 0, .int 0, .int 0])), (q_1, .inl (cA_1, 301, .inr (.inr (.inr (.inr (fun _ => none)))))), (q_2, .inl (cA_2, 301, .inl (fun _ => 0))), (q_3, .inl (cA_3, 301, .inl (fun _ => 0)))] := hD
  refine lv_aload_n hx hb dX3_init_32 rfl (lv_at hl 0 rfl) ?_
  refine va_new (ci := 1) (fs := [.int 0, .null, .null, .null, .null, .null, .null]) (C := RX0) (T := TX0) (N := 7) hx hb hts iCX0 tyX0 tyX0_ok hown (hts (.classLink RX3 22 RX0) (List.mem_cons_of_mem _ kw_2_139)) (hts (.instantiable RX0 7) (List.mem_cons_of_mem _ kw_2_21)) (hts (.initialized RX0) (List.mem_cons_of_mem _ kw_1_10)) hK hP hD hS hA rfl (my_dfX0) (Nat.le_of_ble_eq_true rfl) (Nat.le_of_ble_eq_true rfl) dX3_init_33 (fun q_4 H hP hD hS => ?_)
  have hP : va_P (dC, dI) vwCl [(h0, .inr (4, [.ref q_1, .ref q_2, .ref q_3, .int 0, .int 0, .null, .int 0, .int 0, .int 0, .int 0, .int 0, .int 0])), (q_1, .inl (cA_1, 301, .inr (.inr (.inr (.inr (fun _ => none)))))), (q_2, .inl (cA_2, 301, .inl (fun _ => 0))), (q_3, .inl (cA_3, 301, .inl (fun _ => 0))), (q_4, .inr (1, [.int 0, .null, .null, .null, .null, .null, .null]))] H := hP
  have hD : va_D A [(h0, .inr (4, [.ref q_1, .ref q_2, .ref q_3, .int 0, .int 0, .null, .int 0, .int 0, .int 0, .int 0, .int 0, .int 0])), (q_1, .inl (cA_1, 301, .inr (.inr (.inr (.inr (fun _ => none)))))), (q_2, .inl (cA_2, 301, .inl (fun _ => 0))), (q_3, .inl (cA_3, 301, .inl (fun _ => 0))), (q_4, .inr (1, [.int 0, .null, .null, .null, .null, .null, .null]))] := hD
  refine W.widen (k := 4) (n := 910) (Nat.le_of_ble_eq_true rfl) (Nat.le_of_ble_eq_true rfl) ?_
  refine lv_dup hx hb dX3_init_36 rfl ?_
  refine lv_iconst (v := 0) hx hb dX3_init_37 (by decide) ?_
  refine lv_bipush (v := 16) hx hb dX3_init_38 (by decide) ?_
  refine lv_bipush (v := 100) hx hb dX3_init_40 (by decide) ?_
  have hPc := hP.sub (ws' := [(q_4, .inr (1, [.int 0, .null, .null, .null, .null, .null, .null]))]) [4] rfl
  have hDc := hD.sub (ws' := [(q_4, .inr (1, [.int 0, .null, .null, .null, .null, .null, .null]))]) [4] (by decide) rfl
  have hKc := hK.sub (tys' := []) [] rfl
  have hFc := va_free (wc := [(q_4, .inr (1, [.int 0, .null, .null, .null, .null, .null, .null]))]) hD hS hA [4] rfl
  refine va_callv (va_runI (As := [.int 0, .int 16, .int 100]) (rest := [.ref q_4, .ref h0]) ⟨hx, hb, hml, hown, hts⟩ (c_Law_init_b l dC dI H.size q_4) (cwI 3 hts (gG kw_2_24) rfl rfl rfl (hts (.initialized RX0) (List.mem_cons_of_mem _ kw_1_10)) (hts (.methodLink RX3 24 yX0_init) (List.mem_cons_of_mem _ kw_2_140)) (hts (.instanceMethod yX0_init) (List.mem_cons_of_mem _ kw_2_23)) rfl (by decide +kernel) ⟨Nat.le_of_ble_eq_true rfl, Nat.le_of_ble_eq_true rfl⟩) ⟨fun a U g mk q => by obtain ⟨q0, q1, qP, qK, qD⟩ := q; exact ⟨q0, q1, qP, va_K.moved (u := U) (U := U.calling g mk a) (Vm.Alike.refl U.vm) qK, qD⟩, fun U hU hW => ⟨rfl, by rw [hU], by rw [hU]; exact hPc, va_K.moved hW.alike hKc, hDc.weaken (fun _ _ _ _ => trivial)⟩⟩ rfl rfl hl.1 rfl (lv_room (Nat.le_of_ble_eq_true rfl)) dX3_init_42 ⟨Nat.le_of_ble_eq_true rfl, Nat.le_of_ble_eq_true rfl⟩) hS (fun q _ h => hFc q h) hFc (fun u t H1 locs ht hvm hw hB hz1 hk1 hS => ?_)
  obtain ⟨a_kinds_6, k_kinds_7, a_values_8, k_values_9, a_ends_10, k_ends_11, a_acts_12, k_acts_13, a_asked_14, k_asked_15, a_numbers_16, k_numbers_17, hP1, hK1, hD1⟩ := hB
  rw [ht] at hP1
  have hK1 := va_K.moved hvm.symm hK1
  obtain ⟨hP, hD⟩ := va_join (wr := [(h0, .inr (4, [.ref q_1, .ref q_2, .ref q_3, .int 0, .int 0, .null, .int 0, .int 0, .int 0, .int 0, .int 0, .int 0])), (q_1, .inl (cA_1, 301, .inr (.inr (.inr (.inr (fun _ => none)))))), (q_2, .inl (cA_2, 301, .inl (fun _ => 0))), (q_3, .inl (cA_3, 301, .inl (fun _ => 0)))]) (w1 := [(q_4, .inr (1, [.int 0, .ref a_kinds_6, .ref a_values_8, .ref a_ends_10, .ref a_acts_12, .ref a_asked_14, .ref a_numbers_16])), (a_kinds_6, .inl (k_kinds_7, 16, .inl (fun _ => 0))), (a_values_8, .inl (k_values_9, 16, .inl (fun _ => 0))), (a_ends_10, .inl (k_ends_11, 16, .inl (fun _ => 0))), (a_acts_12, .inl (k_acts_13, 100, .inl (fun _ => 0))), (a_asked_14, .inl (k_asked_15, 100, .inl (fun _ => 0))), (a_numbers_16, .inl (k_numbers_17, 100, .inl (fun _ => 0)))]) hP hD [4] [0, 1, 2, 3] rfl rfl (by decide) (by decide) hk1 hFc hP1 hD1
  have hK := (hK.sub (tys' := [(cA_1, .object RX6), (cA_2, .int), (cA_3, .int)]) [0, 1, 2] rfl).app hK1
  generalize H1 = H at hP hS ⊢
  have hP : va_P (dC, dI) vwCl [(h0, .inr (4, [.ref q_1, .ref q_2, .ref q_3, .int 0, .int 0, .null, .int 0, .int 0, .int 0, .int 0, .int 0, .int 0])), (q_1, .inl (cA_1, 301, .inr (.inr (.inr (.inr (fun _ => none)))))), (q_2, .inl (cA_2, 301, .inl (fun _ => 0))), (q_3, .inl (cA_3, 301, .inl (fun _ => 0))), (q_4, .inr (1, [.int 0, .ref a_kinds_6, .ref a_values_8, .ref a_ends_10, .ref a_acts_12, .ref a_asked_14, .ref a_numbers_16])), (a_kinds_6, .inl (k_kinds_7, 16, .inl (fun _ => 0))), (a_values_8, .inl (k_values_9, 16, .inl (fun _ => 0))), (a_ends_10, .inl (k_ends_11, 16, .inl (fun _ => 0))), (a_acts_12, .inl (k_acts_13, 100, .inl (fun _ => 0))), (a_asked_14, .inl (k_asked_15, 100, .inl (fun _ => 0))), (a_numbers_16, .inl (k_numbers_17, 100, .inl (fun _ => 0)))] H := hP
  have hD : va_D A [(h0, .inr (4, [.ref q_1, .ref q_2, .ref q_3, .int 0, .int 0, .null, .int 0, .int 0, .int 0, .int 0, .int 0, .int 0])), (q_1, .inl (cA_1, 301, .inr (.inr (.inr (.inr (fun _ => none)))))), (q_2, .inl (cA_2, 301, .inl (fun _ => 0))), (q_3, .inl (cA_3, 301, .inl (fun _ => 0))), (q_4, .inr (1, [.int 0, .ref a_kinds_6, .ref a_values_8, .ref a_ends_10, .ref a_acts_12, .ref a_asked_14, .ref a_numbers_16])), (a_kinds_6, .inl (k_kinds_7, 16, .inl (fun _ => 0))), (a_values_8, .inl (k_values_9, 16, .inl (fun _ => 0))), (a_ends_10, .inl (k_ends_11, 16, .inl (fun _ => 0))), (a_acts_12, .inl (k_acts_13, 100, .inl (fun _ => 0))), (a_asked_14, .inl (k_asked_15, 100, .inl (fun _ => 0))), (a_numbers_16, .inl (k_numbers_17, 100, .inl (fun _ => 0)))] := hD
  have hK : va_K (dC, dI) vwCl [(cA_1, .object RX6), (cA_2, .int), (cA_3, .int), (k_kinds_7, .int), (k_values_9, .int), (k_ends_11, .int), (k_acts_13, .int), (k_asked_15, .int), (k_numbers_17, .int)] s := hK
  refine W.widen (k := 10) (n := 1258) (Nat.le_of_ble_eq_true rfl) (Nat.le_of_ble_eq_true rfl) ?_
  refine va_putF (D := (dC, dI)) (ci := 4) (v := .ref q_4) (ty := .object "WalkingTown$Law") (C := RX3) (T := TX3) (N := 12) hx hb hts iCX3 tyX3 tyX3_ok nmX3 hown hK hP hD hS 0 rfl rfl 5 (by decide) (hts (.fieldLink RX3 27 "WalkingTown$Reader" "draft" "LWalkingTown$Law;") (List.mem_cons_of_mem _ kw_2_146)) (fun _ h9 => h9) rfl hin rfl (by decide +kernel) rfl rfl (Nat.le_of_ble_eq_true rfl) dX3_init_45 (fun H locs hP hD hS => ?_)
  have hP : va_P (dC, dI) vwCl [(h0, .inr (4, [.ref q_1, .ref q_2, .ref q_3, .int 0, .int 0, .ref q_4, .int 0, .int 0, .int 0, .int 0, .int 0, .int 0])), (q_1, .inl (cA_1, 301, .inr (.inr (.inr (.inr (fun _ => none)))))), (q_2, .inl (cA_2, 301, .inl (fun _ => 0))), (q_3, .inl (cA_3, 301, .inl (fun _ => 0))), (q_4, .inr (1, [.int 0, .ref a_kinds_6, .ref a_values_8, .ref a_ends_10, .ref a_acts_12, .ref a_asked_14, .ref a_numbers_16])), (a_kinds_6, .inl (k_kinds_7, 16, .inl (fun _ => 0))), (a_values_8, .inl (k_values_9, 16, .inl (fun _ => 0))), (a_ends_10, .inl (k_ends_11, 16, .inl (fun _ => 0))), (a_acts_12, .inl (k_acts_13, 100, .inl (fun _ => 0))), (a_asked_14, .inl (k_asked_15, 100, .inl (fun _ => 0))), (a_numbers_16, .inl (k_numbers_17, 100, .inl (fun _ => 0)))] H := hP
  have hD : va_D A [(h0, .inr (4, [.ref q_1, .ref q_2, .ref q_3, .int 0, .int 0, .ref q_4, .int 0, .int 0, .int 0, .int 0, .int 0, .int 0])), (q_1, .inl (cA_1, 301, .inr (.inr (.inr (.inr (fun _ => none)))))), (q_2, .inl (cA_2, 301, .inl (fun _ => 0))), (q_3, .inl (cA_3, 301, .inl (fun _ => 0))), (q_4, .inr (1, [.int 0, .ref a_kinds_6, .ref a_values_8, .ref a_ends_10, .ref a_acts_12, .ref a_asked_14, .ref a_numbers_16])), (a_kinds_6, .inl (k_kinds_7, 16, .inl (fun _ => 0))), (a_values_8, .inl (k_values_9, 16, .inl (fun _ => 0))), (a_ends_10, .inl (k_ends_11, 16, .inl (fun _ => 0))), (a_acts_12, .inl (k_acts_13, 100, .inl (fun _ => 0))), (a_asked_14, .inl (k_asked_15, 100, .inl (fun _ => 0))), (a_numbers_16, .inl (k_numbers_17, 100, .inl (fun _ => 0)))] := hD
  have hP9 := hP.sub (ws' := [(h0, .inr (4, [.ref q_1, .ref q_2, .ref q_3, .int 0, .int 0, .ref q_4, .int 0, .int 0, .int 0, .int 0, .int 0, .int 0])), (q_1, .inl (cA_1, 301, .inr (.inr (.inr (.inr (fun _ => none)))))), (q_2, .inl (cA_2, 301, .inl (fun _ => 0))), (q_3, .inl (cA_3, 301, .inl (fun _ => 0))), (q_4, .inr (1, [.int 0, .ref a_kinds_6, .ref a_values_8, .ref a_ends_10, .ref a_acts_12, .ref a_asked_14, .ref a_numbers_16])), (a_kinds_6, .inl (k_kinds_7, 16, .inl (fun _ => 0))), (a_values_8, .inl (k_values_9, 16, .inl (fun _ => 0))), (a_ends_10, .inl (k_ends_11, 16, .inl (fun _ => 0))), (a_acts_12, .inl (k_acts_13, 100, .inl (fun _ => 0))), (a_asked_14, .inl (k_asked_15, 100, .inl (fun _ => 0))), (a_numbers_16, .inl (k_numbers_17, 100, .inl (fun _ => 0)))]) [0, 1, 2, 3, 4, 5, 6, 7, 8, 9, 10] rfl
  have hD9 := hD.sub (ws' := [(h0, .inr (4, [.ref q_1, .ref q_2, .ref q_3, .int 0, .int 0, .ref q_4, .int 0, .int 0, .int 0, .int 0, .int 0, .int 0])), (q_1, .inl (cA_1, 301, .inr (.inr (.inr (.inr (fun _ => none)))))), (q_2, .inl (cA_2, 301, .inl (fun _ => 0))), (q_3, .inl (cA_3, 301, .inl (fun _ => 0))), (q_4, .inr (1, [.int 0, .ref a_kinds_6, .ref a_values_8, .ref a_ends_10, .ref a_acts_12, .ref a_asked_14, .ref a_numbers_16])), (a_kinds_6, .inl (k_kinds_7, 16, .inl (fun _ => 0))), (a_values_8, .inl (k_values_9, 16, .inl (fun _ => 0))), (a_ends_10, .inl (k_ends_11, 16, .inl (fun _ => 0))), (a_acts_12, .inl (k_acts_13, 100, .inl (fun _ => 0))), (a_asked_14, .inl (k_asked_15, 100, .inl (fun _ => 0))), (a_numbers_16, .inl (k_numbers_17, 100, .inl (fun _ => 0)))]) [0, 1, 2, 3, 4, 5, 6, 7, 8, 9, 10] (by decide) rfl
  have hK9 := hK.sub (tys' := [(cA_1, .object RX6), (cA_2, .int), (cA_3, .int), (k_kinds_7, .int), (k_values_9, .int), (k_ends_11, .int), (k_acts_13, .int), (k_asked_15, .int), (k_numbers_17, .int)]) [0, 1, 2, 3, 4, 5, 6, 7, 8] rfl
  refine W.widen (k := 10) (n := 1258) (Nat.le_of_ble_eq_true rfl) (Nat.le_of_ble_eq_true rfl) ?_
  exact W.vret hx hb hr (fun t ht hW => ⟨⟨(), rfl, trivial, ⟨q_1, cA_1, q_2, cA_2, q_3, cA_3, q_4, a_kinds_6, k_kinds_7, a_values_8, k_values_9, a_ends_10, k_ends_11, a_acts_12, k_acts_13, a_asked_14, k_asked_15, a_numbers_16, k_numbers_17, by rw [ht]; exact hP9, va_K.moved hW.alike hK9, hD9⟩⟩, hS.F ht⟩) hS.2.2 dX3_init_48
set_option maxHeartbeats 4000000 in
set_option maxRecDepth 100000 in
theorem c_AC_init (l : Launch) (dC : Nat → ClassId) (dI : Nat → Nat → Nat) (sz : Nat) (h0 : Nat) : Met l yJxa1e45_init_da8c8 (.code yJxa1e45_init_da8c8 cJxa1e45_init_da8c8 1 none :: lw_good) ({ frames := 2, cells := 0, slots := 0, locals := 60 }) (va_Pc [.ref h0] (fun U => U.heap.size = sz ∧ va_P (dC, dI) vwCl [] U.heap ∧ va_K (dC, dI) vwCl [] U ∧ va_D (fun _ => True) [])) (va_Qv (fun (_ : Unit) => True) (fun (_ : Unit) (_ : State) => True) (va_A [] sz)) 0 0 (va_A [] sz) := by
  refine Met.ofW (cc := cJxa1e45_init_da8c8) (maxL := 1) (ret := none) (by decide) rfl ?_
  intro p e s m args below meth c s₁ B hml hv
  obtain ⟨rfl, hsz, hP, hK, hD0⟩ := hv
  have hx := B.exec
  have hb := B.bytes
  have hr := B.returns
  have hts := atoms_spec (ws := (.code yJxa1e45_init_da8c8 cJxa1e45_init_da8c8 1 none :: lw_good)) B.pre
  have hown : s.vm.findClass RJxa1e45 = some m.cls := findClass_of_methodNamed B.named
  have hlocks := B.notSynchronized
  have hin : meth.name = "<init>" := (name_of_methodNamed B.named B.method).1
  subst hsz
  have hD := hD0.self (sz := s.heap.size)
  generalize hAe : va_A [] s.heap.size = A at hD ⊢
  have hA : ∀ q : Nat, s.heap.size ≤ q → A q := fun q h => by rw [← hAe]; exact Or.inr h
  have hS : va_S A s.heap s.heap [] := va_S.rf
  have hP : va_P (dC, dI) vwCl [] s.heap := hP
  have hl := lv_entry ([.ref h0]) (n := 1) (Nat.le_of_ble_eq_true rfl)
  rw [lg_entry_eq]
  generalize (lg_sl ([.ref h0]) ++ List.replicate (1 - (lg_sl ([.ref h0])).length) Slot.unset).toArray = ls at hl ⊢
  have hl : lv_has ls 1 [(0, .ref h0)] := hl
  refine lv_aload_n hx hb dJxa1e45_init_da8c8_0 rfl (lv_at hl 0 rfl) ?_
  refine W.objInit hx hb hown (hts (.methodLink RJxa1e45 1 objectInit) (List.mem_cons_of_mem _ kw_2_5)) (hts (.instanceMethod objectInit) (List.mem_cons_of_mem _ kw_1_38)) (hts (.code objectInit ⟨#[0xb1]⟩ 1 none) (List.mem_cons_of_mem _ kw_1_39)) rfl (by rw [hml]; exact hl.1) rfl dJxa1e45_init_da8c8_1 (Nat.le_of_ble_eq_true rfl) (Nat.le_of_ble_eq_true rfl) ?_
  refine W.eq (g2 := F0 m 4 ls []) rfl ?_
  refine W.widen (k := 0) (n := 0) (Nat.le_of_ble_eq_true rfl) (Nat.le_of_ble_eq_true rfl) ?_
  exact W.vret hx hb hr (fun t ht hW => ⟨⟨(), rfl, trivial, trivial⟩, hS.F ht⟩) hS.2.2 dJxa1e45_init_da8c8_4
set_option maxHeartbeats 4000000 in
set_option maxRecDepth 100000 in
theorem c_AL_init (l : Launch) (dC : Nat → ClassId) (dI : Nat → Nat → Nat) (sz : Nat) (h0 : Nat) : Met l yJxc12de_init_da8c8 (.code yJxc12de_init_da8c8 cJxc12de_init_da8c8 1 none :: lw_good) ({ frames := 4, cells := 0, slots := 0, locals := 120 }) (va_Pc [.ref h0] (fun U => U.heap.size = sz ∧ va_P (dC, dI) vwCl [(h0, .inr (0, [.int 0, .null, .int 0]))] U.heap ∧ va_K (dC, dI) vwCl [] U ∧ va_D (fun _ => True) [(h0, .inr (0, [.int 0, .null, .int 0]))])) (va_Qv (fun (_ : Unit) => True) (fun (_ : Unit) (t : State) => va_P (dC, dI) vwCl [(h0, .inr (0, [.int 0, .null, .int 0]))] t.heap ∧ va_K (dC, dI) vwCl [] t ∧ va_D (va_A [(h0, .inr (0, [.int 0, .null, .int 0]))] sz) [(h0, .inr (0, [.int 0, .null, .int 0]))]) (va_A [(h0, .inr (0, [.int 0, .null, .int 0]))] sz)) 0 0 (va_A [(h0, .inr (0, [.int 0, .null, .int 0]))] sz) := by
  refine Met.ofW (cc := cJxc12de_init_da8c8) (maxL := 1) (ret := none) (by decide) rfl ?_
  intro p e s m args below meth c s₁ B hml hv
  obtain ⟨rfl, hsz, hP, hK, hD0⟩ := hv
  have hx := B.exec
  have hb := B.bytes
  have hr := B.returns
  have hts := atoms_spec (ws := (.code yJxc12de_init_da8c8 cJxc12de_init_da8c8 1 none :: lw_good)) B.pre
  have hown : s.vm.findClass RJxc12de = some m.cls := findClass_of_methodNamed B.named
  have hlocks := B.notSynchronized
  have hin : meth.name = "<init>" := (name_of_methodNamed B.named B.method).1
  subst hsz
  have hD := hD0.self (sz := s.heap.size)
  generalize hAe : va_A [(h0, .inr (0, [.int 0, .null, .int 0]))] s.heap.size = A at hD ⊢
  have hA : ∀ q : Nat, s.heap.size ≤ q → A q := fun q h => by rw [← hAe]; exact Or.inr h
  have hS : va_S A s.heap s.heap [] := va_S.rf
  have hP : va_P (dC, dI) vwCl [(h0, .inr (0, [.int 0, .null, .int 0]))] s.heap := hP
  have hl := lv_entry ([.ref h0]) (n := 1) (Nat.le_of_ble_eq_true rfl)
  rw [lg_entry_eq]
  generalize (lg_sl ([.ref h0]) ++ List.replicate (1 - (lg_sl ([.ref h0])).length) Slot.unset).toArray = ls at hl ⊢
  have hl : lv_has ls 1 [(0, .ref h0)] := hl
  refine lv_aload_n hx hb dJxc12de_init_da8c8_0 rfl (lv_at hl 0 rfl) ?_
  have hPc := hP.sub (ws' := []) [] rfl
  have hDc := hD.sub (ws' := []) [] (by decide) rfl
  have hKc := hK.sub (tys' := []) [] rfl
  have hFc := va_free (wc := []) hD hS hA [] rfl
  refine va_callv (va_runI (As := []) (rest := []) ⟨hx, hb, hml, hown, hts⟩ (c_AC_init l dC dI s.heap.size h0) (cwI 0 hts (gG kw_2_4) rfl rfl rfl (hts (.initialized RJxa1e45) (List.mem_cons_of_mem _ kw_1_7)) (hts (.methodLink RJxc12de 1 yJxa1e45_init_da8c8) (List.mem_cons_of_mem _ kw_2_2)) (hts (.instanceMethod yJxa1e45_init_da8c8) (List.mem_cons_of_mem _ kw_2_3)) rfl (by decide +kernel) ⟨Nat.le_of_ble_eq_true rfl, Nat.le_of_ble_eq_true rfl⟩) ⟨fun a U g mk q => by obtain ⟨q0, q1, qP, qK, qD⟩ := q; exact ⟨q0, q1, qP, va_K.moved (u := U) (U := U.calling g mk a) (Vm.Alike.refl U.vm) qK, qD⟩, fun U hU hW => ⟨rfl, by rw [hU], by rw [hU]; exact hPc, va_K.moved hW.alike hKc, hDc.weaken (fun _ _ _ _ => trivial)⟩⟩ rfl rfl hl.1 rfl (lv_room (Nat.le_of_ble_eq_true rfl)) dJxc12de_init_da8c8_1 ⟨Nat.le_of_ble_eq_true rfl, Nat.le_of_ble_eq_true rfl⟩) hS (fun q _ h => hFc q h) hFc (fun u t H1 locs ht hvm hw hB hz1 hk1 hS => ?_)
  obtain ⟨hP, hD⟩ := va_join (wr := [(h0, .inr (0, [.int 0, .null, .int 0]))]) (w1 := []) hP hD [] [0] rfl rfl (by decide) (by decide) hk1 hFc (fun k q h => by simp at h) ⟨fun i j p q h => by simp at h, fun k q h => by simp at h⟩
  have hK := hK.sub (tys' := []) [] rfl
  generalize H1 = H at hP hS ⊢
  have hP : va_P (dC, dI) vwCl [(h0, .inr (0, [.int 0, .null, .int 0]))] H := hP
  have hD : va_D A [(h0, .inr (0, [.int 0, .null, .int 0]))] := hD
  have hK : va_K (dC, dI) vwCl [] s := hK
  refine lv_aload_n hx hb dJxc12de_init_da8c8_4 rfl (lv_at hl 0 rfl) ?_
  refine lv_iconst (v := 0) hx hb dJxc12de_init_da8c8_5 (by decide) ?_
  refine va_put (D := (dC, dI)) (ci := 0) (v := .int 0) (ty := .int) (C := RJx4a65c) (T := TJx4a65c) (N := 3) hx hb hts iCJx4a65c tyJx4a65c tyJx4a65c_ok nmJx4a65c hown hK hP hD hS 0 rfl rfl 0 (by decide) (hts (.fieldLink RJxc12de 7 "java/util/AbstractList" "modCount" "I") (List.mem_cons_of_mem _ kw_2_10)) (fun _ h9 => h9) rfl (by decide +kernel) rfl rfl (Nat.le_of_ble_eq_true rfl) dJxc12de_init_da8c8_6 (fun H locs hP hD hS => ?_)
  have hP : va_P (dC, dI) vwCl [(h0, .inr (0, [.int 0, .null, .int 0]))] H := hP
  have hD : va_D A [(h0, .inr (0, [.int 0, .null, .int 0]))] := hD
  have hP9 := hP.sub (ws' := [(h0, .inr (0, [.int 0, .null, .int 0]))]) [0] rfl
  have hD9 := hD.sub (ws' := [(h0, .inr (0, [.int 0, .null, .int 0]))]) [0] (by decide) rfl
  have hK9 := hK.sub (tys' := []) [] rfl
  refine W.widen (k := 0) (n := 0) (Nat.le_of_ble_eq_true rfl) (Nat.le_of_ble_eq_true rfl) ?_
  exact W.vret hx hb hr (fun t ht hW => ⟨⟨(), rfl, trivial, ⟨by rw [ht]; exact hP9, va_K.moved hW.alike hK9, hD9⟩⟩, hS.F ht⟩) hS.2.2 dJxc12de_init_da8c8_9
set_option maxHeartbeats 4000000 in
set_option maxRecDepth 100000 in
theorem c_ArrayList_init (l : Launch) (dC : Nat → ClassId) (dI : Nat → Nat → Nat) (sz : Nat) (tD : Nat) (h0 : Nat) : Met l yJx4a65c_init_da8c8 (.code yJx4a65c_init_da8c8 cJx4a65c_init_da8c8 1 none :: lw_good) ({ frames := 6, cells := 0, slots := 0, locals := 180 }) (va_Pc [.ref h0] (fun U => U.heap.size = sz ∧ va_P (dC, dI) vwCl [(h0, .inr (0, [.int 0, .null, .int 0]))] U.heap ∧ va_K (dC, dI) vwCl [] U ∧ va_D (fun _ => True) [(h0, .inr (0, [.int 0, .null, .int 0]))] ∧ va_Z "java/util/ArrayList" "DEFAULTCAPACITY_EMPTY_ELEMENTDATA" "[Ljava/lang/Object;" (.ref tD) (va_A [(h0, .inr (0, [.int 0, .null, .int 0]))] sz) U U.heap)) (va_Qv (fun (_ : Unit) => True) (fun (_ : Unit) (t : State) => va_P (dC, dI) vwCl [(h0, .inr (0, [.int 0, .ref tD, .int 0]))] t.heap ∧ va_K (dC, dI) vwCl [] t ∧ va_D (va_A [(h0, .inr (0, [.int 0, .null, .int 0]))] sz) [(h0, .inr (0, [.int 0, .ref tD, .int 0]))]) (va_A [(h0, .inr (0, [.int 0, .null, .int 0]))] sz)) 0 0 (va_A [(h0, .inr (0, [.int 0, .null, .int 0]))] sz) := by
  refine Met.ofW (cc := cJx4a65c_init_da8c8) (maxL := 1) (ret := none) (by decide) rfl ?_
  intro p e s m args below meth c s₁ B hml hv
  obtain ⟨rfl, hsz, hP, hK, hD0, hZ_dce⟩ := hv
  have hx := B.exec
  have hb := B.bytes
  have hr := B.returns
  have hts := atoms_spec (ws := (.code yJx4a65c_init_da8c8 cJx4a65c_init_da8c8 1 none :: lw_good)) B.pre
  have hown : s.vm.findClass RJx4a65c = some m.cls := findClass_of_methodNamed B.named
  have hlocks := B.notSynchronized
  have hin : meth.name = "<init>" := (name_of_methodNamed B.named B.method).1
  subst hsz
  have hD := hD0.self (sz := s.heap.size)
  generalize hAe : va_A [(h0, .inr (0, [.int 0, .null, .int 0]))] s.heap.size = A at hD ⊢ hZ_dce
  have hA : ∀ q : Nat, s.heap.size ≤ q → A q := fun q h => by rw [← hAe]; exact Or.inr h
  have hS : va_S A s.heap s.heap [] := va_S.rf
  have hP : va_P (dC, dI) vwCl [(h0, .inr (0, [.int 0, .null, .int 0]))] s.heap := hP
  have hl := lv_entry ([.ref h0]) (n := 1) (Nat.le_of_ble_eq_true rfl)
  rw [lg_entry_eq]
  generalize (lg_sl ([.ref h0]) ++ List.replicate (1 - (lg_sl ([.ref h0])).length) Slot.unset).toArray = ls at hl ⊢
  have hl : lv_has ls 1 [(0, .ref h0)] := hl
  refine lv_aload_n hx hb dJx4a65c_init_da8c8_0 rfl (lv_at hl 0 rfl) ?_
  have hPc := hP.sub (ws' := [(h0, .inr (0, [.int 0, .null, .int 0]))]) [0] rfl
  have hDc := hD.sub (ws' := [(h0, .inr (0, [.int 0, .null, .int 0]))]) [0] (by decide) rfl
  have hKc := hK.sub (tys' := []) [] rfl
  have hFc := va_free (wc := [(h0, .inr (0, [.int 0, .null, .int 0]))]) hD hS hA [0] rfl
  refine va_callv (va_runI (As := []) (rest := []) ⟨hx, hb, hml, hown, hts⟩ (c_AL_init l dC dI s.heap.size h0) (cwI 0 hts (gG kw_2_1) rfl rfl rfl (hts (.initialized RJxc12de) (List.mem_cons_of_mem _ kw_1_8)) (hts (.methodLink RJx4a65c 1 yJxc12de_init_da8c8) (List.mem_cons_of_mem _ kw_1_239)) (hts (.instanceMethod yJxc12de_init_da8c8) (List.mem_cons_of_mem _ kw_2_0)) rfl (by decide +kernel) ⟨Nat.le_of_ble_eq_true rfl, Nat.le_of_ble_eq_true rfl⟩) ⟨fun a U g mk q => by obtain ⟨q0, q1, qP, qK, qD⟩ := q; exact ⟨q0, q1, qP, va_K.moved (u := U) (U := U.calling g mk a) (Vm.Alike.refl U.vm) qK, qD⟩, fun U hU hW => ⟨rfl, by rw [hU], by rw [hU]; exact hPc, va_K.moved hW.alike hKc, hDc.weaken (fun _ _ _ _ => trivial)⟩⟩ rfl rfl hl.1 rfl (lv_room (Nat.le_of_ble_eq_true rfl)) dJx4a65c_init_da8c8_1 ⟨Nat.le_of_ble_eq_true rfl, Nat.le_of_ble_eq_true rfl⟩) hS (fun q _ h => hFc q h) hFc (fun u t H1 locs ht hvm hw hB hz1 hk1 hS => ?_)
  obtain ⟨hP1, hK1, hD1⟩ := hB
  rw [ht] at hP1
  have hK1 := va_K.moved hvm.symm hK1
  obtain ⟨hP, hD⟩ := va_join (wr := []) (w1 := [(h0, .inr (0, [.int 0, .null, .int 0]))]) hP hD [0] [] rfl rfl (by decide) (by decide) hk1 hFc hP1 hD1
  have hK := (hK.sub (tys' := []) [] rfl).app hK1
  generalize H1 = H at hP hS ⊢
  have hP : va_P (dC, dI) vwCl [(h0, .inr (0, [.int 0, .null, .int 0]))] H := hP
  have hD : va_D A [(h0, .inr (0, [.int 0, .null, .int 0]))] := hD
  have hK : va_K (dC, dI) vwCl [] s := hK
  refine lv_aload_n hx hb dJx4a65c_init_da8c8_4 rfl (lv_at hl 0 rfl) ?_
  refine va_gets hx hb hZ_dce hS hown (hts (.fieldLink RJx4a65c 39 "java/util/ArrayList" "DEFAULTCAPACITY_EMPTY_ELEMENTDATA" "[Ljava/lang/Object;") (List.mem_cons_of_mem _ kw_2_6)) (fun _ h9 => h9) dJx4a65c_init_da8c8_5 ?_
  refine va_put (D := (dC, dI)) (ci := 0) (v := .ref tD) (ty := .array (.object "java/lang/Object")) (C := RJx4a65c) (T := TJx4a65c) (N := 3) hx hb hts iCJx4a65c tyJx4a65c tyJx4a65c_ok nmJx4a65c hown hK hP hD hS 0 rfl rfl 1 (by decide) (hts (.fieldLink RJx4a65c 9 "java/util/ArrayList" "elementData" "[Ljava/lang/Object;") (List.mem_cons_of_mem _ kw_2_8)) (fun _ h9 => h9) rfl (by decide +kernel) rfl rfl (Nat.le_of_ble_eq_true rfl) dJx4a65c_init_da8c8_8 (fun H locs hP hD hS => ?_)
  have hP : va_P (dC, dI) vwCl [(h0, .inr (0, [.int 0, .ref tD, .int 0]))] H := hP
  have hD : va_D A [(h0, .inr (0, [.int 0, .ref tD, .int 0]))] := hD
  have hP9 := hP.sub (ws' := [(h0, .inr (0, [.int 0, .ref tD, .int 0]))]) [0] rfl
  have hD9 := hD.sub (ws' := [(h0, .inr (0, [.int 0, .ref tD, .int 0]))]) [0] (by decide) rfl
  have hK9 := hK.sub (tys' := []) [] rfl
  refine W.widen (k := 0) (n := 0) (Nat.le_of_ble_eq_true rfl) (Nat.le_of_ble_eq_true rfl) ?_
  exact W.vret hx hb hr (fun t ht hW => ⟨⟨(), rfl, trivial, ⟨by rw [ht]; exact hP9, va_K.moved hW.alike hK9, hD9⟩⟩, hS.F ht⟩) hS.2.2 dJx4a65c_init_da8c8_11

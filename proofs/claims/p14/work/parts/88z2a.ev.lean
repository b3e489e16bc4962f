def cb (x : Int32) (st : List Bool) : Prop := x.toInt = (cd_bits st : Nat) ∧ st.length ≤ 30
theorem cd_bits_lt : ∀ st : List Bool, 1 ≤ cd_bits st ∧ cd_bits st < 2 ^ (st.length + 1) := by
  intro st
  induction st with
  | nil => exact ⟨by decide, by decide⟩
  | cons a t ih =>
    have e : cd_bits (a :: t) = 2 * cd_bits t + (if a then 1 else 0) := rfl
    have hl : (a :: t).length = t.length + 1 := rfl
    have hp : 2 ^ (t.length + 1 + 1) = 2 * 2 ^ (t.length + 1) := by rw [Nat.pow_succ, Nat.mul_comm]
    rw [e, hl, hp]
    have h2 : (if a then 1 else 0 : Nat) ≤ 1 := by cases a <;> decide
    omega
theorem cb_n {x : Int32} {st : List Bool} (h : cb x st) : x.toBitVec.toNat = cd_bits st ∧ cd_bits st < 2 ^ 31 := by
  have h1 := cd_bits_lt st
  have h2 : 2 ^ (st.length + 1) ≤ 2 ^ 31 := Nat.pow_le_pow_right (by decide) (by have := h.2; omega)
  have h3 : x.toInt = (cd_bits st : Nat) := h.1
  have c := BitVec.toInt_eq_toNat_cond x.toBitVec
  have e2 : x.toInt = x.toBitVec.toInt := rfl
  have h4 := x.toBitVec.isLt
  refine ⟨?_, by omega⟩
  rw [← e2, h3] at c
  by_cases q : 2 * x.toBitVec.toNat < 2 ^ 32
  · rw [if_pos q] at c; omega
  · rw [if_neg q] at c; omega
theorem cb_of {v : Int32} {n : Nat} (h : v.toBitVec.toNat = n) (hn : n < 2 ^ 31) : v.toInt = (n : Nat) := by
  have h1 := BitVec.toInt_eq_toNat_of_lt (x := v.toBitVec) (by omega)
  show v.toBitVec.toInt = _
  rw [h1, h]
theorem cb_and1 {v x : Int32} {st : List Bool} (h : cb x st) (e : v = x &&& 1) : v.toInt = ((cd_bits st % 2 : Nat) : Int) := by
  subst e
  refine cb_of ?_ (by have := (cb_n h).2; omega)
  rw [Int32.toBitVec_and, BitVec.toNat_and, (cb_n h).1]
  exact Nat.and_one_is_mod _
theorem cb_msb {x : Int32} {st : List Bool} (h : cb x st) : x.toBitVec.msb = false := by
  rw [BitVec.msb_eq_decide]
  exact decide_eq_false (by have := cb_n h; omega)
theorem cb_shrN {v x : Int32} {st : List Bool} (h : cb x st) (e : v = x >>> ((1 : Int32) &&& 31)) : v.toBitVec.toNat = cd_bits st / 2 := by
  subst e
  show (x.toBitVec.sshiftRight 1).toNat = _
  rw [BitVec.sshiftRight_eq_of_msb_false (cb_msb h), BitVec.toNat_ushiftRight, Nat.shiftRight_eq_div_pow, (cb_n h).1]
theorem cb_shr2N {v x : Int32} {st : List Bool} (h : cb x st) (e : v = x >>> ((2 : Int32) &&& 31)) : v.toBitVec.toNat = cd_bits st / 4 := by
  subst e
  show (x.toBitVec.sshiftRight 2).toNat = _
  rw [BitVec.sshiftRight_eq_of_msb_false (cb_msb h), BitVec.toNat_ushiftRight, Nat.shiftRight_eq_div_pow, (cb_n h).1]
theorem cb_h2 (a : Bool) (t : List Bool) : cd_bits (a :: t) / 2 = cd_bits t ∧ cd_bits (a :: t) % 2 = (if a then 1 else 0) := by
  have e : cd_bits (a :: t) = 2 * cd_bits t + (if a then 1 else 0) := rfl
  rw [e]
  cases a
  · show (2 * cd_bits t + 0) / 2 = _ ∧ (2 * cd_bits t + 0) % 2 = 0; omega
  · show (2 * cd_bits t + 1) / 2 = _ ∧ (2 * cd_bits t + 1) % 2 = 1; omega
theorem cb_mk {v : Int32} {st : List Bool} (h : v.toBitVec.toNat = cd_bits st) (hl : st.length ≤ 30) : cb v st := by
  refine ⟨cb_of h ?_, hl⟩
  have h1 := cd_bits_lt st
  have h2 : 2 ^ (st.length + 1) ≤ 2 ^ 31 := Nat.pow_le_pow_right (by decide) (by omega)
  omega
theorem cb_shr1 {v x : Int32} {a : Bool} {t : List Bool} (h : cb x (a :: t)) (e : v = x >>> ((1 : Int32) &&& 31)) : cb v t := by
  have hl : (a :: t).length ≤ 30 := h.2
  rw [List.length_cons] at hl
  exact cb_mk (by rw [cb_shrN h e, (cb_h2 a t).1]) (by omega)
theorem cb_shr2 {v x : Int32} {a b : Bool} {t : List Bool} (h : cb x (a :: b :: t)) (e : v = x >>> ((2 : Int32) &&& 31)) : cb v t := by
  have hl : (a :: b :: t).length ≤ 30 := h.2
  rw [List.length_cons, List.length_cons] at hl
  have h1 := (cb_h2 a (b :: t)).1
  have h2 := (cb_h2 b t).1
  exact cb_mk (by rw [cb_shr2N h e]; omega) (by omega)
theorem cb_shl {v x : Int32} {t : List Bool} (h : cb x t) (hl : t.length ≤ 29) (e : v = x <<< ((1 : Int32) &&& 31)) : cb v (false :: t) := by
  have h1 := cd_bits_lt t
  have h2 : 2 ^ (t.length + 1) ≤ 2 ^ 30 := Nat.pow_le_pow_right (by decide) (by omega)
  refine cb_mk ?_ (by rw [List.length_cons]; omega)
  subst e
  show (x.toBitVec <<< 1).toNat = 2 * cd_bits t + 0
  rw [BitVec.toNat_shiftLeft, Nat.shiftLeft_eq, (cb_n h).1]
  omega
theorem cb_or1 {v x : Int32} {b : Bool} {t : List Bool} (h : cb x (b :: t)) (e : v = x ||| 1) : cb v (true :: t) := by
  refine cb_mk ?_ h.2
  subst e
  rw [Int32.toBitVec_or, BitVec.toNat_or, (cb_n h).1]
  show cd_bits (b :: t) ||| 1 = 2 * cd_bits t + 1
  have h1 := (cb_h2 b t).1
  have h2 : (cd_bits (b :: t) ||| 1) / 2 = cd_bits t := by rw [Nat.or_div_two, h1]; exact Nat.or_zero _
  have h3 : (cd_bits (b :: t) ||| 1) % 2 = 1 := Nat.or_mod_two_eq_one.mpr (Or.inr rfl)
  omega
theorem cb_or0 {v x : Int32} {t : List Bool} (h : cb x t) (e : v = x ||| 0) : cb v t := by
  refine cb_mk ?_ h.2
  subst e
  rw [Int32.toBitVec_or, BitVec.toNat_or, (cb_n h).1]
  exact Nat.or_zero _
theorem cb_xor1 {v x : Int32} {a : Bool} {t : List Bool} (h : cb x (a :: t)) (e : v = x ^^^ 1) : cb v ((!a) :: t) := by
  refine cb_mk ?_ h.2
  subst e
  rw [Int32.toBitVec_xor, BitVec.toNat_xor, (cb_n h).1]
  show cd_bits (a :: t) ^^^ 1 = cd_bits ((!a) :: t)
  have h1 := cb_h2 a t
  have h4 := cb_h2 (!a) t
  have h2 : (cd_bits (a :: t) ^^^ 1) / 2 = cd_bits t := by rw [Nat.xor_div_two, h1.1]; exact Nat.xor_zero _
  have h3 : (cd_bits (a :: t) ^^^ 1) % 2 = cd_bits ((!a) :: t) % 2 := by
    have h5 := Nat.xor_mod_two_eq_one (a := cd_bits (a :: t)) (b := 1)
    have h6 : (1 : Nat) % 2 = 1 := rfl
    rw [h4.2]
    rw [h1.2, h6] at h5
    have h7 := Nat.mod_two_eq_zero_or_one (cd_bits (a :: t) ^^^ 1)
    cases a
    · show _ = 1
      exact h5.mpr (fun w => absurd (w.mpr rfl) (by decide))
    · show _ = 0
      rcases h7 with w | w
      · exact w
      · exact absurd (Iff.intro (fun _ => rfl) (fun _ => rfl)) (h5.mp w)
  omega
theorem cd_ev_not (f : Nat → Int) (a : Bool) (t : List Bool) (s : Nat) (n : Int) (r : List (Nat × Nat × Int)) : cd_ev f (a :: t) ((12, s, n) :: r) = cd_ev f ((!a) :: t) r := rfl
theorem cd_ev_and (f : Nat → Int) (a b : Bool) (t : List Bool) (s : Nat) (n : Int) (r : List (Nat × Nat × Int)) : cd_ev f (a :: b :: t) ((13, s, n) :: r) = cd_ev f ((b && a) :: t) r := rfl
theorem cd_ev_or (f : Nat → Int) (a b : Bool) (t : List Bool) (s : Nat) (n : Int) (r : List (Nat × Nat × Int)) : cd_ev f (a :: b :: t) ((14, s, n) :: r) = cd_ev f ((b || a) :: t) r := rfl
theorem cd_ev_psh (f : Nat → Int) (t : List Bool) (k s : Nat) (n : Int) (r : List (Nat × Nat × Int)) (h : k < 12) : cd_ev f t ((k, s, n) :: r) = cd_ev f ((if k < 4 then decide (f k = 1) else if s = 60 then decide (f k < n) else if s = 61 then decide (f k = n) else decide (n < f k)) :: t) r := by
  show (if k = 12 then _ else if k = 13 then _ else if k = 14 then _ else _) = _
  rw [if_neg (by omega), if_neg (by omega), if_neg (by omega)]
theorem cd_hd_e (d k s : Nat) (n : Int) (r : List (Nat × Nat × Int)) : cd_hd d ((k, s, n) :: r) = if k = 99 then none else if k = 12 then (if d = 0 then none else cd_hd d r) else if k = 13 ∨ k = 14 then (if d < 2 then none else cd_hd (d - 1) r) else if 30 < d + 1 then none else cd_hd (d + 1) r := rfl
def cd_ho (f : Nat → Int) (c : List (Nat × Nat × Int)) : Bool := (cd_ev f [] c).headD true
def cb_I (f : Nat → Int) (a b c : Nat → Int32) (i E : Nat) (x : Int32) (W : List Bool) : Prop := ∃ st : List Bool, cb x st ∧ cd_ev f st (cd_sx a b c i (E - i)) = W ∧ ((st = [] ∧ E - i = 0) ∨ cd_hd st.length (cd_sx a b c i (E - i)) = some 1)
theorem cd_sx_c {a b c : Nat → Int32} {i E : Nat} (h : i < E) : cd_sx a b c i (E - i) = cd_x (a i) (b i) (c i) :: cd_sx a b c (i + 1) (E - (i + 1)) := by
  have e : E - i = 1 + (E - (i + 1)) := by omega
  rw [e, cd_sx_app]
  show ([] ++ [cd_x (a (i + 0)) (b (i + 0)) (c (i + 0))]) ++ _ = _
  rfl
theorem cb_I0 {f : Nat → Int} {a b c : Nat → Int32} {i E : Nat} (h : cd_sx a b c i (E - i) = [] ∨ cd_hd 0 (cd_sx a b c i (E - i)) = some 1) : cb_I f a b c i E 1 (cd_ev f [] (cd_sx a b c i (E - i))) := by
  refine ⟨[], ⟨by decide, by decide⟩, rfl, ?_⟩
  rcases h with h | h
  · have h1 := congrArg List.length h
    rw [cd_sx_len] at h1
    exact Or.inl ⟨rfl, h1⟩
  · exact Or.inr h
theorem cb_Ih {f : Nat → Int} {a b c : Nat → Int32} {i E : Nat} {x : Int32} {W : List Bool} (h : cb_I f a b c i E x W) (hi : i < E) : ∃ st : List Bool, cb x st ∧ cd_ev f st (cd_x (a i) (b i) (c i) :: cd_sx a b c (i + 1) (E - (i + 1))) = W ∧ cd_hd st.length (cd_x (a i) (b i) (c i) :: cd_sx a b c (i + 1) (E - (i + 1))) = some 1 := by
  obtain ⟨st, h1, h2, h3⟩ := h
  rw [cd_sx_c hi] at h2 h3
  rcases h3 with h3 | h3
  · omega
  · exact ⟨st, h1, h2, h3⟩
theorem cd_x_3 {ac ak nu : Int32} (h : ac.toInt = 3) : cd_x ac ak nu = (12, 0, 0) := by unfold cd_x; rw [if_pos h]
theorem cd_x_4 {ac ak nu : Int32} (h : ac.toInt = 4) : cd_x ac ak nu = (13, 0, 0) := by unfold cd_x; rw [if_neg (by omega), if_pos h]
theorem cd_x_5 {ac ak nu : Int32} (h : ac.toInt = 5) : cd_x ac ak nu = (14, 0, 0) := by unfold cd_x; rw [if_neg (by omega), if_neg (by omega), if_pos h]
theorem cb_I_not {f : Nat → Int} {a b c : Nat → Int32} {i E : Nat} {x v : Int32} {W : List Bool} (h : cb_I f a b c i E x W) (hi : i < E) (ha : (a i).toInt = 3) (e : v = x ^^^ 1) : cb_I f a b c (i + 1) E v W := by
  obtain ⟨st, h1, h2, h3⟩ := cb_Ih h hi
  rw [cd_x_3 ha] at h2 h3
  cases st with
  | nil => rw [cd_hd_e, if_neg (by decide), if_pos rfl] at h3; cases h3
  | cons p t =>
    rw [cd_hd_e, if_neg (by decide), if_pos rfl, if_neg (by rw [List.length_cons]; omega)] at h3
    exact ⟨(!p) :: t, cb_xor1 h1 e, h2, Or.inr h3⟩
theorem cb_two {st : List Bool} {k : Nat} {r : List (Nat × Nat × Int)} (hk : k = 13 ∨ k = 14) (h : cd_hd st.length ((k, 0, 0) :: r) = some 1) : ∃ p q t, st = p :: q :: t ∧ cd_hd (q :: t).length r = some 1 := by
  rw [cd_hd_e, if_neg (by omega), if_neg (by omega), if_pos hk] at h
  match st, h with
  | [], h => cases h
  | [_], h => cases h
  | p :: q :: t, h =>
    rw [if_neg (by rw [List.length_cons, List.length_cons]; omega)] at h
    exact ⟨p, q, t, rfl, h⟩
theorem cb_bit {x v : Int32} {p : Bool} {t : List Bool} (h : cb x (p :: t)) (e : v = x &&& 1) : (v.toInt = 1 → p = true) ∧ (¬ v.toInt = 1 → p = false) := by
  have h1 := cb_and1 h e
  rw [(cb_h2 p t).2] at h1
  cases p
  · exact ⟨fun w => by rw [h1] at w; exact absurd w (by decide), fun _ => rfl⟩
  · exact ⟨fun _ => rfl, fun w => absurd (by rw [h1]; rfl) w⟩
theorem cb_I_and1 {f : Nat → Int} {a b c : Nat → Int32} {i E : Nat} {x v v1 : Int32} {W : List Bool} (h : cb_I f a b c i E x W) (hi : i < E) (ha : (a i).toInt = 4) (e1 : v1 = x &&& 1) (hb : v1.toInt = 1) (e : v = x >>> ((1 : Int32) &&& 31)) : cb_I f a b c (i + 1) E v W := by
  obtain ⟨st, h1, h2, h3⟩ := cb_Ih h hi
  rw [cd_x_4 ha] at h2 h3
  obtain ⟨p, q, t, rfl, h4⟩ := cb_two (Or.inl rfl) h3
  rw [cd_ev_and, (cb_bit h1 e1).1 hb, Bool.and_true] at h2
  exact ⟨q :: t, cb_shr1 h1 e, h2, Or.inr h4⟩
theorem cb_I_and0 {f : Nat → Int} {a b c : Nat → Int32} {i E : Nat} {x v v1 v2 : Int32} {W : List Bool} (h : cb_I f a b c i E x W) (hi : i < E) (ha : (a i).toInt = 4) (e1 : v1 = x &&& 1) (hb : ¬ v1.toInt = 1) (e2 : v2 = x >>> ((2 : Int32) &&& 31)) (e : v = v2 <<< ((1 : Int32) &&& 31)) : cb_I f a b c (i + 1) E v W := by
  obtain ⟨st, h1, h2, h3⟩ := cb_Ih h hi
  rw [cd_x_4 ha] at h2 h3
  obtain ⟨p, q, t, rfl, h4⟩ := cb_two (Or.inl rfl) h3
  rw [cd_ev_and, (cb_bit h1 e1).2 hb, Bool.and_false] at h2
  have hl : (p :: q :: t).length ≤ 30 := h1.2
  rw [List.length_cons, List.length_cons] at hl
  exact ⟨false :: t, cb_shl (cb_shr2 h1 e2) (by omega) e, h2, Or.inr h4⟩
theorem cb_I_or1 {f : Nat → Int} {a b c : Nat → Int32} {i E : Nat} {x v v1 v2 : Int32} {W : List Bool} (h : cb_I f a b c i E x W) (hi : i < E) (ha : (a i).toInt = 5) (e1 : v1 = x &&& 1) (hb : v1.toInt = 1) (e2 : v2 = x >>> ((1 : Int32) &&& 31)) (e : v = v2 ||| 1) : cb_I f a b c (i + 1) E v W := by
  obtain ⟨st, h1, h2, h3⟩ := cb_Ih h hi
  rw [cd_x_5 ha] at h2 h3
  obtain ⟨p, q, t, rfl, h4⟩ := cb_two (Or.inr rfl) h3
  rw [cd_ev_or, (cb_bit h1 e1).1 hb, Bool.or_true] at h2
  exact ⟨true :: t, cb_or1 (cb_shr1 h1 e2) e, h2, Or.inr h4⟩
theorem cb_I_or0 {f : Nat → Int} {a b c : Nat → Int32} {i E : Nat} {x v v1 : Int32} {W : List Bool} (h : cb_I f a b c i E x W) (hi : i < E) (ha : (a i).toInt = 5) (e1 : v1 = x &&& 1) (hb : ¬ v1.toInt = 1) (e : v = x >>> ((1 : Int32) &&& 31)) : cb_I f a b c (i + 1) E v W := by
  obtain ⟨st, h1, h2, h3⟩ := cb_Ih h hi
  rw [cd_x_5 ha] at h2 h3
  obtain ⟨p, q, t, rfl, h4⟩ := cb_two (Or.inr rfl) h3
  rw [cd_ev_or, (cb_bit h1 e1).2 hb, Bool.or_false] at h2
  exact ⟨q :: t, cb_shr1 h1 e, h2, Or.inr h4⟩
def cd_tst (ac : Int) (v n : Int) : Bool := if ac = 0 then decide (v < n) else if ac = 1 then decide (v = n) else decide (n < v)
theorem cb_I_psh {f : Nat → Int} {a b c : Nat → Int32} {i E : Nat} {x v v2 y : Int32} {fv : Int} {W : List Bool} (h : cb_I f a b c i E x W) (hi : i < E) (ha : ¬ (a i).toInt = 3 ∧ ¬ (a i).toInt = 4 ∧ ¬ (a i).toInt = 5) (hf : f (b i).toInt.toNat = fv) (h01 : ∀ k, k < 4 → f k = 0 ∨ f k = 1) (hy : (y = 1 ∧ cd_tst (a i).toInt fv (c i).toInt = true) ∨ (y = 0 ∧ cd_tst (a i).toInt fv (c i).toInt = false)) (e2 : v2 = x <<< ((1 : Int32) &&& 31)) (e : v = v2 ||| y) : cb_I f a b c (i + 1) E v W := by
  obtain ⟨st, h1, h2, h3⟩ := cb_Ih h hi
  have hcase : ∃ (k s : Nat) (n : Int), cd_x (a i) (b i) (c i) = (k, s, n) ∧ (k = 99 ∨ (k < 12 ∧ (if k < 4 then decide (f k = 1) else if s = 60 then decide (f k < n) else if s = 61 then decide (f k = n) else decide (n < f k)) = cd_tst (a i).toInt fv (c i).toInt)) := by
    unfold cd_x
    rw [if_neg ha.1, if_neg ha.2.1, if_neg ha.2.2]
    by_cases q : (b i).toInt < 4
    · rw [if_pos q]
      by_cases w : 0 ≤ (b i).toInt ∧ (a i).toInt = 2 ∧ (c i).toInt = 0
      · rw [if_pos w]
        refine ⟨_, _, _, rfl, Or.inr ⟨by omega, ?_⟩⟩
        rw [if_pos (by omega), hf]
        unfold cd_tst
        rw [if_neg (by omega), if_neg (by omega), w.2.2]
        have h9 := h01 (b i).toInt.toNat (by omega)
        rw [hf] at h9
        rcases h9 with h9 | h9 <;> rw [h9] <;> decide
      · rw [if_neg w]; exact ⟨_, _, _, rfl, Or.inl rfl⟩
    · rw [if_neg q]
      by_cases w : 0 ≤ (a i).toInt ∧ (a i).toInt ≤ 2 ∧ (b i).toInt ≤ 11
      · rw [if_pos w]
        refine ⟨_, _, _, rfl, Or.inr ⟨by omega, ?_⟩⟩
        rw [if_neg (by omega), hf]
        unfold cd_tst
        by_cases z0 : (a i).toInt = 0
        · rw [if_pos (by omega), if_pos z0]
        · by_cases z1 : (a i).toInt = 1
          · rw [if_neg (by omega), if_pos (by omega), if_neg z0, if_pos z1]
          · rw [if_neg (by omega), if_neg (by omega), if_neg z0, if_neg z1]
      · rw [if_neg w]; exact ⟨_, _, _, rfl, Or.inl rfl⟩
  obtain ⟨k, s, n, hk, hc⟩ := hcase
  rw [hk] at h2 h3
  rw [cd_hd_e] at h3
  rcases hc with hc | ⟨hc, hd⟩
  · rw [if_pos hc] at h3; cases h3
  · rw [if_neg (by omega), if_neg (by omega), if_neg (by omega)] at h3
    by_cases hl : 30 < st.length + 1
    · rw [if_pos hl] at h3; cases h3
    · rw [if_neg hl] at h3
      rw [cd_ev_psh f st k s n _ hc, hd] at h2
      have h4 := cb_shl h1 (by omega) e2
      rcases hy with ⟨hy, hz⟩ | ⟨hy, hz⟩
      · rw [hz] at h2
        rw [hy] at e
        exact ⟨true :: st, cb_or1 h4 e, h2, Or.inr h3⟩
      · rw [hz] at h2
        rw [hy] at e
        exact ⟨false :: st, cb_or0 h4 e, h2, Or.inr h3⟩
theorem cb_I_end {f : Nat → Int} {a b c : Nat → Int32} {i E : Nat} {x v : Int32} {W : List Bool} (h : cb_I f a b c i E x W) (hi : E ≤ i) (e : v = x &&& 1) : (v.toInt = 1 ∧ W.headD true = true) ∨ (v.toInt = 0 ∧ W.headD true = false) := by
  obtain ⟨st, h1, h2, h3⟩ := h
  have hz : E - i = 0 := by omega
  rw [hz] at h2 h3
  have h4 : st = W := h2
  have h5 := cb_and1 h1 e
  rcases h3 with h3 | h3
  · rw [h3.1] at h4 h5
    rw [← h4]
    exact Or.inl ⟨h5, rfl⟩
  · have h6 : some st.length = some 1 := h3
    have h7 := Option.some.inj h6
    match st, h7 with
    | [p], _ =>
      rw [← h4]
      rw [(cb_h2 p []).2] at h5
      cases p
      · exact Or.inr ⟨h5, rfl⟩
      · exact Or.inl ⟨h5, rfl⟩
def cd_f (g : Nat → Int32) (k : Nat) : Int := if k < 12 then (g k).toInt else 0
def cd_fi (f : Nat → Int) (k : Int) : List (Int × Int × List (Nat × Nat × Int)) → Nat → Int
  | [], _ => -1
  | x :: r, i => if x.1 = k ∧ cd_ho f x.2.2 = true then (i : Int) else cd_fi f k r (i + 1)
def cd_fv (f : Nat → Int) (k : Int) : List (Int × Int × List (Nat × Nat × Int)) → Int
  | [] => 0
  | x :: r => if x.1 = k ∧ cd_ho f x.2.2 = true then x.2.1 else cd_fv f k r
theorem cd_Wf_c {g : Nat → Int × Int × List (Nat × Nat × Int)} {n i : Nat} (h : i < n) : cd_Wf g (n - i) i = g i :: cd_Wf g (n - (i + 1)) (i + 1) := by
  have e : n - i = (n - (i + 1)) + 1 := by omega
  rw [e]; rfl
theorem cd_fi_y {f : Nat → Int} {k : Int} {x : Int × Int × List (Nat × Nat × Int)} {r : List (Int × Int × List (Nat × Nat × Int))} {i : Nat} (h : x.1 = k ∧ cd_ho f x.2.2 = true) : cd_fi f k (x :: r) i = (i : Int) := if_pos h
theorem cd_fi_n {f : Nat → Int} {k : Int} {x : Int × Int × List (Nat × Nat × Int)} {r : List (Int × Int × List (Nat × Nat × Int))} {i : Nat} (h : ¬ (x.1 = k ∧ cd_ho f x.2.2 = true)) : cd_fi f k (x :: r) i = cd_fi f k r (i + 1) := if_neg h
theorem cd_fi_val {f : Nat → Int} {k : Int} {g : Nat → Int × Int × List (Nat × Nat × Int)} : ∀ n i, cd_fi f k (cd_Wf g n i) i = -1 ∨ ∃ j : Nat, cd_fi f k (cd_Wf g n i) i = (j : Int) ∧ i ≤ j ∧ j < i + n ∧ (g j).2.1 = cd_fv f k (cd_Wf g n i) := by
  intro n
  induction n with
  | zero => intro i; exact Or.inl rfl
  | succ n ih =>
    intro i
    have e1 : cd_Wf g (n + 1) i = g i :: cd_Wf g n (i + 1) := rfl
    rw [e1]
    by_cases h : (g i).1 = k ∧ cd_ho f (g i).2.2 = true
    · refine Or.inr ⟨i, cd_fi_y h, Nat.le_refl _, by omega, ?_⟩
      show _ = if (g i).1 = k ∧ cd_ho f (g i).2.2 = true then (g i).2.1 else _
      rw [if_pos h]
    · rw [cd_fi_n h]
      have e2 : cd_fv f k (g i :: cd_Wf g n (i + 1)) = cd_fv f k (cd_Wf g n (i + 1)) := if_neg h
      rw [e2]
      rcases ih (i + 1) with h1 | ⟨j, h1, h2, h3, h4⟩
      · exact Or.inl h1
      · exact Or.inr ⟨j, h1, by omega, by omega, h4⟩
def cd_pl (k : Int) (tx : Bool) : Int := if k = 0 then 1 else if k = 2 then (if tx then 10 else 0) else if k = 3 then 15 else if k = 4 then 500 else if k = 5 then (if tx then 0 else 20) else 0
def cd_al (f : Nat → Int) (k : Int) (tx : Bool) (W : List (Int × Int × List (Nat × Nat × Int))) : Int := if k = 5 ∧ tx = true then -1 else cd_fi f k W 0
def cd_av (f : Nat → Int) (k : Int) (tx : Bool) (W : List (Int × Int × List (Nat × Nat × Int))) : Int := if cd_al f k tx W = -1 then cd_pl k tx else cd_fv f k W
def cd_fc (kd ins se rn mi td fr to_ ri ti : Int) (k : Nat) : Int := if k = 0 then (if kd = 0 then 1 else 0) else if k = 1 then (if kd = 1 then 1 else 0) else if k = 2 then (if kd = 2 then 1 else 0) else if k = 3 then (if td ≤ ins then 1 else 0) else if k = 4 then ri else if k = 5 then se else if k = 6 then rn else if k = 7 then mi else if k = 8 then td else if k = 9 then fr else if k = 10 then to_ else if k = 11 then ti else 0
theorem cd_fc01 {kd ins se rn mi td fr to_ ri ti : Int} : ∀ k, k < 4 → cd_fc kd ins se rn mi td fr to_ ri ti k = 0 ∨ cd_fc kd ins se rn mi td fr to_ ri ti k = 1 := by
  intro k hk
  have h : k = 0 ∨ k = 1 ∨ k = 2 ∨ k = 3 := by omega
  have two : ∀ p : Prop, [Decidable p] → (if p then (1 : Int) else 0) = 0 ∨ (if p then (1 : Int) else 0) = 1 := fun p _ => by
    by_cases q : p
    · exact Or.inr (if_pos q)
    · exact Or.inl (if_neg q)
  rcases h with h | h | h | h <;> subst h
  · exact two (kd = 0)
  · exact two (kd = 1)
  · exact two (kd = 2)
  · exact two (td ≤ ins)
def cd_nw (fr : Nat → Int) (td : Int) : Nat → Nat × Int
  | 0 => (0, -1)
  | n + 1 => if fr (n + 1) ≤ td ∧ (cd_nw fr td n).2 ≤ fr (n + 1) then (n + 1, fr (n + 1)) else cd_nw fr td n
theorem cd_nw_y {fr : Nat → Int} {td : Int} {n : Nat} (h : fr (n + 1) ≤ td ∧ (cd_nw fr td n).2 ≤ fr (n + 1)) : cd_nw fr td (n + 1) = (n + 1, fr (n + 1)) := if_pos h
theorem cd_nw_n {fr : Nat → Int} {td : Int} {n : Nat} (h : ¬ (fr (n + 1) ≤ td ∧ (cd_nw fr td n).2 ≤ fr (n + 1))) : cd_nw fr td (n + 1) = cd_nw fr td n := if_neg h
theorem cd_nw_le (fr : Nat → Int) (td : Int) : ∀ n, (cd_nw fr td n).1 ≤ n := by
  intro n
  induction n with
  | zero => exact Nat.le_refl _
  | succ n ih =>
    by_cases h : fr (n + 1) ≤ td ∧ (cd_nw fr td n).2 ≤ fr (n + 1)
    · rw [cd_nw_y h]; exact Nat.le_refl _
    · rw [cd_nw_n h]; omega
def wt_rf (d w : Int32) (g : Nat → Int32) : Int := if w.toInt = 0 then 0 else if d.toInt < w.toInt then (g d.toInt.toNat).toInt else 9
theorem wt_on_rf {r d w : Int32} {g : Nat → Int32} (h : wt_on r d w g) : r.toInt = wt_rf d w g := by
  unfold wt_rf
  rcases h with ⟨a9, b9⟩ | ⟨a9, b9, c9⟩ | ⟨a9, b9, c9⟩
  · rw [if_pos a9, b9]; decide
  · rw [if_neg a9, if_pos b9, c9]
  · rw [if_neg a9, if_neg (by omega), c9]; decide
def cd_ri (k ri : Int) : Int := if k = 0 ∨ k = 2 ∨ k = 5 then 0 else ri
def mx_f01 (ar : Nat → Nat → Int32) : Prop := ∀ k, k < 4 → cd_f (ar 4) k = 0 ∨ cd_f (ar 4) k = 1
theorem mx_f01_fr {N : List Nat} {a a1 : Nat → Nat → Int32} (h : mx_f01 a) (ha : fA N a a1) (h4 : N.contains 4 = false) : mx_f01 a1 := by
  unfold mx_f01; rw [ha 4 h4]; exact h

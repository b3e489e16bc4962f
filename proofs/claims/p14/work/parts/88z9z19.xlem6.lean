def mo_late (c b : Int32) : Int32 := if 0 < ((if c.toInt = -1 then 840 else c) - b).toInt then (if c.toInt = -1 then 840 else c) - b else 0
def mo_wage (dk wg lt : Int32) : Int32 := if 0 < (wg - dk * (lt / 10)).toInt then wg - dk * (lt / 10) else 0
def mo_pur (pu pay : Int32) : Int32 := if 100000 < (pu + pay).toInt then 100000 else pu + pay
theorem mx_max0 {v x : Int32} (e : v = if (0 : Int32) < x then x else 0) : v = if 0 < x.toInt then x else 0 := by
  subst e
  have z : (0 : Int32).toInt = 0 := by decide
  by_cases q : (0 : Int32) < x
  · rw [if_pos q, if_pos (by have := Int32.lt_iff_toInt_lt.mp q; omega)]
  · rw [if_neg q, if_neg (by have := Int32.le_iff_toInt_le.mp (Int32.not_lt.mp q); omega)]
theorem mx_min5 {v x : Int32} (e : v = if (100000 : Int32) < x then 100000 else x) : v = if 100000 < x.toInt then 100000 else x := by
  subst e
  have z : (100000 : Int32).toInt = 100000 := by decide
  by_cases q : (100000 : Int32) < x
  · rw [if_pos q, if_pos (by have := Int32.lt_iff_toInt_lt.mp q; omega)]
  · rw [if_neg q, if_neg (by have := Int32.le_iff_toInt_le.mp (Int32.not_lt.mp q); omega)]
theorem mx_nin {N L : List Nat} (h : L.all (fun k => !N.contains k) = true) {k : Nat} (hk : k ∈ L) : N.contains k = false := by
  have h3 := List.all_eq_true.mp h k hk
  cases h4 : N.contains k with
  | false => rfl
  | true => rw [h4] at h3; cases h3
def mx_sp (ar a1 : Nat → Nat → Int32) (dk : Int32) (n : Nat) : Prop := ∀ i : Nat, (a1 12 i = if i < n then ar 45 i else ar 12 i) ∧ (a1 13 i = if i < n then mo_pur (ar 44 i) (mo_wage dk (ar 8 i) (mo_late (ar 46 i) (ar 10 i))) else ar 13 i) ∧ (a1 15 i = if i < n then ar 46 i else ar 15 i) ∧ (a1 16 i = if i < n then mo_late (ar 46 i) (ar 10 i) else ar 16 i) ∧ (a1 17 i = if i < n then ar 47 i else ar 17 i) ∧ (a1 18 i = if i < n then ar 48 i else ar 18 i) ∧ (a1 19 i = if i < n then ar 19 i + ar 47 i else ar 19 i)
theorem mx_sp0 (ar : Nat → Nat → Int32) (dk : Int32) : mx_sp ar ar dk 0 := fun i => by
  simp
def mx_s1 (ar a2 : Nat → Nat → Int32) (dk : Int32) (n : Nat) : Prop := ∀ i : Nat, (a2 12 i = if i = n then ar 45 n else ar 12 i) ∧ (a2 13 i = if i = n then mo_pur (ar 44 n) (mo_wage dk (ar 8 n) (mo_late (ar 46 n) (ar 10 n))) else ar 13 i) ∧ (a2 15 i = if i = n then ar 46 n else ar 15 i) ∧ (a2 16 i = if i = n then mo_late (ar 46 n) (ar 10 n) else ar 16 i) ∧ (a2 17 i = if i = n then ar 47 n else ar 17 i) ∧ (a2 18 i = if i = n then ar 48 n else ar 18 i) ∧ (a2 19 i = if i = n then ar 19 n + ar 47 n else ar 19 i)
theorem mx_s1_of {ar a2 : Nat → Nat → Int32} {dk : Int32} {n : Nat} {x12 x13 x15 x16 x17 x18 x19 : Int32} (h12 : ∀ i, a2 12 i = if i = n then x12 else ar 12 i) (h13 : ∀ i, a2 13 i = if i = n then x13 else ar 13 i) (h15 : ∀ i, a2 15 i = if i = n then x15 else ar 15 i) (h16 : ∀ i, a2 16 i = if i = n then x16 else ar 16 i) (h17 : ∀ i, a2 17 i = if i = n then x17 else ar 17 i) (h18 : ∀ i, a2 18 i = if i = n then x18 else ar 18 i) (h19 : ∀ i, a2 19 i = if i = n then x19 else ar 19 i) (e12 : ar 45 n = x12) (e13 : mo_pur (ar 44 n) (mo_wage dk (ar 8 n) (mo_late (ar 46 n) (ar 10 n))) = x13) (e15 : ar 46 n = x15) (e16 : mo_late (ar 46 n) (ar 10 n) = x16) (e17 : ar 47 n = x17) (e18 : ar 48 n = x18) (e19 : ar 19 n + ar 47 n = x19) : mx_s1 ar a2 dk n := by
  intro i
  rw [e13, e16, e19, e12, e15, e17, e18]
  exact ⟨h12 i, h13 i, h15 i, h16 i, h17 i, h18 i, h19 i⟩
theorem mx_sp_s {ar a1 a2 : Nat → Nat → Int32} {dk : Int32} {n : Nat} (h : mx_sp ar a1 dk n) {N : List Nat} (hf : fA N ar a1) (hN : ([8, 10, 44, 45, 46, 47, 48] : List Nat).all (fun k => !N.contains k) = true) (h1 : mx_s1 a1 a2 dk n) : mx_sp ar a2 dk (n + 1) := by
  have kk : ∀ k, k ∈ ([8, 10, 44, 45, 46, 47, 48] : List Nat) → a1 k = ar k := fun k hk => hf k (mx_nin hN hk)
  have k : ∀ {P Q : Int32} (i : Nat), i ≠ n → (if i < n then P else Q) = (if i < n + 1 then P else Q) := by
    intro P Q i hi
    by_cases q : i < n
    · rw [if_pos q, if_pos (by omega)]
    · rw [if_neg q, if_neg (by omega)]
  intro i
  obtain ⟨g12, g13, g15, g16, g17, g18, g19⟩ := h i
  obtain ⟨w12, w13, w15, w16, w17, w18, w19⟩ := h1 i
  rw [kk 45 (by decide)] at w12
  rw [kk 44 (by decide), kk 8 (by decide), kk 46 (by decide), kk 10 (by decide)] at w13
  rw [kk 46 (by decide)] at w15
  rw [kk 46 (by decide), kk 10 (by decide)] at w16
  rw [kk 47 (by decide)] at w17
  rw [kk 48 (by decide)] at w18
  rw [kk 47 (by decide)] at w19
  rw [w12, w13, w15, w16, w17, w18, w19]
  by_cases q : i = n
  · subst q
    have hl : i < i + 1 := Nat.lt_succ_self i
    have hz : ¬ i < i := Nat.lt_irrefl i
    rw [if_neg hz] at g19
    rw [if_pos rfl, if_pos rfl, if_pos rfl, if_pos rfl, if_pos rfl, if_pos rfl, if_pos rfl, if_pos hl, if_pos hl, if_pos hl, if_pos hl, if_pos hl, if_pos hl, if_pos hl, g19]
    exact ⟨rfl, rfl, rfl, rfl, rfl, rfl, rfl⟩
  · rw [if_neg q, if_neg q, if_neg q, if_neg q, if_neg q, if_neg q, if_neg q, ← k i q, ← k i q, ← k i q, ← k i q, ← k i q, ← k i q, ← k i q]
    exact ⟨g12, g13, g15, g16, g17, g18, g19⟩
theorem mx_sp_fr {ar a1 a2 : Nat → Nat → Int32} {dk : Int32} {n : Nat} {N : List Nat} (h : mx_sp ar a1 dk n) (hf : fA N a1 a2) (hN : ([12, 13, 15, 16, 17, 18, 19] : List Nat).all (fun k => !N.contains k) = true) : mx_sp ar a2 dk n := by
  have kk : ∀ k, k ∈ ([12, 13, 15, 16, 17, 18, 19] : List Nat) → a2 k = a1 k := fun k hk => hf k (mx_nin hN hk)
  intro i
  rw [kk 12 (by decide), kk 13 (by decide), kk 15 (by decide), kk 16 (by decide), kk 17 (by decide), kk 18 (by decide), kk 19 (by decide)]
  exact h i
def mx_c1 (x y z : Nat → Int32) (n : Nat) : Prop := ∀ i : Nat, z i = if i < n then x i else y i
theorem mx_c1_0 (x y : Nat → Int32) : mx_c1 x y y 0 := fun i => by
  rw [if_neg (Nat.not_lt_zero i)]
theorem mx_c1_s {x y z z2 : Nat → Int32} {n : Nat} {v : Int32} (h : mx_c1 x y z n) (h1 : ∀ i, z2 i = if i = n then v else z i) (e : x n = v) : mx_c1 x y z2 (n + 1) := by
  intro i
  rw [h1 i]
  by_cases q : i = n
  · rw [if_pos q, q, if_pos (Nat.lt_succ_self n), e]
  · rw [if_neg q, h i]
    by_cases z9 : i < n
    · rw [if_pos z9, if_pos (by omega)]
    · rw [if_neg z9, if_neg (by omega)]
def mo_dkv (f : Nat → Int) (W : List (Int × Int × List (Nat × Nat × Int))) : Int32 := Int32.ofInt (cd_fv f 6 W)
theorem cd_fi_m {f : Nat → Int} {k : Int} : ∀ (W : List (Int × Int × List (Nat × Nat × Int))) (i : Nat), cd_fi f k W i = -1 → cd_fv f k W = 0 := by
  intro W
  induction W with
  | nil => exact fun _ _ => rfl
  | cons x r ih =>
    intro i h
    by_cases q : x.1 = k ∧ cd_ho f x.2.2 = true
    · rw [cd_fi_y q] at h; omega
    · rw [cd_fi_n q] at h
      show (if x.1 = k ∧ cd_ho f x.2.2 = true then x.2.1 else cd_fv f k r) = 0
      rw [if_neg q]; exact ih (i + 1) h
theorem mo_dkv_0 {f : Nat → Int} {W : List (Int × Int × List (Nat × Nat × Int))} (h : cd_fi f 6 W 0 = -1) : (0 : Int32) = mo_dkv f W := by
  unfold mo_dkv; rw [cd_fi_m W 0 h]; decide
theorem mo_dkv_v {f : Nat → Int} {g : Nat → Nat → Int32} {n j : Nat} (h : cd_fi f 6 (cd_Wf (cd_gX g) n 0) 0 = (j : Int)) : g 2 j = mo_dkv f (cd_Wf (cd_gX g) n 0) := by
  rcases cd_fi_val (f := f) (k := 6) (g := cd_gX g) n 0 with h9 | ⟨j9, h1, h2, h3, h4⟩
  · exfalso; omega
  · unfold mo_dkv; rw [← h4, show j9 = j from by omega]; exact (Int32.ofInt_toInt _).symm

def mx_rn (fv : Nat → Int32) (ar : Nat → Nat → Int32) : Int32 := if (fv 5).toInt = 0 then 0 else if (fv 7).toInt < (fv 5).toInt then ar 3 (fv 7).toInt.toNat else 9
def mx_D (fv : Nat → Int32) (ar : Nat → Nat → Int32) : Nat → Nat → Int32 := fun r => match r with
  | 0 => ar 6
  | 1 => ar 7
  | 2 => ar 9
  | 3 => ar 10
  | 4 => ar 11
  | 5 => ar 14
  | 6 => ar 19
  | 7 => ar 20
  | 8 => ar 21
  | 9 => ar 22
  | 10 => ar 23
  | 11 => ar 28
  | 12 => ar 29
  | 13 => ar 30
  | 14 => ar 31
  | 15 => ar 32
  | 16 => ar 33
  | 17 => ar 34
  | 18 => ar 2
  | 19 => fun i => match i with
    | 0 => fv 10
    | 1 => fv 11
    | 2 => fv 12
    | 3 => fv 7
    | 4 => mx_rn fv ar
    | 5 => fv 22
    | _ => 0
  | _ => fun _ => 0
def mx_G (ar : Nat → Nat → Int32) : Nat → Int := fun i => (ar 5 i).toInt
def mx_S (fv : Nat → Int32) (ar : Nat → Nat → Int32) : Nat → Nat → Int32 := fun r => match r with
  | 0 => ar 44
  | 1 => ar 45
  | 2 => ar 46
  | 3 => ar 47
  | 4 => ar 48
  | 5 => ar 49
  | 6 => ar 50
  | 7 => ar 51
  | 8 => ar 52
  | 9 => ar 53
  | 10 => ar 54
  | 11 => ar 55
  | 12 => ar 56
  | 13 => fun i => if i = 0 then fv 23 else 0
  | 14 => ar 57
  | _ => fun _ => 0
theorem mx_D_fr {M N : List Nat} {f f1 : Nat → Int32} {a a1 : Nat → Nat → Int32} (hf : fM M f f1) (ha : fA N a a1) (hM : ([5, 7, 10, 11, 12, 22] : List Nat).all (fun k => !M.contains k) = true) (hN : ([2, 3, 6, 7, 9, 10, 11, 14, 19, 20, 21, 22, 23, 28, 29, 30, 31, 32, 33, 34] : List Nat).all (fun k => !N.contains k) = true) : mx_D f1 a1 = mx_D f a := by
  have g : ∀ (L : List Nat) (k : Nat) (Q : List Nat), Q.all (fun k => !L.contains k) = true → k ∈ Q → L.contains k = false := by
    intro L k Q h1 h2
    have h3 := List.all_eq_true.mp h1 k h2
    cases h4 : L.contains k with
    | false => rfl
    | true => rw [h4] at h3; cases h3
  have f5 : f1 5 = f 5 := hf 5 (g M 5 _ hM (by decide))
  have f7 : f1 7 = f 7 := hf 7 (g M 7 _ hM (by decide))
  have f10 : f1 10 = f 10 := hf 10 (g M 10 _ hM (by decide))
  have f11 : f1 11 = f 11 := hf 11 (g M 11 _ hM (by decide))
  have f12 : f1 12 = f 12 := hf 12 (g M 12 _ hM (by decide))
  have f22 : f1 22 = f 22 := hf 22 (g M 22 _ hM (by decide))
  have r2 : a1 2 = a 2 := ha 2 (g N 2 _ hN (by decide))
  have r3 : a1 3 = a 3 := ha 3 (g N 3 _ hN (by decide))
  have r6 : a1 6 = a 6 := ha 6 (g N 6 _ hN (by decide))
  have r7 : a1 7 = a 7 := ha 7 (g N 7 _ hN (by decide))
  have r9 : a1 9 = a 9 := ha 9 (g N 9 _ hN (by decide))
  have r10 : a1 10 = a 10 := ha 10 (g N 10 _ hN (by decide))
  have r11 : a1 11 = a 11 := ha 11 (g N 11 _ hN (by decide))
  have r14 : a1 14 = a 14 := ha 14 (g N 14 _ hN (by decide))
  have r19 : a1 19 = a 19 := ha 19 (g N 19 _ hN (by decide))
  have r20 : a1 20 = a 20 := ha 20 (g N 20 _ hN (by decide))
  have r21 : a1 21 = a 21 := ha 21 (g N 21 _ hN (by decide))
  have r22 : a1 22 = a 22 := ha 22 (g N 22 _ hN (by decide))
  have r23 : a1 23 = a 23 := ha 23 (g N 23 _ hN (by decide))
  have r28 : a1 28 = a 28 := ha 28 (g N 28 _ hN (by decide))
  have r29 : a1 29 = a 29 := ha 29 (g N 29 _ hN (by decide))
  have r30 : a1 30 = a 30 := ha 30 (g N 30 _ hN (by decide))
  have r31 : a1 31 = a 31 := ha 31 (g N 31 _ hN (by decide))
  have r32 : a1 32 = a 32 := ha 32 (g N 32 _ hN (by decide))
  have r33 : a1 33 = a 33 := ha 33 (g N 33 _ hN (by decide))
  have r34 : a1 34 = a 34 := ha 34 (g N 34 _ hN (by decide))
  unfold mx_D mx_rn
  rw [f5, f7, f10, f11, f12, f22, r2, r3, r6, r7, r9, r10, r11, r14, r19, r20, r21, r22, r23, r28, r29, r30, r31, r32, r33, r34]
theorem mo_dv10 {v x : Int32} {b c : Int} (e : v = x / 10) (h : 0 ≤ x.toInt ∧ x.toInt ≤ b) (hc : b / 10 ≤ c) : v.toInt = x.toInt / 10 ∧ 0 ≤ v.toInt ∧ v.toInt ≤ c := by
  have h1 : v.toInt = x.toInt / 10 := by
    rw [e, Int32.toInt_div_of_ne_right x 10 (by decide), show (10 : Int32).toInt = 10 from by decide]
    exact Int.tdiv_eq_ediv_of_nonneg h.1
  omega
theorem mo_mul {v x y : Int32} (e : v = x * y) (hx : 0 ≤ x.toInt ∧ x.toInt ≤ 10000000) (hy : 0 ≤ y.toInt ∧ y.toInt ≤ 50) : v.toInt = x.toInt * y.toInt ∧ 0 ≤ v.toInt ∧ v.toInt ≤ 500000000 := by
  have h0 : 0 ≤ x.toInt * y.toInt := Int.mul_nonneg hx.1 hy.1
  have h1 : x.toInt * y.toInt ≤ 10000000 * y.toInt := Int.mul_le_mul_of_nonneg_right hx.2 hy.1
  have h2 : v.toInt = x.toInt * y.toInt := by rw [e, Int32.toInt_mul, iv_bm (by omega) (by omega)]
  omega
theorem mo_mxI {v x y : Int32} (e : v = if x < y then y else x) : v.toInt = if x.toInt < y.toInt then y.toInt else x.toInt := by
  subst e
  by_cases q : x < y
  · rw [if_pos q, if_pos (Int32.lt_iff_toInt_lt.mp q)]
  · rw [if_neg q, if_neg (fun w => q (Int32.lt_iff_toInt_lt.mpr w))]
theorem mo_mnI {v x y : Int32} (e : v = if y < x then y else x) : v.toInt = mo_mn y.toInt x.toInt := by
  subst e
  unfold mo_mn
  by_cases q : y < x
  · rw [if_pos q, if_pos (Int32.lt_iff_toInt_lt.mp q)]
  · rw [if_neg q, if_neg (fun w => q (Int32.lt_iff_toInt_lt.mpr w))]

def mm_rn (fv : Nat → Int32) (ar : Nat → Nat → Int32) : Int32 := if (fv 7).toInt = 0 then 0 else if (fv 3).toInt < (fv 7).toInt then ar 5 (fv 3).toInt.toNat else 9
theorem mm_rnI {fv : Nat → Int32} {ar : Nat → Nat → Int32} {r : Int32} (h : wt_on r (fv 3) (fv 7) (ar 5)) : r = mm_rn fv ar := by
  unfold mm_rn
  rcases h with ⟨h1, h2⟩ | ⟨h1, h2, h3⟩ | ⟨h1, h2, h3⟩
  · rw [if_pos h1]; exact h2
  · rw [if_neg h1, if_pos h2]; exact h3
  · rw [if_neg h1, if_neg (by omega)]; exact h3
def mm_D (w9 : Nat → Int32) (fv : Nat → Int32) (ar : Nat → Nat → Int32) : Nat → Nat → Int32 := fun r => match r with
  | 0 => ar 9
  | 1 => ar 10
  | 2 => ar 12
  | 3 => ar 13
  | 4 => ar 14
  | 5 => ar 17
  | 6 => w9
  | 7 => ar 20
  | 8 => ar 21
  | 9 => ar 22
  | 10 => ar 23
  | 11 => ar 25
  | 12 => ar 26
  | 13 => ar 27
  | 14 => ar 28
  | 15 => ar 29
  | 16 => ar 30
  | 17 => ar 31
  | 18 => ar 19
  | 19 => fun i => match i with
    | 0 => fv 32
    | 1 => fv 34
    | 2 => fv 35
    | 3 => fv 3
    | 4 => mm_rn fv ar
    | 5 => fv 84
    | _ => 0
  | _ => fun _ => 0
def mm_T (fv : Nat → Int32) (ar : Nat → Nat → Int32) : Nat → Nat → Int32 := fun r => match r with
  | 0 => ar 16
  | 1 => ar 15
  | 2 => ar 72
  | 3 => ar 74
  | 4 => ar 75
  | 5 => ar 71
  | 6 => ar 68
  | 7 => ar 24
  | 8 => ar 78
  | 9 => ar 79
  | 10 => ar 76
  | 11 => ar 77
  | 12 => ar 80
  | 13 => fun i => if i = 0 then fv 36 else 0
  | 14 => ar 69
  | 15 => ar 70
  | 16 => ar 18
  | _ => fun _ => 0
theorem mm_nin {N L : List Nat} (h : L.all (fun k => !N.contains k) = true) {k : Nat} (hk : k ∈ L) : N.contains k = false := by
  have h3 := List.all_eq_true.mp h k hk
  cases h4 : N.contains k with
  | false => rfl
  | true => rw [h4] at h3; cases h3
theorem mm_D_fr {w9 : Nat → Int32} {M N : List Nat} {f f1 : Nat → Int32} {a a1 : Nat → Nat → Int32} (hf : fM M f f1) (ha : fA N a a1) (hM : ([3, 7, 32, 34, 35, 84] : List Nat).all (fun k => !M.contains k) = true) (hN : ([5, 9, 10, 12, 13, 14, 17, 19, 20, 21, 22, 23, 25, 26, 27, 28, 29, 30, 31] : List Nat).all (fun k => !N.contains k) = true) : mm_D w9 f1 a1 = mm_D w9 f a := by
  have ff : ∀ k, k ∈ ([3, 7, 32, 34, 35, 84] : List Nat) → f1 k = f k := fun k hk => hf k (mm_nin hM hk)
  have aa : ∀ k, k ∈ ([5, 9, 10, 12, 13, 14, 17, 19, 20, 21, 22, 23, 25, 26, 27, 28, 29, 30, 31] : List Nat) → a1 k = a k := fun k hk => ha k (mm_nin hN hk)
  unfold mm_D mm_rn
  rw [ff 3 (by decide), ff 7 (by decide), ff 32 (by decide), ff 34 (by decide), ff 35 (by decide), ff 84 (by decide), aa 5 (by decide), aa 9 (by decide), aa 10 (by decide), aa 12 (by decide), aa 13 (by decide), aa 14 (by decide), aa 17 (by decide), aa 19 (by decide), aa 20 (by decide), aa 21 (by decide), aa 22 (by decide), aa 23 (by decide), aa 25 (by decide), aa 26 (by decide), aa 27 (by decide), aa 28 (by decide), aa 29 (by decide), aa 30 (by decide), aa 31 (by decide)]
def mm_R (G : Nat → Int) (fv : Nat → Int32) (ar : Nat → Nat → Int32) : Prop := mo_R (mm_D (fun _ => 0) fv ar) ∧ mo_GR G ∧ mo_R2 (mm_D (fun _ => 0) fv ar)
theorem mm_R_fr {G : Nat → Int} {M N : List Nat} {f f1 : Nat → Int32} {a a1 : Nat → Nat → Int32} (h : mm_R G f a) (hf : fM M f f1) (ha : fA N a a1) (h3 : M.contains 3 = false) (h7 : M.contains 7 = false) (k5 : N.contains 5 = false) (k9 : N.contains 9 = false) (k10 : N.contains 10 = false) (k13 : N.contains 13 = false) (k14 : N.contains 14 = false) (k17 : N.contains 17 = false) (k19 : N.contains 19 = false) (k28 : N.contains 28 = false) (k31 : N.contains 31 = false) : mm_R G f1 a1 := by
  obtain ⟨⟨b1, b2, b3, b4, b5, b6, b7⟩, g, c1, c2⟩ := h
  refine ⟨⟨?_, ?_, ?_, ?_, ?_, ?_, ?_⟩, g, ?_, ?_⟩
  · show ∀ i, 0 ≤ (a1 19 i).toInt ∧ (a1 19 i).toInt ≤ 11
    rw [ha 19 k19]; exact b1
  · show ∀ i, 0 ≤ (a1 10 i).toInt ∧ (a1 10 i).toInt ≤ 11
    rw [ha 10 k10]; exact b2
  · show ∀ i, 0 ≤ (a1 28 i).toInt ∧ (a1 28 i).toInt ≤ 719
    rw [ha 28 k28]; exact b3
  · show ∀ i, 0 ≤ (a1 9 i).toInt ∧ (a1 9 i).toInt ≤ 11
    rw [ha 9 k9]; exact b4
  · show ∀ i, 0 ≤ (a1 14 i).toInt ∧ (a1 14 i).toInt ≤ 99
    rw [ha 14 k14]; exact b5
  · show ∀ i, 0 ≤ (a1 13 i).toInt ∧ (a1 13 i).toInt ≤ 719
    rw [ha 13 k13]; exact b6
  · show 0 ≤ (mm_rn f1 a1).toInt ∧ (mm_rn f1 a1).toInt ≤ 9
    unfold mm_rn
    rw [hf 3 h3, hf 7 h7, ha 5 k5]; exact b7
  · show ∀ i, 0 ≤ (a1 31 i).toInt ∧ (a1 31 i).toInt ≤ 199
    rw [ha 31 k31]; exact c1
  · show ∀ i, 0 ≤ (a1 17 i).toInt ∧ (a1 17 i).toInt ≤ 9
    rw [ha 17 k17]; exact c2
def mm_w (G : Nat → Int) (pc : Int) (a b : Nat) (r : Int) : Prop := (G (12 * a + b) ≤ 1089 ∧ r = mo_wk G pc a b) ∨ (G (12 * a + b) = 10000000 ∧ 100000 ≤ r ∧ r ≤ 600000)
theorem mm_wI {G : Nat → Int} {pc : Int} {a b : Nat} {f r : Int} (hp : 18 ≤ pc ∧ pc ≤ 50) (h : wt_rl (G (12 * a + b)) f) (hr : r = (f * pc + 9) / 10) : mm_w G pc a b r := by
  rcases h with ⟨h1, h2⟩ | ⟨h1, h2⟩
  · refine Or.inl ⟨h1, ?_⟩
    unfold mo_wk mo_min
    rw [if_neg (by omega), hr, h2]
  · refine Or.inr ⟨h1, ?_, ?_⟩ <;> rw [hr, h2] <;> omega
theorem mm_drI {D : Nat → Nat → Int32} {G : Nat → Int} {k : Nat} {v : Int} {f c : Int} (hp : mo_dp (D 19 4).toInt (D 7 (D 11 k).toInt.toNat).toInt = c) (h : wt_rl (mo_ln D G k) f) (hv : v = if (f * c + 9) / 10 < 1 then 1 else (f * c + 9) / 10) : mo_ln D G k < 10000000 → v = mo_dr D G k := by
  intro hl
  rcases h with ⟨h1, h2⟩ | ⟨h1, h2⟩
  · unfold mo_dr
    rw [hp, hv, h2, show mo_min (mo_ln D G k) c = (mo_ln D G k * c + 9) / 10 from if_neg (by omega)]
  · omega
theorem mm_mul {v x y : Int32} (e : v = x * y) (hx : 0 ≤ x.toInt ∧ x.toInt ≤ 100000) (hy : 18 ≤ y.toInt ∧ y.toInt ≤ 50) : v.toInt = x.toInt * y.toInt ∧ 0 ≤ v.toInt ∧ v.toInt ≤ 5000000 := by
  have h0 : 0 ≤ x.toInt * y.toInt := Int.mul_nonneg hx.1 (by omega)
  have h1 : x.toInt * y.toInt ≤ 100000 * y.toInt := Int.mul_le_mul_of_nonneg_right hx.2 (by omega)
  have h2 : v.toInt = x.toInt * y.toInt := by rw [e, Int32.toInt_mul, iv_bm (by omega) (by omega)]
  omega

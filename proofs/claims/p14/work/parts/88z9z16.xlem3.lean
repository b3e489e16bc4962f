theorem mx_S_ne {f : Nat → Int32} {a a1 : Nat → Nat → Int32} {k : Nat} {g : Nat → Int32} (e : a1 = upM a k g) : ∀ j, j ≠ k → a1 j = a j := by
  intro j hj
  rw [e]
  show (if j = k then g else a j) = a j
  rw [if_neg hj]
theorem mx_S_at {a a1 : Nat → Nat → Int32} {k : Nat} {g : Nat → Int32} (e : a1 = upM a k g) : a1 k = g := by
  rw [e]
  show (if k = k then g else a k) = g
  rw [if_pos rfl]
theorem mx_S_put {f : Nat → Int32} {a a1 : Nat → Nat → Int32} {r n : Nat} {x : Int32} (hr : r ≤ 12) (e : a1 = upM a (44 + r) (upd (a (44 + r)) n x)) : mx_S f a1 = mo_se (mx_S f a) r n x := by
  have ne := mx_S_ne (f := f) e
  have at_ := mx_S_at e
  have hS : ∀ j, j ≤ 12 → mx_S f a j = a (44 + j) := by
    intro j hj
    have h : j = 0 ∨ j = 1 ∨ j = 2 ∨ j = 3 ∨ j = 4 ∨ j = 5 ∨ j = 6 ∨ j = 7 ∨ j = 8 ∨ j = 9 ∨ j = 10 ∨ j = 11 ∨ j = 12 := by omega
    rcases h with h | h | h | h | h | h | h | h | h | h | h | h | h <;> subst h <;> rfl
  have row : ∀ j, j ≤ 12 → a1 (44 + j) = mo_se (mx_S f a) r n x j := by
    intro j hj
    by_cases q : j = r
    · subst q
      rw [at_]
      funext i
      rw [mo_se_at, hS j hj]
      show (if i = n then x else a (44 + j) i) = _
      by_cases c : i = n
      · rw [if_pos c, if_pos ⟨rfl, c⟩]
      · rw [if_neg c, if_neg (fun w => c w.2)]
    · rw [ne (44 + j) (by omega), mo_se_rw q, hS j hj]
  refine mx_S_ext (row 0 (by decide)) (row 1 (by decide)) (row 2 (by decide)) (row 3 (by decide)) (row 4 (by decide)) (row 5 (by decide)) (row 6 (by decide)) (row 7 (by decide)) (row 8 (by decide)) (row 9 (by decide)) (row 10 (by decide)) (row 11 (by decide)) (row 12 (by decide)) ?_ ?_ (fun j hj => by rw [mo_se_rw (by omega)]; exact mx_S_15 hj)
  · rw [mo_se_rw (by omega)]; rfl
  · rw [mo_se_rw (by omega), ne 57 (by omega)]; rfl
theorem mx_S_busy {f : Nat → Int32} {a a1 : Nat → Nat → Int32} {n : Nat} {x : Int32} (e : a1 = upM a 57 (upd (a 57) n x)) : mx_S f a1 = mo_se (mx_S f a) 14 n x := by
  have ne := mx_S_ne (f := f) e
  have at_ := mx_S_at e
  have o : ∀ r, r ≠ 14 → mo_se (mx_S f a) 14 n x r = mx_S f a r := fun r h => mo_se_rw h
  refine mx_S_ext ?_ ?_ ?_ ?_ ?_ ?_ ?_ ?_ ?_ ?_ ?_ ?_ ?_ ?_ ?_ (fun j hj => by rw [o j (by omega)]; exact mx_S_15 hj)
  · rw [o 0 (by decide), ne 44 (by decide)]; rfl
  · rw [o 1 (by decide), ne 45 (by decide)]; rfl
  · rw [o 2 (by decide), ne 46 (by decide)]; rfl
  · rw [o 3 (by decide), ne 47 (by decide)]; rfl
  · rw [o 4 (by decide), ne 48 (by decide)]; rfl
  · rw [o 5 (by decide), ne 49 (by decide)]; rfl
  · rw [o 6 (by decide), ne 50 (by decide)]; rfl
  · rw [o 7 (by decide), ne 51 (by decide)]; rfl
  · rw [o 8 (by decide), ne 52 (by decide)]; rfl
  · rw [o 9 (by decide), ne 53 (by decide)]; rfl
  · rw [o 10 (by decide), ne 54 (by decide)]; rfl
  · rw [o 11 (by decide), ne 55 (by decide)]; rfl
  · rw [o 12 (by decide), ne 56 (by decide)]; rfl
  · rw [o 13 (by decide)]; rfl
  · rw [at_]
    funext i
    rw [mo_se_at]
    show (if i = n then x else a 57 i) = _
    by_cases c : i = n
    · rw [if_pos c, if_pos ⟨rfl, c⟩]
    · rw [if_neg c, if_neg (fun w => c w.2)]; rfl
theorem mx_S_fund {f f1 : Nat → Int32} {a : Nat → Nat → Int32} {x : Int32} (e : f1 = upd f 23 x) : mx_S f1 a = mo_se (mx_S f a) 13 0 x := by
  have o : ∀ r, r ≠ 13 → mo_se (mx_S f a) 13 0 x r = mx_S f a r := fun r h => mo_se_rw h
  have e23 : f1 23 = x := by rw [e]; exact if_pos rfl
  refine mx_S_ext ?_ ?_ ?_ ?_ ?_ ?_ ?_ ?_ ?_ ?_ ?_ ?_ ?_ ?_ ?_ (fun j hj => by rw [o j (by omega)]; exact mx_S_15 hj)
  · rw [o 0 (by decide)]; rfl
  · rw [o 1 (by decide)]; rfl
  · rw [o 2 (by decide)]; rfl
  · rw [o 3 (by decide)]; rfl
  · rw [o 4 (by decide)]; rfl
  · rw [o 5 (by decide)]; rfl
  · rw [o 6 (by decide)]; rfl
  · rw [o 7 (by decide)]; rfl
  · rw [o 8 (by decide)]; rfl
  · rw [o 9 (by decide)]; rfl
  · rw [o 10 (by decide)]; rfl
  · rw [o 11 (by decide)]; rfl
  · rw [o 12 (by decide)]; rfl
  · funext i
    rw [mo_se_at, e23]
    by_cases c : i = 0
    · rw [if_pos c, if_pos ⟨rfl, c⟩]
    · rw [if_neg c, if_neg (fun w => c w.2)]; show 0 = (if i = 0 then f 23 else 0); rw [if_neg c]
  · rw [o 14 (by decide)]; rfl
theorem mx_cut {v x : Int32} (e : v = if (1000000 : Int32) < x then 1000000 else x) : v = mo_cut x := by
  subst e
  unfold mo_cut
  have z : (1000000 : Int32).toInt = 1000000 := by decide
  by_cases q : (1000000 : Int32) < x
  · rw [if_pos q, if_pos (by have := Int32.lt_iff_toInt_lt.mp q; omega)]
  · rw [if_neg q, if_neg (by have := Int32.le_iff_toInt_le.mp (Int32.not_lt.mp q); omega)]

theorem fA_all {N L : List Nat} {a a1 : Nat → Nat → Int32} (h : fA N a a1) (hN : L.all (fun k => !N.contains k) = true) : ∀ r, r ∈ L → a1 r = a r := by
  intro r hr
  have h3 := List.all_eq_true.mp hN r hr
  refine h r ?_
  cases h4 : N.contains r with
  | false => rfl
  | true => rw [h4] at h3; cases h3
theorem mx_S_ext {f1 : Nat → Int32} {a1 : Nat → Nat → Int32} {T : Nat → Nat → Int32} (h0 : a1 44 = T 0) (h1 : a1 45 = T 1) (h2 : a1 46 = T 2) (h3 : a1 47 = T 3) (h4 : a1 48 = T 4) (h5 : a1 49 = T 5) (h6 : a1 50 = T 6) (h7 : a1 51 = T 7) (h8 : a1 52 = T 8) (h9 : a1 53 = T 9) (h10 : a1 54 = T 10) (h11 : a1 55 = T 11) (h12 : a1 56 = T 12) (h13 : (fun i => if i = 0 then f1 23 else 0) = T 13) (h14 : a1 57 = T 14) (h15 : ∀ r, 15 ≤ r → T r = fun _ => 0) : mx_S f1 a1 = T := by
  funext r
  match r with
  | 0 => exact h0
  | 1 => exact h1
  | 2 => exact h2
  | 3 => exact h3
  | 4 => exact h4
  | 5 => exact h5
  | 6 => exact h6
  | 7 => exact h7
  | 8 => exact h8
  | 9 => exact h9
  | 10 => exact h10
  | 11 => exact h11
  | 12 => exact h12
  | 13 => exact h13
  | 14 => exact h14
  | n + 15 => rw [h15 (n + 15) (by omega)]; rfl
theorem mx_S_15 {fv : Nat → Int32} {ar : Nat → Nat → Int32} {r : Nat} (h : 15 ≤ r) : mx_S fv ar r = fun _ => 0 := by
  match r, h with
  | n + 15, _ => rfl
theorem mx_S_eq {f f1 : Nat → Int32} {a a1 : Nat → Nat → Int32} (hr : ∀ r, r ∈ ([44, 45, 46, 47, 48, 49, 50, 51, 52, 53, 54, 55, 56, 57] : List Nat) → a1 r = a r) (h23 : f1 23 = f 23) : mx_S f1 a1 = mx_S f a := by
  refine mx_S_ext (hr 44 (by decide)) (hr 45 (by decide)) (hr 46 (by decide)) (hr 47 (by decide)) (hr 48 (by decide)) (hr 49 (by decide)) (hr 50 (by decide)) (hr 51 (by decide)) (hr 52 (by decide)) (hr 53 (by decide)) (hr 54 (by decide)) (hr 55 (by decide)) (hr 56 (by decide)) ?_ (hr 57 (by decide)) (fun r h => mx_S_15 h)
  show (fun i => if i = 0 then f1 23 else 0) = (fun i => if i = 0 then f 23 else 0)
  rw [h23]
theorem mx_go_n {f f1 : Nat → Int32} {a a1 : Nat → Nat → Int32} {p c : Nat} {m t : Int} (hr : ∀ r, r ∈ ([44, 45, 46, 47, 48, 50, 51, 52, 53, 54, 55, 56, 57] : List Nat) → a1 r = a r) (h23 : f1 23 = f 23) (h49 : a1 49 = upd (a 49) p (Int32.ofInt t)) (hn : 10000000 ≤ mx_G a (12 * c + mo_goal (mx_D f a) p t)) : mx_S f1 a1 = mo_go (mx_D f a) (mx_G a) (mx_S f a) p c m t := by
  have e : mo_go (mx_D f a) (mx_G a) (mx_S f a) p c m t = mo_se (mx_S f a) 5 p (Int32.ofInt t) := by unfold mo_go; rw [if_pos hn]
  rw [e]
  have o : ∀ r, r ≠ 5 → mo_se (mx_S f a) 5 p (Int32.ofInt t) r = mx_S f a r := fun r h => mo_se_rw h
  refine mx_S_ext ?_ ?_ ?_ ?_ ?_ ?_ ?_ ?_ ?_ ?_ ?_ ?_ ?_ ?_ ?_ (fun r h => by rw [o r (by omega)]; exact mx_S_15 h)
  · rw [o 0 (by decide)]; exact hr 44 (by decide)
  · rw [o 1 (by decide)]; exact hr 45 (by decide)
  · rw [o 2 (by decide)]; exact hr 46 (by decide)
  · rw [o 3 (by decide)]; exact hr 47 (by decide)
  · rw [o 4 (by decide)]; exact hr 48 (by decide)
  · rw [h49]; rfl
  · rw [o 6 (by decide)]; exact hr 50 (by decide)
  · rw [o 7 (by decide)]; exact hr 51 (by decide)
  · rw [o 8 (by decide)]; exact hr 52 (by decide)
  · rw [o 9 (by decide)]; exact hr 53 (by decide)
  · rw [o 10 (by decide)]; exact hr 54 (by decide)
  · rw [o 11 (by decide)]; exact hr 55 (by decide)
  · rw [o 12 (by decide)]; exact hr 56 (by decide)
  · rw [o 13 (by decide)]; show (fun i => if i = 0 then f1 23 else 0) = (fun i => if i = 0 then f 23 else 0); rw [h23]
  · rw [o 14 (by decide)]; exact hr 57 (by decide)
theorem mx_go_y {f f1 : Nat → Int32} {a a1 : Nat → Nat → Int32} {p c : Nat} {m t len wk : Int} {x2 x1 : Int32} (hr : ∀ r, r ∈ ([44, 48, 50, 51, 52, 53, 54, 55, 56, 57] : List Nat) → a1 r = a r) (h23 : f1 23 = f 23) (h49 : a1 49 = upd (a 49) p (Int32.ofInt t)) (h46 : ∀ i, a1 46 i = if i = p then x2 else a 46 i) (h47 : ∀ i, a1 47 i = if i = p then a 47 p + Int32.ofInt len else a 47 i) (h45 : ∀ i, a1 45 i = if i = p then x1 else a 45 i) (hlen : mx_G a (12 * c + mo_goal (mx_D f a) p t) = len) (hwk : mo_wk (mx_G a) (mo_pc (mx_D f a) (a 45 p) p) c (mo_goal (mx_D f a) p t) = wk) (hx2 : x2 = if t = -1 ∧ m + wk < 840 then Int32.ofInt (m + wk) else a 46 p) (hx1 : x1 = mo_shoe (a 45 p) (mo_worn (a 19 p + a 47 p) (Int32.ofInt len))) (hn : len < 10000000) : mx_S f1 a1 = mo_go (mx_D f a) (mx_G a) (mx_S f a) p c m t := by
  have e : mo_go (mx_D f a) (mx_G a) (mx_S f a) p c m t = mo_se (mo_se (mo_se (mo_se (mx_S f a) 5 p (Int32.ofInt t)) 2 p x2) 3 p (a 47 p + Int32.ofInt len)) 1 p x1 := by
    unfold mo_go
    rw [if_neg (by omega), hlen]
    have w : mo_wk (mx_G a) (mo_pc (mx_D f a) (mx_S f a 1 p) p) c (mo_goal (mx_D f a) p t) = wk := hwk
    rw [w, hx2, hx1]
    rfl
  rw [e]
  have o : ∀ r, r ≠ 5 → r ≠ 2 → r ≠ 3 → r ≠ 1 → mo_se (mo_se (mo_se (mo_se (mx_S f a) 5 p (Int32.ofInt t)) 2 p x2) 3 p (a 47 p + Int32.ofInt len)) 1 p x1 r = mx_S f a r := fun r h5 h2 h3 h1 => by rw [mo_se_rw h1, mo_se_rw h3, mo_se_rw h2, mo_se_rw h5]
  refine mx_S_ext ?_ ?_ ?_ ?_ ?_ ?_ ?_ ?_ ?_ ?_ ?_ ?_ ?_ ?_ ?_ (fun r h => by rw [o r (by omega) (by omega) (by omega) (by omega)]; exact mx_S_15 h)
  · rw [o 0 (by decide) (by decide) (by decide) (by decide)]; exact hr 44 (by decide)
  · funext i
    rw [h45 i, mo_se_at, mo_se_rw (by decide), mo_se_rw (by decide), mo_se_rw (by decide)]
    by_cases q : i = p
    · rw [if_pos q, if_pos ⟨rfl, q⟩]
    · rw [if_neg q, if_neg (fun w => q w.2)]; rfl
  · funext i
    rw [h46 i, mo_se_rw (by decide), mo_se_rw (by decide), mo_se_at, mo_se_rw (by decide)]
    by_cases q : i = p
    · rw [if_pos q, if_pos ⟨rfl, q⟩]
    · rw [if_neg q, if_neg (fun w => q w.2)]; rfl
  · funext i
    rw [h47 i, mo_se_rw (by decide), mo_se_at, mo_se_rw (by decide), mo_se_rw (by decide)]
    by_cases q : i = p
    · rw [if_pos q, if_pos ⟨rfl, q⟩]
    · rw [if_neg q, if_neg (fun w => q w.2)]; rfl
  · rw [o 4 (by decide) (by decide) (by decide) (by decide)]; exact hr 48 (by decide)
  · rw [h49, mo_se_rw (by decide), mo_se_rw (by decide), mo_se_rw (by decide)]; rfl
  · rw [o 6 (by decide) (by decide) (by decide) (by decide)]; exact hr 50 (by decide)
  · rw [o 7 (by decide) (by decide) (by decide) (by decide)]; exact hr 51 (by decide)
  · rw [o 8 (by decide) (by decide) (by decide) (by decide)]; exact hr 52 (by decide)
  · rw [o 9 (by decide) (by decide) (by decide) (by decide)]; exact hr 53 (by decide)
  · rw [o 10 (by decide) (by decide) (by decide) (by decide)]; exact hr 54 (by decide)
  · rw [o 11 (by decide) (by decide) (by decide) (by decide)]; exact hr 55 (by decide)
  · rw [o 12 (by decide) (by decide) (by decide) (by decide)]; exact hr 56 (by decide)
  · rw [o 13 (by decide) (by decide) (by decide) (by decide)]; show (fun i => if i = 0 then f1 23 else 0) = (fun i => if i = 0 then f 23 else 0); rw [h23]
  · rw [o 14 (by decide) (by decide) (by decide) (by decide)]; exact hr 57 (by decide)
theorem mx_shoe {s w d x : Int32} (h0 : 0 < w.toInt) (hd : d = s - w) (hx : x = if 0 < d then d else 0) : x = mo_shoe s w := by
  unfold mo_shoe
  rw [if_pos h0, hx, hd]
  have z : (0 : Int32).toInt = 0 := by decide
  by_cases q : (0 : Int32) < s - w
  · have := Int32.lt_iff_toInt_lt.mp q
    rw [if_pos q, if_neg (by omega)]
  · have := Int32.le_iff_toInt_le.mp (Int32.not_lt.mp q)
    rw [if_neg q]
    by_cases c : (s - w).toInt < 0
    · rw [if_pos c]
    · rw [if_neg c]
      exact Int32.toInt_inj.mp (by omega)
theorem mx_shoe0 {s w : Int32} (h0 : ¬ 0 < w.toInt) : s = mo_shoe s w := by
  unfold mo_shoe
  rw [if_neg h0]
theorem mx_C_st {f f1 : Nat → Int32} {a a1 : Nat → Nat → Int32} {p : Nat} {s v : Int32} (h : mx_C f a) (hD : mx_D f1 a1 = mx_D f a) (h10 : f1 10 = f 10) (h45 : ∀ i, a1 45 i = if i = p then s else a 45 i) (h64 : a1 64 = upd (a 64) p v) (hv : v.toInt = mo_pc (mx_D f a) s p) : mx_C f1 a1 := by
  intro q hq
  rw [hD, h64, h45 q]
  show (if q = p then v else a 64 q).toInt = _
  by_cases e : q = p
  · rw [if_pos e, if_pos e, hv, e]
  · rw [if_neg e, if_neg e]
    exact h q (by rw [← h10]; exact hq)

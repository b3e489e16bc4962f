def cd_dp (a b : Nat) : List Nat → List (Nat × Nat × Int) → List Nat × List (Nat × Nat × Int)
  | [], o => ([], o)
  | x :: r, o => if a ≤ x ∧ x ≤ b then cd_dp a b r (o ++ [(x, 0, 0)]) else (x :: r, o)
theorem cd_dp_y {a b x : Nat} {r : List Nat} {o : List (Nat × Nat × Int)} (h : a ≤ x ∧ x ≤ b) : cd_dp a b (x :: r) o = cd_dp a b r (o ++ [(x, 0, 0)]) := by
  show (if a ≤ x ∧ x ≤ b then _ else _) = _
  rw [if_pos h]
theorem cd_dp_n {a b x : Nat} {r : List Nat} {o : List (Nat × Nat × Int)} (h : ¬ (a ≤ x ∧ x ≤ b)) : cd_dp a b (x :: r) o = (x :: r, o) := by
  show (if a ≤ x ∧ x ≤ b then _ else _) = _
  rw [if_neg h]
def cd_mc (T : Nat → Nat) (N : Nat → Int) : Nat → Nat → Nat → List Nat → List (Nat × Nat × Int) → List (Nat × Nat × Int)
  | 0, _, _, _, o => o
  | n + 1, s, p, r, o =>
    if s = 0 then
      if T p = 22 then cd_mc T N n 0 (p + 1) (12 :: r) o
      else if T p = 27 then cd_mc T N n 0 (p + 1) (15 :: r) o
      else if T p < 11 then cd_mc T N n 1 (p + 1) r (o ++ [(T p - 7, 0, 0)])
      else cd_mc T N n 2 (p + 1) r o
    else if s = 2 then cd_mc T N n 3 (p + 1) r o
    else if s = 3 then cd_mc T N n 1 (p + 1) r (o ++ [(T (p - 2) - 7, T (p - 1) + 41, N p)])
    else if T p = 28 ∧ 15 ∈ r then cd_mc T N n 1 (p + 1) (cd_dp 13 14 (cd_dp 12 12 r o).1 (cd_dp 12 12 r o).2).1.tail (cd_dp 13 14 (cd_dp 12 12 r o).1 (cd_dp 12 12 r o).2).2
    else if T p = 24 then cd_mc T N n 0 (p + 1) (13 :: (cd_dp 13 13 (cd_dp 12 12 r o).1 (cd_dp 12 12 r o).2).1) (cd_dp 13 13 (cd_dp 12 12 r o).1 (cd_dp 12 12 r o).2).2
    else if T p = 25 then cd_mc T N n 0 (p + 1) (14 :: (cd_dp 13 14 (cd_dp 12 12 r o).1 (cd_dp 12 12 r o).2).1) (cd_dp 13 14 (cd_dp 12 12 r o).1 (cd_dp 12 12 r o).2).2
    else (cd_dp 13 14 (cd_dp 12 12 r o).1 (cd_dp 12 12 r o).2).2
def cd_m (T : Nat → Nat) (N : Nat → Int) (s p : Nat) (r : List Nat) (o : List (Nat × Nat × Int)) : List (Nat × Nat × Int) := cd_mc T N (400 - p) s p r o
theorem cd_m_e {T : Nat → Nat} {N : Nat → Int} {s p : Nat} {r : List Nat} {o : List (Nat × Nat × Int)} (h : p < 400) : cd_m T N s p r o = (if s = 0 then
      if T p = 22 then cd_m T N 0 (p + 1) (12 :: r) o
      else if T p = 27 then cd_m T N 0 (p + 1) (15 :: r) o
      else if T p < 11 then cd_m T N 1 (p + 1) r (o ++ [(T p - 7, 0, 0)])
      else cd_m T N 2 (p + 1) r o
    else if s = 2 then cd_m T N 3 (p + 1) r o
    else if s = 3 then cd_m T N 1 (p + 1) r (o ++ [(T (p - 2) - 7, T (p - 1) + 41, N p)])
    else if T p = 28 ∧ 15 ∈ r then cd_m T N 1 (p + 1) (cd_dp 13 14 (cd_dp 12 12 r o).1 (cd_dp 12 12 r o).2).1.tail (cd_dp 13 14 (cd_dp 12 12 r o).1 (cd_dp 12 12 r o).2).2
    else if T p = 24 then cd_m T N 0 (p + 1) (13 :: (cd_dp 13 13 (cd_dp 12 12 r o).1 (cd_dp 12 12 r o).2).1) (cd_dp 13 13 (cd_dp 12 12 r o).1 (cd_dp 12 12 r o).2).2
    else if T p = 25 then cd_m T N 0 (p + 1) (14 :: (cd_dp 13 14 (cd_dp 12 12 r o).1 (cd_dp 12 12 r o).2).1) (cd_dp 13 14 (cd_dp 12 12 r o).1 (cd_dp 12 12 r o).2).2
    else (cd_dp 13 14 (cd_dp 12 12 r o).1 (cd_dp 12 12 r o).2).2) := by
  unfold cd_m
  have e : 400 - p = (400 - (p + 1)) + 1 := by omega
  rw [e]; rfl
theorem cd_m0_not {T : Nat → Nat} {N : Nat → Int} {p : Nat} {r : List Nat} {o : List (Nat × Nat × Int)} (h : p < 400) (h1 : T p = 22) : cd_m T N 0 p r o = cd_m T N 0 (p + 1) (12 :: r) o := by
  rw [cd_m_e h, if_pos rfl, if_pos h1]
theorem cd_m0_par {T : Nat → Nat} {N : Nat → Int} {p : Nat} {r : List Nat} {o : List (Nat × Nat × Int)} (h : p < 400) (h1 : T p = 27) : cd_m T N 0 p r o = cd_m T N 0 (p + 1) (15 :: r) o := by
  rw [cd_m_e h, if_pos rfl, if_neg (by omega), if_pos h1]
theorem cd_m0_flag {T : Nat → Nat} {N : Nat → Int} {p : Nat} {r : List Nat} {o : List (Nat × Nat × Int)} (h : p < 400) (h1 : 7 ≤ T p ∧ T p ≤ 10) : cd_m T N 0 p r o = cd_m T N 1 (p + 1) r (o ++ [(T p - 7, 0, 0)]) := by
  rw [cd_m_e h, if_pos rfl, if_neg (by omega), if_neg (by omega), if_pos (by omega)]
theorem cd_m0_fact {T : Nat → Nat} {N : Nat → Int} {p : Nat} {r : List Nat} {o : List (Nat × Nat × Int)} (h : p + 2 < 400) (h1 : 11 ≤ T p ∧ T p ≤ 18) : cd_m T N 0 p r o = cd_m T N 1 (p + 3) r (o ++ [(T p - 7, T (p + 1) + 41, N (p + 2))]) := by
  rw [cd_m_e (by omega), if_pos rfl, if_neg (by omega), if_neg (by omega), if_neg (by omega), cd_m_e (by omega), if_neg (by omega), if_pos rfl, cd_m_e (by omega), if_neg (by omega), if_neg (by omega), if_pos rfl]
  rfl
theorem cd_m1_e {T : Nat → Nat} {N : Nat → Int} {p : Nat} {r : List Nat} {o : List (Nat × Nat × Int)} (h : p < 400) : cd_m T N 1 p r o = (if T p = 28 ∧ 15 ∈ r then cd_m T N 1 (p + 1) (cd_dp 13 14 (cd_dp 12 12 r o).1 (cd_dp 12 12 r o).2).1.tail (cd_dp 13 14 (cd_dp 12 12 r o).1 (cd_dp 12 12 r o).2).2
    else if T p = 24 then cd_m T N 0 (p + 1) (13 :: (cd_dp 13 13 (cd_dp 12 12 r o).1 (cd_dp 12 12 r o).2).1) (cd_dp 13 13 (cd_dp 12 12 r o).1 (cd_dp 12 12 r o).2).2
    else if T p = 25 then cd_m T N 0 (p + 1) (14 :: (cd_dp 13 14 (cd_dp 12 12 r o).1 (cd_dp 12 12 r o).2).1) (cd_dp 13 14 (cd_dp 12 12 r o).1 (cd_dp 12 12 r o).2).2
    else (cd_dp 13 14 (cd_dp 12 12 r o).1 (cd_dp 12 12 r o).2).2) := by
  rw [cd_m_e h, if_neg (by omega), if_neg (by omega), if_neg (by omega)]
theorem cd_m1_not {T : Nat → Nat} {N : Nat → Int} {p : Nat} {r : List Nat} {o : List (Nat × Nat × Int)} (h : p < 400) : cd_m T N 1 p (12 :: r) o = cd_m T N 1 p r (o ++ [(12, 0, 0)]) := by
  have e : (15 ∈ (12 :: r)) ↔ 15 ∈ r := by simp
  rw [cd_m1_e h, cd_m1_e h, cd_dp_y (by omega)]
  simp only [e]
theorem cd_m1_and {T : Nat → Nat} {N : Nat → Int} {p x : Nat} {r : List Nat} {o : List (Nat × Nat × Int)} (h : p < 400) (hr : cd_dp 12 12 r (o ++ [(13, 0, 0)]) = (r, o ++ [(13, 0, 0)])) : cd_m T N 1 p (13 :: r) o = cd_m T N 1 p r (o ++ [(13, 0, 0)]) := by
  have e : (15 ∈ (13 :: r)) ↔ 15 ∈ r := by simp
  rw [cd_m1_e h, cd_m1_e h, cd_dp_n (a := 12) (b := 12) (x := 13) (by omega), hr]
  show (if T p = 28 ∧ 15 ∈ 13 :: r then cd_m T N 1 (p + 1) (cd_dp 13 14 (13 :: r) o).1.tail (cd_dp 13 14 (13 :: r) o).2 else if T p = 24 then cd_m T N 0 (p + 1) (13 :: (cd_dp 13 13 (13 :: r) o).1) (cd_dp 13 13 (13 :: r) o).2 else if T p = 25 then cd_m T N 0 (p + 1) (14 :: (cd_dp 13 14 (13 :: r) o).1) (cd_dp 13 14 (13 :: r) o).2 else (cd_dp 13 14 (13 :: r) o).2) = _
  rw [cd_dp_y (a := 13) (b := 14) (x := 13) (by omega), cd_dp_y (a := 13) (b := 13) (x := 13) (by omega)]
  simp only [e]
theorem cd_m1_or {T : Nat → Nat} {N : Nat → Int} {p : Nat} {r : List Nat} {o : List (Nat × Nat × Int)} (h : p < 400) (ht : ¬ T p = 24) (hr : cd_dp 12 12 r (o ++ [(14, 0, 0)]) = (r, o ++ [(14, 0, 0)])) : cd_m T N 1 p (14 :: r) o = cd_m T N 1 p r (o ++ [(14, 0, 0)]) := by
  have e : (15 ∈ (14 :: r)) ↔ 15 ∈ r := by simp
  rw [cd_m1_e h, cd_m1_e h, cd_dp_n (a := 12) (b := 12) (x := 14) (by omega), hr, if_neg ht, if_neg ht]
  show (if T p = 28 ∧ 15 ∈ 14 :: r then cd_m T N 1 (p + 1) (cd_dp 13 14 (14 :: r) o).1.tail (cd_dp 13 14 (14 :: r) o).2 else if T p = 25 then cd_m T N 0 (p + 1) (14 :: (cd_dp 13 14 (14 :: r) o).1) (cd_dp 13 14 (14 :: r) o).2 else (cd_dp 13 14 (14 :: r) o).2) = _
  rw [cd_dp_y (a := 13) (b := 14) (x := 14) (by omega)]
  simp only [e]
def cd_x (ac ak nu : Int32) : Nat × Nat × Int := if ac.toInt = 3 then (12, 0, 0) else if ac.toInt = 4 then (13, 0, 0) else if ac.toInt = 5 then (14, 0, 0) else if ak.toInt < 4 then (if 0 ≤ ak.toInt ∧ ac.toInt = 2 ∧ nu.toInt = 0 then (ak.toInt.toNat, 0, 0) else (99, 0, 0)) else if 0 ≤ ac.toInt ∧ ac.toInt ≤ 2 ∧ ak.toInt ≤ 11 then (ak.toInt.toNat, (ac.toInt + 60).toNat, nu.toInt) else (99, 0, 0)
def cd_lx (a b c : Nat → Int32) : Nat → List (Nat × Nat × Int)
  | 0 => []
  | n + 1 => cd_lx a b c n ++ [cd_x (a n) (b n) (c n)]
theorem cd_lx_eq {a b c a1 b1 c1 : Nat → Int32} : ∀ n : Nat, (∀ i, i < n → a1 i = a i ∧ b1 i = b i ∧ c1 i = c i) → cd_lx a1 b1 c1 n = cd_lx a b c n := by
  intro n
  induction n with
  | zero => intro _; rfl
  | succ n ih =>
    intro h
    show cd_lx a1 b1 c1 n ++ [cd_x (a1 n) (b1 n) (c1 n)] = cd_lx a b c n ++ [cd_x (a n) (b n) (c n)]
    rw [ih (fun i hi => h i (by omega)), (h n (by omega)).1, (h n (by omega)).2.1, (h n (by omega)).2.2]
theorem cd_lx_add {a b c a1 b1 c1 : Nat → Int32} {n : Nat} {x y z : Int32} (ha : a1 = upd a n x) (hb : b1 = upd b n y) (hc : c1 = upd c n z) : cd_lx a1 b1 c1 (n + 1) = cd_lx a b c n ++ [cd_x x y z] := by
  show cd_lx a1 b1 c1 n ++ [cd_x (a1 n) (b1 n) (c1 n)] = _
  have e : ∀ (g g1 : Nat → Int32) (v : Int32), g1 = upd g n v → g1 n = v ∧ ∀ i, i < n → g1 i = g i := by
    intro g g1 v h
    subst h
    exact ⟨up_eq, fun i hi => up_ne (by omega)⟩
  rw [cd_lx_eq n (fun i hi => ⟨(e a a1 x ha).2 i hi, (e b b1 y hb).2 i hi, (e c c1 z hc).2 i hi⟩), (e a a1 x ha).1, (e b b1 y hb).1, (e c c1 z hc).1]
def cd_lm (a b c : Nat → Int32) (p : Nat) : Nat → List (Nat × Nat × Int)
  | 0 => []
  | n + 1 => cd_lm a b c p n ++ [((a (p + n)).toInt.toNat, (b (p + n)).toInt.toNat, (c (p + n)).toInt)]
theorem cd_lm_eq {a b c a1 b1 c1 : Nat → Int32} {p : Nat} : ∀ n : Nat, (∀ i, i < n → a1 (p + i) = a (p + i) ∧ b1 (p + i) = b (p + i) ∧ c1 (p + i) = c (p + i)) → cd_lm a1 b1 c1 p n = cd_lm a b c p n := by
  intro n
  induction n with
  | zero => intro _; rfl
  | succ n ih =>
    intro h
    show cd_lm a1 b1 c1 p n ++ [((a1 (p + n)).toInt.toNat, (b1 (p + n)).toInt.toNat, (c1 (p + n)).toInt)] = cd_lm a b c p n ++ [((a (p + n)).toInt.toNat, (b (p + n)).toInt.toNat, (c (p + n)).toInt)]
    rw [ih (fun i hi => h i (by omega)), (h n (by omega)).1, (h n (by omega)).2.1, (h n (by omega)).2.2]
theorem cd_lm_add {a b c a1 b1 c1 : Nat → Int32} {p n : Nat} {x y z : Int32} (ha : a1 = upd a (p + n) x) (hb : b1 = upd b (p + n) y) (hc : c1 = upd c (p + n) z) : cd_lm a1 b1 c1 p (n + 1) = cd_lm a b c p n ++ [(x.toInt.toNat, y.toInt.toNat, z.toInt)] := by
  show cd_lm a1 b1 c1 p n ++ [((a1 (p + n)).toInt.toNat, (b1 (p + n)).toInt.toNat, (c1 (p + n)).toInt)] = _
  have e : ∀ (g g1 : Nat → Int32) (v : Int32), g1 = upd g (p + n) v → g1 (p + n) = v ∧ ∀ i, i < n → g1 (p + i) = g (p + i) := by
    intro g g1 v h
    subst h
    exact ⟨up_eq, fun i hi => up_ne (by omega)⟩
  rw [cd_lm_eq n (fun i hi => ⟨(e a a1 x ha).2 i hi, (e b b1 y hb).2 i hi, (e c c1 z hc).2 i hi⟩), (e a a1 x ha).1, (e b b1 y hb).1, (e c c1 z hc).1]
def cd_ev (f : Nat → Int) : List Bool → List (Nat × Nat × Int) → List Bool
  | st, [] => st
  | st, (k, s, n) :: r =>
    if k = 12 then cd_ev f (match st with | a :: t => (!a) :: t | [] => []) r
    else if k = 13 then cd_ev f (match st with | a :: b :: t => (b && a) :: t | t => t) r
    else if k = 14 then cd_ev f (match st with | a :: b :: t => (b || a) :: t | t => t) r
    else cd_ev f ((if k < 4 then decide (f k = 1) else if s = 60 then decide (f k < n) else if s = 61 then decide (f k = n) else decide (n < f k)) :: st) r
def cd_bits : List Bool → Nat
  | [] => 1
  | a :: t => 2 * cd_bits t + (if a then 1 else 0)
def cd_ok (b : Nat) (q : List Nat) : Prop := ∀ x r, q = x :: r → x < 12 ∨ b < x
def cd_hd : Nat → List (Nat × Nat × Int) → Option Nat
  | d, [] => some d
  | d, (k, _, _) :: r => if k = 99 then none else if k = 12 then (if d = 0 then none else cd_hd d r) else if k = 13 ∨ k = 14 then (if d < 2 then none else cd_hd (d - 1) r) else if 30 < d + 1 then none else cd_hd (d + 1) r
theorem cd_hd_app : ∀ (a b : List (Nat × Nat × Int)) (d e : Nat), cd_hd d a = some e → cd_hd d (a ++ b) = cd_hd e b := by
  intro a
  induction a with
  | nil =>
    intro b d e h
    have h1 : some d = some e := h
    rw [Option.some.inj h1]; rfl
  | cons x r ih =>
    intro b d e h
    obtain ⟨k, s, n⟩ := x
    have e1 : cd_hd d ((k, s, n) :: r) = if k = 99 then none else if k = 12 then (if d = 0 then none else cd_hd d r) else if k = 13 ∨ k = 14 then (if d < 2 then none else cd_hd (d - 1) r) else if 30 < d + 1 then none else cd_hd (d + 1) r := rfl
    have e2 : cd_hd d (((k, s, n) :: r) ++ b) = if k = 99 then none else if k = 12 then (if d = 0 then none else cd_hd d (r ++ b)) else if k = 13 ∨ k = 14 then (if d < 2 then none else cd_hd (d - 1) (r ++ b)) else if 30 < d + 1 then none else cd_hd (d + 1) (r ++ b) := rfl
    rw [e1] at h
    rw [e2]
    by_cases h99 : k = 99
    · rw [if_pos h99] at h; cases h
    rw [if_neg h99] at h ⊢
    by_cases h1 : k = 12
    · rw [if_pos h1] at h ⊢
      by_cases h2 : d = 0
      · rw [if_pos h2] at h; cases h
      · rw [if_neg h2] at h ⊢; exact ih b d e h
    · rw [if_neg h1] at h ⊢
      by_cases h3 : k = 13 ∨ k = 14
      · rw [if_pos h3] at h ⊢
        by_cases h2 : d < 2
        · rw [if_pos h2] at h; cases h
        · rw [if_neg h2] at h ⊢; exact ih b (d - 1) e h
      · rw [if_neg h3] at h ⊢
        by_cases h2 : 30 < d + 1
        · rw [if_pos h2] at h; cases h
        · rw [if_neg h2] at h ⊢; exact ih b (d + 1) e h
def cd_q (T : Nat → Nat) (N : Nat → Int) (b n p : Nat) (L0 : List (Nat × Nat × Int)) (p1 : Nat) (L1 : List (Nat × Nat × Int)) : Prop := (∀ q : List Nat, cd_ok b q → cd_m T N 0 p q L0 = cd_m T N 1 p1 q L1) ∧ ∃ sg : List (Nat × Nat × Int), L1 = L0 ++ sg ∧ ∀ d, d + n ≤ 30 → cd_hd d sg = some (d + 1)
theorem cd_ok11 (q : List Nat) : cd_ok 11 q := fun x r _ => by omega
theorem cd_okc {b x : Nat} (q : List Nat) (h : x < 12 ∨ b < x) : cd_ok b (x :: q) := fun y r e => by
  have := (List.cons.inj e).1
  omega
theorem cd_okle {b c : Nat} {q : List Nat} (h : cd_ok c q) (hb : b ≤ c) : cd_ok b q := fun x r e => by
  have := h x r e
  omega
theorem cd_dp_ok {a b c : Nat} {q : List Nat} {o : List (Nat × Nat × Int)} (h : cd_ok c q) (ha : 12 ≤ a) (hb : b ≤ c) : cd_dp a b q o = (q, o) := by
  cases q with
  | nil => rfl
  | cons x r =>
    have h1 := h x r rfl
    exact cd_dp_n (by omega)
theorem cd_q_flag {T : Nat → Nat} {N : Nat → Int} {n p : Nat} {L : List (Nat × Nat × Int)} (hp : p < 400) (hn : 1 ≤ n) (h1 : 7 ≤ T p ∧ T p ≤ 10) : cd_q T N 11 n p L (p + 1) (L ++ [(T p - 7, 0, 0)]) := by
  refine ⟨fun q _ => cd_m0_flag hp h1, [(T p - 7, 0, 0)], rfl, fun d hd => ?_⟩
  show (if T p - 7 = 99 then _ else if T p - 7 = 12 then _ else if T p - 7 = 13 ∨ T p - 7 = 14 then _ else if 30 < d + 1 then none else some (d + 1)) = _
  rw [if_neg (by omega), if_neg (by omega), if_neg (by omega), if_neg (by omega)]
theorem cd_q_fact {T : Nat → Nat} {N : Nat → Int} {n p : Nat} {L : List (Nat × Nat × Int)} (hp : p + 2 < 400) (hn : 1 ≤ n) (h1 : 11 ≤ T p ∧ T p ≤ 18) : cd_q T N 11 n p L (p + 3) (L ++ [(T p - 7, T (p + 1) + 41, N (p + 2))]) := by
  refine ⟨fun q _ => cd_m0_fact hp h1, [(T p - 7, T (p + 1) + 41, N (p + 2))], rfl, fun d hd => ?_⟩
  show (if T p - 7 = 99 then _ else if T p - 7 = 12 then _ else if T p - 7 = 13 ∨ T p - 7 = 14 then _ else if 30 < d + 1 then none else some (d + 1)) = _
  rw [if_neg (by omega), if_neg (by omega), if_neg (by omega), if_neg (by omega)]
theorem cd_q_not {T : Nat → Nat} {N : Nat → Int} {n m p p1 : Nat} {L L1 : List (Nat × Nat × Int)} (h : cd_q T N 11 n (p + 1) L p1 L1) (hp : p < 400) (hp1 : p1 < 400) (h1 : T p = 22) (hn : n ≤ m) : cd_q T N 11 m p L p1 (L1 ++ [(12, 0, 0)]) := by
  obtain ⟨h2, sg, h3, h4⟩ := h
  refine ⟨fun q _ => by rw [cd_m0_not hp h1, h2 (12 :: q) (cd_ok11 _), cd_m1_not hp1], sg ++ [(12, 0, 0)], by rw [h3, List.append_assoc], fun d hd => ?_⟩
  rw [cd_hd_app _ _ _ _ (h4 d (by omega))]
  show (if (12 : Nat) = 99 then _ else if (12 : Nat) = 12 then (if d + 1 = 0 then none else some (d + 1)) else _) = _
  rw [if_neg (by omega), if_pos rfl, if_neg (by omega)]
theorem cd_m1_par {T : Nat → Nat} {N : Nat → Int} {p : Nat} {r : List Nat} {o : List (Nat × Nat × Int)} (h : p < 400) (h1 : T p = 28) : cd_m T N 1 p (15 :: r) o = cd_m T N 1 (p + 1) r o := by
  rw [cd_m1_e h, if_pos ⟨h1, List.mem_cons_self ..⟩, cd_dp_n (a := 12) (b := 12) (x := 15) (by omega)]
  show cd_m T N 1 (p + 1) (cd_dp 13 14 (15 :: r) o).1.tail (cd_dp 13 14 (15 :: r) o).2 = _
  rw [cd_dp_n (a := 13) (b := 14) (x := 15) (by omega)]
  rfl
theorem cd_q_par {T : Nat → Nat} {N : Nat → Int} {n m p p1 : Nat} {L L1 : List (Nat × Nat × Int)} (h : cd_q T N 14 n (p + 1) L p1 L1) (hp : p < 400) (hp1 : p1 < 400) (h1 : T p = 27) (h5 : T p1 = 28) (hn : n ≤ m) : cd_q T N 11 m p L (p1 + 1) L1 := by
  obtain ⟨h2, sg, h3, h4⟩ := h
  exact ⟨fun q _ => by rw [cd_m0_par hp h1, h2 (15 :: q) (cd_okc q (by omega)), cd_m1_par hp1 h5], sg, h3, fun d hd => h4 d (by omega)⟩
theorem cd_q_1 {T : Nat → Nat} {N : Nat → Int} {b c n m p p1 : Nat} {L L1 : List (Nat × Nat × Int)} (h : cd_q T N b n p L p1 L1) (hb : b ≤ c) (hn : n ≤ m) : cd_q T N c m p L p1 L1 := ⟨fun q hq => h.1 q (cd_okle hq hb), h.2.elim (fun sg h3 => ⟨sg, h3.1, fun d hd => h3.2 d (by omega)⟩)⟩
theorem cd_q_seg {n m x : Nat} {L0 L L1 : List (Nat × Nat × Int)} (hx : x = 13 ∨ x = 14) (h : ∃ sg : List (Nat × Nat × Int), L = L0 ++ sg ∧ ∀ d, d + m ≤ 30 → cd_hd d sg = some (d + 1)) (h1 : ∃ sg : List (Nat × Nat × Int), L1 = L ++ sg ∧ ∀ d, d + n ≤ 30 → cd_hd d sg = some (d + 1)) (hn : n + 1 ≤ m) : ∃ sg : List (Nat × Nat × Int), L1 ++ [(x, 0, 0)] = L0 ++ sg ∧ ∀ d, d + m ≤ 30 → cd_hd d sg = some (d + 1) := by
  obtain ⟨s1, a1, b1⟩ := h
  obtain ⟨s2, a2, b2⟩ := h1
  refine ⟨s1 ++ (s2 ++ [(x, 0, 0)]), by rw [a2, a1, List.append_assoc, List.append_assoc], fun d hd => ?_⟩
  rw [cd_hd_app _ _ _ _ (b1 d hd), cd_hd_app _ _ _ _ (b2 (d + 1) (by omega))]
  show (if x = 99 then _ else if x = 12 then _ else if x = 13 ∨ x = 14 then (if d + 1 + 1 < 2 then none else some (d + 1 + 1 - 1)) else _) = _
  rw [if_neg (by omega), if_neg (by omega), if_pos hx, if_neg (by omega)]
  rfl
theorem cd_q_and {T : Nat → Nat} {N : Nat → Int} {n m p0 p p1 : Nat} {L0 L L1 : List (Nat × Nat × Int)} (h : cd_q T N 13 m p0 L0 p L) (h1 : cd_q T N 11 n (p + 1) L p1 L1) (hp : p < 400) (hp1 : p1 < 400) (ht : T p = 24) (hn : n + 1 ≤ m) : cd_q T N 13 m p0 L0 p1 (L1 ++ [(13, 0, 0)]) := by
  refine ⟨fun q hq => ?_, cd_q_seg (Or.inl rfl) h.2 h1.2 hn⟩
  have ho : cd_ok 12 q := cd_okle hq (by omega)
  rw [h.1 q hq, cd_m1_e hp, if_neg (fun w => by omega), if_pos ht, cd_dp_ok (a := 12) (b := 12) hq (by omega) (by omega)]
  show cd_m T N 0 (p + 1) (13 :: (cd_dp 13 13 q L).1) (cd_dp 13 13 q L).2 = _
  rw [cd_dp_ok (a := 13) (b := 13) hq (by omega) (by omega)]
  show cd_m T N 0 (p + 1) (13 :: q) L = _
  rw [h1.1 (13 :: q) (cd_ok11 _), cd_m1_and (x := 0) hp1 (cd_dp_ok hq (by omega) (by omega))]
theorem cd_q_or {T : Nat → Nat} {N : Nat → Int} {n m p0 p p1 : Nat} {L0 L L1 : List (Nat × Nat × Int)} (h : cd_q T N 14 m p0 L0 p L) (h1 : cd_q T N 13 n (p + 1) L p1 L1) (hp : p < 400) (hp1 : p1 < 400) (ht : T p = 25) (h5 : ¬ T p1 = 24) (hn : n + 1 ≤ m) : cd_q T N 14 m p0 L0 p1 (L1 ++ [(14, 0, 0)]) := by
  refine ⟨fun q hq => ?_, cd_q_seg (Or.inr rfl) h.2 h1.2 hn⟩
  rw [h.1 q hq, cd_m1_e hp, if_neg (fun w => by omega), if_neg (by omega), if_pos ht, cd_dp_ok (a := 12) (b := 12) hq (by omega) (by omega)]
  show cd_m T N 0 (p + 1) (14 :: (cd_dp 13 14 q L).1) (cd_dp 13 14 q L).2 = _
  rw [cd_dp_ok (a := 13) (b := 14) hq (by omega) (by omega)]
  show cd_m T N 0 (p + 1) (14 :: q) L = _
  rw [h1.1 (14 :: q) (cd_okc q (by omega)), cd_m1_or hp1 h5 (cd_dp_ok hq (by omega) (by omega))]
theorem cd_q_end {T : Nat → Nat} {N : Nat → Int} {n p p1 : Nat} {L L1 : List (Nat × Nat × Int)} (h : cd_q T N 14 n p L p1 L1) (hp1 : p1 < 400) (ht : ¬ (T p1 = 24 ∨ T p1 = 25)) : cd_m T N 0 p [] L = L1 := by
  rw [h.1 [] (fun x r e => by cases e), cd_m1_e hp1, if_neg (fun w => by cases w.2), if_neg (fun w => ht (Or.inl w)), if_neg (fun w => ht (Or.inr w))]
  rfl
theorem cd_dp_pre (a b : Nat) (c : List (Nat × Nat × Int)) : ∀ (r : List Nat) (o : List (Nat × Nat × Int)), cd_dp a b r (c ++ o) = ((cd_dp a b r o).1, c ++ (cd_dp a b r o).2) := by
  intro r
  induction r with
  | nil => intro o; rfl
  | cons x r ih =>
    intro o
    by_cases h : a ≤ x ∧ x ≤ b
    · rw [cd_dp_y h, cd_dp_y h, List.append_assoc, ih]
    · rw [cd_dp_n h, cd_dp_n h]
theorem cd_mc_pre (T : Nat → Nat) (N : Nat → Int) (c : List (Nat × Nat × Int)) : ∀ (n s p : Nat) (r : List Nat) (o : List (Nat × Nat × Int)), cd_mc T N n s p r (c ++ o) = c ++ cd_mc T N n s p r o := by
  intro n
  induction n with
  | zero => intro s p r o; rfl
  | succ n ih =>
    intro s p r o
    unfold cd_mc
    simp only [cd_dp_pre, List.append_assoc, ih]
    by_cases h0 : s = 0
    · simp only [if_pos h0]
      by_cases h1 : T p = 22
      · simp only [if_pos h1]
      · simp only [if_neg h1]
        by_cases h2 : T p = 27
        · simp only [if_pos h2]
        · simp only [if_neg h2]
          by_cases h3 : T p < 11
          · simp only [if_pos h3]
          · simp only [if_neg h3]
    · simp only [if_neg h0]
      by_cases h1 : s = 2
      · simp only [if_pos h1]
      · simp only [if_neg h1]
        by_cases h2 : s = 3
        · simp only [if_pos h2]
        · simp only [if_neg h2]
          by_cases h3 : T p = 28 ∧ 15 ∈ r
          · simp only [if_pos h3]
          · simp only [if_neg h3]
            by_cases h4 : T p = 24
            · simp only [if_pos h4]
            · simp only [if_neg h4]
              by_cases h5 : T p = 25
              · simp only [if_pos h5]
              · simp only [if_neg h5]
theorem cd_m_pre (T : Nat → Nat) (N : Nat → Int) (s p : Nat) (r : List Nat) (c : List (Nat × Nat × Int)) : cd_m T N s p r c = c ++ cd_m T N s p r [] := by
  have h := cd_mc_pre T N c (400 - p) s p r []
  rw [List.append_nil] at h
  exact h

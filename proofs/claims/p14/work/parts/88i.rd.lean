def rd_l (c : Int) : Bool := decide (97 ≤ c ∧ c ≤ 122)
def rd_d (c : Int) : Bool := decide (48 ≤ c ∧ c ≤ 57)
def rd_sk (b : Nat → Int) (n : Nat) : Nat → Nat → Nat
  | 0, p => p
  | f + 1, p => if p < n ∧ (b p = 32 ∨ b p = 10) then rd_sk b n f (p + 1) else p
def rd_s (b : Nat → Int) (n p : Nat) : Nat := rd_sk b n (n - p) p
theorem rd_s1 {b : Nat → Int} {n p : Nat} (h : p < n) (h1 : b p = 32 ∨ b p = 10) : rd_s b n p = rd_s b n (p + 1) := by
  unfold rd_s
  have e : n - p = (n - (p + 1)) + 1 := by omega
  rw [e]
  show (if p < n ∧ (b p = 32 ∨ b p = 10) then rd_sk b n (n - (p + 1)) (p + 1) else p) = _
  rw [if_pos ⟨h, h1⟩]
theorem rd_s0 {b : Nat → Int} {n p : Nat} (h : ¬ (p < n ∧ (b p = 32 ∨ b p = 10))) : rd_s b n p = p := by
  unfold rd_s
  rcases Nat.lt_or_ge p n with h2 | h2
  · have e : n - p = (n - (p + 1)) + 1 := by omega
    rw [e]
    show (if p < n ∧ (b p = 32 ∨ b p = 10) then rd_sk b n (n - (p + 1)) (p + 1) else p) = _
    rw [if_neg h]
  · have e : n - p = 0 := by omega
    rw [e]; rfl
def rd_wk (b : Nat → Int) (n : Nat) : Nat → Nat → Nat
  | 0, p => p
  | f + 1, p => if p < n ∧ (rd_l (b p) = true ∨ rd_d (b p) = true) then rd_wk b n f (p + 1) else p
def rd_w (b : Nat → Int) (n p : Nat) : Nat := rd_wk b n (n - p) p
theorem rd_w1 {b : Nat → Int} {n p : Nat} (h : p < n) (h1 : rd_l (b p) = true ∨ rd_d (b p) = true) : rd_w b n p = rd_w b n (p + 1) := by
  unfold rd_w
  have e : n - p = (n - (p + 1)) + 1 := by omega
  rw [e]
  show (if p < n ∧ (rd_l (b p) = true ∨ rd_d (b p) = true) then rd_wk b n (n - (p + 1)) (p + 1) else p) = _
  rw [if_pos ⟨h, h1⟩]
theorem rd_w0 {b : Nat → Int} {n p : Nat} (h : ¬ (p < n ∧ (rd_l (b p) = true ∨ rd_d (b p) = true))) : rd_w b n p = p := by
  unfold rd_w
  rcases Nat.lt_or_ge p n with h2 | h2
  · have e : n - p = (n - (p + 1)) + 1 := by omega
    rw [e]
    show (if p < n ∧ (rd_l (b p) = true ∨ rd_d (b p) = true) then rd_wk b n (n - (p + 1)) (p + 1) else p) = _
    rw [if_neg h]
  · have e : n - p = 0 := by omega
    rw [e]; rfl
theorem rd_sk_le (b : Nat → Int) (n : Nat) : ∀ f p, p ≤ rd_sk b n f p := by
  intro f
  induction f with
  | zero => intro p; exact Nat.le_refl _
  | succ f ih =>
    intro p
    show p ≤ (if p < n ∧ (b p = 32 ∨ b p = 10) then rd_sk b n f (p + 1) else p)
    by_cases h : p < n ∧ (b p = 32 ∨ b p = 10)
    · rw [if_pos h]; have := ih (p + 1); omega
    · rw [if_neg h]; exact Nat.le_refl _
theorem rd_s_le (b : Nat → Int) (n p : Nat) : p ≤ rd_s b n p := rd_sk_le b n (n - p) p
theorem rd_wk_le (b : Nat → Int) (n : Nat) : ∀ f p, p ≤ rd_wk b n f p ∧ (p ≤ n → rd_wk b n f p ≤ n) := by
  intro f
  induction f with
  | zero => intro p; exact ⟨Nat.le_refl _, fun h => h⟩
  | succ f ih =>
    intro p
    show p ≤ (if p < n ∧ (rd_l (b p) = true ∨ rd_d (b p) = true) then rd_wk b n f (p + 1) else p) ∧ (p ≤ n → (if p < n ∧ (rd_l (b p) = true ∨ rd_d (b p) = true) then rd_wk b n f (p + 1) else p) ≤ n)
    by_cases h : p < n ∧ (rd_l (b p) = true ∨ rd_d (b p) = true)
    · rw [if_pos h]; have h1 := ih (p + 1); exact ⟨by omega, fun _ => h1.2 (by omega)⟩
    · rw [if_neg h]; exact ⟨Nat.le_refl _, fun h => h⟩
theorem rd_w_le (b : Nat → Int) (n p : Nat) : p ≤ rd_w b n p := (rd_wk_le b n (n - p) p).1
theorem rd_w_n {b : Nat → Int} {n p : Nat} (h : p ≤ n) : rd_w b n p ≤ n := (rd_wk_le b n (n - p) p).2 h
def rd_lim (n : Nat) : Nat := if n < 300 then n else 300
theorem rd_lim_le (n : Nat) : rd_lim n ≤ n ∧ rd_lim n ≤ 300 ∧ (n ≤ 300 → rd_lim n = n) ∧ (300 ≤ n → rd_lim n = 300) := by
  unfold rd_lim
  by_cases h : n < 300
  · rw [if_pos h]; omega
  · rw [if_neg h]; omega
def rd_mx (a b : Nat) : Nat := if a < b then b else a
def rd_nx (b : Nat → Int) (n q : Nat) : Nat := if q < rd_lim n then rd_mx (q + 1) (rd_w b n q) else q
def rd_en (b : Nat → Int) (n : Nat) : Nat → Nat
  | 0 => 0
  | k + 1 => rd_nx b n (rd_s b (rd_lim n) (rd_en b n k))
def rd_st (b : Nat → Int) (n k : Nat) : Nat := rd_s b (rd_lim n) (rd_en b n k)
theorem rd_en1 (b : Nat → Int) (n k : Nat) : rd_en b n (k + 1) = rd_nx b n (rd_st b n k) := rfl
def rd_S (b : Nat → Int) (n k : Nat) : Nat := if rd_st b n k < rd_lim n then rd_st b n k else rd_lim n
def rd_c (b : Nat → Int) (a : Nat) : Nat → Nat
  | 0 => 0
  | m + 1 => rd_c b a m + (if rd_d (b (a + m)) = true then 1 else 0)
def rd_tx (b : Nat → Int) (a : Nat) : Nat → List Int
  | 0 => []
  | m + 1 => b (a + m) :: rd_tx b a m
def rd_nb (b : Nat → Int) (a : Nat) : Nat → Int
  | 0 => 0
  | m + 1 => rd_nb b a m * 10 + (if rd_d (b (a + m)) = true then b (a + m) - 48 else 0)
def rd_tb : List (List Int) := [[121, 114, 114, 97, 99], [112, 111, 116, 115], [101, 114, 97, 102], [100, 108, 111, 104], [101, 110, 105, 102], [115, 97, 103], [107, 99, 111, 100], [114, 97, 99], [110, 111, 103, 97, 119], [105, 120, 97, 116], [100, 101, 114, 117, 115, 110, 105], [115, 114, 101, 100, 105, 114], [115, 116, 97, 101, 115], [110, 105, 97, 114], [101, 116, 117, 110, 105, 109], [121, 97, 100], [109, 111, 114, 102], [111, 116], [115, 101, 109, 105, 116], [60], [61], [62], [116, 111, 110], [102, 105], [100, 110, 97], [114, 111], [59], [40], [41]]
def rd_ix (t : List Int) : List (List Int) → Nat → Nat
  | [], _ => 31
  | x :: r, i => if x = t then i else rd_ix t r (i + 1)
def rd_lk (t : List Int) : Nat := rd_ix t rd_tb 0
def rd_cl (b : Nat → Int) (a m : Nat) : Nat := if rd_c b a m = m then (if m ≤ 4 then 29 else 31) else if 0 < rd_c b a m ∨ 8 < m then 31 else rd_lk (rd_tx b a m)
def rd_T (b : Nat → Int) (n k : Nat) : Nat := if rd_st b n k < rd_lim n then rd_cl b (rd_st b n k) (rd_en b n (k + 1) - rd_st b n k) else if 300 < n then 31 else 30
def rd_N (b : Nat → Int) (n k : Nat) : Int := rd_nb b (rd_st b n k) (if rd_en b n (k + 1) - rd_st b n k < 4 then rd_en b n (k + 1) - rd_st b n k else 4)
theorem rd_en_le (b : Nat → Int) (n : Nat) : ∀ k, rd_en b n k ≤ rd_en b n (k + 1) ∧ (rd_st b n k < rd_lim n → rd_st b n k < rd_en b n (k + 1) ∧ rd_en b n (k + 1) ≤ n) := by
  intro k
  have h1 := rd_s_le b (rd_lim n) (rd_en b n k)
  have h2 := rd_w_le b n (rd_st b n k)
  have h3 := rd_lim_le n
  have h0 : rd_st b n k = rd_s b (rd_lim n) (rd_en b n k) := rfl
  rw [rd_en1]
  unfold rd_nx rd_mx
  by_cases q : rd_st b n k < rd_lim n
  · rw [if_pos q]
    have h4 := rd_w_n (b := b) (n := n) (p := rd_st b n k) (by omega)
    by_cases w : rd_st b n k + 1 < rd_w b n (rd_st b n k)
    · rw [if_pos w]; omega
    · rw [if_neg w]; omega
  · rw [if_neg q]; omega
theorem rd_lk_lt (t : List Int) : rd_lk t < 32 := by
  have h : ∀ (l : List (List Int)) (i : Nat), l.length + i ≤ 31 → rd_ix t l i < 32 := by
    intro l
    induction l with
    | nil => intro i _; show 31 < 32; omega
    | cons x r ih =>
      intro i hi
      show (if x = t then i else rd_ix t r (i + 1)) < 32
      have hl : (x :: r).length = r.length + 1 := rfl
      by_cases e : x = t
      · rw [if_pos e]; omega
      · rw [if_neg e]; exact ih (i + 1) (by omega)
  exact h rd_tb 0 (by decide)
theorem rd_cl_lt (b : Nat → Int) (a m : Nat) : rd_cl b a m < 32 := by
  unfold rd_cl
  by_cases h1 : rd_c b a m = m
  · rw [if_pos h1]
    by_cases h2 : m ≤ 4
    · rw [if_pos h2]; omega
    · rw [if_neg h2]; omega
  · rw [if_neg h1]
    by_cases h2 : 0 < rd_c b a m ∨ 8 < m
    · rw [if_pos h2]; omega
    · rw [if_neg h2]; exact rd_lk_lt _
theorem rd_T_lt (b : Nat → Int) (n k : Nat) : rd_T b n k < 32 := by
  unfold rd_T
  by_cases h1 : rd_st b n k < rd_lim n
  · rw [if_pos h1]; exact rd_cl_lt _ _ _
  · rw [if_neg h1]
    by_cases h2 : 300 < n
    · rw [if_pos h2]; omega
    · rw [if_neg h2]; omega
theorem rd_tx_len (b : Nat → Int) (a : Nat) : ∀ m, (rd_tx b a m).length = m := by
  intro m
  induction m with
  | zero => rfl
  | succ m ih => show (rd_tx b a m).length + 1 = m + 1; rw [ih]
theorem rd_tx_eq (b c : Nat → Int) (a e : Nat) : ∀ m, (∀ i, i < m → b (a + i) = c (e + i)) → rd_tx b a m = rd_tx c e m := by
  intro m
  induction m with
  | zero => intro _; rfl
  | succ m ih =>
    intro h
    show b (a + m) :: rd_tx b a m = c (e + m) :: rd_tx c e m
    rw [h m (by omega), ih (fun i hi => h i (by omega))]
theorem rd_tx_at (b c : Nat → Int) (a e : Nat) : ∀ m, rd_tx b a m = rd_tx c e m → ∀ i, i < m → b (a + i) = c (e + i) := by
  intro m
  induction m with
  | zero => intro _ i hi; omega
  | succ m ih =>
    intro h i hi
    have h1 : b (a + m) :: rd_tx b a m = c (e + m) :: rd_tx c e m := h
    have h2 := List.cons.inj h1
    by_cases q : i = m
    · rw [q]; exact h2.1
    · exact ih h2.2 i (by omega)
def rd_u : List Int → Int
  | [] => 0
  | d :: r => 27 * rd_u r + (d - 96)
theorem rd_u_pos : ∀ l : List Int, (∀ d ∈ l, 97 ≤ d ∧ d ≤ 122) → 0 ≤ rd_u l := by
  intro l
  induction l with
  | nil => intro _; exact Int.le_refl _
  | cons d r ih =>
    intro h
    have h1 := ih (fun x hx => h x (List.mem_cons_of_mem _ hx))
    have h2 := h d (List.mem_cons_self ..)
    show 0 ≤ 27 * rd_u r + (d - 96)
    omega
theorem rd_u_inj : ∀ l k : List Int, (∀ d ∈ l, 97 ≤ d ∧ d ≤ 122) → (∀ d ∈ k, 97 ≤ d ∧ d ≤ 122) → rd_u l = rd_u k → l = k := by
  intro l
  induction l with
  | nil =>
    intro k _ hk h
    cases k with
    | nil => rfl
    | cons d r =>
      have h1 := rd_u_pos r (fun x hx => hk x (List.mem_cons_of_mem _ hx))
      have h2 := hk d (List.mem_cons_self ..)
      have h3 : (0 : Int) = 27 * rd_u r + (d - 96) := h
      omega
  | cons d r ih =>
    intro k hl hk h
    have h1 := rd_u_pos r (fun x hx => hl x (List.mem_cons_of_mem _ hx))
    have h2 := hl d (List.mem_cons_self ..)
    cases k with
    | nil =>
      have h3 : 27 * rd_u r + (d - 96) = (0 : Int) := h
      omega
    | cons e s =>
      have h4 := rd_u_pos s (fun x hx => hk x (List.mem_cons_of_mem _ hx))
      have h5 := hk e (List.mem_cons_self ..)
      have h3 : 27 * rd_u r + (d - 96) = 27 * rd_u s + (e - 96) := h
      have h6 : d = e ∧ rd_u r = rd_u s := by omega
      rw [h6.1, ih s (fun x hx => hl x (List.mem_cons_of_mem _ hx)) (fun x hx => hk x (List.mem_cons_of_mem _ hx)) h6.2]
theorem rd_ix_of (t : List Int) : ∀ (l : List (List Int)) (i : Nat), rd_ix t l i = 31 ∨ ∃ m, m < l.length ∧ rd_ix t l i = i + m ∧ l.getD m [] = t := by
  intro l
  induction l with
  | nil => intro i; exact Or.inl rfl
  | cons x r ih =>
    intro i
    have e : rd_ix t (x :: r) i = if x = t then i else rd_ix t r (i + 1) := rfl
    by_cases h : x = t
    · refine Or.inr ⟨0, Nat.succ_pos _, ?_, h⟩
      rw [e, if_pos h]; rfl
    · rw [e, if_neg h]
      rcases ih (i + 1) with h1 | ⟨m, h1, h2, h3⟩
      · exact Or.inl h1
      · exact Or.inr ⟨m + 1, Nat.succ_lt_succ h1, by rw [h2]; omega, h3⟩
theorem rd_tb_d : ∀ j, j < 29 → rd_lk (rd_tb.getD j []) = j := by decide +kernel
theorem rd_lk_iff (t : List Int) (j : Nat) (hj : j < 29) : rd_lk t = j ↔ t = rd_tb.getD j [] := by
  constructor
  · intro h
    rcases rd_ix_of t rd_tb 0 with h1 | ⟨m, h1, h2, h3⟩
    · have h4 : rd_lk t = 31 := h1
      omega
    · have h4 : rd_lk t = 0 + m := h2
      have h5 : m = j := by omega
      rw [← h5, h3]
  · intro h
    rw [h]; exact rd_tb_d j hj
theorem rd_lk_no (t : List Int) : rd_lk t < 29 ∨ rd_lk t = 31 := by
  rcases rd_ix_of t rd_tb 0 with h1 | ⟨m, h1, h2, h3⟩
  · exact Or.inr h1
  · have h4 : rd_lk t = 0 + m := h2
    have h5 : rd_tb.length = 29 := by decide
    exact Or.inl (by omega)
theorem rd_ix_dr (t : List Int) (i : Nat) (hi : i < 29) : rd_ix t (rd_tb.drop i) i = if rd_tb.getD i [] = t then i else rd_ix t (rd_tb.drop (i + 1)) (i + 1) := by
  have h5 : rd_tb.length = 29 := by decide
  have h6 : i < rd_tb.length := by omega
  rw [List.drop_eq_getElem_cons h6]
  have h7 : rd_tb.getD i [] = rd_tb[i] := by rw [List.getD_eq_getElem?_getD, List.getElem?_eq_getElem h6]; rfl
  rw [h7]; rfl
def rd_dn : List Bool → List Bool
  | [] => []
  | x :: r => if x = true then rd_dn r else x :: r
theorem rd_dn_t (r : List Bool) : rd_dn (true :: r) = rd_dn r := rfl
theorem rd_dn_f (r : List Bool) : rd_dn (false :: r) = false :: r := rfl
theorem rd_dn_i : ∀ r : List Bool, rd_dn (rd_dn r) = rd_dn r := by
  intro r
  induction r with
  | nil => rfl
  | cons x r ih =>
    cases x with
    | true => exact ih
    | false => rfl
def rd_mc (T : Nat → Nat) : Nat → Nat → Nat → Nat → List Bool → Nat × Nat × Nat
  | 0, _, p, o, _ => (9, p, o)
  | n + 1, s, p, o, r =>
    if s = 0 then
      if ¬ ((7 ≤ T p ∧ T p ≤ 18) ∨ T p = 22 ∨ T p = 27) then (1, p, o)
      else if 50 ≤ o ∨ 10 ≤ r.length then (4, p, o)
      else if T p = 22 then rd_mc T n 0 (p + 1) (o + 1) (true :: r)
      else if T p = 27 then rd_mc T n 0 (p + 1) (o + 1) (false :: r)
      else if T p < 11 then rd_mc T n 1 (p + 1) (o + 1) r
      else rd_mc T n 2 (p + 1) (o + 1) r
    else if s = 2 then (if 19 ≤ T p ∧ T p ≤ 21 then rd_mc T n 3 (p + 1) o r else (1, p, o))
    else if s = 3 then (if T p = 29 then rd_mc T n 1 (p + 1) o r else (1, p, o))
    else if T p = 28 ∧ rd_dn r ≠ [] then rd_mc T n 1 (p + 1) o (rd_dn r).tail
    else if T p = 24 ∨ T p = 25 then rd_mc T n 0 (p + 1) o (rd_dn r)
    else if rd_dn r ≠ [] then (1, p, o) else (0, p, o)
def rd_m (T : Nat → Nat) (s p o : Nat) (r : List Bool) : Nat × Nat × Nat := rd_mc T (400 - p) s p o r
theorem rd_m_e {T : Nat → Nat} {s p o : Nat} {r : List Bool} (h : p < 400) : rd_m T s p o r = (if s = 0 then
      if ¬ ((7 ≤ T p ∧ T p ≤ 18) ∨ T p = 22 ∨ T p = 27) then (1, p, o)
      else if 50 ≤ o ∨ 10 ≤ r.length then (4, p, o)
      else if T p = 22 then rd_m T 0 (p + 1) (o + 1) (true :: r)
      else if T p = 27 then rd_m T 0 (p + 1) (o + 1) (false :: r)
      else if T p < 11 then rd_m T 1 (p + 1) (o + 1) r
      else rd_m T 2 (p + 1) (o + 1) r
    else if s = 2 then (if 19 ≤ T p ∧ T p ≤ 21 then rd_m T 3 (p + 1) o r else (1, p, o))
    else if s = 3 then (if T p = 29 then rd_m T 1 (p + 1) o r else (1, p, o))
    else if T p = 28 ∧ rd_dn r ≠ [] then rd_m T 1 (p + 1) o (rd_dn r).tail
    else if T p = 24 ∨ T p = 25 then rd_m T 0 (p + 1) o (rd_dn r)
    else if rd_dn r ≠ [] then (1, p, o) else (0, p, o)) := by
  unfold rd_m
  have e : 400 - p = (400 - (p + 1)) + 1 := by omega
  rw [e]; rfl
theorem rd_m0_bad {T : Nat → Nat} {p o : Nat} {r : List Bool} (h : p < 400) (h1 : ¬ ((7 ≤ T p ∧ T p ≤ 18) ∨ T p = 22 ∨ T p = 27)) : rd_m T 0 p o r = (1, p, o) := by
  rw [rd_m_e h, if_pos rfl, if_pos h1]
theorem rd_m0_many {T : Nat → Nat} {p o : Nat} {r : List Bool} (h : p < 400) (h1 : (7 ≤ T p ∧ T p ≤ 18) ∨ T p = 22 ∨ T p = 27) (h2 : 50 ≤ o ∨ 10 ≤ r.length) : rd_m T 0 p o r = (4, p, o) := by
  rw [rd_m_e h, if_pos rfl, if_neg (fun w => w h1), if_pos h2]
theorem rd_m0_not {T : Nat → Nat} {p o : Nat} {r : List Bool} (h : p < 400) (h1 : T p = 22) (h2 : ¬ (50 ≤ o ∨ 10 ≤ r.length)) : rd_m T 0 p o r = rd_m T 0 (p + 1) (o + 1) (true :: r) := by
  rw [rd_m_e h, if_pos rfl, if_neg (fun w => w (Or.inr (Or.inl h1))), if_neg h2, if_pos h1]
theorem rd_m0_par {T : Nat → Nat} {p o : Nat} {r : List Bool} (h : p < 400) (h1 : T p = 27) (h2 : ¬ (50 ≤ o ∨ 10 ≤ r.length)) : rd_m T 0 p o r = rd_m T 0 (p + 1) (o + 1) (false :: r) := by
  rw [rd_m_e h, if_pos rfl, if_neg (fun w => w (Or.inr (Or.inr h1))), if_neg h2, if_neg (by omega), if_pos h1]
theorem rd_m0_flag {T : Nat → Nat} {p o : Nat} {r : List Bool} (h : p < 400) (h1 : 7 ≤ T p ∧ T p ≤ 10) (h2 : ¬ (50 ≤ o ∨ 10 ≤ r.length)) : rd_m T 0 p o r = rd_m T 1 (p + 1) (o + 1) r := by
  rw [rd_m_e h, if_pos rfl, if_neg (fun w => w (Or.inl ⟨h1.1, by omega⟩)), if_neg h2, if_neg (by omega), if_neg (by omega), if_pos (by omega)]
theorem rd_m0_fact {T : Nat → Nat} {p o : Nat} {r : List Bool} (h : p < 400) (h1 : 11 ≤ T p ∧ T p ≤ 18) (h2 : ¬ (50 ≤ o ∨ 10 ≤ r.length)) : rd_m T 0 p o r = rd_m T 2 (p + 1) (o + 1) r := by
  rw [rd_m_e h, if_pos rfl, if_neg (fun w => w (Or.inl ⟨by omega, h1.2⟩)), if_neg h2, if_neg (by omega), if_neg (by omega), if_neg (by omega)]
theorem rd_m2_bad {T : Nat → Nat} {p o : Nat} {r : List Bool} (h : p < 400) (h1 : ¬ (19 ≤ T p ∧ T p ≤ 21)) : rd_m T 2 p o r = (1, p, o) := by
  rw [rd_m_e h, if_neg (by omega), if_pos rfl, if_neg h1]
theorem rd_m2_sign {T : Nat → Nat} {p o : Nat} {r : List Bool} (h : p < 400) (h1 : 19 ≤ T p ∧ T p ≤ 21) : rd_m T 2 p o r = rd_m T 3 (p + 1) o r := by
  rw [rd_m_e h, if_neg (by omega), if_pos rfl, if_pos h1]
theorem rd_m3_bad {T : Nat → Nat} {p o : Nat} {r : List Bool} (h : p < 400) (h1 : ¬ T p = 29) : rd_m T 3 p o r = (1, p, o) := by
  rw [rd_m_e h, if_neg (by omega), if_neg (by omega), if_pos rfl, if_neg h1]
theorem rd_m3_num {T : Nat → Nat} {p o : Nat} {r : List Bool} (h : p < 400) (h1 : T p = 29) : rd_m T 3 p o r = rd_m T 1 (p + 1) o r := by
  rw [rd_m_e h, if_neg (by omega), if_neg (by omega), if_pos rfl, if_pos h1]
theorem rd_m1_e {T : Nat → Nat} {p o : Nat} {r : List Bool} (h : p < 400) : rd_m T 1 p o r = (if T p = 28 ∧ rd_dn r ≠ [] then rd_m T 1 (p + 1) o (rd_dn r).tail else if T p = 24 ∨ T p = 25 then rd_m T 0 (p + 1) o (rd_dn r) else if rd_dn r ≠ [] then (1, p, o) else (0, p, o)) := by
  rw [rd_m_e h, if_neg (by omega), if_neg (by omega), if_neg (by omega)]
theorem rd_m1_t (T : Nat → Nat) (p o : Nat) (r : List Bool) (h : p < 400) : rd_m T 1 p o (true :: r) = rd_m T 1 p o r := by
  rw [rd_m1_e h, rd_m1_e h, rd_dn_t]
theorem rd_m1_dn (T : Nat → Nat) (p o : Nat) (r : List Bool) (h : p < 400) : rd_m T 1 p o (rd_dn r) = rd_m T 1 p o r := by
  rw [rd_m1_e h, rd_m1_e h, rd_dn_i]
theorem rd_m1_close {T : Nat → Nat} {p o : Nat} {r : List Bool} (h : p < 400) (h1 : T p = 28) : rd_m T 1 p o (false :: r) = rd_m T 1 (p + 1) o r := by
  rw [rd_m_e h, if_neg (by omega), if_neg (by omega), if_neg (by omega), rd_dn_f, if_pos ⟨h1, fun w => by cases w⟩]; rfl
theorem rd_m1_join {T : Nat → Nat} {p o : Nat} {r : List Bool} (h : p < 400) (h1 : T p = 24 ∨ T p = 25) (h2 : rd_dn r = r) : rd_m T 1 p o r = rd_m T 0 (p + 1) o r := by
  rw [rd_m_e h, if_neg (by omega), if_neg (by omega), if_neg (by omega), if_neg (by omega), if_pos h1, h2]
theorem rd_m1_bad {T : Nat → Nat} {p o : Nat} {r : List Bool} (h : p < 400) (h1 : ¬ T p = 28) (h2 : ¬ (T p = 24 ∨ T p = 25)) : rd_m T 1 p o (false :: r) = (1, p, o) := by
  rw [rd_m_e h, if_neg (by omega), if_neg (by omega), if_neg (by omega), if_neg (fun w => h1 w.1), if_neg h2, rd_dn_f, if_pos (fun w => by cases w)]
theorem rd_m1_end {T : Nat → Nat} {p o : Nat} (h : p < 400) (h2 : ¬ (T p = 24 ∨ T p = 25)) : rd_m T 1 p o [] = (0, p, o) := by
  rw [rd_m_e h, if_neg (by omega), if_neg (by omega), if_neg (by omega), if_neg (fun w => w.2 rfl), if_neg h2, if_neg (fun w => w rfl)]
def rd_l3 (T : Nat → Nat) (q : Nat × Nat × Nat) : Nat × Nat × Nat := if ¬ q.1 = 0 then q else if T q.2.1 = 26 then (0, q.2.1 + 1, q.2.2) else (1, q.2.1, q.2.2)
def rd_l2 (T : Nat → Nat) (h p o : Nat) : Nat × Nat × Nat := rd_l3 T (if ¬ h = 6 ∧ T p = 23 then rd_m T 0 (p + 1) o [] else (0, p, o))
def rd_ln (T : Nat → Nat) (N : Nat → Int) (p o ln : Nat) (dk : Bool) : Nat × Nat × Nat :=
  if ¬ T p < 7 then (1, p, o)
  else if 16 ≤ ln ∨ (T p = 6 ∧ dk = true) then (3, p, o)
  else if T p < 2 then rd_l2 T (T p) (if T (p + 1) = 22 then p + 2 else p + 1) o
  else if T (p + 1) = 29 ∧ 2000 < N (p + 1) then (2, p + 1, o)
  else if ¬ T (p + 1) = 29 then (1, p + 1, o)
  else rd_l2 T (T p) (p + 2) o
def rd_tt (T : Nat → Nat) (N : Nat → Int) : Nat → Nat → Nat → Nat → Bool → Nat × Nat × Nat
  | 0, p, _, _, _ => (9, p, 0)
  | f + 1, p, o, ln, dk => if T p = 30 then (0, p, ln) else if (rd_ln T N p o ln dk).1 = 0 then rd_tt T N f (rd_ln T N p o ln dk).2.1 (rd_ln T N p o ln dk).2.2 (ln + 1) (dk || decide (T p = 6)) else ((rd_ln T N p o ln dk).1, (rd_ln T N p o ln dk).2.1, ln)
def rd_txt (T : Nat → Nat) (N : Nat → Int) : Nat × Nat × Nat := rd_tt T N 400 0 0 0 false
theorem rd_ln_bad {T : Nat → Nat} {N : Nat → Int} {p o ln : Nat} {dk : Bool} (h : ¬ T p < 7) : rd_ln T N p o ln dk = (1, p, o) := by
  unfold rd_ln; rw [if_pos h]
theorem rd_ln_many {T : Nat → Nat} {N : Nat → Int} {p o ln : Nat} {dk : Bool} (h : T p < 7) (h1 : 16 ≤ ln ∨ (T p = 6 ∧ dk = true)) : rd_ln T N p o ln dk = (3, p, o) := by
  unfold rd_ln; rw [if_neg (fun w => w h), if_pos h1]
theorem rd_ln_s2 {T : Nat → Nat} {N : Nat → Int} {p o ln : Nat} {dk : Bool} (h : T p < 2) (h1 : ¬ (16 ≤ ln ∨ (T p = 6 ∧ dk = true))) (h2 : T (p + 1) = 22) : rd_ln T N p o ln dk = rd_l2 T (T p) (p + 2) o := by
  unfold rd_ln; rw [if_neg (fun w => w (by omega)), if_neg h1, if_pos h, if_pos h2]
theorem rd_ln_s1 {T : Nat → Nat} {N : Nat → Int} {p o ln : Nat} {dk : Bool} (h : T p < 2) (h1 : ¬ (16 ≤ ln ∨ (T p = 6 ∧ dk = true))) (h2 : ¬ T (p + 1) = 22) : rd_ln T N p o ln dk = rd_l2 T (T p) (p + 1) o := by
  unfold rd_ln; rw [if_neg (fun w => w (by omega)), if_neg h1, if_pos h, if_neg h2]
theorem rd_ln_v2 {T : Nat → Nat} {N : Nat → Int} {p o ln : Nat} {dk : Bool} (h : 2 ≤ T p ∧ T p < 7) (h1 : ¬ (16 ≤ ln ∨ (T p = 6 ∧ dk = true))) (h2 : T (p + 1) = 29) (h3 : 2000 < N (p + 1)) : rd_ln T N p o ln dk = (2, p + 1, o) := by
  unfold rd_ln; rw [if_neg (fun w => w h.2), if_neg h1, if_neg (by omega), if_pos ⟨h2, h3⟩]
theorem rd_ln_v1 {T : Nat → Nat} {N : Nat → Int} {p o ln : Nat} {dk : Bool} (h : 2 ≤ T p ∧ T p < 7) (h1 : ¬ (16 ≤ ln ∨ (T p = 6 ∧ dk = true))) (h2 : ¬ T (p + 1) = 29) : rd_ln T N p o ln dk = (1, p + 1, o) := by
  unfold rd_ln; rw [if_neg (fun w => w h.2), if_neg h1, if_neg (by omega), if_neg (fun w => h2 w.1), if_pos h2]
theorem rd_ln_v {T : Nat → Nat} {N : Nat → Int} {p o ln : Nat} {dk : Bool} (h : 2 ≤ T p ∧ T p < 7) (h1 : ¬ (16 ≤ ln ∨ (T p = 6 ∧ dk = true))) (h2 : T (p + 1) = 29) (h3 : ¬ 2000 < N (p + 1)) : rd_ln T N p o ln dk = rd_l2 T (T p) (p + 2) o := by
  unfold rd_ln; rw [if_neg (fun w => w h.2), if_neg h1, if_neg (by omega), if_neg (fun w => h3 w.2), if_neg (fun w => w h2)]
theorem rd_l2_if {T : Nat → Nat} {h p o : Nat} (h1 : ¬ h = 6) (h2 : T p = 23) : rd_l2 T h p o = rd_l3 T (rd_m T 0 (p + 1) o []) := by
  unfold rd_l2; rw [if_pos ⟨h1, h2⟩]
theorem rd_l2_no {T : Nat → Nat} {h p o : Nat} (h1 : h = 6 ∨ ¬ T p = 23) : rd_l2 T h p o = rd_l3 T (0, p, o) := by
  unfold rd_l2; rw [if_neg (fun w => h1.elim w.1 (fun q => q w.2))]
theorem rd_l3_f {T : Nat → Nat} {k p o : Nat} (h : 0 < k) : rd_l3 T (k, p, o) = (k, p, o) := by
  unfold rd_l3; rw [if_pos (show ¬ k = 0 by omega)]
theorem rd_l3_ok {T : Nat → Nat} {p o : Nat} (h : T p = 26) : rd_l3 T (0, p, o) = (0, p + 1, o) := by
  unfold rd_l3
  rw [if_neg (fun w => w rfl)]
  show (if T p = 26 then _ else _) = _
  rw [if_pos h]
theorem rd_l3_bad {T : Nat → Nat} {p o : Nat} (h : ¬ T p = 26) : rd_l3 T (0, p, o) = (1, p, o) := by
  unfold rd_l3
  rw [if_neg (fun w => w rfl)]
  show (if T p = 26 then _ else _) = _
  rw [if_neg h]
def rd_y (S : Nat → Nat) (e : Nat × Nat × Nat) (r fk fp pl on : Int32) : Prop := (r = 0 ∧ 0 < fk.toInt ∧ e.1 = fk.toInt.toNat ∧ fp.toInt = (S e.2.1 : Nat)) ∨ (r = 1 ∧ e = (0, pl.toInt.toNat, on.toInt.toNat))
theorem rd_yF {S : Nat → Nat} {e : Nat × Nat × Nat} {fk fp pl on : Int32} {k q o : Nat} (h1 : fk.toInt = (k : Int)) (h2 : 0 < k) (h3 : e = (k, q, o)) (h4 : fp.toInt = (S q : Nat)) : rd_y S e 0 fk fp pl on := by
  subst h3
  exact Or.inl ⟨rfl, by omega, by show k = _; omega, h4⟩
theorem rd_tt_end {T : Nat → Nat} {N : Nat → Int} {f p o ln : Nat} {dk : Bool} (h : T p = 30) : rd_tt T N (f + 1) p o ln dk = (0, p, ln) := by
  show (if T p = 30 then _ else _) = _
  rw [if_pos h]
theorem rd_tt_go {T : Nat → Nat} {N : Nat → Int} {f p o ln : Nat} {dk : Bool} {p1 o1 : Nat} (h : ¬ T p = 30) (e : rd_ln T N p o ln dk = (0, p1, o1)) : rd_tt T N (f + 1) p o ln dk = rd_tt T N f p1 o1 (ln + 1) (dk || decide (T p = 6)) := by
  show (if T p = 30 then _ else if (rd_ln T N p o ln dk).1 = 0 then _ else _) = _
  rw [if_neg h, e, if_pos rfl]
theorem rd_tt_bad {T : Nat → Nat} {N : Nat → Int} {f p o ln : Nat} {dk : Bool} (h : ¬ T p = 30) (e : ¬ (rd_ln T N p o ln dk).1 = 0) : rd_tt T N (f + 1) p o ln dk = ((rd_ln T N p o ln dk).1, (rd_ln T N p o ln dk).2.1, ln) := by
  show (if T p = 30 then _ else if (rd_ln T N p o ln dk).1 = 0 then _ else _) = _
  rw [if_neg h, if_neg e]
def rd_z (T S : Nat → Nat) (N : Nat → Int) (fk fp li : Int32) : Prop := (fk.toInt = 0 ∧ ∃ q, rd_txt T N = (0, q, li.toInt.toNat)) ∨ (0 < fk.toInt ∧ (rd_txt T N).1 = fk.toInt.toNat ∧ fp.toInt = (S (rd_txt T N).2.1 : Nat))
def rd_sg (j : Nat) : Int := if j = 19 then 60 else if j = 20 then 61 else if j = 21 then 62 else if j = 26 then 59 else if j = 27 then 40 else 41
def rd_rel (t : Nat) (num : Int) (kd sg nu : Int32) (w : Int64) : Prop := (kd.toInt = 0 ↔ t = 30) ∧ (kd.toInt = 3 ↔ t = 29) ∧ (t = 29 → nu.toInt = num) ∧ (∀ j, (19 ≤ j ∧ j ≤ 21) ∨ (26 ≤ j ∧ j ≤ 28) → ((kd.toInt = 4 ∧ sg.toInt = rd_sg j) ↔ t = j)) ∧ (∀ j, j ≤ 18 ∨ (22 ≤ j ∧ j ≤ 25) → ((kd.toInt = 2 ∧ w.toInt = rd_u (rd_tb.getD j [])) ↔ t = j))
theorem rd_rel_no {t : Nat} {num : Int} {kd sg nu : Int32} {w : Int64} (hk : kd.toInt = 1) (ht : t = 31) : rd_rel t num kd sg nu w := by
  subst ht
  refine ⟨⟨fun h => by omega, fun h => by omega⟩, ⟨fun h => by omega, fun h => by omega⟩, fun h => by omega, fun j hj => ⟨fun h => by omega, fun h => by omega⟩, fun j hj => ⟨fun h => by omega, fun h => by omega⟩⟩
theorem rd_rel_end {t : Nat} {num : Int} {kd sg nu : Int32} {w : Int64} (hk : kd.toInt = 0) (ht : t = 30) : rd_rel t num kd sg nu w := by
  subst ht
  refine ⟨⟨fun _ => rfl, fun _ => hk⟩, ⟨fun h => by omega, fun h => by omega⟩, fun h => by omega, fun j hj => ⟨fun h => by omega, fun h => by omega⟩, fun j hj => ⟨fun h => by omega, fun h => by omega⟩⟩
theorem rd_rel_num {t : Nat} {num : Int} {kd sg nu : Int32} {w : Int64} (hk : kd.toInt = 3) (ht : t = 29) (hn : nu.toInt = num) : rd_rel t num kd sg nu w := by
  subst ht
  refine ⟨⟨fun h => by omega, fun h => by omega⟩, ⟨fun _ => rfl, fun _ => hk⟩, fun _ => hn, fun j hj => ⟨fun h => by omega, fun h => by omega⟩, fun j hj => ⟨fun h => by omega, fun h => by omega⟩⟩
theorem rd_sg_lk : ∀ j, j < 29 → (19 ≤ j ∧ j ≤ 21) ∨ (26 ≤ j ∧ j ≤ 28) → rd_tb.getD j [] = [rd_sg j] := by decide +kernel
theorem rd_sg_ln : ∀ j, j < 29 → (rd_tb.getD j []).length = 1 → (19 ≤ j ∧ j ≤ 21) ∨ (26 ≤ j ∧ j ≤ 28) := by decide +kernel
theorem rd_wd_l : ∀ j, j < 29 → j ≤ 18 ∨ (22 ≤ j ∧ j ≤ 25) → ∀ d ∈ rd_tb.getD j [], 97 ≤ d ∧ d ≤ 122 := by decide +kernel
theorem rd_sg_nl : ∀ j, j < 29 → (19 ≤ j ∧ j ≤ 21) ∨ (26 ≤ j ∧ j ≤ 28) → ¬ (97 ≤ rd_sg j ∧ rd_sg j ≤ 122) := by decide +kernel
theorem rd_sg_mk : ∀ j, j < 29 → (19 ≤ j ∧ j ≤ 21) ∨ (26 ≤ j ∧ j ≤ 28) → rd_sg j = 59 ∨ rd_sg j = 40 ∨ rd_sg j = 41 ∨ rd_sg j = 60 ∨ rd_sg j = 61 ∨ rd_sg j = 62 := by decide +kernel
theorem rd_rel_sign {num c : Int} {kd sg nu : Int32} {w : Int64} (hk : kd.toInt = 4) (hs : sg.toInt = c) (hc : c = 59 ∨ c = 40 ∨ c = 41 ∨ c = 60 ∨ c = 61 ∨ c = 62) : rd_rel (rd_lk [c]) num kd sg nu w := by
  have hl : rd_lk [c] = 26 ∨ rd_lk [c] = 27 ∨ rd_lk [c] = 28 ∨ rd_lk [c] = 19 ∨ rd_lk [c] = 20 ∨ rd_lk [c] = 21 := by
    rcases hc with e | e | e | e | e | e <;> subst e
    · exact Or.inl (by decide +kernel)
    · exact Or.inr (Or.inl (by decide +kernel))
    · exact Or.inr (Or.inr (Or.inl (by decide +kernel)))
    · exact Or.inr (Or.inr (Or.inr (Or.inl (by decide +kernel))))
    · exact Or.inr (Or.inr (Or.inr (Or.inr (Or.inl (by decide +kernel)))))
    · exact Or.inr (Or.inr (Or.inr (Or.inr (Or.inr (by decide +kernel)))))
  refine ⟨⟨fun h => by omega, fun h => by omega⟩, ⟨fun h => by omega, fun h => by omega⟩, fun h => by omega, fun j hj => ⟨fun h => ?_, fun h => ⟨hk, ?_⟩⟩, fun j hj => ⟨fun h => by omega, fun h => by omega⟩⟩
  · rw [rd_lk_iff _ j (by omega), rd_sg_lk j (by omega) hj, ← h.2, hs]
  · have h1 := (rd_lk_iff _ j (by omega)).mp h
    rw [rd_sg_lk j (by omega) hj] at h1
    rw [hs]; exact (List.cons.inj h1).1
theorem rd_lk_nm {c : Int} (hc : ¬ (c = 59 ∨ c = 40 ∨ c = 41 ∨ c = 60 ∨ c = 61 ∨ c = 62)) : rd_lk [c] = 31 := by
  rcases rd_lk_no [c] with h | h
  · have h1 := (rd_lk_iff [c] (rd_lk [c]) h).mp rfl
    have h2 := rd_sg_ln (rd_lk [c]) h (by rw [← h1]; rfl)
    rw [rd_sg_lk _ h h2] at h1
    have h3 := rd_sg_mk _ h h2
    rw [← (List.cons.inj h1).1] at h3
    exact absurd h3 hc
  · exact h
theorem rd_rel_word {l : List Int} {num : Int} {kd sg nu : Int32} {w : Int64} (hk : kd.toInt = 2) (hw : w.toInt = rd_u l) (hl : ∀ d ∈ l, 97 ≤ d ∧ d ≤ 122) (hn : l ≠ []) : rd_rel (rd_lk l) num kd sg nu w := by
  have h0 := rd_lk_no l
  refine ⟨⟨fun h => by omega, fun h => by omega⟩, ⟨fun h => by omega, fun h => by omega⟩, fun h => by omega, fun j hj => ⟨fun h => by omega, fun h => ?_⟩, fun j hj => ⟨fun h => ?_, fun h => ⟨hk, ?_⟩⟩⟩
  · have h1 := (rd_lk_iff l j (by omega)).mp h
    rw [rd_sg_lk j (by omega) hj] at h1
    have h2 := hl (rd_sg j) (by rw [h1]; exact List.mem_cons_self ..)
    exact absurd h2 (rd_sg_nl j (by omega) hj)
  · rw [rd_lk_iff l j (by omega)]
    exact rd_u_inj l _ hl (rd_wd_l j (by omega) hj) (by rw [← hw, h.2])
  · rw [hw, (rd_lk_iff l j (by omega)).mp h]
theorem rd_tx_all {b : Nat → Int} {a : Nat} : ∀ m, rd_c b a m = 0 → (∀ i, i < m → rd_l (b (a + i)) = true ∨ rd_d (b (a + i)) = true) → ∀ d ∈ rd_tx b a m, 97 ≤ d ∧ d ≤ 122 := by
  intro m
  induction m with
  | zero => intro _ _ d hd; cases hd
  | succ m ih =>
    intro h0 h d hd
    have e : rd_c b a (m + 1) = rd_c b a m + (if rd_d (b (a + m)) = true then 1 else 0) := rfl
    rw [e] at h0
    have h1 : ¬ rd_d (b (a + m)) = true := by
      intro w
      rw [if_pos w] at h0
      omega
    rcases List.mem_cons.mp hd with q | q
    · rw [q]
      rcases h m (by omega) with w | w
      · exact of_decide_eq_true w
      · exact absurd w h1
    · exact ih (by omega) (fun i hi => h i (by omega)) d q
theorem rd_bm {x : Int} (h1 : -9223372036854775808 ≤ x) (h2 : x ≤ 9223372036854775807) : x.bmod (2 ^ 64) = x := by
  rw [Int.bmod_eq_of_le (by omega) (by omega)]
theorem rd_w64 {w x y z : Int64} {v : Int32} {i : Int64} (e1 : x = 27 * w) (e2 : i = v.toInt64) (e3 : y = x + i) (e4 : z = y - 96) (hw : 0 ≤ w.toInt ∧ w.toInt ≤ 20000000000000) (hv : 0 ≤ v.toInt ∧ v.toInt ≤ 255) : z.toInt = 27 * w.toInt + (v.toInt - 96) := by
  have a1 : (27 : Int64).toInt = 27 := by decide
  have a2 : (96 : Int64).toInt = 96 := by decide
  have h1 : x.toInt = 27 * w.toInt := by rw [e1, Int64.toInt_mul, a1, rd_bm (by omega) (by omega)]
  have h2 : i.toInt = v.toInt := by rw [e2, Int32.toInt_toInt64]
  have h3 : y.toInt = 27 * w.toInt + v.toInt := by rw [e3, Int64.toInt_add, h1, h2, rd_bm (by omega) (by omega)]
  rw [e4, Int64.toInt_sub, h3, a2, rd_bm (by omega) (by omega)]
  omega
theorem rd_limI {v x : Int32} (e : v = if (300 : Int32) < x then 300 else x) (h : 0 ≤ x.toInt) : v.toInt.toNat = rd_lim x.toInt.toNat ∧ v.toInt = (rd_lim x.toInt.toNat : Nat) := by
  have z : (300 : Int32).toInt = 300 := by decide
  subst e
  unfold rd_lim
  by_cases q : (300 : Int32) < x
  · have q1 := Int32.lt_iff_toInt_lt.mp q
    rw [if_pos q, if_neg (by omega)]; omega
  · have q1 : ¬ (300 : Int32).toInt < x.toInt := fun w => q (Int32.lt_iff_toInt_lt.mpr w)
    rw [if_neg q]
    by_cases q2 : x.toInt.toNat < 300
    · rw [if_pos q2]; omega
    · rw [if_neg q2]; omega
theorem rd_mxI {v x y : Int32} (e : v = if x < y then y else x) (hx : 0 ≤ x.toInt) (hy : 0 ≤ y.toInt) : v.toInt.toNat = rd_mx x.toInt.toNat y.toInt.toNat := by
  subst e
  unfold rd_mx
  by_cases q : x < y
  · have q1 := Int32.lt_iff_toInt_lt.mp q
    rw [if_pos q, if_pos (by omega)]
  · have q1 : ¬ x.toInt < y.toInt := fun w => q (Int32.lt_iff_toInt_lt.mpr w)
    rw [if_neg q, if_neg (by omega)]
theorem rd_T_at {b : Nat → Int} {n k : Nat} (h : rd_st b n k < rd_lim n) : rd_T b n k = rd_cl b (rd_st b n k) (rd_en b n (k + 1) - rd_st b n k) := by unfold rd_T; rw [if_pos h]
theorem rd_S_at {b : Nat → Int} {n k : Nat} (h : rd_st b n k < rd_lim n) : rd_S b n k = rd_st b n k := by unfold rd_S; rw [if_pos h]
theorem rd_en_at {b : Nat → Int} {n k : Nat} (h : rd_st b n k < rd_lim n) : rd_en b n (k + 1) = rd_mx (rd_st b n k + 1) (rd_w b n (rd_st b n k)) := by rw [rd_en1]; unfold rd_nx; rw [if_pos h]
theorem rd_T_w {b : Nat → Int} {n k : Nat} (h : rd_lim n ≤ rd_st b n k) (hn : 300 < n) : rd_T b n k = 31 := by unfold rd_T; rw [if_neg (by omega), if_pos hn]
theorem rd_T_e {b : Nat → Int} {n k : Nat} (h : rd_lim n ≤ rd_st b n k) (hn : ¬ 300 < n) : rd_T b n k = 30 := by unfold rd_T; rw [if_neg (by omega), if_neg hn]
theorem rd_S_e {b : Nat → Int} {n k : Nat} (h : rd_lim n ≤ rd_st b n k) : rd_S b n k = rd_lim n := by unfold rd_S; rw [if_neg (by omega)]
theorem rd_N_e {b : Nat → Int} {n k : Nat} (h : rd_lim n ≤ rd_st b n k) : rd_N b n k = 0 := by
  have e : rd_en b n (k + 1) = rd_st b n k := by rw [rd_en1]; unfold rd_nx; rw [if_neg (by omega)]
  unfold rd_N
  rw [e, Nat.sub_self]; rfl
def rd_b (g : Nat → Int32) : Nat → Int := fun i => (g i).toInt
theorem rd_lT {g : Nat → Int32} {i : Nat} {v : Int32} (e : v = g i) (h1 : 97 ≤ v.toInt) (h2 : v.toInt ≤ 122) : rd_l (rd_b g i) = true := by subst e; exact decide_eq_true ⟨h1, h2⟩
theorem rd_lF {g : Nat → Int32} {i : Nat} {v : Int32} (e : v = g i) (h : ¬ (97 ≤ v.toInt ∧ v.toInt ≤ 122)) : ¬ rd_l (rd_b g i) = true := by subst e; intro w; exact h (of_decide_eq_true w)
theorem rd_dT {g : Nat → Int32} {i : Nat} {v : Int32} (e : v = g i) (h1 : 48 ≤ v.toInt) (h2 : v.toInt ≤ 57) : rd_d (rd_b g i) = true := by subst e; exact decide_eq_true ⟨h1, h2⟩
theorem rd_dF {g : Nat → Int32} {i : Nat} {v : Int32} (e : v = g i) (h : ¬ (48 ≤ v.toInt ∧ v.toInt ≤ 57)) : ¬ rd_d (rd_b g i) = true := by subst e; intro w; exact h (of_decide_eq_true w)
theorem rd_c_le (b : Nat → Int) (a : Nat) : ∀ m, rd_c b a m ≤ m := by
  intro m
  induction m with
  | zero => exact Nat.le_refl _
  | succ m ih =>
    show rd_c b a m + (if rd_d (b (a + m)) = true then 1 else 0) ≤ m + 1
    by_cases h : rd_d (b (a + m)) = true
    · rw [if_pos h]; omega
    · rw [if_neg h]; omega
theorem rd_c_d {b : Nat → Int} {a m : Nat} (h : rd_d (b (a + m)) = true) : rd_c b a (m + 1) = rd_c b a m + 1 := by
  show rd_c b a m + (if rd_d (b (a + m)) = true then 1 else 0) = rd_c b a m + 1
  rw [if_pos h]
theorem rd_c_n {b : Nat → Int} {a m : Nat} (h : ¬ rd_d (b (a + m)) = true) : rd_c b a (m + 1) = rd_c b a m := by
  show rd_c b a m + (if rd_d (b (a + m)) = true then 1 else 0) = rd_c b a m
  rw [if_neg h]; rfl
theorem rd_nb_d {b : Nat → Int} {a m : Nat} (h : rd_d (b (a + m)) = true) : rd_nb b a (m + 1) = rd_nb b a m * 10 + (b (a + m) - 48) := by
  show rd_nb b a m * 10 + (if rd_d (b (a + m)) = true then b (a + m) - 48 else 0) = _
  rw [if_pos h]
theorem rd_nb_n {b : Nat → Int} {a m : Nat} (h : ¬ rd_d (b (a + m)) = true) : rd_nb b a (m + 1) = rd_nb b a m * 10 + 0 := by
  show rd_nb b a m * 10 + (if rd_d (b (a + m)) = true then b (a + m) - 48 else 0) = _
  rw [if_neg h]
theorem rd_nb_0 (b : Nat → Int) (a m : Nat) : 0 ≤ rd_nb b a m := by
  induction m with
  | zero => exact Int.le_refl _
  | succ m ih =>
    by_cases h : rd_d (b (a + m)) = true
    · rw [rd_nb_d h]; have := of_decide_eq_true h; omega
    · rw [rd_nb_n h]; omega
theorem rd_nb_s (b : Nat → Int) (a m : Nat) : rd_nb b a (m + 1) ≤ rd_nb b a m * 10 + 9 := by
  by_cases h : rd_d (b (a + m)) = true
  · rw [rd_nb_d h]; have := of_decide_eq_true h; omega
  · rw [rd_nb_n h]; omega
theorem rd_nb_3 (b : Nat → Int) (a m : Nat) (h : m ≤ 3) : rd_nb b a m ≤ 999 := by
  have h1 : rd_nb b a 1 ≤ rd_nb b a 0 * 10 + 9 := rd_nb_s b a 0
  have h2 : rd_nb b a 2 ≤ rd_nb b a 1 * 10 + 9 := rd_nb_s b a 1
  have h3 : rd_nb b a 3 ≤ rd_nb b a 2 * 10 + 9 := rd_nb_s b a 2
  have h0 : rd_nb b a 0 = 0 := rfl
  have hm : m = 0 ∨ m = 1 ∨ m = 2 ∨ m = 3 := by omega
  rcases hm with e | e | e | e <;> subst e <;> omega
theorem rd_cl_n {b : Nat → Int} {a m : Nat} (h : rd_c b a m = m) (h1 : m ≤ 4) : rd_cl b a m = 29 := by
  unfold rd_cl; rw [if_pos h, if_pos h1]
theorem rd_cl_w {b : Nat → Int} {a m : Nat} (h : rd_c b a m = m) (h1 : ¬ m ≤ 4) : rd_cl b a m = 31 := by
  unfold rd_cl; rw [if_pos h, if_neg h1]
theorem rd_cl_x {b : Nat → Int} {a m : Nat} (h : ¬ rd_c b a m = m) (h1 : 0 < rd_c b a m ∨ 8 < m) : rd_cl b a m = 31 := by
  unfold rd_cl; rw [if_neg h, if_pos h1]
theorem rd_cl_k {b : Nat → Int} {a m : Nat} (h : ¬ rd_c b a m = m) (h1 : ¬ (0 < rd_c b a m ∨ 8 < m)) : rd_cl b a m = rd_lk (rd_tx b a m) := by
  unfold rd_cl; rw [if_neg h, if_neg h1]
theorem rd_a255 {x : Int32} (h : 0 ≤ x.toInt ∧ x.toInt ≤ 127) : x &&& 255 = x := by
  have t : ∀ n : Fin 128, (nI n.val) &&& 255 = nI n.val := by decide +kernel
  have hx : x = nI x.toInt.toNat := Int32.toInt_inj.mp (by rw [nI_toInt (by omega)]; omega)
  have t1 := t ⟨x.toInt.toNat, by omega⟩
  rw [hx]; exact t1
def rd_hx (tkL : Nat → Nat) (tkB : Nat → Nat → Int32) : Prop := ∀ j, j < 32 → rd_tx (fun i => (tkB j i).toInt) 0 (tkL j) = rd_tb.getD j [] ∧ ∀ i, i < tkL j → 0 ≤ (tkB j i).toInt ∧ (tkB j i).toInt ≤ 127
theorem rd_ix_hit {t : List Int} {i : Nat} (hi : i < 29) (h : rd_tb.getD i [] = t) : rd_ix t (rd_tb.drop i) i = i := by
  rw [rd_ix_dr t i hi, if_pos h]
theorem rd_ix_nx {t : List Int} {i : Nat} (h : rd_tb.getD i [] ≠ t) : rd_ix t (rd_tb.drop i) i = rd_ix t (rd_tb.drop (i + 1)) (i + 1) := by
  rcases Nat.lt_or_ge i 29 with hi | hi
  · rw [rd_ix_dr t i hi, if_neg h]
  · have h5 : rd_tb.length = 29 := by decide
    rw [List.drop_eq_nil_of_le (by omega), List.drop_eq_nil_of_le (by omega)]; rfl
theorem rd_ix_end (t : List Int) : rd_ix t (rd_tb.drop 32) 32 = 31 := by
  have h5 : rd_tb.length = 29 := by decide
  rw [List.drop_eq_nil_of_le (by omega)]; rfl
theorem rd_tl_no {tkL : Nat → Nat} {tkB : Nat → Nat → Int32} (h : rd_hx tkL tkB) {j : Nat} (hj : j < 32) {b : Nat → Int} {a m : Nat} (hm : tkL j ≠ m) : rd_tb.getD j [] ≠ rd_tx b a m := by
  intro e
  have h1 := (h j hj).1
  rw [e] at h1
  have h2 := congrArg List.length h1
  rw [rd_tx_len, rd_tx_len] at h2
  exact hm h2
theorem rd_tl_29 {tkL : Nat → Nat} {tkB : Nat → Nat → Int32} (h : rd_hx tkL tkB) {j : Nat} (hj : j < 32) (hm : 1 ≤ tkL j) : j < 29 := by
  rcases Nat.lt_or_ge j 29 with hi | hi
  · exact hi
  · have h1 := congrArg List.length (h j hj).1
    have h5 : rd_tb.length = 29 := by decide
    rw [rd_tx_len, List.getD_eq_getElem?_getD, List.getElem?_eq_none (by omega)] at h1
    have h6 : tkL j = 0 := h1
    omega

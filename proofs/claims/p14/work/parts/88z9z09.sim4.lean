theorem mo_fo_xr {D S : Nat → Nat → Int32} {t : Nat} : ∀ n r i, mo_fo (mo_xr1 D t) S n r i = if r = 4 ∧ i < n ∧ (S 6 i).toInt = (D 11 t).toInt then S 4 i + 1 else S r i := by
  intro n
  induction n with
  | zero => intro r i; rw [if_neg (fun w => absurd w.2.1 (Nat.not_lt_zero i))]; rfl
  | succ n ih =>
    intro r i
    show mo_xr1 D t (mo_fo (mo_xr1 D t) S n) n r i = _
    generalize mo_fo (mo_xr1 D t) S n = F at ih ⊢
    unfold mo_xr1
    have e6 : F 6 n = S 6 n := by rw [ih, if_neg (fun w => absurd w.1 (by decide))]
    have e4 : F 4 n = S 4 n := by rw [ih, if_neg (fun w => absurd w.2.1 (Nat.lt_irrefl n))]
    rw [e6]
    by_cases c : (S 6 n).toInt = (D 11 t).toInt
    · rw [if_pos c, mo_se_at, e4]
      by_cases q : r = 4 ∧ i = n
      · rw [if_pos q, if_pos ⟨q.1, by omega, by rw [q.2]; exact c⟩, q.2]
      · rw [if_neg q, ih]
        by_cases z : r = 4 ∧ i < n ∧ (S 6 i).toInt = (D 11 t).toInt
        · rw [if_pos z, if_pos ⟨z.1, by omega, z.2.2⟩]
        · rw [if_neg z, if_neg (fun w => z ⟨w.1, by have := w.2.1; have h9 : i ≠ n := fun e => q ⟨w.1, e⟩; omega, w.2.2⟩)]
    · rw [if_neg c, ih]
      by_cases z : r = 4 ∧ i < n ∧ (S 6 i).toInt = (D 11 t).toInt
      · rw [if_pos z, if_pos ⟨z.1, by omega, z.2.2⟩]
      · rw [if_neg z, if_neg (fun w => z ⟨w.1, by have h8 := w.2.1; have h9 : i ≠ n := fun e => c (by rw [← e]; exact w.2.2); omega, w.2.2⟩)]
theorem mo_fo_mr {T : Nat → Nat → Int32} {t : Nat} : ∀ n r i, mo_fo (mo_mr1 t) T n r i = if r = 4 ∧ i < n ∧ ((T 6 i).toInt = 3 ∧ (T 5 i).toInt = (t : Int)) then T 4 i + 1 else T r i := by
  intro n
  induction n with
  | zero => intro r i; rw [if_neg (fun w => absurd w.2.1 (Nat.not_lt_zero i))]; rfl
  | succ n ih =>
    intro r i
    show mo_mr1 t (mo_fo (mo_mr1 t) T n) n r i = _
    generalize mo_fo (mo_mr1 t) T n = F at ih ⊢
    unfold mo_mr1
    have e6 : F 6 n = T 6 n := by rw [ih, if_neg (fun w => absurd w.1 (by decide))]
    have e5 : F 5 n = T 5 n := by rw [ih, if_neg (fun w => absurd w.1 (by decide))]
    have e4 : F 4 n = T 4 n := by rw [ih, if_neg (fun w => absurd w.2.1 (Nat.lt_irrefl n))]
    rw [e6, e5]
    by_cases c : (T 6 n).toInt = 3 ∧ (T 5 n).toInt = (t : Int)
    · rw [if_pos c, mo_se_at, e4]
      by_cases q : r = 4 ∧ i = n
      · rw [if_pos q, if_pos ⟨q.1, by omega, by rw [q.2]; exact c⟩, q.2]
      · rw [if_neg q, ih]
        by_cases z : r = 4 ∧ i < n ∧ ((T 6 i).toInt = 3 ∧ (T 5 i).toInt = (t : Int))
        · rw [if_pos z, if_pos ⟨z.1, by omega, z.2.2⟩]
        · rw [if_neg z, if_neg (fun w => z ⟨w.1, by have := w.2.1; have h9 : i ≠ n := fun e => q ⟨w.1, e⟩; omega, w.2.2⟩)]
    · rw [if_neg c, ih]
      by_cases z : r = 4 ∧ i < n ∧ ((T 6 i).toInt = 3 ∧ (T 5 i).toInt = (t : Int))
      · rw [if_pos z, if_pos ⟨z.1, by omega, z.2.2⟩]
      · rw [if_neg z, if_neg (fun w => z ⟨w.1, by have h8 := w.2.1; have h9 : i ≠ n := fun e => c (by rw [← e]; exact w.2.2); omega, w.2.2⟩)]
theorem mo_fo_xq {D S : Nat → Nat → Int32} {t : Nat} : ∀ n r i, mo_fo (mo_xq1 D t) S n r i = if i < n ∧ (S 6 i).toInt = (D 11 t).toInt then (if r = 5 then Int32.ofInt (t : Int) else if r = 6 then -1 else S r i) else S r i := by
  intro n
  induction n with
  | zero => intro r i; rw [if_neg (fun w => absurd w.1 (Nat.not_lt_zero i))]; rfl
  | succ n ih =>
    intro r i
    show mo_xq1 D t (mo_fo (mo_xq1 D t) S n) n r i = _
    generalize mo_fo (mo_xq1 D t) S n = F at ih ⊢
    unfold mo_xq1
    have e6 : ∀ r, F r n = S r n := by intro r; rw [ih, if_neg (fun w => absurd w.1 (Nat.lt_irrefl n))]
    rw [e6]
    by_cases c : (S 6 n).toInt = (D 11 t).toInt
    · rw [if_pos c, mo_se_at, mo_se_at]
      by_cases q : i = n
      · subst q
        rw [if_pos (show i < i + 1 ∧ (S 6 i).toInt = (D 11 t).toInt from ⟨Nat.lt_succ_self i, c⟩)]
        by_cases r5 : r = 5
        · rw [if_pos (show r = 5 ∧ i = i from ⟨r5, rfl⟩), if_pos r5]
        · rw [if_neg (show ¬ (r = 5 ∧ i = i) from fun w => r5 w.1), if_neg r5]
          by_cases r6 : r = 6
          · rw [if_pos (show r = 6 ∧ i = i from ⟨r6, rfl⟩), if_pos r6]
          · rw [if_neg (show ¬ (r = 6 ∧ i = i) from fun w => r6 w.1), if_neg r6, e6]
      · rw [if_neg (show ¬ (r = 5 ∧ i = n) from fun w => q w.2), if_neg (show ¬ (r = 6 ∧ i = n) from fun w => q w.2), ih]
        by_cases z : i < n ∧ (S 6 i).toInt = (D 11 t).toInt
        · rw [if_pos z, if_pos (show i < n + 1 ∧ (S 6 i).toInt = (D 11 t).toInt from ⟨by omega, z.2⟩)]
        · rw [if_neg z, if_neg (show ¬ (i < n + 1 ∧ (S 6 i).toInt = (D 11 t).toInt) from fun w => z ⟨by have := w.1; omega, w.2⟩)]
    · rw [if_neg c, ih]
      by_cases z : i < n ∧ (S 6 i).toInt = (D 11 t).toInt
      · rw [if_pos z, if_pos (show i < n + 1 ∧ (S 6 i).toInt = (D 11 t).toInt from ⟨by omega, z.2⟩)]
      · rw [if_neg z, if_neg (show ¬ (i < n + 1 ∧ (S 6 i).toInt = (D 11 t).toInt) from fun w => z ⟨by have h8 := w.1; have h9 : i ≠ n := fun e => c (by rw [← e]; exact w.2); omega, w.2⟩)]
theorem mo_fo_mq {T : Nat → Nat → Int32} {t : Nat} : ∀ n r i, mo_fo (mo_mq1 t) T n r i = if r = 6 ∧ i < n ∧ ((T 6 i).toInt = 3 ∧ (T 5 i).toInt = (t : Int)) then 2 else T r i := by
  intro n
  induction n with
  | zero => intro r i; rw [if_neg (fun w => absurd w.2.1 (Nat.not_lt_zero i))]; rfl
  | succ n ih =>
    intro r i
    show mo_mq1 t (mo_fo (mo_mq1 t) T n) n r i = _
    generalize mo_fo (mo_mq1 t) T n = F at ih ⊢
    unfold mo_mq1
    have e6 : ∀ r, F r n = T r n := by intro r; rw [ih, if_neg (fun w => absurd w.2.1 (Nat.lt_irrefl n))]
    rw [e6, e6]
    by_cases c : (T 6 n).toInt = 3 ∧ (T 5 n).toInt = (t : Int)
    · rw [if_pos c, mo_se_at]
      by_cases q : r = 6 ∧ i = n
      · rw [if_pos q, if_pos ⟨q.1, by omega, by rw [q.2]; exact c⟩]
      · rw [if_neg q, ih]
        by_cases z : r = 6 ∧ i < n ∧ ((T 6 i).toInt = 3 ∧ (T 5 i).toInt = (t : Int))
        · rw [if_pos z, if_pos ⟨z.1, by omega, z.2.2⟩]
        · rw [if_neg z, if_neg (fun w => z ⟨w.1, by have := w.2.1; have h9 : i ≠ n := fun e => q ⟨w.1, e⟩; omega, w.2.2⟩)]
    · rw [if_neg c, ih]
      by_cases z : r = 6 ∧ i < n ∧ ((T 6 i).toInt = 3 ∧ (T 5 i).toInt = (t : Int))
      · rw [if_pos z, if_pos ⟨z.1, by omega, z.2.2⟩]
      · rw [if_neg z, if_neg (fun w => z ⟨w.1, by have h8 := w.2.1; have h9 : i ≠ n := fun e => c (by rw [← e]; exact w.2.2); omega, w.2.2⟩)]
theorem mo_fo_xl {m : Int} {S : Nat → Nat → Int32} : ∀ n r i, mo_fo (mo_xl2 m) S n r i = if r = 11 ∧ i < n ∧ (S 11 i).toInt = m then -1 else S r i := by
  intro n
  induction n with
  | zero => intro r i; rw [if_neg (fun w => absurd w.2.1 (Nat.not_lt_zero i))]; rfl
  | succ n ih =>
    intro r i
    show mo_xl2 m (mo_fo (mo_xl2 m) S n) n r i = _
    generalize mo_fo (mo_xl2 m) S n = F at ih ⊢
    unfold mo_xl2
    have e6 : F 11 n = S 11 n := by rw [ih, if_neg (fun w => absurd w.2.1 (Nat.lt_irrefl n))]
    rw [e6]
    by_cases c : (S 11 n).toInt = m
    · rw [if_pos c, mo_se_at]
      by_cases q : r = 11 ∧ i = n
      · rw [if_pos q, if_pos ⟨q.1, by omega, by rw [q.2]; exact c⟩]
      · rw [if_neg q, ih]
        by_cases z : r = 11 ∧ i < n ∧ (S 11 i).toInt = m
        · rw [if_pos z, if_pos ⟨z.1, by omega, z.2.2⟩]
        · rw [if_neg z, if_neg (fun w => z ⟨w.1, by have := w.2.1; have h9 : i ≠ n := fun e => q ⟨w.1, e⟩; omega, w.2.2⟩)]
    · rw [if_neg c, ih]
      by_cases z : r = 11 ∧ i < n ∧ (S 11 i).toInt = m
      · rw [if_pos z, if_pos ⟨z.1, by omega, z.2.2⟩]
      · rw [if_neg z, if_neg (fun w => z ⟨w.1, by have h8 := w.2.1; have h9 : i ≠ n := fun e => c (by rw [← e]; exact w.2.2); omega, w.2.2⟩)]

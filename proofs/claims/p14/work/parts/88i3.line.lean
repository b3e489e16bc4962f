def cd_sx (a b c : Nat → Int32) (p : Nat) : Nat → List (Nat × Nat × Int)
  | 0 => []
  | n + 1 => cd_sx a b c p n ++ [cd_x (a (p + n)) (b (p + n)) (c (p + n))]
theorem cd_sx_len (a b c : Nat → Int32) (p : Nat) : ∀ n, (cd_sx a b c p n).length = n := by
  intro n
  induction n with
  | zero => rfl
  | succ n ih => show (cd_sx a b c p n ++ [cd_x (a (p + n)) (b (p + n)) (c (p + n))]).length = n + 1; rw [List.length_append, ih]; rfl
theorem cd_lx_sx (a b c : Nat → Int32) : ∀ n, cd_lx a b c n = cd_sx a b c 0 n := by
  intro n
  induction n with
  | zero => rfl
  | succ n ih =>
    show cd_lx a b c n ++ [cd_x (a n) (b n) (c n)] = cd_sx a b c 0 n ++ [cd_x (a (0 + n)) (b (0 + n)) (c (0 + n))]
    rw [ih, Nat.zero_add]
theorem cd_sx_app (a b c : Nat → Int32) (p n : Nat) : ∀ k, cd_sx a b c p (n + k) = cd_sx a b c p n ++ cd_sx a b c (p + n) k := by
  intro k
  induction k with
  | zero => exact (List.append_nil _).symm
  | succ k ih =>
    show cd_sx a b c p (n + k) ++ [cd_x (a (p + (n + k))) (b (p + (n + k))) (c (p + (n + k)))] = cd_sx a b c p n ++ (cd_sx a b c (p + n) k ++ [cd_x (a (p + n + k)) (b (p + n + k)) (c (p + n + k))])
    rw [ih, List.append_assoc, show p + (n + k) = p + n + k from by omega]
theorem cd_sx_at {a b c a1 b1 c1 : Nat → Int32} : ∀ n, cd_sx a1 b1 c1 0 n = cd_sx a b c 0 n → ∀ i, i < n → cd_x (a1 i) (b1 i) (c1 i) = cd_x (a i) (b i) (c i) := by
  intro n
  induction n with
  | zero => intro _ i hi; omega
  | succ n ih =>
    intro h i hi
    have h1 : cd_sx a1 b1 c1 0 n ++ [cd_x (a1 (0 + n)) (b1 (0 + n)) (c1 (0 + n))] = cd_sx a b c 0 n ++ [cd_x (a (0 + n)) (b (0 + n)) (c (0 + n))] := h
    have h2 := List.append_inj h1 (by rw [cd_sx_len, cd_sx_len])
    by_cases q : i = n
    · rw [q]
      have h3 := (List.cons.inj h2.2).1
      rw [Nat.zero_add] at h3; exact h3
    · exact ih h2.1 i (by omega)
theorem cd_sx_eq {a b c a1 b1 c1 : Nat → Int32} {p : Nat} : ∀ k, (∀ i, p ≤ i → i < p + k → cd_x (a1 i) (b1 i) (c1 i) = cd_x (a i) (b i) (c i)) → cd_sx a1 b1 c1 p k = cd_sx a b c p k := by
  intro k
  induction k with
  | zero => intro _; rfl
  | succ k ih =>
    intro h
    show cd_sx a1 b1 c1 p k ++ [cd_x (a1 (p + k)) (b1 (p + k)) (c1 (p + k))] = cd_sx a b c p k ++ [cd_x (a (p + k)) (b (p + k)) (c (p + k))]
    rw [ih (fun i h1 h2 => h i h1 (by omega)), h (p + k) (by omega) (by omega)]
def cd_bg (e : Nat → Int32) : Nat → Nat
  | 0 => 0
  | i + 1 => (e i).toInt.toNat
def cd_gX (r : Nat → Nat → Int32) (i : Nat) : Int × Int × List (Nat × Nat × Int) := ((r 1 i).toInt, (r 2 i).toInt, cd_sx (r 4) (r 5) (r 6) (cd_bg (r 3) i) ((r 3 i).toInt.toNat - cd_bg (r 3) i))
def cd_Wf (g : Nat → Int × Int × List (Nat × Nat × Int)) : Nat → Nat → List (Int × Int × List (Nat × Nat × Int))
  | 0, _ => []
  | k + 1, i => g i :: cd_Wf g k (i + 1)
theorem cd_Wf_snoc (g : Nat → Int × Int × List (Nat × Nat × Int)) : ∀ n i, cd_Wf g (n + 1) i = cd_Wf g n i ++ [g (i + n)] := by
  intro n
  induction n with
  | zero => intro i; rfl
  | succ n ih =>
    intro i
    have h1 : cd_Wf g (n + 1 + 1) i = g i :: cd_Wf g (n + 1) (i + 1) := rfl
    have h2 : cd_Wf g (n + 1) i = g i :: cd_Wf g n (i + 1) := rfl
    rw [h1, ih (i + 1), h2, List.cons_append, show i + 1 + n = i + (n + 1) from by omega]
theorem cd_Wf_eq {g h : Nat → Int × Int × List (Nat × Nat × Int)} : ∀ n i, (∀ j, i ≤ j → j < i + n → g j = h j) → cd_Wf g n i = cd_Wf h n i := by
  intro n
  induction n with
  | zero => intro i _; rfl
  | succ n ih =>
    intro i hh
    show g i :: cd_Wf g n (i + 1) = h i :: cd_Wf h n (i + 1)
    rw [hh i (by omega) (by omega), ih (i + 1) (fun j h1 h2 => hh j (by omega) (by omega))]
theorem cd_gX_eq {r s : Nat → Nat → Int32} {i n : Nat} (h1 : r 1 i = s 1 i) (h2 : r 2 i = s 2 i) (h3 : ∀ j, j ≤ i → r 3 j = s 3 j) (h0 : (s 3 i).toInt.toNat ≤ n) (h4 : ∀ j, j < n → cd_x (r 4 j) (r 5 j) (r 6 j) = cd_x (s 4 j) (s 5 j) (s 6 j)) : cd_gX r i = cd_gX s i := by
  have hb : cd_bg (r 3) i = cd_bg (s 3) i := by
    cases i with
    | zero => rfl
    | succ i => show (r 3 i).toInt.toNat = (s 3 i).toInt.toNat; rw [h3 i (by omega)]
  unfold cd_gX
  rw [h1, h2, h3 i (Nat.le_refl _), hb, cd_sx_eq (a := s 4) (b := s 5) (c := s 6) _ (fun j q1 q2 => h4 j (by omega))]
theorem cd_D_add {r s : Nat → Nat → Int32} {n c0 c1 : Nat} {ln : Int × Int × List (Nat × Nat × Int)} (hK : ∀ i, i < n → r 1 i = s 1 i) (hV : ∀ i, i < n → r 2 i = s 2 i) (hE : ∀ i, i < n → r 3 i = s 3 i) (hL : cd_lx (r 4) (r 5) (r 6) c1 = cd_lx (s 4) (s 5) (s 6) c0 ++ ln.2.2) (hb : cd_bg (s 3) n = c0) (hec : ∀ i, i < n → (s 3 i).toInt.toNat ≤ c0) (he : (r 3 n).toInt.toNat = c1) (hk : (r 1 n).toInt = ln.1) (hv : (r 2 n).toInt = ln.2.1) : cd_Wf (cd_gX r) (n + 1) 0 = cd_Wf (cd_gX s) n 0 ++ [ln] := by
  rw [cd_lx_sx, cd_lx_sx] at hL
  have hlen := congrArg List.length hL
  rw [List.length_append, cd_sx_len, cd_sx_len] at hlen
  have hs := cd_sx_app (r 4) (r 5) (r 6) 0 c0 ln.2.2.length
  rw [← hlen, hL] at hs
  have hi := List.append_inj hs (by rw [cd_sx_len, cd_sx_len])
  have hx := cd_sx_at c0 hi.1.symm
  have hbr : cd_bg (r 3) n = c0 := by
    rw [← hb]
    cases n with
    | zero => rfl
    | succ n => show (r 3 n).toInt.toNat = (s 3 n).toInt.toNat; rw [hE n (by omega)]
  rw [cd_Wf_snoc, Nat.zero_add, cd_Wf_eq (h := cd_gX s) n 0 (fun j _ h2 => cd_gX_eq (n := c0) (hK j (by omega)) (hV j (by omega)) (fun i q => hE i (by omega)) (hec j (by omega)) hx)]
  have h9 : cd_gX r n = ln := by
    unfold cd_gX
    rw [hbr, he, hk, hv, hlen, show c0 + ln.2.2.length - c0 = ln.2.2.length from by omega]
    have h8 := hi.2
    rw [Nat.zero_add] at h8
    rw [← h8]
  rw [h9]
def cd_q0 (T : Nat → Nat) (p : Nat) : Nat := if T p < 2 then (if T (p + 1) = 22 then p + 2 else p + 1) else p + 2
def cd_v0 (T : Nat → Nat) (N : Nat → Int) (p : Nat) : Int := if T p < 2 then (if T (p + 1) = 22 then 0 else 1) else N (p + 1)
def cd_c0 (T : Nat → Nat) (N : Nat → Int) (h q : Nat) : List (Nat × Nat × Int) := if ¬ h = 6 ∧ T q = 23 then cd_m T N 0 (q + 1) [] [] else []
def cd_line (T : Nat → Nat) (N : Nat → Int) (p : Nat) : Int × Int × List (Nat × Nat × Int) := ((T p : Int), cd_v0 T N p, cd_c0 T N (T p) (cd_q0 T p))
def cd_tt (T : Nat → Nat) (N : Nat → Int) : Nat → Nat → Nat → Nat → Bool → List (Int × Int × List (Nat × Nat × Int))
  | 0, _, _, _, _ => []
  | f + 1, p, o, ln, dk => if T p = 30 then [] else if (rd_ln T N p o ln dk).1 = 0 then cd_line T N p :: cd_tt T N f (rd_ln T N p o ln dk).2.1 (rd_ln T N p o ln dk).2.2 (ln + 1) (dk || decide (T p = 6)) else []
def cd_txt (T : Nat → Nat) (N : Nat → Int) : List (Int × Int × List (Nat × Nat × Int)) := cd_tt T N 400 0 0 0 false
theorem cd_tt_end {T : Nat → Nat} {N : Nat → Int} {f p o ln : Nat} {dk : Bool} (h : T p = 30) : cd_tt T N (f + 1) p o ln dk = [] := by
  show (if T p = 30 then _ else _) = _
  rw [if_pos h]
theorem cd_tt_go {T : Nat → Nat} {N : Nat → Int} {f p o ln : Nat} {dk : Bool} {p1 o1 : Nat} (h : ¬ T p = 30) (e : rd_ln T N p o ln dk = (0, p1, o1)) : cd_tt T N (f + 1) p o ln dk = cd_line T N p :: cd_tt T N f p1 o1 (ln + 1) (dk || decide (T p = 6)) := by
  show (if T p = 30 then _ else if (rd_ln T N p o ln dk).1 = 0 then _ else _) = _
  rw [if_neg h, e, if_pos rfl]
def cd_gd (l : Int × Int × List (Nat × Nat × Int)) : Prop := l.2.2 = [] ∨ cd_hd 0 l.2.2 = some 1
def cd_cX (T : Nat → Nat) (N : Nat → Int) (h q : Nat) (L0 L1 : List (Nat × Nat × Int)) : Prop := L1 = L0 ++ cd_c0 T N h q ∧ (cd_c0 T N h q = [] ∨ cd_hd 0 (cd_c0 T N h q) = some 1)
theorem cd_cX_no {T : Nat → Nat} {N : Nat → Int} {h q : Nat} {L : List (Nat × Nat × Int)} (h1 : h = 6 ∨ ¬ T q = 23) : cd_cX T N h q L L := by
  have e : cd_c0 T N h q = [] := if_neg (fun w => h1.elim w.1 (fun z => z w.2))
  exact ⟨by rw [e, List.append_nil], Or.inl e⟩
theorem cd_cX_if {T : Nat → Nat} {N : Nat → Int} {h q n p1 : Nat} {L L1 : List (Nat × Nat × Int)} (h1 : ¬ h = 6) (h2 : T q = 23) (hc : cd_q T N 14 n (q + 1) L p1 L1) (hp1 : p1 < 400) (ht : ¬ (T p1 = 24 ∨ T p1 = 25)) (hn : n ≤ 30) : cd_cX T N h q L L1 := by
  have e : cd_c0 T N h q = cd_m T N 0 (q + 1) [] [] := if_pos ⟨h1, h2⟩
  have h3 := cd_q_end hc hp1 ht
  rw [cd_m_pre] at h3
  obtain ⟨sg, h4, h5⟩ := hc.2
  have h6 : sg = cd_m T N 0 (q + 1) [] [] := List.append_cancel_left (h4.symm.trans h3.symm)
  rw [← h6] at e
  exact ⟨by rw [e]; exact h4, Or.inr (by rw [e]; exact h5 0 (by omega))⟩

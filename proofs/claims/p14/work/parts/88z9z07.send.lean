def mo_w (D : Nat → Nat → Int32) (t : Nat) : Nat := (D 11 t).toInt.toNat
def mo_cut (v : Int32) : Int32 := if 1000000 < v.toInt then 1000000 else v
def mo_ea (D : Nat → Nat → Int32) (S : Nat → Nat → Int32) (w : Nat) (fare : Int32) : Nat → Nat → Int32 := if (D 7 w).toInt = 2 then mo_se S 7 w (mo_cut (S 7 w + fare)) else mo_se S 13 0 (mo_cut (S 13 0 + fare))
def mo_xb1 (D : Nat → Nat → Int32) (t : Nat) (fare : Int32) (S : Nat → Nat → Int32) (p : Nat) : Nat → Nat → Int32 := mo_ea D (mo_se (mo_se (mo_se S 5 p (-1)) 6 p (D 11 t)) 0 p (S 0 p - fare)) (mo_w D t) fare
def mo_mb1 (D : Nat → Nat → Int32) (t : Nat) (fare : Int32) (T : Nat → Nat → Int32) (p : Nat) : Nat → Nat → Int32 := mo_se (mo_ea D (mo_se T 0 p (T 0 p - fare)) (mo_w D t) fare) 6 p 3
def mo_el (S : Nat → Nat → Int32) (t : Nat) (fare : Int32) (p : Nat) : Prop := (S 5 p).toInt = (t : Int) ∧ fare.toInt ≤ (S 0 p).toInt
def mo_fi (D S : Nat → Nat → Int32) (t : Nat) (fare : Int32) : Nat → Int
  | 0 => -1
  | n + 1 => if ((S 5 n).toInt = (t : Int) ∧ fare.toInt ≤ (S 0 n).toInt) ∧ (mo_fi D S t fare n = -1 ∨ (D 3 n).toInt < (D 3 (mo_fi D S t fare n).toNat).toInt) then (n : Int) else mo_fi D S t fare n
def mo_xs (D : Nat → Nat → Int32) (t : Nat) (fare : Int32) (np : Nat) (S : Nat → Nat → Int32) : Nat → (Nat → Nat → Int32)
  | 0 => S
  | j + 1 => if mo_fi D (mo_xs D t fare np S j) t fare np = -1 then mo_xs D t fare np S j else mo_xb1 D t fare (mo_xs D t fare np S j) (mo_fi D (mo_xs D t fare np S j) t fare np).toNat
def mo_xn (D : Nat → Nat → Int32) (t : Nat) (fare : Int32) (np : Nat) (S : Nat → Nat → Int32) : Nat → Int
  | 0 => 0
  | j + 1 => if mo_fi D (mo_xs D t fare np S j) t fare np = -1 then mo_xn D t fare np S j else mo_xn D t fare np S j + 1
def mo_mbp (D : Nat → Nat → Int32) (t : Nat) (fare : Int32) (seats : Int) (m9 : Nat) (x : (Nat → Nat → Int32) × Int) (p : Nat) : (Nat → Nat → Int32) × Int := if x.2 < seats ∧ (D 3 p).toInt = (m9 : Int) ∧ (x.1 6 p).toInt = 2 ∧ (x.1 5 p).toInt = (t : Int) ∧ fare.toInt ≤ (x.1 0 p).toInt then (mo_mb1 D t fare x.1 p, x.2 + 1) else x
def mo_mbi (D : Nat → Nat → Int32) (t : Nat) (fare : Int32) (seats : Int) (m9 : Nat) (x : (Nat → Nat → Int32) × Int) : Nat → (Nat → Nat → Int32) × Int
  | 0 => x
  | p + 1 => mo_mbp D t fare seats m9 (mo_mbi D t fare seats m9 x p) p
def mo_mbo (D : Nat → Nat → Int32) (t : Nat) (fare : Int32) (seats : Int) (np : Nat) (x : (Nat → Nat → Int32) × Int) : Nat → (Nat → Nat → Int32) × Int
  | 0 => x
  | m9 + 1 => mo_mbi D t fare seats m9 (mo_mbo D t fare seats np x m9) np
def mo_bd (D S T : Nat → Nat → Int32) (t p : Nat) (lv : Int) : Prop := (T 6 p).toInt = 3 ∧ (T 5 p).toInt = (t : Int) ∧ S 6 p = D 11 t ∧ (S 5 p).toInt = -1 ∧ (S 2 p).toInt = -1 ∧ (T 2 p).toInt = -1 ∧ T 14 p = D 18 (D 12 t).toInt.toNat ∧ (D 2 p).toInt < lv
def mo_K (D : Nat → Nat → Int32) (G : Nat → Int) (np nw t : Nat) (m bw : Int) (S0 T0 S T : Nat → Nat → Int32) : Prop := (∀ p, p < np → mo_ok D S T p bw ∧ (mo_rp D G S T p (m + 1) (m + 1) m (m + 1) ∨ mo_bd D S T t p (m + 1))) ∧ (∀ w, w < nw → S 7 w = T 7 w) ∧ S 13 0 = T 13 0 ∧ (∀ r, 8 ≤ r → r ≠ 13 → S r = S0 r) ∧ (∀ r, 8 ≤ r → r ≤ 12 → T r = T0 r)
theorem mo_ea_row {D S : Nat → Nat → Int32} {w : Nat} {fare : Int32} {r : Nat} (h7 : r ≠ 7) (h13 : r ≠ 13) : mo_ea D S w fare r = S r := by
  unfold mo_ea
  split
  · exact mo_se_rw h7
  · exact mo_se_rw h13
theorem mo_ea_7 {D S T : Nat → Nat → Int32} {w : Nat} {fare : Int32} {nw : Nat} (hw : w < nw) (h7 : ∀ w, w < nw → S 7 w = T 7 w) (h13 : S 13 0 = T 13 0) : (∀ w1, w1 < nw → mo_ea D S w fare 7 w1 = mo_ea D T w fare 7 w1) ∧ mo_ea D S w fare 13 0 = mo_ea D T w fare 13 0 := by
  unfold mo_ea
  by_cases c : (D 7 w).toInt = 2
  · rw [if_pos c, if_pos c]
    refine ⟨fun w1 h1 => ?_, ?_⟩
    · rw [mo_se_at, mo_se_at, h7 w hw, h7 w1 h1]
    · rw [mo_se_rw (by decide), mo_se_rw (by decide)]; exact h13
  · rw [if_neg c, if_neg c]
    refine ⟨fun w1 h1 => ?_, ?_⟩
    · rw [mo_se_rw (by decide), mo_se_rw (by decide)]; exact h7 w1 h1
    · rw [mo_se_pp, mo_se_pp, h13]
theorem mo_K_el {D S T S0 T0 : Nat → Nat → Int32} {G : Nat → Int} {np nw t p : Nat} {m bw : Int} {fare : Int32} (h14 : (D 14 t).toInt = m) (hK : mo_K D G np nw t m bw S0 T0 S T) (hp : p < np) : mo_el S t fare p ↔ ((T 6 p).toInt = 2 ∧ (T 5 p).toInt = (t : Int) ∧ fare.toInt ≤ (T 0 p).toInt) := by
  obtain ⟨hok, h⟩ := hK.1 p hp
  have e0 : S 0 p = T 0 p := hok.1
  unfold mo_el
  rw [e0]
  rcases h with (h | ⟨hl, h | h | h | h | h | h⟩) | h
  · have := h.2.1; have := h.1
    constructor
    · intro w; omega
    · intro w; omega
  · obtain ⟨s1, ⟨k, k1, k2, k3, k4, k5, k6⟩, s2, s3, s4⟩ := h
    have := k1.1
    rw [k2]
    constructor
    · intro w
      have e : k = t := by omega
      subst e; omega
    · intro w; omega
  · obtain ⟨s1, ⟨k, k1, k2, k3, k4⟩, s2, s3, s4⟩ := h
    rw [k2]
    constructor
    · intro w; exact ⟨s1, w.1, w.2⟩
    · intro w; exact ⟨w.2.1, w.2.2⟩
  · have := h.2.2.1; have := h.1
    constructor
    · intro w; omega
    · intro w; omega
  · have := h.2.1; have := h.1
    constructor
    · intro w; omega
    · intro w; omega
  · have := h.2.1; have := h.1
    constructor
    · intro w; omega
    · intro w; omega
  · have := h.2.1; have := h.1
    constructor
    · intro w; omega
    · intro w; omega
  · have := h.2.2.2.1; have := h.1
    constructor
    · intro w; omega
    · intro w; omega
theorem mo_bd_cg {D S T S1 T1 : Nat → Nat → Int32} {t p : Nat} {lv : Int} (h : mo_bd D S T t p lv) (hS : ∀ r, r < 7 → S1 r p = S r p) (hT : ∀ r, r ≠ 7 → r ≠ 13 → T1 r p = T r p) : mo_bd D S1 T1 t p lv := by
  unfold mo_bd at h ⊢
  rw [hS 2 (by omega), hS 5 (by omega), hS 6 (by omega), hT 2 (by omega) (by omega), hT 5 (by omega) (by omega), hT 6 (by omega) (by omega), hT 14 (by omega) (by omega)]
  exact h
theorem mo_K_st {D S T S0 T0 : Nat → Nat → Int32} {G : Nat → Int} {np nw t p : Nat} {m bw : Int} {fare : Int32} (hw : mo_w D t < nw) (h14 : (D 14 t).toInt = m) (hK : mo_K D G np nw t m bw S0 T0 S T) (hp : p < np) (he : mo_el S t fare p) : mo_K D G np nw t m bw S0 T0 (mo_xb1 D t fare S p) (mo_mb1 D t fare T p) := by
  have heT := (mo_K_el h14 hK hp).mp he
  have z3 : (3 : Int32).toInt = 3 := by decide
  have n1 : ((-1) : Int32).toInt = -1 := by decide
  have xr : ∀ r, r ≠ 5 → r ≠ 6 → r ≠ 0 → r ≠ 7 → r ≠ 13 → mo_xb1 D t fare S p r = S r := by
    intro r a b c d e
    unfold mo_xb1
    rw [mo_ea_row d e, mo_se_rw c, mo_se_rw b, mo_se_rw a]
  have mr : ∀ r, r ≠ 6 → r ≠ 0 → r ≠ 7 → r ≠ 13 → mo_mb1 D t fare T p r = T r := by
    intro r b c d e
    unfold mo_mb1
    rw [mo_se_rw b, mo_ea_row d e, mo_se_rw c]
  have x6 : mo_xb1 D t fare S p 6 p = D 11 t := by
    unfold mo_xb1
    rw [mo_ea_row (by decide) (by decide), mo_se_rw (by decide), mo_se_pp]
  have x5 : mo_xb1 D t fare S p 5 p = -1 := by
    unfold mo_xb1
    rw [mo_ea_row (by decide) (by decide), mo_se_rw (by decide), mo_se_rw (by decide), mo_se_pp]
  have x0 : mo_xb1 D t fare S p 0 p = S 0 p - fare := by
    unfold mo_xb1
    rw [mo_ea_row (by decide) (by decide), mo_se_pp]
  have m6 : mo_mb1 D t fare T p 6 p = 3 := by
    unfold mo_mb1
    rw [mo_se_pp]
  have m0 : mo_mb1 D t fare T p 0 p = T 0 p - fare := by
    unfold mo_mb1
    rw [mo_se_rw (by decide), mo_ea_row (by decide) (by decide), mo_se_pp]
  have xn : ∀ q, q ≠ p → ∀ r, r < 7 → mo_xb1 D t fare S p r q = S r q := by
    intro q hq r hr
    unfold mo_xb1
    rw [mo_ea_row (by omega) (by omega), mo_se_ne hq, mo_se_ne hq, mo_se_ne hq]
  have mn : ∀ q, q ≠ p → ∀ r, r ≠ 7 → r ≠ 13 → mo_mb1 D t fare T p r q = T r q := by
    intro q hq r a b
    unfold mo_mb1
    rw [mo_se_ne hq, mo_ea_row a b, mo_se_ne hq]
  obtain ⟨k1, k2, k3, k4, k5⟩ := hK
  have hea := mo_ea_7 (D := D) (S := mo_se (mo_se (mo_se S 5 p (-1)) 6 p (D 11 t)) 0 p (S 0 p - fare)) (T := mo_se T 0 p (T 0 p - fare)) (fare := fare) hw (fun w h => by rw [mo_se_rw (by decide), mo_se_rw (by decide), mo_se_rw (by decide), mo_se_rw (by decide)]; exact k2 w h) (by rw [mo_se_rw (by decide), mo_se_rw (by decide), mo_se_rw (by decide), mo_se_rw (by decide)]; exact k3)
  refine ⟨fun q hq => ?_, fun w h => ?_, ?_, fun r a b => (xr r (by omega) (by omega) (by omega) (by omega) b).trans (k4 r a b), fun r a b => (mr r (by omega) (by omega) (by omega) (by omega)).trans (k5 r a b)⟩
  · by_cases e : q = p
    · subst e
      have hst : (S 2 q).toInt = -1 ∧ (T 2 q).toInt = -1 ∧ (D 2 q).toInt < m + 1 ∧ T 14 q = D 18 (D 12 t).toInt.toNat := by
        rcases (k1 q hq).2 with (h | ⟨hl, h | h | h | h | h | h⟩) | h
        · exfalso; have := h.1; omega
        · exfalso; have := h.1; omega
        · obtain ⟨s1, ⟨k, a1, a2, a3, a4⟩, s2, s3, s4⟩ := h
          have ek : k = t := by have := a1.1; omega
          rw [ek] at a3
          exact ⟨s3, s4, hl, a3⟩
        · exfalso; have := h.1; omega
        · exfalso; have := h.1; omega
        · exfalso; have := h.1; omega
        · exfalso; have := h.1; omega
        · exfalso; have := h.1; omega
      obtain ⟨o0, o1, o3, o4, o16, b1, b3, b6⟩ := (k1 q hq).1
      refine ⟨⟨by rw [x0, m0, o0], ?_, ?_, ?_, ?_, ?_, ?_, b6⟩, Or.inr ⟨by rw [m6]; exact z3, ?_, x6, by rw [x5]; exact n1, ?_, ?_, ?_, hst.2.2.1⟩⟩
      · rw [xr 1 (by decide) (by decide) (by decide) (by decide) (by decide), mr 1 (by decide) (by decide) (by decide) (by decide)]; exact o1
      · rw [xr 3 (by decide) (by decide) (by decide) (by decide) (by decide), mr 3 (by decide) (by decide) (by decide) (by decide)]; exact o3
      · rw [xr 4 (by decide) (by decide) (by decide) (by decide) (by decide), mr 4 (by decide) (by decide) (by decide) (by decide)]; exact o4
      · rw [xr 3 (by decide) (by decide) (by decide) (by decide) (by decide), mr 16 (by decide) (by decide) (by decide) (by decide)]; exact o16
      · rw [xr 1 (by decide) (by decide) (by decide) (by decide) (by decide)]; exact b1
      · rw [xr 3 (by decide) (by decide) (by decide) (by decide) (by decide)]; exact b3
      · rw [mr 5 (by decide) (by decide) (by decide) (by decide)]; exact heT.2.1
      · rw [xr 2 (by decide) (by decide) (by decide) (by decide) (by decide)]; exact hst.1
      · rw [mr 2 (by decide) (by decide) (by decide) (by decide)]; exact hst.2.1
      · rw [mr 14 (by decide) (by decide) (by decide) (by decide)]; exact hst.2.2.2
    · refine ⟨mo_ok_cg (k1 q hq).1 (fun r hr => xn q e r (by omega)) (fun r hr => mn q e r (by omega) (by omega)) (mn q e 16 (by decide) (by decide)), (k1 q hq).2.elim (fun h => Or.inl ?_) (fun h => Or.inr (mo_bd_cg h (fun r hr => xn q e r hr) (fun r a b => mn q e r a b)))⟩
      have h9 := mo_rp_cg (S1 := mo_xb1 D t fare S p) (T1 := fun r i => if r = 7 ∨ r = 13 then T r i else mo_mb1 D t fare T p r i) h (fun r hr => xn q e r hr) (xr 10 (by decide) (by decide) (by decide) (by decide) (by decide)) (xr 11 (by decide) (by decide) (by decide) (by decide) (by decide)) (fun r => by
        show (if r = 7 ∨ r = 13 then T r q else mo_mb1 D t fare T p r q) = T r q
        by_cases c : r = 7 ∨ r = 13
        · rw [if_pos c]
        · rw [if_neg c]; exact mn q e r (by omega) (by omega))
      exact h9
  · unfold mo_xb1 mo_mb1
    rw [mo_se_rw (by decide)]
    exact hea.1 w h
  · unfold mo_xb1 mo_mb1
    rw [mo_se_rw (by decide)]
    exact hea.2
theorem mo_fi_c (D S : Nat → Nat → Int32) (t : Nat) (fare : Int32) : ∀ n, (mo_fi D S t fare n = -1 ∧ ∀ p, p < n → ¬ mo_el S t fare p) ∨ (∃ p, p < n ∧ mo_fi D S t fare n = (p : Int) ∧ mo_el S t fare p ∧ ∀ q, q < n → mo_el S t fare q → (D 3 p).toInt < (D 3 q).toInt ∨ ((D 3 p).toInt = (D 3 q).toInt ∧ p ≤ q)) := by
  intro n
  induction n with
  | zero => exact Or.inl ⟨rfl, fun p hp => absurd hp (Nat.not_lt_zero p)⟩
  | succ n ih =>
    by_cases c : ((S 5 n).toInt = (t : Int) ∧ fare.toInt ≤ (S 0 n).toInt) ∧ (mo_fi D S t fare n = -1 ∨ (D 3 n).toInt < (D 3 (mo_fi D S t fare n).toNat).toInt)
    · have e : mo_fi D S t fare (n + 1) = (n : Int) := if_pos c
      rw [e]
      refine Or.inr ⟨n, Nat.lt_succ_self n, rfl, c.1, fun q hq eq => ?_⟩
      rcases Nat.lt_or_ge q n with w | w
      · rcases ih with ⟨i1, i2⟩ | ⟨p, i1, i2, i3, i4⟩
        · exact absurd eq (i2 q w)
        · have h9 := i4 q w eq
          have h8 := c.2
          rw [i2, Int.toNat_natCast] at h8
          omega
      · have e9 : q = n := by omega
        rw [e9]; exact Or.inr ⟨rfl, Nat.le_refl _⟩
    · have e : mo_fi D S t fare (n + 1) = mo_fi D S t fare n := if_neg c
      rw [e]
      rcases ih with ⟨i1, i2⟩ | ⟨p, i1, i2, i3, i4⟩
      · refine Or.inl ⟨i1, fun q hq eq => ?_⟩
        rcases Nat.lt_or_ge q n with w | w
        · exact i2 q w eq
        · have e9 : q = n := by omega
          rw [e9] at eq
          exact c ⟨eq, Or.inl i1⟩
      · refine Or.inr ⟨p, by omega, i2, i3, fun q hq eq => ?_⟩
        rcases Nat.lt_or_ge q n with w | w
        · exact i4 q w eq
        · have e9 : q = n := by omega
          rw [e9] at eq ⊢
          have h8 : ¬ (D 3 n).toInt < (D 3 p).toInt := fun w => c ⟨eq, Or.inr (by rw [i2, Int.toNat_natCast]; exact w)⟩
          omega
theorem mo_fi_is {D S : Nat → Nat → Int32} {t : Nat} {fare : Int32} {n p : Nat} (hp : p < n) (he : mo_el S t fare p) (hl : ∀ q, q < n → mo_el S t fare q → (D 3 p).toInt < (D 3 q).toInt ∨ ((D 3 p).toInt = (D 3 q).toInt ∧ p ≤ q)) : mo_fi D S t fare n = (p : Int) := by
  rcases mo_fi_c D S t fare n with ⟨i1, i2⟩ | ⟨q, i1, i2, i3, i4⟩
  · exact absurd he (i2 p hp)
  · have a := hl q i1 i3
    have b := i4 p hp he
    rw [i2]; omega
def mo_J (D : Nat → Nat → Int32) (G : Nat → Int) (np nw t : Nat) (m bw : Int) (S0 T0 : Nat → Nat → Int32) (fare : Int32) (seats : Nat) (Sb : Nat → Nat → Int32) (m9 p : Nat) (x : (Nat → Nat → Int32) × Int) : Prop := ∃ j : Nat, x.2 = (j : Int) ∧ j ≤ seats ∧ mo_K D G np nw t m bw S0 T0 (mo_xs D t fare np Sb j) x.1 ∧ mo_xn D t fare np Sb j = (j : Int) ∧ (j < seats → ∀ q, q < np → mo_el (mo_xs D t fare np Sb j) t fare q → (m9 : Int) < (D 3 q).toInt ∨ ((D 3 q).toInt = (m9 : Int) ∧ p ≤ q))
theorem mo_J_st {D : Nat → Nat → Int32} {G : Nat → Int} {np nw t : Nat} {m bw : Int} {S0 T0 : Nat → Nat → Int32} {fare : Int32} {seats : Nat} {Sb : Nat → Nat → Int32} {m9 p : Nat} {x : (Nat → Nat → Int32) × Int} (hw : mo_w D t < nw) (h14 : (D 14 t).toInt = m) (hp : p < np) (h : mo_J D G np nw t m bw S0 T0 fare seats Sb m9 p x) : mo_J D G np nw t m bw S0 T0 fare seats Sb m9 (p + 1) (mo_mbp D t fare (seats : Int) m9 x p) := by
  obtain ⟨j, h1, h2, h3, h4, h5⟩ := h
  unfold mo_mbp
  by_cases c : x.2 < (seats : Int) ∧ (D 3 p).toInt = (m9 : Int) ∧ (x.1 6 p).toInt = 2 ∧ (x.1 5 p).toInt = (t : Int) ∧ fare.toInt ≤ (x.1 0 p).toInt
  · rw [if_pos c]
    have hj : j < seats := by omega
    have hel := (mo_K_el (fare := fare) h14 h3 hp).mpr c.2.2
    have hfi := mo_fi_is (D := D) hp hel (fun q hq eq => by have := h5 hj q hq eq; have := c.2.1; omega)
    have hne : ¬ mo_fi D (mo_xs D t fare np Sb j) t fare np = -1 := by rw [hfi]; omega
    have es : mo_xs D t fare np Sb (j + 1) = mo_xb1 D t fare (mo_xs D t fare np Sb j) p := by
      show (if mo_fi D (mo_xs D t fare np Sb j) t fare np = -1 then mo_xs D t fare np Sb j else mo_xb1 D t fare (mo_xs D t fare np Sb j) (mo_fi D (mo_xs D t fare np Sb j) t fare np).toNat) = _
      rw [if_neg hne, hfi, Int.toNat_natCast]
    have en : mo_xn D t fare np Sb (j + 1) = ((j + 1 : Nat) : Int) := by
      show (if mo_fi D (mo_xs D t fare np Sb j) t fare np = -1 then mo_xn D t fare np Sb j else mo_xn D t fare np Sb j + 1) = _
      rw [if_neg hne, h4]; omega
    have hK := mo_K_st (fare := fare) hw h14 h3 hp hel
    refine ⟨j + 1, by show x.2 + 1 = _; omega, hj, by rw [es]; exact hK, en, fun hj2 q hq eq => ?_⟩
    rw [es] at eq
    have n1 : ((-1) : Int32).toInt = -1 := by decide
    by_cases e : q = p
    · exfalso
      rw [e] at eq
      have h9 := (mo_K_el (fare := fare) h14 hK hp).mp eq
      have h8 : mo_mb1 D t fare x.1 p 6 p = 3 := by unfold mo_mb1; rw [mo_se_pp]
      rw [h8] at h9
      exact absurd h9.1 (by decide)
    · have eq2 : mo_el (mo_xs D t fare np Sb j) t fare q := by
        unfold mo_el mo_xb1 at eq
        rw [mo_ea_row (by decide) (by decide), mo_ea_row (by decide) (by decide), mo_se_ne e, mo_se_ne e, mo_se_ne e, mo_se_ne e, mo_se_ne e, mo_se_ne e] at eq
        exact eq
      have := h5 hj q hq eq2
      omega
  · rw [if_neg c]
    refine ⟨j, h1, h2, h3, h4, fun hj q hq eq => ?_⟩
    have h9 := h5 hj q hq eq
    by_cases e : q = p
    · rcases h9 with w | w
      · exact Or.inl w
      · exfalso
        rw [e] at eq w
        have h8 := (mo_K_el (fare := fare) h14 h3 hp).mp eq
        exact c ⟨by omega, w.1, h8⟩
    · omega
theorem mo_J_in {D : Nat → Nat → Int32} {G : Nat → Int} {np nw t : Nat} {m bw : Int} {S0 T0 : Nat → Nat → Int32} {fare : Int32} {seats : Nat} {Sb : Nat → Nat → Int32} {m9 : Nat} {x : (Nat → Nat → Int32) × Int} (hw : mo_w D t < nw) (h14 : (D 14 t).toInt = m) (h : mo_J D G np nw t m bw S0 T0 fare seats Sb m9 0 x) : ∀ n, n ≤ np → mo_J D G np nw t m bw S0 T0 fare seats Sb m9 n (mo_mbi D t fare (seats : Int) m9 x n) := by
  intro n
  induction n with
  | zero => exact fun _ => h
  | succ n ih => exact fun hn => mo_J_st hw h14 (by omega) (ih (by omega))
theorem mo_J_out {D : Nat → Nat → Int32} {G : Nat → Int} {np nw t : Nat} {m bw : Int} {S0 T0 : Nat → Nat → Int32} {fare : Int32} {seats : Nat} {Sb : Nat → Nat → Int32} {x : (Nat → Nat → Int32) × Int} (hw : mo_w D t < nw) (h14 : (D 14 t).toInt = m) (h : mo_J D G np nw t m bw S0 T0 fare seats Sb 0 0 x) : ∀ n, mo_J D G np nw t m bw S0 T0 fare seats Sb n 0 (mo_mbo D t fare (seats : Int) np x n) := by
  intro n
  induction n with
  | zero => exact h
  | succ n ih =>
    obtain ⟨j, h1, h2, h3, h4, h5⟩ := mo_J_in hw h14 ih np (Nat.le_refl _)
    exact ⟨j, h1, h2, h3, h4, fun hj q hq eq => by have := h5 hj q hq eq; omega⟩
theorem mo_xs_stay {D : Nat → Nat → Int32} {t : Nat} {fare : Int32} {np : Nat} {Sb : Nat → Nat → Int32} {j : Nat} (h : mo_fi D (mo_xs D t fare np Sb j) t fare np = -1) : ∀ i, mo_xs D t fare np Sb (j + i) = mo_xs D t fare np Sb j ∧ mo_xn D t fare np Sb (j + i) = mo_xn D t fare np Sb j := by
  intro i
  induction i with
  | zero => exact ⟨rfl, rfl⟩
  | succ i ih =>
    have e : mo_fi D (mo_xs D t fare np Sb (j + i)) t fare np = -1 := by rw [ih.1]; exact h
    have e1 : mo_xs D t fare np Sb (j + i + 1) = mo_xs D t fare np Sb (j + i) := if_pos e
    have e2 : mo_xn D t fare np Sb (j + i + 1) = mo_xn D t fare np Sb (j + i) := if_pos e
    exact ⟨e1.trans ih.1, e2.trans ih.2⟩
theorem mo_board {D : Nat → Nat → Int32} {G : Nat → Int} {np nw t : Nat} {m bw : Int} {S0 T0 : Nat → Nat → Int32} {fare : Int32} {seats : Nat} {Sb Tb : Nat → Nat → Int32} (hb : ∀ q, (D 3 q).toInt ≤ 719 ∧ 0 ≤ (D 3 q).toInt) (hw : mo_w D t < nw) (h14 : (D 14 t).toInt = m) (h : mo_K D G np nw t m bw S0 T0 Sb Tb) : mo_K D G np nw t m bw S0 T0 (mo_xs D t fare np Sb seats) (mo_mbo D t fare (seats : Int) np (Tb, 0) 720).1 ∧ (mo_mbo D t fare (seats : Int) np (Tb, 0) 720).2 = mo_xn D t fare np Sb seats := by
  have h0 : mo_J D G np nw t m bw S0 T0 fare seats Sb 0 0 (Tb, 0) := ⟨0, rfl, Nat.zero_le _, h, rfl, fun _ q _ _ => by have := hb q; omega⟩
  obtain ⟨j, h1, h2, h3, h4, h5⟩ := mo_J_out hw h14 h0 720
  rcases Nat.lt_or_ge j seats with q | q
  · have hf : mo_fi D (mo_xs D t fare np Sb j) t fare np = -1 := by
      rcases mo_fi_c D (mo_xs D t fare np Sb j) t fare np with w | ⟨p, p1, _, p3, _⟩
      · exact w.1
      · have := h5 q p p1 p3
        have := hb p
        omega
    have hs := mo_xs_stay hf (seats - j)
    rw [show j + (seats - j) = seats from by omega] at hs
    rw [hs.1, hs.2]
    exact ⟨h3, h1.trans h4.symm⟩
  · have e : j = seats := by omega
    subst e
    exact ⟨h3, h1.trans h4.symm⟩

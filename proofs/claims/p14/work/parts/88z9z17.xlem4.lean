def mo_rp0 (D : Nat → Nat → Int32) (pu sh : Nat → Int32) (S : Nat → Nat → Int32) (p : Nat) : Nat → Nat → Int32 := mo_mk (mo_se (mo_se (mo_se (mo_se (mo_se (mo_se (mo_se S 0 p (pu p)) 1 p (sh p)) 2 p (-1)) 3 p 0) 4 p 0) 5 p (-1)) 6 p (-1)) (D 2 p)
def mo_rw0 (D : Nat → Nat → Int32) (co : Nat → Int32) (S : Nat → Nat → Int32) (w : Nat) : Nat → Nat → Int32 := mo_se (mo_se (mo_se (mo_se (mo_se S 7 w (co w)) 8 w 0) 9 w 0) 10 w (D 8 w)) 11 w (-1)
noncomputable def mo_rt0 (D : Nat → Nat → Int32) (S : Nat → Nat → Int32) (t : Nat) : Nat → Nat → Int32 := mo_ii (mo_gt D t) (mo_mk (mo_se S 12 t (-1)) (D 14 t)) (mo_se S 12 t (-1))
theorem mo_or_no {D : Nat → Nat → Int32} {g : Nat → Prop} {n sz : Nat} {tr : Nat → Int32} (h : mo_or D g n sz tr) (hg : ¬ g n) : mo_or D g (n + 1) sz tr := by
  refine ⟨fun i hi => ?_, fun k hk gk => ?_, h.2.2.1, h.2.2.2⟩
  · obtain ⟨a, b, c⟩ := h.1 i hi
    exact ⟨a, by omega, c⟩
  · by_cases e : k = n
    · rw [e] at gk; exact absurd gk hg
    · exact h.2.1 k (by omega) gk
theorem mo_or_in {D : Nat → Nat → Int32} {g : Nat → Prop} {n sz k : Nat} {tr tr1 : Nat → Int32} (h : mo_or D g n sz tr) (hk : k ≤ sz) (hg : g n) (h1 : ∀ i, i < k → tr1 i = tr i) (h2 : (tr1 k).toInt = (n : Int)) (h3 : ∀ i, k < i → i ≤ sz → tr1 i = tr (i - 1)) (hlo : ∀ i, k ≤ i → i < sz → (D 14 (tr i).toInt.toNat).toInt < (D 14 n).toInt) (hhi : k = 0 ∨ (D 14 n).toInt ≤ (D 14 (tr (k - 1)).toInt.toNat).toInt) : mo_or D g (n + 1) (sz + 1) tr1 := by
  have e2 : (tr1 k).toInt.toNat = n := by omega
  have up : ∀ i, i < k → (D 14 n).toInt ≤ (D 14 (tr i).toInt.toNat).toInt := by
    intro i hi
    rcases hhi with w | w
    · omega
    · by_cases e : i = k - 1
      · rw [e]; exact w
      · have := h.2.2.1 i (k - 1) (by omega) (by omega)
        omega
  refine ⟨fun i hi => ?_, fun q hq gq => ?_, fun i j hij hj => ?_, fun i j hij hj => ?_⟩
  · rcases Nat.lt_trichotomy i k with w | w | w
    · rw [h1 i w]
      obtain ⟨a, b, c⟩ := h.1 i (by omega)
      exact ⟨a, by omega, c⟩
    · subst w
      exact ⟨by omega, by omega, by rw [e2]; exact hg⟩
    · rw [h3 i w (by omega)]
      obtain ⟨a, b, c⟩ := h.1 (i - 1) (by omega)
      exact ⟨a, by omega, c⟩
  · by_cases e : q = n
    · exact ⟨k, by omega, by rw [e2, e]⟩
    · obtain ⟨i, hi, ei⟩ := h.2.1 q (by omega) gq
      rcases Nat.lt_or_ge i k with w | w
      · exact ⟨i, by omega, by rw [h1 i w]; exact ei⟩
      · refine ⟨i + 1, by omega, ?_⟩
        rw [h3 (i + 1) (by omega) (by omega), Nat.add_sub_cancel]
        exact ei
  · rcases Nat.lt_trichotomy j k with w | w | w
    · rw [h1 i (by omega), h1 j w]
      exact h.2.2.1 i j hij (by omega)
    · subst w
      rw [h1 i hij, e2]
      exact up i hij
    · rw [h3 j w (by omega)]
      rcases Nat.lt_trichotomy i k with v | v | v
      · rw [h1 i v]
        exact h.2.2.1 i (j - 1) (by omega) (by omega)
      · subst v
        rw [e2]
        have := hlo (j - 1) (by omega) (by omega)
        omega
      · rw [h3 i v (by omega)]
        exact h.2.2.1 (i - 1) (j - 1) (by omega) (by omega)
  · rcases Nat.lt_trichotomy j k with w | w | w
    · rw [h1 i (by omega), h1 j w]
      exact h.2.2.2 i j hij (by omega)
    · subst w
      rw [h1 i hij, e2]
      have := h.1 i (by omega)
      omega
    · rw [h3 j w (by omega)]
      rcases Nat.lt_trichotomy i k with v | v | v
      · rw [h1 i v]
        exact h.2.2.2 i (j - 1) (by omega) (by omega)
      · subst v
        rw [e2]
        have := h.1 (j - 1) (by omega)
        omega
      · rw [h3 i v (by omega)]
        exact h.2.2.2 (i - 1) (j - 1) (by omega) (by omega)
def mo_gap (D : Nat → Nat → Int32) (tr tr1 : Nat → Int32) (n sz k : Nat) : Prop := k ≤ sz ∧ (∀ i, i < k → tr1 i = tr i) ∧ (∀ i, k < i → i ≤ sz → tr1 i = tr (i - 1)) ∧ (∀ i, k ≤ i → i < sz → (D 14 (tr i).toInt.toNat).toInt < (D 14 n).toInt)
theorem mo_gap0 (D : Nat → Nat → Int32) (tr : Nat → Int32) (n sz : Nat) : mo_gap D tr tr n sz sz := ⟨Nat.le_refl _, fun _ _ => rfl, fun i h1 h2 => by omega, fun i h1 h2 => by omega⟩
theorem mo_gap_s {D : Nat → Nat → Int32} {tr tr1 tr2 : Nat → Int32} {n sz k : Nat} {x : Int32} (h : mo_gap D tr tr1 n sz (k + 1)) (hx : x = tr1 k) (e : ∀ i, tr2 i = if i = k + 1 then x else tr1 i) (hm : (D 14 x.toInt.toNat).toInt < (D 14 n).toInt) : mo_gap D tr tr2 n sz k := by
  obtain ⟨a, b, c, d⟩ := h
  have ex : x = tr k := by rw [hx]; exact b k (by omega)
  refine ⟨by omega, fun i hi => ?_, fun i h1 h2 => ?_, fun i h1 h2 => ?_⟩
  · rw [e i, if_neg (by omega)]; exact b i (by omega)
  · rw [e i]
    by_cases q : i = k + 1
    · rw [if_pos q, q, Nat.add_sub_cancel]; exact ex
    · rw [if_neg q]; exact c i (by omega) h2
  · by_cases q : i = k
    · rw [q, ← ex]; exact hm
    · exact d i (by omega) h2
theorem mo_gap_e {D : Nat → Nat → Int32} {g : Nat → Prop} {tr tr1 tr2 : Nat → Int32} {n sz k : Nat} {x : Int32} (ho : mo_or D g n sz tr) (hg : g n) (h : mo_gap D tr tr1 n sz k) (hx : x.toInt = (n : Int)) (e : ∀ i, tr2 i = if i = k then x else tr1 i) (hhi : k = 0 ∨ (D 14 n).toInt ≤ (D 14 (tr1 (k - 1)).toInt.toNat).toInt) : mo_or D g (n + 1) (sz + 1) tr2 := by
  obtain ⟨a, b, c, d⟩ := h
  refine mo_or_in ho a hg (fun i hi => ?_) (by rw [e k, if_pos rfl]; exact hx) (fun i h1 h2 => ?_) d ?_
  · rw [e i, if_neg (by omega)]; exact b i hi
  · rw [e i, if_neg (by omega)]; exact c i h1 h2
  · rcases hhi with w | w
    · exact Or.inl w
    · by_cases q : k = 0
      · exact Or.inl q
      · rw [b (k - 1) (by omega)] at w
        exact Or.inr w
def mo_ot (D S : Nat → Nat → Int32) : Nat → Int
  | 0 => 0
  | n + 1 => if (S 2 n).toInt ≠ -1 ∧ (S 2 n).toInt ≤ (D 3 n).toInt then mo_ot D S n + 1 else mo_ot D S n
theorem mo_ot_b (D S : Nat → Nat → Int32) : ∀ n, 0 ≤ mo_ot D S n ∧ mo_ot D S n ≤ (n : Int) := by
  intro n
  induction n with
  | zero => exact ⟨Int.le_refl _, Int.le_refl _⟩
  | succ n ih =>
    show 0 ≤ (if (S 2 n).toInt ≠ -1 ∧ (S 2 n).toInt ≤ (D 3 n).toInt then mo_ot D S n + 1 else mo_ot D S n) ∧ (if (S 2 n).toInt ≠ -1 ∧ (S 2 n).toInt ≤ (D 3 n).toInt then mo_ot D S n + 1 else mo_ot D S n) ≤ ((n + 1 : Nat) : Int)
    split <;> omega
def mo_wn (D : Nat → Nat → Int32) (G : Nat → Int) (n : Nat) (tr cm lh ow : Nat → Int32) : Prop := ∀ i, i < n → (cm i).toInt = mo_cm D G (tr i).toInt.toNat ∧ mo_la D tr i (D 12 (tr i).toInt.toNat).toInt 0 (lh i).toInt ∧ mo_la D tr i (D 13 (tr i).toInt.toNat).toInt (cm i).toInt (ow i).toInt
theorem mo_wn_s {D : Nat → Nat → Int32} {G : Nat → Int} {n : Nat} {tr cm lh ow cm1 lh1 ow1 : Nat → Int32} {x y z : Int32} (h : mo_wn D G n tr cm lh ow) (hc : ∀ i, cm1 i = if i = n then x else cm i) (hl : ∀ i, lh1 i = if i = n then y else lh i) (ho : ∀ i, ow1 i = if i = n then z else ow i) (hx : x.toInt = mo_cm D G (tr n).toInt.toNat) (hy : mo_la D tr n (D 12 (tr n).toInt.toNat).toInt 0 y.toInt) (hz : mo_la D tr n (D 13 (tr n).toInt.toNat).toInt x.toInt z.toInt) : mo_wn D G (n + 1) tr cm1 lh1 ow1 := by
  intro i hi
  rw [hc i, hl i, ho i]
  by_cases q : i = n
  · rw [if_pos q, if_pos q, if_pos q, q]
    exact ⟨hx, hy, hz⟩
  · rw [if_neg q, if_neg q, if_neg q]
    exact h i (by omega)

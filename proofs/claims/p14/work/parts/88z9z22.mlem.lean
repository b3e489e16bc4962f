theorem mo_or_ext {D : Nat → Nat → Int32} {g g1 : Nat → Prop} {n sz : Nat} {tr : Nat → Int32} (h : ∀ k, k < n → (g k ↔ g1 k)) (ho : mo_or D g n sz tr) : mo_or D g1 n sz tr := by
  obtain ⟨h1, h2, h3, h4⟩ := ho
  exact ⟨fun i hi => ⟨(h1 i hi).1, (h1 i hi).2.1, (h _ (h1 i hi).2.1).mp (h1 i hi).2.2⟩, fun k hk hg => h2 k hk ((h k hk).mpr hg), h3, h4⟩
theorem mo_or_0 {D : Nat → Nat → Int32} {g : Nat → Prop} {n : Nat} {tr : Nat → Int32} (h : ∀ k, k < n → ¬ g k) : mo_or D g n 0 tr :=
  ⟨fun i hi => absurd hi (Nat.not_lt_zero i), fun k hk hg => absurd hg (h k hk), fun i j _ hj => absurd hj (Nat.not_lt_zero j), fun i j _ hj => absurd hj (Nat.not_lt_zero j)⟩
theorem mo_or_app {D : Nat → Nat → Int32} {g g1 : Nat → Prop} {n sz k : Nat} {tr tr1 : Nat → Int32} {v : Int32} (ho : mo_or D g n sz tr) (hk : k < n) (hg : ¬ g k) (hg1 : ∀ t, t < n → (g1 t ↔ (g t ∨ t = k))) (hm : ∀ t, t < n → g t → (D 14 k).toInt ≤ (D 14 t).toInt) (ht : ∀ i, tr1 i = if i = sz then v else tr i) (hv : v.toInt = (k : Int)) : mo_or D g1 n (sz + 1) tr1 := by
  obtain ⟨h1, h2, h3, h4⟩ := ho
  have ee : ∀ i, i < sz → tr1 i = tr i := fun i hi => by rw [ht i, if_neg (by omega)]
  have es : tr1 sz = v := by rw [ht sz, if_pos rfl]
  have hvk : v.toInt.toNat = k := by omega
  refine ⟨?_, ?_, ?_, ?_⟩
  · intro i hi
    by_cases q : i = sz
    · rw [q, es]; exact ⟨by omega, by omega, by rw [hvk]; exact (hg1 k hk).mpr (Or.inr rfl)⟩
    · have hi2 : i < sz := by omega
      rw [ee i hi2]; exact ⟨(h1 i hi2).1, (h1 i hi2).2.1, (hg1 _ (h1 i hi2).2.1).mpr (Or.inl (h1 i hi2).2.2)⟩
  · intro t htn hgt
    rcases (hg1 t htn).mp hgt with w | w
    · obtain ⟨i, hi, e⟩ := h2 t htn w
      exact ⟨i, by omega, by rw [ee i hi]; exact e⟩
    · exact ⟨sz, by omega, by rw [es, hvk, w]⟩
  · intro i j hij hj
    have hi2 : i < sz := by omega
    rw [ee i hi2]
    by_cases q : j = sz
    · rw [q, es, hvk]; exact hm _ (h1 i hi2).2.1 (h1 i hi2).2.2
    · rw [ee j (by omega)]; exact h3 i j hij (by omega)
  · intro i j hij hj
    have hi2 : i < sz := by omega
    rw [ee i hi2]
    by_cases q : j = sz
    · rw [q, es, hvk]; intro w; exact hg (by rw [← w]; exact (h1 i hi2).2.2)
    · rw [ee j (by omega)]; exact h4 i j hij (by omega)
def mm_og (D : Nat → Nat → Int32) (m : Int) (k : Nat) (t : Nat) : Prop := mo_gt D t ∧ (m < (D 14 t).toInt ∨ ((D 14 t).toInt = m ∧ t < k))
theorem mm_or_n {D : Nat → Nat → Int32} {m : Int} {k n sz : Nat} {tr : Nat → Int32} (ho : mo_or D (mm_og D m k) n sz tr) (h : ¬ ((D 14 k).toInt = m ∧ mo_gt D k)) : mo_or D (mm_og D m (k + 1)) n sz tr := by
  refine mo_or_ext (fun t ht => ⟨fun w => ⟨w.1, ?_⟩, fun w => ⟨w.1, ?_⟩⟩) ho
  · rcases w.2 with w2 | w2
    · exact Or.inl w2
    · exact Or.inr ⟨w2.1, by omega⟩
  · rcases w.2 with w2 | w2
    · exact Or.inl w2
    · by_cases q : t = k
      · exact absurd ⟨by rw [← q]; exact w2.1, by rw [← q]; exact w.1⟩ h
      · exact Or.inr ⟨w2.1, by omega⟩
theorem mm_or_y {D : Nat → Nat → Int32} {m : Int} {k n sz : Nat} {tr tr1 : Nat → Int32} {v : Int32} (ho : mo_or D (mm_og D m k) n sz tr) (hk : k < n) (hm : (D 14 k).toInt = m) (hg : mo_gt D k) (ht : ∀ i, tr1 i = if i = sz then v else tr i) (hv : v.toInt = (k : Int)) : mo_or D (mm_og D m (k + 1)) n (sz + 1) tr1 := by
  refine mo_or_app (k := k) ho hk (fun w => ?_) (fun t htn => ⟨fun w => ?_, fun w => ?_⟩) (fun t htn w => ?_) ht hv
  · rcases w.2 with w2 | w2 <;> omega
  · by_cases q : t = k
    · exact Or.inr q
    · refine Or.inl ⟨w.1, ?_⟩
      rcases w.2 with w2 | w2
      · exact Or.inl w2
      · exact Or.inr ⟨w2.1, by omega⟩
  · rcases w with w | w
    · refine ⟨w.1, ?_⟩
      rcases w.2 with w2 | w2
      · exact Or.inl w2
      · exact Or.inr ⟨w2.1, by omega⟩
    · rw [w]; exact ⟨hg, Or.inr ⟨hm, by omega⟩⟩
  · rcases w.2 with w2 | w2 <;> omega
theorem mm_or_d {D : Nat → Nat → Int32} {m m1 : Int} {k n sz : Nat} {tr : Nat → Int32} (ho : mo_or D (mm_og D m k) n sz tr) (hk : n ≤ k) (h1 : m1 = m - 1) : mo_or D (mm_og D m1 0) n sz tr := by
  refine mo_or_ext (fun t ht => ⟨fun w => ⟨w.1, Or.inl ?_⟩, fun w => ⟨w.1, ?_⟩⟩) ho
  · rcases w.2 with w2 | w2 <;> omega
  · rcases w.2 with w2 | w2
    · by_cases q : (D 14 t).toInt = m
      · exact Or.inr ⟨q, by omega⟩
      · exact Or.inl (by omega)
    · omega
theorem mm_or_e {D : Nat → Nat → Int32} {m : Int} {n sz : Nat} {tr : Nat → Int32} (hR : ∀ i, 0 ≤ (D 14 i).toInt) (ho : mo_or D (mm_og D m 0) n sz tr) (hm : m < 0) : mo_or D (mo_gt D) n sz tr :=
  mo_or_ext (fun t ht => ⟨fun w => w.1, fun w => ⟨w, Or.inl (by have := hR t; omega)⟩⟩) ho
theorem mm_or_i {D : Nat → Nat → Int32} {n : Nat} {tr : Nat → Int32} (hR : ∀ i, (D 14 i).toInt ≤ 719) : mo_or D (mm_og D 719 0) n 0 tr :=
  mo_or_0 (fun k hk w => by have := hR k; rcases w.2 with w2 | w2 <;> omega)
def mm_ra (n : Nat) (bm aw : Nat → Int32) : Prop := ∀ j, j < n → (aw (bm j).toInt.toNat).toInt < 50000 ∨ (aw (bm j).toInt.toNat).toInt = 100000
def mm_it (D : Nat → Nat → Int32) (G : Nat → Int) (p : Nat) (pc : Int) (i q : Nat) (bm aw : Nat → Int32) : Prop := mo_mr D G p pc i bm aw ∧ mm_ra i bm aw ∧ mo_g D G p (bm i).toInt.toNat ∧ ((aw (bm i).toInt.toNat).toInt < 50000 ∨ (aw (bm i).toInt.toNat).toInt = 100000) ∧ ∀ x : Int, x < 50000 → ((aw (bm i).toInt.toNat).toInt ≤ x ↔ (mo_ft D G p pc (bm i).toInt.toNat ≤ x ∨ ∃ j, j < q ∧ (D 12 (bm j).toInt.toNat).toInt = (D 13 (bm i).toInt.toNat).toInt ∧ mo_cm D G (bm i).toInt.toNat ≤ (D 14 (bm j).toInt.toNat).toInt ∧ (aw (bm j).toInt.toNat).toInt ≤ x))
theorem mm_mr_0 (D : Nat → Nat → Int32) (G : Nat → Int) (p : Nat) (pc : Int) (bm aw : Nat → Int32) : mo_mr D G p pc 0 bm aw ∧ mm_ra 0 bm aw := ⟨fun i hi => absurd hi (Nat.not_lt_zero i), fun i hi => absurd hi (Nat.not_lt_zero i)⟩
theorem mm_mr_k {D : Nat → Nat → Int32} {G : Nat → Int} {p : Nat} {pc : Int} {i : Nat} {bm aw aw1 : Nat → Int32} (h : mo_mr D G p pc i bm aw ∧ mm_ra i bm aw) (e : ∀ j, j < i → aw1 (bm j).toInt.toNat = aw (bm j).toInt.toNat) : mo_mr D G p pc i bm aw1 ∧ mm_ra i bm aw1 := by
  refine ⟨fun j hj => ⟨fun w => ?_, fun w x hx => ?_⟩, fun j hj => ?_⟩
  · rw [e j hj]; exact (h.1 j hj).1 w
  · rw [e j hj, (h.1 j hj).2 w x hx]
    refine ⟨fun w2 => w2.elim Or.inl (fun ⟨a, b, c, d, f⟩ => Or.inr ⟨a, b, c, d, by rw [e a (by omega)]; exact f⟩), fun w2 => w2.elim Or.inl (fun ⟨a, b, c, d, f⟩ => Or.inr ⟨a, b, c, d, by rw [e a (by omega)] at f; exact f⟩)⟩
  · rw [e j hj]; exact h.2 j hj
theorem mm_ne {D : Nat → Nat → Int32} {g : Nat → Prop} {n sz i : Nat} {bm : Nat → Int32} (ho : mo_or D g n sz bm) (hi : i < sz) : ∀ j, j < i → (bm j).toInt.toNat ≠ (bm i).toInt.toNat := fun j hj => ho.2.2.2 j i hj hi
theorem mm_it_n {D : Nat → Nat → Int32} {G : Nat → Int} {p : Nat} {pc : Int} {i n sz : Nat} {g : Nat → Prop} {bm aw aw1 : Nat → Int32} {v : Int32} (ho : mo_or D g n sz bm) (hi : i < sz) (h : mo_mr D G p pc i bm aw ∧ mm_ra i bm aw) (hg : ¬ mo_g D G p (bm i).toInt.toNat) (e : ∀ k, aw1 k = if k = (bm i).toInt.toNat then v else aw k) (hv : v.toInt = 100000) : mo_mr D G p pc (i + 1) bm aw1 ∧ mm_ra (i + 1) bm aw1 := by
  have h9 := mm_mr_k (aw1 := aw1) h (fun j hj => by rw [e, if_neg (mm_ne ho hi j hj)])
  have ei : aw1 (bm i).toInt.toNat = v := by rw [e, if_pos rfl]
  refine ⟨fun j hj => ?_, fun j hj => ?_⟩
  · by_cases q : j = i
    · subst q; exact ⟨fun _ => by rw [ei]; exact hv, fun w => absurd w hg⟩
    · exact h9.1 j (by omega)
  · by_cases q : j = i
    · subst q; exact Or.inr (by rw [ei]; exact hv)
    · exact h9.2 j (by omega)
theorem mm_it_0 {D : Nat → Nat → Int32} {G : Nat → Int} {p : Nat} {pc : Int} {i n sz : Nat} {g : Nat → Prop} {bm aw aw1 : Nat → Int32} {v : Int32} (ho : mo_or D g n sz bm) (hi : i < sz) (h : mo_mr D G p pc i bm aw ∧ mm_ra i bm aw) (hg : mo_g D G p (bm i).toInt.toNat) (e : ∀ k, k ≠ (bm i).toInt.toNat → aw1 k = aw k) (ei : aw1 (bm i).toInt.toNat = v) (hv : v.toInt < 50000 ∨ v.toInt = 100000) (hx : ∀ x : Int, x < 50000 → (v.toInt ≤ x ↔ mo_ft D G p pc (bm i).toInt.toNat ≤ x)) : mm_it D G p pc i 0 bm aw1 := by
  have h9 := mm_mr_k (aw1 := aw1) h (fun j hj => e _ (mm_ne ho hi j hj))
  refine ⟨h9.1, h9.2, hg, by rw [ei]; exact hv, fun x hx9 => ?_⟩
  rw [ei, hx x hx9]
  exact ⟨Or.inl, fun w => w.elim id (fun ⟨a, b, _⟩ => absurd b (Nat.not_lt_zero a))⟩
theorem mm_it_y {D : Nat → Nat → Int32} {G : Nat → Int} {p : Nat} {pc : Int} {i q n sz : Nat} {g : Nat → Prop} {bm aw aw1 : Nat → Int32} (ho : mo_or D g n sz bm) (hi : i < sz) (hq : q < i) (h : mm_it D G p pc i q bm aw) (hf : (D 12 (bm q).toInt.toNat).toInt = (D 13 (bm i).toInt.toNat).toInt) (hm : mo_cm D G (bm i).toInt.toNat ≤ (D 14 (bm q).toInt.toNat).toInt) (hl : (aw (bm q).toInt.toNat).toInt < (aw (bm i).toInt.toNat).toInt) (e : ∀ k, aw1 k = if k = (bm i).toInt.toNat then aw (bm q).toInt.toNat else aw k) : mm_it D G p pc i (q + 1) bm aw1 := by
  obtain ⟨h1, h2, h3, h4, h5⟩ := h
  have h9 := mm_mr_k (aw1 := aw1) ⟨h1, h2⟩ (fun j hj => by rw [e, if_neg (mm_ne ho hi j hj)])
  have ei : aw1 (bm i).toInt.toNat = aw (bm q).toInt.toNat := by rw [e, if_pos rfl]
  have ej : ∀ j, j < i → aw1 (bm j).toInt.toNat = aw (bm j).toInt.toNat := fun j hj => by rw [e, if_neg (mm_ne ho hi j hj)]
  refine ⟨h9.1, h9.2, h3, by rw [ei]; exact h2 q hq, fun x hx => ?_⟩
  rw [ei]
  constructor
  · intro w; exact Or.inr ⟨q, by omega, hf, hm, by rw [ej q hq]; exact w⟩
  · rintro (w | ⟨j, j1, j2, j3, j4⟩)
    · have := (h5 x hx).mpr (Or.inl w); omega
    · rw [ej j (by omega)] at j4
      by_cases z : j = q
      · rw [z] at j4; exact j4
      · have := (h5 x hx).mpr (Or.inr ⟨j, by omega, j2, j3, j4⟩); omega
theorem mm_it_s {D : Nat → Nat → Int32} {G : Nat → Int} {p : Nat} {pc : Int} {i q : Nat} {bm aw : Nat → Int32} (h : mm_it D G p pc i q bm aw) (hn : ¬ ((D 12 (bm q).toInt.toNat).toInt = (D 13 (bm i).toInt.toNat).toInt ∧ mo_cm D G (bm i).toInt.toNat ≤ (D 14 (bm q).toInt.toNat).toInt ∧ (aw (bm q).toInt.toNat).toInt < (aw (bm i).toInt.toNat).toInt)) : mm_it D G p pc i (q + 1) bm aw := by
  obtain ⟨h1, h2, h3, h4, h5⟩ := h
  refine ⟨h1, h2, h3, h4, fun x hx => ⟨fun w => ?_, fun w => ?_⟩⟩
  · rcases (h5 x hx).mp w with w | ⟨j, j1, j2⟩
    · exact Or.inl w
    · exact Or.inr ⟨j, by omega, j2⟩
  · rcases w with w | ⟨j, j1, j2, j3, j4⟩
    · exact (h5 x hx).mpr (Or.inl w)
    · by_cases z : j = q
      · subst z
        by_cases y : (aw (bm j).toInt.toNat).toInt < (aw (bm i).toInt.toNat).toInt
        · exact absurd ⟨j2, j3, y⟩ hn
        · omega
      · exact (h5 x hx).mpr (Or.inr ⟨j, by omega, j2, j3, j4⟩)
theorem mm_it_e {D : Nat → Nat → Int32} {G : Nat → Int} {p : Nat} {pc : Int} {i q : Nat} {bm aw : Nat → Int32} (h : mm_it D G p pc i q bm aw) (hq : q = i) : mo_mr D G p pc (i + 1) bm aw ∧ mm_ra (i + 1) bm aw := by
  subst hq
  obtain ⟨h1, h2, h3, h4, h5⟩ := h
  refine ⟨fun j hj => ?_, fun j hj => ?_⟩
  · by_cases z : j = q
    · subst z; exact ⟨fun w => absurd h3 w, fun _ => h5⟩
    · exact h1 j (by omega)
  · by_cases z : j = q
    · subst z; exact h4
    · exact h2 j (by omega)
theorem mm_pc_b {D : Nat → Nat → Int32} (hR : mo_R D) (sh : Int32) (p : Nat) : 18 ≤ mo_pc D sh p ∧ mo_pc D sh p ≤ 50 := by
  have h1 := hR.2.2.2.2.1 p
  have h2 := hR.2.2.2.2.2.2
  unfold mo_pc mo_pace
  (repeat' split) <;> omega

theorem mo_mk_row {S : Nat → Nat → Int32} {v : Int32} {r : Nat} (h : r ≠ 14) : mo_mk S v r = S r := by
  unfold mo_mk
  split
  · exact mo_se_rw h
  · rfl
theorem mo_mk_on {S : Nat → Nat → Int32} {v : Int32} (h0 : 0 ≤ v.toInt) (h1 : v.toInt < 840) : (mo_mk S v 14 v.toInt.toNat).toInt ≠ 0 := by
  unfold mo_mk
  rw [if_pos ⟨h0, h1⟩, mo_se_pp]
  decide
theorem mo_mk_up {S : Nat → Nat → Int32} {v : Int32} {i : Nat} (h : (S 14 i).toInt ≠ 0) : (mo_mk S v 14 i).toInt ≠ 0 := by
  unfold mo_mk
  by_cases c : 0 ≤ v.toInt ∧ v.toInt < 840
  · rw [if_pos c, mo_se_at]
    by_cases q : i = v.toInt.toNat
    · rw [if_pos ⟨rfl, q⟩]; decide
    · rw [if_neg (fun w => q w.2)]; exact h
  · rw [if_neg c]; exact h
theorem mo_cv_b {D : Nat → Nat → Int32} {G : Nat → Int} {t : Nat} {m : Int} {held : Int32} (hR : mo_R D) (hG : mo_GR G) (hl : mo_ln D G t < 10000000) (hm : 0 ≤ m ∧ m ≤ 839) (hh : 0 ≤ held.toInt ∧ held.toInt ≤ 2000) : m + 1 ≤ (mo_cv D G t m held).toInt ∧ (mo_cv D G t m held).toInt ≤ 5000 := by
  have hd := mo_dr_b hR hG hl
  have e1 := mo_i32 (v := m) (by omega) (by omega)
  have e2 := mo_i32 (v := mo_dr D G t) (by omega) (by omega)
  have s1 := iv_add (v := Int32.ofInt m + held) rfl (a := 0) (b := 839) (c := 0) (d := 2000) ⟨by omega, by omega⟩ hh (by decide) (by decide)
  have s2 := iv_add (v := Int32.ofInt m + held + Int32.ofInt (mo_dr D G t)) rfl (a := 0) (b := 2839) (c := 1) (d := 546) ⟨by omega, by omega⟩ ⟨by omega, by omega⟩ (by decide) (by decide)
  unfold mo_cv
  omega
def mo_Wr (S T : Nat → Nat → Int32) (nw : Nat) (m : Int) : Prop := ∀ w, w < nw → (∀ r, 7 ≤ r → r ≤ 11 → S r w = T r w) ∧ ((S 9 w).toInt = 0 ∨ (S 9 w).toInt = 1) ∧ ((S 11 w).toInt = -1 ∨ (m + 1 ≤ (S 11 w).toInt ∧ (S 11 w).toInt ≤ 5000 ∧ ((S 11 w).toInt < 840 → (S 14 (S 11 w).toInt.toNat).toInt ≠ 0)))
theorem mo_nbd {D : Nat → Nat → Int32} {G : Nat → Int} {S T : Nat → Nat → Int32} {t p : Nat} {lv ar tr m : Int} (hm : 0 ≤ m) (hwt : 0 ≤ (D 11 t).toInt) (h11 : (S 11 (mo_w D t)).toInt = -1) (h : mo_rp D G S T p lv ar tr (m + 1)) : ¬ (S 6 p).toInt = (D 11 t).toInt ∧ ¬ ((T 6 p).toInt = 3 ∧ (T 5 p).toInt = (t : Int)) := by
  have st : ∀ k, S 6 p = D 11 k → m + 1 ≤ (S 11 (D 11 k).toInt.toNat).toInt → ¬ (D 11 k).toInt = (D 11 t).toInt := by
    intro k a b e
    rw [e] at b
    have h9 : (S 11 (D 11 t).toInt.toNat).toInt = -1 := h11
    omega
  rcases h with h | ⟨hl, h | h | h | h | h | h⟩
  · have := h.1; have := h.2.2.1; exact ⟨by omega, by omega⟩
  · have := h.1; have := h.2.2.1; exact ⟨by omega, by omega⟩
  · have := h.1; have := h.2.2.1; exact ⟨by omega, by omega⟩
  · obtain ⟨s1, ⟨k, a1, a2, a3, a4⟩, _⟩ := h
    have h9 := st k a2 a4
    refine ⟨by rw [a2]; exact h9, fun w => h9 ?_⟩
    have e : k = t := by have := a1.1; omega
    rw [e]
  · have := h.1; have := h.2.2.1; exact ⟨by omega, by omega⟩
  · have := h.1; have := h.2.2.1; exact ⟨by omega, by omega⟩
  · have := h.1; have := h.2.2.1; exact ⟨by omega, by omega⟩
theorem mo_rp_w {D : Nat → Nat → Int32} {G : Nat → Int} {S T S1 T1 : Nat → Nat → Int32} {p w : Nat} {lv ar tr cm m : Int} (hm : 0 ≤ m) (hcm : cm = m + 1) (h11 : (S 11 w).toInt = -1) (h : mo_rp D G S T p lv ar tr cm) (hS : ∀ r, r < 7 → r ≠ 4 → S1 r p = S r p) (h10 : ∀ v, v ≠ w → S1 10 v = S 10 v) (h11b : ∀ v, v ≠ w → S1 11 v = S 11 v) (hT : ∀ r, r ≠ 4 → (r < 7 ∨ 14 ≤ r) → T1 r p = T r p) : mo_rp D G S1 T1 p lv ar tr cm := by
  unfold mo_rp mo_tk at h ⊢
  rw [hS 2 (by omega) (by omega), hS 5 (by omega) (by omega), hS 6 (by omega) (by omega), hT 2 (by omega) (by omega), hT 5 (by omega) (by omega), hT 6 (by omega) (by omega), hT 14 (by omega) (by omega), hT 15 (by omega) (by omega)]
  rcases h with h | ⟨hl, h | h | h | h | h | h⟩
  · exact Or.inl h
  · exact Or.inr ⟨hl, Or.inl h⟩
  · exact Or.inr ⟨hl, Or.inr (Or.inl h)⟩
  · obtain ⟨s1, ⟨k, a1, a2, a3, a4⟩, s2⟩ := h
    have hne : (D 11 k).toInt.toNat ≠ w := fun e => by rw [e] at a4; omega
    exact Or.inr ⟨hl, Or.inr (Or.inr (Or.inl ⟨s1, ⟨k, a1, a2, by rw [h10 _ hne]; exact a3, by rw [h11b _ hne]; exact a4⟩, s2⟩))⟩
  · exact Or.inr ⟨hl, Or.inr (Or.inr (Or.inr (Or.inl h)))⟩
  · exact Or.inr ⟨hl, Or.inr (Or.inr (Or.inr (Or.inr (Or.inl h))))⟩
  · exact Or.inr ⟨hl, Or.inr (Or.inr (Or.inr (Or.inr (Or.inr h))))⟩
theorem mo_ok_4 {D S T S1 T1 : Nat → Nat → Int32} {p : Nat} {bw : Int} (h : mo_ok D S T p bw) (hS : ∀ r, r < 4 → S1 r p = S r p) (h4 : S1 4 p = T1 4 p) (hT : ∀ r, r < 4 → T1 r p = T r p) (h16 : T1 16 p = T 16 p) : mo_ok D S1 T1 p bw := by
  obtain ⟨o0, o1, o3, o4, o16, b1, b3, b6⟩ := h
  refine ⟨by rw [hS 0 (by omega), hT 0 (by omega)]; exact o0, by rw [hS 1 (by omega), hT 1 (by omega)]; exact o1, by rw [hS 3 (by omega), hT 3 (by omega)]; exact o3, h4, by rw [h16, hS 3 (by omega)]; exact o16, by rw [hS 1 (by omega)]; exact b1, by rw [hS 3 (by omega)]; exact b3, b6⟩
theorem mo_set {D : Nat → Nat → Int32} {G : Nat → Int} {S T : Nat → Nat → Int32} {np nw t : Nat} {m bw n : Int} {held : Int32} (hR : mo_R D) (hG : mo_GR G) (hm : 0 ≤ m ∧ m ≤ 839) (ht : t < mo_nt D) (hrn : mo_rn D G t) (hwt : 0 ≤ (D 11 t).toInt) (hw : mo_w D t < nw) (hh : 0 ≤ held.toInt ∧ held.toInt ≤ 2000) (hK : ∀ p, p < np → mo_ok D S T p bw ∧ (mo_rp D G S T p (m + 1) (m + 1) m (m + 1) ∨ mo_bd D S T t p (m + 1))) (hW : mo_Wr S T nw m) (hL : ∀ k, k < mo_nt D → S 12 k = T 12 k) (h13 : S 13 0 = T 13 0) (h11 : (S 11 (mo_w D t)).toInt = -1) : mo_P D G np nw (mo_nt D) m bw (mo_xo D G np t m n held S) (mo_mo D G np t m n held T) := by
  have hcv := mo_cv_b hR hG hrn.2 hm hh
  have xr : ∀ r, r ≠ 4 → r ≠ 10 → r ≠ 11 → r ≠ 12 → r ≠ 14 → ∀ i, mo_xo D G np t m n held S r i = S r i := by
    intro r a b c d e i
    unfold mo_xo
    rw [mo_fo_xr, if_neg (fun w => a w.1), mo_mk_row e, mo_se_rw c, mo_se_rw b, mo_se_rw d]
  have mr : ∀ r, r ≠ 4 → r ≠ 10 → r ≠ 11 → r ≠ 12 → ∀ i, mo_mo D G np t m n held T r i = T r i := by
    intro r a b c d i
    unfold mo_mo
    rw [mo_fo_mr, if_neg (fun w => a w.1), mo_se_rw c, mo_se_rw b, mo_se_rw d]
  have x10 : ∀ v, mo_xo D G np t m n held S 10 v = if v = mo_w D t then D 13 t else S 10 v := by
    intro v
    unfold mo_xo
    rw [mo_fo_xr, if_neg (fun w => absurd w.1 (by decide)), mo_mk_row (by decide), mo_se_rw (by decide), mo_se_at, mo_se_rw (by decide)]
    by_cases q : v = mo_w D t
    · rw [if_pos ⟨rfl, q⟩, if_pos q]
    · rw [if_neg (fun w => q w.2), if_neg q]
  have x11 : ∀ v, mo_xo D G np t m n held S 11 v = if v = mo_w D t then mo_cv D G t m held else S 11 v := by
    intro v
    unfold mo_xo
    rw [mo_fo_xr, if_neg (fun w => absurd w.1 (by decide)), mo_mk_row (by decide), mo_se_at, mo_se_rw (by decide), mo_se_rw (by decide)]
    by_cases q : v = mo_w D t
    · rw [if_pos ⟨rfl, q⟩, if_pos q]
    · rw [if_neg (fun w => q w.2), if_neg q]
  have m10 : ∀ v, mo_mo D G np t m n held T 10 v = if v = mo_w D t then D 13 t else T 10 v := by
    intro v
    unfold mo_mo
    rw [mo_fo_mr, if_neg (fun w => absurd w.1 (by decide)), mo_se_rw (by decide), mo_se_at, mo_se_rw (by decide)]
    by_cases q : v = mo_w D t
    · rw [if_pos ⟨rfl, q⟩, if_pos q]
    · rw [if_neg (fun w => q w.2), if_neg q]
  have m11 : ∀ v, mo_mo D G np t m n held T 11 v = if v = mo_w D t then mo_cv D G t m held else T 11 v := by
    intro v
    unfold mo_mo
    rw [mo_fo_mr, if_neg (fun w => absurd w.1 (by decide)), mo_se_at, mo_se_rw (by decide), mo_se_rw (by decide)]
    by_cases q : v = mo_w D t
    · rw [if_pos ⟨rfl, q⟩, if_pos q]
    · rw [if_neg (fun w => q w.2), if_neg q]
  have x4 : ∀ i, mo_xo D G np t m n held S 4 i = if i < np ∧ (S 6 i).toInt = (D 11 t).toInt then S 4 i + 1 else S 4 i := by
    intro i
    unfold mo_xo
    rw [mo_fo_xr]
    have e : ∀ r, r < 7 → mo_mk (mo_se (mo_se (mo_se S 12 t (Int32.ofInt n)) 10 (mo_w D t) (D 13 t)) 11 (mo_w D t) (mo_cv D G t m held)) (mo_cv D G t m held) r = S r := by
      intro r hr
      rw [mo_mk_row (by omega), mo_se_rw (by omega), mo_se_rw (by omega), mo_se_rw (by omega)]
    rw [e 6 (by decide), e 4 (by decide)]
    by_cases q : i < np ∧ (S 6 i).toInt = (D 11 t).toInt
    · rw [if_pos ⟨rfl, q⟩, if_pos q]
    · rw [if_neg (fun w => q w.2), if_neg q]
  have m4 : ∀ i, mo_mo D G np t m n held T 4 i = if i < np ∧ ((T 6 i).toInt = 3 ∧ (T 5 i).toInt = (t : Int)) then T 4 i + 1 else T 4 i := by
    intro i
    unfold mo_mo
    rw [mo_fo_mr]
    have e : ∀ r, r < 7 → mo_se (mo_se (mo_se T 12 t (Int32.ofInt n)) 10 (mo_w D t) (D 13 t)) 11 (mo_w D t) (mo_cv D G t m held) r = T r := by
      intro r hr
      rw [mo_se_rw (by omega), mo_se_rw (by omega), mo_se_rw (by omega)]
    rw [e 6 (by decide), e 5 (by decide), e 4 (by decide)]
    by_cases q : i < np ∧ ((T 6 i).toInt = 3 ∧ (T 5 i).toInt = (t : Int))
    · rw [if_pos ⟨rfl, q⟩, if_pos q]
    · rw [if_neg (fun w => q w.2), if_neg q]
  refine ⟨fun p hp => ?_, fun v hv => ⟨fun r a b => ?_, ?_, ?_⟩, fun k hk => ?_, ?_⟩
  · obtain ⟨hok, h⟩ := hK p hp
    rcases h with h | h
    · have hn := mo_nbd hm.1 hwt h11 h
      refine ⟨mo_ok_4 hok (fun r hr => xr r (by omega) (by omega) (by omega) (by omega) (by omega) p) ?_ (fun r hr => mr r (by omega) (by omega) (by omega) (by omega) p) (mr 16 (by decide) (by decide) (by decide) (by decide) p), mo_rp_w hm.1 rfl h11 h (fun r a b => xr r b (by omega) (by omega) (by omega) (by omega) p) (fun v hv => by rw [x10, if_neg hv]) (fun v hv => by rw [x11, if_neg hv]) (fun r a b => mr r a (by omega) (by omega) (by omega) p)⟩
      rw [x4, m4, if_neg (fun w => hn.1 w.2), if_neg (fun w => hn.2 w.2)]
      exact hok.2.2.2.1
    · obtain ⟨b1, b2, b3, b4, b5, b6, b7, b8⟩ := h
      refine ⟨mo_ok_4 hok (fun r hr => xr r (by omega) (by omega) (by omega) (by omega) (by omega) p) ?_ (fun r hr => mr r (by omega) (by omega) (by omega) (by omega) p) (mr 16 (by decide) (by decide) (by decide) (by decide) p), Or.inr ⟨b8, Or.inr (Or.inr (Or.inl ⟨?_, ⟨t, ⟨?_, ht, hrn⟩, ?_, ?_, ?_⟩, ?_, ?_, ?_⟩))⟩⟩
      · rw [x4, m4, if_pos ⟨hp, by rw [b3]⟩, if_pos ⟨hp, b1, b2⟩, hok.2.2.2.1]
      · rw [mr 6 (by decide) (by decide) (by decide) (by decide)]; exact b1
      · rw [mr 5 (by decide) (by decide) (by decide) (by decide)]; exact b2
      · rw [xr 6 (by decide) (by decide) (by decide) (by decide) (by decide)]; exact b3
      · rw [x10]; exact if_pos rfl
      · rw [x11]
        have e : (if (D 11 t).toInt.toNat = mo_w D t then mo_cv D G t m held else S 11 (D 11 t).toInt.toNat) = mo_cv D G t m held := if_pos rfl
        rw [e]; exact hcv.1
      · rw [xr 5 (by decide) (by decide) (by decide) (by decide) (by decide)]; exact b4
      · rw [xr 2 (by decide) (by decide) (by decide) (by decide) (by decide)]; exact b5
      · rw [mr 2 (by decide) (by decide) (by decide) (by decide)]; exact b6
  · have h9 := (hW v hv).1
    by_cases e10 : r = 10
    · subst e10
      rw [x10, m10, h9 10 (by decide) (by decide)]
    · by_cases e11 : r = 11
      · subst e11
        rw [x11, m11, h9 11 (by decide) (by decide)]
      · rw [xr r (by omega) e10 e11 (by omega) (by omega), mr r (by omega) e10 e11 (by omega)]
        exact h9 r a b
  · rw [xr 9 (by decide) (by decide) (by decide) (by decide) (by decide)]
    exact (hW v hv).2.1
  · have e14 : ∀ i, mo_xo D G np t m n held S 14 i = mo_mk (mo_se (mo_se (mo_se S 12 t (Int32.ofInt n)) 10 (mo_w D t) (D 13 t)) 11 (mo_w D t) (mo_cv D G t m held)) (mo_cv D G t m held) 14 i := by
      intro i
      unfold mo_xo
      rw [mo_fo_xr, if_neg (fun w => absurd w.1 (by decide))]
    rw [x11]
    by_cases q : v = mo_w D t
    · rw [if_pos q]
      refine Or.inr ⟨hcv.1, hcv.2, fun h8 => ?_⟩
      rw [e14]
      exact mo_mk_on (by omega) h8
    · rw [if_neg q]
      rcases (hW v hv).2.2 with w | ⟨w1, w2, w3⟩
      · exact Or.inl w
      · refine Or.inr ⟨w1, w2, fun h8 => ?_⟩
        rw [e14]
        refine mo_mk_up ?_
        rw [mo_se_rw (by decide), mo_se_rw (by decide), mo_se_rw (by decide)]
        exact w3 h8
  · have e12 : ∀ i, mo_xo D G np t m n held S 12 i = if i = t then Int32.ofInt n else S 12 i := by
      intro i
      unfold mo_xo
      rw [mo_fo_xr, if_neg (fun w => absurd w.1 (by decide)), mo_mk_row (by decide), mo_se_rw (by decide), mo_se_rw (by decide), mo_se_at]
      by_cases q : i = t
      · rw [if_pos ⟨rfl, q⟩, if_pos q]
      · rw [if_neg (fun w => q w.2), if_neg q]
    have e12m : ∀ i, mo_mo D G np t m n held T 12 i = if i = t then Int32.ofInt n else T 12 i := by
      intro i
      unfold mo_mo
      rw [mo_fo_mr, if_neg (fun w => absurd w.1 (by decide)), mo_se_rw (by decide), mo_se_rw (by decide), mo_se_at]
      by_cases q : i = t
      · rw [if_pos ⟨rfl, q⟩, if_pos q]
      · rw [if_neg (fun w => q w.2), if_neg q]
    rw [e12, e12m, hL k hk]
  · rw [xr 13 (by decide) (by decide) (by decide) (by decide) (by decide), mr 13 (by decide) (by decide) (by decide) (by decide)]
    exact h13

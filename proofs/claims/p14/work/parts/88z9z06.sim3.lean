theorem mo_ok_mono {D S T : Nat → Nat → Int32} {p : Nat} {bw bw1 : Int} (h : mo_ok D S T p bw) (hb : bw ≤ bw1) : mo_ok D S T p bw1 := by
  obtain ⟨a, b, c, d, e, f, g, i⟩ := h
  exact ⟨a, b, c, d, e, f, ⟨g.1, by omega⟩, i⟩
theorem mo_ok_cg {D S T S1 T1 : Nat → Nat → Int32} {p : Nat} {bw : Int} (h : mo_ok D S T p bw) (hS : ∀ r, r < 5 → S1 r p = S r p) (hT : ∀ r, r < 5 → T1 r p = T r p) (h16 : T1 16 p = T 16 p) : mo_ok D S1 T1 p bw := by
  unfold mo_ok
  rw [hS 0 (by omega), hS 1 (by omega), hS 3 (by omega), hS 4 (by omega), hT 0 (by omega), hT 1 (by omega), hT 3 (by omega), hT 4 (by omega), h16]
  exact h
theorem mo_rp_cg {D S T S1 T1 : Nat → Nat → Int32} {G : Nat → Int} {p : Nat} {lv ar tr cm : Int} (h : mo_rp D G S T p lv ar tr cm) (hS : ∀ r, r < 7 → S1 r p = S r p) (h10 : S1 10 = S 10) (h11 : S1 11 = S 11) (hT : ∀ r, T1 r p = T r p) : mo_rp D G S1 T1 p lv ar tr cm := by
  unfold mo_rp mo_tk at h ⊢
  rw [hS 2 (by omega), hS 5 (by omega), hS 6 (by omega), h10, h11, hT 2, hT 5, hT 6, hT 14, hT 15]
  exact h
theorem mo_rp_mono {D S T : Nat → Nat → Int32} {G : Nat → Int} {p : Nat} {lv ar ar1 tr tr1 cm : Int} (h : mo_rp D G S T p lv ar tr cm) (ha : ar1 ≤ ar) (ht : tr1 ≤ tr) : mo_rp D G S T p lv ar1 tr1 cm := by
  rcases h with h | ⟨hl, h | h | h | h | h | h⟩
  · exact Or.inl h
  · obtain ⟨h1, ⟨k, h2, h3, h4, h5, h6, h7⟩, h8⟩ := h
    exact Or.inr ⟨hl, Or.inl ⟨h1, ⟨k, h2, h3, h4, by omega, h6, by omega⟩, h8⟩⟩
  · obtain ⟨h1, ⟨k, h2, h3, h4, h5⟩, h8⟩ := h
    exact Or.inr ⟨hl, Or.inr (Or.inl ⟨h1, ⟨k, h2, h3, h4, by omega⟩, h8⟩)⟩
  · exact Or.inr ⟨hl, Or.inr (Or.inr (Or.inl h))⟩
  · obtain ⟨h1, h2, h3, h4, h5, h6⟩ := h
    exact Or.inr ⟨hl, Or.inr (Or.inr (Or.inr (Or.inl ⟨h1, h2, h3, h4, by omega, h6⟩)))⟩
  · exact Or.inr ⟨hl, Or.inr (Or.inr (Or.inr (Or.inr (Or.inl h))))⟩
  · exact Or.inr ⟨hl, Or.inr (Or.inr (Or.inr (Or.inr (Or.inr h))))⟩
theorem mo_fold {f g : (Nat → Nat → Int32) → Nat → (Nat → Nat → Int32)} {np : Nat} {I : (Nat → Nat → Int32) → (Nat → Nat → Int32) → Prop} {B A : (Nat → Nat → Int32) → (Nat → Nat → Int32) → Nat → Prop} (step : ∀ S T p, p < np → I S T → B S T p → I (f S p) (g T p) ∧ A (f S p) (g T p) p ∧ ∀ q, q < np → q ≠ p → (B S T q → B (f S p) (g T p) q) ∧ (A S T q → A (f S p) (g T p) q)) {S T : Nat → Nat → Int32} (hI : I S T) (hB : ∀ q, q < np → B S T q) : ∀ n, n ≤ np → I (mo_fo f S n) (mo_fo g T n) ∧ (∀ q, q < n → A (mo_fo f S n) (mo_fo g T n) q) ∧ (∀ q, n ≤ q → q < np → B (mo_fo f S n) (mo_fo g T n) q) := by
  intro n
  induction n with
  | zero => exact fun _ => ⟨hI, fun q hq => absurd hq (Nat.not_lt_zero q), fun q _ hq => hB q hq⟩
  | succ n ih =>
    intro hn
    obtain ⟨i1, i2, i3⟩ := ih (by omega)
    obtain ⟨s1, s2, s3⟩ := step _ _ n (by omega) i1 (i3 n (Nat.le_refl _) (by omega))
    refine ⟨s1, fun q hq => ?_, fun q h1 h2 => ?_⟩
    · by_cases e : q = n
      · rw [e]; exact s2
      · exact (s3 q (by omega) e).2 (i2 q (by omega))
    · exact (s3 q h2 (by omega)).1 (i3 q (by omega) h2)
theorem mo_xc_ne {D : Nat → Nat → Int32} {G : Nat → Int} {S : Nat → Nat → Int32} {p a : Nat} {m na : Int} {q : Nat} (h : q ≠ p) (r : Nat) : mo_xc D G S p a m na r q = S r q := mo_go_ne h r
theorem mo_xc_row {D : Nat → Nat → Int32} {G : Nat → Int} {S : Nat → Nat → Int32} {p a : Nat} {m na : Int} {r : Nat} (h : r = 0 ∨ r = 4 ∨ 6 ≤ r) : mo_xc D G S p a m na r = S r := mo_go_row h
theorem mo_mc_ne {D : Nat → Nat → Int32} {G : Nat → Int} {T : Nat → Nat → Int32} {p : Nat} {m na : Int} {q : Nat} (h : q ≠ p) (r : Nat) : mo_mc D G T p m na r q = T r q := mo_mg_ne h r
theorem mo_mc_row {D : Nat → Nat → Int32} {G : Nat → Int} {T : Nat → Nat → Int32} {p : Nat} {m na : Int} {r : Nat} (h : 7 ≤ r ∧ r ≤ 13) : mo_mc D G T p m na r = T r := mo_mg_row D G T p m _ h
theorem mo_se_ne {S : Nat → Nat → Int32} {r p : Nat} {v : Int32} {q : Nat} (h : q ≠ p) (r1 : Nat) : mo_se S r p v r1 q = S r1 q := by
  rw [mo_se_at]; simp [h]
theorem mo_se_rw {S : Nat → Nat → Int32} {r p : Nat} {v : Int32} {r1 : Nat} (h : r1 ≠ r) : mo_se S r p v r1 = S r1 := by
  funext q; rw [mo_se_at]; simp [h]
theorem mo_se_pp {S : Nat → Nat → Int32} {r p : Nat} {v : Int32} : mo_se S r p v r p = v := by rw [mo_se_at]; simp
def mo_kp (S0 T0 S T : Nat → Nat → Int32) : Prop := (∀ r, 7 ≤ r → S r = S0 r) ∧ (∀ r, 7 ≤ r ∧ r ≤ 13 → T r = T0 r)
def mo_wh (D : Nat → Nat → Int32) : Prop := ∀ k, k < mo_nt D → 0 ≤ (D 11 k).toInt ∧ (D 11 k).toInt < (D 19 1).toInt
theorem mo_wf {D : Nat → Nat → Int32} (G : Nat → Int) (m : Int) {S0 T0 : Nat → Nat → Int32} {np : Nat} {bw : Int} (hR : mo_R D) (hG : mo_GR G) (hm : 0 ≤ m ∧ m ≤ 839) (hb : bw ≤ 100000000) (hnt : (mo_nt D : Int) ≤ 80) (hwh : mo_wh D) (h0 : ∀ k, k < mo_nt D → m ≤ (S0 11 (D 11 k).toInt.toNat).toInt → ((T0 11 (D 11 k).toInt.toNat).toInt = -1 ↔ (S0 11 (D 11 k).toInt.toNat).toInt = m)) : ∀ S T p, p < np → mo_kp S0 T0 S T → (mo_ok D S T p bw ∧ mo_rp D G S T p m m m m) → mo_kp S0 T0 (mo_xl1 D G m S p) (mo_ml1 D G m T p) ∧ (mo_ok D (mo_xl1 D G m S p) (mo_ml1 D G m T p) p (bw + 1089) ∧ mo_rp D G (mo_xl1 D G m S p) (mo_ml1 D G m T p) p m m m (m + 1)) ∧ ∀ q, q < np → q ≠ p → ((mo_ok D S T q bw ∧ mo_rp D G S T q m m m m) → (mo_ok D (mo_xl1 D G m S p) (mo_ml1 D G m T p) q bw ∧ mo_rp D G (mo_xl1 D G m S p) (mo_ml1 D G m T p) q m m m m)) ∧ ((mo_ok D S T q (bw + 1089) ∧ mo_rp D G S T q m m m (m + 1)) → (mo_ok D (mo_xl1 D G m S p) (mo_ml1 D G m T p) q (bw + 1089) ∧ mo_rp D G (mo_xl1 D G m S p) (mo_ml1 D G m T p) q m m m (m + 1))) := by
  intro S T p hp hI hB
  have xr : ∀ r, 7 ≤ r → mo_xl1 D G m S p r = S r := by
    intro r hr
    unfold mo_xl1
    split
    · rw [mo_xc_row (by omega), mo_se_rw (by omega)]
    · rfl
  have mr : ∀ r, 7 ≤ r ∧ r ≤ 13 → mo_ml1 D G m T p r = T r := by
    intro r hr
    unfold mo_ml1
    split
    · rw [mo_mc_row hr, mo_se_rw (by omega)]
    · rfl
  have xn : ∀ q, q ≠ p → ∀ r, mo_xl1 D G m S p r q = S r q := by
    intro q hq r
    unfold mo_xl1
    split
    · rw [mo_xc_ne hq, mo_se_ne hq]
    · rfl
  have mn : ∀ q, q ≠ p → ∀ r, mo_ml1 D G m T p r q = T r q := by
    intro q hq r
    unfold mo_ml1
    split
    · rw [mo_mc_ne hq, mo_se_ne hq]
    · rfl
  refine ⟨⟨fun r hr => (xr r hr).trans (hI.1 r hr), fun r hr => (mr r hr).trans (hI.2 r hr)⟩, ?_, fun q _ hq => ⟨fun w => ⟨mo_ok_cg w.1 (fun r _ => xn q hq r) (fun r _ => mn q hq r) (mn q hq 16), mo_rp_cg w.2 (fun r _ => xn q hq r) (xr 10 (by omega)) (xr 11 (by omega)) (fun r => mn q hq r)⟩, fun w => ⟨mo_ok_cg w.1 (fun r _ => xn q hq r) (fun r _ => mn q hq r) (mn q hq 16), mo_rp_cg w.2 (fun r _ => xn q hq r) (xr 10 (by omega)) (xr 11 (by omega)) (fun r => mn q hq r)⟩⟩⟩
  obtain ⟨hok, hrp⟩ := hB
  by_cases h3 : (T 6 p).toInt = 3
  · have hst : ∃ k, mo_tk D G S T p k ∧ S 6 p = D 11 k ∧ S 10 (D 11 k).toInt.toNat = D 13 k ∧ m ≤ (S 11 (D 11 k).toInt.toNat).toInt ∧ (S 2 p).toInt = -1 ∧ (T 2 p).toInt = -1 ∧ (D 2 p).toInt < m ∧ (S 5 p).toInt = -1 := by
      rcases hrp with h | ⟨hl, h | h | h | h | h | h⟩
      · omega
      · omega
      · omega
      · obtain ⟨_, ⟨k, a1, a2, a3, a4⟩, a5, a6, a7⟩ := h
        exact ⟨k, a1, a2, a3, a4, a6, a7, hl, a5⟩
      · omega
      · omega
      · omega
    obtain ⟨k, a1, a2, a3, a4, a6, a7, hl, a5⟩ := hst
    have hk := hwh k a1.2.1
    have tk : (T 5 p).toInt.toNat = k := by have := a1.1; omega
    have hz := h0 k a1.2.1
    rw [← hI.1 11 (by omega), ← hI.2 11 (by omega)] at hz
    have hz := hz a4
    by_cases hc : (S 11 (D 11 k).toInt.toNat).toInt = m
    · have ex : mo_xl1 D G m S p = mo_xc D G (mo_se S 6 p (-1)) p (mo_co D (D 13 k)) m m := by
        unfold mo_xl1
        rw [a2, if_pos ⟨by omega, hc⟩, a3]
      have em : mo_ml1 D G m T p = mo_mc D G (mo_se T 14 p (D 18 (D 13 k).toInt.toNat)) p m m := by
        unfold mo_ml1
        rw [tk, if_pos ⟨h3, hz.mpr hc⟩]
      rw [ex, em]
      have h18 := hR.1 (D 13 k).toInt.toNat
      have hs := mo_sim_c (S := mo_se S 6 p (-1)) (T := mo_se T 14 p (D 18 (D 13 k).toInt.toNat)) (p := p) (a := mo_co D (D 13 k)) (m := m) (na := m) (bw := bw) (lv := m) (cm := m + 1) hR hG hm (Int.le_refl _) (mo_ok_cg hok (fun r hr => congrFun (mo_se_rw (by omega)) p) (fun r hr => congrFun (mo_se_rw (by omega)) p) (congrFun (mo_se_rw (by decide)) p)) hb (by rw [mo_se_pp]; unfold mo_co; omega) (by unfold mo_co; omega) (by rw [mo_se_pp]; decide) (by rw [mo_se_rw (by decide)]; exact a6) (by rw [mo_se_rw (by decide)]; exact a7) hl hnt
      exact ⟨hs.1, mo_rp_mono hs.2 (by omega) (Int.le_refl _)⟩
    · have ex : mo_xl1 D G m S p = S := by
        unfold mo_xl1
        rw [a2, if_neg (fun w => hc w.2)]
      have em : mo_ml1 D G m T p = T := by
        unfold mo_ml1
        rw [tk, if_neg (fun w => hc (hz.mp w.2))]
      rw [ex, em]
      exact ⟨mo_ok_mono hok (by omega), Or.inr ⟨hl, Or.inr (Or.inr (Or.inl ⟨h3, ⟨k, a1, a2, a3, by omega⟩, a5, a6, a7⟩))⟩⟩
  · have em : mo_ml1 D G m T p = T := by
      unfold mo_ml1
      rw [if_neg (fun w => h3 w.1)]
    have s6 : (S 6 p).toInt = -1 := by
      rcases hrp with h | ⟨hl, h | h | h | h | h | h⟩
      · exact h.2.2.1
      · exact h.2.2.1
      · exact h.2.2.1
      · exact absurd h.1 h3
      · exact h.2.2.1
      · exact h.2.2.1
      · exact h.2.2.1
    have ex : mo_xl1 D G m S p = S := by
      unfold mo_xl1
      rw [if_neg (fun w => w.1 s6)]
    rw [ex, em]
    refine ⟨mo_ok_mono hok (by omega), ?_⟩
    rcases hrp with h | ⟨hl, h | h | h | h | h | h⟩
    · exact Or.inl h
    · exact Or.inr ⟨hl, Or.inl h⟩
    · exact Or.inr ⟨hl, Or.inr (Or.inl h)⟩
    · exact absurd h.1 h3
    · exact Or.inr ⟨hl, Or.inr (Or.inr (Or.inr (Or.inl h)))⟩
    · exact Or.inr ⟨hl, Or.inr (Or.inr (Or.inr (Or.inr (Or.inl h))))⟩
    · exact Or.inr ⟨hl, Or.inr (Or.inr (Or.inr (Or.inr (Or.inr h))))⟩
theorem mo_hf {D : Nat → Nat → Int32} (G : Nat → Int) (m : Int) {S0 T0 : Nat → Nat → Int32} {np : Nat} {bw : Int} (hR : mo_R D) (hG : mo_GR G) (hm : 0 ≤ m ∧ m ≤ 839) (hb : bw ≤ 100000000) (hnt : (mo_nt D : Int) ≤ 80) : ∀ S T p, p < np → mo_kp S0 T0 S T → (mo_ok D S T p bw ∧ mo_rp D G S T p m m m (m + 1)) → mo_kp S0 T0 (mo_xh1 D G m S p) (mo_mh1 D G m T p) ∧ (mo_ok D (mo_xh1 D G m S p) (mo_mh1 D G m T p) p (bw + 1089) ∧ mo_rp D G (mo_xh1 D G m S p) (mo_mh1 D G m T p) p (m + 1) (m + 1) m (m + 1)) ∧ ∀ q, q < np → q ≠ p → ((mo_ok D S T q bw ∧ mo_rp D G S T q m m m (m + 1)) → (mo_ok D (mo_xh1 D G m S p) (mo_mh1 D G m T p) q bw ∧ mo_rp D G (mo_xh1 D G m S p) (mo_mh1 D G m T p) q m m m (m + 1))) ∧ ((mo_ok D S T q (bw + 1089) ∧ mo_rp D G S T q (m + 1) (m + 1) m (m + 1)) → (mo_ok D (mo_xh1 D G m S p) (mo_mh1 D G m T p) q (bw + 1089) ∧ mo_rp D G (mo_xh1 D G m S p) (mo_mh1 D G m T p) q (m + 1) (m + 1) m (m + 1))) := by
  intro S T p hp hI hB
  have xr : ∀ r, 7 ≤ r → mo_xh1 D G m S p r = S r := by
    intro r hr
    unfold mo_xh1
    split
    · rw [mo_xc_row (by omega)]
    · rfl
  have mr : ∀ r, 7 ≤ r ∧ r ≤ 13 → mo_mh1 D G m T p r = T r := by
    intro r hr
    unfold mo_mh1
    split
    · rw [mo_mc_row hr]
    · split
      · exact mo_ar_row T p m hr.1
      · rfl
  have xn : ∀ q, q ≠ p → ∀ r, mo_xh1 D G m S p r q = S r q := by
    intro q hq r
    unfold mo_xh1
    split
    · rw [mo_xc_ne hq]
    · rfl
  have mn : ∀ q, q ≠ p → ∀ r, mo_mh1 D G m T p r q = T r q := by
    intro q hq r
    unfold mo_mh1
    split
    · rw [mo_mc_ne hq]
    · split
      · exact mo_ar_ne hq r
      · rfl
  refine ⟨⟨fun r hr => (xr r hr).trans (hI.1 r hr), fun r hr => (mr r hr).trans (hI.2 r hr)⟩, ?_, fun q _ hq => ⟨fun w => ⟨mo_ok_cg w.1 (fun r _ => xn q hq r) (fun r _ => mn q hq r) (mn q hq 16), mo_rp_cg w.2 (fun r _ => xn q hq r) (xr 10 (by omega)) (xr 11 (by omega)) (fun r => mn q hq r)⟩, fun w => ⟨mo_ok_cg w.1 (fun r _ => xn q hq r) (fun r _ => mn q hq r) (mn q hq 16), mo_rp_cg w.2 (fun r _ => xn q hq r) (xr 10 (by omega)) (xr 11 (by omega)) (fun r => mn q hq r)⟩⟩⟩
  obtain ⟨hok, hrp⟩ := hB
  have z2 : (2 : Int32).toInt = 2 := by decide
  have z5 : (5 : Int32).toInt = 5 := by decide
  have ofm : (Int32.ofInt m).toInt = m := mo_i32 (by omega) (by omega)
  rcases hrp with h | ⟨hl, h⟩
  · obtain ⟨h0, h5, h6, h2, h2t, h14, hlv⟩ := h
    by_cases hc : (D 2 p).toInt = m
    · have ex : mo_xh1 D G m S p = mo_xc D G S p (D 0 p).toInt.toNat m m := by
        unfold mo_xh1; rw [if_pos hc]
      have em : mo_mh1 D G m T p = mo_mc D G T p m m := by
        unfold mo_mh1; rw [if_pos ⟨h0, hc⟩]
      rw [ex, em]
      have hh := hR.2.2.2.1 p
      have hs := mo_sim_c (a := (D 0 p).toInt.toNat) (lv := m + 1) (cm := m + 1) hR hG hm (Int.le_refl m) hok hb (by rw [h14]; omega) (by omega) h6 h2 h2t (by omega) hnt
      exact hs
    · have ex : mo_xh1 D G m S p = S := by
        unfold mo_xh1; rw [if_neg hc]
      have em : mo_mh1 D G m T p = T := by
        unfold mo_mh1; rw [if_neg (fun w => hc w.2), if_neg (fun w => by omega)]
      rw [ex, em]
      exact ⟨mo_ok_mono hok (by omega), Or.inl ⟨h0, h5, h6, h2, h2t, h14, by omega⟩⟩
  · have ex : mo_xh1 D G m S p = S := by
      unfold mo_xh1; rw [if_neg (by omega)]
    rw [ex]
    have no : ∀ z : Int, (T 6 p).toInt = z → z ≠ 0 → ¬ (z = 1 ∨ z = 4) ∨ ¬ (T 15 p).toInt = m → mo_mh1 D G m T p = T := by
      intro z e hz hn
      unfold mo_mh1
      rw [if_neg (fun w => hz (e.symm.trans w.1)), if_neg (fun w => hn.elim (fun v => v (by rw [← e]; exact w.1)) (fun v => v w.2))]
    rcases h with h | h | h | h | h | h
    · obtain ⟨s1, ⟨k, k1, k2, k3, k4, k5, k6⟩, s2, s3, s4⟩ := h
      by_cases hc : (T 15 p).toInt = m
      · have em : mo_mh1 D G m T p = mo_se T 6 p 2 := by
          unfold mo_mh1
          rw [if_neg (by omega), if_pos ⟨Or.inl s1, hc⟩]
          unfold mo_ar
          rw [if_pos s1]
        rw [em]
        refine ⟨mo_ok_mono (mo_ok_cg hok (fun r hr => rfl) (fun r hr => congrFun (mo_se_rw (by omega)) p) (congrFun (mo_se_rw (by decide)) p)) (by omega), Or.inr ⟨by omega, Or.inr (Or.inl ⟨by rw [mo_se_pp]; exact z2, ⟨k, ⟨?_, k1.2⟩, ?_, ?_, k6⟩, s2, s3, ?_⟩)⟩⟩
        · rw [mo_se_rw (by decide)]; exact k1.1
        · rw [mo_se_rw (by decide)]; exact k2
        · rw [mo_se_rw (by decide)]; exact k3
        · rw [mo_se_rw (by decide)]; exact s4
      · rw [no 1 s1 (by decide) (Or.inr hc)]
        exact ⟨mo_ok_mono hok (by omega), Or.inr ⟨by omega, Or.inl ⟨s1, ⟨k, k1, k2, k3, by omega, k5, k6⟩, s2, s3, s4⟩⟩⟩
    · rw [no 2 h.1 (by decide) (Or.inl (by decide))]
      exact ⟨mo_ok_mono hok (by omega), Or.inr ⟨by omega, Or.inr (Or.inl h)⟩⟩
    · rw [no 3 h.1 (by decide) (Or.inl (by decide))]
      exact ⟨mo_ok_mono hok (by omega), Or.inr ⟨by omega, Or.inr (Or.inr (Or.inl h))⟩⟩
    · obtain ⟨s1, s2, s3, s4, s5, s6⟩ := h
      by_cases hc : (T 15 p).toInt = m
      · have em : mo_mh1 D G m T p = mo_se (mo_se T 6 p 5) 2 p (Int32.ofInt m) := by
          unfold mo_mh1
          rw [if_neg (by omega), if_pos ⟨Or.inr s1, hc⟩]
          unfold mo_ar
          rw [if_neg (by omega)]
        rw [em]
        rw [hc, if_pos (by omega)] at s6
        refine ⟨mo_ok_mono (mo_ok_cg (T1 := mo_se (mo_se T 6 p 5) 2 p (Int32.ofInt m)) (bw := bw) (S1 := S) ?_ (fun r hr => rfl) (fun r hr => rfl) rfl) (by omega), Or.inr ⟨by omega, Or.inr (Or.inr (Or.inr (Or.inr (Or.inl ⟨?_, s2, s3, ?_⟩))))⟩⟩
        · obtain ⟨o0, o1, o3, o4, o16, b1, b3, b6⟩ := hok
          refine ⟨?_, ?_, ?_, ?_, ?_, b1, b3, b6⟩
          · rw [mo_se_rw (by decide), mo_se_rw (by decide)]; exact o0
          · rw [mo_se_rw (by decide), mo_se_rw (by decide)]; exact o1
          · rw [mo_se_rw (by decide), mo_se_rw (by decide)]; exact o3
          · rw [mo_se_rw (by decide), mo_se_rw (by decide)]; exact o4
          · rw [mo_se_rw (by decide), mo_se_rw (by decide)]; exact o16
        · rw [mo_se_rw (by decide), mo_se_pp]; exact z5
        · rw [mo_se_pp]; exact Int32.toInt_inj.mp (s6.trans ofm.symm)
      · rw [no 4 s1 (by decide) (Or.inr hc)]
        exact ⟨mo_ok_mono hok (by omega), Or.inr ⟨by omega, Or.inr (Or.inr (Or.inr (Or.inl ⟨s1, s2, s3, s4, by omega, s6⟩)))⟩⟩
    · rw [no 5 h.1 (by decide) (Or.inl (by decide))]
      exact ⟨mo_ok_mono hok (by omega), Or.inr ⟨by omega, Or.inr (Or.inr (Or.inr (Or.inr (Or.inl h))))⟩⟩
    · rw [no 6 h.1 (by decide) (Or.inl (by decide))]
      exact ⟨mo_ok_mono hok (by omega), Or.inr ⟨by omega, Or.inr (Or.inr (Or.inr (Or.inr (Or.inr h))))⟩⟩
theorem mo_af {D : Nat → Nat → Int32} (G : Nat → Int) (m : Int) {S0 T0 : Nat → Nat → Int32} {np : Nat} {bw : Int} (hR : mo_R D) (hG : mo_GR G) (hm : 0 ≤ m ∧ m ≤ 839) (hb : bw ≤ 100000000) (hnt : (mo_nt D : Int) ≤ 80) : ∀ S T p, p < np → mo_kp S0 T0 S T → (mo_ok D S T p bw ∧ mo_rp D G S T p (m + 1) (m + 1) m (m + 1)) → mo_kp S0 T0 (mo_xa1 D G m S p) (mo_ma1 D G m T p) ∧ (mo_ok D (mo_xa1 D G m S p) (mo_ma1 D G m T p) p (bw + 1089) ∧ mo_rp D G (mo_xa1 D G m S p) (mo_ma1 D G m T p) p (m + 1) (m + 1) (m + 1) (m + 1)) ∧ ∀ q, q < np → q ≠ p → ((mo_ok D S T q bw ∧ mo_rp D G S T q (m + 1) (m + 1) m (m + 1)) → (mo_ok D (mo_xa1 D G m S p) (mo_ma1 D G m T p) q bw ∧ mo_rp D G (mo_xa1 D G m S p) (mo_ma1 D G m T p) q (m + 1) (m + 1) m (m + 1))) ∧ ((mo_ok D S T q (bw + 1089) ∧ mo_rp D G S T q (m + 1) (m + 1) (m + 1) (m + 1)) → (mo_ok D (mo_xa1 D G m S p) (mo_ma1 D G m T p) q (bw + 1089) ∧ mo_rp D G (mo_xa1 D G m S p) (mo_ma1 D G m T p) q (m + 1) (m + 1) (m + 1) (m + 1))) := by
  intro S T p hp hI hB
  have xr : ∀ r, 7 ≤ r → mo_xa1 D G m S p r = S r := by
    intro r hr
    unfold mo_xa1
    split
    · rw [mo_xc_row (by omega)]
    · rfl
  have mr : ∀ r, 7 ≤ r ∧ r ≤ 13 → mo_ma1 D G m T p r = T r := by
    intro r hr
    unfold mo_ma1
    split
    · rw [mo_mc_row hr]
    · rfl
  have xn : ∀ q, q ≠ p → ∀ r, mo_xa1 D G m S p r q = S r q := by
    intro q hq r
    unfold mo_xa1
    split
    · rw [mo_xc_ne hq]
    · rfl
  have mn : ∀ q, q ≠ p → ∀ r, mo_ma1 D G m T p r q = T r q := by
    intro q hq r
    unfold mo_ma1
    split
    · rw [mo_mc_ne hq]
    · rfl
  refine ⟨⟨fun r hr => (xr r hr).trans (hI.1 r hr), fun r hr => (mr r hr).trans (hI.2 r hr)⟩, ?_, fun q _ hq => ⟨fun w => ⟨mo_ok_cg w.1 (fun r _ => xn q hq r) (fun r _ => mn q hq r) (mn q hq 16), mo_rp_cg w.2 (fun r _ => xn q hq r) (xr 10 (by omega)) (xr 11 (by omega)) (fun r => mn q hq r)⟩, fun w => ⟨mo_ok_cg w.1 (fun r _ => xn q hq r) (fun r _ => mn q hq r) (mn q hq 16), mo_rp_cg w.2 (fun r _ => xn q hq r) (xr 10 (by omega)) (xr 11 (by omega)) (fun r => mn q hq r)⟩⟩⟩
  obtain ⟨hok, hrp⟩ := hB
  have nx : ¬ ((S 5 p).toInt ≠ -1 ∧ (D 14 (S 5 p).toInt.toNat).toInt = m) → mo_xa1 D G m S p = S := fun h => by
    unfold mo_xa1; rw [if_neg h]
  have nm : ¬ (T 6 p).toInt = 2 ∨ ¬ (D 14 (T 5 p).toInt.toNat).toInt = m → mo_ma1 D G m T p = T := fun h => by
    unfold mo_ma1; rw [if_neg (fun w => h.elim (fun v => v w.1) (fun v => v w.2))]
  rcases hrp with h | ⟨hl, h | h | h | h | h | h⟩
  · rw [nx (fun w => w.1 h.2.1), nm (Or.inl (by omega))]
    exact ⟨mo_ok_mono hok (by omega), Or.inl h⟩
  · obtain ⟨s1, ⟨k, k1, k2, k3, k4, k5, k6⟩, s2, s3, s4⟩ := h
    have tk : (T 5 p).toInt.toNat = k := by have := k1.1; omega
    rw [nx (fun w => by have h9 := w.2; rw [k2, tk] at h9; omega), nm (Or.inl (by omega))]
    exact ⟨mo_ok_mono hok (by omega), Or.inr ⟨hl, Or.inl ⟨s1, ⟨k, k1, k2, k3, k4, k5, by omega⟩, s2, s3, s4⟩⟩⟩
  · obtain ⟨s1, ⟨k, k1, k2, k3, k4⟩, s2, s3, s4⟩ := h
    have tk : (T 5 p).toInt.toNat = k := by have := k1.1; omega
    by_cases hc : (D 14 k).toInt = m
    · have ex : mo_xa1 D G m S p = mo_xc D G S p (mo_cf D k) m (m + 1) := by
        unfold mo_xa1
        rw [k2, tk, if_pos ⟨by have := k1.1; omega, hc⟩]
      have em : mo_ma1 D G m T p = mo_mc D G T p m (m + 1) := by
        unfold mo_ma1
        rw [tk, if_pos ⟨s1, hc⟩]
      rw [ex, em]
      have h18 := hR.1 (D 12 k).toInt.toNat
      exact mo_sim_c (a := mo_cf D k) (lv := m + 1) (cm := m + 1) hR hG hm (by omega) hok hb (by rw [k3]; unfold mo_cf; omega) (mo_cf_b hR k) s2 s3 s4 hl hnt
    · rw [nx (fun w => by have h9 := w.2; rw [k2, tk] at h9; exact hc h9), nm (Or.inr (by rw [tk]; exact hc))]
      exact ⟨mo_ok_mono hok (by omega), Or.inr ⟨hl, Or.inr (Or.inl ⟨s1, ⟨k, k1, k2, k3, by omega⟩, s2, s3, s4⟩)⟩⟩
  · rw [nx (fun w => w.1 h.2.2.1), nm (Or.inl (by omega))]
    exact ⟨mo_ok_mono hok (by omega), Or.inr ⟨hl, Or.inr (Or.inr (Or.inl h))⟩⟩
  · rw [nx (fun w => w.1 h.2.1), nm (Or.inl (by omega))]
    exact ⟨mo_ok_mono hok (by omega), Or.inr ⟨hl, Or.inr (Or.inr (Or.inr (Or.inl h)))⟩⟩
  · rw [nx (fun w => w.1 h.2.1), nm (Or.inl (by omega))]
    exact ⟨mo_ok_mono hok (by omega), Or.inr ⟨hl, Or.inr (Or.inr (Or.inr (Or.inr (Or.inl h))))⟩⟩
  · rw [nx (fun w => w.1 h.2.1), nm (Or.inl (by omega))]
    exact ⟨mo_ok_mono hok (by omega), Or.inr ⟨hl, Or.inr (Or.inr (Or.inr (Or.inr (Or.inr h))))⟩⟩

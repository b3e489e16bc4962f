theorem mo_fo_row {f : (Nat → Nat → Int32) → Nat → (Nat → Nat → Int32)} {T : Nat → Nat → Int32} {r : Nat} (h : ∀ X k, f X k r = X r) : ∀ n, mo_fo f T n r = T r
  | 0 => rfl
  | n + 1 => (h _ n).trans (mo_fo_row h n)
theorem mo_fo_keep {f : (Nat → Nat → Int32) → Nat → (Nat → Nat → Int32)} {Q : (Nat → Nat → Int32) → Prop} (h : ∀ X k, Q X → Q (f X k)) {T : Nat → Nat → Int32} (h0 : Q T) : ∀ n, Q (mo_fo f T n)
  | 0 => h0
  | n + 1 => h _ n (mo_fo_keep h h0 n)
theorem mo_fo_get {f : (Nat → Nat → Int32) → Nat → (Nat → Nat → Int32)} {Q : (Nat → Nat → Int32) → Prop} (h : ∀ X k, Q X → Q (f X k)) {T : Nat → Nat → Int32} {i : Nat} (hi : ∀ X, Q (f X i)) : ∀ n, i < n → Q (mo_fo f T n)
  | 0, w => absurd w (Nat.not_lt_zero _)
  | n + 1, w => by
    show Q (f (mo_fo f T n) n)
    by_cases q : i = n
    · rw [← q]; exact hi _
    · exact h _ n (mo_fo_get h hi n (by omega))
theorem mm_Ts_p {D T : Nat → Nat → Int32} {np nw nt p r : Nat} (hp : p < np) (hr : r ≤ 6 ∨ 14 ≤ r) : mm_Ts D T np nw nt r p = if r = 6 then 0 else if r = 14 then D 0 p else if r = 2 then -1 else if r = 3 then 0 else if r = 4 then 0 else T r p := by
  have e1 : mm_Ts D T np nw nt r = mo_fo (mm_p0 D) (mo_fo (mm_w0 D) T nw) np r := mo_fo_row (fun X k => by unfold mm_k0; rw [mo_se_rw (by omega)]) nt
  have e2 : mo_fo (mm_w0 D) T nw r = T r := mo_fo_row (fun X k => by unfold mm_w0; rw [mo_se_rw (by omega), mo_se_rw (by omega), mo_se_rw (by omega), mo_se_rw (by omega)]) nw
  have hne : ∀ X k r i, True → i ≠ k → mm_p0 D X k r i = X r i := fun X k r i _ h => by unfold mm_p0; rw [mo_se_ne h, mo_se_ne h, mo_se_ne h, mo_se_ne h, mo_se_ne h]
  rw [e1, mo_fo_at (P := fun _ => True) hne trivial np p hp]
  have e3 : mo_fo (mm_p0 D) (mo_fo (mm_w0 D) T nw) p r p = T r p := by
    rw [mo_fo_ne (P := fun _ => True) hne trivial p p (Nat.le_refl _), e2]
  unfold mm_p0
  rw [mo_se_at, mo_se_at, mo_se_at, mo_se_at, mo_se_at]
  by_cases h6 : r = 6
  · subst h6; simp
  · by_cases h14 : r = 14
    · subst h14; simp
    · by_cases h2 : r = 2
      · subst h2; simp
      · by_cases h3 : r = 3
        · subst h3; simp
        · by_cases h4 : r = 4
          · subst h4; simp
          · rw [if_neg (fun w => h4 w.1), if_neg (fun w => h3 w.1), if_neg (fun w => h2 w.1), if_neg (fun w => h14 w.1), if_neg (fun w => h6 w.1), if_neg h6, if_neg h14, if_neg h2, if_neg h3, if_neg h4]
            exact e3
theorem mm_Ts_w {D T : Nat → Nat → Int32} {np nw nt w r : Nat} (hw : w < nw) (hr : 7 ≤ r ∧ r ≤ 11) : mm_Ts D T np nw nt r w = if r = 10 then D 8 w else if r = 11 then -1 else if r = 8 then 0 else if r = 9 then 0 else T r w := by
  have e1 : mm_Ts D T np nw nt r = mo_fo (mm_p0 D) (mo_fo (mm_w0 D) T nw) np r := mo_fo_row (fun X k => by unfold mm_k0; rw [mo_se_rw (by omega)]) nt
  have e2 : mo_fo (mm_p0 D) (mo_fo (mm_w0 D) T nw) np r = mo_fo (mm_w0 D) T nw r := mo_fo_row (fun X k => by unfold mm_p0; rw [mo_se_rw (by omega), mo_se_rw (by omega), mo_se_rw (by omega), mo_se_rw (by omega), mo_se_rw (by omega)]) np
  have hne : ∀ X k r i, True → i ≠ k → mm_w0 D X k r i = X r i := fun X k r i _ h => by unfold mm_w0; rw [mo_se_ne h, mo_se_ne h, mo_se_ne h, mo_se_ne h]
  rw [e1, e2, mo_fo_at (P := fun _ => True) hne trivial nw w hw]
  have e3 : mo_fo (mm_w0 D) T w r w = T r w := mo_fo_ne (P := fun _ => True) hne trivial w w (Nat.le_refl _)
  unfold mm_w0
  rw [mo_se_at, mo_se_at, mo_se_at, mo_se_at]
  by_cases h10 : r = 10
  · subst h10; simp
  · by_cases h11 : r = 11
    · subst h11; simp
    · by_cases h8 : r = 8
      · subst h8; simp
      · by_cases h9 : r = 9
        · subst h9; simp
        · rw [if_neg (fun w => h9 w.1), if_neg (fun w => h8 w.1), if_neg (fun w => h11 w.1), if_neg (fun w => h10 w.1), if_neg h10, if_neg h11, if_neg h8, if_neg h9]
          exact e3
theorem mm_Ts_k {D T : Nat → Nat → Int32} {np nw nt k : Nat} (hk : k < nt) : mm_Ts D T np nw nt 12 k = -1 := by
  have hne : ∀ X k r i, True → i ≠ k → mm_k0 X k r i = X r i := fun X k r i _ h => by unfold mm_k0; rw [mo_se_ne h]
  unfold mm_Ts
  rw [mo_fo_at (P := fun _ => True) hne trivial nt k hk]
  unfold mm_k0
  exact mo_se_pp
theorem mm_Ts_13 {D T : Nat → Nat → Int32} {np nw nt : Nat} : mm_Ts D T np nw nt 13 = T 13 := by
  unfold mm_Ts
  rw [mo_fo_row (fun X k => by unfold mm_k0; rw [mo_se_rw (by decide)]) nt, mo_fo_row (fun X k => by unfold mm_p0; rw [mo_se_rw (by decide), mo_se_rw (by decide), mo_se_rw (by decide), mo_se_rw (by decide), mo_se_rw (by decide)]) np, mo_fo_row (fun X k => by unfold mm_w0; rw [mo_se_rw (by decide), mo_se_rw (by decide), mo_se_rw (by decide), mo_se_rw (by decide)]) nw]
theorem mo_rt0_row {D X : Nat → Nat → Int32} {k r : Nat} (h12 : r ≠ 12) (h14 : r ≠ 14) : mo_rt0 D X k r = X r := by
  unfold mo_rt0
  by_cases q : mo_gt D k
  · rw [mo_ii_y q, mo_mk_row h14, mo_se_rw h12]
  · rw [mo_ii_n q, mo_se_rw h12]
theorem mo_st_p {D ar S : Nat → Nat → Int32} {np nw p r : Nat} (hp : p < np) (hr : r ≤ 6) : mo_st D ar np nw S r p = if r = 0 then ar 13 p else if r = 1 then ar 12 p else if r = 2 then -1 else if r = 3 then 0 else if r = 4 then 0 else if r = 5 then -1 else -1 := by
  have e1 : mo_st D ar np nw S r = mo_fo (mo_rw0 D (ar 24)) (mo_fo (mo_rp0 D (ar 13) (ar 12)) S np) nw r := mo_fo_row (fun X k => mo_rt0_row (by omega) (by omega)) _
  have e2 : mo_fo (mo_rw0 D (ar 24)) (mo_fo (mo_rp0 D (ar 13) (ar 12)) S np) nw r = mo_fo (mo_rp0 D (ar 13) (ar 12)) S np r := mo_fo_row (fun X k => by unfold mo_rw0; rw [mo_se_rw (by omega), mo_se_rw (by omega), mo_se_rw (by omega), mo_se_rw (by omega), mo_se_rw (by omega)]) nw
  have hne : ∀ X k r i, r ≠ 14 → i ≠ k → mo_rp0 D (ar 13) (ar 12) X k r i = X r i := fun X k r i h4 h => by unfold mo_rp0; rw [mo_mk_row h4, mo_se_ne h, mo_se_ne h, mo_se_ne h, mo_se_ne h, mo_se_ne h, mo_se_ne h, mo_se_ne h]
  rw [e1, e2, mo_fo_at (P := fun r => r ≠ 14) hne (by omega) np p hp]
  unfold mo_rp0
  rw [mo_mk_row (by omega), mo_se_at, mo_se_at, mo_se_at, mo_se_at, mo_se_at, mo_se_at, mo_se_at]
  have h : r = 0 ∨ r = 1 ∨ r = 2 ∨ r = 3 ∨ r = 4 ∨ r = 5 ∨ r = 6 := by omega
  rcases h with h | h | h | h | h | h | h <;> subst h <;> simp
theorem mo_st_w {D ar S : Nat → Nat → Int32} {np nw w r : Nat} (hw : w < nw) (hr : 7 ≤ r ∧ r ≤ 11) : mo_st D ar np nw S r w = if r = 7 then ar 24 w else if r = 8 then 0 else if r = 9 then 0 else if r = 10 then D 8 w else -1 := by
  have e1 : mo_st D ar np nw S r = mo_fo (mo_rw0 D (ar 24)) (mo_fo (mo_rp0 D (ar 13) (ar 12)) S np) nw r := mo_fo_row (fun X k => mo_rt0_row (by omega) (by omega)) _
  have hne : ∀ X k r i, True → i ≠ k → mo_rw0 D (ar 24) X k r i = X r i := fun X k r i _ h => by unfold mo_rw0; rw [mo_se_ne h, mo_se_ne h, mo_se_ne h, mo_se_ne h, mo_se_ne h]
  rw [e1, mo_fo_at (P := fun _ => True) hne trivial nw w hw]
  unfold mo_rw0
  rw [mo_se_at, mo_se_at, mo_se_at, mo_se_at, mo_se_at]
  have h : r = 7 ∨ r = 8 ∨ r = 9 ∨ r = 10 ∨ r = 11 := by omega
  rcases h with h | h | h | h | h <;> subst h <;> simp
theorem mo_st_k {D ar S : Nat → Nat → Int32} {np nw k : Nat} (hk : k < mo_nt D) : mo_st D ar np nw S 12 k = -1 := by
  have hne : ∀ X k r i, r = 12 → i ≠ k → mo_rt0 D X k r i = X r i := fun X k r i h4 h => by
    subst h4
    unfold mo_rt0
    by_cases q : mo_gt D k
    · rw [mo_ii_y q, mo_mk_row (by decide), mo_se_ne h]
    · rw [mo_ii_n q, mo_se_ne h]
  unfold mo_st
  rw [mo_fo_at (P := fun r => r = 12) hne rfl _ k hk]
  unfold mo_rt0
  by_cases q : mo_gt D k
  · rw [mo_ii_y q, mo_mk_row (by decide)]; exact mo_se_pp
  · rw [mo_ii_n q]; exact mo_se_pp
theorem mo_st_13 {D ar S : Nat → Nat → Int32} {np nw : Nat} : mo_st D ar np nw S 13 = S 13 := by
  unfold mo_st
  rw [mo_fo_row (fun X k => mo_rt0_row (by decide) (by decide)), mo_fo_row (fun X k => by unfold mo_rw0; rw [mo_se_rw (by decide), mo_se_rw (by decide), mo_se_rw (by decide), mo_se_rw (by decide), mo_se_rw (by decide)]) nw, mo_fo_row (fun X k => by unfold mo_rp0; rw [mo_mk_row (by decide), mo_se_rw (by decide), mo_se_rw (by decide), mo_se_rw (by decide), mo_se_rw (by decide), mo_se_rw (by decide), mo_se_rw (by decide), mo_se_rw (by decide)]) np]
theorem mo_st_bz {D ar S : Nat → Nat → Int32} {np nw : Nat} (hR : mo_R D) (hL : ∀ p, p < np → 0 ≤ (D 2 p).toInt ∧ (D 2 p).toInt < 840) : mo_Bz D (mo_st D ar np nw S) np := by
  have k1 : ∀ i X k, (X 14 i).toInt ≠ 0 → (mo_rt0 D X k 14 i).toInt ≠ 0 := fun i X k h => by
    unfold mo_rt0
    by_cases q : mo_gt D k
    · rw [mo_ii_y q]; exact mo_mk_up (by rw [mo_se_rw (by decide)]; exact h)
    · rw [mo_ii_n q, mo_se_rw (by decide)]; exact h
  have k2 : ∀ i X k, (X 14 i).toInt ≠ 0 → (mo_rw0 D (ar 24) X k 14 i).toInt ≠ 0 := fun i X k h => by
    unfold mo_rw0
    rw [mo_se_rw (by decide), mo_se_rw (by decide), mo_se_rw (by decide), mo_se_rw (by decide), mo_se_rw (by decide)]; exact h
  have k3 : ∀ i X k, (X 14 i).toInt ≠ 0 → (mo_rp0 D (ar 13) (ar 12) X k 14 i).toInt ≠ 0 := fun i X k h => by
    unfold mo_rp0
    exact mo_mk_up (by rw [mo_se_rw (by decide), mo_se_rw (by decide), mo_se_rw (by decide), mo_se_rw (by decide), mo_se_rw (by decide), mo_se_rw (by decide), mo_se_rw (by decide)]; exact h)
  refine ⟨fun p hp => ?_, fun k hk hg => ?_⟩
  · unfold mo_st
    refine mo_fo_keep (Q := fun X => (X 14 (D 2 p).toInt.toNat).toInt ≠ 0) (k1 _) (mo_fo_keep (Q := fun X => (X 14 (D 2 p).toInt.toNat).toInt ≠ 0) (k2 _) (mo_fo_get (Q := fun X => (X 14 (D 2 p).toInt.toNat).toInt ≠ 0) (k3 _) (i := p) (fun X => ?_) np hp) nw) _
    unfold mo_rp0
    exact mo_mk_on (hL p hp).1 (hL p hp).2
  · unfold mo_st
    have h9 := hR.2.2.1 k
    refine mo_fo_get (Q := fun X => (X 14 (D 14 k).toInt.toNat).toInt ≠ 0) (k1 _) (i := k) (fun X => ?_) _ hk
    unfold mo_rt0
    rw [mo_ii_y hg]
    exact mo_mk_on h9.1 (by omega)
theorem mo_Q0 {D ar S T : Nat → Nat → Int32} {G : Nat → Int} {np nw : Nat} (hR : mo_R D) (hL : ∀ p, p < np → 0 ≤ (D 2 p).toInt ∧ (D 2 p).toInt < 840) (hP : ∀ p, p < np → ar 13 p = T 0 p ∧ ar 12 p = T 1 p ∧ T 16 p = D 6 p ∧ (0 ≤ (T 1 p).toInt ∧ (T 1 p).toInt ≤ 9) ∧ (0 ≤ (D 6 p).toInt ∧ (D 6 p).toInt ≤ 1000000000)) (hW : ∀ w, w < nw → ar 24 w = T 7 w) (hF : S 13 0 = T 13 0) : mo_Q D G np nw 0 0 (mo_st D ar np nw S) (mm_Ts D T np nw (mo_nt D)) := by
  refine ⟨fun p hp => ⟨?_, Or.inl ?_⟩, fun w hw => ⟨fun r h7 h11 => ?_, Or.inl ?_, Or.inl ?_⟩, fun k hk => ?_, ?_, mo_st_bz hR hL⟩
  · obtain ⟨a0, a1, a2, a3, a4⟩ := hP p hp
    have s0 := mo_st_p (D := D) (ar := ar) (S := S) (nw := nw) (r := 0) hp (by decide)
    have s1 := mo_st_p (D := D) (ar := ar) (S := S) (nw := nw) (r := 1) hp (by decide)
    have s3 := mo_st_p (D := D) (ar := ar) (S := S) (nw := nw) (r := 3) hp (by decide)
    have s4 := mo_st_p (D := D) (ar := ar) (S := S) (nw := nw) (r := 4) hp (by decide)
    have t0 := mm_Ts_p (D := D) (T := T) (nw := nw) (nt := mo_nt D) (r := 0) hp (by decide)
    have t1 := mm_Ts_p (D := D) (T := T) (nw := nw) (nt := mo_nt D) (r := 1) hp (by decide)
    have t3 := mm_Ts_p (D := D) (T := T) (nw := nw) (nt := mo_nt D) (r := 3) hp (by decide)
    have t4 := mm_Ts_p (D := D) (T := T) (nw := nw) (nt := mo_nt D) (r := 4) hp (by decide)
    have t16 := mm_Ts_p (D := D) (T := T) (nw := nw) (nt := mo_nt D) (r := 16) hp (by decide)
    simp at s0 s1 s3 s4 t0 t1 t3 t4 t16
    unfold mo_ok
    rw [s0, s1, s3, s4, t0, t1, t3, t4, t16]
    have z : (0 : Int32).toInt = 0 := by decide
    refine ⟨a0, a1, rfl, rfl, ?_, ?_, ?_, a4⟩
    · rw [a2]; exact (Int32.add_zero _).symm
    · rw [a1]; exact a3
    · omega
  · have s5 := mo_st_p (D := D) (ar := ar) (S := S) (nw := nw) (r := 5) hp (by decide)
    have s6 := mo_st_p (D := D) (ar := ar) (S := S) (nw := nw) (r := 6) hp (by decide)
    have s2 := mo_st_p (D := D) (ar := ar) (S := S) (nw := nw) (r := 2) hp (by decide)
    have t6 := mm_Ts_p (D := D) (T := T) (nw := nw) (nt := mo_nt D) (r := 6) hp (by decide)
    have t2 := mm_Ts_p (D := D) (T := T) (nw := nw) (nt := mo_nt D) (r := 2) hp (by decide)
    have t14 := mm_Ts_p (D := D) (T := T) (nw := nw) (nt := mo_nt D) (r := 14) hp (by decide)
    simp at s2 s5 s6 t2 t6 t14
    rw [s2, s5, s6, t2, t6, t14]
    exact ⟨by decide, by decide, by decide, by decide, by decide, rfl, (hL p hp).1⟩
  · have s := mo_st_w (D := D) (ar := ar) (S := S) (np := np) hw ⟨h7, h11⟩
    have t := mm_Ts_w (D := D) (T := T) (np := np) (nt := mo_nt D) hw ⟨h7, h11⟩
    rw [s, t]
    have h : r = 7 ∨ r = 8 ∨ r = 9 ∨ r = 10 ∨ r = 11 := by omega
    rcases h with h | h | h | h | h <;> subst h <;> simp
    exact hW w hw
  · have s := mo_st_w (D := D) (ar := ar) (S := S) (np := np) (r := 9) hw (by decide)
    rw [s, if_neg (by decide), if_neg (by decide), if_pos rfl]; decide
  · have s := mo_st_w (D := D) (ar := ar) (S := S) (np := np) (r := 11) hw (by decide)
    rw [s, if_neg (by decide), if_neg (by decide), if_neg (by decide), if_neg (by decide)]; decide
  · rw [mo_st_k hk, mm_Ts_k hk]
  · rw [mo_st_13, mm_Ts_13]; exact hF
theorem mo_all {D ar S T : Nat → Nat → Int32} {G : Nat → Int} {A : Nat → Nat → Int → Int → Int32} {np nw : Nat} (hR : mo_R D) (hG : mo_GR G) (hA : mo_HA D A) (hnt : (mo_nt D : Int) ≤ 80) (hwh : mo_wh D) (hnw : (D 19 1).toInt = (nw : Int)) (hL : ∀ p, p < np → 0 ≤ (D 2 p).toInt ∧ (D 2 p).toInt < 840) (hP : ∀ p, p < np → ar 13 p = T 0 p ∧ ar 12 p = T 1 p ∧ T 16 p = D 6 p ∧ (0 ≤ (T 1 p).toInt ∧ (T 1 p).toInt ≤ 9) ∧ (0 ≤ (D 6 p).toInt ∧ (D 6 p).toInt ≤ 1000000000)) (hW : ∀ w, w < nw → ar 24 w = T 7 w) (hF : S 13 0 = T 13 0) {SE TE : Nat → Nat → Int32} (hS : SE = mo_xd D G A np nw (mo_st D ar np nw S) 840) (hT : TE = mo_md D G A np nw (mm_Ts D T np nw (mo_nt D)) 840) : (∀ p, p < np → SE 0 p = TE 0 p ∧ SE 1 p = TE 1 p ∧ SE 2 p = TE 2 p ∧ SE 3 p = TE 3 p ∧ SE 4 p = TE 4 p ∧ TE 16 p = D 6 p + SE 3 p) ∧ (∀ w, w < nw → ∀ r, 7 ≤ r → r ≤ 11 → SE r w = TE r w) ∧ (∀ k, k < mo_nt D → SE 12 k = TE 12 k) ∧ SE 13 0 = TE 13 0 ∧ mo_ot D SE np = mo_ot D TE np ∧ mo_sm np nw (mo_nt D) T TE ∧ (∀ p, p < np → (0 ≤ (TE 1 p).toInt ∧ (TE 1 p).toInt ≤ 9) ∧ 0 ≤ (SE 3 p).toInt ∧ (SE 3 p).toInt ≤ 2744280) := by
  have hQ := mo_day (A := A) hR hG hA hnt hwh hnw (mo_Q0 (G := G) hR hL hP hW hF) 840 (Nat.le_refl _)
  rw [show mo_xd D G A np nw (mo_st D ar np nw S) 840 = SE from hS.symm, show mo_md D G A np nw (mm_Ts D T np nw (mo_nt D)) 840 = TE from hT.symm] at hQ
  have hw : ∀ t, t < mo_nt D → mo_w D t < nw := fun t ht => by have := hwh t ht; unfold mo_w; omega
  have he : ∀ p, p < np → SE 0 p = TE 0 p ∧ SE 1 p = TE 1 p ∧ SE 2 p = TE 2 p ∧ SE 3 p = TE 3 p ∧ SE 4 p = TE 4 p ∧ TE 16 p = D 6 p + SE 3 p := fun p hp => mo_end hQ hp
  refine ⟨he, fun w hw r h7 h11 => (hQ.2.1 w hw).1 r h7 h11, hQ.2.2.1, hQ.2.2.2.1, ?_, ?_, fun p hp => ?_⟩
  · have key : ∀ n, n ≤ np → mo_ot D SE n = mo_ot D TE n := by
      intro n
      induction n with
      | zero => intro _; rfl
      | succ n ih =>
        intro hn
        show (if (SE 2 n).toInt ≠ -1 ∧ (SE 2 n).toInt ≤ (D 3 n).toInt then mo_ot D SE n + 1 else mo_ot D SE n) = (if (TE 2 n).toInt ≠ -1 ∧ (TE 2 n).toInt ≤ (D 3 n).toInt then mo_ot D TE n + 1 else mo_ot D TE n)
        rw [(he n (by omega)).2.2.1, ih (by omega)]
    exact key np (Nat.le_refl _)
  · rw [hT]; exact mo_sm_tr mo_sm_Ts (mo_sm_md hw 840)
  · have h9 := (hQ.1 p hp).1
    unfold mo_ok at h9
    obtain ⟨_, a1, _, _, _, a5, a6, _⟩ := h9
    rw [a1] at a5
    exact ⟨a5, a6.1, by omega⟩

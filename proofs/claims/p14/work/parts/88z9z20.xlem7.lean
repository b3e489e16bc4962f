theorem mx_R_22 {fv f1 : Nat → Int32} {ar : Nat → Nat → Int32} {a : Int32} (h : mx_R fv ar) (e : f1 = upd fv 22 a) : mx_R f1 ar := by
  subst e
  obtain ⟨h1, h2, h3⟩ := h
  refine ⟨?_, h2, h3⟩
  obtain ⟨a1, a2, a3, a4, a5, a6, a7⟩ := h1
  exact ⟨a1, a2, a3, a4, a5, a6, a7⟩
noncomputable def mo_st (D : Nat → Nat → Int32) (ar : Nat → Nat → Int32) (np nw : Nat) (S : Nat → Nat → Int32) : Nat → Nat → Int32 := mo_fo (mo_rt0 D) (mo_fo (mo_rw0 D (ar 24)) (mo_fo (mo_rp0 D (ar 13) (ar 12)) S np) nw) (mo_nt D)
theorem mo_xd_s {D : Nat → Nat → Int32} {G : Nat → Int} {A : Nat → Nat → Int → Int → Int32} {np nw n : Nat} {S S1 : Nat → Nat → Int32} (h : S1 = mo_xd D G A np nw S n) (hb : (S1 14 n).toInt = 0) : S1 = mo_xd D G A np nw S (n + 1) := by
  show S1 = mo_xm D G A np nw n (mo_xd D G A np nw S n)
  unfold mo_xm
  rw [← h, if_pos hb]
theorem mo_xd_b {D : Nat → Nat → Int32} {G : Nat → Int} {A : Nat → Nat → Int → Int → Int32} {np nw n : Nat} {S S1 S2 S3 S4 S5 : Nat → Nat → Int32} (h : S1 = mo_xd D G A np nw S n) (hb : (S1 14 n).toInt ≠ 0) (h2 : S2 = mo_fo (mo_xl2 (n : Int)) (mo_fo (mo_xl1 D G (n : Int)) S1 np) nw) (h3 : S3 = mo_fo (mo_xh1 D G (n : Int)) S2 np) (h4 : S4 = mo_fo (mo_xt1 D G A np (n : Int)) S3 (mo_nt D)) (h5 : S5 = mo_fo (mo_xa1 D G (n : Int)) S4 np) : S5 = mo_xd D G A np nw S (n + 1) := by
  show S5 = mo_xm D G A np nw n (mo_xd D G A np nw S n)
  unfold mo_xm
  rw [← h, if_neg hb, h5, h4, h3, h2]
  rfl
theorem mx_R_set {M N : List Nat} {f f1 : Nat → Int32} {a a1 : Nat → Nat → Int32} (h : mx_R f a) (hf : fM M f f1) (ha : fA N a a1) (hM : ([5, 7] : List Nat).all (fun k => !M.contains k) = true) (hN : ([2, 3, 5, 6, 7, 10, 11, 14, 31, 34] : List Nat).all (fun k => !N.contains k) = true) : mx_R f1 a1 := by
  have kk : ∀ k, k ∈ ([2, 3, 5, 6, 7, 10, 11, 14, 31, 34] : List Nat) → a1 k = a k := fun k hk => ha k (mx_nin hN hk)
  have ff : ∀ k, k ∈ ([5, 7] : List Nat) → f1 k = f k := fun k hk => hf k (mx_nin hM hk)
  obtain ⟨⟨b1, b2, b3, b4, b5, b6, b7⟩, g, c1, c2⟩ := h
  refine ⟨⟨?_, ?_, ?_, ?_, ?_, ?_, ?_⟩, ?_, ?_, ?_⟩
  · show ∀ i, 0 ≤ (a1 2 i).toInt ∧ (a1 2 i).toInt ≤ 11
    rw [kk 2 (by decide)]; exact b1
  · show ∀ i, 0 ≤ (a1 7 i).toInt ∧ (a1 7 i).toInt ≤ 11
    rw [kk 7 (by decide)]; exact b2
  · show ∀ i, 0 ≤ (a1 31 i).toInt ∧ (a1 31 i).toInt ≤ 719
    rw [kk 31 (by decide)]; exact b3
  · show ∀ i, 0 ≤ (a1 6 i).toInt ∧ (a1 6 i).toInt ≤ 11
    rw [kk 6 (by decide)]; exact b4
  · show ∀ i, 0 ≤ (a1 11 i).toInt ∧ (a1 11 i).toInt ≤ 99
    rw [kk 11 (by decide)]; exact b5
  · show ∀ i, 0 ≤ (a1 10 i).toInt ∧ (a1 10 i).toInt ≤ 719
    rw [kk 10 (by decide)]; exact b6
  · show 0 ≤ (mx_rn f1 a1).toInt ∧ (mx_rn f1 a1).toInt ≤ 9
    unfold mx_rn
    rw [ff 5 (by decide), ff 7 (by decide), kk 3 (by decide)]; exact b7
  · show mo_GR (fun i => (a1 5 i).toInt)
    rw [kk 5 (by decide)]; exact g
  · show ∀ i, 0 ≤ (a1 34 i).toInt ∧ (a1 34 i).toInt ≤ 199
    rw [kk 34 (by decide)]; exact c1
  · show ∀ i, 0 ≤ (a1 14 i).toInt ∧ (a1 14 i).toInt ≤ 9
    rw [kk 14 (by decide)]; exact c2
theorem mx_f0 {f f1 : Nat → Int32} (h : fM [] f f1) : f1 = f := funext (fun k => h k rfl)
theorem mx_a0 {a a1 : Nat → Nat → Int32} (h : fA [] a a1) : a1 = a := funext (fun k => h k rfl)

def mx_ev (fv : Nat → Int32) (ar : Nat → Nat → Int32) : Prop := ∀ i, 0 ≤ (ar 19 i).toInt ∧ (ar 19 i).toInt ≤ ((fv 3).toInt + 1) * 2744280
def mx_ld (fv : Nat → Int32) : Prop := -1 ≤ (fv 3).toInt ∧ (fv 3).toInt ≤ (fv 7).toInt
def mx_iv (fv : Nat → Int32) (ar : Nat → Nat → Int32) (D : (Nat → Int32 × List (Int × Int × List (Nat × Nat × Int)))) : Prop := mx_rg fv ar ∧ mx_f01 ar ∧ mx_ev fv ar ∧ mx_ld fv ∧ cd_DV (fv 30).toInt D
theorem mx_iv_f {M N : List Nat} {f f1 : Nat → Int32} {a a1 : Nat → Nat → Int32} {D : (Nat → Int32 × List (Int × Int × List (Nat × Nat × Int)))} (h : mx_iv f a D) (hf : fM M f f1) (ha : fA N a a1) (h01 : mx_f01 a1) (hM : ([3, 7, 11, 12, 30] : List Nat).all (fun k => !M.contains k) = true) (hN : ([31, 10, 11, 34, 14, 9, 12, 3, 28, 19] : List Nat).all (fun k => !N.contains k) = true) : mx_iv f1 a1 D := by
  obtain ⟨h1, _, h3, h4, h5⟩ := h
  refine ⟨?_, h01, ?_, ?_, ?_⟩
  · unfold mx_rg
    rw [hf 11 (mm_nin hM (by decide)), hf 12 (mm_nin hM (by decide)), ha 31 (mm_nin hN (by decide)), ha 10 (mm_nin hN (by decide)), ha 11 (mm_nin hN (by decide)), ha 34 (mm_nin hN (by decide)), ha 14 (mm_nin hN (by decide)), ha 9 (mm_nin hN (by decide)), ha 12 (mm_nin hN (by decide)), ha 3 (mm_nin hN (by decide)), ha 28 (mm_nin hN (by decide))]
    exact h1
  · unfold mx_ev
    rw [hf 3 (mm_nin hM (by decide)), ha 19 (mm_nin hN (by decide))]; exact h3
  · unfold mx_ld
    rw [hf 3 (mm_nin hM (by decide)), hf 7 (mm_nin hM (by decide))]; exact h4
  · rw [hf 30 (mm_nin hM (by decide))]; exact h5
theorem mx_iv_fr {M N : List Nat} {f f1 : Nat → Int32} {a a1 : Nat → Nat → Int32} {D : (Nat → Int32 × List (Int × Int × List (Nat × Nat × Int)))} (h : mx_iv f a D) (hf : fM M f f1) (ha : fA N a a1) (hM : ([3, 7, 11, 12, 30] : List Nat).all (fun k => !M.contains k) = true) (hN : ([31, 10, 11, 34, 14, 9, 12, 3, 28, 19] : List Nat).all (fun k => !N.contains k) = true) (h4 : N.contains 4 = false) : mx_iv f1 a1 D := mx_iv_f h hf ha (mx_f01_fr h.2.1 ha h4) hM hN
theorem mx_iv_next {f f1 : Nat → Int32} {a a1 : Nat → Nat → Int32} {D : (Nat → Int32 × List (Int × Int × List (Nat × Nat × Int)))} {r n : Int32} (h : mx_iv f a D) (hX : rX f) (hf : fM [7] f f1) (ha : fA [] a a1) (hp : (r = -1 ∧ f1 7 = f 7 ∧ (n.toInt < 0 ∨ 199 < n.toInt ∨ 199 < (f 7).toInt + n.toInt)) ∨ (r = f 7 + n ∧ f1 7 = f 7 + n ∧ ¬ (n.toInt < 0 ∨ 199 < n.toInt ∨ 199 < (f 7).toInt + n.toInt))) : mx_iv f1 a1 D := by
  have h7 : (f 7).toInt ≤ (f1 7).toInt := by
    rcases hp with ⟨_, e, _⟩ | ⟨_, e, c⟩
    · rw [e]; exact Int.le_refl _
    · have q : 0 ≤ (f 7).toInt ∧ (f 7).toInt ≤ 199 := hX 7
      rw [e, Int32.toInt_add, iv_bm (by omega) (by omega)]; omega
  obtain ⟨h1, h2, h3, h4, h5⟩ := h
  refine ⟨mx_rg_fr h1 hf ha rfl rfl, mx_f01_fr h2 ha rfl, ?_, ?_, ?_⟩
  · unfold mx_ev
    rw [hf 3 rfl, ha 19 rfl]; exact h3
  · unfold mx_ld at h4 ⊢
    rw [hf 3 rfl]; omega
  · rw [hf 30 rfl]; exact h5
theorem rg_rn {d t : Nat → Int32} : ∀ n : Nat, (∀ i, 0 ≤ (d i).toInt ∧ (d i).toInt ≤ 9) → (∀ j : Nat, (j : Int) < (n : Int) → 0 ≤ (t j).toInt ∧ ((t j).toInt ≤ 9 ∨ (t j).toInt = 255)) → ∀ i, 0 ≤ (wt_rn n d t i).toInt ∧ (wt_rn n d t i).toInt ≤ 9
  | 0, hd, _ => hd
  | n + 1, hd, ht => by
    have ih := rg_rn n hd (fun j hj => ht j (by omega))
    intro i
    have e : wt_rn (n + 1) d t = upd (wt_rn n d t) n (if (t n).toInt = 255 then (if n = 0 then 0 else wt_rn n d t (n - 1)) else t n) := rfl
    rw [e]
    show 0 ≤ (if i = n then (if (t n).toInt = 255 then (if n = 0 then 0 else wt_rn n d t (n - 1)) else t n) else wt_rn n d t i).toInt ∧ (if i = n then (if (t n).toInt = 255 then (if n = 0 then 0 else wt_rn n d t (n - 1)) else t n) else wt_rn n d t i).toInt ≤ 9
    by_cases q : i = n
    · rw [if_pos q]
      by_cases q2 : (t n).toInt = 255
      · rw [if_pos q2]
        by_cases q3 : n = 0
        · rw [if_pos q3]; decide
        · rw [if_neg q3]; exact ih _
      · rw [if_neg q2]
        have h9 := ht n (by omega)
        omega
    · rw [if_neg q]; exact ih i
theorem mx_iv_rain {f f1 : Nat → Int32} {a a1 : Nat → Nat → Int32} {D : (Nat → Int32 × List (Int × Int × List (Nat × Nat × Int)))} {r : Int32} (h : mx_iv f a D) (hB : rB a) (hf : fM [0, 5] f f1) (ha : fA [3] a a1) (hp : wt_rain r (f1 5) (f 5) (f 0) (a1 3) (a 3) (a 1)) : mx_iv f1 a1 D := by
  obtain ⟨⟨a1_, a2, a3, a4, a5, a6, a7, a8, a9⟩, h2, h3, h4, h5⟩ := h
  refine ⟨⟨?_, ?_, ?_, ?_, ?_, ?_, ?_, ?_, ?_⟩, mx_f01_fr h2 ha rfl, ?_, ?_, ?_⟩
  · rw [ha 31 rfl]; exact a1_
  · rw [ha 10 rfl]; exact a2
  · rw [ha 11 rfl]; exact a3
  · rw [ha 34 rfl]; exact a4
  · rw [ha 14 rfl]; exact a5
  · rw [ha 9 rfl]; exact a6
  · rw [ha 12 rfl]; exact a7
  · rcases hp with ⟨_, _, e, _⟩ | ⟨_, _, e, c⟩
    · rw [e]; exact a8
    · rw [e]
      refine rg_rn _ a8 (fun j hj => ?_)
      have q : 0 ≤ (a 1 j).toInt ∧ (a 1 j).toInt ≤ 255 := hB 1 j
      have c2 := c.2.2 j (by have := c.1; omega)
      omega
  · rw [hf 12 rfl, hf 11 rfl, ha 28 rfl]; exact a9
  · unfold mx_ev
    rw [hf 3 rfl, ha 19 rfl]; exact h3
  · unfold mx_ld
    rw [hf 3 rfl, hf 7 rfl]; exact h4
  · rw [hf 30 rfl]; exact h5
theorem wt_pr_nn {a : Nat → Nat → Int32} (hB : rB a) (k : Nat) : 0 ≤ wt_pr (a 1) k := by
  have h1 : 0 ≤ (a 1 (2 * k)).toInt ∧ (a 1 (2 * k)).toInt ≤ 255 := hB 1 _
  have h2 : 0 ≤ (a 1 (2 * k + 1)).toInt ∧ (a 1 (2 * k + 1)).toInt ≤ 255 := hB 1 _
  unfold wt_pr; omega
theorem mx_iv_person {f f1 : Nat → Int32} {a a1 : Nat → Nat → Int32} {D : (Nat → Int32 × List (Int × Int × List (Nat × Nat × Int)))} {r x y v : Int32} (h : mx_iv f a D) (hX : rX f) (hB : rB a) (hf : fM [0, 10] f f1) (ha : fA [6, 7, 8, 9, 10, 11, 12, 13, 14, 15] a a1) (hp : wt_person r (f1 10) (f 10) (f 0) (a 1) x y v) (r9 : wt_rv r (a1 9) (a 9) (f 10) (wt_pr (a 1) 0)) (r10 : wt_rv r (a1 10) (a 10) (f 10) (wt_pr (a 1) 1)) (r11 : wt_rv r (a1 11) (a 11) (f 10) (wt_pr (a 1) 2)) (r12 : wt_rv r (a1 12) (a 12) (f 10) (wt_pr (a 1) 3)) (r14 : wt_rv r (a1 14) (a 14) (f 10) (wt_pr (a 1) 5)) : mx_iv f1 a1 D := by
  obtain ⟨⟨a1_, a2, a3, a4, a5, a6, a7, a8, a9⟩, h2, h3, h4, h5⟩ := h
  have key : 0 ≤ r.toInt → wt_pr (a 1) 0 ≤ 600 ∧ wt_pr (a 1) 1 ≤ 719 ∧ wt_pr (a 1) 2 ≤ 99 ∧ wt_pr (a 1) 3 ≤ 9 ∧ wt_pr (a 1) 5 ≤ 9 := by
    intro q
    rcases hp with ⟨e, _⟩ | ⟨_, _, c⟩
    · rw [e] at q; exact absurd q (by decide)
    · refine ⟨?_, ?_, ?_, ?_, ?_⟩ <;> (refine Int.not_lt.mp (fun w => c ?_)) <;> simp [w]
  refine ⟨⟨?_, ?_, ?_, ?_, ?_, ?_, ?_, ?_, ?_⟩, mx_f01_fr h2 ha rfl, ?_, ?_, ?_⟩
  · rw [ha 31 rfl]; exact a1_
  · exact rg_rv a2 r10 (fun q => ⟨wt_pr_nn hB 1, (key q).2.1⟩)
  · exact rg_rv a3 r11 (fun q => ⟨wt_pr_nn hB 2, (key q).2.2.1⟩)
  · rw [ha 34 rfl]; exact a4
  · exact rg_rv a5 r14 (fun q => ⟨wt_pr_nn hB 5, (key q).2.2.2.2⟩)
  · exact rg_rv a6 r9 (fun q => ⟨wt_pr_nn hB 0, (key q).1⟩)
  · exact rg_rv a7 r12 (fun q => ⟨wt_pr_nn hB 3, (key q).2.2.2.1⟩)
  · rw [ha 3 rfl]; exact a8
  · rw [hf 12 rfl, hf 11 rfl, ha 28 rfl]; exact a9
  · unfold mx_ev
    rw [hf 3 rfl, ha 19 rfl]; exact h3
  · unfold mx_ld
    rw [hf 3 rfl, hf 7 rfl]; exact h4
  · rw [hf 30 rfl]; exact h5
theorem mx_iv_wheel {f f1 : Nat → Int32} {a a1 : Nat → Nat → Int32} {D : (Nat → Int32 × List (Int × Int × List (Nat × Nat × Int)))} {r x y v d : Int32} (h : mx_iv f a D) (hf : fM [11] f f1) (ha : fA [20, 21, 22, 23, 27] a a1) (hp : ps_wheel r (f1 11) (f 11) (f 4) x y v d) : mx_iv f1 a1 D := by
  obtain ⟨⟨a1_, a2, a3, a4, a5, a6, a7, a8, a9⟩, h2, h3, h4, h5⟩ := h
  have h11 : (f 11).toInt ≤ (f1 11).toInt := by
    rcases hp with ⟨_, e, _⟩ | ⟨_, e, _⟩
    · rw [e]; exact Int.le_refl _
    · omega
  refine ⟨⟨?_, ?_, ?_, ?_, ?_, ?_, ?_, ?_, ?_⟩, mx_f01_fr h2 ha rfl, ?_, ?_, ?_⟩
  · rw [ha 31 rfl]; exact a1_
  · rw [ha 10 rfl]; exact a2
  · rw [ha 11 rfl]; exact a3
  · rw [ha 34 rfl]; exact a4
  · rw [ha 14 rfl]; exact a5
  · rw [ha 9 rfl]; exact a6
  · rw [ha 12 rfl]; exact a7
  · rw [ha 3 rfl]; exact a8
  · intro k hk
    rw [hf 12 rfl] at hk
    have q := a9 k hk
    rw [ha 28 rfl]
    exact ⟨q.1, Int.lt_of_lt_of_le q.2 h11⟩
  · unfold mx_ev
    rw [hf 3 rfl, ha 19 rfl]; exact h3
  · unfold mx_ld
    rw [hf 3 rfl, hf 7 rfl]; exact h4
  · rw [hf 30 rfl]; exact h5
theorem mx_iv_trip {f f1 : Nat → Int32} {a a1 : Nat → Nat → Int32} {D : (Nat → Int32 × List (Int × Int × List (Nat × Nat × Int)))} {r x y v d g e : Int32} (h : mx_iv f a D) (hX : rX f) (hf : fM [12] f f1) (ha : fA [28, 29, 30, 31, 32, 33, 34, 35] a a1) (hp : ps_trip r (f1 12) (f 12) (f 11) (f 4) (f 7) x y v d g e) (r28 : wt_ru r (a1 28) (a 28) (f 12) x) (r31 : wt_ru r (a1 31) (a 31) (f 12) d) (r34 : wt_ru r (a1 34) (a 34) (f 12) (f 7)) : mx_iv f1 a1 D := by
  obtain ⟨⟨a1_, a2, a3, a4, a5, a6, a7, a8, a9⟩, h2, h3, h4, h5⟩ := h
  have x12 : 0 ≤ (f 12).toInt ∧ (f 12).toInt ≤ 80 := hX 12
  have x7 : 0 ≤ (f 7).toInt ∧ (f 7).toInt ≤ 199 := hX 7
  have key : (r.toInt < 0 ∧ f1 12 = f 12) ∨ (0 ≤ r.toInt ∧ (f1 12).toInt = (f 12).toInt + 1 ∧ 0 ≤ x.toInt ∧ x.toInt < (f 11).toInt ∧ 0 ≤ d.toInt ∧ d.toInt ≤ 719) := by
    rcases hp with ⟨e1, e2, _⟩ | ⟨e1, e2, c⟩
    · exact Or.inl ⟨by rw [e1]; decide, e2⟩
    · refine Or.inr ⟨by omega, e2, ?_, ?_, ?_, ?_⟩
      · exact Int.not_lt.mp (fun w => c (by simp [w]))
      · exact Int.not_le.mp (fun w => c (by simp [w]))
      · exact Int.not_lt.mp (fun w => c (by simp [w]))
      · exact Int.not_lt.mp (fun w => c (by simp [w]))
  have hd : 0 ≤ r.toInt → 0 ≤ d.toInt ∧ d.toInt ≤ 719 := by
    intro q
    rcases key with ⟨w, _⟩ | ⟨_, _, _, _, k1, k2⟩
    · omega
    · exact ⟨k1, k2⟩
  refine ⟨⟨?_, ?_, ?_, ?_, ?_, ?_, ?_, ?_, ?_⟩, mx_f01_fr h2 ha rfl, ?_, ?_, ?_⟩
  · exact rg_ru a1_ r31 hd
  · rw [ha 10 rfl]; exact a2
  · rw [ha 11 rfl]; exact a3
  · exact rg_ru a4 r34 (fun _ => x7)
  · rw [ha 14 rfl]; exact a5
  · rw [ha 9 rfl]; exact a6
  · rw [ha 12 rfl]; exact a7
  · rw [ha 3 rfl]; exact a8
  · intro k hk
    rw [hf 11 rfl]
    rcases r28 with ⟨c1, e1⟩ | ⟨c1, e1⟩
    · rw [e1]
      rcases key with ⟨_, w⟩ | ⟨w, _⟩
      · rw [w] at hk; exact a9 k hk
      · omega
    · rw [e1]
      show 0 ≤ (if k = (f 12).toInt.toNat then x else a 28 k).toInt ∧ (if k = (f 12).toInt.toNat then x else a 28 k).toInt < (f 11).toInt
      rcases key with ⟨w, _⟩ | ⟨_, w, k1, k2, _⟩
      · omega
      · by_cases q : k = (f 12).toInt.toNat
        · rw [if_pos q]; exact ⟨k1, k2⟩
        · rw [if_neg q]; exact a9 k (by omega)
  · unfold mx_ev
    rw [hf 3 rfl, ha 19 rfl]; exact h3
  · unfold mx_ld
    rw [hf 3 rfl, hf 7 rfl]; exact h4
  · rw [hf 30 rfl]; exact h5
theorem mx_iv_bylaw {f f1 : Nat → Int32} {a a1 : Nat → Nat → Int32} {D : (Nat → Int32 × List (Int × Int × List (Nat × Nat × Int)))} {x : Int32} {b : Nat → Int} {k : Nat} (h : mx_iv f a D) (hX : rX f) (hf : fM [0, 2, 13, 14, 15, 16, 17, 18, 19, 20, 29, 30] f f1) (ha : fA [36, 37, 38, 39, 40, 41, 42, 43] a a1) (hn : (f1 30).toInt = (f 30).toInt ∨ (f1 30).toInt = (f 30).toInt + 1) : mx_iv f1 a1 (cd_up D (f 30).toInt (f1 30).toInt (x, cd_txt (rd_T b k) (rd_N b k))) := by
  have x30 : 0 ≤ (f 30).toInt ∧ (f 30).toInt ≤ 10 := hX 30
  obtain ⟨h1, h2, h3, h4, h5⟩ := h
  refine ⟨mx_rg_fr h1 hf ha rfl rfl, mx_f01_fr h2 ha rfl, ?_, ?_, cd_DV_up h5 hn x30.1⟩
  · unfold mx_ev
    rw [hf 3 rfl, ha 19 rfl]; exact h3
  · unfold mx_ld
    rw [hf 3 rfl, hf 7 rfl]; exact h4
theorem rd_by_n {T S : Nat → Nat} {N : Nat → Int} {r f1 f0 b1 b0 td d : Int32} (h : rd_by T S N r f1 f0 b1 b0 td d) : b1.toInt = b0.toInt ∨ b1.toInt = b0.toInt + 1 := by
  rcases h with ⟨_, _, _, e⟩ | ⟨_, ⟨_, _, _, e⟩ | ⟨_, _, _, e⟩⟩
  · exact Or.inl (by rw [e])
  · exact Or.inr e
  · exact Or.inl (by rw [e])
def mx_moX (fv : Nat → Int32) (ar : Nat → Nat → Int32) (r : Int32) (u1 : Nat → Int32) (ux : Nat → Nat → Int32) (W : List (Int × Int × List (Nat × Nat × Int))) : Prop := (((fv 3).toInt = (fv 7).toInt ∧ r = -1 ∧ u1 = fv ∧ ux = ar) ∨ (¬ ((fv 3).toInt = (fv 7).toInt) ∧ u1 3 = fv 7 ∧ ∃ (fL : Nat → Int32) (aL : Nat → Nat → Int32) (S9 : Nat → Nat → Int32), fM [3, 6, 22, 23, 24] fv fL ∧ fA [4, 44, 45, 46, 47, 48, 49, 50, 51, 52, 53, 54, 55, 56, 57, 58, 59, 60, 61, 62, 63, 64] ar aL ∧ fL 22 = -1 ∧ S9 13 0 = fv 8 ∧ mx_S fL aL = mo_xd (mx_D fL aL) (mx_G ar) (mo_A (mx_D fL aL) W) ((fv 10).toInt.toNat) ((fv 11).toInt.toNat) (mo_st (mx_D fL aL) ar ((fv 10).toInt.toNat) ((fv 11).toInt.toNat) S9) 840 ∧ r.toInt = mo_ot (mx_D fL aL) (mx_S fL aL) ((fv 10).toInt.toNat) ∧ mx_sp aL ux (mo_dkv (cd_f (aL 4)) W) ((fv 10).toInt.toNat) ∧ mx_c1 (aL 51) (aL 24) (ux 24) ((fv 11).toInt.toNat) ∧ mx_c1 (aL 52) (aL 25) (ux 25) ((fv 11).toInt.toNat) ∧ mx_c1 (aL 53) (aL 26) (ux 26) ((fv 11).toInt.toNat) ∧ mx_c1 (aL 54) (aL 27) (ux 27) ((fv 11).toInt.toNat) ∧ mx_c1 (aL 56) (aL 35) (ux 35) ((fv 12).toInt.toNat) ∧ u1 8 = fL 23))
def mx_trX (fv : Nat → Int32) (ar : Nat → Nat → Int32) (a r : Int32) (u1 : Nat → Int32) (ux : Nat → Nat → Int32) (W : List (Int × Int × List (Nat × Nat × Int))) : Prop := (((a.toInt < 0 ∨ (fv 11).toInt ≤ a.toInt ∨ (fv 3).toInt = (fv 7).toInt) ∧ r = -1 ∧ u1 = fv ∧ ux = ar) ∨ (¬ (a.toInt < 0 ∨ (fv 11).toInt ≤ a.toInt ∨ (fv 3).toInt = (fv 7).toInt) ∧ u1 22 = a ∧ r.toInt = mo_ot (mx_D u1 ux) (mx_S u1 ux) ((fv 10).toInt.toNat) ∧ ∃ S9 : Nat → Nat → Int32, S9 13 0 = fv 8 ∧ mx_S u1 ux = mo_xd (mx_D u1 ux) (mx_G ar) (mo_A (mx_D u1 ux) W) ((fv 10).toInt.toNat) ((fv 11).toInt.toNat) (mo_st (mx_D u1 ux) ar ((fv 10).toInt.toNat) ((fv 11).toInt.toNat) S9) 840))
def mm_moM (gv : Nat → Int32) (gr : Nat → Nat → Int32) (r : Int32) (g1 : Nat → Int32) (gu : Nat → Nat → Int32) (G9 : Nat → Int) (w9 : Nat → Int32) : Prop := (((gv 86).toInt = (gv 3).toInt ∧ r = -1 ∧ gu = gr ∧ g1 36 = gv 36 ∧ g1 86 = gv 86) ∨ (¬ (gv 86).toInt = (gv 3).toInt ∧ g1 86 = gv 3 ∧ (∀ r9 : Nat, r9 ≠ 0 → mm_T g1 gu r9 = (mo_md (mm_D w9 (upd gv 84 (-1 : Int32)) gr) G9 (mo_A (mm_D w9 (upd gv 84 (-1 : Int32)) gr) (mm_W gv gr)) ((gv 32).toInt.toNat) ((gv 34).toInt.toNat) (mm_Ts (mm_D w9 (upd gv 84 (-1 : Int32)) gr) (mm_T gv gr) ((gv 32).toInt.toNat) ((gv 34).toInt.toNat) ((gv 35).toInt.toNat)) 840) r9) ∧ (∀ i9 : Nat, gu 73 i9 = (if i9 < ((gv 32).toInt.toNat) then mo_late ((mo_md (mm_D w9 (upd gv 84 (-1 : Int32)) gr) G9 (mo_A (mm_D w9 (upd gv 84 (-1 : Int32)) gr) (mm_W gv gr)) ((gv 32).toInt.toNat) ((gv 34).toInt.toNat) (mm_Ts (mm_D w9 (upd gv 84 (-1 : Int32)) gr) (mm_T gv gr) ((gv 32).toInt.toNat) ((gv 34).toInt.toNat) ((gv 35).toInt.toNat)) 840) 2 i9) (gr 13 i9) else gr 73 i9) ∧ gu 16 i9 = (if i9 < ((gv 32).toInt.toNat) then mo_pur ((mo_md (mm_D w9 (upd gv 84 (-1 : Int32)) gr) G9 (mo_A (mm_D w9 (upd gv 84 (-1 : Int32)) gr) (mm_W gv gr)) ((gv 32).toInt.toNat) ((gv 34).toInt.toNat) (mm_Ts (mm_D w9 (upd gv 84 (-1 : Int32)) gr) (mm_T gv gr) ((gv 32).toInt.toNat) ((gv 34).toInt.toNat) ((gv 35).toInt.toNat)) 840) 0 i9) (mo_wage (mm_dk gv gr) (gr 11 i9) (mo_late ((mo_md (mm_D w9 (upd gv 84 (-1 : Int32)) gr) G9 (mo_A (mm_D w9 (upd gv 84 (-1 : Int32)) gr) (mm_W gv gr)) ((gv 32).toInt.toNat) ((gv 34).toInt.toNat) (mm_Ts (mm_D w9 (upd gv 84 (-1 : Int32)) gr) (mm_T gv gr) ((gv 32).toInt.toNat) ((gv 34).toInt.toNat) ((gv 35).toInt.toNat)) 840) 2 i9) (gr 13 i9))) else (mo_md (mm_D w9 (upd gv 84 (-1 : Int32)) gr) G9 (mo_A (mm_D w9 (upd gv 84 (-1 : Int32)) gr) (mm_W gv gr)) ((gv 32).toInt.toNat) ((gv 34).toInt.toNat) (mm_Ts (mm_D w9 (upd gv 84 (-1 : Int32)) gr) (mm_T gv gr) ((gv 32).toInt.toNat) ((gv 34).toInt.toNat) ((gv 35).toInt.toNat)) 840) 0 i9)) ∧ mm_cp (gr 81) ((mo_md (mm_D w9 (upd gv 84 (-1 : Int32)) gr) G9 (mo_A (mm_D w9 (upd gv 84 (-1 : Int32)) gr) (mm_W gv gr)) ((gv 32).toInt.toNat) ((gv 34).toInt.toNat) (mm_Ts (mm_D w9 (upd gv 84 (-1 : Int32)) gr) (mm_T gv gr) ((gv 32).toInt.toNat) ((gv 34).toInt.toNat) ((gv 35).toInt.toNat)) 840) 12) (gu 81) ((gv 35).toInt.toNat) ∧ r.toInt = mo_ot (mm_D w9 (upd gv 84 (-1 : Int32)) gr) (mo_md (mm_D w9 (upd gv 84 (-1 : Int32)) gr) G9 (mo_A (mm_D w9 (upd gv 84 (-1 : Int32)) gr) (mm_W gv gr)) ((gv 32).toInt.toNat) ((gv 34).toInt.toNat) (mm_Ts (mm_D w9 (upd gv 84 (-1 : Int32)) gr) (mm_T gv gr) ((gv 32).toInt.toNat) ((gv 34).toInt.toNat) ((gv 35).toInt.toNat)) 840) ((gv 32).toInt.toNat)))
def mm_trM (gv : Nat → Int32) (gr : Nat → Nat → Int32) (a r : Int32) (g1 : Nat → Int32) (gu : Nat → Nat → Int32) (G9 : Nat → Int) (w9 : Nat → Int32) : Prop := (((a.toInt < 0 ∨ (gv 34).toInt ≤ a.toInt ∨ (gv 86).toInt = (gv 3).toInt) ∧ r = -1 ∧ gu = gr ∧ g1 36 = gv 36) ∨ (¬ (a.toInt < 0 ∨ (gv 34).toInt ≤ a.toInt ∨ (gv 86).toInt = (gv 3).toInt) ∧ r.toInt = mo_ot (mm_D w9 (upd gv 84 a) gr) (mo_md (mm_D w9 (upd gv 84 a) gr) G9 (mo_A (mm_D w9 (upd gv 84 a) gr) (mm_W gv gr)) ((gv 32).toInt.toNat) ((gv 34).toInt.toNat) (mm_Ts (mm_D w9 (upd gv 84 a) gr) (mm_T gv gr) ((gv 32).toInt.toNat) ((gv 34).toInt.toNat) ((gv 35).toInt.toNat)) 840) ((gv 32).toInt.toNat) ∧ g1 36 = gv 36 ∧ (∀ i9 : Nat, gu 15 i9 = if i9 < ((gv 32).toInt.toNat) then gr 15 i9 else (mo_md (mm_D w9 (upd gv 84 a) gr) G9 (mo_A (mm_D w9 (upd gv 84 a) gr) (mm_W gv gr)) ((gv 32).toInt.toNat) ((gv 34).toInt.toNat) (mm_Ts (mm_D w9 (upd gv 84 a) gr) (mm_T gv gr) ((gv 32).toInt.toNat) ((gv 34).toInt.toNat) ((gv 35).toInt.toNat)) 840) 1 i9) ∧ (∀ i9 : Nat, gu 16 i9 = if i9 < ((gv 32).toInt.toNat) then gr 16 i9 else (mo_md (mm_D w9 (upd gv 84 a) gr) G9 (mo_A (mm_D w9 (upd gv 84 a) gr) (mm_W gv gr)) ((gv 32).toInt.toNat) ((gv 34).toInt.toNat) (mm_Ts (mm_D w9 (upd gv 84 a) gr) (mm_T gv gr) ((gv 32).toInt.toNat) ((gv 34).toInt.toNat) ((gv 35).toInt.toNat)) 840) 0 i9) ∧ (∀ i9 : Nat, gu 18 i9 = if i9 < ((gv 32).toInt.toNat) then gr 18 i9 else (mo_md (mm_D w9 (upd gv 84 a) gr) G9 (mo_A (mm_D w9 (upd gv 84 a) gr) (mm_W gv gr)) ((gv 32).toInt.toNat) ((gv 34).toInt.toNat) (mm_Ts (mm_D w9 (upd gv 84 a) gr) (mm_T gv gr) ((gv 32).toInt.toNat) ((gv 34).toInt.toNat) ((gv 35).toInt.toNat)) 840) 16 i9) ∧ (∀ i9 : Nat, gu 72 i9 = if i9 < ((gv 32).toInt.toNat) then gr 72 i9 else (mo_md (mm_D w9 (upd gv 84 a) gr) G9 (mo_A (mm_D w9 (upd gv 84 a) gr) (mm_W gv gr)) ((gv 32).toInt.toNat) ((gv 34).toInt.toNat) (mm_Ts (mm_D w9 (upd gv 84 a) gr) (mm_T gv gr) ((gv 32).toInt.toNat) ((gv 34).toInt.toNat) ((gv 35).toInt.toNat)) 840) 2 i9) ∧ (∀ i9 : Nat, gu 73 i9 = if i9 < ((gv 32).toInt.toNat) then gr 73 i9 else gr 73 i9) ∧ (∀ i9 : Nat, gu 74 i9 = if i9 < ((gv 32).toInt.toNat) then gr 74 i9 else (mo_md (mm_D w9 (upd gv 84 a) gr) G9 (mo_A (mm_D w9 (upd gv 84 a) gr) (mm_W gv gr)) ((gv 32).toInt.toNat) ((gv 34).toInt.toNat) (mm_Ts (mm_D w9 (upd gv 84 a) gr) (mm_T gv gr) ((gv 32).toInt.toNat) ((gv 34).toInt.toNat) ((gv 35).toInt.toNat)) 840) 3 i9) ∧ (∀ i9 : Nat, gu 75 i9 = if i9 < ((gv 32).toInt.toNat) then gr 75 i9 else (mo_md (mm_D w9 (upd gv 84 a) gr) G9 (mo_A (mm_D w9 (upd gv 84 a) gr) (mm_W gv gr)) ((gv 32).toInt.toNat) ((gv 34).toInt.toNat) (mm_Ts (mm_D w9 (upd gv 84 a) gr) (mm_T gv gr) ((gv 32).toInt.toNat) ((gv 34).toInt.toNat) ((gv 35).toInt.toNat)) 840) 4 i9) ∧ (∀ i9 : Nat, gu 24 i9 = if i9 < ((gv 34).toInt.toNat) then gr 24 i9 else (mo_md (mm_D w9 (upd gv 84 a) gr) G9 (mo_A (mm_D w9 (upd gv 84 a) gr) (mm_W gv gr)) ((gv 32).toInt.toNat) ((gv 34).toInt.toNat) (mm_Ts (mm_D w9 (upd gv 84 a) gr) (mm_T gv gr) ((gv 32).toInt.toNat) ((gv 34).toInt.toNat) ((gv 35).toInt.toNat)) 840) 7 i9) ∧ (∀ i9 : Nat, gu 76 i9 = if i9 < ((gv 34).toInt.toNat) then gr 76 i9 else (mo_md (mm_D w9 (upd gv 84 a) gr) G9 (mo_A (mm_D w9 (upd gv 84 a) gr) (mm_W gv gr)) ((gv 32).toInt.toNat) ((gv 34).toInt.toNat) (mm_Ts (mm_D w9 (upd gv 84 a) gr) (mm_T gv gr) ((gv 32).toInt.toNat) ((gv 34).toInt.toNat) ((gv 35).toInt.toNat)) 840) 10 i9) ∧ (∀ i9 : Nat, gu 78 i9 = if i9 < ((gv 34).toInt.toNat) then gr 78 i9 else (mo_md (mm_D w9 (upd gv 84 a) gr) G9 (mo_A (mm_D w9 (upd gv 84 a) gr) (mm_W gv gr)) ((gv 32).toInt.toNat) ((gv 34).toInt.toNat) (mm_Ts (mm_D w9 (upd gv 84 a) gr) (mm_T gv gr) ((gv 32).toInt.toNat) ((gv 34).toInt.toNat) ((gv 35).toInt.toNat)) 840) 8 i9) ∧ (∀ i9 : Nat, gu 79 i9 = if i9 < ((gv 34).toInt.toNat) then gr 79 i9 else (mo_md (mm_D w9 (upd gv 84 a) gr) G9 (mo_A (mm_D w9 (upd gv 84 a) gr) (mm_W gv gr)) ((gv 32).toInt.toNat) ((gv 34).toInt.toNat) (mm_Ts (mm_D w9 (upd gv 84 a) gr) (mm_T gv gr) ((gv 32).toInt.toNat) ((gv 34).toInt.toNat) ((gv 35).toInt.toNat)) 840) 9 i9)))
def mo_lk (fv : Nat → Int32) (ar : Nat → Nat → Int32) (gv : Nat → Int32) (gr : Nat → Nat → Int32) : Prop := fv 3 = gv 86 ∧ fv 5 = gv 7 ∧ fv 7 = gv 3 ∧ fv 8 = gv 36 ∧ fv 10 = gv 32 ∧ fv 11 = gv 34 ∧ fv 12 = gv 35 ∧ fv 30 = gv 58 ∧ ar 6 = gr 9 ∧ ar 7 = gr 10 ∧ ar 8 = gr 11 ∧ ar 9 = gr 12 ∧ ar 10 = gr 13 ∧ ar 11 = gr 14 ∧ ar 12 = gr 15 ∧ ar 13 = gr 16 ∧ ar 14 = gr 17 ∧ ar 15 = gr 72 ∧ ar 16 = gr 73 ∧ ar 17 = gr 74 ∧ ar 18 = gr 75 ∧ ar 19 = gr 18 ∧ ar 2 = gr 19 ∧ ar 3 = gr 5 ∧ ar 20 = gr 20 ∧ ar 21 = gr 21 ∧ ar 22 = gr 22 ∧ ar 23 = gr 23 ∧ ar 24 = gr 24 ∧ ar 25 = gr 78 ∧ ar 26 = gr 79 ∧ ar 27 = gr 76 ∧ ar 28 = gr 25 ∧ ar 29 = gr 26 ∧ ar 30 = gr 27 ∧ ar 31 = gr 28 ∧ ar 32 = gr 29 ∧ ar 33 = gr 30 ∧ ar 34 = gr 31 ∧ ar 35 = gr 81
theorem mx_run {fv fL : Nat → Int32} {ar aL S9 T TE : Nat → Nat → Int32} {Dl : (Nat → Int32 × List (Int × Int × List (Nat × Nat × Int)))} {W : List (Int × Int × List (Nat × Nat × Int))} (hX : rX fv) (hB : rB ar) (hG : mo_GR (mx_G ar)) (hi : mx_iv fv ar Dl) (hW : W = cd_WD Dl (fv 7).toInt (fv 30).toInt.toNat) (hfL : fM [3, 6, 22, 23, 24] fv fL) (haL : fA [4, 44, 45, 46, 47, 48, 49, 50, 51, 52, 53, 54, 55, 56, 57, 58, 59, 60, 61, 62, 63, 64] ar aL) (hS : mx_S fL aL = mo_xd (mx_D fL aL) (mx_G ar) (mo_A (mx_D fL aL) W) ((fv 10).toInt.toNat) ((fv 11).toInt.toNat) (mo_st (mx_D fL aL) ar ((fv 10).toInt.toNat) ((fv 11).toInt.toNat) S9) 840) (hP0 : ∀ p, p < ((fv 10).toInt.toNat) → ar 13 p = T 0 p ∧ ar 12 p = T 1 p ∧ T 16 p = ar 19 p) (hW0 : ∀ w, w < ((fv 11).toInt.toNat) → ar 24 w = T 7 w) (hF : S9 13 0 = T 13 0) (hT : TE = mo_md (mx_D fL aL) (mx_G ar) (mo_A (mx_D fL aL) W) ((fv 10).toInt.toNat) ((fv 11).toInt.toNat) (mm_Ts (mx_D fL aL) T ((fv 10).toInt.toNat) ((fv 11).toInt.toNat) (mo_nt (mx_D fL aL))) 840) : (∀ p, p < ((fv 10).toInt.toNat) → mx_S fL aL 0 p = TE 0 p ∧ mx_S fL aL 1 p = TE 1 p ∧ mx_S fL aL 2 p = TE 2 p ∧ mx_S fL aL 3 p = TE 3 p ∧ mx_S fL aL 4 p = TE 4 p ∧ TE 16 p = mx_D fL aL 6 p + mx_S fL aL 3 p) ∧ (∀ w, w < ((fv 11).toInt.toNat) → ∀ r, 7 ≤ r → r ≤ 11 → mx_S fL aL r w = TE r w) ∧ (∀ k, k < ((fv 12).toInt.toNat) → mx_S fL aL 12 k = TE 12 k) ∧ mx_S fL aL 13 0 = TE 13 0 ∧ mo_ot (mx_D fL aL) (mx_S fL aL) ((fv 10).toInt.toNat) = mo_ot (mx_D fL aL) TE ((fv 10).toInt.toNat) ∧ mo_sm ((fv 10).toInt.toNat) ((fv 11).toInt.toNat) ((fv 12).toInt.toNat) T TE ∧ (∀ p, p < ((fv 10).toInt.toNat) → (0 ≤ (TE 1 p).toInt ∧ (TE 1 p).toInt ≤ 9) ∧ 0 ≤ (mx_S fL aL 3 p).toInt ∧ (mx_S fL aL 3 p).toInt ≤ 2744280) := by
  have hrg : mx_rg fL aL := mx_rg_fr hi.1 hfL haL rfl rfl
  have hGa : mx_G aL = mx_G ar := by unfold mx_G; rw [haL 5 rfl]
  have hR : mx_R fL aL := mx_R_of hrg (by rw [haL 2 rfl]; exact fun i => hB 2 i) (by rw [haL 6 rfl]; exact fun i => hB 6 i) (by rw [haL 7 rfl]; exact fun i => hB 7 i) (by rw [hGa]; exact hG)
  have x12 : 0 ≤ (fv 12).toInt ∧ (fv 12).toInt ≤ 80 := hX 12
  have x11 : 0 ≤ (fv 11).toInt ∧ (fv 11).toInt ≤ 20 := hX 11
  have x30 : 0 ≤ (fv 30).toInt ∧ (fv 30).toInt ≤ 10 := hX 30
  have x7 : 0 ≤ (fv 7).toInt ∧ (fv 7).toInt ≤ 199 := hX 7
  have ent : mo_nt (mx_D fL aL) = ((fv 12).toInt.toNat) := by
    show (fL 12).toInt.toNat = _
    rw [hfL 12 rfl]
  have hA : mo_HA (mx_D fL aL) (mo_A (mx_D fL aL) W) := by rw [hW]; exact cd_DV_HA hi.2.2.2.2 x30.1 _
  have hev := hi.2.2.1
  have hld := hi.2.2.2.1
  have hsh := hi.1.2.2.2.2.2.2.1
  have hlv := hi.1.2.2.2.2.2.1
  unfold mx_ld at hld
  have h9 := mo_all (D := mx_D fL aL) (ar := ar) (S := S9) (T := T) (G := mx_G ar) (A := mo_A (mx_D fL aL) W) (np := ((fv 10).toInt.toNat)) (nw := ((fv 11).toInt.toNat)) hR.1 hG hA (by rw [ent]; omega) (mx_wh_of hrg) (by show (fL 11).toInt = _; rw [hfL 11 rfl]; omega) (fun p hp => by
    show 0 ≤ (aL 9 p).toInt ∧ (aL 9 p).toInt < 840
    rw [haL 9 rfl]
    have := hlv p
    omega) (fun p hp => by
    obtain ⟨q1, q2, q3⟩ := hP0 p hp
    refine ⟨q1, q2, ?_, ?_, ?_⟩
    · show T 16 p = aL 19 p
      rw [haL 19 rfl]; exact q3
    · rw [← q2]; exact hsh p
    · show 0 ≤ (aL 19 p).toInt ∧ (aL 19 p).toInt ≤ 1000000000
      rw [haL 19 rfl]
      have := hev p
      omega) hW0 hF hS hT
  rw [ent] at h9
  exact h9
def mx_T0 (ar : Nat → Nat → Int32) (x : Int32) : Nat → Nat → Int32 := fun r => match r with
  | 0 => ar 13
  | 1 => ar 12
  | 7 => ar 24
  | 13 => fun _ => x
  | 16 => ar 19
  | _ => fun _ => 0
theorem mx_iv_mor {fv u1 : Nat → Int32} {ar ux : Nat → Nat → Int32} {Dl : (Nat → Int32 × List (Int × Int × List (Nat × Nat × Int)))} {W : List (Int × Int × List (Nat × Nat × Int))} {r : Int32} (hX : rX fv) (hB : rB ar) (hG : mo_GR (mx_G ar)) (hi : mx_iv fv ar Dl) (hW : W = cd_WD Dl (fv 7).toInt (fv 30).toInt.toNat) (hf : fM [3, 6, 8, 22, 23, 24] fv u1) (ha : fA [4, 12, 13, 15, 16, 17, 18, 19, 24, 25, 26, 27, 35, 44, 45, 46, 47, 48, 49, 50, 51, 52, 53, 54, 55, 56, 57, 58, 59, 60, 61, 62, 63, 64] ar ux) (h01 : mx_f01 ux) (hm : mx_moX fv ar r u1 ux W) : mx_iv u1 ux Dl := by
  unfold mx_moX at hm
  rcases hm with ⟨_, _, e1, e2⟩ | ⟨hne, h3, fL, aL, S9, hfL, haL, h22, h13, hS, hot, hsp, _⟩
  · rw [e1, e2]; exact hi
  have hr := mx_run (T := mx_T0 ar (S9 13 0)) hX hB hG hi hW hfL haL hS (fun p _ => ⟨rfl, rfl, rfl⟩) (fun w _ => rfl) rfl rfl
  obtain ⟨hp, _, _, _, _, _, hb⟩ := hr
  have x7 : 0 ≤ (fv 7).toInt ∧ (fv 7).toInt ≤ 199 := hX 7
  obtain ⟨⟨a1_, a2, a3, a4, a5, a6, a7, a8, a9⟩, h2, hev, h4, h5⟩ := hi
  unfold mx_ld at h4
  refine ⟨⟨?_, ?_, ?_, ?_, ?_, ?_, ?_, ?_, ?_⟩, h01, ?_, ?_, ?_⟩
  · rw [ha 31 rfl]; exact a1_
  · rw [ha 10 rfl]; exact a2
  · rw [ha 11 rfl]; exact a3
  · rw [ha 34 rfl]; exact a4
  · rw [ha 14 rfl]; exact a5
  · rw [ha 9 rfl]; exact a6
  · intro i
    rw [(hsp i).1]
    by_cases q : i < ((fv 10).toInt.toNat)
    · rw [if_pos q]
      have e : aL 45 i = _ := (hp i q).2.1
      rw [e]
      exact (hb i q).1
    · rw [if_neg q, haL 12 rfl]; exact a7 i
  · rw [ha 3 rfl]; exact a8
  · rw [hf 12 rfl, hf 11 rfl, ha 28 rfl]; exact a9
  · intro i
    rw [(hsp i).2.2.2.2.2.2, h3]
    have q1 := hev i
    by_cases q : i < ((fv 10).toInt.toNat)
    · rw [if_pos q, haL 19 rfl]
      have q2 : 0 ≤ (aL 47 i).toInt ∧ (aL 47 i).toInt ≤ 2744280 := (hb i q).2
      rw [Int32.toInt_add, iv_bm (by omega) (by omega)]
      omega
    · rw [if_neg q, haL 19 rfl]; omega
  · unfold mx_ld
    rw [h3, hf 7 rfl]; omega
  · rw [hf 30 rfl]; exact h5
theorem mo_lk_R {fv gv : Nat → Int32} {ar gr : Nat → Nat → Int32} {Dl : (Nat → Int32 × List (Int × Int × List (Nat × Nat × Int)))} (hk : mo_lk fv ar gv gr) (hB : rB ar) (hG : mo_GR (mx_G ar)) (hi : mx_iv fv ar Dl) : mm_R (mx_G ar) gv gr := by
  have hR : mx_R fv ar := mx_R_of hi.1 (fun i => hB 2 i) (fun i => hB 6 i) (fun i => hB 7 i) hG
  obtain ⟨⟨b1, b2, b3, b4, b5, b6, b7⟩, g, c1, c2⟩ := hR
  refine ⟨⟨?_, ?_, ?_, ?_, ?_, ?_, ?_⟩, g, ?_, ?_⟩
  · show ∀ i, 0 ≤ (gr 19 i).toInt ∧ (gr 19 i).toInt ≤ 11
    rw [← hk.2.2.2.2.2.2.2.2.2.2.2.2.2.2.2.2.2.2.2.2.2.2.1]; exact b1
  · show ∀ i, 0 ≤ (gr 10 i).toInt ∧ (gr 10 i).toInt ≤ 11
    rw [← hk.2.2.2.2.2.2.2.2.2.1]; exact b2
  · show ∀ i, 0 ≤ (gr 28 i).toInt ∧ (gr 28 i).toInt ≤ 719
    rw [← hk.2.2.2.2.2.2.2.2.2.2.2.2.2.2.2.2.2.2.2.2.2.2.2.2.2.2.2.2.2.2.2.2.2.2.2.1]; exact b3
  · show ∀ i, 0 ≤ (gr 9 i).toInt ∧ (gr 9 i).toInt ≤ 11
    rw [← hk.2.2.2.2.2.2.2.2.1]; exact b4
  · show ∀ i, 0 ≤ (gr 14 i).toInt ∧ (gr 14 i).toInt ≤ 99
    rw [← hk.2.2.2.2.2.2.2.2.2.2.2.2.2.1]; exact b5
  · show ∀ i, 0 ≤ (gr 13 i).toInt ∧ (gr 13 i).toInt ≤ 719
    rw [← hk.2.2.2.2.2.2.2.2.2.2.2.2.1]; exact b6
  · show 0 ≤ (mm_rn gv gr).toInt ∧ (mm_rn gv gr).toInt ≤ 9
    unfold mm_rn
    rw [← hk.2.1, ← hk.2.2.1, ← hk.2.2.2.2.2.2.2.2.2.2.2.2.2.2.2.2.2.2.2.2.2.2.2.1]; exact b7
  · show ∀ i, 0 ≤ (gr 31 i).toInt ∧ (gr 31 i).toInt ≤ 199
    rw [← hk.2.2.2.2.2.2.2.2.2.2.2.2.2.2.2.2.2.2.2.2.2.2.2.2.2.2.2.2.2.2.2.2.2.2.2.2.2.2.1]; exact c1
  · show ∀ i, 0 ≤ (gr 17 i).toInt ∧ (gr 17 i).toInt ≤ 9
    rw [← hk.2.2.2.2.2.2.2.2.2.2.2.2.2.2.2.2.1]; exact c2
theorem mo_lk_wh {w9 : Nat → Int32} {fv gv : Nat → Int32} {ar gr : Nat → Nat → Int32} {Dl : (Nat → Int32 × List (Int × Int × List (Nat × Nat × Int)))} (hk : mo_lk fv ar gv gr) (hi : mx_iv fv ar Dl) : mo_wh (mm_D w9 gv gr) := by
  have h := mx_wh_of hi.1
  intro k hkk
  have hkk2 : k < (gv 35).toInt.toNat := hkk
  show 0 ≤ (gr 25 k).toInt ∧ (gr 25 k).toInt < (gv 34).toInt
  rw [← hk.2.2.2.2.2.2.2.2.2.2.2.2.2.2.2.2.2.2.2.2.2.2.2.2.2.2.2.2.2.2.2.2.1, ← hk.2.2.2.2.2.1]
  rw [← hk.2.2.2.2.2.2.1] at hkk2
  exact h k hkk2
theorem mo_morn {fv u1 gv g1 : Nat → Int32} {ar ux gr gu : Nat → Nat → Int32} {Dl : (Nat → Int32 × List (Int × Int × List (Nat × Nat × Int)))} {W : List (Int × Int × List (Nat × Nat × Int))} {r r2 : Int32} {G9 : Nat → Int} (hX : rX fv) (hB : rB ar) (hG : mo_GR (mx_G ar)) (hi : mx_iv fv ar Dl) (hW : W = cd_WD Dl (fv 7).toInt (fv 30).toInt.toNat) (hk : mo_lk fv ar gv gr) (hG9 : G9 = mx_G ar) (hM : mm_W gv gr = W) (hdk : ∀ F : Nat → Int, mo_dkv F W = mm_dk gv gr) (hx : mx_moX fv ar r u1 ux W) (hm : mm_moM gv gr r2 g1 gu G9 (gr 18)) (hf : fM [3, 6, 8, 22, 23, 24] fv u1) : r = r2 ∧ u1 8 = g1 36 ∧ u1 3 = g1 86 ∧ ux 12 = gu 15 ∧ ux 13 = gu 16 ∧ ux 15 = gu 72 ∧ ux 16 = gu 73 ∧ ux 17 = gu 74 ∧ ux 18 = gu 75 ∧ ux 19 = gu 18 ∧ ux 24 = gu 24 ∧ ux 25 = gu 78 ∧ ux 26 = gu 79 ∧ ux 27 = gu 76 ∧ ux 35 = gu 81 := by
  unfold mx_moX at hx
  unfold mm_moM at hm
  rw [← hk.2.2.2.2.1, ← hk.2.2.2.2.2.1, ← hk.2.2.2.2.2.2.1, ← hk.1, ← hk.2.2.1] at hm
  rcases hx with ⟨c1, e1, e2, e3⟩ | ⟨c1, h3, fL, aL, S9, hfL, haL, h22, h13, hS, hot, hsp, c24, c25, c26, c27, c35, h8⟩
  · rcases hm with ⟨_, m1, m2, m3, m4⟩ | ⟨c2, _⟩
    · rw [e2, e3, m2, m3, m4]
      exact ⟨e1.trans m1.symm, hk.2.2.2.1, (rfl : fv 3 = fv 3), hk.2.2.2.2.2.2.2.2.2.2.2.2.2.2.1, hk.2.2.2.2.2.2.2.2.2.2.2.2.2.2.2.1, hk.2.2.2.2.2.2.2.2.2.2.2.2.2.2.2.2.2.1, hk.2.2.2.2.2.2.2.2.2.2.2.2.2.2.2.2.2.2.1, hk.2.2.2.2.2.2.2.2.2.2.2.2.2.2.2.2.2.2.2.1, hk.2.2.2.2.2.2.2.2.2.2.2.2.2.2.2.2.2.2.2.2.1, hk.2.2.2.2.2.2.2.2.2.2.2.2.2.2.2.2.2.2.2.2.2.1, hk.2.2.2.2.2.2.2.2.2.2.2.2.2.2.2.2.2.2.2.2.2.2.2.2.2.2.2.2.1, hk.2.2.2.2.2.2.2.2.2.2.2.2.2.2.2.2.2.2.2.2.2.2.2.2.2.2.2.2.2.1, hk.2.2.2.2.2.2.2.2.2.2.2.2.2.2.2.2.2.2.2.2.2.2.2.2.2.2.2.2.2.2.1, hk.2.2.2.2.2.2.2.2.2.2.2.2.2.2.2.2.2.2.2.2.2.2.2.2.2.2.2.2.2.2.2.1, hk.2.2.2.2.2.2.2.2.2.2.2.2.2.2.2.2.2.2.2.2.2.2.2.2.2.2.2.2.2.2.2.2.2.2.2.2.2.2.2⟩
    · exact absurd c1 c2
  rcases hm with ⟨c2, _⟩ | ⟨_, m86, hmT, hm2, hcp, hot2⟩
  · exact absurd c2 c1
  have hD : mx_D fL aL = mm_D (gr 18) (upd gv 84 (-1 : Int32)) gr := mo_D_eq (f := fL) (gf := upd gv 84 (-1 : Int32)) (a := aL) (g := gr) ((haL 6 rfl).trans hk.2.2.2.2.2.2.2.2.1) ((haL 7 rfl).trans hk.2.2.2.2.2.2.2.2.2.1) ((haL 9 rfl).trans hk.2.2.2.2.2.2.2.2.2.2.2.1) ((haL 10 rfl).trans hk.2.2.2.2.2.2.2.2.2.2.2.2.1) ((haL 11 rfl).trans hk.2.2.2.2.2.2.2.2.2.2.2.2.2.1) ((haL 14 rfl).trans hk.2.2.2.2.2.2.2.2.2.2.2.2.2.2.2.2.1) ((haL 20 rfl).trans hk.2.2.2.2.2.2.2.2.2.2.2.2.2.2.2.2.2.2.2.2.2.2.2.2.1) ((haL 21 rfl).trans hk.2.2.2.2.2.2.2.2.2.2.2.2.2.2.2.2.2.2.2.2.2.2.2.2.2.1) ((haL 22 rfl).trans hk.2.2.2.2.2.2.2.2.2.2.2.2.2.2.2.2.2.2.2.2.2.2.2.2.2.2.1) ((haL 23 rfl).trans hk.2.2.2.2.2.2.2.2.2.2.2.2.2.2.2.2.2.2.2.2.2.2.2.2.2.2.2.1) ((haL 28 rfl).trans hk.2.2.2.2.2.2.2.2.2.2.2.2.2.2.2.2.2.2.2.2.2.2.2.2.2.2.2.2.2.2.2.2.1) ((haL 29 rfl).trans hk.2.2.2.2.2.2.2.2.2.2.2.2.2.2.2.2.2.2.2.2.2.2.2.2.2.2.2.2.2.2.2.2.2.1) ((haL 30 rfl).trans hk.2.2.2.2.2.2.2.2.2.2.2.2.2.2.2.2.2.2.2.2.2.2.2.2.2.2.2.2.2.2.2.2.2.2.1) ((haL 31 rfl).trans hk.2.2.2.2.2.2.2.2.2.2.2.2.2.2.2.2.2.2.2.2.2.2.2.2.2.2.2.2.2.2.2.2.2.2.2.1) ((haL 32 rfl).trans hk.2.2.2.2.2.2.2.2.2.2.2.2.2.2.2.2.2.2.2.2.2.2.2.2.2.2.2.2.2.2.2.2.2.2.2.2.1) ((haL 33 rfl).trans hk.2.2.2.2.2.2.2.2.2.2.2.2.2.2.2.2.2.2.2.2.2.2.2.2.2.2.2.2.2.2.2.2.2.2.2.2.2.1) ((haL 34 rfl).trans hk.2.2.2.2.2.2.2.2.2.2.2.2.2.2.2.2.2.2.2.2.2.2.2.2.2.2.2.2.2.2.2.2.2.2.2.2.2.2.1) ((haL 2 rfl).trans hk.2.2.2.2.2.2.2.2.2.2.2.2.2.2.2.2.2.2.2.2.2.2.1) ((haL 19 rfl).trans hk.2.2.2.2.2.2.2.2.2.2.2.2.2.2.2.2.2.2.2.2.2.1) ((hfL 10 rfl).trans hk.2.2.2.2.1) ((hfL 11 rfl).trans hk.2.2.2.2.2.1) ((hfL 12 rfl).trans hk.2.2.2.2.2.2.1) ((hfL 7 rfl).trans hk.2.2.1) h22 ((hfL 5 rfl).trans hk.2.1) ((haL 3 rfl).trans hk.2.2.2.2.2.2.2.2.2.2.2.2.2.2.2.2.2.2.2.2.2.2.2.1)
  have ent : mo_nt (mx_D fL aL) = ((fv 12).toInt.toNat) := by
    show (fL 12).toInt.toNat = _
    rw [hfL 12 rfl]
  rw [← hD, hG9, hM] at hmT hm2 hcp hot2
  generalize hT : mo_md (mx_D fL aL) (mx_G ar) (mo_A (mx_D fL aL) W) ((fv 10).toInt.toNat) ((fv 11).toInt.toNat) (mm_Ts (mx_D fL aL) (mm_T gv gr) ((fv 10).toInt.toNat) ((fv 11).toInt.toNat) ((fv 12).toInt.toNat)) 840 = TE at hmT hm2 hcp hot2
  have hr := mx_run (T := mm_T gv gr) (TE := TE) hX hB hG hi hW hfL haL hS (fun p _ => ⟨congrFun hk.2.2.2.2.2.2.2.2.2.2.2.2.2.2.2.1 p, congrFun hk.2.2.2.2.2.2.2.2.2.2.2.2.2.2.1 p, (congrFun hk.2.2.2.2.2.2.2.2.2.2.2.2.2.2.2.2.2.2.2.2.2.1 p).symm⟩) (fun w _ => congrFun hk.2.2.2.2.2.2.2.2.2.2.2.2.2.2.2.2.2.2.2.2.2.2.2.2.2.2.2.2.1 w) (h13.trans hk.2.2.2.1) (by rw [ent]; exact hT.symm)
  obtain ⟨hp, hw, hk_, h13e, hote, hsm, _⟩ := hr
  have key := mo_mor (np := ((fv 10).toInt.toNat)) (nw := ((fv 11).toInt.toNat)) (nt := ((fv 12).toInt.toNat)) (D := mx_D fL aL) (T := mm_T gv gr) (SE := mx_S fL aL) (TE := TE) (aL := aL) (ux := ux) (gr := gr) (gu := gu) hsp c24 c25 c26 c27 c35 rfl rfl rfl rfl rfl rfl rfl rfl rfl rfl ⟨hmT 1 (by decide), hmT 2 (by decide), hmT 3 (by decide), hmT 4 (by decide), hmT 16 (by decide), hmT 7 (by decide), hmT 8 (by decide), hmT 9 (by decide), hmT 10 (by decide)⟩ hm2 hcp (hdk _) ⟨rfl, rfl, rfl, rfl, rfl, rfl, rfl, rfl, rfl, rfl⟩ rfl ((haL 12 rfl).trans hk.2.2.2.2.2.2.2.2.2.2.2.2.2.2.1) ((haL 13 rfl).trans hk.2.2.2.2.2.2.2.2.2.2.2.2.2.2.2.1) ((haL 15 rfl).trans hk.2.2.2.2.2.2.2.2.2.2.2.2.2.2.2.2.2.1) ((haL 16 rfl).trans hk.2.2.2.2.2.2.2.2.2.2.2.2.2.2.2.2.2.2.1) ((haL 17 rfl).trans hk.2.2.2.2.2.2.2.2.2.2.2.2.2.2.2.2.2.2.2.1) ((haL 18 rfl).trans hk.2.2.2.2.2.2.2.2.2.2.2.2.2.2.2.2.2.2.2.2.1) ((haL 19 rfl).trans hk.2.2.2.2.2.2.2.2.2.2.2.2.2.2.2.2.2.2.2.2.2.1) ((haL 24 rfl).trans hk.2.2.2.2.2.2.2.2.2.2.2.2.2.2.2.2.2.2.2.2.2.2.2.2.2.2.2.2.1) ((haL 25 rfl).trans hk.2.2.2.2.2.2.2.2.2.2.2.2.2.2.2.2.2.2.2.2.2.2.2.2.2.2.2.2.2.1) ((haL 26 rfl).trans hk.2.2.2.2.2.2.2.2.2.2.2.2.2.2.2.2.2.2.2.2.2.2.2.2.2.2.2.2.2.2.1) ((haL 27 rfl).trans hk.2.2.2.2.2.2.2.2.2.2.2.2.2.2.2.2.2.2.2.2.2.2.2.2.2.2.2.2.2.2.2.1) ((haL 35 rfl).trans hk.2.2.2.2.2.2.2.2.2.2.2.2.2.2.2.2.2.2.2.2.2.2.2.2.2.2.2.2.2.2.2.2.2.2.2.2.2.2.2) ((haL 8 rfl).trans hk.2.2.2.2.2.2.2.2.2.2.1) ((haL 10 rfl).trans hk.2.2.2.2.2.2.2.2.2.2.2.2.1) hp hw hk_ hsm
  have ef : u1 8 = g1 36 := by
    have q1 : fL 23 = TE 13 0 := h13e
    have q2 : g1 36 = TE 13 0 := congrFun (hmT 13 (by decide)) 0
    rw [h8, q1, q2]
  refine ⟨Int32.toInt_inj.mp ?_, ef, h3.trans m86.symm, key⟩
  rw [hot, hote, hot2]
theorem mo_trd {fv u1 gv g1 : Nat → Int32} {ar ux gr gu : Nat → Nat → Int32} {Dl : (Nat → Int32 × List (Int × Int × List (Nat × Nat × Int)))} {W : List (Int × Int × List (Nat × Nat × Int))} {a r r2 : Int32} {G9 : Nat → Int} (hX : rX fv) (hB : rB ar) (hG : mo_GR (mx_G ar)) (hi : mx_iv fv ar Dl) (hW : W = cd_WD Dl (fv 7).toInt (fv 30).toInt.toNat) (hk : mo_lk fv ar gv gr) (hG9 : G9 = mx_G ar) (hM : mm_W gv gr = W) (hx : mx_trX fv ar a r u1 ux W) (hm : mm_trM gv gr a r2 g1 gu G9 (gr 18)) (hfL : fM [6, 22, 23, 24] fv u1) (haL : fA [4, 44, 45, 46, 47, 48, 49, 50, 51, 52, 53, 54, 55, 56, 57, 58, 59, 60, 61, 62, 63, 64] ar ux) : r = r2 ∧ g1 36 = gv 36 ∧ gu 15 = gr 15 ∧ gu 16 = gr 16 ∧ gu 18 = gr 18 ∧ gu 72 = gr 72 ∧ gu 73 = gr 73 ∧ gu 74 = gr 74 ∧ gu 75 = gr 75 ∧ gu 24 = gr 24 ∧ gu 76 = gr 76 ∧ gu 78 = gr 78 ∧ gu 79 = gr 79 := by
  have hfL : fM [3, 6, 22, 23, 24] fv u1 := fM_call (fM_rf _ _) hfL (by decide)
  unfold mx_trX at hx
  unfold mm_trM at hm
  rw [← hk.2.2.2.2.1, ← hk.2.2.2.2.2.1, ← hk.2.2.2.2.2.2.1, ← hk.1, ← hk.2.2.1] at hm
  rcases hx with ⟨c1, e1, e2, e3⟩ | ⟨c1, h22, hot, S9, h13, hS⟩
  · rcases hm with ⟨_, m1, m2, m3⟩ | ⟨c2, _⟩
    · rw [m2]
      exact ⟨e1.trans m1.symm, m3, rfl, rfl, rfl, rfl, rfl, rfl, rfl, rfl, rfl, rfl, rfl⟩
    · exact absurd c1 c2
  rcases hm with ⟨c2, _⟩ | ⟨_, hot2, m36, m15, m16, m18, m72, m73, m74, m75, m24, m76, m78, m79⟩
  · exact absurd c2 c1
  have hD : mx_D u1 ux = mm_D (gr 18) (upd gv 84 a) gr := mo_D_eq (f := u1) (gf := upd gv 84 a) (a := ux) (g := gr) ((haL 6 rfl).trans hk.2.2.2.2.2.2.2.2.1) ((haL 7 rfl).trans hk.2.2.2.2.2.2.2.2.2.1) ((haL 9 rfl).trans hk.2.2.2.2.2.2.2.2.2.2.2.1) ((haL 10 rfl).trans hk.2.2.2.2.2.2.2.2.2.2.2.2.1) ((haL 11 rfl).trans hk.2.2.2.2.2.2.2.2.2.2.2.2.2.1) ((haL 14 rfl).trans hk.2.2.2.2.2.2.2.2.2.2.2.2.2.2.2.2.1) ((haL 20 rfl).trans hk.2.2.2.2.2.2.2.2.2.2.2.2.2.2.2.2.2.2.2.2.2.2.2.2.1) ((haL 21 rfl).trans hk.2.2.2.2.2.2.2.2.2.2.2.2.2.2.2.2.2.2.2.2.2.2.2.2.2.1) ((haL 22 rfl).trans hk.2.2.2.2.2.2.2.2.2.2.2.2.2.2.2.2.2.2.2.2.2.2.2.2.2.2.1) ((haL 23 rfl).trans hk.2.2.2.2.2.2.2.2.2.2.2.2.2.2.2.2.2.2.2.2.2.2.2.2.2.2.2.1) ((haL 28 rfl).trans hk.2.2.2.2.2.2.2.2.2.2.2.2.2.2.2.2.2.2.2.2.2.2.2.2.2.2.2.2.2.2.2.2.1) ((haL 29 rfl).trans hk.2.2.2.2.2.2.2.2.2.2.2.2.2.2.2.2.2.2.2.2.2.2.2.2.2.2.2.2.2.2.2.2.2.1) ((haL 30 rfl).trans hk.2.2.2.2.2.2.2.2.2.2.2.2.2.2.2.2.2.2.2.2.2.2.2.2.2.2.2.2.2.2.2.2.2.2.1) ((haL 31 rfl).trans hk.2.2.2.2.2.2.2.2.2.2.2.2.2.2.2.2.2.2.2.2.2.2.2.2.2.2.2.2.2.2.2.2.2.2.2.1) ((haL 32 rfl).trans hk.2.2.2.2.2.2.2.2.2.2.2.2.2.2.2.2.2.2.2.2.2.2.2.2.2.2.2.2.2.2.2.2.2.2.2.2.1) ((haL 33 rfl).trans hk.2.2.2.2.2.2.2.2.2.2.2.2.2.2.2.2.2.2.2.2.2.2.2.2.2.2.2.2.2.2.2.2.2.2.2.2.2.1) ((haL 34 rfl).trans hk.2.2.2.2.2.2.2.2.2.2.2.2.2.2.2.2.2.2.2.2.2.2.2.2.2.2.2.2.2.2.2.2.2.2.2.2.2.2.1) ((haL 2 rfl).trans hk.2.2.2.2.2.2.2.2.2.2.2.2.2.2.2.2.2.2.2.2.2.2.1) ((haL 19 rfl).trans hk.2.2.2.2.2.2.2.2.2.2.2.2.2.2.2.2.2.2.2.2.2.1) ((hfL 10 rfl).trans hk.2.2.2.2.1) ((hfL 11 rfl).trans hk.2.2.2.2.2.1) ((hfL 12 rfl).trans hk.2.2.2.2.2.2.1) ((hfL 7 rfl).trans hk.2.2.1) h22 ((hfL 5 rfl).trans hk.2.1) ((haL 3 rfl).trans hk.2.2.2.2.2.2.2.2.2.2.2.2.2.2.2.2.2.2.2.2.2.2.2.1)
  have ent : mo_nt (mx_D u1 ux) = ((fv 12).toInt.toNat) := by
    show (u1 12).toInt.toNat = _
    rw [hfL 12 rfl]
  rw [← hD, hG9, hM] at hot2 m15 m16 m18 m72 m74 m75 m24 m76 m78 m79
  generalize hT : mo_md (mx_D u1 ux) (mx_G ar) (mo_A (mx_D u1 ux) W) ((fv 10).toInt.toNat) ((fv 11).toInt.toNat) (mm_Ts (mx_D u1 ux) (mm_T gv gr) ((fv 10).toInt.toNat) ((fv 11).toInt.toNat) ((fv 12).toInt.toNat)) 840 = TE at hot2 m15 m16 m18 m72 m74 m75 m24 m76 m78 m79
  have hr := mx_run (T := mm_T gv gr) (TE := TE) hX hB hG hi hW hfL haL hS (fun p _ => ⟨congrFun hk.2.2.2.2.2.2.2.2.2.2.2.2.2.2.2.1 p, congrFun hk.2.2.2.2.2.2.2.2.2.2.2.2.2.2.1 p, (congrFun hk.2.2.2.2.2.2.2.2.2.2.2.2.2.2.2.2.2.2.2.2.2.1 p).symm⟩) (fun w _ => congrFun hk.2.2.2.2.2.2.2.2.2.2.2.2.2.2.2.2.2.2.2.2.2.2.2.2.2.2.2.2.1 w) (h13.trans hk.2.2.2.1) (by rw [ent]; exact hT.symm)
  obtain ⟨_, _, _, _, hote, hsm, _⟩ := hr
  have out : ∀ (r i : Nat), (r ≤ 6 ∨ 14 ≤ r) → ¬ i < ((fv 10).toInt.toNat) → TE r i = mm_T gv gr r i := fun r i h1 h2 => hsm r i (Or.inl ⟨h1, by omega⟩)
  have outw : ∀ (r i : Nat), 7 ≤ r → r ≤ 11 → ¬ i < ((fv 11).toInt.toNat) → TE r i = mm_T gv gr r i := fun r i h1 h2 h3 => hsm r i (Or.inr (Or.inl ⟨h1, h2, by omega⟩))
  refine ⟨Int32.toInt_inj.mp (by rw [hot, hote, hot2]), m36, funext (fun i => by rw [m15 i]; by_cases q : i < ((fv 10).toInt.toNat); (rw [if_pos q]); (rw [if_neg q]; exact out 1 i (by decide) q)), funext (fun i => by rw [m16 i]; by_cases q : i < ((fv 10).toInt.toNat); (rw [if_pos q]); (rw [if_neg q]; exact out 0 i (by decide) q)), funext (fun i => by rw [m18 i]; by_cases q : i < ((fv 10).toInt.toNat); (rw [if_pos q]); (rw [if_neg q]; exact out 16 i (by decide) q)), funext (fun i => by rw [m72 i]; by_cases q : i < ((fv 10).toInt.toNat); (rw [if_pos q]); (rw [if_neg q]; exact out 2 i (by decide) q)), funext (fun i => by rw [m73 i]; by_cases q : i < ((fv 10).toInt.toNat); (rw [if_pos q]); (rw [if_neg q])), funext (fun i => by rw [m74 i]; by_cases q : i < ((fv 10).toInt.toNat); (rw [if_pos q]); (rw [if_neg q]; exact out 3 i (by decide) q)), funext (fun i => by rw [m75 i]; by_cases q : i < ((fv 10).toInt.toNat); (rw [if_pos q]); (rw [if_neg q]; exact out 4 i (by decide) q)), funext (fun i => by rw [m24 i]; by_cases q : i < ((fv 11).toInt.toNat); (rw [if_pos q]); (rw [if_neg q]; exact outw 7 i (by decide) (by decide) q)), funext (fun i => by rw [m76 i]; by_cases q : i < ((fv 11).toInt.toNat); (rw [if_pos q]); (rw [if_neg q]; exact outw 10 i (by decide) (by decide) q)), funext (fun i => by rw [m78 i]; by_cases q : i < ((fv 11).toInt.toNat); (rw [if_pos q]); (rw [if_neg q]; exact outw 8 i (by decide) (by decide) q)), funext (fun i => by rw [m79 i]; by_cases q : i < ((fv 11).toInt.toNat); (rw [if_pos q]); (rw [if_neg q]; exact outw 9 i (by decide) (by decide) q))⟩
def wt_rode (r a n : Int32) (g : Nat → Int32) : Prop := ((a.toInt < 0 ∨ n.toInt ≤ a.toInt) ∧ r = -1) ∨ (¬ (a.toInt < 0 ∨ n.toInt ≤ a.toInt) ∧ r = g (a.toInt.toNat))
theorem wt_rode_det {r r2 a n : Int32} {g : Nat → Int32} (h1 : wt_rode r a n g) (h2 : wt_rode r2 a n g) : r = r2 := by
  rcases h1 with ⟨a1, b1⟩ | ⟨a1, b1⟩ <;> rcases h2 with ⟨a2, b2⟩ | ⟨a2, b2⟩
  · exact b1.trans b2.symm
  · exact absurd a1 a2
  · exact absurd a2 a1
  · exact b1.trans b2.symm
def wt_wheeled (r a b n : Int32) (g0 g1 g2 g3 : Nat → Int32) : Prop := ((a.toInt < 0 ∨ n.toInt ≤ a.toInt) ∧ r = -1) ∨ (¬ (a.toInt < 0 ∨ n.toInt ≤ a.toInt) ∧ r = mo_w4 b.toInt (g0 (a.toInt.toNat)) (g1 (a.toInt.toNat)) (g2 (a.toInt.toNat)) (g3 (a.toInt.toNat)))
theorem wt_wheeled_det {r r2 a b n : Int32} {g0 g1 g2 g3 : Nat → Int32} (h1 : wt_wheeled r a b n g0 g1 g2 g3) (h2 : wt_wheeled r2 a b n g0 g1 g2 g3) : r = r2 := by
  rcases h1 with ⟨a1, b1⟩ | ⟨a1, b1⟩ <;> rcases h2 with ⟨a2, b2⟩ | ⟨a2, b2⟩
  · exact b1.trans b2.symm
  · exact absurd a1 a2
  · exact absurd a2 a1
  · exact b1.trans b2.symm
theorem mx_iv0 {fL : Nat → Int32} {D : (Nat → Int32 × List (Int × Int × List (Nat × Nat × Int)))} : mx_iv fvX0 (arX0 fL) D := by
  have z : (0 : Int32).toInt = 0 := by decide
  have n30 : (fvX0 30).toInt = 0 := by decide
  have n12 : (fvX0 12).toInt = 0 := by decide
  have n3 : (fvX0 3).toInt = -1 := by decide
  have n7 : (fvX0 7).toInt = 0 := by decide
  refine ⟨⟨?_, ?_, ?_, ?_, ?_, ?_, ?_, ?_, ?_⟩, ?_, ?_, ?_, ?_⟩
  iterate 8 (intro i; show 0 ≤ (0 : Int32).toInt ∧ (0 : Int32).toInt ≤ _; rw [z]; decide)
  · intro k hk
    rw [n12] at hk; exfalso; omega
  · intro k hk
    refine Or.inl ?_
    unfold cd_f
    rw [if_pos (by omega)]
    exact z
  · intro i
    show 0 ≤ (0 : Int32).toInt ∧ (0 : Int32).toInt ≤ _
    rw [z, n3]; decide
  · unfold mx_ld
    rw [n3, n7]; decide
  · intro i hi
    rw [n30] at hi; exfalso; omega

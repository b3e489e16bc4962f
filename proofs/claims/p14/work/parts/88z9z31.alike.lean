theorem mx_D_20 {f : Nat → Int32} {a : Nat → Nat → Int32} {j : Nat} (h : 20 ≤ j) : mx_D f a j = fun _ => 0 := by
  unfold mx_D
  split <;> first
    | omega
    | rfl
theorem mm_D_20 {w : Nat → Int32} {f : Nat → Int32} {a : Nat → Nat → Int32} {j : Nat} (h : 20 ≤ j) : mm_D w f a j = fun _ => 0 := by
  unfold mm_D
  split <;> first
    | omega
    | rfl
theorem mx_D_6 {f : Nat → Int32} {a : Nat → Nat → Int32} (k : Nat) : mx_D f a 19 (k + 6) = 0 := rfl
theorem mm_D_6 {w : Nat → Int32} {f : Nat → Int32} {a : Nat → Nat → Int32} (k : Nat) : mm_D w f a 19 (k + 6) = 0 := rfl
theorem mo_D_eq {f gf : Nat → Int32} {a g : Nat → Nat → Int32} (h0 : a 6 = g 9) (h1 : a 7 = g 10) (h2 : a 9 = g 12) (h3 : a 10 = g 13) (h4 : a 11 = g 14) (h5 : a 14 = g 17) (h7 : a 20 = g 20) (h8 : a 21 = g 21) (h9 : a 22 = g 22) (h10 : a 23 = g 23) (h11 : a 28 = g 25) (h12 : a 29 = g 26) (h13 : a 30 = g 27) (h14 : a 31 = g 28) (h15 : a 32 = g 29) (h16 : a 33 = g 30) (h17 : a 34 = g 31) (h18 : a 2 = g 19) (h6 : a 19 = g 18) (e10 : f 10 = gf 32) (e11 : f 11 = gf 34) (e12 : f 12 = gf 35) (e7 : f 7 = gf 3) (e22 : f 22 = gf 84) (e5 : f 5 = gf 7) (h3_ : a 3 = g 5) : mx_D f a = mm_D (g 18) gf g := by
  have ern : mx_rn f a = mm_rn gf g := by unfold mx_rn mm_rn; rw [e5, e7, h3_]
  have e19 : ∀ i, mx_D f a 19 i = mm_D (g 18) gf g 19 i := fun i => match i with
    | 0 => e10
    | 1 => e11
    | 2 => e12
    | 3 => e7
    | 4 => ern
    | 5 => e22
    | n + 6 => (mx_D_6 n).trans (mm_D_6 n).symm
  funext r
  exact match r with
    | 0 => h0
    | 1 => h1
    | 2 => h2
    | 3 => h3
    | 4 => h4
    | 5 => h5
    | 6 => h6
    | 7 => h7
    | 8 => h8
    | 9 => h9
    | 10 => h10
    | 11 => h11
    | 12 => h12
    | 13 => h13
    | 14 => h14
    | 15 => h15
    | 16 => h16
    | 17 => h17
    | 18 => h18
    | 19 => funext e19
    | n + 20 => (mx_D_20 (by omega)).trans (mm_D_20 (by omega)).symm
theorem mo_mor {np nw nt : Nat} {D T SE TE : Nat → Nat → Int32} {aL ux gr gu : Nat → Nat → Int32} {dx dm : Int32} (hsp : mx_sp aL ux dx np) (c24 : mx_c1 (aL 51) (aL 24) (ux 24) nw) (c25 : mx_c1 (aL 52) (aL 25) (ux 25) nw) (c26 : mx_c1 (aL 53) (aL 26) (ux 26) nw) (c27 : mx_c1 (aL 54) (aL 27) (ux 27) nw) (c35 : mx_c1 (aL 56) (aL 35) (ux 35) nt)
  (s0 : aL 44 = SE 0) (s1 : aL 45 = SE 1) (s2 : aL 46 = SE 2) (s3 : aL 47 = SE 3) (s4 : aL 48 = SE 4) (s7 : aL 51 = SE 7) (s8 : aL 52 = SE 8) (s9 : aL 53 = SE 9) (s10 : aL 54 = SE 10) (s12 : aL 56 = SE 12)
  (hg1 : gu 15 = TE 1 ∧ gu 72 = TE 2 ∧ gu 74 = TE 3 ∧ gu 75 = TE 4 ∧ gu 18 = TE 16 ∧ gu 24 = TE 7 ∧ gu 78 = TE 8 ∧ gu 79 = TE 9 ∧ gu 76 = TE 10) (hg2 : ∀ i : Nat, gu 73 i = (if i < np then mo_late (TE 2 i) (gr 13 i) else gr 73 i) ∧ gu 16 i = (if i < np then mo_pur (TE 0 i) (mo_wage dm (gr 11 i) (mo_late (TE 2 i) (gr 13 i))) else TE 0 i)) (hcp : mm_cp (gr 81) (TE 12) (gu 81) nt) (hd : dx = dm)
  (hT : T 0 = gr 16 ∧ T 1 = gr 15 ∧ T 2 = gr 72 ∧ T 3 = gr 74 ∧ T 4 = gr 75 ∧ T 16 = gr 18 ∧ T 7 = gr 24 ∧ T 8 = gr 78 ∧ T 9 = gr 79 ∧ T 10 = gr 76) (h6 : D 6 = aL 19)
  (l12 : aL 12 = gr 15) (l13 : aL 13 = gr 16) (l15 : aL 15 = gr 72) (l16 : aL 16 = gr 73) (l17 : aL 17 = gr 74) (l18 : aL 18 = gr 75) (l19 : aL 19 = gr 18) (l24 : aL 24 = gr 24) (l25 : aL 25 = gr 78) (l26 : aL 26 = gr 79) (l27 : aL 27 = gr 76) (l35 : aL 35 = gr 81) (l8 : aL 8 = gr 11) (l10 : aL 10 = gr 13)
  (hp : ∀ p, p < np → SE 0 p = TE 0 p ∧ SE 1 p = TE 1 p ∧ SE 2 p = TE 2 p ∧ SE 3 p = TE 3 p ∧ SE 4 p = TE 4 p ∧ TE 16 p = D 6 p + SE 3 p) (hw : ∀ w, w < nw → ∀ r, 7 ≤ r → r ≤ 11 → SE r w = TE r w) (hk : ∀ k, k < nt → SE 12 k = TE 12 k) (hsm : mo_sm np nw nt T TE) :
  ux 12 = gu 15 ∧ ux 13 = gu 16 ∧ ux 15 = gu 72 ∧ ux 16 = gu 73 ∧ ux 17 = gu 74 ∧ ux 18 = gu 75 ∧ ux 19 = gu 18 ∧ ux 24 = gu 24 ∧ ux 25 = gu 78 ∧ ux 26 = gu 79 ∧ ux 27 = gu 76 ∧ ux 35 = gu 81 := by
  obtain ⟨g15, g72, g74, g75, g18, g24, g78, g79, g76⟩ := hg1
  obtain ⟨t0, t1, t2, t3, t4, t16, t7, t8, t9, t10⟩ := hT
  have out : ∀ r i, (r ≤ 6 ∨ 14 ≤ r) → np ≤ i → TE r i = T r i := fun r i h1 h2 => hsm r i (Or.inl ⟨h1, h2⟩)
  have outw : ∀ r i, 7 ≤ r → r ≤ 11 → nw ≤ i → TE r i = T r i := fun r i h1 h2 h3 => hsm r i (Or.inr (Or.inl ⟨h1, h2, h3⟩))
  refine ⟨?_, ?_, ?_, ?_, ?_, ?_, ?_, ?_, ?_, ?_, ?_, ?_⟩
  · funext i
    rw [(hsp i).1, g15]
    by_cases q : i < np
    · rw [if_pos q, s1]; exact (hp i q).2.1
    · rw [if_neg q, out 1 i (by decide) (by omega), t1, l12]
  · funext i
    rw [(hsp i).2.1, (hg2 i).2]
    by_cases q : i < np
    · rw [if_pos q, if_pos q, s0, s2, l8, l10, hd, (hp i q).1, (hp i q).2.2.1]
    · rw [if_neg q, if_neg q, out 0 i (by decide) (by omega), t0, l13]
  · funext i
    rw [(hsp i).2.2.1, g72]
    by_cases q : i < np
    · rw [if_pos q, s2]; exact (hp i q).2.2.1
    · rw [if_neg q, out 2 i (by decide) (by omega), t2, l15]
  · funext i
    rw [(hsp i).2.2.2.1, (hg2 i).1]
    by_cases q : i < np
    · rw [if_pos q, if_pos q, s2, l10, (hp i q).2.2.1]
    · rw [if_neg q, if_neg q, l16]
  · funext i
    rw [(hsp i).2.2.2.2.1, g74]
    by_cases q : i < np
    · rw [if_pos q, s3]; exact (hp i q).2.2.2.1
    · rw [if_neg q, out 3 i (by decide) (by omega), t3, l17]
  · funext i
    rw [(hsp i).2.2.2.2.2.1, g75]
    by_cases q : i < np
    · rw [if_pos q, s4]; exact (hp i q).2.2.2.2.1
    · rw [if_neg q, out 4 i (by decide) (by omega), t4, l18]
  · funext i
    rw [(hsp i).2.2.2.2.2.2, g18]
    by_cases q : i < np
    · rw [if_pos q, s3, (hp i q).2.2.2.2.2, h6]
    · rw [if_neg q, out 16 i (by decide) (by omega), t16, l19]
  · funext i
    rw [c24 i, g24]
    by_cases q : i < nw
    · rw [if_pos q, s7]; exact hw i q 7 (by decide) (by decide)
    · rw [if_neg q, outw 7 i (by decide) (by decide) (by omega), t7, l24]
  · funext i
    rw [c25 i, g78]
    by_cases q : i < nw
    · rw [if_pos q, s8]; exact hw i q 8 (by decide) (by decide)
    · rw [if_neg q, outw 8 i (by decide) (by decide) (by omega), t8, l25]
  · funext i
    rw [c26 i, g79]
    by_cases q : i < nw
    · rw [if_pos q, s9]; exact hw i q 9 (by decide) (by decide)
    · rw [if_neg q, outw 9 i (by decide) (by decide) (by omega), t9, l26]
  · funext i
    rw [c27 i, g76]
    by_cases q : i < nw
    · rw [if_pos q, s10]; exact hw i q 10 (by decide) (by decide)
    · rw [if_neg q, outw 10 i (by decide) (by decide) (by omega), t10, l27]
  · funext i
    rw [c35 i, hcp i]
    by_cases q : i < nt
    · rw [if_pos q, if_pos q, s12]; exact hk i q
    · rw [if_neg q, if_neg q, l35]

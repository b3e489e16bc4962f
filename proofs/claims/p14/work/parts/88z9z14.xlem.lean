def mo_R2 (D : Nat → Nat → Int32) : Prop := (∀ i, 0 ≤ (D 17 i).toInt ∧ (D 17 i).toInt ≤ 199) ∧ (∀ i, 0 ≤ (D 5 i).toInt ∧ (D 5 i).toInt ≤ 9)
theorem mo_rnI {fv : Nat → Int32} {ar : Nat → Nat → Int32} {r : Int32} (h : wt_on r (fv 7) (fv 5) (ar 3)) : r = mx_rn fv ar := by
  unfold mx_rn
  rcases h with ⟨h1, h2⟩ | ⟨h1, h2, h3⟩ | ⟨h1, h2, h3⟩
  · rw [if_pos h1]; exact h2
  · rw [if_neg h1, if_pos h2]; exact h3
  · rw [if_neg h1, if_neg (by omega)]; exact h3
def mx_R (fv : Nat → Int32) (ar : Nat → Nat → Int32) : Prop := mo_R (mx_D fv ar) ∧ mo_GR (mx_G ar) ∧ mo_R2 (mx_D fv ar)
def mx_Y (fv : Nat → Int32) (ar : Nat → Nat → Int32) : Prop := mo_wy (mx_D fv ar) (mx_G ar) (fv 24).toInt.toNat (ar 58) (ar 59) (ar 60) (ar 61)
def mx_C (fv : Nat → Int32) (ar : Nat → Nat → Int32) : Prop := ∀ p : Nat, (p : Int) < (fv 10).toInt → (ar 64 p).toInt = mo_pc (mx_D fv ar) (ar 45 p) p
theorem mo_drI {D : Nat → Nat → Int32} {G : Nat → Int} {k : Nat} {v mf : Int32} {c : Int} (hp : mo_dp (D 19 4).toInt (D 7 (D 11 k).toInt.toNat).toInt = c) (hm : mf.toInt = mo_min (mo_ln D G k) c) (hv : v.toInt = if 1 < mf.toInt then mf.toInt else 1) : v.toInt = mo_dr D G k := by
  unfold mo_dr
  rw [hp, ← hm, hv]
  split <;> split <;> omega
theorem mx_cm_b {fv : Nat → Int32} {ar : Nat → Nat → Int32} (hR : mx_R fv ar) (hY : mx_Y fv ar) {i : Nat} (hi : (i : Int) < (fv 24).toInt) : 0 ≤ (ar 59 i).toInt ∧ (ar 59 i).toInt ≤ 1265 := by
  have hi2 : i < (fv 24).toInt.toNat := by omega
  rw [(hY.2 i hi2).1]
  have h9 := mo_cm_b hR.1 hR.2.1 (hY.1.1 i hi2).2.2.2
  omega
theorem mo_we_s {D : Nat → Nat → Int32} {G : Nat → Int} {p : Nat} {pc : Int} {sz n : Nat} {tr cm lh ow aw bs aw1 bs1 : Nat → Int32} {x : Int32} (hY : mo_wy D G sz tr cm lh ow) (hn : n < sz) (h : mo_we D G p pc n tr lh ow aw bs) (ha : ∀ j, j ≠ n → aw1 j = aw j) (hb : ∀ j, j ≠ n → bs1 j = bs j) (hx : aw1 n = x) (hxv : x.toInt = mo_mn (mo_ft D G p pc (tr n).toInt.toNat) (if (ow n).toInt = -1 then 10000000 else (bs (ow n).toInt.toNat).toInt)) (hy1 : mo_hd D p (tr n).toInt.toNat → (bs1 n).toInt = mo_mn (mo_b0 lh bs n) x.toInt) (hy0 : ¬ mo_hd D p (tr n).toInt.toNat → (bs1 n).toInt = mo_b0 lh bs n) : mo_we D G p pc (n + 1) tr lh ow aw1 bs1 := by
  have hla : ∀ i, i ≤ n → (if (ow i).toInt = -1 then 10000000 else (bs1 (ow i).toInt.toNat).toInt) = (if (ow i).toInt = -1 then 10000000 else (bs (ow i).toInt.toNat).toInt) ∧ mo_b0 lh bs1 i = mo_b0 lh bs i := by
    intro i hi
    have h9 := hY.2 i (by omega)
    refine ⟨?_, ?_⟩
    · rcases h9.2.2 with ⟨e, _⟩ | ⟨j, e, hj, _⟩
      · rw [if_pos e, if_pos e]
      · rw [if_neg (by omega), if_neg (by omega), hb _ (by omega)]
    · unfold mo_b0
      rcases h9.2.1 with ⟨e, _⟩ | ⟨j, e, hj, _⟩
      · rw [if_pos e, if_pos e]
      · rw [if_neg (by omega), if_neg (by omega), hb _ (by omega)]
  intro i hi
  obtain ⟨e1, e2⟩ := hla i (by omega)
  rw [e1, e2]
  by_cases q : i = n
  · subst q
    rw [hx]
    exact ⟨hxv, hy1, hy0⟩
  · rw [ha i q, hb i q]
    exact h i (by omega)
theorem mx_R_fr {M N : List Nat} {f f1 : Nat → Int32} {a a1 : Nat → Nat → Int32} (h : mx_R f a) (hf : fM M f f1) (ha : fA N a a1) (hf5 : M.contains 5 = false) (hf7 : M.contains 7 = false) (hf10 : M.contains 10 = false) (hf11 : M.contains 11 = false) (hf12 : M.contains 12 = false) (hf22 : M.contains 22 = false) (ha2 : N.contains 2 = false) (ha3 : N.contains 3 = false) (ha5 : N.contains 5 = false) (ha6 : N.contains 6 = false) (ha7 : N.contains 7 = false) (ha9 : N.contains 9 = false) (ha10 : N.contains 10 = false) (ha11 : N.contains 11 = false) (ha14 : N.contains 14 = false) (ha19 : N.contains 19 = false) (ha20 : N.contains 20 = false) (ha21 : N.contains 21 = false) (ha22 : N.contains 22 = false) (ha23 : N.contains 23 = false) (ha28 : N.contains 28 = false) (ha29 : N.contains 29 = false) (ha30 : N.contains 30 = false) (ha31 : N.contains 31 = false) (ha32 : N.contains 32 = false) (ha33 : N.contains 33 = false) (ha34 : N.contains 34 = false) : mx_R f1 a1 := by
  have f5 : f1 5 = f 5 := hf 5 hf5
  have f7 : f1 7 = f 7 := hf 7 hf7
  have f10 : f1 10 = f 10 := hf 10 hf10
  have f11 : f1 11 = f 11 := hf 11 hf11
  have f12 : f1 12 = f 12 := hf 12 hf12
  have f22 : f1 22 = f 22 := hf 22 hf22
  have r2 : a1 2 = a 2 := ha 2 ha2
  have r3 : a1 3 = a 3 := ha 3 ha3
  have r5 : a1 5 = a 5 := ha 5 ha5
  have r6 : a1 6 = a 6 := ha 6 ha6
  have r7 : a1 7 = a 7 := ha 7 ha7
  have r9 : a1 9 = a 9 := ha 9 ha9
  have r10 : a1 10 = a 10 := ha 10 ha10
  have r11 : a1 11 = a 11 := ha 11 ha11
  have r14 : a1 14 = a 14 := ha 14 ha14
  have r19 : a1 19 = a 19 := ha 19 ha19
  have r20 : a1 20 = a 20 := ha 20 ha20
  have r21 : a1 21 = a 21 := ha 21 ha21
  have r22 : a1 22 = a 22 := ha 22 ha22
  have r23 : a1 23 = a 23 := ha 23 ha23
  have r28 : a1 28 = a 28 := ha 28 ha28
  have r29 : a1 29 = a 29 := ha 29 ha29
  have r30 : a1 30 = a 30 := ha 30 ha30
  have r31 : a1 31 = a 31 := ha 31 ha31
  have r32 : a1 32 = a 32 := ha 32 ha32
  have r33 : a1 33 = a 33 := ha 33 ha33
  have r34 : a1 34 = a 34 := ha 34 ha34
  have eD : mx_D f1 a1 = mx_D f a := by unfold mx_D mx_rn; rw [f5, f7, f10, f11, f12, f22, r2, r3, r6, r7, r9, r10, r11, r14, r19, r20, r21, r22, r23, r28, r29, r30, r31, r32, r33, r34]
  have eG : mx_G a1 = mx_G a := by unfold mx_G; rw [r5]
  unfold mx_R at h ⊢
  rw [eD, eG]; exact h
theorem mx_Y_fr {M N : List Nat} {f f1 : Nat → Int32} {a a1 : Nat → Nat → Int32} (h : mx_Y f a) (hf : fM M f f1) (ha : fA N a a1) (hf5 : M.contains 5 = false) (hf7 : M.contains 7 = false) (hf10 : M.contains 10 = false) (hf11 : M.contains 11 = false) (hf12 : M.contains 12 = false) (hf22 : M.contains 22 = false) (hf24 : M.contains 24 = false) (ha2 : N.contains 2 = false) (ha3 : N.contains 3 = false) (ha5 : N.contains 5 = false) (ha6 : N.contains 6 = false) (ha7 : N.contains 7 = false) (ha9 : N.contains 9 = false) (ha10 : N.contains 10 = false) (ha11 : N.contains 11 = false) (ha14 : N.contains 14 = false) (ha19 : N.contains 19 = false) (ha20 : N.contains 20 = false) (ha21 : N.contains 21 = false) (ha22 : N.contains 22 = false) (ha23 : N.contains 23 = false) (ha28 : N.contains 28 = false) (ha29 : N.contains 29 = false) (ha30 : N.contains 30 = false) (ha31 : N.contains 31 = false) (ha32 : N.contains 32 = false) (ha33 : N.contains 33 = false) (ha34 : N.contains 34 = false) (ha58 : N.contains 58 = false) (ha59 : N.contains 59 = false) (ha60 : N.contains 60 = false) (ha61 : N.contains 61 = false) : mx_Y f1 a1 := by
  have f5 : f1 5 = f 5 := hf 5 hf5
  have f7 : f1 7 = f 7 := hf 7 hf7
  have f10 : f1 10 = f 10 := hf 10 hf10
  have f11 : f1 11 = f 11 := hf 11 hf11
  have f12 : f1 12 = f 12 := hf 12 hf12
  have f22 : f1 22 = f 22 := hf 22 hf22
  have f24 : f1 24 = f 24 := hf 24 hf24
  have r2 : a1 2 = a 2 := ha 2 ha2
  have r3 : a1 3 = a 3 := ha 3 ha3
  have r5 : a1 5 = a 5 := ha 5 ha5
  have r6 : a1 6 = a 6 := ha 6 ha6
  have r7 : a1 7 = a 7 := ha 7 ha7
  have r9 : a1 9 = a 9 := ha 9 ha9
  have r10 : a1 10 = a 10 := ha 10 ha10
  have r11 : a1 11 = a 11 := ha 11 ha11
  have r14 : a1 14 = a 14 := ha 14 ha14
  have r19 : a1 19 = a 19 := ha 19 ha19
  have r20 : a1 20 = a 20 := ha 20 ha20
  have r21 : a1 21 = a 21 := ha 21 ha21
  have r22 : a1 22 = a 22 := ha 22 ha22
  have r23 : a1 23 = a 23 := ha 23 ha23
  have r28 : a1 28 = a 28 := ha 28 ha28
  have r29 : a1 29 = a 29 := ha 29 ha29
  have r30 : a1 30 = a 30 := ha 30 ha30
  have r31 : a1 31 = a 31 := ha 31 ha31
  have r32 : a1 32 = a 32 := ha 32 ha32
  have r33 : a1 33 = a 33 := ha 33 ha33
  have r34 : a1 34 = a 34 := ha 34 ha34
  have r58 : a1 58 = a 58 := ha 58 ha58
  have r59 : a1 59 = a 59 := ha 59 ha59
  have r60 : a1 60 = a 60 := ha 60 ha60
  have r61 : a1 61 = a 61 := ha 61 ha61
  have eD : mx_D f1 a1 = mx_D f a := by unfold mx_D mx_rn; rw [f5, f7, f10, f11, f12, f22, r2, r3, r6, r7, r9, r10, r11, r14, r19, r20, r21, r22, r23, r28, r29, r30, r31, r32, r33, r34]
  have eG : mx_G a1 = mx_G a := by unfold mx_G; rw [r5]
  unfold mx_Y at h ⊢
  rw [eD, eG, f24, r58, r59, r60, r61]; exact h
theorem mx_C_fr {M N : List Nat} {f f1 : Nat → Int32} {a a1 : Nat → Nat → Int32} (h : mx_C f a) (hf : fM M f f1) (ha : fA N a a1) (hf5 : M.contains 5 = false) (hf7 : M.contains 7 = false) (hf10 : M.contains 10 = false) (hf11 : M.contains 11 = false) (hf12 : M.contains 12 = false) (hf22 : M.contains 22 = false) (ha2 : N.contains 2 = false) (ha3 : N.contains 3 = false) (ha6 : N.contains 6 = false) (ha7 : N.contains 7 = false) (ha9 : N.contains 9 = false) (ha10 : N.contains 10 = false) (ha11 : N.contains 11 = false) (ha14 : N.contains 14 = false) (ha19 : N.contains 19 = false) (ha20 : N.contains 20 = false) (ha21 : N.contains 21 = false) (ha22 : N.contains 22 = false) (ha23 : N.contains 23 = false) (ha28 : N.contains 28 = false) (ha29 : N.contains 29 = false) (ha30 : N.contains 30 = false) (ha31 : N.contains 31 = false) (ha32 : N.contains 32 = false) (ha33 : N.contains 33 = false) (ha34 : N.contains 34 = false) (ha45 : N.contains 45 = false) (ha64 : N.contains 64 = false) : mx_C f1 a1 := by
  have f5 : f1 5 = f 5 := hf 5 hf5
  have f7 : f1 7 = f 7 := hf 7 hf7
  have f10 : f1 10 = f 10 := hf 10 hf10
  have f11 : f1 11 = f 11 := hf 11 hf11
  have f12 : f1 12 = f 12 := hf 12 hf12
  have f22 : f1 22 = f 22 := hf 22 hf22
  have r2 : a1 2 = a 2 := ha 2 ha2
  have r3 : a1 3 = a 3 := ha 3 ha3
  have r6 : a1 6 = a 6 := ha 6 ha6
  have r7 : a1 7 = a 7 := ha 7 ha7
  have r9 : a1 9 = a 9 := ha 9 ha9
  have r10 : a1 10 = a 10 := ha 10 ha10
  have r11 : a1 11 = a 11 := ha 11 ha11
  have r14 : a1 14 = a 14 := ha 14 ha14
  have r19 : a1 19 = a 19 := ha 19 ha19
  have r20 : a1 20 = a 20 := ha 20 ha20
  have r21 : a1 21 = a 21 := ha 21 ha21
  have r22 : a1 22 = a 22 := ha 22 ha22
  have r23 : a1 23 = a 23 := ha 23 ha23
  have r28 : a1 28 = a 28 := ha 28 ha28
  have r29 : a1 29 = a 29 := ha 29 ha29
  have r30 : a1 30 = a 30 := ha 30 ha30
  have r31 : a1 31 = a 31 := ha 31 ha31
  have r32 : a1 32 = a 32 := ha 32 ha32
  have r33 : a1 33 = a 33 := ha 33 ha33
  have r34 : a1 34 = a 34 := ha 34 ha34
  have r45 : a1 45 = a 45 := ha 45 ha45
  have r64 : a1 64 = a 64 := ha 64 ha64
  have eD : mx_D f1 a1 = mx_D f a := by unfold mx_D mx_rn; rw [f5, f7, f10, f11, f12, f22, r2, r3, r6, r7, r9, r10, r11, r14, r19, r20, r21, r22, r23, r28, r29, r30, r31, r32, r33, r34]
  unfold mx_C at h ⊢
  rw [eD, f10, r45, r64]; exact h

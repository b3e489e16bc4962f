def mm_W (fv : Nat → Int32) (ar : Nat → Nat → Int32) : List (Int × Int × List (Nat × Nat × Int)) := if (cd_nw (fun i => (ar 49 (i - 1)).toInt) (fv 3).toInt ((fv 58).toInt.toNat)).1 = 0 then [] else cd_LM ar ((cd_nw (fun i => (ar 49 (i - 1)).toInt) (fv 3).toInt ((fv 58).toInt.toNat)).1 - 1)
theorem cd_LM_fr {N : List Nat} {a a1 : Nat → Nat → Int32} (ha : fA N a a1) (k47 : N.contains 47 = false) (k50 : N.contains 50 = false) (k51 : N.contains 51 = false) (k52 : N.contains 52 = false) (k53 : N.contains 53 = false) (k54 : N.contains 54 = false) (k55 : N.contains 55 = false) (k56 : N.contains 56 = false) : cd_LM a1 = cd_LM a := by
  funext b
  unfold cd_LM
  have h : cd_gM a1 b = cd_gM a b := by
    funext i
    unfold cd_gM
    rw [ha 50 k50, ha 51 k51, ha 52 k52, ha 53 k53, ha 54 k54, ha 55 k55, ha 56 k56]
  rw [h, ha 47 k47]
theorem mm_W_fr {M N : List Nat} {f f1 : Nat → Int32} {a a1 : Nat → Nat → Int32} (hf : fM M f f1) (ha : fA N a a1) (hM : ([3, 58] : List Nat).all (fun k => !M.contains k) = true) (hN : ([47, 49, 50, 51, 52, 53, 54, 55, 56] : List Nat).all (fun k => !N.contains k) = true) : mm_W f1 a1 = mm_W f a := by
  unfold mm_W
  rw [cd_LM_fr ha (mm_nin hN (by decide)) (mm_nin hN (by decide)) (mm_nin hN (by decide)) (mm_nin hN (by decide)) (mm_nin hN (by decide)) (mm_nin hN (by decide)) (mm_nin hN (by decide)) (mm_nin hN (by decide)), hf 3 (mm_nin hM (by decide)), hf 58 (mm_nin hM (by decide)), ha 49 (mm_nin hN (by decide))]
def mm_L (fv : Nat → Int32) (ar : Nat → Nat → Int32) : Prop := (∀ b : Nat, (b : Int) < (fv 58).toInt → ∀ l ∈ cd_LM ar b, cd_gd l ∧ (l.1 = 1 → l.2.1 = 0 ∨ l.2.1 = 1)) ∧ ∀ i : Nat, (i : Int) < (fv 58).toInt → 0 ≤ (ar 49 i).toInt
theorem mm_L_fr {M N : List Nat} {f f1 : Nat → Int32} {a a1 : Nat → Nat → Int32} (h : mm_L f a) (hf : fM M f f1) (ha : fA N a a1) (h58 : M.contains 58 = false) (k47 : N.contains 47 = false) (k49 : N.contains 49 = false) (k50 : N.contains 50 = false) (k51 : N.contains 51 = false) (k52 : N.contains 52 = false) (k53 : N.contains 53 = false) (k54 : N.contains 54 = false) (k55 : N.contains 55 = false) (k56 : N.contains 56 = false) : mm_L f1 a1 := by
  unfold mm_L
  rw [cd_LM_fr ha k47 k50 k51 k52 k53 k54 k55 k56, hf 58 h58, ha 49 k49]
  exact h
theorem cd_fv_in {f : Nat → Int} {k : Int} {P : Int → Prop} (h0 : P 0) : ∀ W : List (Int × Int × List (Nat × Nat × Int)), (∀ l ∈ W, l.1 = k → P l.2.1) → P (cd_fv f k W)
  | [], _ => h0
  | x :: r, h => by
    show P (if x.1 = k ∧ cd_ho f x.2.2 = true then x.2.1 else cd_fv f k r)
    by_cases q : x.1 = k ∧ cd_ho f x.2.2 = true
    · rw [if_pos q]; exact h x (List.mem_cons_self ..) q.1
    · rw [if_neg q]; exact cd_fv_in h0 r (fun l hl => h l (List.mem_cons_of_mem _ hl))
theorem mm_W_in {fv : Nat → Int32} {ar : Nat → Nat → Int32} (h : mm_L fv ar) (h0 : 0 ≤ (fv 58).toInt) : ∀ l ∈ mm_W fv ar, cd_gd l ∧ (l.1 = 1 → l.2.1 = 0 ∨ l.2.1 = 1) := by
  intro l hl
  unfold mm_W at hl
  by_cases q : (cd_nw (fun i => (ar 49 (i - 1)).toInt) (fv 3).toInt ((fv 58).toInt.toNat)).1 = 0
  · rw [if_pos q] at hl; exact absurd hl (List.not_mem_nil)
  · rw [if_neg q] at hl
    have h9 := cd_nw_le (fun i => (ar 49 (i - 1)).toInt) (fv 3).toInt ((fv 58).toInt.toNat)
    exact h.1 _ (by omega) l hl
theorem mm_A1 {fv : Nat → Int32} {ar : Nat → Nat → Int32} (h : mm_L fv ar) (h0 : 0 ≤ (fv 58).toInt) (D : Nat → Nat → Int32) (t : Nat) (n ti : Int) : (mo_A D (mm_W fv ar) t 1 n ti).toInt = 0 ∨ (mo_A D (mm_W fv ar) t 1 n ti).toInt = 1 := by
  have key : ∀ F tx, cd_av F 1 tx (mm_W fv ar) = 0 ∨ cd_av F 1 tx (mm_W fv ar) = 1 := by
    intro F tx
    unfold cd_av
    by_cases q : cd_al F 1 tx (mm_W fv ar) = -1
    · rw [if_pos q]; exact Or.inl (by unfold cd_pl; rfl)
    · rw [if_neg q]
      exact cd_fv_in (P := fun z => z = 0 ∨ z = 1) (Or.inl rfl) _ (fun l hl => (mm_W_in h h0 l hl).2)
  unfold mo_A
  rcases key (cd_fc (D 7 (D 11 t).toInt.toNat).toInt (D 10 (D 11 t).toInt.toNat).toInt (D 9 (D 11 t).toInt.toNat).toInt (D 19 4).toInt (D 14 t).toInt (D 19 3).toInt (D 12 t).toInt (D 13 t).toInt (cd_ri ((1 : Nat) : Int) n) ti) (decide ((D 7 (D 11 t).toInt.toNat).toInt = 2)) with w | w
  · left
    show (Int32.ofInt (cd_av _ 1 _ (mm_W fv ar))).toInt = 0
    rw [w]; decide
  · right
    show (Int32.ofInt (cd_av _ 1 _ (mm_W fv ar))).toInt = 1
    rw [w]; decide
theorem mm_rf (fv : Nat → Int32) (ar : Nat → Nat → Int32) : (mm_rn fv ar).toInt = wt_rf (fv 3) (fv 7) (ar 5) := by
  unfold mm_rn wt_rf
  by_cases h : (fv 7).toInt = 0
  · rw [if_pos h, if_pos h]; decide
  · rw [if_neg h, if_neg h]
    by_cases q : (fv 3).toInt < (fv 7).toInt
    · rw [if_pos q, if_pos q]
    · rw [if_neg q, if_neg q]; decide
theorem mm_askA {w9 : Nat → Int32} {fv : Nat → Int32} {ar : Nat → Nat → Int32} {r a : Int32} {k what : Nat} {n ti : Int} {W : List (Int × Int × List (Nat × Nat × Int))} (h : r.toInt = cd_av (cd_fc (ar 20 ((ar 25 k).toInt.toNat)).toInt (ar 23 ((ar 25 k).toInt.toNat)).toInt (ar 22 ((ar 25 k).toInt.toNat)).toInt (wt_rf (fv 3) (fv 7) (ar 5)) (ar 28 k).toInt (fv 3).toInt (ar 26 k).toInt (ar 27 k).toInt (cd_ri a.toInt n) ti) a.toInt (decide ((ar 20 ((ar 25 k).toInt.toNat)).toInt = 2)) W) (hw : a.toInt = (what : Int)) : r = mo_A (mm_D w9 fv ar) W k what n ti := by
  rw [← mo_i32i r, h, hw, ← mm_rf]
  rfl
def mm_9 (fv : Nat → Int32) (ar : Nat → Nat → Int32) : Prop := ∀ i : Nat, (i : Int) < (fv 34).toInt → (ar 79 i).toInt = 0 ∨ (ar 79 i).toInt = 1
theorem mm_9_fr {M N : List Nat} {f f1 : Nat → Int32} {a a1 : Nat → Nat → Int32} (h : mm_9 f a) (hf : fM M f f1) (ha : fA N a a1) (h34 : M.contains 34 = false) (k79 : N.contains 79 = false) : mm_9 f1 a1 := by
  unfold mm_9; rw [hf 34 h34, ha 79 k79]; exact h
theorem mm_9_st {fv : Nat → Int32} {ar ar1 : Nat → Nat → Int32} {n : Nat} {x : Int32} (h : mm_9 fv ar) (e : ar1 = upM ar 79 (upd (ar 79) n x)) (hx : x.toInt = 0 ∨ x.toInt = 1) : mm_9 fv ar1 := by
  subst e
  intro i hi
  show ((if i = n then x else ar 79 i)).toInt = 0 ∨ ((if i = n then x else ar 79 i)).toInt = 1
  by_cases q : i = n
  · rw [if_pos q]; exact hx
  · rw [if_neg q]; exact h i hi
theorem mo_mbp_row {D : Nat → Nat → Int32} {t : Nat} {fare : Int32} {seats : Int} {m9 : Nat} {x : (Nat → Nat → Int32) × Int} {p r : Nat} (h : 8 ≤ r) (h13 : r ≠ 13) : (mo_mbp D t fare seats m9 x p).1 r = x.1 r := by
  unfold mo_mbp
  split
  · show mo_mb1 D t fare x.1 p r = _
    unfold mo_mb1
    rw [mo_se_rw (by omega), mo_ea_row (by omega) h13, mo_se_rw (by omega)]
  · rfl
theorem mo_mbi_row {D : Nat → Nat → Int32} {t : Nat} {fare : Int32} {seats : Int} {m9 : Nat} {x : (Nat → Nat → Int32) × Int} {r : Nat} (h : 8 ≤ r) (h13 : r ≠ 13) : ∀ n, (mo_mbi D t fare seats m9 x n).1 r = x.1 r
  | 0 => rfl
  | n + 1 => by
    show (mo_mbp D t fare seats m9 (mo_mbi D t fare seats m9 x n) n).1 r = _
    rw [mo_mbp_row h h13]; exact mo_mbi_row h h13 n
theorem mo_mbo_row {D : Nat → Nat → Int32} {t : Nat} {fare : Int32} {seats : Int} {np : Nat} {x : (Nat → Nat → Int32) × Int} {r : Nat} (h : 8 ≤ r) (h13 : r ≠ 13) : ∀ n, (mo_mbo D t fare seats np x n).1 r = x.1 r
  | 0 => rfl
  | n + 1 => by
    show (mo_mbi D t fare seats n (mo_mbo D t fare seats np x n) np).1 r = _
    rw [mo_mbi_row h h13]; exact mo_mbo_row h h13 n
theorem mo_mbp_full {D : Nat → Nat → Int32} {t : Nat} {fare : Int32} {seats : Int} {m9 : Nat} {x : (Nat → Nat → Int32) × Int} {p : Nat} (h : seats ≤ x.2) : mo_mbp D t fare seats m9 x p = x := if_neg (fun w => by have := w.1; omega)
theorem mo_mbi_stop {D : Nat → Nat → Int32} {t : Nat} {fare : Int32} {seats : Int} {m9 : Nat} {x : (Nat → Nat → Int32) × Int} {n : Nat} (h : seats ≤ (mo_mbi D t fare seats m9 x n).2) : ∀ k, mo_mbi D t fare seats m9 x (n + k) = mo_mbi D t fare seats m9 x n
  | 0 => rfl
  | k + 1 => by
    show mo_mbp D t fare seats m9 (mo_mbi D t fare seats m9 x (n + k)) (n + k) = _
    rw [mo_mbi_stop h k]; exact mo_mbp_full h
theorem mo_mbi_full {D : Nat → Nat → Int32} {t : Nat} {fare : Int32} {seats : Int} {m9 : Nat} {x : (Nat → Nat → Int32) × Int} (h : seats ≤ x.2) (n : Nat) : mo_mbi D t fare seats m9 x n = x := by
  have h9 := mo_mbi_stop (D := D) (t := t) (fare := fare) (m9 := m9) (x := x) (n := 0) h n
  rw [Nat.zero_add] at h9; exact h9
theorem mo_mbo_stop {D : Nat → Nat → Int32} {t : Nat} {fare : Int32} {seats : Int} {np : Nat} {x : (Nat → Nat → Int32) × Int} {n : Nat} (h : seats ≤ (mo_mbo D t fare seats np x n).2) : ∀ k, mo_mbo D t fare seats np x (n + k) = mo_mbo D t fare seats np x n
  | 0 => rfl
  | k + 1 => by
    show mo_mbi D t fare seats (n + k) (mo_mbo D t fare seats np x (n + k)) np = _
    rw [mo_mbo_stop h k]; exact mo_mbi_full h np
theorem mm_mbi_e {D : Nat → Nat → Int32} {t : Nat} {fare : Int32} {seats : Int} {m9 np j : Nat} {x y : (Nat → Nat → Int32) × Int} (h : y = mo_mbi D t fare seats m9 (mo_mbo D t fare seats np x m9) j) (hj : j ≤ np) (he : j = np ∨ seats ≤ y.2) : y = mo_mbo D t fare seats np x (m9 + 1) := by
  show y = mo_mbi D t fare seats m9 (mo_mbo D t fare seats np x m9) np
  rcases he with w | w
  · rw [h, w]
  · rw [h] at w
    have h9 := mo_mbi_stop w (np - j)
    rw [show j + (np - j) = np from by omega] at h9
    rw [h9]; exact h
theorem mm_mbo_e {D : Nat → Nat → Int32} {t : Nat} {fare : Int32} {seats : Int} {m9 np : Nat} {x y : (Nat → Nat → Int32) × Int} (h : y = mo_mbo D t fare seats np x m9) (hj : m9 ≤ 720) (he : m9 = 720 ∨ seats ≤ y.2) : y = mo_mbo D t fare seats np x 720 := by
  rcases he with w | w
  · rw [h, w]
  · rw [h] at w
    have h9 := mo_mbo_stop w (720 - m9)
    rw [show m9 + (720 - m9) = 720 from by omega] at h9
    rw [h9]; exact h
theorem mm_mbp_y {D : Nat → Nat → Int32} {t : Nat} {fare : Int32} {seats : Int} {m9 p : Nat} {T X : Nat → Nat → Int32} {c c1 : Int} (hc : c < seats ∧ (D 3 p).toInt = (m9 : Int) ∧ (T 6 p).toInt = 2 ∧ (T 5 p).toInt = (t : Int) ∧ fare.toInt ≤ (T 0 p).toInt) (hX : X = mo_mb1 D t fare T p) (h1 : c1 = c + 1) : (X, c1) = mo_mbp D t fare seats m9 (T, c) p := by
  unfold mo_mbp
  rw [if_pos hc, hX, h1]
theorem mm_mbp_n {D : Nat → Nat → Int32} {t : Nat} {fare : Int32} {seats : Int} {m9 p : Nat} {T X : Nat → Nat → Int32} {c : Int} (hc : ¬ (c < seats ∧ (D 3 p).toInt = (m9 : Int) ∧ (T 6 p).toInt = 2 ∧ (T 5 p).toInt = (t : Int) ∧ fare.toInt ≤ (T 0 p).toInt)) (hX : X = T) : (X, c) = mo_mbp D t fare seats m9 (T, c) p := by
  unfold mo_mbp
  rw [if_neg hc, hX]
theorem mm_mb1_t {D T X : Nat → Nat → Int32} {t p w : Nat} {fare v x : Int32} (hw : mo_w D t = w) (hk : (D 7 w).toInt = 2) (hv : v = T 0 p - fare) (hx : x = mo_cut (T 7 w + fare)) (hX : X = mo_se (mo_se (mo_se T 0 p v) 7 w x) 6 p 3) : X = mo_mb1 D t fare T p := by
  unfold mo_mb1 mo_ea
  rw [hw, if_pos hk, hX, hx, hv, mo_se_rw (by decide)]
theorem mm_mb1_f {D T X : Nat → Nat → Int32} {t p w : Nat} {fare v x : Int32} (hw : mo_w D t = w) (hk : ¬ (D 7 w).toInt = 2) (hv : v = T 0 p - fare) (hx : x = mo_cut (T 13 0 + fare)) (hX : X = mo_se (mo_se (mo_se T 0 p v) 13 0 x) 6 p 3) : X = mo_mb1 D t fare T p := by
  unfold mo_mb1 mo_ea
  rw [hw, if_neg hk, hX, hx, hv, mo_se_rw (by decide)]
theorem mm_lv_n {D : Nat → Nat → Int32} {G : Nat → Int} {A : Nat → Nat → Int → Int → Int32} {np t : Nat} {m : Int} {T X : Nat → Nat → Int32} (hno : mo_no D G A t T) (hX : X = mo_se T 12 t (-2)) : X = mo_mlv D G A np t m T := by
  unfold mo_mlv
  rw [mo_ii_y hno]; exact hX
theorem mm_lv_8 {D : Nat → Nat → Int32} {t np : Nat} {fare v : Int32} {n ti : Int} {w : Nat} {T T2 T3 : Nat → Nat → Int32} (hti : (T 8 w).toInt = ti) (h2 : T2 = mo_se (mo_se T 12 t (-2)) 13 0 v) (h3 : (T3, n) = mo_mbo D t fare (mo_seats D t : Int) np (T2, 0) 720) : (T3 8 w).toInt = ti := by
  have h9 : T3 = (mo_mbo D t fare (mo_seats D t : Int) np (T2, 0) 720).1 := congrArg (fun z => z.1) h3
  rw [h9, mo_mbo_row (by omega) (by omega)]
  show (T2 8 w).toInt = ti
  rw [h2, mo_se_rw (by decide), mo_se_rw (by decide)]; exact hti
theorem mm_lv_0 {D : Nat → Nat → Int32} {G : Nat → Int} {A : Nat → Nat → Int → Int → Int32} {np t : Nat} {m n ti : Int} {T T2 T3 X : Nat → Nat → Int32} (hti : (T 8 (mo_w D t)).toInt = ti) (hno : ¬ mo_no D G A t T) (h2 : T2 = mo_se (mo_se T 12 t (-2)) 13 0 (T 13 0 - A t 5 0 ti)) (h3 : (T3, n) = mo_mbo D t (A t 2 0 ti) (mo_seats D t : Int) np (T2, 0) 720) (h1 : (A t 1 n ti).toInt = 0) (hX : X = mo_mo D G np t m n 0 T3) : X = mo_mlv D G A np t m T := by
  have h8 := mm_lv_8 hti h2 h3
  unfold mo_mlv
  rw [mo_ii_n hno, hti, ← h2, ← h3]
  show X = mo_mg2 D G A np t m n T3
  unfold mo_mg2
  rw [h8, mo_ii_y h1]; exact hX
theorem mm_lv_1 {D : Nat → Nat → Int32} {G : Nat → Int} {A : Nat → Nat → Int → Int → Int32} {np t : Nat} {m n ti : Int} {T T2 T3 X : Nat → Nat → Int32} (hti : (T 8 (mo_w D t)).toInt = ti) (hno : ¬ mo_no D G A t T) (h2 : T2 = mo_se (mo_se T 12 t (-2)) 13 0 (T 13 0 - A t 5 0 ti)) (h3 : (T3, n) = mo_mbo D t (A t 2 0 ti) (mo_seats D t : Int) np (T2, 0) 720) (h1 : ¬ (A t 1 n ti).toInt = 0) (h4 : (A t 4 n ti).toInt ≤ (mo_pay D T3 (mo_w D t)).toInt) (hX : X = mo_mo D G np t m n (A t 3 n ti) (mo_xp D (mo_w D t) (A t 4 n ti) (mo_se T3 8 (mo_w D t) (T3 8 (mo_w D t) + 1)))) : X = mo_mlv D G A np t m T := by
  have h8 := mm_lv_8 hti h2 h3
  unfold mo_mlv
  rw [mo_ii_n hno, hti, ← h2, ← h3]
  show X = mo_mg2 D G A np t m n T3
  unfold mo_mg2
  rw [h8, mo_ii_n h1, mo_ii_y h4]; exact hX
theorem mm_lv_2 {D : Nat → Nat → Int32} {G : Nat → Int} {A : Nat → Nat → Int → Int → Int32} {np t : Nat} {m n ti : Int} {T T2 T3 X : Nat → Nat → Int32} (hti : (T 8 (mo_w D t)).toInt = ti) (hno : ¬ mo_no D G A t T) (h2 : T2 = mo_se (mo_se T 12 t (-2)) 13 0 (T 13 0 - A t 5 0 ti)) (h3 : (T3, n) = mo_mbo D t (A t 2 0 ti) (mo_seats D t : Int) np (T2, 0) 720) (h1 : ¬ (A t 1 n ti).toInt = 0) (h4 : ¬ (A t 4 n ti).toInt ≤ (mo_pay D T3 (mo_w D t)).toInt) (hX : X = mo_fo (mo_mq1 t) (mo_se (mo_se T3 8 (mo_w D t) (T3 8 (mo_w D t) + 1)) 9 (mo_w D t) 1) np) : X = mo_mlv D G A np t m T := by
  have h8 := mm_lv_8 hti h2 h3
  unfold mo_mlv
  rw [mo_ii_n hno, hti, ← h2, ← h3]
  show X = mo_mg2 D G A np t m n T3
  unfold mo_mg2
  rw [h8, mo_ii_n h1, mo_ii_n h4]; exact hX
theorem mm_mo {D : Nat → Nat → Int32} {G : Nat → Int} {np t w : Nat} {m n : Int} {held r v10 v11 : Int32} {T T4 X : Nat → Nat → Int32} (hw : mo_w D t = w) (hr : r.toInt = n) (h10 : v10 = D 13 t) (h11 : v11 = Int32.ofInt m + held + Int32.ofInt (mo_dr D G t)) (h4 : T4 = mo_se (mo_se (mo_se T 12 t r) 10 w v10) 11 w v11) (hX : X = mo_fo (mo_mr1 t) T4 np) : X = mo_mo D G np t m n held T := by
  unfold mo_mo mo_cv
  rw [hw, ← hr, mo_i32i, ← h10, ← h11, ← h4]; exact hX
theorem mm_xp_t {D T X : Nat → Nat → Int32} {w : Nat} {fine v : Int32} (hk : (D 7 w).toInt = 2) (hv : v = T 7 w - fine) (hX : X = mo_se T 7 w v) : X = mo_xp D w fine T := by
  unfold mo_xp; rw [if_pos hk, ← hv]; exact hX
theorem mm_xp_f {D T X : Nat → Nat → Int32} {w : Nat} {fine v : Int32} (hk : ¬ (D 7 w).toInt = 2) (hv : v = T 13 0 - fine) (hX : X = mo_se T 13 0 v) : X = mo_xp D w fine T := by
  unfold mo_xp; rw [if_neg hk, ← hv]; exact hX
theorem mm_cutI {v r : Int32} (h : (1000000 < v.toInt → r = 1000000) ∧ (v.toInt ≤ 1000000 → r = v)) : r = mo_cut v := by
  unfold mo_cut
  by_cases q : 1000000 < v.toInt
  · rw [if_pos q]; exact h.1 q
  · rw [if_neg q]; exact h.2 (by omega)

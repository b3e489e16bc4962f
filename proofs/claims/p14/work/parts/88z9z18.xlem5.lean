def mo_A (D : Nat → Nat → Int32) (W : List (Int × Int × List (Nat × Nat × Int))) (t what : Nat) (n ti : Int) : Int32 := Int32.ofInt (cd_av (cd_fc (D 7 (D 11 t).toInt.toNat).toInt (D 10 (D 11 t).toInt.toNat).toInt (D 9 (D 11 t).toInt.toNat).toInt (D 19 4).toInt (D 14 t).toInt (D 19 3).toInt (D 12 t).toInt (D 13 t).toInt (cd_ri (what : Int) n) ti) (what : Int) (decide ((D 7 (D 11 t).toInt.toNat).toInt = 2)) W)
theorem mx_rf (fv : Nat → Int32) (ar : Nat → Nat → Int32) : (mx_rn fv ar).toInt = wt_rf (fv 7) (fv 5) (ar 3) := by
  unfold mx_rn wt_rf
  by_cases h : (fv 5).toInt = 0
  · rw [if_pos h, if_pos h]; decide
  · rw [if_neg h, if_neg h]
    by_cases q : (fv 7).toInt < (fv 5).toInt
    · rw [if_pos q, if_pos q]
    · rw [if_neg q, if_neg q]; decide
theorem mx_askA {fv : Nat → Int32} {ar : Nat → Nat → Int32} {r a : Int32} {k what : Nat} {n ti : Int} {W : List (Int × Int × List (Nat × Nat × Int))} (h : r.toInt = cd_av (cd_fc (ar 20 ((ar 28 k).toInt.toNat)).toInt (ar 23 ((ar 28 k).toInt.toNat)).toInt (ar 22 ((ar 28 k).toInt.toNat)).toInt (wt_rf (fv 7) (fv 5) (ar 3)) (ar 31 k).toInt (fv 7).toInt (ar 29 k).toInt (ar 30 k).toInt (cd_ri a.toInt n) ti) a.toInt (decide ((ar 20 ((ar 28 k).toInt.toNat)).toInt = 2)) W) (hw : a.toInt = (what : Int)) : r = mo_A (mx_D fv ar) W k what n ti := by
  rw [← mo_i32i r, h, hw, ← mx_rf]
  rfl
theorem mo_xs_row {D : Nat → Nat → Int32} {t : Nat} {fare : Int32} {np : Nat} {S : Nat → Nat → Int32} {r : Nat} (h : 8 ≤ r) (h13 : r ≠ 13) : ∀ j, mo_xs D t fare np S j r = S r := by
  intro j
  induction j with
  | zero => rfl
  | succ j ih =>
    show (if mo_fi D (mo_xs D t fare np S j) t fare np = -1 then mo_xs D t fare np S j else mo_xb1 D t fare (mo_xs D t fare np S j) (mo_fi D (mo_xs D t fare np S j) t fare np).toNat) r = _
    split
    · exact ih
    · unfold mo_xb1
      rw [mo_ea_row (by omega) h13, mo_se_rw (by omega), mo_se_rw (by omega), mo_se_rw (by omega)]
      exact ih
theorem mo_xsn_n {D : Nat → Nat → Int32} {G : Nat → Int} {A : Nat → Nat → Int → Int → Int32} {np t : Nat} {m : Int} {S T : Nat → Nat → Int32} (hno : mo_no D G A t S) (hT : T = mo_se S 12 t (-2)) : T = mo_xsn D G A np t m S := by
  unfold mo_xsn
  rw [mo_ii_y hno, hT]
theorem mo_xsn_8 {D : Nat → Nat → Int32} {t : Nat} {fare : Int32} {np w : Nat} {S S2 S3 : Nat → Nat → Int32} {g : Int32} {j : Nat} (h2 : S2 = mo_se (mo_se S 12 t (-2)) 13 0 g) (h3 : S3 = mo_xs D t fare np S2 j) : S3 8 w = S 8 w := by
  rw [h3, mo_xs_row (by decide) (by decide), h2, mo_se_rw (by decide), mo_se_rw (by decide)]
theorem mo_xsn_0 {D : Nat → Nat → Int32} {G : Nat → Int} {A : Nat → Nat → Int → Int → Int32} {np t : Nat} {m n ti : Int} {S S2 S3 T : Nat → Nat → Int32} (hti : (S 8 (mo_w D t)).toInt = ti) (hno : ¬ mo_no D G A t S) (h2 : S2 = mo_se (mo_se S 12 t (-2)) 13 0 (S 13 0 - A t 5 0 ti)) (h3 : S3 = mo_xs D t (A t 2 0 ti) np S2 (mo_seats D t)) (hn : n = mo_xn D t (A t 2 0 ti) np S2 (mo_seats D t)) (h1 : (A t 1 n ti).toInt = 0) (hT : T = mo_xo D G np t m n 0 S3) : T = mo_xsn D G A np t m S := by
  have e8 := mo_xsn_8 (w := mo_w D t) h2 h3
  unfold mo_xsn
  rw [mo_ii_n hno, hti, ← h2, ← h3, ← hn]
  unfold mo_xg
  rw [e8, hti, mo_ii_y h1, hT]
theorem mo_xsn_1 {D : Nat → Nat → Int32} {G : Nat → Int} {A : Nat → Nat → Int → Int → Int32} {np t : Nat} {m n ti : Int} {S S2 S3 T : Nat → Nat → Int32} (hti : (S 8 (mo_w D t)).toInt = ti) (hno : ¬ mo_no D G A t S) (h2 : S2 = mo_se (mo_se S 12 t (-2)) 13 0 (S 13 0 - A t 5 0 ti)) (h3 : S3 = mo_xs D t (A t 2 0 ti) np S2 (mo_seats D t)) (hn : n = mo_xn D t (A t 2 0 ti) np S2 (mo_seats D t)) (h1 : ¬ (A t 1 n ti).toInt = 0) (h4 : (A t 4 n (S3 8 (mo_w D t)).toInt).toInt ≤ (mo_pay D S3 (mo_w D t)).toInt) (hT : T = mo_xo D G np t m n (A t 3 n (S3 8 (mo_w D t)).toInt) (mo_xp D (mo_w D t) (A t 4 n (S3 8 (mo_w D t)).toInt) (mo_se S3 8 (mo_w D t) (S3 8 (mo_w D t) + 1)))) : T = mo_xsn D G A np t m S := by
  have e8 := mo_xsn_8 (w := mo_w D t) h2 h3
  unfold mo_xsn
  rw [mo_ii_n hno, hti, ← h2, ← h3, ← hn]
  unfold mo_xg
  rw [mo_ii_n (by rw [e8, hti]; exact h1), mo_ii_y h4, hT]
theorem mo_xsn_2 {D : Nat → Nat → Int32} {G : Nat → Int} {A : Nat → Nat → Int → Int → Int32} {np t : Nat} {m n ti : Int} {S S2 S3 T : Nat → Nat → Int32} (hti : (S 8 (mo_w D t)).toInt = ti) (hno : ¬ mo_no D G A t S) (h2 : S2 = mo_se (mo_se S 12 t (-2)) 13 0 (S 13 0 - A t 5 0 ti)) (h3 : S3 = mo_xs D t (A t 2 0 ti) np S2 (mo_seats D t)) (hn : n = mo_xn D t (A t 2 0 ti) np S2 (mo_seats D t)) (h1 : ¬ (A t 1 n ti).toInt = 0) (h4 : ¬ (A t 4 n (S3 8 (mo_w D t)).toInt).toInt ≤ (mo_pay D S3 (mo_w D t)).toInt) (hT : T = mo_fo (mo_xq1 D t) (mo_se (mo_se S3 8 (mo_w D t) (S3 8 (mo_w D t) + 1)) 9 (mo_w D t) 1) np) : T = mo_xsn D G A np t m S := by
  have e8 := mo_xsn_8 (w := mo_w D t) h2 h3
  unfold mo_xsn
  rw [mo_ii_n hno, hti, ← h2, ← h3, ← hn]
  unfold mo_xg
  rw [mo_ii_n (by rw [e8, hti]; exact h1), mo_ii_n h4, hT]
theorem mo_xo_of {D : Nat → Nat → Int32} {G : Nat → Int} {np t : Nat} {m n : Int} {b held r : Int32} {S3 S4 T : Nat → Nat → Int32} (hm : b.toInt = m) (hr : r.toInt = n) (h4 : S4 = mo_se S3 12 t r) (hT : T = mo_fo (mo_xr1 D t) (mo_mk (mo_se (mo_se S4 10 (mo_w D t) (D 13 t)) 11 (mo_w D t) (b + held + Int32.ofInt (mo_dr D G t))) (b + held + Int32.ofInt (mo_dr D G t))) np) : T = mo_xo D G np t m n held S3 := by
  unfold mo_xo mo_cv
  rw [hT, h4, ← hm, ← hr, mo_i32i, mo_i32i]

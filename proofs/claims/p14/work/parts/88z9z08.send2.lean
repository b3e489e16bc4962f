def mo_mk (S : Nat → Nat → Int32) (v : Int32) : Nat → Nat → Int32 := if 0 ≤ v.toInt ∧ v.toInt < 840 then mo_se S 14 v.toInt.toNat 1 else S
def mo_xr1 (D : Nat → Nat → Int32) (t : Nat) (S : Nat → Nat → Int32) (p : Nat) : Nat → Nat → Int32 := if (S 6 p).toInt = (D 11 t).toInt then mo_se S 4 p (S 4 p + 1) else S
def mo_mr1 (t : Nat) (T : Nat → Nat → Int32) (p : Nat) : Nat → Nat → Int32 := if (T 6 p).toInt = 3 ∧ (T 5 p).toInt = (t : Int) then mo_se T 4 p (T 4 p + 1) else T
def mo_cv (D : Nat → Nat → Int32) (G : Nat → Int) (t : Nat) (m : Int) (held : Int32) : Int32 := Int32.ofInt m + held + Int32.ofInt (mo_dr D G t)
def mo_xo (D : Nat → Nat → Int32) (G : Nat → Int) (np t : Nat) (m : Int) (riders : Int) (held : Int32) (S : Nat → Nat → Int32) : Nat → Nat → Int32 := mo_fo (mo_xr1 D t) (mo_mk (mo_se (mo_se (mo_se S 12 t (Int32.ofInt riders)) 10 (mo_w D t) (D 13 t)) 11 (mo_w D t) (mo_cv D G t m held)) (mo_cv D G t m held)) np
def mo_mo (D : Nat → Nat → Int32) (G : Nat → Int) (np t : Nat) (m : Int) (riders : Int) (held : Int32) (T : Nat → Nat → Int32) : Nat → Nat → Int32 := mo_fo (mo_mr1 t) (mo_se (mo_se (mo_se T 12 t (Int32.ofInt riders)) 10 (mo_w D t) (D 13 t)) 11 (mo_w D t) (mo_cv D G t m held)) np
def mo_pay (D : Nat → Nat → Int32) (S : Nat → Nat → Int32) (w : Nat) : Int32 := if (D 7 w).toInt = 2 then S 7 w else S 13 0
def mo_xp (D : Nat → Nat → Int32) (w : Nat) (fine : Int32) (S : Nat → Nat → Int32) : Nat → Nat → Int32 := if (D 7 w).toInt = 2 then mo_se S 7 w (S 7 w - fine) else mo_se S 13 0 (S 13 0 - fine)
def mo_xq1 (D : Nat → Nat → Int32) (t : Nat) (S : Nat → Nat → Int32) (p : Nat) : Nat → Nat → Int32 := if (S 6 p).toInt = (D 11 t).toInt then mo_se (mo_se S 6 p (-1)) 5 p (Int32.ofInt (t : Int)) else S
def mo_mq1 (t : Nat) (T : Nat → Nat → Int32) (p : Nat) : Nat → Nat → Int32 := if (T 6 p).toInt = 3 ∧ (T 5 p).toInt = (t : Int) then mo_se T 6 p 2 else T
def mo_seats (D : Nat → Nat → Int32) (t : Nat) : Nat := (D 9 (mo_w D t)).toInt.toNat
def mo_rdy (D : Nat → Nat → Int32) (G : Nat → Int) (S : Nat → Nat → Int32) (t : Nat) : Prop := (S 11 (mo_w D t)).toInt = -1 ∧ (S 10 (mo_w D t)).toInt = (D 12 t).toInt ∧ (S 9 (mo_w D t)).toInt = 0 ∧ mo_ln D G t < 10000000
noncomputable def mo_ii (c : Prop) (a b : Nat → Nat → Int32) : Nat → Nat → Int32 := @ite (Nat → Nat → Int32) c (Classical.propDecidable c) a b
theorem mo_ii_y {c : Prop} (h : c) (a b : Nat → Nat → Int32) : mo_ii c a b = a := if_pos h
theorem mo_ii_n {c : Prop} (h : ¬ c) (a b : Nat → Nat → Int32) : mo_ii c a b = b := if_neg h
noncomputable def mo_xg (D : Nat → Nat → Int32) (G : Nat → Int) (A : Nat → Nat → Int → Int → Int32) (np t : Nat) (m n : Int) (S : Nat → Nat → Int32) : Nat → Nat → Int32 :=
  mo_ii ((A t 1 n (S 8 (mo_w D t)).toInt).toInt = 0) (mo_xo D G np t m n 0 S)
    (mo_ii ((A t 4 n (S 8 (mo_w D t)).toInt).toInt ≤ (mo_pay D S (mo_w D t)).toInt)
      (mo_xo D G np t m n (A t 3 n (S 8 (mo_w D t)).toInt) (mo_xp D (mo_w D t) (A t 4 n (S 8 (mo_w D t)).toInt) (mo_se S 8 (mo_w D t) (S 8 (mo_w D t) + 1))))
      (mo_fo (mo_xq1 D t) (mo_se (mo_se S 8 (mo_w D t) (S 8 (mo_w D t) + 1)) 9 (mo_w D t) 1) np))
noncomputable def mo_mg2 (D : Nat → Nat → Int32) (G : Nat → Int) (A : Nat → Nat → Int → Int → Int32) (np t : Nat) (m n : Int) (T : Nat → Nat → Int32) : Nat → Nat → Int32 :=
  mo_ii ((A t 1 n (T 8 (mo_w D t)).toInt).toInt = 0) (mo_mo D G np t m n 0 T)
    (mo_ii ((A t 4 n (T 8 (mo_w D t)).toInt).toInt ≤ (mo_pay D T (mo_w D t)).toInt)
      (mo_mo D G np t m n (A t 3 n (T 8 (mo_w D t)).toInt) (mo_xp D (mo_w D t) (A t 4 n (T 8 (mo_w D t)).toInt) (mo_se T 8 (mo_w D t) (T 8 (mo_w D t) + 1))))
      (mo_fo (mo_mq1 t) (mo_se (mo_se T 8 (mo_w D t) (T 8 (mo_w D t) + 1)) 9 (mo_w D t) 1) np))
def mo_no (D : Nat → Nat → Int32) (G : Nat → Int) (A : Nat → Nat → Int → Int → Int32) (t : Nat) (S : Nat → Nat → Int32) : Prop := ¬ mo_rdy D G S t ∨ (S 13 0).toInt < (A t 5 0 (S 8 (mo_w D t)).toInt).toInt ∨ (A t 0 0 (S 8 (mo_w D t)).toInt).toInt = 0
noncomputable def mo_xsn (D : Nat → Nat → Int32) (G : Nat → Int) (A : Nat → Nat → Int → Int → Int32) (np t : Nat) (m : Int) (S : Nat → Nat → Int32) : Nat → Nat → Int32 :=
  mo_ii (mo_no D G A t S) (mo_se S 12 t (-2))
    (mo_xg D G A np t m (mo_xn D t (A t 2 0 (S 8 (mo_w D t)).toInt) np (mo_se (mo_se S 12 t (-2)) 13 0 (S 13 0 - A t 5 0 (S 8 (mo_w D t)).toInt)) (mo_seats D t)) (mo_xs D t (A t 2 0 (S 8 (mo_w D t)).toInt) np (mo_se (mo_se S 12 t (-2)) 13 0 (S 13 0 - A t 5 0 (S 8 (mo_w D t)).toInt)) (mo_seats D t)))
noncomputable def mo_mlv (D : Nat → Nat → Int32) (G : Nat → Int) (A : Nat → Nat → Int → Int → Int32) (np t : Nat) (m : Int) (T : Nat → Nat → Int32) : Nat → Nat → Int32 :=
  mo_ii (mo_no D G A t T) (mo_se T 12 t (-2))
    (mo_mg2 D G A np t m (mo_mbo D t (A t 2 0 (T 8 (mo_w D t)).toInt) (mo_seats D t : Int) np (mo_se (mo_se T 12 t (-2)) 13 0 (T 13 0 - A t 5 0 (T 8 (mo_w D t)).toInt), 0) 720).2 (mo_mbo D t (A t 2 0 (T 8 (mo_w D t)).toInt) (mo_seats D t : Int) np (mo_se (mo_se T 12 t (-2)) 13 0 (T 13 0 - A t 5 0 (T 8 (mo_w D t)).toInt), 0) 720).1)
def mo_P (D : Nat → Nat → Int32) (G : Nat → Int) (np nw nt : Nat) (m bw : Int) (S T : Nat → Nat → Int32) : Prop := (∀ p, p < np → mo_ok D S T p bw ∧ mo_rp D G S T p (m + 1) (m + 1) m (m + 1)) ∧ (∀ w, w < nw → (∀ r, 7 ≤ r → r ≤ 11 → S r w = T r w) ∧ ((S 9 w).toInt = 0 ∨ (S 9 w).toInt = 1) ∧ ((S 11 w).toInt = -1 ∨ (m + 1 ≤ (S 11 w).toInt ∧ (S 11 w).toInt ≤ 5000 ∧ ((S 11 w).toInt < 840 → (S 14 (S 11 w).toInt.toNat).toInt ≠ 0)))) ∧ (∀ k, k < nt → S 12 k = T 12 k) ∧ S 13 0 = T 13 0

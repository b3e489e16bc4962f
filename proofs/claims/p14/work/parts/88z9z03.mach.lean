def mo_ro (S : Nat → Nat → Int32) (r : Nat) (f : Nat → Int32) : Nat → Nat → Int32 := fun r1 => if r1 = r then f else S r1
def mo_se (S : Nat → Nat → Int32) (r i : Nat) (v : Int32) : Nat → Nat → Int32 := mo_ro S r (upd (S r) i v)
theorem mo_se_at (S : Nat → Nat → Int32) (r i : Nat) (v : Int32) (r1 i1 : Nat) : mo_se S r i v r1 i1 = if r1 = r ∧ i1 = i then v else S r1 i1 := by
  unfold mo_se mo_ro
  by_cases h : r1 = r
  · rw [if_pos h]
    show (if i1 = i then v else S r i1) = _
    by_cases q : i1 = i
    · rw [if_pos q, if_pos ⟨h, q⟩]
    · rw [if_neg q, if_neg (fun w => q w.2), h]
  · rw [if_neg h, if_neg (fun w => h w.1)]
noncomputable def mo_t (D : Nat → Nat → Int32) (G : Nat → Int) (p a : Nat) (pc m na : Int) : Int := Classical.epsilon (fun r => mo_pk D G p a pc m na r)
theorem mo_t_eq {D : Nat → Nat → Int32} {G : Nat → Int} {p a : Nat} {pc m na r : Int} (hm : ∀ k, (D 14 k).toInt ≤ 719) (h : mo_pk D G p a pc m na r) : mo_t D G p a pc m na = r := mo_pk_u hm (Classical.epsilon_spec (p := fun r => mo_pk D G p a pc m na r) ⟨r, h⟩) h
def mo_pc (D : Nat → Nat → Int32) (sh : Int32) (p : Nat) : Int := mo_pace (D 4 p).toInt sh.toInt (D 19 4).toInt
def mo_wo (D : Nat → Nat → Int32) (p : Nat) : Nat := (D 1 p).toInt.toNat
def mo_goal (D : Nat → Nat → Int32) (p : Nat) (t : Int) : Nat := if t = -1 then mo_wo D p else mo_cf D t.toNat
def mo_worn (ah ln : Int32) : Int32 := (ah + ln) / 300 - ah / 300
def mo_shoe (s w : Int32) : Int32 := if 0 < w.toInt then (if (s - w).toInt < 0 then 0 else s - w) else s
def mo_go (D : Nat → Nat → Int32) (G : Nat → Int) (S : Nat → Nat → Int32) (p a : Nat) (m t : Int) : Nat → Nat → Int32 :=
  if 10000000 ≤ G (12 * a + mo_goal D p t) then mo_se S 5 p (Int32.ofInt t)
  else mo_se (mo_se (mo_se (mo_se S 5 p (Int32.ofInt t)) 2 p (if t = -1 ∧ m + mo_wk G (mo_pc D (S 1 p) p) a (mo_goal D p t) < 840 then Int32.ofInt (m + mo_wk G (mo_pc D (S 1 p) p) a (mo_goal D p t)) else S 2 p)) 3 p (S 3 p + Int32.ofInt (G (12 * a + mo_goal D p t)))) 1 p (mo_shoe (S 1 p) (mo_worn (D 6 p + S 3 p) (Int32.ofInt (G (12 * a + mo_goal D p t)))))
noncomputable def mo_xc (D : Nat → Nat → Int32) (G : Nat → Int) (S : Nat → Nat → Int32) (p a : Nat) (m na : Int) : Nat → Nat → Int32 := mo_go D G S p a m (mo_t D G p a (mo_pc D (S 1 p) p) m na)
def mo_co (D : Nat → Nat → Int32) (s : Int32) : Nat := (D 18 s.toInt.toNat).toInt.toNat
noncomputable def mo_xl1 (D : Nat → Nat → Int32) (G : Nat → Int) (m : Int) (S : Nat → Nat → Int32) (p : Nat) : Nat → Nat → Int32 := if (S 6 p).toInt ≠ -1 ∧ (S 11 (S 6 p).toInt.toNat).toInt = m then mo_xc D G (mo_se S 6 p (-1)) p (mo_co D (S 10 (S 6 p).toInt.toNat)) m m else S
def mo_fo (f : (Nat → Nat → Int32) → Nat → (Nat → Nat → Int32)) (S : Nat → Nat → Int32) : Nat → (Nat → Nat → Int32)
  | 0 => S
  | n + 1 => f (mo_fo f S n) n
def mo_xl2 (m : Int) (S : Nat → Nat → Int32) (w : Nat) : Nat → Nat → Int32 := if (S 11 w).toInt = m then mo_se S 11 w (-1) else S
noncomputable def mo_xh1 (D : Nat → Nat → Int32) (G : Nat → Int) (m : Int) (S : Nat → Nat → Int32) (p : Nat) : Nat → Nat → Int32 := if (D 2 p).toInt = m then mo_xc D G S p (D 0 p).toInt.toNat m m else S
noncomputable def mo_xa1 (D : Nat → Nat → Int32) (G : Nat → Int) (m : Int) (S : Nat → Nat → Int32) (p : Nat) : Nat → Nat → Int32 := if (S 5 p).toInt ≠ -1 ∧ (D 14 (S 5 p).toInt.toNat).toInt = m then mo_xc D G S p (mo_cf D (S 5 p).toInt.toNat) m (m + 1) else S
def mo_ar (T : Nat → Nat → Int32) (p : Nat) (m : Int) : Nat → Nat → Int32 := if (T 6 p).toInt = 1 then mo_se T 6 p 2 else mo_se (mo_se T 6 p 5) 2 p (Int32.ofInt m)
def mo_shm (s w : Int32) : Int32 := if (s - w).toInt < 0 then 0 else s - w
def mo_ms0r (D : Nat → Nat → Int32) (G : Nat → Int) (T : Nat → Nat → Int32) (p b : Nat) (how t : Int32) (m : Int) : Nat → Nat → Int32 :=
  mo_se (mo_se (mo_se (mo_se (mo_se (mo_se (mo_se T 3 p (T 3 p + Int32.ofInt (G (12 * (T 14 p).toInt.toNat + b)))) 16 p (T 16 p + Int32.ofInt (G (12 * (T 14 p).toInt.toNat + b)))) 1 p (mo_shm (T 1 p) ((T 16 p + Int32.ofInt (G (12 * (T 14 p).toInt.toNat + b))) / 300 - T 16 p / 300))) 14 p (Int32.ofInt (b : Int))) 5 p t) 6 p how) 15 p (Int32.ofInt (m + mo_wk G (mo_pc D (T 1 p) p) (T 14 p).toInt.toNat b))
def mo_so (D : Nat → Nat → Int32) (G : Nat → Int) (T : Nat → Nat → Int32) (p b : Nat) (how t : Int32) (m : Int) : Nat → Nat → Int32 := if mo_wk G (mo_pc D (T 1 p) p) (T 14 p).toInt.toNat b = 0 then mo_ar (mo_ms0r D G T p b how t m) p m else mo_ms0r D G T p b how t m
def mo_mg (D : Nat → Nat → Int32) (G : Nat → Int) (T : Nat → Nat → Int32) (p : Nat) (m t : Int) : Nat → Nat → Int32 :=
  if t ≠ -1 then mo_so D G T p (mo_cf D t.toNat) 1 (Int32.ofInt t) m
  else if G (12 * (T 14 p).toInt.toNat + mo_wo D p) < 10000000 then mo_so D G T p (mo_wo D p) 4 (-1) m
  else mo_se T 6 p 6
noncomputable def mo_mc (D : Nat → Nat → Int32) (G : Nat → Int) (T : Nat → Nat → Int32) (p : Nat) (m na : Int) : Nat → Nat → Int32 := mo_mg D G T p m (mo_t D G p (T 14 p).toInt.toNat (mo_pc D (T 1 p) p) m na)
noncomputable def mo_ml1 (D : Nat → Nat → Int32) (G : Nat → Int) (m : Int) (T : Nat → Nat → Int32) (p : Nat) : Nat → Nat → Int32 := if (T 6 p).toInt = 3 ∧ (T 11 (D 11 (T 5 p).toInt.toNat).toInt.toNat).toInt = -1 then mo_mc D G (mo_se T 14 p (D 18 (D 13 (T 5 p).toInt.toNat).toInt.toNat)) p m m else T
noncomputable def mo_mh1 (D : Nat → Nat → Int32) (G : Nat → Int) (m : Int) (T : Nat → Nat → Int32) (p : Nat) : Nat → Nat → Int32 := if (T 6 p).toInt = 0 ∧ (D 2 p).toInt = m then mo_mc D G T p m m else if ((T 6 p).toInt = 1 ∨ (T 6 p).toInt = 4) ∧ (T 15 p).toInt = m then mo_ar T p m else T
noncomputable def mo_ma1 (D : Nat → Nat → Int32) (G : Nat → Int) (m : Int) (T : Nat → Nat → Int32) (p : Nat) : Nat → Nat → Int32 := if (T 6 p).toInt = 2 ∧ (D 14 (T 5 p).toInt.toNat).toInt = m then mo_mc D G T p m (m + 1) else T
def mo_ok (D : Nat → Nat → Int32) (S T : Nat → Nat → Int32) (p : Nat) (bw : Int) : Prop := S 0 p = T 0 p ∧ S 1 p = T 1 p ∧ S 3 p = T 3 p ∧ S 4 p = T 4 p ∧ T 16 p = D 6 p + S 3 p ∧ (0 ≤ (S 1 p).toInt ∧ (S 1 p).toInt ≤ 9) ∧ (0 ≤ (S 3 p).toInt ∧ (S 3 p).toInt ≤ bw) ∧ (0 ≤ (D 6 p).toInt ∧ (D 6 p).toInt ≤ 1000000000)
def mo_tk (D : Nat → Nat → Int32) (G : Nat → Int) (S T : Nat → Nat → Int32) (p : Nat) (k : Nat) : Prop := (T 5 p).toInt = (k : Int) ∧ k < mo_nt D ∧ mo_rn D G k
def mo_rp (D : Nat → Nat → Int32) (G : Nat → Int) (S T : Nat → Nat → Int32) (p : Nat) (lv ar tr cm : Int) : Prop :=
  ((T 6 p).toInt = 0 ∧ (S 5 p).toInt = -1 ∧ (S 6 p).toInt = -1 ∧ (S 2 p).toInt = -1 ∧ (T 2 p).toInt = -1 ∧ T 14 p = D 0 p ∧ lv ≤ (D 2 p).toInt) ∨
  ((D 2 p).toInt < lv ∧ (
    ((T 6 p).toInt = 1 ∧ (∃ k, mo_tk D G S T p k ∧ S 5 p = T 5 p ∧ T 14 p = D 18 (D 12 k).toInt.toNat ∧ ar ≤ (T 15 p).toInt ∧ (T 15 p).toInt ≤ (D 14 k).toInt ∧ tr ≤ (D 14 k).toInt) ∧ (S 6 p).toInt = -1 ∧ (S 2 p).toInt = -1 ∧ (T 2 p).toInt = -1) ∨
    ((T 6 p).toInt = 2 ∧ (∃ k, mo_tk D G S T p k ∧ S 5 p = T 5 p ∧ T 14 p = D 18 (D 12 k).toInt.toNat ∧ tr ≤ (D 14 k).toInt) ∧ (S 6 p).toInt = -1 ∧ (S 2 p).toInt = -1 ∧ (T 2 p).toInt = -1) ∨
    ((T 6 p).toInt = 3 ∧ (∃ k, mo_tk D G S T p k ∧ S 6 p = D 11 k ∧ S 10 (D 11 k).toInt.toNat = D 13 k ∧ cm ≤ (S 11 (D 11 k).toInt.toNat).toInt) ∧ (S 5 p).toInt = -1 ∧ (S 2 p).toInt = -1 ∧ (T 2 p).toInt = -1) ∨
    ((T 6 p).toInt = 4 ∧ (S 5 p).toInt = -1 ∧ (S 6 p).toInt = -1 ∧ (T 2 p).toInt = -1 ∧ ar ≤ (T 15 p).toInt ∧ (S 2 p).toInt = (if (T 15 p).toInt < 840 then (T 15 p).toInt else -1)) ∨
    ((T 6 p).toInt = 5 ∧ (S 5 p).toInt = -1 ∧ (S 6 p).toInt = -1 ∧ S 2 p = T 2 p) ∨
    ((T 6 p).toInt = 6 ∧ (S 5 p).toInt = -1 ∧ (S 6 p).toInt = -1 ∧ (S 2 p).toInt = -1 ∧ (T 2 p).toInt = -1)))

def cd_up (D : Nat → Int32 × List (Int × Int × List (Nat × Nat × Int))) (n n1 : Int) (x : Int32 × List (Int × Int × List (Nat × Nat × Int))) (i : Nat) : Int32 × List (Int × Int × List (Nat × Nat × Int)) := if n1 = n + 1 ∧ i = n.toNat then x else D i
def cd_DX (gfr : Nat → Int32) (gln : Nat → Nat) (glr : Nat → Nat → Nat → Int32) (n : Int) (D : Nat → Int32 × List (Int × Int × List (Nat × Nat × Int))) : Prop := gln 0 = 0 ∧ ∀ i : Nat, (i : Int) < n → gfr (i + 1) = (D i).1 ∧ cd_Wf (cd_gX (glr (i + 1))) (gln (i + 1)) 0 = (D i).2 ∧ (∀ l ∈ (D i).2, cd_gd l) ∧ 0 ≤ (D i).1.toInt
def cd_DMM (a : Nat → Nat → Int32) (n : Int) (D : Nat → Int32 × List (Int × Int × List (Nat × Nat × Int))) : Prop := ∀ i : Nat, (i : Int) < n → a 49 i = (D i).1 ∧ cd_LM a i = (D i).2 ∧ (a 48 i).toInt = cd_dk (D i).2
theorem cd_DX_up {n n1 : Int} {gfr gfr9 : Nat → Int32} {gln gln9 : Nat → Nat} {glr glr9 : Nat → Nat → Nat → Int32} {a : Int32} {T : List (Int × Int × List (Nat × Nat × Int))} {D : Nat → Int32 × List (Int × Int × List (Nat × Nat × Int))} (hb : cd_bX n n1 gfr gfr9 gln gln9 glr glr9 a T) (h0 : 0 ≤ n) (ha : n1 = n + 1 → 0 ≤ a.toInt) (hd : cd_DX gfr gln glr n D) : cd_DX gfr9 gln9 glr9 n1 (cd_up D n n1 (a, T)) := by
  obtain ⟨hold, hnew⟩ := hb
  refine ⟨by rw [(hold 0 (by omega)).2.1]; exact hd.1, fun i hi => ?_⟩
  unfold cd_up
  by_cases q : n1 = n + 1 ∧ i = n.toNat
  · rw [if_pos q]
    rcases hnew with w | ⟨w1, w2, w3, w4⟩
    · exfalso; omega
    · have e : n1.toNat = i + 1 := by omega
      rw [e] at w2 w3
      exact ⟨w2, w3, w4, ha w1⟩
  · rw [if_neg q]
    have hi2 : (i : Int) < n := by
      rcases hnew with w | ⟨w1, w2, w3, w4⟩
      · omega
      · omega
    have ho := hold (i + 1) (by omega)
    have hh := hd.2 i hi2
    rw [ho.1, ho.2.1, ho.2.2]
    exact hh
theorem cd_DMM_up {n n1 : Int} {a a1 : Nat → Nat → Int32} {d : Int32} {T : List (Int × Int × List (Nat × Nat × Int))} {D : Nat → Int32 × List (Int × Int × List (Nat × Nat × Int))} (hb : cd_bM n n1 a a1 d T) (h0 : 0 ≤ n) (hd : cd_DMM a n D) : cd_DMM a1 n1 (cd_up D n n1 (d, T)) := by
  obtain ⟨hold, hnew⟩ := hb
  intro i hi
  unfold cd_up
  by_cases q : n1 = n + 1 ∧ i = n.toNat
  · rw [if_pos q]
    rcases hnew with w | ⟨w1, w2, w3, w4⟩
    · exfalso; omega
    · rw [← q.2] at w2 w3 w4
      exact ⟨w4, w2, w3⟩
  · rw [if_neg q]
    have hi2 : (i : Int) < n := by
      rcases hnew with w | ⟨w1, w2, w3, w4⟩
      · omega
      · omega
    have ho := hold i hi2
    have hh := hd i hi2
    rw [ho.1, ho.2.1, ho.2.2]
    exact hh
theorem cd_DMM_fr {a a1 : Nat → Nat → Int32} {n : Int} {D : Nat → Int32 × List (Int × Int × List (Nat × Nat × Int))} (h47 : a1 47 = a 47) (h48 : a1 48 = a 48) (h49 : a1 49 = a 49) (h50 : a1 50 = a 50) (h51 : a1 51 = a 51) (h52 : a1 52 = a 52) (h53 : a1 53 = a 53) (h54 : a1 54 = a 54) (h55 : a1 55 = a 55) (h56 : a1 56 = a 56) (h : cd_DMM a n D) : cd_DMM a1 n D := by
  intro i hi
  have e : cd_LM a1 i = cd_LM a i := by
    unfold cd_LM
    rw [h47]
    refine cd_Wf_eq _ _ (fun j _ _ => ?_)
    unfold cd_gM
    rw [h50, h51, h52, h53, h54, h55, h56]
  have hh := h i hi
  rw [h49, e, h48]
  exact hh
def cd_WD (D : Nat → Int32 × List (Int × Int × List (Nat × Nat × Int))) (td : Int) (n : Nat) : List (Int × Int × List (Nat × Nat × Int)) := if (cd_nw (fun i => (D (i - 1)).1.toInt) td n).1 = 0 then [] else (D ((cd_nw (fun i => (D (i - 1)).1.toInt) td n).1 - 1)).2
theorem cd_nw_eq {f g : Nat → Int} {td : Int} : ∀ n : Nat, (∀ i, i < n → f (i + 1) = g (i + 1)) → cd_nw f td n = cd_nw g td n := by
  intro n
  induction n with
  | zero => intro _; rfl
  | succ n ih =>
    intro h
    have e := ih (fun i hi => h i (by omega))
    have e1 := h n (by omega)
    show (if f (n + 1) ≤ td ∧ (cd_nw f td n).2 ≤ f (n + 1) then (n + 1, f (n + 1)) else cd_nw f td n) = (if g (n + 1) ≤ td ∧ (cd_nw g td n).2 ≤ g (n + 1) then (n + 1, g (n + 1)) else cd_nw g td n)
    rw [e, e1]
theorem cd_WX {gfr : Nat → Int32} {gln : Nat → Nat} {glr : Nat → Nat → Nat → Int32} {n td : Int} {D : Nat → Int32 × List (Int × Int × List (Nat × Nat × Int))} (hd : cd_DX gfr gln glr n D) (h0 : 0 ≤ n) : cd_Wf (cd_gX (glr ((cd_nw (fun i => (gfr i).toInt) td (n.toNat)).1))) (gln ((cd_nw (fun i => (gfr i).toInt) td (n.toNat)).1)) 0 = cd_WD D td (n.toNat) := by
  have e : cd_nw (fun i => (gfr i).toInt) td n.toNat = cd_nw (fun i => (D (i - 1)).1.toInt) td n.toNat := cd_nw_eq _ (fun i hi => by
    show (gfr (i + 1)).toInt = (D (i + 1 - 1)).1.toInt
    rw [Nat.add_sub_cancel, (hd.2 i (by omega)).1])
  unfold cd_WD
  rw [e]
  have hle := cd_nw_le (fun i => (D (i - 1)).1.toInt) td n.toNat
  generalize (cd_nw (fun i => (D (i - 1)).1.toInt) td n.toNat).1 = z at hle ⊢
  cases z with
  | zero => rw [if_pos rfl, hd.1]; rfl
  | succ z => rw [if_neg (by omega), Nat.add_sub_cancel, (hd.2 z (by omega)).2.1]
theorem cd_WM {a : Nat → Nat → Int32} {n td : Int} {D : Nat → Int32 × List (Int × Int × List (Nat × Nat × Int))} (hd : cd_DMM a n D) (h0 : 0 ≤ n) : (if ((cd_nw (fun i => (a 49 (i - 1)).toInt) td (n.toNat)).1) = 0 then [] else cd_LM a (((cd_nw (fun i => (a 49 (i - 1)).toInt) td (n.toNat)).1) - 1)) = cd_WD D td (n.toNat) := by
  have e : cd_nw (fun i => (a 49 (i - 1)).toInt) td n.toNat = cd_nw (fun i => (D (i - 1)).1.toInt) td n.toNat := cd_nw_eq _ (fun i hi => by
    show (a 49 (i + 1 - 1)).toInt = (D (i + 1 - 1)).1.toInt
    rw [Nat.add_sub_cancel, (hd i (by omega)).1])
  unfold cd_WD
  rw [e]
  have hle := cd_nw_le (fun i => (D (i - 1)).1.toInt) td n.toNat
  generalize (cd_nw (fun i => (D (i - 1)).1.toInt) td n.toNat).1 = z at hle ⊢
  cases z with
  | zero => rw [if_pos rfl, if_pos rfl]
  | succ z => rw [if_neg (by omega), if_neg (by omega), Nat.add_sub_cancel, (hd z (by omega)).2.1]
theorem cd_DX_gds {gfr : Nat → Int32} {gln : Nat → Nat} {glr : Nat → Nat → Nat → Int32} {n : Int} {D : Nat → Int32 × List (Int × Int × List (Nat × Nat × Int))} (hd : cd_DX gfr gln glr n D) : ∀ i : Nat, (i : Int) ≤ n → ∀ j, j < gln i → cd_gd (cd_gX (glr i) j) := by
  intro i hi j hj
  cases i with
  | zero => rw [hd.1] at hj; omega
  | succ i =>
    have h := hd.2 i (by omega)
    exact h.2.2.1 _ (by rw [← h.2.1]; exact cd_Wf_mem0 _ 0 j (by omega) (by omega))
theorem cd_DM_gd {gfr : Nat → Int32} {gln : Nat → Nat} {glr : Nat → Nat → Nat → Int32} {n m : Int} {a : Nat → Nat → Int32} {D : Nat → Int32 × List (Int × Int × List (Nat × Nat × Int))} (hx : cd_DX gfr gln glr n D) (e : n = m) (hd : cd_DMM a m D) : ∀ b : Nat, (b : Int) < m → ∀ l ∈ cd_LM a b, cd_gd l := by
  intro b hb l hl
  rw [(hd b hb).2.1] at hl
  exact (hx.2 b (by omega)).2.2.1 l hl
theorem cd_DM_fd {gfr : Nat → Int32} {gln : Nat → Nat} {glr : Nat → Nat → Nat → Int32} {n m : Int} {a : Nat → Nat → Int32} {D : Nat → Int32 × List (Int × Int × List (Nat × Nat × Int))} (hx : cd_DX gfr gln glr n D) (e : n = m) (hd : cd_DMM a m D) : ∀ i : Nat, (i : Int) < m → 0 ≤ (a 49 i).toInt := by
  intro i hi
  rw [(hd i hi).1]
  exact (hx.2 i (by omega)).2.2.2

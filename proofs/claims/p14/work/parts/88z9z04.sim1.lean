theorem mo_i32 {v : Int} (h0 : -2147483648 ≤ v) (h1 : v ≤ 2147483647) : (Int32.ofInt v).toInt = v := Int32.toInt_ofInt_of_le (by omega) (by omega)
theorem mo_i32i (x : Int32) : Int32.ofInt x.toInt = x := Int32.ofInt_toInt x
theorem mo_d300 {x : Int32} (hx : 0 ≤ x.toInt) : (x / 300).toInt = x.toInt / 300 := by
  rw [Int32.toInt_div_of_ne_right x 300 (by decide), show (300 : Int32).toInt = 300 from by decide]
  exact Int.tdiv_eq_ediv_of_nonneg hx
theorem mo_worn_b {ah ln : Int32} (h0 : 0 ≤ ah.toInt) (h1 : ah.toInt ≤ 1500000000) (h2 : 0 ≤ ln.toInt) (h3 : ln.toInt ≤ 10000) : 0 ≤ (mo_worn ah ln).toInt ∧ (mo_worn ah ln).toInt ≤ 10000000 := by
  have hs := iv_add (v := ah + ln) rfl (a := 0) (b := 1500000000) (c := 0) (d := 10000) ⟨h0, h1⟩ ⟨h2, h3⟩ (by decide) (by decide)
  have e1 := mo_d300 h0
  have e2 := mo_d300 (x := ah + ln) (by omega)
  have hq := iv_sub (v := (ah + ln) / 300 - ah / 300) rfl (a := 0) (b := 6000000) (c := 0) (d := 6000000) ⟨by omega, by omega⟩ ⟨by omega, by omega⟩ (by decide) (by decide)
  show 0 ≤ ((ah + ln) / 300 - ah / 300).toInt ∧ ((ah + ln) / 300 - ah / 300).toInt ≤ 10000000
  omega
theorem mo_sh_b {s w : Int32} (h0 : 0 ≤ s.toInt) (h1 : s.toInt ≤ 9) (h2 : 0 ≤ w.toInt) (h3 : w.toInt ≤ 10000000) : mo_shm s w = mo_shoe s w ∧ 0 ≤ (mo_shoe s w).toInt ∧ (mo_shoe s w).toInt ≤ 9 := by
  have hq := iv_sub (v := s - w) rfl (a := 0) (b := 9) (c := 0) (d := 10000000) ⟨h0, h1⟩ ⟨h2, h3⟩ (by decide) (by decide)
  have z : (0 : Int32).toInt = 0 := by decide
  unfold mo_shm mo_shoe
  by_cases c : 0 < w.toInt
  · rw [if_pos c]
    by_cases d : (s - w).toInt < 0
    · rw [if_pos d]; exact ⟨rfl, by omega, by omega⟩
    · rw [if_neg d]; exact ⟨rfl, by omega, by omega⟩
  · rw [if_neg c, if_neg (by omega)]
    exact ⟨Int32.toInt_inj.mp (by omega), by omega, by omega⟩
theorem mo_pc_b {D : Nat → Nat → Int32} (hR : mo_R D) {s : Int32} (p : Nat) : 18 ≤ mo_pc D s p ∧ mo_pc D s p ≤ 50 := by
  have h1 := hR.2.2.2.2.1 p
  have h2 := hR.2.2.2.2.2.2
  unfold mo_pc mo_pace
  split <;> split <;> (try split) <;> omega
theorem mo_msr_ne {D : Nat → Nat → Int32} {G : Nat → Int} {T : Nat → Nat → Int32} {p b : Nat} {how t : Int32} {m : Int} {q : Nat} (h : q ≠ p) (r : Nat) : mo_ms0r D G T p b how t m r q = T r q := by
  unfold mo_ms0r
  simp only [mo_se_at]
  simp [h]
theorem mo_ar_ne {T : Nat → Nat → Int32} {p : Nat} {m : Int} {q : Nat} (h : q ≠ p) (r : Nat) : mo_ar T p m r q = T r q := by
  unfold mo_ar
  split
  · rw [mo_se_at]; simp [h]
  · rw [mo_se_at, mo_se_at]; simp [h]
theorem mo_so_ne {D : Nat → Nat → Int32} {G : Nat → Int} {T : Nat → Nat → Int32} {p b : Nat} {how t : Int32} {m : Int} {q : Nat} (h : q ≠ p) (r : Nat) : mo_so D G T p b how t m r q = T r q := by
  unfold mo_so
  split
  · rw [mo_ar_ne h, mo_msr_ne h]
  · rw [mo_msr_ne h]
theorem mo_mg_ne {D : Nat → Nat → Int32} {G : Nat → Int} {T : Nat → Nat → Int32} {p : Nat} {m t : Int} {q : Nat} (h : q ≠ p) (r : Nat) : mo_mg D G T p m t r q = T r q := by
  unfold mo_mg
  split
  · exact mo_so_ne h r
  · split
    · exact mo_so_ne h r
    · rw [mo_se_at]; simp [h]
theorem mo_msr_at (D : Nat → Nat → Int32) (G : Nat → Int) (T : Nat → Nat → Int32) (p b : Nat) (how t : Int32) (m : Int) : mo_ms0r D G T p b how t m 0 p = T 0 p ∧ mo_ms0r D G T p b how t m 1 p = mo_shm (T 1 p) ((T 16 p + Int32.ofInt (G (12 * (T 14 p).toInt.toNat + b))) / 300 - T 16 p / 300) ∧ mo_ms0r D G T p b how t m 2 p = T 2 p ∧ mo_ms0r D G T p b how t m 3 p = T 3 p + Int32.ofInt (G (12 * (T 14 p).toInt.toNat + b)) ∧ mo_ms0r D G T p b how t m 4 p = T 4 p ∧ mo_ms0r D G T p b how t m 5 p = t ∧ mo_ms0r D G T p b how t m 6 p = how ∧ mo_ms0r D G T p b how t m 14 p = Int32.ofInt (b : Int) ∧ mo_ms0r D G T p b how t m 15 p = Int32.ofInt (m + mo_wk G (mo_pc D (T 1 p) p) (T 14 p).toInt.toNat b) ∧ mo_ms0r D G T p b how t m 16 p = T 16 p + Int32.ofInt (G (12 * (T 14 p).toInt.toNat + b)) := by
  unfold mo_ms0r
  simp only [mo_se_at]
  simp
theorem mo_msr_row (D : Nat → Nat → Int32) (G : Nat → Int) (T : Nat → Nat → Int32) (p b : Nat) (how t : Int32) (m : Int) {r : Nat} (h : 7 ≤ r ∧ r ≤ 13) : mo_ms0r D G T p b how t m r = T r := by
  funext q
  unfold mo_ms0r
  simp only [mo_se_at]
  have h3 : r ≠ 3 := by omega
  have h16 : r ≠ 16 := by omega
  have h1 : r ≠ 1 := by omega
  have h14 : r ≠ 14 := by omega
  have h5 : r ≠ 5 := by omega
  have h6 : r ≠ 6 := by omega
  have h15 : r ≠ 15 := by omega
  simp [h3, h16, h1, h14, h5, h6, h15]
theorem mo_ar_row (T : Nat → Nat → Int32) (p : Nat) (m : Int) {r : Nat} (h : 7 ≤ r) : mo_ar T p m r = T r := by
  funext q
  have h6 : r ≠ 6 := by omega
  have h2 : r ≠ 2 := by omega
  unfold mo_ar
  split
  · rw [mo_se_at]; simp [h6]
  · rw [mo_se_at, mo_se_at]; simp [h6, h2]
theorem mo_mg_row (D : Nat → Nat → Int32) (G : Nat → Int) (T : Nat → Nat → Int32) (p : Nat) (m t : Int) {r : Nat} (h : 7 ≤ r ∧ r ≤ 13) : mo_mg D G T p m t r = T r := by
  have so : ∀ b how u, mo_so D G T p b how u m r = T r := by
    intro b how u
    unfold mo_so
    split
    · rw [mo_ar_row _ _ _ h.1, mo_msr_row D G T p b how u m h]
    · exact mo_msr_row D G T p b how u m h
  unfold mo_mg
  split
  · exact so _ _ _
  · split
    · exact so _ _ _
    · funext q
      have h6 : r ≠ 6 := by omega
      rw [mo_se_at]; simp [h6]
theorem mo_go_ne {D : Nat → Nat → Int32} {G : Nat → Int} {S : Nat → Nat → Int32} {p a : Nat} {m t : Int} {q : Nat} (h : q ≠ p) (r : Nat) : mo_go D G S p a m t r q = S r q := by
  unfold mo_go
  split
  · rw [mo_se_at]; simp [h]
  · simp only [mo_se_at]; simp [h]
theorem mo_go_row {D : Nat → Nat → Int32} {G : Nat → Int} {S : Nat → Nat → Int32} {p a : Nat} {m t : Int} {r : Nat} (h : r = 0 ∨ r = 4 ∨ 6 ≤ r) : mo_go D G S p a m t r = S r := by
  funext q
  have h5 : r ≠ 5 := by omega
  have h2 : r ≠ 2 := by omega
  have h3 : r ≠ 3 := by omega
  have h1 : r ≠ 1 := by omega
  unfold mo_go
  split
  · rw [mo_se_at]; simp [h5]
  · simp only [mo_se_at]; simp [h5, h2, h3, h1]
theorem mo_go_no {D : Nat → Nat → Int32} {G : Nat → Int} {S : Nat → Nat → Int32} {p a : Nat} {m t : Int} (h : 10000000 ≤ G (12 * a + mo_goal D p t)) : mo_go D G S p a m t 1 p = S 1 p ∧ mo_go D G S p a m t 2 p = S 2 p ∧ mo_go D G S p a m t 3 p = S 3 p ∧ mo_go D G S p a m t 5 p = Int32.ofInt t := by
  unfold mo_go
  rw [if_pos h]
  simp only [mo_se_at]
  simp
theorem mo_go_at {D : Nat → Nat → Int32} {G : Nat → Int} {S : Nat → Nat → Int32} {p a : Nat} {m t : Int} (h : ¬ 10000000 ≤ G (12 * a + mo_goal D p t)) : mo_go D G S p a m t 1 p = mo_shoe (S 1 p) (mo_worn (D 6 p + S 3 p) (Int32.ofInt (G (12 * a + mo_goal D p t)))) ∧ mo_go D G S p a m t 2 p = (if t = -1 ∧ m + mo_wk G (mo_pc D (S 1 p) p) a (mo_goal D p t) < 840 then Int32.ofInt (m + mo_wk G (mo_pc D (S 1 p) p) a (mo_goal D p t)) else S 2 p) ∧ mo_go D G S p a m t 3 p = S 3 p + Int32.ofInt (G (12 * a + mo_goal D p t)) ∧ mo_go D G S p a m t 5 p = Int32.ofInt t := by
  unfold mo_go
  rw [if_neg h]
  simp only [mo_se_at]
  simp
theorem mo_walked {D : Nat → Nat → Int32} {S T : Nat → Nat → Int32} {p : Nat} {bw len : Int} (h : mo_ok D S T p bw) (hb : bw ≤ 100000000) (h0 : 0 ≤ len) (h1 : len ≤ 1089) : mo_shm (T 1 p) ((T 16 p + Int32.ofInt len) / 300 - T 16 p / 300) = mo_shoe (S 1 p) (mo_worn (D 6 p + S 3 p) (Int32.ofInt len)) ∧ (0 ≤ (mo_shoe (S 1 p) (mo_worn (D 6 p + S 3 p) (Int32.ofInt len))).toInt ∧ (mo_shoe (S 1 p) (mo_worn (D 6 p + S 3 p) (Int32.ofInt len))).toInt ≤ 9) ∧ T 16 p + Int32.ofInt len = D 6 p + (S 3 p + Int32.ofInt len) ∧ (0 ≤ (S 3 p + Int32.ofInt len).toInt ∧ (S 3 p + Int32.ofInt len).toInt ≤ bw + 1089) := by
  obtain ⟨_, e1, _, _, e16, s1, s3, d6⟩ := h
  have hl := mo_i32 (v := len) (by omega) (by omega)
  have ha := iv_add (v := D 6 p + S 3 p) rfl (a := 0) (b := 1000000000) (c := 0) (d := 100000000) d6 ⟨s3.1, by omega⟩ (by decide) (by decide)
  have hw := mo_worn_b (ah := D 6 p + S 3 p) (ln := Int32.ofInt len) (by omega) (by omega) (by omega) (by omega)
  have hs := mo_sh_b s1.1 s1.2 hw.1 hw.2
  have hn := iv_add (v := S 3 p + Int32.ofInt len) rfl (a := 0) (b := 100000000) (c := 0) (d := 1089) ⟨s3.1, by omega⟩ ⟨by omega, by omega⟩ (by decide) (by decide)
  refine ⟨?_, hs.2, by rw [e16, Int32.add_assoc], by omega⟩
  rw [e16, ← e1]
  exact hs.1

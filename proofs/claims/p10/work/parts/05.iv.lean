theorem iv_any (x : Int32) : -2147483648 ≤ x.toInt ∧ x.toInt ≤ 2147483647 := by
  have h1 := Int32.le_toInt x
  have h2 := Int32.toInt_lt x
  exact ⟨by omega, by omega⟩
theorem iv_w {x : Int32} {a b a' b' : Int} (hx : a ≤ x.toInt ∧ x.toInt ≤ b) (h1 : a' ≤ a) (h2 : b ≤ b') : a' ≤ x.toInt ∧ x.toInt ≤ b' := ⟨Int.le_trans h1 hx.1, Int.le_trans hx.2 h2⟩
theorem iv_bm {z : Int} (h1 : -2147483648 ≤ z) (h2 : z ≤ 2147483647) : z.bmod (2 ^ 32) = z := by
  rw [Int.bmod_def]; omega
theorem iv_add {v x y : Int32} {a b c d : Int} (e : v = x + y) (hx : a ≤ x.toInt ∧ x.toInt ≤ b) (hy : c ≤ y.toInt ∧ y.toInt ≤ d) (h1 : -2147483648 ≤ a + c) (h2 : b + d ≤ 2147483647) : v.toInt = x.toInt + y.toInt ∧ a + c ≤ v.toInt ∧ v.toInt ≤ b + d := by
  have h : v.toInt = x.toInt + y.toInt := by rw [e, Int32.toInt_add, iv_bm (by omega) (by omega)]
  omega
theorem iv_addc {v x y : Int32} {a b k : Int} (e : v = x + y) (hx : a ≤ x.toInt ∧ x.toInt ≤ b) (hy : y.toInt = k) (h1 : -2147483648 ≤ a + k) (h2 : b + k ≤ 2147483647) : v.toInt = x.toInt + k ∧ a + k ≤ v.toInt ∧ v.toInt ≤ b + k := by
  have h : v.toInt = x.toInt + y.toInt := by rw [e, Int32.toInt_add, iv_bm (by omega) (by omega)]
  omega
theorem iv_sub {v x y : Int32} {a b c d : Int} (e : v = x - y) (hx : a ≤ x.toInt ∧ x.toInt ≤ b) (hy : c ≤ y.toInt ∧ y.toInt ≤ d) (h1 : -2147483648 ≤ a - d) (h2 : b - c ≤ 2147483647) : v.toInt = x.toInt - y.toInt ∧ a - d ≤ v.toInt ∧ v.toInt ≤ b - c := by
  have h : v.toInt = x.toInt - y.toInt := by rw [e, Int32.toInt_sub, iv_bm (by omega) (by omega)]
  omega
theorem iv_subc {v x y : Int32} {a b k : Int} (e : v = x - y) (hx : a ≤ x.toInt ∧ x.toInt ≤ b) (hy : y.toInt = k) (h1 : -2147483648 ≤ a - k) (h2 : b - k ≤ 2147483647) : v.toInt = x.toInt - k ∧ a - k ≤ v.toInt ∧ v.toInt ≤ b - k := by
  have h : v.toInt = x.toInt - y.toInt := by rw [e, Int32.toInt_sub, iv_bm (by omega) (by omega)]
  omega
theorem iv_mulc {v x y : Int32} {a b k : Int} (e : v = y * x) (hx : a ≤ x.toInt ∧ x.toInt ≤ b) (hy : y.toInt = k) (hk : 0 ≤ k) (h1 : -2147483648 ≤ k * a) (h2 : k * b ≤ 2147483647) : v.toInt = k * x.toInt ∧ k * a ≤ v.toInt ∧ v.toInt ≤ k * b := by
  have g1 : k * a ≤ k * x.toInt := Int.mul_le_mul_of_nonneg_left hx.1 hk
  have g2 : k * x.toInt ≤ k * b := Int.mul_le_mul_of_nonneg_left hx.2 hk
  have h : v.toInt = k * x.toInt := by rw [e, Int32.toInt_mul, hy, iv_bm (by omega) (by omega)]
  exact ⟨h, by omega, by omega⟩
theorem iv_mulr {v x y : Int32} {a b k : Int} (e : v = x * y) (hx : a ≤ x.toInt ∧ x.toInt ≤ b) (hy : y.toInt = k) (hk : 0 ≤ k) (h1 : -2147483648 ≤ k * a) (h2 : k * b ≤ 2147483647) : v.toInt = k * x.toInt ∧ k * a ≤ v.toInt ∧ v.toInt ≤ k * b := iv_mulc (by rw [e, Int32.mul_comm]) hx hy hk h1 h2
theorem iv_lt1 {x y : Int32} {a b c d : Int} (hx : a ≤ x.toInt ∧ x.toInt ≤ b) (hy : c ≤ y.toInt ∧ y.toInt ≤ d) (h : x < y) : a ≤ x.toInt ∧ x.toInt ≤ d - 1 := by
  have := Int32.lt_iff_toInt_lt.mp h; omega
theorem iv_lt2 {x y : Int32} {a b c d : Int} (hx : a ≤ x.toInt ∧ x.toInt ≤ b) (hy : c ≤ y.toInt ∧ y.toInt ≤ d) (h : x < y) : a + 1 ≤ y.toInt ∧ y.toInt ≤ d := by
  have := Int32.lt_iff_toInt_lt.mp h; omega
theorem iv_le1 {x y : Int32} {a b c d : Int} (hx : a ≤ x.toInt ∧ x.toInt ≤ b) (hy : c ≤ y.toInt ∧ y.toInt ≤ d) (h : x ≤ y) : a ≤ x.toInt ∧ x.toInt ≤ d := by
  have := Int32.le_iff_toInt_le.mp h; omega
theorem iv_le2 {x y : Int32} {a b c d : Int} (hx : a ≤ x.toInt ∧ x.toInt ≤ b) (hy : c ≤ y.toInt ∧ y.toInt ≤ d) (h : x ≤ y) : a ≤ y.toInt ∧ y.toInt ≤ d := by
  have := Int32.le_iff_toInt_le.mp h; omega
theorem iv_eq1 {x y : Int32} {c d : Int} (hy : c ≤ y.toInt ∧ y.toInt ≤ d) (h : x = y) : c ≤ x.toInt ∧ x.toInt ≤ d := by rw [h]; exact hy
theorem iv_nel {x y : Int32} {a b : Int} (hx : a ≤ x.toInt ∧ x.toInt ≤ b) (hy : y.toInt = a) (h : ¬ x = y) : a + 1 ≤ x.toInt ∧ x.toInt ≤ b := by
  have : x.toInt ≠ y.toInt := fun q => h (Int32.toInt_inj.mp q)
  omega
theorem iv_neh {x y : Int32} {a b : Int} (hx : a ≤ x.toInt ∧ x.toInt ≤ b) (hy : y.toInt = b) (h : ¬ x = y) : a ≤ x.toInt ∧ x.toInt ≤ b - 1 := by
  have : x.toInt ≠ y.toInt := fun q => h (Int32.toInt_inj.mp q)
  omega
theorem iv_in {x : Int32} {a b : Int} {n : Nat} (hx : a ≤ x.toInt ∧ x.toInt ≤ b) (h0 : 0 ≤ a) (hb : b < n) : vp_in x n := vp_in_iff.mpr ⟨Int.le_trans h0 hx.1, Int.lt_of_le_of_lt hx.2 hb⟩
theorem iv_bvN {v : Int32} {n : Nat} (h : v.toBitVec.toNat ≤ n) (hn : n < 2 ^ 31) : 0 ≤ v.toInt ∧ v.toInt ≤ n := by
  have e : v.toInt = (v.toBitVec.toNat : Int) := BitVec.toInt_eq_toNat_of_lt (by omega)
  omega
theorem iv_and {v x : Int32} (e : v = x &&& 255) : 0 ≤ v.toInt ∧ v.toInt ≤ 255 := by
  subst e
  exact iv_bvN (n := 255) (by rw [Int32.toBitVec_and, BitVec.toNat_and]; exact Nat.and_le_right) (by decide)
theorem iv_1 {v x : Int32} (e : v = x &&& 1) : 0 ≤ v.toInt ∧ v.toInt ≤ 1 := by
  subst e
  exact iv_bvN (n := 1) (by rw [Int32.toBitVec_and, BitVec.toNat_and]; exact Nat.and_le_right) (by decide)
theorem iv_nI {y : Int32} {b : Int} (hy : 0 ≤ y.toInt ∧ y.toInt ≤ b) : ∃ n : Nat, y = nI n ∧ (n : Int) = y.toInt := by
  refine ⟨y.toInt.toNat, ?_, by omega⟩
  have h2 := (iv_any y).2
  apply Int32.toInt_inj.mp
  rw [nI_toInt (by omega)]
  omega
theorem iv_sh0 : ∀ n, n < 31 → ((1 : Int32) <<< (nI n &&& 31)).toInt = (2 ^ n : Nat) := by decide +kernel
theorem iv_shl {v y : Int32} {b : Int} {k : Nat} (e : v = (1 : Int32) <<< (y &&& 31)) (hy : 0 ≤ y.toInt ∧ y.toInt ≤ b) (hb : b = k) (hk : k < 31) : (1 : Int) ≤ v.toInt ∧ v.toInt ≤ (2 ^ k : Nat) := by
  obtain ⟨n, rfl, hn⟩ := iv_nI hy
  have h : n ≤ k := by omega
  rw [e, iv_sh0 n (by omega)]
  have h1 : 2 ^ n ≤ 2 ^ k := Nat.pow_le_pow_right (by decide) h
  have h2 : 1 ≤ 2 ^ n := Nat.one_le_two_pow
  omega

def mm_is (x y : Nat) : Prop := x = y
theorem mm_tri {P W : Nat} {b1 b2 b3 b4 b5 b6 b7 b8 b9 b10 b11 K0 K1 K2 K3 K4 K5 K6 K7 K8 K9 K10 K11 a1 c1 a2 c2 a3 c3 a4 c4 a5 c5 a6 c6 a7 c7 a8 c8 a9 c9 a10 c10 a11 c11 : Nat → Int32} {n1 m1 n2 m2 n3 m3 n4 m4 n5 m5 n6 m6 n7 m7 n8 m8 n9 m9 n10 m10 n11 m11 : Nat} (p1 : mm_is n1 (0)) (k1 : mm_kp K0 b1 K1 n1 P) (p2 : mm_is n2 (n1 + P)) (k2 : mm_kp K1 b2 K2 n2 P) (p3 : mm_is n3 (n2 + P)) (k3 : mm_kp K2 b3 K3 n3 P) (p4 : mm_is n4 (n3 + P)) (k4 : mm_kp K3 b4 K4 n4 P) (p5 : mm_is n5 (n4 + P)) (k5 : mm_kp K4 b5 K5 n5 P) (p6 : mm_is n6 (n5 + P)) (k6 : mm_kp K5 b6 K6 n6 P) (p7 : mm_is n7 (n6 + P)) (k7 : mm_kp K6 b7 K7 n7 P) (p8 : mm_is n8 (n7 + P)) (k8 : mm_kp K7 b8 K8 n8 W) (p9 : mm_is n9 (n8 + W)) (k9 : mm_kp K8 b9 K9 n9 W) (p10 : mm_is n10 (n9 + W)) (k10 : mm_kp K9 b10 K10 n10 W) (p11 : mm_is n11 (n10 + W)) (k11 : mm_kp K10 b11 K11 n11 W) (q1 : mm_is m1 (0)) (h1 : mm_pb a1 K11 c1 m1 P) (q2 : mm_is m2 (m1 + P)) (h2 : mm_pb a2 K11 c2 m2 P) (q3 : mm_is m3 (m2 + P)) (h3 : mm_pb a3 K11 c3 m3 P) (q4 : mm_is m4 (m3 + P)) (h4 : mm_pb a4 K11 c4 m4 P) (q5 : mm_is m5 (m4 + P)) (h5 : mm_pb a5 K11 c5 m5 P) (q6 : mm_is m6 (m5 + P)) (h6 : mm_pb a6 K11 c6 m6 P) (q7 : mm_is m7 (m6 + P)) (h7 : mm_pb a7 K11 c7 m7 P) (q8 : mm_is m8 (m7 + P)) (h8 : mm_pb a8 K11 c8 m8 W) (q9 : mm_is m9 (m8 + W)) (h9 : mm_pb a9 K11 c9 m9 W) (q10 : mm_is m10 (m9 + W)) (h10 : mm_pb a10 K11 c10 m10 W) (q11 : mm_is m11 (m10 + W)) (h11 : mm_pb a11 K11 c11 m11 W) : (∀ i : Nat, i < P → c1 i = b1 i) ∧ (∀ i : Nat, i < P → c2 i = b2 i) ∧ (∀ i : Nat, i < P → c3 i = b3 i) ∧ (∀ i : Nat, i < P → c4 i = b4 i) ∧ (∀ i : Nat, i < P → c5 i = b5 i) ∧ (∀ i : Nat, i < P → c6 i = b6 i) ∧ (∀ i : Nat, i < P → c7 i = b7 i) ∧ (∀ i : Nat, i < W → c8 i = b8 i) ∧ (∀ i : Nat, i < W → c9 i = b9 i) ∧ (∀ i : Nat, i < W → c10 i = b10 i) ∧ (∀ i : Nat, i < W → c11 i = b11 i) := by
  have p1_ : n1 = _ := p1
  have q1_ : m1 = _ := q1
  have p2_ : n2 = _ := p2
  have q2_ : m2 = _ := q2
  have p3_ : n3 = _ := p3
  have q3_ : m3 = _ := q3
  have p4_ : n4 = _ := p4
  have q4_ : m4 = _ := q4
  have p5_ : n5 = _ := p5
  have q5_ : m5 = _ := q5
  have p6_ : n6 = _ := p6
  have q6_ : m6 = _ := q6
  have p7_ : n7 = _ := p7
  have q7_ : m7 = _ := q7
  have p8_ : n8 = _ := p8
  have q8_ : m8 = _ := q8
  have p9_ : n9 = _ := p9
  have q9_ : m9 = _ := q9
  have p10_ : n10 = _ := p10
  have q10_ : m10 = _ := q10
  have p11_ : n11 = _ := p11
  have q11_ : m11 = _ := q11
  refine ⟨?_, ?_, ?_, ?_, ?_, ?_, ?_, ?_, ?_, ?_, ?_⟩
  · intro i hi
    rw [h1 i, if_pos hi]
    have e : m1 = n1 := by omega
    rw [e]
    refine (mm_kp_out k11 (Or.inl (by omega))).trans ?_
    refine (mm_kp_out k10 (Or.inl (by omega))).trans ?_
    refine (mm_kp_out k9 (Or.inl (by omega))).trans ?_
    refine (mm_kp_out k8 (Or.inl (by omega))).trans ?_
    refine (mm_kp_out k7 (Or.inl (by omega))).trans ?_
    refine (mm_kp_out k6 (Or.inl (by omega))).trans ?_
    refine (mm_kp_out k5 (Or.inl (by omega))).trans ?_
    refine (mm_kp_out k4 (Or.inl (by omega))).trans ?_
    refine (mm_kp_out k3 (Or.inl (by omega))).trans ?_
    refine (mm_kp_out k2 (Or.inl (by omega))).trans ?_
    exact mm_kp_in k1 rfl hi
  · intro i hi
    rw [h2 i, if_pos hi]
    have e : m2 = n2 := by omega
    rw [e]
    refine (mm_kp_out k11 (Or.inl (by omega))).trans ?_
    refine (mm_kp_out k10 (Or.inl (by omega))).trans ?_
    refine (mm_kp_out k9 (Or.inl (by omega))).trans ?_
    refine (mm_kp_out k8 (Or.inl (by omega))).trans ?_
    refine (mm_kp_out k7 (Or.inl (by omega))).trans ?_
    refine (mm_kp_out k6 (Or.inl (by omega))).trans ?_
    refine (mm_kp_out k5 (Or.inl (by omega))).trans ?_
    refine (mm_kp_out k4 (Or.inl (by omega))).trans ?_
    refine (mm_kp_out k3 (Or.inl (by omega))).trans ?_
    exact mm_kp_in k2 rfl hi
  · intro i hi
    rw [h3 i, if_pos hi]
    have e : m3 = n3 := by omega
    rw [e]
    refine (mm_kp_out k11 (Or.inl (by omega))).trans ?_
    refine (mm_kp_out k10 (Or.inl (by omega))).trans ?_
    refine (mm_kp_out k9 (Or.inl (by omega))).trans ?_
    refine (mm_kp_out k8 (Or.inl (by omega))).trans ?_
    refine (mm_kp_out k7 (Or.inl (by omega))).trans ?_
    refine (mm_kp_out k6 (Or.inl (by omega))).trans ?_
    refine (mm_kp_out k5 (Or.inl (by omega))).trans ?_
    refine (mm_kp_out k4 (Or.inl (by omega))).trans ?_
    exact mm_kp_in k3 rfl hi
  · intro i hi
    rw [h4 i, if_pos hi]
    have e : m4 = n4 := by omega
    rw [e]
    refine (mm_kp_out k11 (Or.inl (by omega))).trans ?_
    refine (mm_kp_out k10 (Or.inl (by omega))).trans ?_
    refine (mm_kp_out k9 (Or.inl (by omega))).trans ?_
    refine (mm_kp_out k8 (Or.inl (by omega))).trans ?_
    refine (mm_kp_out k7 (Or.inl (by omega))).trans ?_
    refine (mm_kp_out k6 (Or.inl (by omega))).trans ?_
    refine (mm_kp_out k5 (Or.inl (by omega))).trans ?_
    exact mm_kp_in k4 rfl hi
  · intro i hi
    rw [h5 i, if_pos hi]
    have e : m5 = n5 := by omega
    rw [e]
    refine (mm_kp_out k11 (Or.inl (by omega))).trans ?_
    refine (mm_kp_out k10 (Or.inl (by omega))).trans ?_
    refine (mm_kp_out k9 (Or.inl (by omega))).trans ?_
    refine (mm_kp_out k8 (Or.inl (by omega))).trans ?_
    refine (mm_kp_out k7 (Or.inl (by omega))).trans ?_
    refine (mm_kp_out k6 (Or.inl (by omega))).trans ?_
    exact mm_kp_in k5 rfl hi
  · intro i hi
    rw [h6 i, if_pos hi]
    have e : m6 = n6 := by omega
    rw [e]
    refine (mm_kp_out k11 (Or.inl (by omega))).trans ?_
    refine (mm_kp_out k10 (Or.inl (by omega))).trans ?_
    refine (mm_kp_out k9 (Or.inl (by omega))).trans ?_
    refine (mm_kp_out k8 (Or.inl (by omega))).trans ?_
    refine (mm_kp_out k7 (Or.inl (by omega))).trans ?_
    exact mm_kp_in k6 rfl hi
  · intro i hi
    rw [h7 i, if_pos hi]
    have e : m7 = n7 := by omega
    rw [e]
    refine (mm_kp_out k11 (Or.inl (by omega))).trans ?_
    refine (mm_kp_out k10 (Or.inl (by omega))).trans ?_
    refine (mm_kp_out k9 (Or.inl (by omega))).trans ?_
    refine (mm_kp_out k8 (Or.inl (by omega))).trans ?_
    exact mm_kp_in k7 rfl hi
  · intro i hi
    rw [h8 i, if_pos hi]
    have e : m8 = n8 := by omega
    rw [e]
    refine (mm_kp_out k11 (Or.inl (by omega))).trans ?_
    refine (mm_kp_out k10 (Or.inl (by omega))).trans ?_
    refine (mm_kp_out k9 (Or.inl (by omega))).trans ?_
    exact mm_kp_in k8 rfl hi
  · intro i hi
    rw [h9 i, if_pos hi]
    have e : m9 = n9 := by omega
    rw [e]
    refine (mm_kp_out k11 (Or.inl (by omega))).trans ?_
    refine (mm_kp_out k10 (Or.inl (by omega))).trans ?_
    exact mm_kp_in k9 rfl hi
  · intro i hi
    rw [h10 i, if_pos hi]
    have e : m10 = n10 := by omega
    rw [e]
    refine (mm_kp_out k11 (Or.inl (by omega))).trans ?_
    exact mm_kp_in k10 rfl hi
  · intro i hi
    rw [h11 i, if_pos hi]
    have e : m11 = n11 := by omega
    rw [e]
    exact mm_kp_in k11 rfl hi
theorem mm_pb_out {a0 b c : Nat → Int32} {n0 n j : Nat} (h : mm_pb a0 b c n0 n) (hj : ¬ j < n) : c j = a0 j := by rw [h j, if_neg hj]

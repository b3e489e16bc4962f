theorem mo_wk_len {G : Nat → Int} {pc : Int} {a b : Nat} (h : mo_wk G pc a b < 10000000) : G (12 * a + b) < 10000000 := by
  unfold mo_wk mo_min at h
  by_cases q : 10000000 ≤ G (12 * a + b)
  · rw [if_pos q] at h; omega
  · omega
theorem mo_sim_t {D : Nat → Nat → Int32} {G : Nat → Int} {S T : Nat → Nat → Int32} {p a : Nat} {m na t bw lv cm : Int} (hR : mo_R D) (hG : mo_GR G) (hm : 0 ≤ m ∧ m ≤ 839) (hna : m ≤ na) (hok : mo_ok D S T p bw) (hb : bw ≤ 100000000) (ha : (T 14 p).toInt = (a : Int)) (ha2 : a < 12) (h6 : (S 6 p).toInt = -1) (h2 : (S 2 p).toInt = -1) (h2t : (T 2 p).toInt = -1) (hlv : (D 2 p).toInt < lv) (hnt : (mo_nt D : Int) ≤ 80) (ht : t = -1 ∨ ∃ k : Nat, t = (k : Int) ∧ k < mo_nt D ∧ mo_cd D G p a (mo_pc D (S 1 p) p) m na k) : mo_ok D (mo_go D G S p a m t) (mo_mg D G T p m t) p (bw + 1089) ∧ mo_rp D G (mo_go D G S p a m t) (mo_mg D G T p m t) p lv (m + 1) na cm := by
  have hpc := mo_pc_b hR (s := S 1 p) p
  have e1 : T 1 p = S 1 p := hok.2.1.symm
  have ea : (T 14 p).toInt.toNat = a := by omega
  have m1 : (Int32.ofInt (-1)).toInt = -1 := by decide
  have n1 : ((-1) : Int32).toInt = -1 := by decide
  have z0 : (0 : Int32).toInt = 0 := by decide
  have z1 : (1 : Int32).toInt = 1 := by decide
  have z2 : (2 : Int32).toInt = 2 := by decide
  have z4 : (4 : Int32).toInt = 4 := by decide
  have z5 : (5 : Int32).toInt = 5 := by decide
  have z6 : (6 : Int32).toInt = 6 := by decide
  have r0 := congrFun (mo_go_row (D := D) (G := G) (S := S) (p := p) (a := a) (m := m) (t := t) (r := 0) (by omega)) p
  have r4 := congrFun (mo_go_row (D := D) (G := G) (S := S) (p := p) (a := a) (m := m) (t := t) (r := 4) (by omega)) p
  have r6 := congrFun (mo_go_row (D := D) (G := G) (S := S) (p := p) (a := a) (m := m) (t := t) (r := 6) (by omega)) p
  rcases ht with rfl | ⟨k, rfl, hk, hc⟩
  · -- none
    have hw := hR.2.1 p
    by_cases q : 10000000 ≤ G (12 * a + mo_goal D p (-1))
    · have hg : mo_goal D p (-1) = mo_wo D p := rfl
      obtain ⟨g1, g2, g3, g5⟩ := mo_go_no (S := S) (m := m) q
      have em : mo_mg D G T p m (-1) = mo_se T 6 p 6 := by
        unfold mo_mg
        rw [if_neg (by decide), ea, if_neg (by rw [← hg]; omega)]
      have t6 : ∀ r, mo_mg D G T p m (-1) r p = if r = 6 then 6 else T r p := by
        intro r; rw [em, mo_se_at]; simp
      obtain ⟨o0, o1, o3, o4, o16, b1, b3, b6⟩ := hok
      refine ⟨⟨?_, ?_, ?_, ?_, ?_, ?_, ?_, b6⟩, Or.inr ⟨hlv, Or.inr (Or.inr (Or.inr (Or.inr (Or.inr ⟨?_, ?_, ?_, ?_, ?_⟩))))⟩⟩
      · rw [r0, t6]; exact o0
      · rw [g1, t6]; exact o1
      · rw [g3, t6]; exact o3
      · rw [r4, t6]; exact o4
      · rw [g3, t6]; exact o16
      · rw [g1]; exact b1
      · rw [g3]; omega
      · rw [t6]; exact z6
      · rw [g5]; exact m1
      · rw [r6]; exact h6
      · rw [g2]; exact h2
      · rw [t6]; exact h2t
    · have hg : mo_goal D p (-1) = mo_wo D p := rfl
      have hbw : (mo_wo D p) < 12 := by unfold mo_wo; omega
      obtain ⟨g1, g2, g3, g5⟩ := mo_go_at (S := S) (m := m) q
      rw [hg] at q g1 g2 g3
      have hG9 := hG (12 * a + mo_wo D p) (by omega)
      have hwk := mo_wk_b hG (pc := mo_pc D (S 1 p) p) (by omega) (by omega) ha2 hbw
      have hwk2 : mo_wk G (mo_pc D (S 1 p) p) a (mo_wo D p) ≤ 5446 := by
        rcases hwk.2 with w | w
        · exact w
        · exfalso
          unfold mo_wk mo_min at w
          rw [if_neg q] at w
          have e2 : G (12 * a + mo_wo D p) * mo_pc D (S 1 p) p ≤ 1089 * mo_pc D (S 1 p) p := Int.mul_le_mul_of_nonneg_right (by omega) (by omega)
          omega
      have hwd := mo_walked hok hb (len := G (12 * a + mo_wo D p)) (by omega) (by omega)
      have em : mo_mg D G T p m (-1) = mo_so D G T p (mo_wo D p) 4 (-1) m := by
        unfold mo_mg
        rw [if_neg (by decide), ea, if_pos (by omega)]
      obtain ⟨u0, u1, u2, u3, u4, u5, u6, u14, u15, u16⟩ := mo_msr_at D G T p (mo_wo D p) 4 (-1) m
      rw [ea] at u1 u3 u15 u16
      rw [e1] at u15
      have hU : (Int32.ofInt (m + mo_wk G (mo_pc D (S 1 p) p) a (mo_wo D p))).toInt = m + mo_wk G (mo_pc D (S 1 p) p) a (mo_wo D p) := mo_i32 (by omega) (by omega)
      obtain ⟨o0, o1, o3, o4, o16, b1, b3, b6⟩ := hok
      have key : ∀ T' : Nat → Nat → Int32, T' 0 p = T 0 p → T' 1 p = mo_shm (T 1 p) ((T 16 p + Int32.ofInt (G (12 * a + mo_wo D p))) / 300 - T 16 p / 300) → T' 3 p = T 3 p + Int32.ofInt (G (12 * a + mo_wo D p)) → T' 4 p = T 4 p → T' 16 p = T 16 p + Int32.ofInt (G (12 * a + mo_wo D p)) → mo_ok D (mo_go D G S p a m (-1)) T' p (bw + 1089) := by
        intro T' k0 k1 k3 k4 k16
        refine ⟨by rw [r0, k0]; exact o0, by rw [g1, k1, hwd.1], by rw [g3, k3, o3], by rw [r4, k4]; exact o4, by rw [k16, g3]; exact hwd.2.2.1, by rw [g1]; exact hwd.2.1, by rw [g3]; exact hwd.2.2.2, b6⟩
      by_cases w0 : mo_wk G (mo_pc D (S 1 p) p) a (mo_wo D p) = 0
      · have es : mo_so D G T p (mo_wo D p) 4 (-1) m = mo_se (mo_se (mo_ms0r D G T p (mo_wo D p) 4 (-1) m) 6 p 5) 2 p (Int32.ofInt m) := by
          unfold mo_so
          rw [ea, e1, if_pos w0]
          unfold mo_ar
          rw [if_neg (by rw [u6, z4]; decide)]
        have tA : ∀ r, mo_mg D G T p m (-1) r p = if r = 2 then Int32.ofInt m else if r = 6 then 5 else mo_ms0r D G T p (mo_wo D p) 4 (-1) m r p := by
          intro r; rw [em, es, mo_se_at, mo_se_at]; simp
        refine ⟨key _ (by rw [tA]; exact u0) (by rw [tA]; exact u1) (by rw [tA]; exact u3) (by rw [tA]; exact u4) (by rw [tA]; exact u16), Or.inr ⟨hlv, Or.inr (Or.inr (Or.inr (Or.inr (Or.inl ⟨?_, ?_, ?_, ?_⟩))))⟩⟩
        · rw [tA]; exact z5
        · rw [g5]; exact m1
        · rw [r6]; exact h6
        · rw [g2, tA, w0, if_pos ⟨rfl, by omega⟩, if_pos rfl, Int.add_zero]
      · have es : mo_so D G T p (mo_wo D p) 4 (-1) m = mo_ms0r D G T p (mo_wo D p) 4 (-1) m := by
          unfold mo_so
          rw [ea, e1, if_neg w0]
        rw [em, es]
        refine ⟨key _ u0 u1 u3 u4 u16, Or.inr ⟨hlv, Or.inr (Or.inr (Or.inr (Or.inl ⟨?_, ?_, ?_, ?_, ?_, ?_⟩)))⟩⟩
        · rw [u6]; exact z4
        · rw [g5]; exact m1
        · rw [r6]; exact h6
        · rw [u2]; exact h2t
        · rw [u15, hU]; omega
        · rw [u15, hU, g2]
          by_cases v : m + mo_wk G (mo_pc D (S 1 p) p) a (mo_wo D p) < 840
          · rw [if_pos ⟨rfl, v⟩, if_pos v]; exact hU
          · rw [if_neg (fun w => v w.2), if_neg v]; exact h2
  · -- a trip
    obtain ⟨⟨hrn, hhd⟩, c1, c2⟩ := hc
    have hgo : mo_goal D p (k : Int) = mo_cf D k := by
      unfold mo_goal
      rw [if_neg (by omega), Int.toNat_natCast]
    have hcf := mo_cf_b hR k
    have h14 := hR.2.2.1 k
    have hwk := mo_wk_b hG (pc := mo_pc D (S 1 p) p) (by omega) (by omega) ha2 hcf
    have hwk2 : mo_wk G (mo_pc D (S 1 p) p) a (mo_cf D k) ≤ 5446 := by omega
    have q : ¬ 10000000 ≤ G (12 * a + mo_cf D k) := by
      have := mo_wk_len (G := G) (pc := mo_pc D (S 1 p) p) (a := a) (b := mo_cf D k) (by omega)
      omega
    obtain ⟨g1, g2, g3, g5⟩ := mo_go_at (S := S) (m := m) (t := (k : Int)) (p := p) (D := D) (G := G) (a := a) (by rw [hgo]; exact q)
    rw [hgo] at g1 g2 g3
    rw [if_neg (by omega)] at g2
    have hG9 := hG (12 * a + mo_cf D k) (by omega)
    have hwd := mo_walked hok hb (len := G (12 * a + mo_cf D k)) (by omega) (by omega)
    have em : mo_mg D G T p m (k : Int) = mo_so D G T p (mo_cf D k) 1 (Int32.ofInt (k : Int)) m := by
      unfold mo_mg
      rw [if_pos (by omega), Int.toNat_natCast]
    obtain ⟨u0, u1, u2, u3, u4, u5, u6, u14, u15, u16⟩ := mo_msr_at D G T p (mo_cf D k) 1 (Int32.ofInt (k : Int)) m
    rw [ea] at u1 u3 u15 u16
    rw [e1] at u15
    have hU : (Int32.ofInt (m + mo_wk G (mo_pc D (S 1 p) p) a (mo_cf D k))).toInt = m + mo_wk G (mo_pc D (S 1 p) p) a (mo_cf D k) := mo_i32 (by omega) (by omega)
    have hK : (Int32.ofInt (k : Int)).toInt = (k : Int) := mo_i32 (by omega) (by omega)
    have hcc : Int32.ofInt ((mo_cf D k : Nat) : Int) = D 18 (D 12 k).toInt.toNat := by
      have h18 := hR.1 (D 12 k).toInt.toNat
      unfold mo_cf
      rw [show (((D 18 (D 12 k).toInt.toNat).toInt.toNat : Nat) : Int) = (D 18 (D 12 k).toInt.toNat).toInt from by omega]
      exact mo_i32i _
    obtain ⟨o0, o1, o3, o4, o16, b1, b3, b6⟩ := hok
    have key : ∀ T' : Nat → Nat → Int32, T' 0 p = T 0 p → T' 1 p = mo_shm (T 1 p) ((T 16 p + Int32.ofInt (G (12 * a + mo_cf D k))) / 300 - T 16 p / 300) → T' 3 p = T 3 p + Int32.ofInt (G (12 * a + mo_cf D k)) → T' 4 p = T 4 p → T' 16 p = T 16 p + Int32.ofInt (G (12 * a + mo_cf D k)) → mo_ok D (mo_go D G S p a m (k : Int)) T' p (bw + 1089) := by
      intro T' k0 k1 k3 k4 k16
      refine ⟨by rw [r0, k0]; exact o0, by rw [g1, k1, hwd.1], by rw [g3, k3, o3], by rw [r4, k4]; exact o4, by rw [k16, g3]; exact hwd.2.2.1, by rw [g1]; exact hwd.2.1, by rw [g3]; exact hwd.2.2.2, b6⟩
    by_cases w0 : mo_wk G (mo_pc D (S 1 p) p) a (mo_cf D k) = 0
    · have es : mo_so D G T p (mo_cf D k) 1 (Int32.ofInt (k : Int)) m = mo_se (mo_ms0r D G T p (mo_cf D k) 1 (Int32.ofInt (k : Int)) m) 6 p 2 := by
        unfold mo_so
        rw [ea, e1, if_pos w0]
        unfold mo_ar
        rw [if_pos (by rw [u6]; exact z1)]
      have tA : ∀ r, mo_mg D G T p m (k : Int) r p = if r = 6 then 2 else mo_ms0r D G T p (mo_cf D k) 1 (Int32.ofInt (k : Int)) m r p := by
        intro r; rw [em, es, mo_se_at]; simp
      refine ⟨key _ (by rw [tA]; exact u0) (by rw [tA]; exact u1) (by rw [tA]; exact u3) (by rw [tA]; exact u4) (by rw [tA]; exact u16), Or.inr ⟨hlv, Or.inr (Or.inl ⟨?_, ⟨k, ⟨?_, hk, hrn⟩, ?_, ?_, c1⟩, ?_, ?_, ?_⟩)⟩⟩
      · rw [tA]; exact z2
      · rw [tA]; exact (congrArg Int32.toInt u5).trans hK
      · rw [g5, tA]; exact u5.symm
      · rw [tA]; exact u14.trans hcc
      · rw [r6]; exact h6
      · rw [g2]; exact h2
      · rw [tA]; exact (congrArg Int32.toInt u2).trans h2t
    · have es : mo_so D G T p (mo_cf D k) 1 (Int32.ofInt (k : Int)) m = mo_ms0r D G T p (mo_cf D k) 1 (Int32.ofInt (k : Int)) m := by
        unfold mo_so
        rw [ea, e1, if_neg w0]
      rw [em, es]
      refine ⟨key _ u0 u1 u3 u4 u16, Or.inr ⟨hlv, Or.inl ⟨?_, ⟨k, ⟨?_, hk, hrn⟩, ?_, ?_, ?_, ?_, c1⟩, ?_, ?_, ?_⟩⟩⟩
      · rw [u6]; exact z1
      · rw [u5]; exact hK
      · rw [g5]; exact u5.symm
      · exact u14.trans hcc
      · rw [u15, hU]; omega
      · rw [u15, hU]; exact c2
      · rw [r6]; exact h6
      · rw [g2]; exact h2
      · rw [u2]; exact h2t
theorem mo_sim_c {D : Nat → Nat → Int32} {G : Nat → Int} {S T : Nat → Nat → Int32} {p a : Nat} {m na bw lv cm : Int} (hR : mo_R D) (hG : mo_GR G) (hm : 0 ≤ m ∧ m ≤ 839) (hna : m ≤ na) (hok : mo_ok D S T p bw) (hb : bw ≤ 100000000) (ha : (T 14 p).toInt = (a : Int)) (ha2 : a < 12) (h6 : (S 6 p).toInt = -1) (h2 : (S 2 p).toInt = -1) (h2t : (T 2 p).toInt = -1) (hlv : (D 2 p).toInt < lv) (hnt : (mo_nt D : Int) ≤ 80) : mo_ok D (mo_xc D G S p a m na) (mo_mc D G T p m na) p (bw + 1089) ∧ mo_rp D G (mo_xc D G S p a m na) (mo_mc D G T p m na) p lv (m + 1) na cm := by
  have e1 : T 1 p = S 1 p := hok.2.1.symm
  have ea : (T 14 p).toInt.toNat = a := by omega
  obtain ⟨r, hr⟩ := mo_pk_ex (G := G) hR p a (mo_pc D (S 1 p) p) m na
  have et := mo_t_eq (fun k => (hR.2.2.1 k).2) hr
  unfold mo_xc mo_mc
  rw [ea, e1, et]
  exact mo_sim_t hR hG hm hna hok hb ha ha2 h6 h2 h2t hlv hnt (mo_pk_r hr)

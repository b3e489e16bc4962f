noncomputable def mo_xt1 (D : Nat → Nat → Int32) (G : Nat → Int) (A : Nat → Nat → Int → Int → Int32) (np : Nat) (m : Int) (S : Nat → Nat → Int32) (t : Nat) : Nat → Nat → Int32 := mo_ii ((D 14 t).toInt = m ∧ mo_gt D t) (mo_xsn D G A np t m S) S
noncomputable def mo_mt1 (D : Nat → Nat → Int32) (G : Nat → Int) (A : Nat → Nat → Int → Int → Int32) (np : Nat) (m : Int) (T : Nat → Nat → Int32) (t : Nat) : Nat → Nat → Int32 := mo_ii ((D 14 t).toInt = m ∧ mo_gt D t) (mo_mlv D G A np t m T) T
theorem mo_xs_14 {D : Nat → Nat → Int32} {t : Nat} {fare : Int32} {np : Nat} {S : Nat → Nat → Int32} : ∀ j, mo_xs D t fare np S j 14 = S 14 := by
  intro j
  induction j with
  | zero => rfl
  | succ j ih =>
    show (if mo_fi D (mo_xs D t fare np S j) t fare np = -1 then mo_xs D t fare np S j else mo_xb1 D t fare (mo_xs D t fare np S j) (mo_fi D (mo_xs D t fare np S j) t fare np).toNat) 14 = _
    split
    · exact ih
    · unfold mo_xb1
      rw [mo_ea_row (by decide) (by decide), mo_se_rw (by decide), mo_se_rw (by decide), mo_se_rw (by decide)]
      exact ih
theorem mo_xo_14 {D : Nat → Nat → Int32} {G : Nat → Int} {np t : Nat} {m n : Int} {held : Int32} {S : Nat → Nat → Int32} {i : Nat} (h : (S 14 i).toInt ≠ 0) : (mo_xo D G np t m n held S 14 i).toInt ≠ 0 := by
  unfold mo_xo
  rw [mo_fo_xr, if_neg (fun w => absurd w.1 (by decide))]
  refine mo_mk_up ?_
  rw [mo_se_rw (by decide), mo_se_rw (by decide), mo_se_rw (by decide)]
  exact h
theorem mo_xsn_14 {D : Nat → Nat → Int32} {G : Nat → Int} {A : Nat → Nat → Int → Int → Int32} {np t : Nat} {m : Int} {S : Nat → Nat → Int32} {i : Nat} (h : (S 14 i).toInt ≠ 0) : (mo_xsn D G A np t m S 14 i).toInt ≠ 0 := by
  unfold mo_xsn
  by_cases c : mo_no D G A t S
  · rw [mo_ii_y c, mo_se_rw (by decide)]; exact h
  · rw [mo_ii_n c]
    have h3 : (mo_xs D t (A t 2 0 (S 8 (mo_w D t)).toInt) np (mo_se (mo_se S 12 t (-2)) 13 0 (S 13 0 - A t 5 0 (S 8 (mo_w D t)).toInt)) (mo_seats D t) 14 i).toInt ≠ 0 := by
      rw [mo_xs_14, mo_se_rw (by decide), mo_se_rw (by decide)]; exact h
    generalize mo_xs D t (A t 2 0 (S 8 (mo_w D t)).toInt) np (mo_se (mo_se S 12 t (-2)) 13 0 (S 13 0 - A t 5 0 (S 8 (mo_w D t)).toInt)) (mo_seats D t) = S3 at h3 ⊢
    generalize mo_xn D t (A t 2 0 (S 8 (mo_w D t)).toInt) np (mo_se (mo_se S 12 t (-2)) 13 0 (S 13 0 - A t 5 0 (S 8 (mo_w D t)).toInt)) (mo_seats D t) = n
    unfold mo_xg
    by_cases c1 : (A t 1 n (S3 8 (mo_w D t)).toInt).toInt = 0
    · rw [mo_ii_y c1]; exact mo_xo_14 h3
    · rw [mo_ii_n c1]
      by_cases c2 : (A t 4 n (S3 8 (mo_w D t)).toInt).toInt ≤ (mo_pay D S3 (mo_w D t)).toInt
      · rw [mo_ii_y c2]
        refine mo_xo_14 ?_
        unfold mo_xp
        split
        · rw [mo_se_rw (by decide), mo_se_rw (by decide)]; exact h3
        · rw [mo_se_rw (by decide), mo_se_rw (by decide)]; exact h3
      · rw [mo_ii_n c2, mo_fo_xq]
        split
        · rw [if_neg (by decide), if_neg (by decide), mo_se_rw (by decide), mo_se_rw (by decide)]; exact h3
        · rw [mo_se_rw (by decide), mo_se_rw (by decide)]; exact h3
def mo_Bz (D S : Nat → Nat → Int32) (np : Nat) : Prop := (∀ p, p < np → (S 14 (D 2 p).toInt.toNat).toInt ≠ 0) ∧ (∀ k, k < mo_nt D → mo_gt D k → (S 14 (D 14 k).toInt.toNat).toInt ≠ 0)
def mo_HA (D : Nat → Nat → Int32) (A : Nat → Nat → Int → Int → Int32) : Prop := ∀ t n ti, 0 ≤ (A t 3 n ti).toInt ∧ (A t 3 n ti).toInt ≤ 2000
theorem mo_tf {D : Nat → Nat → Int32} {G : Nat → Int} {A : Nat → Nat → Int → Int → Int32} {S T : Nat → Nat → Int32} {np nw : Nat} {m bw : Int} (hR : mo_R D) (hG : mo_GR G) (hA : mo_HA D A) (hm : 0 ≤ m ∧ m ≤ 839) (hnt : (mo_nt D : Int) ≤ 80) (hwh : mo_wh D) (hnw : (D 19 1).toInt = (nw : Int)) (hP : mo_P D G np nw (mo_nt D) m bw S T) (hB : mo_Bz D S np) : ∀ n, n ≤ mo_nt D → mo_P D G np nw (mo_nt D) m bw (mo_fo (mo_xt1 D G A np m) S n) (mo_fo (mo_mt1 D G A np m) T n) ∧ mo_Bz D (mo_fo (mo_xt1 D G A np m) S n) np := by
  intro n
  induction n with
  | zero => exact fun _ => ⟨hP, hB⟩
  | succ n ih =>
    intro hn
    obtain ⟨i1, i2⟩ := ih (by omega)
    show mo_P D G np nw (mo_nt D) m bw (mo_xt1 D G A np m (mo_fo (mo_xt1 D G A np m) S n) n) (mo_mt1 D G A np m (mo_fo (mo_mt1 D G A np m) T n) n) ∧ mo_Bz D (mo_xt1 D G A np m (mo_fo (mo_xt1 D G A np m) S n) n) np
    unfold mo_xt1 mo_mt1
    by_cases c : (D 14 n).toInt = m ∧ mo_gt D n
    · rw [mo_ii_y c, mo_ii_y c]
      have hw9 := hwh n (by omega)
      refine ⟨mo_send_sim hR hG (hA n) hm c.1 (by omega) hnt c.2 hw9.1 (by unfold mo_w; omega) i1, fun p hp => mo_xsn_14 (i2.1 p hp), fun k hk hg => mo_xsn_14 (i2.2 k hk hg)⟩
    · rw [mo_ii_n c, mo_ii_n c]
      exact ⟨i1, i2⟩
def mo_Q (D : Nat → Nat → Int32) (G : Nat → Int) (np nw : Nat) (m bw : Int) (S T : Nat → Nat → Int32) : Prop := (∀ p, p < np → mo_ok D S T p bw ∧ mo_rp D G S T p m m m m) ∧ (∀ w, w < nw → (∀ r, 7 ≤ r → r ≤ 11 → S r w = T r w) ∧ ((S 9 w).toInt = 0 ∨ (S 9 w).toInt = 1) ∧ ((S 11 w).toInt = -1 ∨ (m ≤ (S 11 w).toInt ∧ (S 11 w).toInt ≤ 5000 ∧ ((S 11 w).toInt < 840 → (S 14 (S 11 w).toInt.toNat).toInt ≠ 0)))) ∧ (∀ k, k < mo_nt D → S 12 k = T 12 k) ∧ S 13 0 = T 13 0 ∧ mo_Bz D S np
noncomputable def mo_xph (D : Nat → Nat → Int32) (G : Nat → Int) (A : Nat → Nat → Int → Int → Int32) (np nw : Nat) (m : Int) (S : Nat → Nat → Int32) : Nat → Nat → Int32 := mo_fo (mo_xa1 D G m) (mo_fo (mo_xt1 D G A np m) (mo_fo (mo_xh1 D G m) (mo_fo (mo_xl2 m) (mo_fo (mo_xl1 D G m) S np) nw) np) (mo_nt D)) np
noncomputable def mo_mph (D : Nat → Nat → Int32) (G : Nat → Int) (A : Nat → Nat → Int → Int → Int32) (np nw : Nat) (m : Int) (T : Nat → Nat → Int32) : Nat → Nat → Int32 := mo_fo (mo_ma1 D G m) (mo_fo (mo_mt1 D G A np m) (mo_fo (mo_mh1 D G m) (mo_fo (mo_ml1 D G m) (mo_fo (mo_xl2 m) T nw) np) np) (mo_nt D)) np
theorem mo_ph {D : Nat → Nat → Int32} {G : Nat → Int} {A : Nat → Nat → Int → Int → Int32} {S T : Nat → Nat → Int32} {np nw : Nat} {m bw : Int} (hR : mo_R D) (hG : mo_GR G) (hA : mo_HA D A) (hm : 0 ≤ m ∧ m ≤ 839) (hb : bw ≤ 90000000) (hnt : (mo_nt D : Int) ≤ 80) (hwh : mo_wh D) (hnw : (D 19 1).toInt = (nw : Int)) (hQ : mo_Q D G np nw m bw S T) : mo_Q D G np nw (m + 1) (bw + 3267) (mo_xph D G A np nw m S) (mo_mph D G A np nw m T) := by
  obtain ⟨q1, q2, q3, q4, q5⟩ := hQ
  have wlt : ∀ k, k < mo_nt D → (D 11 k).toInt.toNat < nw := fun k hk => by have := hwh k hk; omega
  have tc : ∀ r i, mo_fo (mo_xl2 m) T nw r i = if r = 11 ∧ i < nw ∧ (T 11 i).toInt = m then -1 else T r i := mo_fo_xl nw
  have tcr : ∀ r i, r ≠ 11 → mo_fo (mo_xl2 m) T nw r i = T r i := fun r i a => by rw [tc, if_neg (fun w => a w.1)]
  have n1 : ((-1) : Int32).toInt = -1 := by decide
  -- wheels come
  have h0 : ∀ k, k < mo_nt D → m ≤ (S 11 (D 11 k).toInt.toNat).toInt → ((mo_fo (mo_xl2 m) T nw 11 (D 11 k).toInt.toNat).toInt = -1 ↔ (S 11 (D 11 k).toInt.toNat).toInt = m) := by
    intro k hk hge
    have e := (q2 _ (wlt k hk)).1 11 (by decide) (by decide)
    rw [tc]
    by_cases c : (T 11 (D 11 k).toInt.toNat).toInt = m
    · rw [if_pos ⟨rfl, wlt k hk, c⟩]
      exact ⟨fun _ => by rw [e]; exact c, fun _ => n1⟩
    · rw [if_neg (fun w => c w.2.2)]
      rw [e] at hge ⊢
      exact ⟨fun w => by omega, fun w => absurd w c⟩
  obtain ⟨a1, a2, _⟩ := mo_fold (mo_wf G m (S0 := S) (T0 := mo_fo (mo_xl2 m) T nw) (np := np) (bw := bw) hR hG hm (by omega) hnt hwh h0) (I := mo_kp S (mo_fo (mo_xl2 m) T nw)) (B := fun S T p => mo_ok D S T p bw ∧ mo_rp D G S T p m m m m) (A := fun S T p => mo_ok D S T p (bw + 1089) ∧ mo_rp D G S T p m m m (m + 1)) (S := S) (T := mo_fo (mo_xl2 m) T nw) ⟨fun _ _ => rfl, fun _ _ => rfl⟩ (fun p hp => by
    obtain ⟨ho, hr⟩ := q1 p hp
    refine ⟨mo_ok_cg ho (fun r _ => rfl) (fun r hr => tcr r p (by omega)) (tcr 16 p (by decide)), ?_⟩
    unfold mo_rp mo_tk at hr ⊢
    rw [tcr 2 p (by decide), tcr 5 p (by decide), tcr 6 p (by decide), tcr 14 p (by decide), tcr 15 p (by decide)]
    exact hr) np (Nat.le_refl _)
  generalize e1 : mo_fo (mo_xl1 D G m) S np = S1 at a1 a2
  generalize f1 : mo_fo (mo_ml1 D G m) (mo_fo (mo_xl2 m) T nw) np = T1 at a1 a2
  have sc : ∀ r i, mo_fo (mo_xl2 m) S1 nw r i = if r = 11 ∧ i < nw ∧ (S1 11 i).toInt = m then -1 else S1 r i := mo_fo_xl nw
  have scr : ∀ r i, r ≠ 11 → mo_fo (mo_xl2 m) S1 nw r i = S1 r i := fun r i a => by rw [sc, if_neg (fun w => a w.1)]
  -- those who leave home
  obtain ⟨b1, b2, _⟩ := mo_fold (mo_hf G m (S0 := mo_fo (mo_xl2 m) S1 nw) (T0 := T1) (np := np) (bw := bw + 1089) hR hG hm (by omega) hnt) (I := mo_kp (mo_fo (mo_xl2 m) S1 nw) T1) (B := fun S T p => mo_ok D S T p (bw + 1089) ∧ mo_rp D G S T p m m m (m + 1)) (A := fun S T p => mo_ok D S T p (bw + 1089 + 1089) ∧ mo_rp D G S T p (m + 1) (m + 1) m (m + 1)) (S := mo_fo (mo_xl2 m) S1 nw) (T := T1) ⟨fun _ _ => rfl, fun _ _ => rfl⟩ (fun p hp => by
    obtain ⟨ho, hr⟩ := a2 p hp
    refine ⟨mo_ok_cg ho (fun r hr => scr r p (by omega)) (fun r _ => rfl) rfl, ?_⟩
    unfold mo_rp mo_tk at hr ⊢
    have e10 : mo_fo (mo_xl2 m) S1 nw 10 = S1 10 := funext fun i => scr 10 i (by decide)
    rw [scr 2 p (by decide), scr 5 p (by decide), scr 6 p (by decide), e10]
    rcases hr with h | ⟨hl, h | h | h | h | h | h⟩
    · exact Or.inl h
    · exact Or.inr ⟨hl, Or.inl h⟩
    · exact Or.inr ⟨hl, Or.inr (Or.inl h)⟩
    · obtain ⟨s1, ⟨k, k1, k2, k3, k4⟩, s2⟩ := h
      refine Or.inr ⟨hl, Or.inr (Or.inr (Or.inl ⟨s1, ⟨k, k1, k2, k3, ?_⟩, s2⟩))⟩
      rw [sc, if_neg (fun w => by have := w.2.2; omega)]
      exact k4
    · exact Or.inr ⟨hl, Or.inr (Or.inr (Or.inr (Or.inl h)))⟩
    · exact Or.inr ⟨hl, Or.inr (Or.inr (Or.inr (Or.inr (Or.inl h))))⟩
    · exact Or.inr ⟨hl, Or.inr (Or.inr (Or.inr (Or.inr (Or.inr h))))⟩) np (Nat.le_refl _)
  generalize e2 : mo_fo (mo_xh1 D G m) (mo_fo (mo_xl2 m) S1 nw) np = S3 at b1 b2
  generalize f2 : mo_fo (mo_mh1 D G m) T1 np = T3 at b1 b2
  have s3 : ∀ r i, 7 ≤ r → S3 r i = if r = 11 ∧ i < nw ∧ (S 11 i).toInt = m then -1 else S r i := by
    intro r i a
    rw [b1.1 r a, sc, a1.1 11 (by decide), a1.1 r a]
  have t3 : ∀ r i, 7 ≤ r → r ≤ 13 → T3 r i = if r = 11 ∧ i < nw ∧ (T 11 i).toInt = m then -1 else T r i := by
    intro r i a b
    rw [b1.2 r ⟨a, b⟩, a1.2 r ⟨a, b⟩, tc]
  -- trips
  have hP : mo_P D G np nw (mo_nt D) m (bw + 1089 + 1089) S3 T3 := by
    refine ⟨b2, fun v hv => ?_, fun k hk => ?_, ?_⟩
    · have h9 := q2 v hv
      refine ⟨fun r a b => ?_, ?_, ?_⟩
      · rw [s3 r v a, t3 r v a (by omega), h9.1 11 (by decide) (by decide), h9.1 r a b]
      · rw [s3 9 v (by decide), if_neg (fun w => absurd w.1 (by decide))]; exact h9.2.1
      · rw [s3 11 v (by decide)]
        by_cases c : (S 11 v).toInt = m
        · rw [if_pos ⟨rfl, hv, c⟩]; exact Or.inl n1
        · rw [if_neg (fun w => c w.2.2)]
          rcases h9.2.2 with w | ⟨w1, w2, w3⟩
          · exact Or.inl w
          · exact Or.inr ⟨by omega, w2, fun h8 => by rw [s3 14 _ (by decide), if_neg (fun w => absurd w.1 (by decide))]; exact w3 h8⟩
    · rw [s3 12 k (by decide), t3 12 k (by decide) (by decide), if_neg (fun w => absurd w.1 (by decide)), if_neg (fun w => absurd w.1 (by decide))]
      exact q3 k hk
    · rw [s3 13 0 (by decide), t3 13 0 (by decide) (by decide), if_neg (fun w => absurd w.1 (by decide)), if_neg (fun w => absurd w.1 (by decide))]
      exact q4
  have hB : mo_Bz D S3 np := by
    have e14 : ∀ i, S3 14 i = S 14 i := fun i => by rw [s3 14 i (by decide), if_neg (fun w => absurd w.1 (by decide))]
    exact ⟨fun p hp => by rw [e14]; exact q5.1 p hp, fun k hk hg => by rw [e14]; exact q5.2 k hk hg⟩
  obtain ⟨hP4, hB4⟩ := mo_tf (A := A) hR hG hA hm hnt hwh hnw hP hB (mo_nt D) (Nat.le_refl _)
  generalize e4 : mo_fo (mo_xt1 D G A np m) S3 (mo_nt D) = S4 at hP4 hB4
  generalize f4 : mo_fo (mo_mt1 D G A np m) T3 (mo_nt D) = T4 at hP4
  -- once more
  obtain ⟨c1, c2, _⟩ := mo_fold (mo_af G m (S0 := S4) (T0 := T4) (np := np) (bw := bw + 1089 + 1089) hR hG hm (by omega) hnt) (I := mo_kp S4 T4) (B := fun S T p => mo_ok D S T p (bw + 1089 + 1089) ∧ mo_rp D G S T p (m + 1) (m + 1) m (m + 1)) (A := fun S T p => mo_ok D S T p (bw + 1089 + 1089 + 1089) ∧ mo_rp D G S T p (m + 1) (m + 1) (m + 1) (m + 1)) (S := S4) (T := T4) ⟨fun _ _ => rfl, fun _ _ => rfl⟩ hP4.1 np (Nat.le_refl _)
  unfold mo_xph mo_mph
  rw [e1, f1, e2, f2, e4, f4]
  obtain ⟨_, p2, p3, p4⟩ := hP4
  refine ⟨fun p hp => ⟨mo_ok_mono (c2 p hp).1 (by omega), (c2 p hp).2⟩, fun v hv => ?_, fun k hk => ?_, ?_, ?_⟩
  · rw [c1.1 9 (by decide), c1.1 11 (by decide), c1.1 14 (by decide)]
    exact ⟨fun r a b => by rw [c1.1 r a, c1.2 r ⟨a, by omega⟩]; exact (p2 v hv).1 r a b, (p2 v hv).2⟩
  · rw [c1.1 12 (by decide), c1.2 12 ⟨by decide, by decide⟩]; exact p3 k hk
  · rw [c1.1 13 (by decide), c1.2 13 ⟨by decide, by decide⟩]; exact p4
  · unfold mo_Bz
    rw [c1.1 14 (by decide)]
    exact hB4
theorem mo_fo_id {f : (Nat → Nat → Int32) → Nat → (Nat → Nat → Int32)} {S : Nat → Nat → Int32} : ∀ n, (∀ i, i < n → f S i = S) → mo_fo f S n = S := by
  intro n
  induction n with
  | zero => exact fun _ => rfl
  | succ n ih =>
    intro h
    show f (mo_fo f S n) n = S
    rw [ih (fun i hi => h i (by omega)), h n (Nat.lt_succ_self n)]
theorem mo_idle {D : Nat → Nat → Int32} {G : Nat → Int} {A : Nat → Nat → Int → Int → Int32} {S T : Nat → Nat → Int32} {np nw : Nat} {m bw : Int} (hm : 0 ≤ m ∧ m ≤ 839) (hwh : mo_wh D) (hnw : (D 19 1).toInt = (nw : Int)) (hQ : mo_Q D G np nw m bw S T) (hz : (S 14 m.toNat).toInt = 0) : mo_xph D G A np nw m S = S := by
  obtain ⟨q1, q2, q3, q4, q5⟩ := hQ
  have wlt : ∀ k, k < mo_nt D → (D 11 k).toInt.toNat < nw := fun k hk => by have := hwh k hk; omega
  have nw9 : ∀ v, v < nw → ¬ (S 11 v).toInt = m := by
    intro v hv e
    rcases (q2 v hv).2.2 with w | ⟨w1, w2, w3⟩
    · omega
    · have := w3 (by omega)
      rw [e] at this
      exact this hz
  have i1 : mo_fo (mo_xl1 D G m) S np = S := mo_fo_id np (fun p hp => by
    unfold mo_xl1
    rw [if_neg]
    rintro ⟨w1, w2⟩
    rcases (q1 p hp).2 with h | ⟨hl, h | h | h | h | h | h⟩
    · exact w1 h.2.2.1
    · exact w1 h.2.2.1
    · exact w1 h.2.2.1
    · obtain ⟨_, ⟨k, k1, k2, _⟩, _⟩ := h
      rw [k2] at w2
      exact nw9 _ (wlt k k1.2.1) w2
    · exact w1 h.2.2.1
    · exact w1 h.2.2.1
    · exact w1 h.2.2.1)
  have i2 : mo_fo (mo_xl2 m) S nw = S := mo_fo_id nw (fun v hv => by
    unfold mo_xl2
    rw [if_neg (nw9 v hv)])
  have i3 : mo_fo (mo_xh1 D G m) S np = S := mo_fo_id np (fun p hp => by
    unfold mo_xh1
    rw [if_neg (fun w => q5.1 p hp (by rw [w]; exact hz))])
  have i4 : mo_fo (mo_xt1 D G A np m) S (mo_nt D) = S := mo_fo_id _ (fun k hk => by
    unfold mo_xt1
    rw [mo_ii_n (fun w => q5.2 k hk w.2 (by rw [w.1]; exact hz))])
  have i5 : mo_fo (mo_xa1 D G m) S np = S := mo_fo_id np (fun p hp => by
    unfold mo_xa1
    rw [if_neg]
    rintro ⟨w1, w2⟩
    have bad : ∀ k, mo_tk D G S T p k → S 5 p = T 5 p → False := by
      intro k k1 k2
      rw [k2, show (T 5 p).toInt.toNat = k from by have := k1.1; omega] at w2
      exact q5.2 k k1.2.1 k1.2.2.1 (by rw [w2]; exact hz)
    rcases (q1 p hp).2 with h | ⟨hl, h | h | h | h | h | h⟩
    · exact w1 h.2.1
    · obtain ⟨_, ⟨k, k1, k2, _⟩, _⟩ := h
      exact bad k k1 k2
    · obtain ⟨_, ⟨k, k1, k2, _⟩, _⟩ := h
      exact bad k k1 k2
    · exact w1 h.2.2.1
    · exact w1 h.2.1
    · exact w1 h.2.1
    · exact w1 h.2.1)
  unfold mo_xph
  rw [i1, i2, i3, i4, i5]
noncomputable def mo_xm (D : Nat → Nat → Int32) (G : Nat → Int) (A : Nat → Nat → Int → Int → Int32) (np nw : Nat) (m : Nat) (S : Nat → Nat → Int32) : Nat → Nat → Int32 := if (S 14 m).toInt = 0 then S else mo_xph D G A np nw (m : Int) S
noncomputable def mo_xd (D : Nat → Nat → Int32) (G : Nat → Int) (A : Nat → Nat → Int → Int → Int32) (np nw : Nat) (S : Nat → Nat → Int32) : Nat → (Nat → Nat → Int32)
  | 0 => S
  | n + 1 => mo_xm D G A np nw n (mo_xd D G A np nw S n)
noncomputable def mo_md (D : Nat → Nat → Int32) (G : Nat → Int) (A : Nat → Nat → Int → Int → Int32) (np nw : Nat) (T : Nat → Nat → Int32) : Nat → (Nat → Nat → Int32)
  | 0 => T
  | n + 1 => mo_mph D G A np nw (n : Int) (mo_md D G A np nw T n)
theorem mo_day {D : Nat → Nat → Int32} {G : Nat → Int} {A : Nat → Nat → Int → Int → Int32} {S T : Nat → Nat → Int32} {np nw : Nat} (hR : mo_R D) (hG : mo_GR G) (hA : mo_HA D A) (hnt : (mo_nt D : Int) ≤ 80) (hwh : mo_wh D) (hnw : (D 19 1).toInt = (nw : Int)) (hQ : mo_Q D G np nw 0 0 S T) : ∀ n : Nat, n ≤ 840 → mo_Q D G np nw (n : Int) (3267 * (n : Int)) (mo_xd D G A np nw S n) (mo_md D G A np nw T n) := by
  intro n
  induction n with
  | zero => exact fun _ => hQ
  | succ n ih =>
    intro hn
    have h := ih (by omega)
    have hm : 0 ≤ (n : Int) ∧ (n : Int) ≤ 839 := by omega
    have hp := mo_ph (A := A) hR hG hA hm (by omega) hnt hwh hnw h
    rw [show ((n + 1 : Nat) : Int) = (n : Int) + 1 from by omega, show 3267 * ((n : Int) + 1) = 3267 * (n : Int) + 3267 from by omega]
    show mo_Q D G np nw ((n : Int) + 1) (3267 * (n : Int) + 3267) (mo_xm D G A np nw n (mo_xd D G A np nw S n)) (mo_mph D G A np nw (n : Int) (mo_md D G A np nw T n))
    unfold mo_xm
    by_cases c : (mo_xd D G A np nw S n 14 n).toInt = 0
    · rw [if_pos c]
      have e := mo_idle (A := A) hm hwh hnw h (by rw [Int.toNat_natCast]; exact c)
      rw [e] at hp
      exact hp
    · rw [if_neg c]
      exact hp
theorem mo_end {D : Nat → Nat → Int32} {G : Nat → Int} {S T : Nat → Nat → Int32} {np nw : Nat} {bw : Int} (h : mo_Q D G np nw 840 bw S T) {p : Nat} (hp : p < np) : S 0 p = T 0 p ∧ S 1 p = T 1 p ∧ S 2 p = T 2 p ∧ S 3 p = T 3 p ∧ S 4 p = T 4 p ∧ T 16 p = D 6 p + S 3 p := by
  obtain ⟨⟨o0, o1, o3, o4, o16, _⟩, hr⟩ := h.1 p hp
  refine ⟨o0, o1, ?_, o3, o4, o16⟩
  rcases hr with h | ⟨hl, h | h | h | h | h | h⟩
  · exact Int32.toInt_inj.mp (h.2.2.2.1.trans h.2.2.2.2.1.symm)
  · exact Int32.toInt_inj.mp (h.2.2.2.1.trans h.2.2.2.2.symm)
  · exact Int32.toInt_inj.mp (h.2.2.2.1.trans h.2.2.2.2.symm)
  · exact Int32.toInt_inj.mp (h.2.2.2.1.trans h.2.2.2.2.symm)
  · obtain ⟨s1, s2, s3, s4, s5, s6⟩ := h
    rw [if_neg (by omega)] at s6
    exact Int32.toInt_inj.mp (s6.trans s4.symm)
  · exact h.2.2.2
  · exact Int32.toInt_inj.mp (h.2.2.2.1.trans h.2.2.2.2.symm)

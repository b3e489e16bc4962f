theorem mo_gon {D : Nat → Nat → Int32} {G : Nat → Int} {S T : Nat → Nat → Int32} {np nw t : Nat} {m bw : Int} (hm : 0 ≤ m ∧ m ≤ 839) (h14 : (D 14 t).toInt = m) (ht : t < mo_nt D) (hnt : (mo_nt D : Int) ≤ 80) (hrn : mo_rn D G t) (hwt : 0 ≤ (D 11 t).toInt) (hw : mo_w D t < nw) (hK : ∀ p, p < np → mo_ok D S T p bw ∧ (mo_rp D G S T p (m + 1) (m + 1) m (m + 1) ∨ mo_bd D S T t p (m + 1))) (hW : mo_Wr S T nw m) (hL : ∀ k, k < mo_nt D → S 12 k = T 12 k) (h13 : S 13 0 = T 13 0) (h11 : (S 11 (mo_w D t)).toInt = -1) : mo_P D G np nw (mo_nt D) m bw (mo_fo (mo_xq1 D t) (mo_se (mo_se S 8 (mo_w D t) (S 8 (mo_w D t) + 1)) 9 (mo_w D t) 1) np) (mo_fo (mo_mq1 t) (mo_se (mo_se T 8 (mo_w D t) (T 8 (mo_w D t) + 1)) 9 (mo_w D t) 1) np) := by
  have n1 : ((-1) : Int32).toInt = -1 := by decide
  have z2 : (2 : Int32).toInt = 2 := by decide
  have z1 : (1 : Int32).toInt = 1 := by decide
  have ht9 : (Int32.ofInt (t : Int)).toInt = (t : Int) := mo_i32 (by omega) (by omega)
  have e6 : ∀ r i, r ≠ 8 → r ≠ 9 → mo_se (mo_se S 8 (mo_w D t) (S 8 (mo_w D t) + 1)) 9 (mo_w D t) 1 r i = S r i := by
    intro r i a b
    rw [mo_se_rw b, mo_se_rw a]
  have f6 : ∀ r i, r ≠ 8 → r ≠ 9 → mo_se (mo_se T 8 (mo_w D t) (T 8 (mo_w D t) + 1)) 9 (mo_w D t) 1 r i = T r i := by
    intro r i a b
    rw [mo_se_rw b, mo_se_rw a]
  have xr : ∀ r, r ≠ 5 → r ≠ 6 → ∀ i, mo_fo (mo_xq1 D t) (mo_se (mo_se S 8 (mo_w D t) (S 8 (mo_w D t) + 1)) 9 (mo_w D t) 1) np r i = mo_se (mo_se S 8 (mo_w D t) (S 8 (mo_w D t) + 1)) 9 (mo_w D t) 1 r i := by
    intro r a b i
    rw [mo_fo_xq]
    split <;> first | rfl | rw [if_neg a, if_neg b]
  have mr : ∀ r, r ≠ 6 → ∀ i, mo_fo (mo_mq1 t) (mo_se (mo_se T 8 (mo_w D t) (T 8 (mo_w D t) + 1)) 9 (mo_w D t) 1) np r i = mo_se (mo_se T 8 (mo_w D t) (T 8 (mo_w D t) + 1)) 9 (mo_w D t) 1 r i := by
    intro r a i
    rw [mo_fo_mq, if_neg (fun w => a w.1)]
  refine ⟨fun p hp => ?_, fun v hv => ⟨fun r a b => ?_, ?_, ?_⟩, fun k hk => ?_, ?_⟩
  · obtain ⟨hok, h⟩ := hK p hp
    have hok2 : mo_ok D (mo_fo (mo_xq1 D t) (mo_se (mo_se S 8 (mo_w D t) (S 8 (mo_w D t) + 1)) 9 (mo_w D t) 1) np) (mo_fo (mo_mq1 t) (mo_se (mo_se T 8 (mo_w D t) (T 8 (mo_w D t) + 1)) 9 (mo_w D t) 1) np) p bw := mo_ok_cg hok (fun r hr => by rw [xr r (by omega) (by omega), e6 r p (by omega) (by omega)]) (fun r hr => by rw [mr r (by omega), f6 r p (by omega) (by omega)]) (by rw [mr 16 (by decide), f6 16 p (by decide) (by decide)])
    refine ⟨hok2, ?_⟩
    rcases h with h | h
    · have hn := mo_nbd hm.1 hwt h11 h
      refine mo_rp_w hm.1 rfl h11 h (fun r a b => ?_) (fun v hv => ?_) (fun v hv => ?_) (fun r a b => ?_)
      · rw [mo_fo_xq, e6 6 p (by decide) (by decide), if_neg (fun w => hn.1 w.2), e6 r p (by omega) (by omega)]
      · rw [xr 10 (by decide) (by decide), e6 10 v (by decide) (by decide)]
      · rw [xr 11 (by decide) (by decide), e6 11 v (by decide) (by decide)]
      · rw [mo_fo_mq, f6 6 p (by decide) (by decide), f6 5 p (by decide) (by decide), if_neg (fun w => hn.2 w.2.2), f6 r p (by omega) (by omega)]
    · obtain ⟨b1, b2, b3, b4, b5, b6, b7, b8⟩ := h
      have hx : ∀ r, r < 8 → mo_fo (mo_xq1 D t) (mo_se (mo_se S 8 (mo_w D t) (S 8 (mo_w D t) + 1)) 9 (mo_w D t) 1) np r p = (if r = 5 then Int32.ofInt (t : Int) else if r = 6 then -1 else S r p) := by
        intro r hr
        rw [mo_fo_xq, e6 6 p (by decide) (by decide), if_pos ⟨hp, by rw [b3]⟩, e6 r p (by omega) (by omega)]
      have hy : mo_fo (mo_mq1 t) (mo_se (mo_se T 8 (mo_w D t) (T 8 (mo_w D t) + 1)) 9 (mo_w D t) 1) np 6 p = 2 := by
        rw [mo_fo_mq, f6 6 p (by decide) (by decide), f6 5 p (by decide) (by decide), if_pos ⟨rfl, hp, b1, b2⟩]
      refine Or.inr ⟨b8, Or.inr (Or.inl ⟨by rw [hy]; exact z2, ⟨t, ⟨?_, ht, hrn⟩, ?_, ?_, by omega⟩, ?_, ?_, ?_⟩)⟩
      · rw [mr 5 (by decide), f6 5 p (by decide) (by decide)]; exact b2
      · rw [hx 5 (by decide), if_pos rfl, mr 5 (by decide), f6 5 p (by decide) (by decide)]
        exact Int32.toInt_inj.mp (ht9.trans b2.symm)
      · rw [mr 14 (by decide), f6 14 p (by decide) (by decide)]; exact b7
      · rw [hx 6 (by decide), if_neg (by decide), if_pos rfl]; exact n1
      · rw [hx 2 (by decide), if_neg (by decide), if_neg (by decide)]; exact b5
      · rw [mr 2 (by decide), f6 2 p (by decide) (by decide)]; exact b6
  · have h9 := (hW v hv).1
    rw [xr r (by omega) (by omega), mr r (by omega), mo_se_at, mo_se_at, mo_se_at, mo_se_at, h9 r a b]
    have h8 := (hW _ hw).1 8 (by decide) (by decide)
    rw [h8]
  · rw [xr 9 (by decide) (by decide), mo_se_at]
    by_cases q : v = mo_w D t
    · rw [if_pos ⟨rfl, q⟩]; exact Or.inr z1
    · rw [if_neg (fun w => q w.2), mo_se_rw (by decide)]; exact (hW v hv).2.1
  · rw [xr 11 (by decide) (by decide), e6 11 v (by decide) (by decide)]
    rcases (hW v hv).2.2 with w | ⟨w1, w2, w3⟩
    · exact Or.inl w
    · exact Or.inr ⟨w1, w2, fun h8 => by rw [xr 14 (by decide) (by decide), e6 14 _ (by decide) (by decide)]; exact w3 h8⟩
  · rw [xr 12 (by decide) (by decide), e6 12 k (by decide) (by decide), mr 12 (by decide), f6 12 k (by decide) (by decide)]
    exact hL k hk
  · rw [xr 13 (by decide) (by decide), e6 13 0 (by decide) (by decide), mr 13 (by decide), f6 13 0 (by decide) (by decide)]
    exact h13
theorem mo_send_sim {D : Nat → Nat → Int32} {G : Nat → Int} {A : Nat → Nat → Int → Int → Int32} {S T : Nat → Nat → Int32} {np nw t : Nat} {m bw : Int} (hR : mo_R D) (hG : mo_GR G) (hA : ∀ n ti, 0 ≤ (A t 3 n ti).toInt ∧ (A t 3 n ti).toInt ≤ 2000) (hm : 0 ≤ m ∧ m ≤ 839) (h14 : (D 14 t).toInt = m) (ht : t < mo_nt D) (hnt : (mo_nt D : Int) ≤ 80) (hgt : mo_gt D t) (hwt : 0 ≤ (D 11 t).toInt) (hw : mo_w D t < nw) (hP : mo_P D G np nw (mo_nt D) m bw S T) : mo_P D G np nw (mo_nt D) m bw (mo_xsn D G A np t m S) (mo_mlv D G A np t m T) := by
  obtain ⟨p1, p2, p3, p4⟩ := hP
  have w8 := (p2 _ hw).1 8 (by decide) (by decide)
  have w9 := (p2 _ hw).1 9 (by decide) (by decide)
  have w10 := (p2 _ hw).1 10 (by decide) (by decide)
  have w11 := (p2 _ hw).1 11 (by decide) (by decide)
  have hno : mo_no D G A t S ↔ mo_no D G A t T := by
    unfold mo_no mo_rdy
    rw [w8, w9, w10, w11, p4]
  unfold mo_xsn mo_mlv
  by_cases c : mo_no D G A t S
  · rw [mo_ii_y c, mo_ii_y (hno.mp c)]
    refine ⟨fun p hp => ⟨mo_ok_cg (p1 p hp).1 (fun r hr => congrFun (mo_se_rw (by omega)) p) (fun r hr => congrFun (mo_se_rw (by omega)) p) (congrFun (mo_se_rw (by decide)) p), ?_⟩, fun v hv => ?_, fun k hk => ?_, ?_⟩
    · have h9 := (p1 p hp).2
      unfold mo_rp mo_tk at h9 ⊢
      rw [mo_se_rw (r1 := 2) (by decide), mo_se_rw (r1 := 5) (by decide), mo_se_rw (r1 := 6) (by decide), mo_se_rw (r1 := 10) (by decide), mo_se_rw (r1 := 11) (by decide), mo_se_rw (r1 := 2) (by decide), mo_se_rw (r1 := 5) (by decide), mo_se_rw (r1 := 6) (by decide), mo_se_rw (r1 := 14) (by decide), mo_se_rw (r1 := 15) (by decide)]
      exact h9
    · have h9 := p2 v hv
      refine ⟨fun r a b => by rw [mo_se_rw (by omega), mo_se_rw (by omega)]; exact h9.1 r a b, ?_, ?_⟩
      · rw [mo_se_rw (by decide)]; exact h9.2.1
      · rw [mo_se_rw (r1 := 11) (by decide), mo_se_rw (r1 := 14) (by decide)]; exact h9.2.2
    · rw [mo_se_at, mo_se_at, p3 k hk]
    · rw [mo_se_rw (by decide), mo_se_rw (by decide)]; exact p4
  · rw [mo_ii_n c, mo_ii_n (fun w => c (hno.mpr w))]
    have hrdy : mo_rdy D G S t := Classical.byContradiction (fun w => c (Or.inl w))
    have hrn : mo_rn D G t := ⟨hgt, hrdy.2.2.2⟩
    rw [← w8, ← p4]
    have hb : ∀ q, (D 3 q).toInt ≤ 719 ∧ 0 ≤ (D 3 q).toInt := fun q => ⟨(hR.2.2.2.2.2.1 q).2, (hR.2.2.2.2.2.1 q).1⟩
    have hK0 : mo_K D G np nw t m bw (mo_se (mo_se S 12 t (-2)) 13 0 (S 13 0 - A t 5 0 (S 8 (mo_w D t)).toInt)) (mo_se (mo_se T 12 t (-2)) 13 0 (S 13 0 - A t 5 0 (S 8 (mo_w D t)).toInt)) (mo_se (mo_se S 12 t (-2)) 13 0 (S 13 0 - A t 5 0 (S 8 (mo_w D t)).toInt)) (mo_se (mo_se T 12 t (-2)) 13 0 (S 13 0 - A t 5 0 (S 8 (mo_w D t)).toInt)) := by
      refine ⟨fun p hp => ⟨mo_ok_cg (p1 p hp).1 (fun r hr => by rw [mo_se_rw (by omega), mo_se_rw (by omega)]) (fun r hr => by rw [mo_se_rw (by omega), mo_se_rw (by omega)]) (by rw [mo_se_rw (by decide), mo_se_rw (by decide)]), Or.inl ?_⟩, fun v hv => ?_, ?_, fun r _ _ => rfl, fun r _ _ => rfl⟩
      · have h9 := (p1 p hp).2
        unfold mo_rp mo_tk at h9 ⊢
        rw [mo_se_rw (r1 := 2) (by decide), mo_se_rw (r1 := 2) (by decide), mo_se_rw (r1 := 5) (by decide), mo_se_rw (r1 := 5) (by decide), mo_se_rw (r1 := 6) (by decide), mo_se_rw (r1 := 6) (by decide), mo_se_rw (r1 := 10) (by decide), mo_se_rw (r1 := 10) (by decide), mo_se_rw (r1 := 11) (by decide), mo_se_rw (r1 := 11) (by decide), mo_se_rw (r1 := 2) (by decide), mo_se_rw (r1 := 2) (by decide), mo_se_rw (r1 := 5) (by decide), mo_se_rw (r1 := 5) (by decide), mo_se_rw (r1 := 6) (by decide), mo_se_rw (r1 := 6) (by decide), mo_se_rw (r1 := 14) (by decide), mo_se_rw (r1 := 14) (by decide), mo_se_rw (r1 := 15) (by decide), mo_se_rw (r1 := 15) (by decide)]
        exact h9
      · rw [mo_se_rw (by decide), mo_se_rw (by decide), mo_se_rw (by decide), mo_se_rw (by decide)]
        exact (p2 v hv).1 7 (by decide) (by decide)
      · rw [mo_se_pp, mo_se_pp]
    have hbo := mo_board (fare := A t 2 0 (S 8 (mo_w D t)).toInt) (seats := mo_seats D t) hb hw h14 hK0
    generalize mo_xs D t (A t 2 0 (S 8 (mo_w D t)).toInt) np (mo_se (mo_se S 12 t (-2)) 13 0 (S 13 0 - A t 5 0 (S 8 (mo_w D t)).toInt)) (mo_seats D t) = S3 at hbo ⊢
    generalize mo_mbo D t (A t 2 0 (S 8 (mo_w D t)).toInt) (mo_seats D t : Int) np (mo_se (mo_se T 12 t (-2)) 13 0 (S 13 0 - A t 5 0 (S 8 (mo_w D t)).toInt), 0) 720 = X3 at hbo ⊢
    obtain ⟨⟨k1, k2, k3, k4, k5⟩, hn⟩ := hbo
    rw [hn]
    generalize mo_xn D t (A t 2 0 (S 8 (mo_w D t)).toInt) np (mo_se (mo_se S 12 t (-2)) 13 0 (S 13 0 - A t 5 0 (S 8 (mo_w D t)).toInt)) (mo_seats D t) = n
    have s8 : ∀ r i, 8 ≤ r → r ≠ 12 → r ≠ 13 → S3 r i = S r i := by
      intro r i a b c
      rw [k4 r a c, mo_se_rw c, mo_se_rw b]
    have t8 : ∀ r i, 8 ≤ r → r ≤ 11 → X3.1 r i = T r i := by
      intro r i a b
      rw [k5 r a (by omega), mo_se_rw (by omega), mo_se_rw (by omega)]
    have hW3 : mo_Wr S3 X3.1 nw m := by
      intro v hv
      have h9 := p2 v hv
      refine ⟨fun r a b => ?_, ?_, ?_⟩
      · by_cases e : r = 7
        · rw [e]; exact k2 v hv
        · rw [s8 r v (by omega) (by omega) (by omega), t8 r v (by omega) b]; exact h9.1 r a b
      · rw [s8 9 v (by decide) (by decide) (by decide)]; exact h9.2.1
      · rw [s8 11 v (by decide) (by decide) (by decide), s8 14 _ (by decide) (by decide) (by decide)]; exact h9.2.2
    have hL3 : ∀ k, k < mo_nt D → S3 12 k = X3.1 12 k := by
      intro k hk
      rw [k4 12 (by decide) (by decide), k5 12 (by decide) (by decide), mo_se_rw (r := 13) (r1 := 12) (by decide), mo_se_rw (r := 13) (r1 := 12) (by decide), mo_se_at, mo_se_at, p3 k hk]
    have h11 : (S3 11 (mo_w D t)).toInt = -1 := by rw [s8 11 _ (by decide) (by decide) (by decide)]; exact hrdy.1
    have e8 : X3.1 8 (mo_w D t) = S3 8 (mo_w D t) := (hW3 _ hw).1 8 (by decide) (by decide) |>.symm
    have epay : mo_pay D X3.1 (mo_w D t) = mo_pay D S3 (mo_w D t) := by
      unfold mo_pay
      rw [k2 _ hw, k3]
    unfold mo_xg mo_mg2
    rw [e8, epay]
    by_cases c1 : (A t 1 n (S3 8 (mo_w D t)).toInt).toInt = 0
    · rw [mo_ii_y c1, mo_ii_y c1]
      exact mo_set hR hG hm ht hrn hwt hw ⟨by decide, by decide⟩ k1 hW3 hL3 k3 h11
    · rw [mo_ii_n c1, mo_ii_n c1]
      by_cases c2 : (A t 4 n (S3 8 (mo_w D t)).toInt).toInt ≤ (mo_pay D S3 (mo_w D t)).toInt
      · rw [mo_ii_y c2, mo_ii_y c2]
        refine mo_set hR hG hm ht hrn hwt hw (hA n _) ?_ ?_ ?_ ?_ ?_
        · intro p hp
          have x7 : ∀ r, r ≠ 7 → r ≠ 8 → r ≠ 13 → mo_xp D (mo_w D t) (A t 4 n (S3 8 (mo_w D t)).toInt) (mo_se S3 8 (mo_w D t) (S3 8 (mo_w D t) + 1)) r = S3 r := by
            intro r a b c
            unfold mo_xp
            split
            · rw [mo_se_rw a, mo_se_rw b]
            · rw [mo_se_rw c, mo_se_rw b]
          have y7 : ∀ r, r ≠ 7 → r ≠ 8 → r ≠ 13 → mo_xp D (mo_w D t) (A t 4 n (S3 8 (mo_w D t)).toInt) (mo_se X3.1 8 (mo_w D t) (S3 8 (mo_w D t) + 1)) r = X3.1 r := by
            intro r a b c
            unfold mo_xp
            split
            · rw [mo_se_rw a, mo_se_rw b]
            · rw [mo_se_rw c, mo_se_rw b]
          refine ⟨mo_ok_cg (k1 p hp).1 (fun r hr => by rw [x7 r (by omega) (by omega) (by omega)]) (fun r hr => by rw [y7 r (by omega) (by omega) (by omega)]) (by rw [y7 16 (by decide) (by decide) (by decide)]), (k1 p hp).2.elim (fun h => Or.inl ?_) (fun h => Or.inr ?_)⟩
          · unfold mo_rp mo_tk at h ⊢
            rw [x7 2 (by decide) (by decide) (by decide), x7 5 (by decide) (by decide) (by decide), x7 6 (by decide) (by decide) (by decide), x7 10 (by decide) (by decide) (by decide), x7 11 (by decide) (by decide) (by decide), y7 2 (by decide) (by decide) (by decide), y7 5 (by decide) (by decide) (by decide), y7 6 (by decide) (by decide) (by decide), y7 14 (by decide) (by decide) (by decide), y7 15 (by decide) (by decide) (by decide)]
            exact h
          · unfold mo_bd at h ⊢
            rw [x7 2 (by decide) (by decide) (by decide), x7 5 (by decide) (by decide) (by decide), x7 6 (by decide) (by decide) (by decide), y7 2 (by decide) (by decide) (by decide), y7 5 (by decide) (by decide) (by decide), y7 6 (by decide) (by decide) (by decide), y7 14 (by decide) (by decide) (by decide)]
            exact h
        · intro v hv
          have h9 := hW3 v hv
          unfold mo_xp
          by_cases tx : (D 7 (mo_w D t)).toInt = 2
          · rw [if_pos tx, if_pos tx]
            refine ⟨fun r a b => ?_, ?_, ?_⟩
            · simp only [mo_se_at]
              rw [k2 _ hw, h9.1 r a b]
            · rw [mo_se_rw (by decide), mo_se_rw (by decide)]; exact h9.2.1
            · rw [mo_se_rw (r1 := 11) (by decide), mo_se_rw (r1 := 11) (by decide), mo_se_rw (r1 := 14) (by decide), mo_se_rw (r1 := 14) (by decide)]; exact h9.2.2
          · rw [if_neg tx, if_neg tx]
            refine ⟨fun r a b => ?_, ?_, ?_⟩
            · rw [mo_se_rw (by omega), mo_se_rw (r := 13) (by omega), mo_se_at, mo_se_at, h9.1 r a b]
            · rw [mo_se_rw (by decide), mo_se_rw (by decide)]; exact h9.2.1
            · rw [mo_se_rw (r1 := 11) (by decide), mo_se_rw (r1 := 11) (by decide), mo_se_rw (r1 := 14) (by decide), mo_se_rw (r1 := 14) (by decide)]; exact h9.2.2
        · intro k hk
          unfold mo_xp
          split
          · rw [mo_se_rw (by decide), mo_se_rw (by decide), mo_se_rw (by decide), mo_se_rw (by decide)]; exact hL3 k hk
          · rw [mo_se_rw (by decide), mo_se_rw (by decide), mo_se_rw (by decide), mo_se_rw (by decide)]; exact hL3 k hk
        · unfold mo_xp
          split
          · rw [mo_se_rw (by decide), mo_se_rw (by decide), mo_se_rw (by decide), mo_se_rw (by decide)]; exact k3
          · rw [mo_se_pp, mo_se_pp, mo_se_rw (by decide), mo_se_rw (by decide), k3]
        · unfold mo_xp
          split
          · rw [mo_se_rw (by decide), mo_se_rw (by decide)]; exact h11
          · rw [mo_se_rw (by decide), mo_se_rw (by decide)]; exact h11
      · rw [mo_ii_n c2, mo_ii_n c2]
        have hgo := mo_gon (S := S3) (T := X3.1) hm h14 ht hnt hrn hwt hw k1 hW3 hL3 k3 h11
        rw [e8] at hgo
        exact hgo

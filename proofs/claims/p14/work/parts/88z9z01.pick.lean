def mo_mn (p q : Int) : Int := if p < q then p else q
theorem mo_mn_le (p q x : Int) : mo_mn p q ≤ x ↔ (p ≤ x ∨ q ≤ x) := by
  unfold mo_mn
  by_cases h : p < q
  · rw [if_pos h]; omega
  · rw [if_neg h]; omega
theorem mo_mn_comm (p q : Int) : mo_mn p q = mo_mn q p := by
  unfold mo_mn
  by_cases h : p < q
  · rw [if_pos h, if_neg (by omega)]
  · rw [if_neg h]
    by_cases h2 : q < p
    · rw [if_pos h2]
    · rw [if_neg h2]; omega
def mo_pace (age shoes rain : Int) : Int := 18 + rain + (if 40 < age then (age - 40) / 10 else 0) + (if shoes = 1 then 4 else if shoes = 0 then 9 else 0)
def mo_min (len pace : Int) : Int := if 10000000 ≤ len then 10000000 else (len * pace + 9) / 10
def mo_gt (D : Nat → Nat → Int32) (k : Nat) : Prop := (D 15 k).toInt ≤ (D 19 3).toInt ∧ (D 19 3).toInt ≤ (D 16 k).toInt ∧ (D 11 k).toInt ≠ (D 19 5).toInt
def mo_cf (D : Nat → Nat → Int32) (k : Nat) : Nat := (D 18 (D 12 k).toInt.toNat).toInt.toNat
def mo_ct (D : Nat → Nat → Int32) (k : Nat) : Nat := (D 18 (D 13 k).toInt.toNat).toInt.toNat
def mo_ln (D : Nat → Nat → Int32) (G : Nat → Int) (k : Nat) : Int := G (12 * mo_cf D k + mo_ct D k)
def mo_rn (D : Nat → Nat → Int32) (G : Nat → Int) (k : Nat) : Prop := mo_gt D k ∧ mo_ln D G k < 10000000
def mo_dp (rain kind : Int) : Int := (if kind = 1 then 4 else 3) + (if 4 < rain ∧ kind ≠ 2 then 1 else 0)
def mo_dr (D : Nat → Nat → Int32) (G : Nat → Int) (k : Nat) : Int := if mo_min (mo_ln D G k) (mo_dp (D 19 4).toInt (D 7 (D 11 k).toInt.toNat).toInt) < 1 then 1 else mo_min (mo_ln D G k) (mo_dp (D 19 4).toInt (D 7 (D 11 k).toInt.toNat).toInt)
def mo_cm (D : Nat → Nat → Int32) (G : Nat → Int) (k : Nat) : Int := (D 14 k).toInt + mo_dr D G k
def mo_wk (G : Nat → Int) (pace : Int) (a b : Nat) : Int := mo_min (G (12 * a + b)) pace
def mo_ft (D : Nat → Nat → Int32) (G : Nat → Int) (p : Nat) (pc : Int) (k : Nat) : Int := mo_cm D G k + mo_wk G pc (mo_ct D k) (D 1 p).toInt.toNat
def mo_hd (D : Nat → Nat → Int32) (p k : Nat) : Prop := (D 17 k).toInt + (D 5 p).toInt ≤ (D 19 3).toInt
def mo_g (D : Nat → Nat → Int32) (G : Nat → Int) (p k : Nat) : Prop := mo_rn D G k ∧ mo_hd D p k
def mo_cc (D : Nat → Nat → Int32) (G : Nat → Int) (n k : Nat) : Prop := (D 12 n).toInt = (D 13 k).toInt ∧ mo_cm D G k ≤ (D 14 n).toInt
def mo_cd (D : Nat → Nat → Int32) (G : Nat → Int) (p a : Nat) (pc m na : Int) (k : Nat) : Prop := mo_g D G p k ∧ na ≤ (D 14 k).toInt ∧ m + mo_wk G pc a (mo_cf D k) ≤ (D 14 k).toInt
def mo_th (L : Int) (c : Nat → Nat → Prop) (g : Nat → Prop) (nt : Nat) (foot W : Nat → Int) : Prop := ∀ k, k < nt → g k → ∀ x : Int, x < L → (W k ≤ x ↔ (foot k ≤ x ∨ ∃ n, n < nt ∧ g n ∧ c n k ∧ W n ≤ x))
theorem mo_th_u {L : Int} {c : Nat → Nat → Prop} {g : Nat → Prop} {nt : Nat} {foot W1 W2 mi : Nat → Int} (hc : ∀ n k, c n k → mi k < mi n) (hb : ∀ n, mi n ≤ 719) (h1 : mo_th L c g nt foot W1) (h2 : mo_th L c g nt foot W2) : ∀ k, k < nt → g k → ∀ x : Int, x < L → (W1 k ≤ x ↔ W2 k ≤ x) := by
  have key : ∀ d : Nat, ∀ k, k < nt → g k → 720 - (d : Int) ≤ mi k → ∀ x : Int, x < L → (W1 k ≤ x ↔ W2 k ≤ x) := by
    intro d
    induction d with
    | zero =>
      intro k hk hg hm
      have h9 := hb k
      exfalso
      omega
    | succ d ih =>
      intro k hk hg hm x hx
      rw [h1 k hk hg x hx, h2 k hk hg x hx]
      constructor
      · rintro (h | ⟨n, hn, hgn, hcn, hw⟩)
        · exact Or.inl h
        · have h9 := hc n k hcn
          exact Or.inr ⟨n, hn, hgn, hcn, (ih n hn hgn (by omega) x hx).mp hw⟩
      · rintro (h | ⟨n, hn, hgn, hcn, hw⟩)
        · exact Or.inl h
        · have h9 := hc n k hcn
          exact Or.inr ⟨n, hn, hgn, hcn, (ih n hn hgn (by omega) x hx).mpr hw⟩
  intro k hk hg x hx
  have h9 := hb k
  exact key (720 - mi k).toNat k hk hg (by omega) x hx
theorem mo_le_eq {L a b : Int} (h : ∀ x : Int, x < L → (a ≤ x ↔ b ≤ x)) : a = b ∨ (L ≤ a ∧ L ≤ b) := by
  by_cases q : a < L
  · have h1 := (h a q).mp (Int.le_refl a)
    have h2 := (h b (by omega)).mpr (Int.le_refl b)
    omega
  · by_cases q2 : b < L
    · have h2 := (h b q2).mpr (Int.le_refl b)
      omega
    · exact Or.inr ⟨by omega, by omega⟩
def mo_ch (L b0 : Int) (cand : Nat → Prop) (nt : Nat) (W : Nat → Int) (r : Int) : Prop := (r = -1 ∧ ∀ k, k < nt → cand k → W k < L → b0 ≤ W k) ∨ (∃ t : Nat, r = (t : Int) ∧ t < nt ∧ cand t ∧ W t < L ∧ W t < b0 ∧ ∀ k, k < nt → cand k → W k < L → W t < W k ∨ (W t = W k ∧ t ≤ k))
theorem mo_ch_u {L b0 : Int} {cand g : Nat → Prop} {nt : Nat} {W1 W2 : Nat → Int} {r1 r2 : Int} (hg : ∀ k, cand k → g k) (hW : ∀ k, k < nt → g k → ∀ x : Int, x < L → (W1 k ≤ x ↔ W2 k ≤ x)) (h1 : mo_ch L b0 cand nt W1 r1) (h2 : mo_ch L b0 cand nt W2 r2) : r1 = r2 := by
  have hk : ∀ k, k < nt → cand k → W1 k = W2 k ∨ (L ≤ W1 k ∧ L ≤ W2 k) := fun k h c => mo_le_eq (hW k h (hg k c))
  rcases h1 with ⟨e1, m1⟩ | ⟨t1, e1, l1, c1, f1, w1, m1⟩ <;> rcases h2 with ⟨e2, m2⟩ | ⟨t2, e2, l2, c2, f2, w2, m2⟩
  · exact e1.trans e2.symm
  · exfalso
    have h := hk t2 l2 c2
    have h9 := m1 t2 l2 c2 (by omega)
    omega
  · exfalso
    have h := hk t1 l1 c1
    have h9 := m2 t1 l1 c1 (by omega)
    omega
  · have ha := hk t1 l1 c1
    have hb2 := hk t2 l2 c2
    have g1 := m1 t2 l2 c2 (by omega)
    have g2 := m2 t1 l1 c1 (by omega)
    have : t1 = t2 := by omega
    rw [e1, e2, this]
def mo_nt (D : Nat → Nat → Int32) : Nat := (D 19 2).toInt.toNat
def mo_pk (D : Nat → Nat → Int32) (G : Nat → Int) (p a : Nat) (pc m na r : Int) : Prop := ∃ W : Nat → Int, mo_th 50000 (mo_cc D G) (mo_g D G p) (mo_nt D) (mo_ft D G p pc) W ∧ mo_ch 50000 (m + mo_wk G pc a (D 1 p).toInt.toNat) (mo_cd D G p a pc m na) (mo_nt D) W r
theorem mo_dr1 (D : Nat → Nat → Int32) (G : Nat → Int) (k : Nat) : 1 ≤ mo_dr D G k := by
  unfold mo_dr
  by_cases q : mo_min (mo_ln D G k) (mo_dp (D 19 4).toInt (D 7 (D 11 k).toInt.toNat).toInt) < 1
  · rw [if_pos q]; omega
  · rw [if_neg q]; omega
theorem mo_cc_lt {D : Nat → Nat → Int32} {G : Nat → Int} {n k : Nat} (h : mo_cc D G n k) : (D 14 k).toInt < (D 14 n).toInt := by
  have h9 := h.2
  have h8 := mo_dr1 D G k
  unfold mo_cm at h9
  omega
theorem mo_pk_u {D : Nat → Nat → Int32} {G : Nat → Int} {p a : Nat} {pc m na r1 r2 : Int} (hm : ∀ k, (D 14 k).toInt ≤ 719) (h1 : mo_pk D G p a pc m na r1) (h2 : mo_pk D G p a pc m na r2) : r1 = r2 := by
  obtain ⟨W1, t1, c1⟩ := h1
  obtain ⟨W2, t2, c2⟩ := h2
  have hW := mo_th_u (mi := fun k => (D 14 k).toInt) (fun n k h => mo_cc_lt h) hm t1 t2
  exact mo_ch_u (g := mo_g D G p) (fun k h => h.1) hW c1 c2
theorem mo_pk_r {D : Nat → Nat → Int32} {G : Nat → Int} {p a : Nat} {pc m na r : Int} (h : mo_pk D G p a pc m na r) : r = -1 ∨ ∃ t : Nat, r = (t : Int) ∧ t < mo_nt D ∧ mo_cd D G p a pc m na t := by
  obtain ⟨W, _, h9⟩ := h
  rcases h9 with ⟨e, _⟩ | ⟨t, e, l, c, _⟩
  · exact Or.inl e
  · exact Or.inr ⟨t, e, l, c⟩
def mo_la (D : Nat → Nat → Int32) (tr : Nat → Int32) (i : Nat) (stop mi r : Int) : Prop := (r = -1 ∧ ∀ j, j < i → ¬ ((D 12 (tr j).toInt.toNat).toInt = stop ∧ mi ≤ (D 14 (tr j).toInt.toNat).toInt)) ∨ (∃ j : Nat, r = (j : Int) ∧ j < i ∧ (D 12 (tr j).toInt.toNat).toInt = stop ∧ mi ≤ (D 14 (tr j).toInt.toNat).toInt ∧ ∀ q, j < q → q < i → ¬ ((D 12 (tr q).toInt.toNat).toInt = stop ∧ mi ≤ (D 14 (tr q).toInt.toNat).toInt))
def mo_or (D : Nat → Nat → Int32) (g : Nat → Prop) (n sz : Nat) (tr : Nat → Int32) : Prop := (∀ i, i < sz → 0 ≤ (tr i).toInt ∧ (tr i).toInt.toNat < n ∧ g (tr i).toInt.toNat) ∧ (∀ k, k < n → g k → ∃ i, i < sz ∧ (tr i).toInt.toNat = k) ∧ (∀ i j, i < j → j < sz → (D 14 (tr j).toInt.toNat).toInt ≤ (D 14 (tr i).toInt.toNat).toInt) ∧ (∀ i j, i < j → j < sz → (tr i).toInt.toNat ≠ (tr j).toInt.toNat)
def mo_wy (D : Nat → Nat → Int32) (G : Nat → Int) (sz : Nat) (tr cm lh ow : Nat → Int32) : Prop := mo_or D (mo_rn D G) (mo_nt D) sz tr ∧ ∀ i, i < sz → (cm i).toInt = mo_cm D G (tr i).toInt.toNat ∧ mo_la D tr i (D 12 (tr i).toInt.toNat).toInt 0 (lh i).toInt ∧ mo_la D tr i (D 13 (tr i).toInt.toNat).toInt (cm i).toInt (ow i).toInt
def mo_b0 (lh bs : Nat → Int32) (i : Nat) : Int := if (lh i).toInt = -1 then 10000000 else (bs (lh i).toInt.toNat).toInt
def mo_we (D : Nat → Nat → Int32) (G : Nat → Int) (p : Nat) (pc : Int) (n : Nat) (tr lh ow aw bs : Nat → Int32) : Prop := ∀ i, i < n → (aw i).toInt = mo_mn (mo_ft D G p pc (tr i).toInt.toNat) (if (ow i).toInt = -1 then 10000000 else (bs (ow i).toInt.toNat).toInt) ∧ (mo_hd D p (tr i).toInt.toNat → (bs i).toInt = mo_mn (mo_b0 lh bs i) (aw i).toInt) ∧ (¬ mo_hd D p (tr i).toInt.toNat → (bs i).toInt = mo_b0 lh bs i)
theorem mo_or_ne {D : Nat → Nat → Int32} {g : Nat → Prop} {n sz : Nat} {tr : Nat → Int32} (h : mo_or D g n sz tr) {i j : Nat} (hi : i < sz) (hj : j < sz) (e : (tr i).toInt.toNat = (tr j).toInt.toNat) : i = j := by
  rcases Nat.lt_trichotomy i j with q | q | q
  · exact absurd e (h.2.2.2 i j q hj)
  · exact q
  · exact absurd e.symm (h.2.2.2 j i q hi)
theorem mo_we_bs {D : Nat → Nat → Int32} {G : Nat → Int} {p : Nat} {pc : Int} {sz : Nat} {tr cm lh ow aw bs : Nat → Int32} (hm : ∀ k, 0 ≤ (D 14 k).toInt) (hy : mo_wy D G sz tr cm lh ow) (hw : mo_we D G p pc sz tr lh ow aw bs) : ∀ i, i < sz → ∀ x : Int, x < 10000000 → ((bs i).toInt ≤ x ↔ ∃ j, j ≤ i ∧ (D 12 (tr j).toInt.toNat).toInt = (D 12 (tr i).toInt.toNat).toInt ∧ mo_hd D p (tr j).toInt.toNat ∧ (aw j).toInt ≤ x) := by
  intro i
  induction i using Nat.strongRecOn with
  | ind i ih =>
    intro hi x hx
    obtain ⟨_, h2, h3⟩ := hw i hi
    have hl := (hy.2 i hi).2.1
    have hb : mo_b0 lh bs i ≤ x ↔ ∃ j, j < i ∧ (D 12 (tr j).toInt.toNat).toInt = (D 12 (tr i).toInt.toNat).toInt ∧ mo_hd D p (tr j).toInt.toNat ∧ (aw j).toInt ≤ x := by
      unfold mo_b0
      rcases hl with ⟨e, n9⟩ | ⟨j, e, hj, f9, _, n9⟩
      · rw [if_pos e]
        constructor
        · intro w; omega
        · rintro ⟨j, hj, f, _⟩
          exact absurd ⟨f, hm _⟩ (n9 j hj)
      · rw [if_neg (by omega), show (lh i).toInt.toNat = j from by omega, ih j hj (by omega) x hx]
        constructor
        · rintro ⟨q, hq, f, u, v⟩
          exact ⟨q, by omega, f.trans f9, u, v⟩
        · rintro ⟨q, hq, f, u, v⟩
          rcases Nat.lt_or_ge j q with w | w
          · exact absurd ⟨f, hm _⟩ (n9 q w hq)
          · exact ⟨q, w, f.trans f9.symm, u, v⟩
    by_cases hh : mo_hd D p (tr i).toInt.toNat
    · rw [h2 hh, mo_mn_le, hb]
      constructor
      · rintro (⟨j, hj, f, u, v⟩ | w)
        · exact ⟨j, by omega, f, u, v⟩
        · exact ⟨i, Nat.le_refl _, rfl, hh, w⟩
      · rintro ⟨j, hj, f, u, v⟩
        rcases Nat.lt_or_ge j i with w | w
        · exact Or.inl ⟨j, w, f, u, v⟩
        · have e : j = i := by omega
          subst e
          exact Or.inr v
    · rw [h3 hh, hb]
      constructor
      · rintro ⟨j, hj, f, u, v⟩
        exact ⟨j, by omega, f, u, v⟩
      · rintro ⟨j, hj, f, u, v⟩
        rcases Nat.lt_or_ge j i with w | w
        · exact ⟨j, w, f, u, v⟩
        · have e : j = i := by omega
          subst e
          exact absurd u hh
theorem mo_W_ex {D : Nat → Nat → Int32} {g : Nat → Prop} {n sz : Nat} {tr : Nat → Int32} (h : mo_or D g n sz tr) (aw : Nat → Int32) : ∃ W : Nat → Int, ∀ i, i < sz → W (tr i).toInt.toNat = (aw i).toInt := by
  refine ⟨fun k => Classical.epsilon (fun v : Int => ∃ i, i < sz ∧ (tr i).toInt.toNat = k ∧ (aw i).toInt = v), fun i hi => ?_⟩
  obtain ⟨j, hj, e1, e2⟩ := Classical.epsilon_spec (p := fun v : Int => ∃ j, j < sz ∧ (tr j).toInt.toNat = (tr i).toInt.toNat ∧ (aw j).toInt = v) ⟨_, i, hi, rfl, rfl⟩
  have := mo_or_ne h hj hi e1
  subst this
  exact e2.symm
theorem mo_we_th {D : Nat → Nat → Int32} {G : Nat → Int} {p : Nat} {pc : Int} {sz : Nat} {tr cm lh ow aw bs : Nat → Int32} {W : Nat → Int} (hm : ∀ k, 0 ≤ (D 14 k).toInt) (hy : mo_wy D G sz tr cm lh ow) (hw : mo_we D G p pc sz tr lh ow aw bs) (hW : ∀ i, i < sz → W (tr i).toInt.toNat = (aw i).toInt) : mo_th 50000 (mo_cc D G) (mo_g D G p) (mo_nt D) (mo_ft D G p pc) W := by
  intro k hk hg x hx
  obtain ⟨i, hi, ei⟩ := hy.1.2.1 k hk hg.1
  have h1 := (hw i hi).1
  obtain ⟨hcm, _, ho⟩ := hy.2 i hi
  rw [← ei, hW i hi, h1, mo_mn_le]
  constructor
  · rintro (h | h)
    · exact Or.inl h
    · rcases ho with ⟨e, _⟩ | ⟨j, e, hj, f9, m9, _⟩
      · rw [if_pos e] at h; omega
      · rw [if_neg (by omega), show (ow i).toInt.toNat = j from by omega] at h
        obtain ⟨q, hq, f, u, v⟩ := (mo_we_bs hm hy hw j (by omega) x (by omega)).mp h
        have hqz : q < sz := by omega
        obtain ⟨a1, a2, a3⟩ := hy.1.1 q hqz
        refine Or.inr ⟨(tr q).toInt.toNat, a2, ⟨a3, u⟩, ⟨f.trans f9, ?_⟩, by rw [hW q hqz]; exact v⟩
        rw [← hcm]
        rcases Nat.lt_or_ge q j with w | w
        · have := hy.1.2.2.1 q j w (by omega)
          omega
        · have e9 : q = j := by omega
          subst e9
          exact m9
  · rintro (h | ⟨n, hn, hgn, hc, hv⟩)
    · exact Or.inl h
    · refine Or.inr ?_
      obtain ⟨q, hq, eq⟩ := hy.1.2.1 n hn hgn.1
      subst eq
      have hlt := mo_cc_lt hc
      rw [hW q hq] at hv
      have hqi : q < i := by
        rcases Nat.lt_trichotomy q i with w | w | w
        · exact w
        · subst w; omega
        · have := hy.1.2.2.1 i q w hq
          omega
      have hc1 : (D 12 (tr q).toInt.toNat).toInt = (D 13 (tr i).toInt.toNat).toInt := hc.1
      have hc2 : (cm i).toInt ≤ (D 14 (tr q).toInt.toNat).toInt := by rw [hcm]; exact hc.2
      rcases ho with ⟨e, n9⟩ | ⟨j, e, hj, f9, m9, n9⟩
      · exact absurd ⟨hc1, hc2⟩ (n9 q hqi)
      · rw [if_neg (by omega), show (ow i).toInt.toNat = j from by omega]
        refine (mo_we_bs hm hy hw j (by omega) x (by omega)).mpr ⟨q, ?_, hc1.trans f9.symm, hgn.2, hv⟩
        rcases Nat.lt_or_ge j q with w | w
        · exact absurd ⟨hc1, hc2⟩ (n9 q w hqi)
        · exact w
def mo_sk (D : Nat → Nat → Int32) (cand : Nat → Prop) (b0 : Int) (n : Nat) (tr aw : Nat → Int32) (le fi : Int) : Prop := (fi = -1 ∧ le = b0 ∧ ∀ i, i < n → cand (tr i).toInt.toNat → b0 ≤ (aw i).toInt) ∨ (∃ i, i < n ∧ fi = ((tr i).toInt.toNat : Int) ∧ le = (aw i).toInt ∧ cand (tr i).toInt.toNat ∧ (aw i).toInt < b0 ∧ ∀ j, j < n → cand (tr j).toInt.toNat → (aw i).toInt < (aw j).toInt ∨ ((aw i).toInt = (aw j).toInt ∧ (tr i).toInt.toNat ≤ (tr j).toInt.toNat))
theorem mo_sk0 (D : Nat → Nat → Int32) (cand : Nat → Prop) (b0 : Int) (tr aw : Nat → Int32) : mo_sk D cand b0 0 tr aw b0 (-1) := Or.inl ⟨rfl, rfl, fun i hi => absurd hi (Nat.not_lt_zero i)⟩
theorem mo_sk_y {D : Nat → Nat → Int32} {cand : Nat → Prop} {b0 : Int} {n : Nat} {tr aw : Nat → Int32} {le fi : Int} (h : mo_sk D cand b0 n tr aw le fi) (hc : cand (tr n).toInt.toNat) (h0 : 0 ≤ (tr n).toInt) (hs : (aw n).toInt < le ∨ ((aw n).toInt = le ∧ (tr n).toInt < fi)) : mo_sk D cand b0 (n + 1) tr aw (aw n).toInt (tr n).toInt := by
  refine Or.inr ⟨n, Nat.lt_succ_self n, by omega, rfl, hc, ?_, ?_⟩
  · rcases h with ⟨e1, e2, _⟩ | ⟨i, _, _, e2, _, l9, _⟩ <;> omega
  · intro j hj cj
    rcases Nat.lt_or_ge j n with w | w
    · rcases h with ⟨e1, e2, m9⟩ | ⟨i, hi, e1, e2, _, _, m9⟩
      · have := m9 j w cj; omega
      · have := m9 j w cj; omega
    · have e : j = n := by omega
      subst e; exact Or.inr ⟨rfl, Nat.le_refl _⟩
theorem mo_sk_n {D : Nat → Nat → Int32} {cand : Nat → Prop} {b0 : Int} {n : Nat} {tr aw : Nat → Int32} {le fi : Int} (h : mo_sk D cand b0 n tr aw le fi) (h0 : 0 ≤ (tr n).toInt) (hs : ¬ cand (tr n).toInt.toNat ∨ ¬ ((aw n).toInt < le ∨ ((aw n).toInt = le ∧ (tr n).toInt < fi))) : mo_sk D cand b0 (n + 1) tr aw le fi := by
  rcases h with ⟨e1, e2, m9⟩ | ⟨i, hi, e1, e2, c9, l9, m9⟩
  · refine Or.inl ⟨e1, e2, fun j hj cj => ?_⟩
    rcases Nat.lt_or_ge j n with w | w
    · exact m9 j w cj
    · have e : j = n := by omega
      subst e
      rcases hs with q | q
      · exact absurd cj q
      · omega
  · refine Or.inr ⟨i, by omega, e1, e2, c9, l9, fun j hj cj => ?_⟩
    rcases Nat.lt_or_ge j n with w | w
    · exact m9 j w cj
    · have e : j = n := by omega
      subst e
      rcases hs with q | q
      · exact absurd cj q
      · omega
theorem mo_sk_ch {D : Nat → Nat → Int32} {G : Nat → Int} {p a : Nat} {pc m na : Int} {sz : Nat} {tr cm lh ow aw bs : Nat → Int32} {W : Nat → Int} {le fi b0 : Int} (hy : mo_wy D G sz tr cm lh ow) (hW : ∀ i, i < sz → W (tr i).toInt.toNat = (aw i).toInt) (hb : ∀ x : Int, x < 10000000 → (b0 ≤ x ↔ m + mo_wk G pc a (D 1 p).toInt.toNat ≤ x)) (hb2 : b0 ≤ 10000000) (hf : ∀ i, i < sz → (aw i).toInt < 50000 ∨ 10000000 ≤ (aw i).toInt) (h : mo_sk D (mo_cd D G p a pc m na) b0 sz tr aw le fi) : mo_ch 50000 (m + mo_wk G pc a (D 1 p).toInt.toNat) (mo_cd D G p a pc m na) (mo_nt D) W fi := by
  rcases h with ⟨e1, e2, m9⟩ | ⟨i, hi, e1, e2, c9, l9, m9⟩
  · refine Or.inl ⟨e1, fun k hk ck hl => ?_⟩
    obtain ⟨j, hj, rfl⟩ := hy.1.2.1 k hk ck.1.1
    have h9 := m9 j hj ck
    rw [hW j hj] at hl ⊢
    have := (hb (aw j).toInt (by omega)).mp h9
    exact this
  · obtain ⟨a1, a2, a3⟩ := hy.1.1 i hi
    have hfi := hf i hi
    refine Or.inr ⟨(tr i).toInt.toNat, e1, a2, c9, by rw [hW i hi]; omega, ?_, fun k hk ck hl => ?_⟩
    · rw [hW i hi]
      rcases Int.lt_or_le (aw i).toInt (m + mo_wk G pc a (D 1 p).toInt.toNat) with q | q
      · exact q
      · have := (hb (aw i).toInt (by omega)).mpr q
        omega
    · obtain ⟨j, hj, rfl⟩ := hy.1.2.1 k hk ck.1.1
      rw [hW i hi, hW j hj]
      exact m9 j hj ck
theorem mo_x_pk {D : Nat → Nat → Int32} {G : Nat → Int} {p a : Nat} {pc m na : Int} {sz : Nat} {tr cm lh ow aw bs : Nat → Int32} {le fi b0 : Int} (hm : ∀ k, 0 ≤ (D 14 k).toInt) (hy : mo_wy D G sz tr cm lh ow) (hw : mo_we D G p pc sz tr lh ow aw bs) (hb : ∀ x : Int, x < 10000000 → (b0 ≤ x ↔ m + mo_wk G pc a (D 1 p).toInt.toNat ≤ x)) (hb2 : b0 ≤ 10000000) (hf : ∀ i, i < sz → (aw i).toInt < 50000 ∨ 10000000 ≤ (aw i).toInt) (h : mo_sk D (mo_cd D G p a pc m na) b0 sz tr aw le fi) : mo_pk D G p a pc m na fi := by
  obtain ⟨W, hW⟩ := mo_W_ex hy.1 aw
  exact ⟨W, mo_we_th hm hy hw hW, mo_sk_ch (bs := bs) hy hW hb hb2 hf h⟩

def mo_GR (G : Nat → Int) : Prop := ∀ i, i < 144 → 0 ≤ G i ∧ (G i ≤ 1089 ∨ G i = 10000000)
def mo_R (D : Nat → Nat → Int32) : Prop := (∀ i, 0 ≤ (D 18 i).toInt ∧ (D 18 i).toInt ≤ 11) ∧ (∀ i, 0 ≤ (D 1 i).toInt ∧ (D 1 i).toInt ≤ 11) ∧ (∀ i, 0 ≤ (D 14 i).toInt ∧ (D 14 i).toInt ≤ 719) ∧ (∀ i, 0 ≤ (D 0 i).toInt ∧ (D 0 i).toInt ≤ 11) ∧ (∀ i, 0 ≤ (D 4 i).toInt ∧ (D 4 i).toInt ≤ 99) ∧ (∀ i, 0 ≤ (D 3 i).toInt ∧ (D 3 i).toInt ≤ 719) ∧ (0 ≤ (D 19 4).toInt ∧ (D 19 4).toInt ≤ 9)
theorem mo_wk_b {G : Nat → Int} (hG : mo_GR G) {pc : Int} (h0 : 0 ≤ pc) (h1 : pc ≤ 50) {a b : Nat} (ha : a < 12) (hb : b < 12) : 0 ≤ mo_wk G pc a b ∧ (mo_wk G pc a b ≤ 5446 ∨ mo_wk G pc a b = 10000000) := by
  have h := hG (12 * a + b) (by omega)
  unfold mo_wk mo_min
  by_cases q : 10000000 ≤ G (12 * a + b)
  · rw [if_pos q]; omega
  · rw [if_neg q]
    have e : 0 ≤ G (12 * a + b) * pc := Int.mul_nonneg h.1 h0
    have e2 : G (12 * a + b) * pc ≤ 1089 * pc := Int.mul_le_mul_of_nonneg_right (by omega) h0
    omega
theorem mo_dp_b (rain kind : Int) : 3 ≤ mo_dp rain kind ∧ mo_dp rain kind ≤ 5 := by
  unfold mo_dp
  split <;> split <;> omega
theorem mo_cf_b {D : Nat → Nat → Int32} (h : mo_R D) (k : Nat) : mo_cf D k < 12 := by
  have := h.1 (D 12 k).toInt.toNat
  unfold mo_cf; omega
theorem mo_ct_b {D : Nat → Nat → Int32} (h : mo_R D) (k : Nat) : mo_ct D k < 12 := by
  have := h.1 (D 13 k).toInt.toNat
  unfold mo_ct; omega
theorem mo_dr_b {D : Nat → Nat → Int32} {G : Nat → Int} (hR : mo_R D) (hG : mo_GR G) {k : Nat} (hl : mo_ln D G k < 10000000) : 1 ≤ mo_dr D G k ∧ mo_dr D G k ≤ 546 := by
  have h1 := mo_dr1 D G k
  refine ⟨h1, ?_⟩
  have hp := mo_dp_b (D 19 4).toInt (D 7 (D 11 k).toInt.toNat).toInt
  have hg := hG (12 * mo_cf D k + mo_ct D k) (by have := mo_cf_b hR k; have := mo_ct_b hR k; omega)
  have hl2 : G (12 * mo_cf D k + mo_ct D k) < 10000000 := hl
  unfold mo_dr
  have hm : mo_min (mo_ln D G k) (mo_dp (D 19 4).toInt (D 7 (D 11 k).toInt.toNat).toInt) ≤ 546 := by
    unfold mo_min mo_ln
    rw [if_neg (by omega)]
    have e2 : G (12 * mo_cf D k + mo_ct D k) * mo_dp (D 19 4).toInt (D 7 (D 11 k).toInt.toNat).toInt ≤ 1089 * mo_dp (D 19 4).toInt (D 7 (D 11 k).toInt.toNat).toInt := Int.mul_le_mul_of_nonneg_right (by omega) (by omega)
    omega
  by_cases q : mo_min (mo_ln D G k) (mo_dp (D 19 4).toInt (D 7 (D 11 k).toInt.toNat).toInt) < 1
  · rw [if_pos q]; omega
  · rw [if_neg q]; exact hm
theorem mo_cm_b {D : Nat → Nat → Int32} {G : Nat → Int} (hR : mo_R D) (hG : mo_GR G) {k : Nat} (hl : mo_ln D G k < 10000000) : 1 ≤ mo_cm D G k ∧ mo_cm D G k ≤ 1265 := by
  have h1 := mo_dr_b hR hG hl
  have h2 := hR.2.2.1 k
  unfold mo_cm; omega
theorem mo_ft_b {D : Nat → Nat → Int32} {G : Nat → Int} (hR : mo_R D) (hG : mo_GR G) {p k : Nat} {pc : Int} (h0 : 0 ≤ pc) (h1 : pc ≤ 50) (hl : mo_ln D G k < 10000000) : 1 ≤ mo_ft D G p pc k ∧ (mo_ft D G p pc k ≤ 6800 ∨ (10000000 ≤ mo_ft D G p pc k ∧ mo_ft D G p pc k ≤ 10001265)) := by
  have h3 := mo_cm_b hR hG hl
  have h4 := hR.2.1 p
  have h5 := mo_wk_b hG h0 h1 (mo_ct_b hR k) (show (D 1 p).toInt.toNat < 12 by omega)
  unfold mo_ft; omega
theorem mo_mn_or (p q : Int) : mo_mn p q = p ∨ mo_mn p q = q := by
  unfold mo_mn
  by_cases h : p < q
  · rw [if_pos h]; exact Or.inl rfl
  · rw [if_neg h]; exact Or.inr rfl
theorem mo_we_fin {D : Nat → Nat → Int32} {G : Nat → Int} (hR : mo_R D) (hG : mo_GR G) {p : Nat} {pc : Int} (h0 : 0 ≤ pc) (h1 : pc ≤ 50) {sz : Nat} {tr cm lh ow aw bs : Nat → Int32} (hy : mo_wy D G sz tr cm lh ow) (hw : mo_we D G p pc sz tr lh ow aw bs) : ∀ i, i < sz → (((aw i).toInt ≤ 6800 ∨ 10000000 ≤ (aw i).toInt) ∧ ((bs i).toInt ≤ 6800 ∨ 10000000 ≤ (bs i).toInt)) := by
  intro i
  induction i using Nat.strongRecOn with
  | ind i ih =>
    intro hi
    obtain ⟨k1, k2, k3⟩ := hw i hi
    obtain ⟨a1, a2, a3⟩ := hy.1.1 i hi
    have hf := mo_ft_b hR hG (p := p) h0 h1 a3.2
    obtain ⟨_, hl, ho⟩ := hy.2 i hi
    have hr : (if (ow i).toInt = -1 then 10000000 else (bs (ow i).toInt.toNat).toInt) ≤ 6800 ∨ 10000000 ≤ (if (ow i).toInt = -1 then 10000000 else (bs (ow i).toInt.toNat).toInt) := by
      rcases ho with ⟨e, _⟩ | ⟨j, e, hj, _⟩
      · rw [if_pos e]; omega
      · rw [if_neg (by omega), show (ow i).toInt.toNat = j from by omega]
        exact (ih j hj (by omega)).2
    have hb : mo_b0 lh bs i ≤ 6800 ∨ 10000000 ≤ mo_b0 lh bs i := by
      unfold mo_b0
      rcases hl with ⟨e, _⟩ | ⟨j, e, hj, _⟩
      · rw [if_pos e]; omega
      · rw [if_neg (by omega), show (lh i).toInt.toNat = j from by omega]
        exact (ih j hj (by omega)).2
    have ha : (aw i).toInt ≤ 6800 ∨ 10000000 ≤ (aw i).toInt := by
      rw [k1]
      rcases mo_mn_or (mo_ft D G p pc (tr i).toInt.toNat) (if (ow i).toInt = -1 then 10000000 else (bs (ow i).toInt.toNat).toInt) with e | e
      · rw [e]; omega
      · rw [e]; exact hr
    refine ⟨ha, ?_⟩
    by_cases hh : mo_hd D p (tr i).toInt.toNat
    · rw [k2 hh]
      rcases mo_mn_or (mo_b0 lh bs i) (aw i).toInt with e | e
      · rw [e]; exact hb
      · rw [e]; exact ha
    · rw [k3 hh]; exact hb
def mo_mr (D : Nat → Nat → Int32) (G : Nat → Int) (p : Nat) (pc : Int) (n : Nat) (bm aw : Nat → Int32) : Prop := ∀ i, i < n → (¬ mo_g D G p (bm i).toInt.toNat → (aw (bm i).toInt.toNat).toInt = 100000) ∧ (mo_g D G p (bm i).toInt.toNat → ∀ x : Int, x < 50000 → ((aw (bm i).toInt.toNat).toInt ≤ x ↔ (mo_ft D G p pc (bm i).toInt.toNat ≤ x ∨ ∃ j, j < i ∧ (D 12 (bm j).toInt.toNat).toInt = (D 13 (bm i).toInt.toNat).toInt ∧ mo_cm D G (bm i).toInt.toNat ≤ (D 14 (bm j).toInt.toNat).toInt ∧ (aw (bm j).toInt.toNat).toInt ≤ x)))
theorem mo_mr_th {D : Nat → Nat → Int32} {G : Nat → Int} {p : Nat} {pc : Int} {n : Nat} {bm aw : Nat → Int32} (ho : mo_or D (mo_gt D) (mo_nt D) n bm) (h : mo_mr D G p pc n bm aw) : mo_th 50000 (mo_cc D G) (mo_g D G p) (mo_nt D) (mo_ft D G p pc) (fun k => (aw k).toInt) := by
  intro k hk hg x hx
  obtain ⟨i, hi, ei⟩ := ho.2.1 k hk hg.1.1
  have h9 := (h i hi).2 (by rw [ei]; exact hg) x hx
  rw [ei] at h9
  show (aw k).toInt ≤ x ↔ _
  rw [h9]
  constructor
  · rintro (w | ⟨j, hj, f, m9, v⟩)
    · exact Or.inl w
    · obtain ⟨a1, a2, a3⟩ := ho.1 j (by omega)
      refine Or.inr ⟨(bm j).toInt.toNat, a2, ?_, ⟨f, m9⟩, v⟩
      by_cases q : mo_g D G p (bm j).toInt.toNat
      · exact q
      · have := (h j (by omega)).1 q
        omega
  · rintro (w | ⟨n9, hn, hgn, hc, v⟩)
    · exact Or.inl w
    · obtain ⟨j, hj, ej⟩ := ho.2.1 n9 hn hgn.1.1
      have hlt := mo_cc_lt hc
      refine Or.inr ⟨j, ?_, by rw [ej]; exact hc.1, by rw [ej]; exact hc.2, by rw [ej]; exact v⟩
      rcases Nat.lt_trichotomy j i with w | w | w
      · exact w
      · subst w; rw [ei] at ej; subst ej; omega
      · have := ho.2.2.1 i j w hj
        rw [ei, ej] at this
        omega
def mo_ms (cand : Nat → Prop) (b0 : Int) (n : Nat) (W : Nat → Int) (le fi : Int) : Prop := (fi = -1 ∧ le = b0 ∧ ∀ k, k < n → cand k → b0 ≤ W k) ∨ (∃ t, t < n ∧ fi = (t : Int) ∧ le = W t ∧ cand t ∧ W t < b0 ∧ ∀ k, k < n → cand k → W t < W k ∨ (W t = W k ∧ t ≤ k))
theorem mo_ms0 (cand : Nat → Prop) (b0 : Int) (W : Nat → Int) : mo_ms cand b0 0 W b0 (-1) := Or.inl ⟨rfl, rfl, fun i hi => absurd hi (Nat.not_lt_zero i)⟩
theorem mo_ms_y {cand : Nat → Prop} {b0 : Int} {n : Nat} {W : Nat → Int} {le fi : Int} (h : mo_ms cand b0 n W le fi) (hc : cand n) (hs : W n < le) : mo_ms cand b0 (n + 1) W (W n) (n : Int) := by
  refine Or.inr ⟨n, Nat.lt_succ_self n, rfl, rfl, hc, ?_, ?_⟩
  · rcases h with ⟨e1, e2, _⟩ | ⟨i, _, _, e2, _, l9, _⟩ <;> omega
  · intro j hj cj
    rcases Nat.lt_or_ge j n with w | w
    · rcases h with ⟨e1, e2, m9⟩ | ⟨i, hi, e1, e2, _, _, m9⟩
      · have := m9 j w cj; omega
      · have := m9 j w cj; omega
    · have e : j = n := by omega
      subst e; exact Or.inr ⟨rfl, Nat.le_refl _⟩
theorem mo_ms_n {cand : Nat → Prop} {b0 : Int} {n : Nat} {W : Nat → Int} {le fi : Int} (h : mo_ms cand b0 n W le fi) (hs : ¬ cand n ∨ le ≤ W n) : mo_ms cand b0 (n + 1) W le fi := by
  rcases h with ⟨e1, e2, m9⟩ | ⟨i, hi, e1, e2, c9, l9, m9⟩
  · refine Or.inl ⟨e1, e2, fun j hj cj => ?_⟩
    rcases Nat.lt_or_ge j n with w | w
    · exact m9 j w cj
    · have e : j = n := by omega
      subst e
      rcases hs with q | q
      · exact absurd cj q
      · omega
  · refine Or.inr ⟨i, by omega, e1, e2, c9, l9, fun j hj cj => ?_⟩
    rcases Nat.lt_or_ge j n with w | w
    · exact m9 j w cj
    · have e : j = n := by omega
      subst e
      rcases hs with q | q
      · exact absurd cj q
      · omega
theorem mo_m_pk {D : Nat → Nat → Int32} {G : Nat → Int} {p a : Nat} {pc m na : Int} {n : Nat} {bm aw : Nat → Int32} {le fi b0 : Int} (ho : mo_or D (mo_gt D) (mo_nt D) n bm) (hw : mo_mr D G p pc n bm aw) (hb : ∀ x : Int, x < 50000 → (b0 ≤ x ↔ m + mo_wk G pc a (D 1 p).toInt.toNat ≤ x)) (hf : ∀ k, k < mo_nt D → mo_g D G p k → (aw k).toInt < 50000 ∨ b0 ≤ (aw k).toInt) (h : mo_ms (mo_cd D G p a pc m na) b0 (mo_nt D) (fun k => (aw k).toInt) le fi) : mo_pk D G p a pc m na fi := by
  refine ⟨fun k => (aw k).toInt, mo_mr_th ho hw, ?_⟩
  rcases h with ⟨e1, e2, m9⟩ | ⟨t, ht, e1, e2, c9, l9, m9⟩
  · refine Or.inl ⟨e1, fun k hk ck hl => ?_⟩
    exact (hb (aw k).toInt hl).mp (m9 k hk ck)
  · have hft := hf t ht c9.1
    have l8 : (aw t).toInt < b0 := l9
    refine Or.inr ⟨t, e1, ht, c9, by show (aw t).toInt < 50000; omega, ?_, fun k hk ck hl => m9 k hk ck⟩
    show (aw t).toInt < _
    rcases Int.lt_or_le (aw t).toInt (m + mo_wk G pc a (D 1 p).toInt.toNat) with q | q
    · exact q
    · have := (hb (aw t).toInt (by omega)).mpr q
      omega
noncomputable def mo_if (c : Prop) (a b : Int) : Int := @ite Int c (Classical.propDecidable c) a b
theorem mo_if_y {c : Prop} (h : c) (a b : Int) : mo_if c a b = a := if_pos h
theorem mo_if_n {c : Prop} (h : ¬ c) (a b : Int) : mo_if c a b = b := if_neg h
noncomputable def mo_fm (f : Nat → Int) (c : Nat → Prop) (b : Int) : Nat → Int
  | 0 => b
  | n + 1 => mo_if (c n) (mo_mn (mo_fm f c b n) (f n)) (mo_fm f c b n)
theorem mo_fm_le (f : Nat → Int) (c : Nat → Prop) (b x : Int) : ∀ n, mo_fm f c b n ≤ x ↔ (b ≤ x ∨ ∃ k, k < n ∧ c k ∧ f k ≤ x) := by
  intro n
  induction n with
  | zero =>
    show b ≤ x ↔ _
    exact ⟨Or.inl, fun h => h.elim id (fun ⟨k, hk, _⟩ => absurd hk (Nat.not_lt_zero k))⟩
  | succ n ih =>
    show mo_if (c n) (mo_mn (mo_fm f c b n) (f n)) (mo_fm f c b n) ≤ x ↔ _
    by_cases h : c n
    · rw [mo_if_y h, mo_mn_le, ih]
      constructor
      · rintro ((w | ⟨k, hk, ck, fk⟩) | w)
        · exact Or.inl w
        · exact Or.inr ⟨k, by omega, ck, fk⟩
        · exact Or.inr ⟨n, by omega, h, w⟩
      · rintro (w | ⟨k, hk, ck, fk⟩)
        · exact Or.inl (Or.inl w)
        · rcases Nat.lt_or_ge k n with q | q
          · exact Or.inl (Or.inr ⟨k, q, ck, fk⟩)
          · have e : k = n := by omega
            subst e; exact Or.inr fk
    · rw [mo_if_n h, ih]
      constructor
      · rintro (w | ⟨k, hk, ck, fk⟩)
        · exact Or.inl w
        · exact Or.inr ⟨k, by omega, ck, fk⟩
      · rintro (w | ⟨k, hk, ck, fk⟩)
        · exact Or.inl w
        · rcases Nat.lt_or_ge k n with q | q
          · exact Or.inr ⟨k, q, ck, fk⟩
          · have e : k = n := by omega
            subst e; exact absurd ck h
theorem mo_th_ex {L : Int} {c : Nat → Nat → Prop} {g : Nat → Prop} {nt : Nat} {foot mi : Nat → Int} (hc : ∀ n k, c n k → mi k < mi n) (hb : ∀ n, 0 ≤ mi n ∧ mi n ≤ 719) : ∃ W, mo_th L c g nt foot W := by
  have key : ∀ d : Nat, ∃ W : Nat → Int, ∀ k, k < nt → g k → 720 - (d : Int) ≤ mi k → ∀ x : Int, x < L → (W k ≤ x ↔ (foot k ≤ x ∨ ∃ n, n < nt ∧ g n ∧ c n k ∧ W n ≤ x)) := by
    intro d
    induction d with
    | zero => exact ⟨fun _ => 0, fun k hk hg hm => by have := hb k; exfalso; omega⟩
    | succ d ih =>
      obtain ⟨W, hW⟩ := ih
      refine ⟨fun k => if 720 - (d : Int) ≤ mi k then W k else mo_fm W (fun n => g n ∧ c n k) (foot k) nt, fun k hk hg hm x hx => ?_⟩
      have hn : ∀ n, c n k → (if 720 - (d : Int) ≤ mi n then W n else mo_fm W (fun n' => g n' ∧ c n' n) (foot n) nt) = W n := fun n h => if_pos (by have := hc n k h; omega)
      have e : (∃ n, n < nt ∧ g n ∧ c n k ∧ (if 720 - (d : Int) ≤ mi n then W n else mo_fm W (fun n' => g n' ∧ c n' n) (foot n) nt) ≤ x) ↔ ∃ n, n < nt ∧ g n ∧ c n k ∧ W n ≤ x := by
        constructor
        · rintro ⟨n, a1, a2, a3, a4⟩
          rw [hn n a3] at a4
          exact ⟨n, a1, a2, a3, a4⟩
        · rintro ⟨n, a1, a2, a3, a4⟩
          exact ⟨n, a1, a2, a3, by rw [hn n a3]; exact a4⟩
      show (if 720 - (d : Int) ≤ mi k then W k else mo_fm W (fun n => g n ∧ c n k) (foot k) nt) ≤ x ↔ _
      rw [e]
      by_cases q : 720 - (d : Int) ≤ mi k
      · rw [if_pos q]; exact hW k hk hg q x hx
      · rw [if_neg q, mo_fm_le]
        constructor
        · rintro (w | ⟨n, a1, ⟨a2, a3⟩, a4⟩)
          · exact Or.inl w
          · exact Or.inr ⟨n, a1, a2, a3, a4⟩
        · rintro (w | ⟨n, a1, a2, a3, a4⟩)
          · exact Or.inl w
          · exact Or.inr ⟨n, a1, ⟨a2, a3⟩, a4⟩
  obtain ⟨W, hW⟩ := key 720
  exact ⟨W, fun k hk hg => hW k hk hg (by have := hb k; omega)⟩
theorem mo_ms_ex (cand : Nat → Prop) (b0 : Int) (W : Nat → Int) : ∀ n, ∃ le fi, mo_ms cand b0 n W le fi := by
  intro n
  induction n with
  | zero => exact ⟨_, _, mo_ms0 cand b0 W⟩
  | succ n ih =>
    obtain ⟨le, fi, h⟩ := ih
    by_cases hc : cand n
    · rcases Int.lt_or_le (W n) le with q | q
      · exact ⟨_, _, mo_ms_y h hc q⟩
      · exact ⟨_, _, mo_ms_n h (Or.inr q)⟩
    · exact ⟨_, _, mo_ms_n h (Or.inl hc)⟩
theorem mo_ch_ex (L b0 : Int) (cand : Nat → Prop) (nt : Nat) (W : Nat → Int) : ∃ r, mo_ch L b0 cand nt W r := by
  obtain ⟨le, fi, h⟩ := mo_ms_ex cand (mo_mn b0 L) W nt
  have hmn : mo_mn b0 L ≤ b0 ∧ mo_mn b0 L ≤ L ∧ (mo_mn b0 L = b0 ∨ mo_mn b0 L = L) := by
    unfold mo_mn
    by_cases q : b0 < L
    · rw [if_pos q]; omega
    · rw [if_neg q]; omega
  refine ⟨fi, ?_⟩
  rcases h with ⟨e1, e2, m9⟩ | ⟨t, ht, e1, e2, c9, l9, m9⟩
  · refine Or.inl ⟨e1, fun k hk ck hl => ?_⟩
    have := m9 k hk ck
    omega
  · exact Or.inr ⟨t, e1, ht, c9, by omega, by omega, fun k hk ck _ => m9 k hk ck⟩
theorem mo_pk_ex {D : Nat → Nat → Int32} {G : Nat → Int} (hR : mo_R D) (p a : Nat) (pc m na : Int) : ∃ r, mo_pk D G p a pc m na r := by
  obtain ⟨W, hW⟩ := mo_th_ex (L := 50000) (c := mo_cc D G) (g := mo_g D G p) (nt := mo_nt D) (foot := mo_ft D G p pc) (mi := fun k => (D 14 k).toInt) (fun n k h => mo_cc_lt h) hR.2.2.1
  obtain ⟨r, hr⟩ := mo_ch_ex 50000 (m + mo_wk G pc a (D 1 p).toInt.toNat) (mo_cd D G p a pc m na) (mo_nt D) W
  exact ⟨r, W, hW, hr⟩

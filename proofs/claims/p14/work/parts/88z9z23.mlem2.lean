def mm_k (r : Nat) : Nat := match r with
  | 0 => 16
  | 1 => 15
  | 2 => 72
  | 3 => 74
  | 4 => 75
  | 5 => 71
  | 6 => 68
  | 7 => 24
  | 8 => 78
  | 9 => 79
  | 10 => 76
  | 11 => 77
  | 12 => 80
  | 14 => 69
  | 15 => 70
  | 16 => 18
  | _ => 1000
theorem mm_T_k (f : Nat → Int32) (a : Nat → Nat → Int32) : ∀ j, j < 17 → j ≠ 13 → mm_T f a j = a (mm_k j) := by
  intro j hj h13
  have h : j = 0 ∨ j = 1 ∨ j = 2 ∨ j = 3 ∨ j = 4 ∨ j = 5 ∨ j = 6 ∨ j = 7 ∨ j = 8 ∨ j = 9 ∨ j = 10 ∨ j = 11 ∨ j = 12 ∨ j = 14 ∨ j = 15 ∨ j = 16 := by omega
  rcases h with h | h | h | h | h | h | h | h | h | h | h | h | h | h | h | h <;> subst h <;> rfl
theorem mm_T_17 {f : Nat → Int32} {a : Nat → Nat → Int32} {j : Nat} (h : 17 ≤ j) : mm_T f a j = fun _ => 0 := by
  unfold mm_T
  split <;> first
    | omega
    | rfl
theorem mm_k_inj : ∀ j, j < 17 → ∀ r, r < 17 → j ≠ r → mm_k j ≠ mm_k r := by decide
theorem mm_T_put {f : Nat → Int32} {a a1 : Nat → Nat → Int32} {r n : Nat} {x : Int32} (hr : r < 17) (h13 : r ≠ 13) (e : a1 = upM a (mm_k r) (upd (a (mm_k r)) n x)) : mm_T f a1 = mo_se (mm_T f a) r n x := by
  funext j
  by_cases q : j < 17 ∧ j ≠ 13
  · rw [mm_T_k f a1 j q.1 q.2]
    by_cases c : j = r
    · subst c
      rw [e]
      funext i
      rw [mo_se_at, mm_T_k f a j q.1 q.2]
      show (if mm_k j = mm_k j then upd (a (mm_k j)) n x else a (mm_k j)) i = _
      rw [if_pos rfl]
      show (if i = n then x else a (mm_k j) i) = _
      by_cases c : i = n
      · rw [if_pos c, if_pos ⟨rfl, c⟩]
      · rw [if_neg c, if_neg (fun w => c w.2)]
    · rw [mo_se_rw c, mm_T_k f a j q.1 q.2, e]
      show (if mm_k j = mm_k r then upd (a (mm_k r)) n x else a (mm_k j)) = _
      rw [if_neg (mm_k_inj j q.1 r hr c)]
  · rw [mo_se_rw (show j ≠ r from fun w => q (by subst w; exact ⟨hr, h13⟩))]
    by_cases c : j = 13
    · subst c; rfl
    · rw [mm_T_17 (by omega), mm_T_17 (by omega)]
theorem mm_T_fund {f f1 : Nat → Int32} {a : Nat → Nat → Int32} {x : Int32} (e : f1 = upd f 36 x) : mm_T f1 a = mo_se (mm_T f a) 13 0 x := by
  funext j
  by_cases c : j = 13
  · subst c
    rw [e]
    funext i
    rw [mo_se_at]
    show (if i = 0 then upd f 36 x 36 else 0) = _
    rw [show upd f 36 x 36 = x from if_pos rfl]
    by_cases c : i = 0
    · rw [if_pos c, if_pos ⟨rfl, c⟩]
    · rw [if_neg c, if_neg (fun w => c w.2)]
      show 0 = (if i = 0 then f 36 else 0)
      rw [if_neg c]
  · rw [mo_se_rw c]
    by_cases q : j < 17
    · rw [mm_T_k f1 a j q c, mm_T_k f a j q c]
    · rw [mm_T_17 (by omega), mm_T_17 (by omega)]
theorem mm_T_fr {M N : List Nat} {f f1 : Nat → Int32} {a a1 : Nat → Nat → Int32} (hf : fM M f f1) (ha : fA N a a1) (hM : M.contains 36 = false) (hN : ([16, 15, 72, 74, 75, 71, 68, 24, 78, 79, 76, 77, 80, 69, 70, 18] : List Nat).all (fun k => !N.contains k) = true) : mm_T f1 a1 = mm_T f a := by
  funext j
  by_cases c : j = 13
  · subst c
    funext i
    show (if i = 0 then f1 36 else 0) = (if i = 0 then f 36 else 0)
    rw [hf 36 hM]
  · by_cases q : j < 17
    · rw [mm_T_k f1 a1 j q c, mm_T_k f a j q c]
      have h : j = 0 ∨ j = 1 ∨ j = 2 ∨ j = 3 ∨ j = 4 ∨ j = 5 ∨ j = 6 ∨ j = 7 ∨ j = 8 ∨ j = 9 ∨ j = 10 ∨ j = 11 ∨ j = 12 ∨ j = 14 ∨ j = 15 ∨ j = 16 := by omega
      rcases h with h | h | h | h | h | h | h | h | h | h | h | h | h | h | h | h <;> subst h <;> exact ha _ (mm_nin hN (by decide))
    · rw [mm_T_17 (by omega), mm_T_17 (by omega)]
theorem mm_ai (x y : Int32) : x + y = Int32.ofInt (x.toInt + y.toInt) := by
  rw [Int32.ofInt_add, Int32.ofInt_toInt, Int32.ofInt_toInt]
theorem mo_se2 {S : Nat → Nat → Int32} {r i : Nat} {v w : Int32} : mo_se (mo_se S r i v) r i w = mo_se S r i w := by
  funext r1 i1
  rw [mo_se_at, mo_se_at, mo_se_at]
  by_cases q : r1 = r ∧ i1 = i
  · rw [if_pos q, if_pos q]
  · rw [if_neg q, if_neg q, if_neg q]
theorem mm_ms {D : Nat → Nat → Int32} {G : Nat → Int} {T X : Nat → Nat → Int32} {p b : Nat} {how t : Int32} {m len wk : Int} {v3 v16 v1 v14 v15 : Int32} (hX : X = mo_se (mo_se (mo_se (mo_se (mo_se (mo_se (mo_se T 3 p v3) 16 p v16) 1 p v1) 14 p v14) 5 p t) 6 p how) 15 p v15) (hl : G (12 * (T 14 p).toInt.toNat + b) = len) (hw : mo_wk G (mo_pc D (T 1 p) p) (T 14 p).toInt.toNat b = wk) (h3 : v3 = T 3 p + Int32.ofInt len) (h16 : v16 = T 16 p + Int32.ofInt len) (h1 : v1 = mo_shm (T 1 p) (v16 / 300 - T 16 p / 300)) (h14 : v14 = Int32.ofInt (b : Int)) (h15 : v15 = Int32.ofInt (m + wk)) : X = mo_ms0r D G T p b how t m := by
  subst hX; subst h3; subst h16; subst h1; subst h14; subst h15; subst hl; subst hw
  rfl
theorem mm_so_n {D : Nat → Nat → Int32} {G : Nat → Int} {T X : Nat → Nat → Int32} {p b : Nat} {how t : Int32} {m wk : Int} (h : X = mo_ms0r D G T p b how t m) (hw : mo_wk G (mo_pc D (T 1 p) p) (T 14 p).toInt.toNat b = wk) (hn : wk ≠ 0) : X = mo_so D G T p b how t m := by
  unfold mo_so
  rw [if_neg (by rw [hw]; exact hn)]; exact h
theorem mm_so_y {D : Nat → Nat → Int32} {G : Nat → Int} {T X Y : Nat → Nat → Int32} {p b : Nat} {how t : Int32} {m wk : Int} (h : X = mo_ms0r D G T p b how t m) (hw : mo_wk G (mo_pc D (T 1 p) p) (T 14 p).toInt.toNat b = wk) (hn : wk = 0) (hY : Y = mo_ar X p m) : Y = mo_so D G T p b how t m := by
  unfold mo_so
  rw [if_pos (by rw [hw]; exact hn), ← h]; exact hY
theorem mm_ar_1 {T X : Nat → Nat → Int32} {p : Nat} {m : Int} (h : (T 6 p).toInt = 1) (hX : X = mo_se T 6 p 2) : X = mo_ar T p m := by
  unfold mo_ar; rw [if_pos h]; exact hX
theorem mm_ar_5 {T X : Nat → Nat → Int32} {p : Nat} {m : Int} {v : Int32} (h : ¬ (T 6 p).toInt = 1) (hX : X = mo_se (mo_se T 6 p 5) 2 p v) (hv : v.toInt = m) : X = mo_ar T p m := by
  unfold mo_ar; rw [if_neg h, ← hv, mo_i32i]; exact hX
theorem mm_shm {s w d v : Int32} (hd : d = s - w) (hv : (d.toInt < 0 → v = 0) ∧ (0 ≤ d.toInt → v = d)) : v = mo_shm s w := by
  unfold mo_shm
  rw [← hd]
  by_cases q : d.toInt < 0
  · rw [if_pos q]; exact hv.1 q
  · rw [if_neg q]; exact hv.2 (by omega)
theorem mm_mg_t {D : Nat → Nat → Int32} {G : Nat → Int} {T X : Nat → Nat → Int32} {p a : Nat} {pc m na t : Int} (hm : ∀ k, (D 14 k).toInt ≤ 719) (ha : (T 14 p).toInt.toNat = a) (hc : mo_pc D (T 1 p) p = pc) (hp : mo_pk D G p a pc m na t) (hX : X = mo_mg D G T p m t) : X = mo_mc D G T p m na := by
  unfold mo_mc
  rw [ha, hc, mo_t_eq hm hp]; exact hX
theorem mm_mg_y {D : Nat → Nat → Int32} {G : Nat → Int} {T X : Nat → Nat → Int32} {p b : Nat} {t : Int32} {m : Int} (h : t.toInt ≠ -1) (hb : mo_cf D t.toInt.toNat = b) (hX : X = mo_so D G T p b 1 t m) : X = mo_mg D G T p m t.toInt := by
  unfold mo_mg
  rw [if_pos h, hb, mo_i32i]; exact hX
theorem mm_mg_w {D : Nat → Nat → Int32} {G : Nat → Int} {T X : Nat → Nat → Int32} {p b : Nat} {t m : Int} (h : t = -1) (hb : mo_wo D p = b) (hl : G (12 * (T 14 p).toInt.toNat + b) < 10000000) (hX : X = mo_so D G T p b 4 (-1) m) : X = mo_mg D G T p m t := by
  unfold mo_mg
  rw [if_neg (fun w => w h), hb, if_pos hl]; exact hX
theorem mm_mg_s {D : Nat → Nat → Int32} {G : Nat → Int} {T X : Nat → Nat → Int32} {p b : Nat} {t m : Int} (h : t = -1) (hb : mo_wo D p = b) (hl : ¬ G (12 * (T 14 p).toInt.toNat + b) < 10000000) (hX : X = mo_se T 6 p 6) : X = mo_mg D G T p m t := by
  unfold mo_mg
  rw [if_neg (fun w => w h), hb, if_neg hl]; exact hX
def mm_b0 (G : Nat → Int) (pc m : Int) (a b : Nat) (v : Int) : Prop := (G (12 * a + b) ≤ 1089 ∧ v = m + mo_wk G pc a b) ∨ (G (12 * a + b) = 10000000 ∧ v = 100000)
theorem mm_b0_x {G : Nat → Int} {pc m v : Int} {a b : Nat} (h : mm_b0 G pc m a b v) (hm : 0 ≤ m) : ∀ x : Int, x < 50000 → (v ≤ x ↔ m + mo_wk G pc a b ≤ x) := by
  intro x hx
  rcases h with ⟨h1, h2⟩ | ⟨h1, h2⟩
  · rw [h2]
  · unfold mo_wk mo_min
    rw [if_pos (by omega)]; omega
theorem mm_aw {D : Nat → Nat → Int32} {n sz : Nat} {g : Nat → Prop} {bm aw : Nat → Int32} (ho : mo_or D g n sz bm) (h : mm_ra sz bm aw) : ∀ k, k < n → g k → (aw k).toInt < 50000 ∨ (aw k).toInt = 100000 := by
  intro k hk hg
  obtain ⟨i, hi, ei⟩ := ho.2.1 k hk hg
  rw [← ei]; exact h i hi
theorem mm_b0_b {G : Nat → Int} {pc m v : Int} {a b : Nat} (hG : mo_GR G) (h : mm_b0 G pc m a b v) (hm : 0 ≤ m ∧ m ≤ 840) (hp : 18 ≤ pc ∧ pc ≤ 50) (ha : a < 12) (hb : b < 12) : (G (12 * a + b) ≤ 1089 ∧ 0 ≤ v ∧ v < 50000) ∨ (G (12 * a + b) = 10000000 ∧ v = 100000) := by
  rcases h with ⟨h1, h2⟩ | ⟨h1, h2⟩
  · refine Or.inl ⟨h1, ?_⟩
    have h3 := mo_wk_b hG (pc := pc) (by omega) (by omega) ha hb
    have h4 : mo_wk G pc a b ≠ 10000000 := by
      intro w
      have h5 : G (12 * a + b) * pc ≤ 1089 * pc := Int.mul_le_mul_of_nonneg_right h1 (by omega)
      unfold mo_wk mo_min at w
      rw [if_neg (by omega)] at w
      omega
    omega
  · exact Or.inr ⟨h1, h2⟩
theorem mm_pk {D : Nat → Nat → Int32} {G : Nat → Int} {p a : Nat} {pc m na : Int} {n : Nat} {bm aw : Nat → Int32} {le fi b0 : Int} (hR : mo_R D) (hG : mo_GR G) (ho : mo_or D (mo_gt D) (mo_nt D) n bm) (hw : mo_mr D G p pc n bm aw ∧ mm_ra n bm aw) (hb : mm_b0 G pc m a (D 1 p).toInt.toNat b0) (hm : 0 ≤ m ∧ m ≤ 840) (hp : 18 ≤ pc ∧ pc ≤ 50) (ha : a < 12) (h : mo_ms (mo_cd D G p a pc m na) b0 (mo_nt D) (fun k => (aw k).toInt) le fi) : mo_pk D G p a pc m na fi := by
  have h8 := hR.2.1 p
  have h9 := mm_b0_b hG hb hm hp ha (show (D 1 p).toInt.toNat < 12 by omega)
  refine mo_m_pk ho hw.1 (mm_b0_x hb hm.1) (fun k hk hg => ?_) h
  rcases mm_aw ho hw.2 k hk hg.1.1 with w | w
  · exact Or.inl w
  · exact Or.inr (by omega)
theorem mm_ms_t {D : Nat → Nat → Int32} {G : Nat → Int} {p a n c : Nat} {pc m na b0 le fi : Int} {W : Nat → Int} (hR : mo_R D) (hG : mo_GR G) (hm : 0 ≤ m) (h : mo_ms (mo_cd D G p a pc m na) b0 n W le fi) (hf : fi ≠ -1) (hc : mo_cf D fi.toNat = c) : G (12 * a + c) < 10000000 := by
  rcases h with ⟨e1, _⟩ | ⟨t, ht, e1, e2, c9, _⟩
  · exact absurd e1 hf
  · have h1 := hR.2.2.1 t
    have h2 := c9.2.2
    refine mo_wk_len (pc := pc) ?_
    rw [← hc, show fi.toNat = t from by omega]; omega
theorem mm_ms_w {D : Nat → Nat → Int32} {G : Nat → Int} {p a n b : Nat} {pc m na b0 le fi : Int} {W : Nat → Int} (hG : mo_GR G) (hb : mm_b0 G pc m a b b0) (hm : 0 ≤ m ∧ m ≤ 840) (hp : 18 ≤ pc ∧ pc ≤ 50) (ha : a < 12) (hb2 : b < 12) (h : mo_ms (mo_cd D G p a pc m na) b0 n W le fi) (hf : fi = -1) : (le < 100000 ↔ G (12 * a + b) < 10000000) := by
  have h9 := mm_b0_b hG hb hm hp ha hb2
  rcases h with ⟨e1, e2, _⟩ | ⟨t, ht, e1, _⟩ <;> omega
theorem mm_cd_h {D : Nat → Nat → Int32} {G : Nat → Int} {p a k : Nat} {pc m na : Int} (h : ¬ mo_g D G p k) : ¬ mo_cd D G p a pc m na k := fun w => h w.1
theorem mm_cd_e {D : Nat → Nat → Int32} {G : Nat → Int} {p a k : Nat} {pc m na : Int} {v : Int32} (hv : D 14 k = v) (h : v.toInt < na) : ¬ mo_cd D G p a pc m na k := fun w => by have w1 := w.2.1; rw [hv] at w1; omega
theorem mm_cd_f {D : Nat → Nat → Int32} {G : Nat → Int} {p a k c : Nat} {pc m na f : Int} (hR : mo_R D) (hm : 0 ≤ m) (hc : mo_cf D k = c) (hf : wt_rl (G (12 * a + c)) f) (h : 100000 ≤ f) : ¬ mo_cd D G p a pc m na k := fun w => by
  have w2 := w.2.2
  have h1 := hR.2.2.1 k
  rcases hf with ⟨f1, f2⟩ | ⟨f1, f2⟩
  · omega
  · have h3 := mo_wk_len (G := G) (pc := pc) (a := a) (b := mo_cf D k) (by omega)
    rw [hc] at h3; omega
theorem mm_cd_l {D : Nat → Nat → Int32} {G : Nat → Int} {p a k c : Nat} {pc m na f r : Int} {v : Int32} (hv : D 14 k = v) (hc : mo_cf D k = c) (hf : wt_rl (G (12 * a + c)) f) (h : f < 100000) (hw : mm_w G pc a c r) (hl : v.toInt < m + r) : ¬ mo_cd D G p a pc m na k := fun w => by
  have w2 := w.2.2
  rw [hv, hc] at w2
  rcases hw with ⟨w3, w4⟩ | ⟨w3, w4⟩
  · omega
  · rcases hf with ⟨f1, f2⟩ | ⟨f1, f2⟩ <;> omega
theorem mm_cd_y {D : Nat → Nat → Int32} {G : Nat → Int} {p a k c : Nat} {pc m na f r : Int} {v : Int32} (hg : mo_g D G p k) (hv : D 14 k = v) (hn : na ≤ v.toInt) (hc : mo_cf D k = c) (hf : wt_rl (G (12 * a + c)) f) (h : f < 100000) (hw : mm_w G pc a c r) (hl : m + r ≤ v.toInt) : mo_cd D G p a pc m na k := by
  refine ⟨hg, by rw [hv]; exact hn, ?_⟩
  rw [hv, hc]
  rcases hw with ⟨w3, w4⟩ | ⟨w3, w4⟩
  · omega
  · rcases hf with ⟨f1, f2⟩ | ⟨f1, f2⟩ <;> omega
def mm_c (fv : Nat → Int32) (ar : Nat → Nat → Int32) : Prop := ∀ i : Nat, (i : Int) < (fv 32).toInt → -1 ≤ (ar 72 i).toInt ∧ (ar 72 i).toInt ≤ 840
theorem mm_c_fr {M N : List Nat} {f f1 : Nat → Int32} {a a1 : Nat → Nat → Int32} (h : mm_c f a) (hf : fM M f f1) (ha : fA N a a1) (h32 : M.contains 32 = false) (k72 : N.contains 72 = false) : mm_c f1 a1 := by
  unfold mm_c; rw [hf 32 h32, ha 72 k72]; exact h
theorem mm_c_st {fv : Nat → Int32} {ar ar1 : Nat → Nat → Int32} {n : Nat} {x : Int32} (h : mm_c fv ar) (e : ar1 = upM ar 72 (upd (ar 72) n x)) (hx : -1 ≤ x.toInt ∧ x.toInt ≤ 840) : mm_c fv ar1 := by
  subst e
  intro i hi
  show -1 ≤ ((if i = n then x else ar 72 i)).toInt ∧ ((if i = n then x else ar 72 i)).toInt ≤ 840
  by_cases q : i = n
  · rw [if_pos q]; exact hx
  · rw [if_neg q]; exact h i hi

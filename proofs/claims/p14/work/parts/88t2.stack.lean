def rd_pl (g : Nat → Int32) : Nat → List Bool
  | 0 => []
  | t + 1 => if (g t).toInt = 12 then true :: rd_pl g t else if (g t).toInt = 15 then false :: rd_pl g t else rd_pl g t
def rd_pj (g : Nat → Int32) (t : Nat) : Prop := (∀ i, i < t → 12 ≤ (g i).toInt ∧ (g i).toInt ≤ 15) ∧ ∀ i, i + 1 < t → ((g (i + 1)).toInt = 13 ∨ (g (i + 1)).toInt = 14) → ¬ (g i).toInt = 12
theorem rd_pl_K {g g1 : Nat → Int32} : ∀ t, (∀ i, i < t → g1 i = g i) → rd_pl g1 t = rd_pl g t := by
  intro t
  induction t with
  | zero => intro _; rfl
  | succ t ih =>
    intro h
    show (if (g1 t).toInt = 12 then true :: rd_pl g1 t else if (g1 t).toInt = 15 then false :: rd_pl g1 t else rd_pl g1 t) = (if (g t).toInt = 12 then true :: rd_pl g t else if (g t).toInt = 15 then false :: rd_pl g t else rd_pl g t)
    rw [h t (by omega), ih (fun i hi => h i (by omega))]
theorem rd_pl_12 {g : Nat → Int32} {t : Nat} (h : (g t).toInt = 12) : rd_pl g (t + 1) = true :: rd_pl g t := by
  show (if (g t).toInt = 12 then true :: rd_pl g t else if (g t).toInt = 15 then false :: rd_pl g t else rd_pl g t) = _
  rw [if_pos h]
theorem rd_pl_15 {g : Nat → Int32} {t : Nat} (h : (g t).toInt = 15) : rd_pl g (t + 1) = false :: rd_pl g t := by
  show (if (g t).toInt = 12 then true :: rd_pl g t else if (g t).toInt = 15 then false :: rd_pl g t else rd_pl g t) = _
  rw [if_neg (by omega), if_pos h]
theorem rd_pl_jn {g : Nat → Int32} {t : Nat} (h : (g t).toInt = 13 ∨ (g t).toInt = 14) : rd_pl g (t + 1) = rd_pl g t := by
  show (if (g t).toInt = 12 then true :: rd_pl g t else if (g t).toInt = 15 then false :: rd_pl g t else rd_pl g t) = _
  rw [if_neg (by omega), if_neg (by omega)]
theorem rd_pj_le {g : Nat → Int32} {s t : Nat} (h : rd_pj g t) (hs : s ≤ t) : rd_pj g s := ⟨fun i hi => h.1 i (by omega), fun i hi => h.2 i (by omega)⟩
theorem rd_pj_0 (g : Nat → Int32) : rd_pj g 0 := ⟨fun i hi => absurd hi (Nat.not_lt_zero i), fun i hi => absurd hi (Nat.not_lt_zero _)⟩
theorem rd_pj_push {g g1 : Nat → Int32} {t : Nat} {x : Int32} (h : rd_pj g t) (e : g1 = upd g t x) (hx : (x.toInt = 12 ∨ x.toInt = 15) ∨ ((x.toInt = 13 ∨ x.toInt = 14) ∧ (t = 0 ∨ ¬ (g (t - 1)).toInt = 12))) : rd_pj g1 (t + 1) := by
  have hk : ∀ i, i < t → g1 i = g i := fun i hi => by rw [e]; exact if_neg (by omega)
  have ht : g1 t = x := by rw [e]; exact if_pos rfl
  refine ⟨fun i hi => ?_, fun i hi hj => ?_⟩
  · by_cases q : i = t
    · rw [q, ht]; omega
    · rw [hk i (by omega)]; exact h.1 i (by omega)
  · by_cases q : i + 1 = t
    · rw [q, ht] at hj
      rw [hk i (by omega)]
      rcases hx with w | w
      · omega
      · rcases w.2 with w | w
        · omega
        · have e2 : t - 1 = i := by omega
          rw [e2] at w; exact w
    · rw [hk (i + 1) (by omega)] at hj
      rw [hk i (by omega)]
      exact h.2 i (by omega) hj
theorem rd_pl_push {g g1 : Nat → Int32} {t : Nat} {x : Int32} (e : g1 = upd g t x) : g1 t = x ∧ rd_pl g1 t = rd_pl g t := by
  refine ⟨by rw [e]; exact if_pos rfl, rd_pl_K t (fun i hi => ?_)⟩
  rw [e]; exact if_neg (by omega)
theorem rd_dn_top {g : Nat → Int32} : ∀ t, rd_pj g t → (t = 0 ∨ ¬ (g (t - 1)).toInt = 12) → rd_dn (rd_pl g t) = rd_pl g t := by
  intro t
  induction t with
  | zero => intro _ _; rfl
  | succ t ih =>
    intro h h1
    have h2 : ¬ (g t).toInt = 12 := by
      rcases h1 with w | w
      · omega
      · exact w
    have h3 := h.1 t (by omega)
    by_cases q : (g t).toInt = 15
    · rw [rd_pl_15 q]; rfl
    · have q2 : (g t).toInt = 13 ∨ (g t).toInt = 14 := by omega
      rw [rd_pl_jn q2]
      refine ih (rd_pj_le h (by omega)) ?_
      rcases Nat.eq_zero_or_pos t with w | w
      · exact Or.inl w
      · have h4 := h.2 (t - 1) (by omega)
        rw [show t - 1 + 1 = t from by omega] at h4
        exact Or.inr (h4 q2)
theorem rd_pl_has {g : Nat → Int32} : ∀ t, (∃ j, j < t ∧ (g j).toInt = 15) → rd_pl g t ≠ [] := by
  intro t
  induction t with
  | zero => intro h; obtain ⟨j, h1, _⟩ := h; omega
  | succ t ih =>
    intro h
    obtain ⟨j, h1, h2⟩ := h
    by_cases q : (g t).toInt = 12
    · rw [rd_pl_12 q]; intro w; cases w
    · by_cases q2 : (g t).toInt = 15
      · rw [rd_pl_15 q2]; intro w; cases w
      · have e : rd_pl g (t + 1) = rd_pl g t := by
          show (if (g t).toInt = 12 then true :: rd_pl g t else if (g t).toInt = 15 then false :: rd_pl g t else rd_pl g t) = _
          rw [if_neg q, if_neg q2]
        rw [e]
        refine ih ⟨j, ?_, h2⟩
        have : j ≠ t := fun w => q2 (by rw [← w]; exact h2)
        omega
theorem rd_pl_none {g : Nat → Int32} : ∀ t, rd_dn (rd_pl g t) = rd_pl g t → (∀ j, j < t → ¬ (g j).toInt = 15) → rd_pl g t = [] := by
  intro t
  have hh : ∀ t, (∀ j, j < t → ¬ (g j).toInt = 15) → ∀ x ∈ rd_pl g t, x = true := by
    intro t
    induction t with
    | zero => intro _ x hx; cases hx
    | succ t ih =>
      intro h x hx
      have h1 := h t (by omega)
      by_cases q : (g t).toInt = 12
      · rw [rd_pl_12 q] at hx
        rcases List.mem_cons.mp hx with w | w
        · exact w
        · exact ih (fun j hj => h j (by omega)) x w
      · have e : rd_pl g (t + 1) = rd_pl g t := by
          show (if (g t).toInt = 12 then true :: rd_pl g t else if (g t).toInt = 15 then false :: rd_pl g t else rd_pl g t) = _
          rw [if_neg q, if_neg h1]
        rw [e] at hx
        exact ih (fun j hj => h j (by omega)) x hx
  intro hd h
  have h2 := hh t h
  have h3 : ∀ l : List Bool, (∀ x ∈ l, x = true) → rd_dn l = [] := by
    intro l
    induction l with
    | nil => intro _; rfl
    | cons x r ih =>
      intro h
      rw [h x (List.mem_cons_self ..)]
      exact ih (fun y hy => h y (List.mem_cons_of_mem _ hy))
  rw [← hd]; exact h3 _ h2
def rd_mt (b : Nat → Int) (n k : Nat) (sz to fr kd sg nu : Int32) (w : Int64) : Prop := sz.toInt = (n : Nat) ∧ fr.toInt = (rd_S b n k : Nat) ∧ rd_rel (rd_T b n k) (rd_N b n k) kd sg nu w ∧ (rd_st b n k < rd_lim n → to.toInt = (rd_en b n (k + 1) : Nat) ∧ rd_en b n (k + 1) ≤ n) ∧ k ≤ rd_en b n k ∧ rd_en b n k ≤ n ∧ n ≤ 340
theorem rd_T_in {b : Nat → Int} {n k : Nat} (h : rd_T b n k < 30) : rd_st b n k < rd_lim n := by
  rcases Nat.lt_or_ge (rd_st b n k) (rd_lim n) with w | w
  · exact w
  · by_cases q : 300 < n
    · rw [rd_T_w w q] at h; omega
    · rw [rd_T_e w q] at h; omega
theorem rd_mt_to {b : Nat → Int} {n k : Nat} {sz to fr kd sg nu : Int32} {w : Int64} (h : rd_mt b n k sz to fr kd sg nu w) (ht : rd_T b n k < 30) : to.toInt = (rd_en b n (k + 1) : Nat) ∧ to.toInt ≤ sz.toInt := by
  have h1 := h.2.2.2.1 (rd_T_in ht)
  have h2 := h.1
  exact ⟨h1.1, by omega⟩
theorem rd_mt_k {b : Nat → Int} {n k : Nat} {sz to fr kd sg nu : Int32} {w : Int64} (h : rd_mt b n k sz to fr kd sg nu w) : k ≤ 340 := by
  have h1 := h.2.2.2.2
  omega
theorem rd_mt_go {b : Nat → Int} {n k : Nat} {sz to fr kd sg nu sz1 to1 fr1 kd1 sg1 nu1 : Int32} {w w1 : Int64} (h : rd_mt b n k sz to fr kd sg nu w) (ht : rd_T b n k < 30) (h1 : sz1 = sz) (h2 : fr1.toInt = (rd_S b n (k + 1) : Nat)) (h3 : rd_st b n (k + 1) < rd_lim n → to1.toInt = (rd_en b n (k + 1 + 1) : Nat)) (h4 : rd_rel (rd_T b n (k + 1)) (rd_N b n (k + 1)) kd1 sg1 nu1 w1) : rd_mt b n (k + 1) sz1 to1 fr1 kd1 sg1 nu1 w1 := by
  have hk := h.2.2.2.2
  have hi := rd_T_in ht
  have he := (rd_en_le b n k).2 hi
  have hs := rd_s_le b (rd_lim n) (rd_en b n k)
  have h0 : rd_st b n k = rd_s b (rd_lim n) (rd_en b n k) := rfl
  refine ⟨by rw [h1]; exact h.1, h2, h4, fun q => ⟨h3 q, ((rd_en_le b n (k + 1)).2 q).2⟩, by omega, he.2, hk.2.2⟩
theorem rd_mt_0 {b : Nat → Int} {n : Nat} {sz to fr kd sg nu : Int32} {w : Int64} (hn : n ≤ 340) (h1 : sz.toInt = (n : Nat)) (h2 : fr.toInt = (rd_S b n 0 : Nat)) (h3 : rd_st b n 0 < rd_lim n → to.toInt = (rd_en b n (0 + 1) : Nat)) (h4 : rd_rel (rd_T b n 0) (rd_N b n 0) kd sg nu w) : rd_mt b n 0 sz to fr kd sg nu w := by
  have h0 : rd_en b n 0 = 0 := rfl
  exact ⟨h1, h2, h4, fun q => ⟨h3 q, ((rd_en_le b n 0).2 q).2⟩, by omega, by omega, hn⟩
theorem rd_rel_eq {t : Nat} {num : Int} {kd sg nu kd1 sg1 nu1 : Int32} {w w1 : Int64} (h : rd_rel t num kd sg nu w) (e1 : kd1 = kd) (e2 : sg1 = sg) (e3 : nu1 = nu) (e4 : w1 = w) : rd_rel t num kd1 sg1 nu1 w1 := by rw [e1, e2, e3, e4]; exact h
theorem rd_mt_eq {b : Nat → Int} {n k : Nat} {sz to fr kd sg nu sz1 to1 fr1 kd1 sg1 nu1 : Int32} {w w1 : Int64} (h : rd_mt b n k sz to fr kd sg nu w) (e1 : sz1 = sz) (e2 : to1 = to) (e3 : fr1 = fr) (e4 : kd1 = kd) (e5 : sg1 = sg) (e6 : nu1 = nu) (e7 : w1 = w) : rd_mt b n k sz1 to1 fr1 kd1 sg1 nu1 w1 := by rw [e1, e2, e3, e4, e5, e6, e7]; exact h
theorem rd_sgn {t : Nat} {num : Int} {kd sg nu a : Int32} {w : Int64} (h : rd_rel t num kd sg nu w) {j : Nat} (hj : (19 ≤ j ∧ j ≤ 21) ∨ (26 ≤ j ∧ j ≤ 28)) (e : a.toInt = rd_sg j) : (kd.toInt = 4 ∧ sg.toInt = a.toInt) ↔ t = j := by rw [e]; exact h.2.2.2.1 j hj
theorem rd_hto {b : Nat → Int} {g : Nat → Int32} {n k : Nat} {sz to fr kd sg nu : Int32} {w : Int64} (h : rd_mt b n k sz to fr kd sg nu w) (ht : rd_T b n k < 30) (hb : b = rd_b g) : to.toInt = (rd_en (rd_b g) (sz.toInt.toNat) (k + 1) : Nat) := by
  have h1 := rd_mt_to h ht
  have h2 : sz.toInt.toNat = n := by have := h.1; omega
  rw [← hb, h2]; exact h1.1
theorem rd_kd2 {t : Nat} {num : Int} {kd sg nu : Int32} {w : Int64} (h : rd_rel t num kd sg nu w) (ht : (t ≤ 18 ∨ (22 ≤ t ∧ t ≤ 25)) ∨ (19 ≤ t ∧ t ≤ 21) ∨ (26 ≤ t ∧ t ≤ 29)) : ¬ kd.toInt = 1 := by
  rcases ht with q | q | q
  · have := ((h.2.2.2.2 t q).mpr rfl).1; omega
  · have := ((h.2.2.2.1 t (Or.inl q)).mpr rfl).1; omega
  · by_cases e : t = 29
    · have := h.2.1.mpr e; omega
    · have := ((h.2.2.2.1 t (Or.inr (by omega))).mpr rfl).1; omega
theorem rd_hd {l : List Bool} (h : rd_dn l = l) (hn : l ≠ []) : ∃ r, l = false :: r := by
  cases l with
  | nil => exact absurd rfl hn
  | cons x r =>
    cases x with
    | false => exact ⟨r, rfl⟩
    | true =>
      exfalso
      have h1 : rd_dn r = true :: r := h
      have h2 : ∀ l : List Bool, (rd_dn l).length ≤ l.length := by
        intro l
        induction l with
        | nil => exact Nat.le_refl _
        | cons y s ih =>
          cases y with
          | true => exact Nat.le_succ_of_le ih
          | false => exact Nat.le_refl _
      have h3 := h2 r
      rw [h1, List.length_cons] at h3
      omega
theorem rd_top15 {g : Nat → Int32} {t : Nat} {r : List Bool} (hj : rd_pj g t) (h0 : 0 < t) (he : rd_pl g t = false :: r) (hn : ¬ ((g (t - 1)).toInt = 13 ∨ (g (t - 1)).toInt = 14)) : rd_pl g (t - 1) = r := by
  have h1 := hj.1 (t - 1) (by omega)
  rw [show t = (t - 1) + 1 from by omega] at he
  by_cases q : (g (t - 1)).toInt = 12
  · rw [rd_pl_12 q] at he; cases he
  · have q2 : (g (t - 1)).toInt = 15 := by omega
    rw [rd_pl_15 q2] at he
    exact (List.cons.inj he).2
theorem rd_below {g : Nat → Int32} {s t : Nat} (hj : rd_pj g t) (hd : rd_dn (rd_pl g t) = rd_pl g t) (hs : s ≤ t) (he : rd_pl g s = rd_pl g t) : s = 0 ∨ ¬ (g (s - 1)).toInt = 12 := by
  rcases Nat.eq_zero_or_pos s with h0 | h0
  · exact Or.inl h0
  · refine Or.inr (fun q => ?_)
    rw [← he, show s = (s - 1) + 1 from by omega, rd_pl_12 q] at hd
    obtain ⟨r, hr⟩ := rd_hd hd (fun w => by cases w)
    cases hr
def rd_by (T S : Nat → Nat) (N : Nat → Int) (r f1 f0 b1 b0 td d : Int32) : Prop := ((10 ≤ b0.toInt ∨ d.toInt < td.toInt ∨ 199 < d.toInt) ∧ r = -1000 ∧ f1 = f0 ∧ b1 = b0) ∨ (¬ (10 ≤ b0.toInt ∨ d.toInt < td.toInt ∨ 199 < d.toInt) ∧ (((rd_txt T N).1 = 0 ∧ r.toInt = ((rd_txt T N).2.2 : Nat) ∧ f1.toInt = 0 ∧ b1.toInt = b0.toInt + 1) ∨ (0 < (rd_txt T N).1 ∧ r.toInt = -1 - ((S (rd_txt T N).2.1 : Nat) : Int) ∧ f1.toInt = ((rd_txt T N).1 : Nat) ∧ b1 = b0)))
theorem rd_by_det {T S : Nat → Nat} {N : Nat → Int} {r r2 f1 f2 f0 b1 b2 b0 td d : Int32} (hx : rd_by T S N r f1 f0 b1 b0 td d) (hm : rd_by T S N r2 f2 f0 b2 b0 td d) : r = r2 ∧ f1 = f2 ∧ b1 = b2 := by
  rcases hx with ⟨a, b, c, e⟩ | ⟨a, q⟩ <;> rcases hm with ⟨a1, b1, c1, e1⟩ | ⟨a1, q1⟩
  · exact ⟨b.trans b1.symm, c.trans c1.symm, e.trans e1.symm⟩
  · exact absurd a a1
  · exact absurd a1 a
  · rcases q with ⟨b, c, e, f⟩ | ⟨b, c, e, f⟩ <;> rcases q1 with ⟨b1, c1, e1, f1⟩ | ⟨b1, c1, e1, f1⟩
    · exact ⟨Int32.toInt_inj.mp (c.trans c1.symm), Int32.toInt_inj.mp (e.trans e1.symm), Int32.toInt_inj.mp (f.trans f1.symm)⟩
    · omega
    · omega
    · exact ⟨Int32.toInt_inj.mp (c.trans c1.symm), Int32.toInt_inj.mp (e.trans e1.symm), f.trans f1.symm⟩

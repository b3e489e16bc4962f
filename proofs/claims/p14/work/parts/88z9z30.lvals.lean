def cd_vl (l : Int × Int × List (Nat × Nat × Int)) : Prop := (l.1 = 1 → l.2.1 = 0 ∨ l.2.1 = 1) ∧ (l.1 = 3 → 0 ≤ l.2.1 ∧ l.2.1 ≤ 2000) ∧ (l.1 = 6 → l.2.2 = [])
theorem rd_ln_ok {T : Nat → Nat} {N : Nat → Int} {p o ln : Nat} {dk : Bool} (h : (rd_ln T N p o ln dk).1 = 0) : T p < 7 ∧ ¬ (T p = 6 ∧ dk = true) ∧ (T p < 2 ∨ (T (p + 1) = 29 ∧ N (p + 1) ≤ 2000)) := by
  unfold rd_ln at h
  by_cases h1 : ¬ T p < 7
  · rw [if_pos h1] at h; cases h
  rw [if_neg h1] at h
  by_cases h2 : 16 ≤ ln ∨ (T p = 6 ∧ dk = true)
  · rw [if_pos h2] at h; cases h
  rw [if_neg h2] at h
  refine ⟨by omega, fun w => h2 (Or.inr w), ?_⟩
  by_cases h3 : T p < 2
  · exact Or.inl h3
  rw [if_neg h3] at h
  by_cases h4 : T (p + 1) = 29 ∧ 2000 < N (p + 1)
  · rw [if_pos h4] at h; cases h
  rw [if_neg h4] at h
  by_cases h5 : ¬ T (p + 1) = 29
  · rw [if_pos h5] at h; cases h
  · exact Or.inr (by omega)
theorem cd_line_vl {T : Nat → Nat} {N : Nat → Int} {p o ln : Nat} {dk : Bool} (hN : ∀ q, T q = 29 → 0 ≤ N q) (h : (rd_ln T N p o ln dk).1 = 0) : cd_vl (cd_line T N p) := by
  obtain ⟨h1, _, h3⟩ := rd_ln_ok h
  refine ⟨fun w => ?_, fun w => ?_, fun w => ?_⟩
  · have w1 : (T p : Int) = 1 := w
    show cd_v0 T N p = 0 ∨ cd_v0 T N p = 1
    unfold cd_v0
    rw [if_pos (by omega)]
    split
    · exact Or.inl rfl
    · exact Or.inr rfl
  · have w1 : (T p : Int) = 3 := w
    show 0 ≤ cd_v0 T N p ∧ cd_v0 T N p ≤ 2000
    unfold cd_v0
    rw [if_neg (by omega)]
    rcases h3 with h3 | h3
    · omega
    · exact ⟨hN _ h3.1, h3.2⟩
  · have w1 : (T p : Int) = 6 := w
    show cd_c0 T N (T p) (cd_q0 T p) = []
    unfold cd_c0
    exact if_neg (fun z => z.1 (by omega))
theorem cd_tt_vl {T : Nat → Nat} {N : Nat → Int} (hN : ∀ q, T q = 29 → 0 ≤ N q) : ∀ f p o ln dk, ∀ l ∈ cd_tt T N f p o ln dk, cd_vl l := by
  intro f
  induction f with
  | zero => intro p o ln dk l hl; exact absurd hl List.not_mem_nil
  | succ f ih =>
    intro p o ln dk l hl
    have e : cd_tt T N (f + 1) p o ln dk = if T p = 30 then [] else if (rd_ln T N p o ln dk).1 = 0 then cd_line T N p :: cd_tt T N f (rd_ln T N p o ln dk).2.1 (rd_ln T N p o ln dk).2.2 (ln + 1) (dk || decide (T p = 6)) else [] := rfl
    rw [e] at hl
    by_cases h1 : T p = 30
    · rw [if_pos h1] at hl; exact absurd hl List.not_mem_nil
    rw [if_neg h1] at hl
    by_cases h2 : (rd_ln T N p o ln dk).1 = 0
    · rw [if_pos h2] at hl
      rcases List.mem_cons.mp hl with w | w
      · rw [w]; exact cd_line_vl hN h2
      · exact ih _ _ _ _ l w
    · rw [if_neg h2] at hl; exact absurd hl List.not_mem_nil
theorem cd_txt_vl {T : Nat → Nat} {N : Nat → Int} (hN : ∀ q, T q = 29 → 0 ≤ N q) : ∀ l ∈ cd_txt T N, cd_vl l := cd_tt_vl hN 400 0 0 0 false
theorem cd_tt_6 {T : Nat → Nat} {N : Nat → Int} : ∀ f p o ln, ∀ l ∈ cd_tt T N f p o ln true, ¬ l.1 = 6 := by
  intro f
  induction f with
  | zero => intro p o ln l hl; exact absurd hl List.not_mem_nil
  | succ f ih =>
    intro p o ln l hl
    have e : cd_tt T N (f + 1) p o ln true = if T p = 30 then [] else if (rd_ln T N p o ln true).1 = 0 then cd_line T N p :: cd_tt T N f (rd_ln T N p o ln true).2.1 (rd_ln T N p o ln true).2.2 (ln + 1) (true || decide (T p = 6)) else [] := rfl
    rw [e] at hl
    by_cases h1 : T p = 30
    · rw [if_pos h1] at hl; exact absurd hl List.not_mem_nil
    rw [if_neg h1] at hl
    by_cases h2 : (rd_ln T N p o ln true).1 = 0
    · rw [if_pos h2] at hl
      rcases List.mem_cons.mp hl with w | w
      · have h3 := (rd_ln_ok h2).2.1
        rw [w]
        intro z
        have z1 : (T p : Int) = 6 := z
        exact h3 ⟨by omega, rfl⟩
      · rw [Bool.true_or] at w
        exact ih _ _ _ l w
    · rw [if_neg h2] at hl; exact absurd hl List.not_mem_nil
theorem cd_no6 {F : Nat → Int} : ∀ (W : List (Int × Int × List (Nat × Nat × Int))) (d : Int), (∀ l ∈ W, ¬ l.1 = 6) → W.foldl (fun d x => cd_dx x.1 x.2.1 d) d = d ∧ cd_fv F 6 W = 0
  | [], _, _ => ⟨rfl, rfl⟩
  | x :: r, d, h => by
    have hx : ¬ x.1 = 6 := h x (List.mem_cons_self ..)
    have ih := cd_no6 (F := F) r d (fun l hl => h l (List.mem_cons_of_mem _ hl))
    refine ⟨?_, ?_⟩
    · show r.foldl (fun d x => cd_dx x.1 x.2.1 d) (cd_dx x.1 x.2.1 d) = d
      rw [show cd_dx x.1 x.2.1 d = d from by unfold cd_dx; rw [if_neg hx]]
      exact ih.1
    · show (if x.1 = 6 ∧ cd_ho F x.2.2 = true then x.2.1 else cd_fv F 6 r) = 0
      rw [if_neg (fun w => hx w.1)]; exact ih.2
theorem cd_tt_dk {T : Nat → Nat} {N : Nat → Int} {F : Nat → Int} : ∀ f p o ln dk, cd_fv F 6 (cd_tt T N f p o ln dk) = (cd_tt T N f p o ln dk).foldl (fun d x => cd_dx x.1 x.2.1 d) 0 := by
  intro f
  induction f with
  | zero => intro p o ln dk; rfl
  | succ f ih =>
    intro p o ln dk
    have e : cd_tt T N (f + 1) p o ln dk = if T p = 30 then [] else if (rd_ln T N p o ln dk).1 = 0 then cd_line T N p :: cd_tt T N f (rd_ln T N p o ln dk).2.1 (rd_ln T N p o ln dk).2.2 (ln + 1) (dk || decide (T p = 6)) else [] := rfl
    rw [e]
    by_cases h1 : T p = 30
    · rw [if_pos h1]; rfl
    rw [if_neg h1]
    by_cases h2 : (rd_ln T N p o ln dk).1 = 0
    · rw [if_pos h2]
      show (if (cd_line T N p).1 = 6 ∧ cd_ho F (cd_line T N p).2.2 = true then (cd_line T N p).2.1 else cd_fv F 6 (cd_tt T N f (rd_ln T N p o ln dk).2.1 (rd_ln T N p o ln dk).2.2 (ln + 1) (dk || decide (T p = 6)))) = (cd_tt T N f (rd_ln T N p o ln dk).2.1 (rd_ln T N p o ln dk).2.2 (ln + 1) (dk || decide (T p = 6))).foldl (fun d x => cd_dx x.1 x.2.1 d) (cd_dx (cd_line T N p).1 (cd_line T N p).2.1 0)
      by_cases h6 : T p = 6
      · have k6 : (cd_line T N p).1 = 6 := by show (T p : Int) = 6; omega
        have kc : (cd_line T N p).2.2 = [] := by
          show cd_c0 T N (T p) (cd_q0 T p) = []
          unfold cd_c0
          exact if_neg (fun z => z.1 h6)
        rw [if_pos ⟨k6, by rw [kc]; rfl⟩, show (dk || decide (T p = 6)) = true from by rw [decide_eq_true h6, Bool.or_true], (cd_no6 (F := F) _ _ (cd_tt_6 f _ _ _)).1]
        unfold cd_dx; rw [if_pos k6]
      · have k6 : ¬ (cd_line T N p).1 = 6 := by intro z; have z1 : (T p : Int) = 6 := z; omega
        rw [if_neg (fun w => k6 w.1), show cd_dx (cd_line T N p).1 (cd_line T N p).2.1 0 = 0 from by unfold cd_dx; rw [if_neg k6]]
        exact ih _ _ _ _
    · rw [if_neg h2]; rfl
theorem cd_txt_dk {T : Nat → Nat} {N : Nat → Int} (F : Nat → Int) : cd_fv F 6 (cd_txt T N) = cd_dk (cd_txt T N) := cd_tt_dk 400 0 0 0 false
theorem mo_A3 {W : List (Int × Int × List (Nat × Nat × Int))} (h : ∀ l ∈ W, cd_vl l) (D : Nat → Nat → Int32) (t : Nat) (n ti : Int) : 0 ≤ (mo_A D W t 3 n ti).toInt ∧ (mo_A D W t 3 n ti).toInt ≤ 2000 := by
  have key : ∀ F tx, 0 ≤ cd_av F 3 tx W ∧ cd_av F 3 tx W ≤ 2000 := by
    intro F tx
    unfold cd_av
    by_cases q : cd_al F 3 tx W = -1
    · rw [if_pos q]; unfold cd_pl; simp
    · rw [if_neg q]
      exact cd_fv_in (P := fun z => 0 ≤ z ∧ z ≤ 2000) ⟨Int.le_refl _, by decide⟩ _ (fun l hl => (h l hl).2.1)
  have h9 := key (cd_fc (D 7 (D 11 t).toInt.toNat).toInt (D 10 (D 11 t).toInt.toNat).toInt (D 9 (D 11 t).toInt.toNat).toInt (D 19 4).toInt (D 14 t).toInt (D 19 3).toInt (D 12 t).toInt (D 13 t).toInt (cd_ri ((3 : Nat) : Int) n) ti) (decide ((D 7 (D 11 t).toInt.toNat).toInt = 2))
  have e : (mo_A D W t 3 n ti).toInt = cd_av (cd_fc (D 7 (D 11 t).toInt.toNat).toInt (D 10 (D 11 t).toInt.toNat).toInt (D 9 (D 11 t).toInt.toNat).toInt (D 19 4).toInt (D 14 t).toInt (D 19 3).toInt (D 12 t).toInt (D 13 t).toInt (cd_ri ((3 : Nat) : Int) n) ti) 3 (decide ((D 7 (D 11 t).toInt.toNat).toInt = 2)) W := by
    unfold mo_A
    exact mo_i32 (by show -2147483648 ≤ cd_av _ 3 _ W; omega) (by show cd_av _ 3 _ W ≤ 2147483647; omega)
  rw [e]; exact h9
theorem rd_nb_nn (b : Nat → Int) (a : Nat) : ∀ m, 0 ≤ rd_nb b a m
  | 0 => Int.le_refl _
  | m + 1 => by
    have h := rd_nb_nn b a m
    show 0 ≤ rd_nb b a m * 10 + (if rd_d (b (a + m)) = true then b (a + m) - 48 else 0)
    by_cases q : rd_d (b (a + m)) = true
    · rw [if_pos q]
      unfold rd_d at q
      have q2 := of_decide_eq_true q
      omega
    · rw [if_neg q]; omega
theorem rd_N_nn (b : Nat → Int) (n k : Nat) : 0 ≤ rd_N b n k := rd_nb_nn _ _ _

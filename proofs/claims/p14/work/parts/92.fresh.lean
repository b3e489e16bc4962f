theorem my_Dleft {A : Nat → Prop} {w1 w2 : va_W} (h : va_D A (w1 ++ w2)) : va_D A w1 := by
  have f : ∀ (k : Nat) (q : Nat × va_E), w1[k]? = some q → (w1 ++ w2)[k]? = some q := fun k q hk => by rw [List.getElem?_append_left (List.getElem?_eq_some_iff.mp hk).1]; exact hk
  exact ⟨fun i j p q hi hj e => h.1 _ _ p q (f i p hi) (f j q hj) e, fun k q hk => h.2 _ q (f k q hk)⟩
theorem my_apart {A : Nat → Prop} {w1 w2 : va_W} (h : va_D A (w1 ++ w2)) : ∀ (i j : Nat) (p q : Nat × va_E), w1[i]? = some p → w2[j]? = some q → p.1 ≠ q.1 := by
  intro i j p q hi hj e
  have hl := (List.getElem?_eq_some_iff.mp hi).1
  have h1 : (w1 ++ w2)[i]? = some p := by rw [List.getElem?_append_left hl]; exact hi
  have h2 : (w1 ++ w2)[w1.length + j]? = some q := by rw [List.getElem?_append_right (Nat.le_add_right _ _), Nat.add_sub_cancel_left]; exact hj
  have := h.1 _ _ p q h1 h2 e
  omega
theorem my_inl {w1 w2 : va_W} {k : Nat} {q : Nat × va_E} (hk : w1[k]? = some q) : (w1 ++ w2)[k]? = some q := by rw [List.getElem?_append_left (List.getElem?_eq_some_iff.mp hk).1]; exact hk
theorem my_inr {w1 w2 : va_W} {k : Nat} {q : Nat × va_E} (hk : w2[k]? = some q) : (w1 ++ w2)[w1.length + k]? = some q := by rw [List.getElem?_append_right (Nat.le_add_right _ _), Nat.add_sub_cancel_left]; exact hk
theorem my_Kl {D : va_G} {cl : List vw_C} {t1 t2 : List (ClassId × FieldType)} {U : State} (h : va_K D cl (t1 ++ t2) U) : va_K D cl t1 U := ⟨h.1, fun k q hk => h.2 k q (by rw [List.getElem?_append_left (List.getElem?_eq_some_iff.mp hk).1]; exact hk)⟩
theorem my_Kr {D : va_G} {cl : List vw_C} {t1 t2 : List (ClassId × FieldType)} {U : State} (h : va_K D cl (t1 ++ t2) U) : va_K D cl t2 U := ⟨h.1, fun k q hk => h.2 (t1.length + k) q (by rw [List.getElem?_append_right (Nat.le_add_right _ _), Nat.add_sub_cancel_left]; exact hk)⟩
theorem my_adc {ob ad : Nat → Nat} (cA : Nat → ClassId) (fv : Nat → Int32) (wd : xT) (ar : Nat → Nat → Int32) {k q : Nat} (hk : (adX ob ad)[k]? = some q) : ∃ c : Nat × va_E, (wsX ob ad cA fv wd ar)[k]? = some c ∧ c.1 = q := by
  have e : adX ob ad = (wsX ob ad cA fv wd ar).map (fun q => q.1) := rfl
  rw [e, List.getElem?_map] at hk
  cases hc : (wsX ob ad cA fv wd ar)[k]? with
  | none => rw [hc] at hk; cases hk
  | some c => rw [hc] at hk; cases hk; exact ⟨c, rfl, rfl⟩
theorem my_admc {h : Nat} {ad : Nat → Nat} (cA : Nat → ClassId) (fv : Nat → Int32) (wd : Int64) (ar : Nat → Nat → Int32) {k q : Nat} (hk : (adM h ad)[k]? = some q) : ∃ c : Nat × va_E, (wsM h ad cA fv wd ar)[k]? = some c ∧ c.1 = q := by
  have e : adM h ad = (wsM h ad cA fv wd ar).map (fun q => q.1) := rfl
  rw [e, List.getElem?_map] at hk
  cases hc : (wsM h ad cA fv wd ar)[k]? with
  | none => rw [hc] at hk; cases hk
  | some c => rw [hc] at hk; cases hk; exact ⟨c, rfl, rfl⟩
theorem loX0 (k : Nat) : loX k ≤ 0 := by unfold loX; split <;> decide
theorem hiX0 (k : Nat) : 0 ≤ hiX k := by unfold hiX; split <;> decide
theorem loB0 (k : Nat) : loB k ≤ 0 := by unfold loB; split <;> decide
theorem hiB0 (k : Nat) : 0 ≤ hiB k := by unfold hiB; split <;> decide
theorem loF0 (k : Nat) : loF k ≤ 0 := by unfold loF; split <;> decide
theorem hiF0 (k : Nat) : 0 ≤ hiF k := by unfold hiF; split <;> decide
theorem loA0 (k : Nat) : loA k ≤ 0 := by unfold loA; split <;> decide
theorem hiA0 (k : Nat) : 0 ≤ hiA k := by unfold hiA; split <;> decide
theorem my_z32 : (0 : Int32).toInt = 0 := by decide
theorem rX0 : rX fvX0 := by
  intro k
  unfold fvX0
  by_cases h1 : k = 1
  · subst h1; decide
  · rw [if_neg h1]
    by_cases h3 : k = 3
    · subst h3; decide
    · rw [if_neg h3, my_z32]; exact ⟨loX0 k, hiX0 k⟩
theorem rB0 {fL : Nat → Int32} (hc : wt_cI 144 fL) : rB (arX0 fL) := by
  intro k i
  unfold arX0
  by_cases h1 : k = 5
  · subst h1; exact hc.2 i
  · rw [if_neg h1]; show loB k ≤ (0 : Int32).toInt ∧ (0 : Int32).toInt ≤ hiB k; rw [my_z32]; exact ⟨loB0 k, hiB0 k⟩
theorem rF0 : rF fvM0 := by
  intro k
  unfold fvM0
  by_cases h1 : k = 66
  · subst h1; decide
  · rw [if_neg h1]
    by_cases h2 : k = 67
    · subst h2; decide
    · rw [if_neg h2]
      by_cases h3 : k = 86
      · subst h3; decide
      · rw [if_neg h3, my_z32]; exact ⟨loF0 k, hiF0 k⟩
theorem rA0 : rA (fun _ _ => 0) := by
  intro k i
  show loA k ≤ (0 : Int32).toInt ∧ (0 : Int32).toInt ≤ hiA k
  rw [my_z32]; exact ⟨loA0 k, hiA0 k⟩
theorem vM0 : vM fvM0 (fun _ _ => 0) := by
  intro b k hb
  have h9 : (fvM0 58).toInt = 0 := by decide
  omega
theorem sW0 : sW (fun _ _ => 0) := fun i _ _ => by show (0 : Int) ≤ (0 : Int32).toInt; rw [my_z32]; exact Int.le_refl _
theorem lwQ0 : lwQ 0 0 (fun _ _ => 0) := ⟨by omega, by omega, fun i => ⟨⟨by show (0 : Int) ≤ (0 : Int32).toInt; decide, by show (0 : Int32).toInt ≤ ((0 : Nat) : Int); decide⟩, ⟨by show (0 : Int) ≤ (0 : Int32).toInt; decide, by show (0 : Int32).toInt ≤ (11 : Int); decide⟩⟩⟩
theorem wt_Sf {fL : Nat → Int32} (hc : wt_cI 144 fL) : ∃ f, wt_S (fun i => (fL i).toInt) f := by
  refine ⟨fun z => z, fun x y hx hy => ?_⟩
  show (_ → 0 ≤ (fL (12 * x + y)).toInt ∧ (fL (12 * x + y)).toInt ≤ _) ∧ (_ → (fL (12 * x + y)).toInt = _)
  rw [hc.1 (12 * x + y) (by omega)]
  exact wt_S00 x y hx hy
theorem lw_fresh {s : State} {dC : Nat → ClassId} {dI : Nat → Nat → Nat} {ob ad : Nat → Nat} {cA : Nat → ClassId} {fL : Nat → Int32} {nr : Nat → Nat} {nk : Nat → ClassId} {h : Nat} {adm : Nat → Nat} {cAm : Nat → ClassId} {yO : Nat} {kO : ClassId} {tA : Nat → Nat} {tD : Nat} {H : Heap} (hc : wt_cI 144 fL) (hP : va_P (dC, dI) vwCl (((wsX ob ad cA fvX0 (wdX0 ob tD) (arX0 fL) ++ lwC (ob 12) 0 nr nk 0 0 (fun _ _ => 0)) ++ wsM h adm cAm fvM0 0 (fun _ _ => 0)) ++ [(yO, .inl (kO, 1, .inr (.inl (fun _ => 0))))]) H) (hD : va_D (fun q => s.heap.size ≤ q) (((wsX ob ad cA fvX0 (wdX0 ob tD) (arX0 fL) ++ lwC (ob 12) 0 nr nk 0 0 (fun _ _ => 0)) ++ wsM h adm cAm fvM0 0 (fun _ _ => 0)) ++ [(yO, .inl (kO, 1, .inr (.inl (fun _ => 0))))])) (hK : va_K (dC, dI) vwCl (((tyX cA ++ lwTy nk) ++ tyM cAm) ++ [(kO, .long)]) s) : iSep s ob ad h adm yO ∧ inV s dC dI ob ad cA h adm cAm yO kO tA tD ((fun j => if j = 11 then -1 else 0), (fun j => if j = 2 then fL else fun _ => 0), fun _ => (0, [])) ((fun j => if j = 11 then -1 else 0), (fun j => if j = 2 then fL else fun _ => 0), fun _ => (0, [])) H ∧ va_K (dC, dI) vwCl (tyX cA) s ∧ va_K (dC, dI) vwCl (tyM cAm) s ∧ va_K (dC, dI) vwCl [(kO, .long)] s := by
  have hD3 := my_Dleft hD
  have hD2 := my_Dleft hD3
  have hD1 := my_Dleft hD2
  have hDM := my_Dright hD3
  have hPX := my_left (my_left (my_left hP))
  have hPL := my_right (my_left (my_left hP))
  have hPM := my_right (my_left hP)
  have hPO := my_right hP
  have a12 := my_apart hD2
  have a3 := my_apart hD3
  have a4 := my_apart hD
  have xX : ∀ k q : Nat, (adX ob ad)[k]? = some q → s.heap.size ≤ q := fun k q hk => by obtain ⟨c, h1, h2⟩ := my_adc cA fvX0 (wdX0 ob tD) (arX0 fL) hk; rw [← h2]; exact hD1.2 k c h1
  have xM : ∀ k q : Nat, (adM h adm)[k]? = some q → s.heap.size ≤ q := fun k q hk => by obtain ⟨c, h1, h2⟩ := my_admc cAm fvM0 0 (fun _ _ => 0) hk; rw [← h2]; exact hDM.2 k c h1
  have yX : ∀ k : Nat, (adX ob ad)[k]? = some yO → False := fun k hk => by obtain ⟨c, h1, h2⟩ := my_adc cA fvX0 (wdX0 ob tD) (arX0 fL) hk; exact a4 k 0 c _ (my_inl (my_inl h1)) rfl h2
  have yM : ∀ k : Nat, (adM h adm)[k]? = some yO → False := fun k hk => by obtain ⟨c, h1, h2⟩ := my_admc cAm fvM0 0 (fun _ _ => 0) hk; exact a4 _ 0 c _ (my_inr h1) rfl h2
  have XM : ∀ j k q : Nat, (adX ob ad)[j]? = some q → (adM h adm)[k]? = some q → False := fun j k q hj hk => by obtain ⟨c, h1, h2⟩ := my_adc cA fvX0 (wdX0 ob tD) (arX0 fL) hj; obtain ⟨d, h3, h4⟩ := my_admc cAm fvM0 0 (fun _ _ => 0) hk; exact a3 j k c d (my_inl h1) h3 (h2.trans h4.symm)
  have hsep : iSep s ob ad h adm yO := ⟨fun i j a hi hj => by obtain ⟨c, h1, h2⟩ := my_adc cA fvX0 (wdX0 ob tD) (arX0 fL) hi; obtain ⟨d, h3, h4⟩ := my_adc cA fvX0 (wdX0 ob tD) (arX0 fL) hj; exact hD1.1 i j c d h1 h3 (h2.trans h4.symm), fun i j a hi hj => by obtain ⟨c, h1, h2⟩ := my_admc cAm fvM0 0 (fun _ _ => 0) hi; obtain ⟨d, h3, h4⟩ := my_admc cAm fvM0 0 (fun _ _ => 0) hj; exact hDM.1 i j c d h1 h3 (h2.trans h4.symm), xX, xM, XM, yX, yM, (my_Dright hD).2 0 _ rfl⟩
  have hp : ∀ (k : Nat) (q : Nat × va_E), (lwC (ob 12) 0 nr nk 0 0 (fun _ _ => 0))[k]? = some q → q.1 < H.size ∧ pX s ob ad h adm yO q.1 := fun k q hk => ⟨(hPL k q hk).lt, (my_Dright hD2).2 k q hk, fun j hj => by obtain ⟨c, h1, h2⟩ := my_adc cA fvX0 (wdX0 ob tD) (arX0 fL) hj; exact a12 j k c q h1 hk h2, fun j hj => by obtain ⟨c, h1, h2⟩ := my_admc cAm fvM0 0 (fun _ _ => 0) hj; exact a3 _ j q c (my_inr hk) h1 h2.symm, fun w => a4 _ 0 q _ (my_inl (my_inr hk)) rfl w⟩
  have n0 : (fvX0 30).toInt = 0 := by decide
  have hKX : va_K (dC, dI) vwCl (tyX cA) s := my_Kl (my_Kl (my_Kl hK))
  have hKL : va_K (dC, dI) vwCl (lwTy nk) s := my_Kr (my_Kl (my_Kl hK))
  refine ⟨hsep, ⟨fvX0, wdX0 ob tD, arX0 fL, fvM0, 0, fun _ _ => 0, fun _ => 0, fun _ => ob 12, fun _ => 0, fun _ => (ntH (nr 1) [nr 1, nr 1, nr 2, nr 3, nr 4, nr 5, nr 6]), fun _ => nk, fun _ => 0, fun _ => 0, fun _ _ _ => 0, kO, fun _ => none, ⟨hPX, rX0, rB0 hc, (fun i v w => by cases w), ⟨⟨⟨rfl, fun i hi => absurd hi (by omega)⟩, mx_iv0⟩, rfl, rfl, rfl, rfl, rfl, rfl, rfl, rfl, rfl, rfl, rfl, rfl, rfl, rfl, rfl, rfl, rfl, rfl, rfl, rfl, rfl, rfl, rfl, rfl, rfl, rfl, rfl, rfl, rfl, rfl, rfl, rfl, rfl, rfl, rfl, rfl, rfl, rfl, rfl, rfl, rfl, rfl, rfl, rfl, rfl, rfl⟩⟩, ⟨hPM, rF0, rA0, vM0, sW0, ⟨fun i hi => absurd hi (by have h9 : (fvM0 58).toInt = 0 := (by decide); omega), rfl, rfl, rfl, rfl, rfl, rfl, rfl, rfl, rfl, rfl, rfl, rfl, rfl, rfl, ⟨Or.inl ⟨by decide, hc.1⟩, wt_Sf hc⟩, rfl, rfl, rfl, rfl, rfl, rfl, rfl, rfl, rfl, rfl, rfl, rfl, rfl, rfl, rfl, rfl, rfl, rfl, rfl, rfl, rfl, rfl, rfl, rfl, rfl, rfl, rfl, rfl, rfl, rfl, rfl⟩⟩, hPO, ?_, fun _ => rfl, fun w => absurd w (by omega), ?_, fun w => absurd w (by omega)⟩, hKX, my_Kr (my_Kl hK), my_Kr hK⟩
  · intro U hU hv
    refine ⟨rfl, fun i hi => ⟨lwQ0, ?_, ?_, ?_⟩, fun w => absurd w (by omega)⟩
    · rw [hU]; exact hPL
    · exact va_K.moved hv hKL
    · intro k q hk w
      have h9 := hp k q hk
      exact w.elim (fun ⟨j, hj⟩ => h9.2.2.1 j hj) (fun w => absurd h9.1 (Nat.not_lt.mpr w))
  · intro i hi
    refine ⟨hp 0 _ rfl, fun j => ntH_all (P := fun q => q < H.size ∧ pX s ob ad h adm yO q) (hp 1 _ rfl) _ ?_ j⟩
    simp only [List.mem_cons, List.not_mem_nil, or_false]
    rintro x (rfl | rfl | rfl | rfl | rfl | rfl | rfl)
    · exact hp 1 _ rfl
    · exact hp 1 _ rfl
    · exact hp 2 _ rfl
    · exact hp 3 _ rfl
    · exact hp 4 _ rfl
    · exact hp 5 _ rfl
    · exact hp 6 _ rfl

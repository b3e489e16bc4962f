theorem gv_0 {args : Array Value} {s : State} (h : (Jvm.Cond.and given_1 narrow_1).before args s = true) : (Cond.arrayOf (.static "java/util/ArrayList" "DEFAULTCAPACITY_EMPTY_ELEMENTDATA" "[Ljava/lang/Object;") (.object "java/lang/Object")).before args s = true := flat_of_before _ h _ (by decide +kernel)
theorem gv_1 {args : Array Value} {s : State} (h : (Jvm.Cond.and given_1 narrow_1).before args s = true) : (Cond.eq (.length (.static "java/util/ArrayList" "DEFAULTCAPACITY_EMPTY_ELEMENTDATA" "[Ljava/lang/Object;")) (.int 0)).before args s = true := flat_of_before _ h _ (by decide +kernel)
theorem gv_2 {args : Array Value} {s : State} (h : (Jvm.Cond.and given_1 narrow_1).before args s = true) : (Cond.exactly (.static "WalkingTown$Token" "END" "LWalkingTown$Token;") "WalkingTown$Token").before args s = true := flat_of_before _ h _ (by decide +kernel)
theorem gv_3 {args : Array Value} {s : State} (h : (Jvm.Cond.and given_1 narrow_1).before args s = true) : (Cond.isRef (.static Bundle.tN "UNASSIGNED_STACK" Bundle.steD)).before args s = true := flat_of_before _ h _ (by decide +kernel)
theorem gv_4 {args : Array Value} {s : State} (h : (Jvm.Cond.and given_1 narrow_1).before args s = true) : (Cond.isRef (.static Bundle.tN "SUPPRESSED_SENTINEL" Bundle.listD)).before args s = true := flat_of_before _ h _ (by decide +kernel)
theorem gv_5 {args : Array Value} {s : State} (h : (Jvm.Cond.and given_1 narrow_1).before args s = true) : (Cond.exactly (.string "WalkingTown" 209) "java/lang/String").before args s = true := flat_of_before _ h _ (by decide +kernel)
theorem my_sw25 (x : Int32) : x.toInt < 0 ∨ 24 < x.toInt ∨ x = 0 ∨ x = 1 ∨ x = 2 ∨ x = 3 ∨ x = 4 ∨ x = 5 ∨ x = 6 ∨ x = 7 ∨ x = 8 ∨ x = 9 ∨ x = 10 ∨ x = 11 ∨ x = 12 ∨ x = 13 ∨ x = 14 ∨ x = 15 ∨ x = 16 ∨ x = 17 ∨ x = 18 ∨ x = 19 ∨ x = 20 ∨ x = 21 ∨ x = 22 ∨ x = 23 ∨ x = 24 := by
  by_cases h : x.toInt < 0
  · exact Or.inl h
  · by_cases h2 : 24 < x.toInt
    · exact Or.inr (Or.inl h2)
    · refine Or.inr (Or.inr ?_)
      have e : ∀ n : Int32, x = n ↔ x.toInt = n.toInt := fun n => ⟨fun q => by rw [q], fun q => Int32.toInt_inj.mp q⟩
      simp only [e]
      have z : (0 : Int32).toInt = 0 ∧ (1 : Int32).toInt = 1 ∧ (2 : Int32).toInt = 2 ∧ (3 : Int32).toInt = 3 ∧ (4 : Int32).toInt = 4 ∧ (5 : Int32).toInt = 5 ∧ (6 : Int32).toInt = 6 ∧ (7 : Int32).toInt = 7 ∧ (8 : Int32).toInt = 8 ∧ (9 : Int32).toInt = 9 ∧ (10 : Int32).toInt = 10 ∧ (11 : Int32).toInt = 11 ∧ (12 : Int32).toInt = 12 ∧ (13 : Int32).toInt = 13 ∧ (14 : Int32).toInt = 14 ∧ (15 : Int32).toInt = 15 ∧ (16 : Int32).toInt = 16 ∧ (17 : Int32).toInt = 17 ∧ (18 : Int32).toInt = 18 ∧ (19 : Int32).toInt = 19 ∧ (20 : Int32).toInt = 20 ∧ (21 : Int32).toInt = 21 ∧ (22 : Int32).toInt = 22 ∧ (23 : Int32).toInt = 23 ∧ (24 : Int32).toInt = 24 := by decide
      omega
theorem my_leneq {args : Array Value} {s : State} {tm : Term} {z : Int32} (h : (Cond.eq (.length tm) (.int z)).before args s = true) : (Term.length tm).eval args s none [] s = some (.int z) := by
  cases hv : (Term.length tm).eval args s none [] s with
  | none => simp [Cond.before, Cond.holds, Cond.value, hv] at h
  | some w =>
    have hz : (Term.int z).eval args s none [] s = some (.int z) := rfl
    simp only [Cond.before, Cond.holds, Cond.value, hv, hz] at h
    cases w <;> simp_all
theorem my_exref {args : Array Value} {s : State} {tm : Term} {nm : String} (h : (Cond.exactly tm nm).before args s = true) : ∃ t : Nat, tm.eval args s none [] s = some (.ref t) := by
  cases hv : tm.eval args s none [] s with
  | none => simp [Cond.before, Cond.holds, Cond.value, hv] at h
  | some w =>
    cases w with
    | ref t => exact ⟨t, rfl⟩
    | _ =>
      simp only [Cond.before, Cond.holds, Cond.value, hv] at h
      cases hf : s.vm.findClass nm <;> simp [hf] at h

def tkN : List String := ["CARRY", "STOP", "FARE", "HOLD", "FINE", "GAS", "DOCK", "CAR", "WAGON", "TAXI", "INSURED", "RIDERS", "SEATS", "RAIN", "MINUTE", "DAY", "FROM", "TO", "TIMES", "LESS", "EQUAL", "MORE", "NOT", "IF", "AND", "OR", "SEMICOLON", "OPEN", "CLOSE", "NUMBER", "END", "WRONG"]
abbrev tkrole : String × String × String × List Int32 := ("WalkingTown$Token", "role", "I", [0, 0, 1, 1, 1, 1, 1, 2, 2, 2, 2, 3, 3, 3, 3, 3, 3, 3, 3, 4, 4, 4, 5, 5, 5, 5, 5, 5, 5, 5, 5, 5])
abbrev tkcode : String × String × String × List Int32 := ("WalkingTown$Token", "code", "I", [0, 1, 2, 3, 4, 5, 6, 0, 1, 2, 3, 4, 5, 6, 7, 8, 9, 10, 11, 0, 1, 2, 0, 0, 0, 0, 0, 0, 0, 0, 0, 0])
def tkF : List (String × String × String × List Int32) := [tkrole, tkcode]
def tkA (ob ad tA : Nat → Nat) (sz : Nat) (U : State) : Prop := va_En RX6 "LWalkingTown$Token;" tkN tkF tA (aX ob ad sz) U U.heap
theorem tk_mv {ob ad tA : Nat → Nat} {sz : Nat} {u U : State} (hU : U.heap = u.heap) (hv : u.vm.Alike U.vm) (h : tkA ob ad tA sz u) : tkA ob ad tA sz U := by unfold tkA; rw [hU]; exact va_En.moved hv h
theorem tk_pass {ob ad tA : Nat → Nat} {s U : State} {H : Heap} {locs : List Loc} (h : tkA ob ad tA s.heap.size s) (hS : va_S (aX ob ad s.heap.size) s.heap H locs) (hU : U.heap = H) (hv : s.vm.Alike U.vm) : tkA ob ad tA H.size U := by unfold tkA; rw [hU]; exact ((va_En.kept h hS.2.1).narrow (aX_up hS)).moved hv
def tO (tA : Nat → Nat) (f : Nat → Option Nat) : Prop := ∀ i v, f i = some v → ∃ j, j < 32 ∧ v = tA j
theorem tO_w {tA : Nat → Nat} {wd wd1 : xT} (h : tO tA wd.2.1) (e : wd1.2 = wd.2) : tO tA wd1.2.1 := by rw [e]; exact h
theorem tO_up {tA : Nat → Nat} {f : Nat → Option Nat} {n j : Nat} (h : tO tA f) (hj : j < 32) : tO tA (va_up f n (some (tA j))) := by
  intro i v q
  by_cases e : i = n
  · simp [va_up, e] at q; exact ⟨j, hj, q.symm⟩
  · simp [va_up, e] at q; exact h i v q
theorem tk_role (j : Nat) : (0 : Int) ≤ (tkrole.2.2.2.getD j 0).toInt ∧ (tkrole.2.2.2.getD j 0).toInt ≤ 11 := by
  rcases Nat.lt_or_ge j 32 with h | h
  · revert j; decide +kernel
  · rw [List.getD_eq_getElem?_getD, List.getElem?_eq_none (by exact h)]; decide
theorem tk_code (j : Nat) : (0 : Int) ≤ (tkcode.2.2.2.getD j 0).toInt ∧ (tkcode.2.2.2.getD j 0).toInt ≤ 11 := by
  rcases Nat.lt_or_ge j 32 with h | h
  · revert j; decide +kernel
  · rw [List.getD_eq_getElem?_getD, List.getElem?_eq_none (by exact h)]; decide
set_option maxRecDepth 20000 in
theorem lT {p : Program} {l : Launch} {e : Env} {R : Room} {s : State} {m : MethodId} {args : Array Value} {below : List Frame} {meth : Method} {c : Code} {H : Heap} {locs : List Loc} {cells slots : Nat} {Q : State → Prop} {cc : ByteArray} {pc : Nat} {ls : Array Slot} {rest : List Value} {dC : Nat → ClassId} {dI : Nat → Nat → Nat} {ob ad : Nat → Nat} {cA : Nat → ClassId} {fv : Nat → Int32} {wd : xT} {ar : Nat → Nat → Int32}  (hx : p.tables.exec = Jvm.exec) (hb : c.code = cc) (hK : va_K (dC, dI) vwCl (tyX cA) s) (hP : va_P (dC, dI) vwCl (wsX ob ad cA fv wd ar) H) {i : Int32} (hi : vp_in i 301) (d : decode cc pc = .ok (.aaload, 1)) (kk : W p l e R s m args below meth c H locs cells slots Q (F0 m (pc + 1) ls (va_rf (wd.2.1 (Int32.toNatClampNeg i)) :: rest))) : W p l e R s m args below meth c H locs cells slots Q (F0 m pc ls (.int i :: .ref (ad 74) :: rest)) := va_aldq hx hb hK hP 85 73 rfl rfl hi d kk
theorem my_anyE {ob ad tA : Nat → Nat} {s : State} {H : Heap} {locs : List Loc} {j : Nat} (hE : tkA ob ad tA s.heap.size s) (hj : j < 32) (hS : va_S (aX ob ad s.heap.size) s.heap H locs) : va_Any RX6 s H (tA j) := by
  obtain ⟨cell, h1, h2, h3⟩ := va_recvE hE hj hS
  refine ⟨cell, h1, h2, ?_, fun comp hc => ?_⟩
  · obtain ⟨k9, h9, -⟩ := Vm.findClass_spec h3; exact ⟨k9, h9⟩
  · cases Option.some.inj (h3.symm.trans hc); exact va_asg _ _
set_option maxRecDepth 20000 in
theorem sT {p : Program} {l : Launch} {e : Env} {R : Room} {s : State} {m : MethodId} {args : Array Value} {below : List Frame} {meth : Method} {c : Code} {H : Heap} {locs : List Loc} {cells slots : Nat} {Q : State → Prop} {cc : ByteArray} {pc : Nat} {ls : Array Slot} {rest : List Value} {dC : Nat → ClassId} {dI : Nat → Nat → Nat} {ob ad : Nat → Nat} {cA : Nat → ClassId} {fv : Nat → Int32} {wd : xT} {ar : Nat → Nat → Int32}  (hx : p.tables.exec = Jvm.exec) (hb : c.code = cc) (hK : va_K (dC, dI) vwCl (tyX cA) s) (hP : va_P (dC, dI) vwCl (wsX ob ad cA fv wd ar) H) (hS : va_S (aX ob ad s.heap.size) s.heap H locs) (hd : dX ob ad) {tA : Nat → Nat} (hE : tkA ob ad tA s.heap.size s) {j : Nat} (hj : j < 32) {i : Int32} (hi : vp_in i 301) (d : decode cc pc = .ok (.aastore, 1)) (kk : ∀ (H : Heap) (locs : List Loc) (wd1 : xT), (wd1.2.2 = wd.2.2 ∧ (tO tA wd.2.1 → tO tA wd1.2.1)) → va_P (dC, dI) vwCl (wsX ob ad cA fv wd1 ar) H → va_S (aX ob ad s.heap.size) s.heap H locs → W p l e R s m args below meth c H locs cells slots Q (F0 m (pc + 1) ls rest)) : W p l e R s m args below meth c H locs cells slots Q (F0 m pc ls (.ref (tA j) :: .int i :: .ref (ad 74) :: rest)) := va_astqM hx hb hK hP (wsX_D hd s.heap.size cA fv wd ar) hS 85 73 rfl rfl (my_anyE hE hj hS) hi d (fun H locs hP _ hS => kk H locs (wd.1, va_up wd.2.1 i.toNatClampNeg (some (tA j)), wd.2.2) ⟨rfl, fun h => tO_up h hj⟩ hP hS)
theorem my_tw {p : Program} {l : Launch} {e : Env} {R : Room} {s : State} {m : MethodId} {args : Array Value} {below : List Frame} {meth : Method} {c : Code} {H : Heap} {locs : List Loc} {cells slots : Nat} {Q : State → Prop} {pc : Nat} {ls : Array Slot} {rest : List Value} {x w : Value} (h : x = w) (k : W p l e R s m args below meth c H locs cells slots Q (F0 m pc ls (w :: rest))) : W p l e R s m args below meth c H locs cells slots Q (F0 m pc ls (x :: rest)) := by subst h; exact k

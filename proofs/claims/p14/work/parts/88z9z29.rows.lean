def wt_rv (r : Int32) (g1 g : Nat → Int32) (n : Int32) (x : Int) : Prop := (r.toInt < 0 ∧ g1 = g) ∨ (0 ≤ r.toInt ∧ ∃ v : Int32, v.toInt = x ∧ g1 = upd g n.toInt.toNat v)
theorem wt_rv_det {r : Int32} {g1 g2 g : Nat → Int32} {n : Int32} {x : Int} (h1 : wt_rv r g1 g n x) (h2 : wt_rv r g2 g n x) : g1 = g2 := by
  rcases h1 with ⟨a9, b9⟩ | ⟨a9, v9, c9, b9⟩ <;> rcases h2 with ⟨a8, b8⟩ | ⟨a8, v8, c8, b8⟩
  · exact b9.trans b8.symm
  · omega
  · omega
  · rw [b9, b8, Int32.toInt_inj.mp (c9.trans c8.symm)]
def ps_give (r f1 fx v : Int32) : Prop := (r = -1 ∧ f1 = fx ∧ (v.toInt < 1 ∨ 100000 < v.toInt)) ∨ (r = f1 ∧ f1 = mo_cut (fx + v) ∧ ¬ (v.toInt < 1 ∨ 100000 < v.toInt))
theorem ps_give_det {r r2 f1 g1 fx v : Int32} (h1 : ps_give r f1 fx v) (h2 : ps_give r2 g1 fx v) : r = r2 ∧ f1 = g1 := by
  rcases h1 with ⟨a9, b9, c9⟩ | ⟨a9, b9, c9⟩ <;> rcases h2 with ⟨a8, b8, c8⟩ | ⟨a8, b8, c8⟩
  · exact ⟨a9.trans a8.symm, b9.trans b8.symm⟩
  · exact absurd c9 c8
  · exact absurd c8 c9
  · exact ⟨by rw [a9, a8, b9, b8], b9.trans b8.symm⟩
def mo_w4 (c : Int) (v0 v1 v2 v3 : Int32) : Int32 := if c = 0 then v0 else if c = 1 then v1 else if c = 2 then v2 else if c = 3 then v3 else -1
def mo_c8 (c : Int) (v0 v1 v2 v3 v4 v5 v6 v7 : Int32) : Int32 := if c = 0 then v0 else if c = 1 then v1 else if c = 2 then v2 else if c = 3 then v3 else if c = 4 then v4 else if c = 5 then v5 else if c = 6 then v6 else if c = 7 then v7 else -1
def mo_o7 (c : Int) (v0 v1 v2 v3 v4 v5 v6 : Int32) : Int32 := if c = 0 then v0 else if c = 1 then v1 else if c = 2 then v2 else if c = 3 then v3 else if c = 4 then v4 else if c = 5 then v5 else v6

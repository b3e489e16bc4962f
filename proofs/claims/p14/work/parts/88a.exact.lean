def ps_next (r f1 fx n : Int32) : Prop := (r = -1 ∧ f1 = fx ∧ (n.toInt < 0 ∨ 199 < n.toInt ∨ 199 < fx.toInt + n.toInt)) ∨ (r = fx + n ∧ f1 = fx + n ∧ ¬ (n.toInt < 0 ∨ 199 < n.toInt ∨ 199 < fx.toInt + n.toInt))
theorem ps_next_det {r f1 fx n r2 g1 : Int32} (hx : ps_next r f1 fx n) (hm : ps_next r2 g1 fx n) : r = r2 ∧ f1 = g1 := by
  rcases hx with ⟨a9, b9, c9⟩ | ⟨a9, b9, c9⟩ <;> rcases hm with ⟨a8, b8, c8⟩ | ⟨a8, b8, c8⟩
  · exact ⟨a9.trans a8.symm, b9.trans b8.symm⟩
  · exact absurd c9 c8
  · exact absurd c8 c9
  · exact ⟨a9.trans a8.symm, b9.trans b8.symm⟩
def ps_stop (r f1 fx v : Int32) : Prop := (r = -1 ∧ f1 = fx ∧ (v.toInt < 0 ∨ 11 < v.toInt ∨ 8 ≤ fx.toInt)) ∨ (r.toInt = fx.toInt ∧ f1.toInt = fx.toInt + 1 ∧ ¬ (v.toInt < 0 ∨ 11 < v.toInt ∨ 8 ≤ fx.toInt))
theorem ps_stop_det {r f1 fx v r2 g1 : Int32} (hx : ps_stop r f1 fx v) (hm : ps_stop r2 g1 fx v) : r = r2 ∧ f1 = g1 := by
  rcases hx with ⟨a9, b9, c9⟩ | ⟨a9, b9, c9⟩ <;> rcases hm with ⟨a8, b8, c8⟩ | ⟨a8, b8, c8⟩
  · exact ⟨a9.trans a8.symm, b9.trans b8.symm⟩
  · exact absurd c9 c8
  · exact absurd c8 c9
  · exact ⟨Int32.toInt_inj.mp (a9.trans a8.symm), Int32.toInt_inj.mp (b9.trans b8.symm)⟩
def ps_end (r f1 fx n : Int32) : Prop := (r = 0 ∧ f1 = fx ∧ (n.toInt < 0 ∨ fx.toInt < n.toInt)) ∨ (r = 1 ∧ f1 = n ∧ ¬ (n.toInt < 0 ∨ fx.toInt < n.toInt))
theorem ps_end_det {r f1 fx n r2 g1 : Int32} (hx : ps_end r f1 fx n) (hm : ps_end r2 g1 fx n) : r = r2 ∧ f1 = g1 := by
  rcases hx with ⟨a9, b9, c9⟩ | ⟨a9, b9, c9⟩ <;> rcases hm with ⟨a8, b8, c8⟩ | ⟨a8, b8, c8⟩
  · exact ⟨a9.trans a8.symm, b9.trans b8.symm⟩
  · exact absurd c9 c8
  · exact absurd c8 c9
  · exact ⟨a9.trans a8.symm, b9.trans b8.symm⟩
def ps_feed (r f1 fx : Int32) : Prop := (r = -1 ∧ f1 = fx ∧ 320 < fx.toInt) ∨ (r.toInt = f1.toInt ∧ f1.toInt = fx.toInt + 20 ∧ ¬ 320 < fx.toInt)
theorem ps_feed_det {r f1 fx r2 g1 : Int32} (hx : ps_feed r f1 fx) (hm : ps_feed r2 g1 fx) : r = r2 ∧ f1 = g1 := by
  rcases hx with ⟨a9, b9, c9⟩ | ⟨a9, b9, c9⟩ <;> rcases hm with ⟨a8, b8, c8⟩ | ⟨a8, b8, c8⟩
  · exact ⟨a9.trans a8.symm, b9.trans b8.symm⟩
  · exact absurd c9 c8
  · exact absurd c8 c9
  · have e9 := Int32.toInt_inj.mp (b9.trans b8.symm)
    exact ⟨Int32.toInt_inj.mp (by rw [a9, a8, e9]), e9⟩
def ps_street (r f1 fx a b v : Int32) : Prop := (r = 0 ∧ f1 = fx ∧ (30 ≤ fx.toInt ∨ a.toInt < 0 ∨ 11 < a.toInt ∨ b.toInt < 0 ∨ 11 < b.toInt ∨ a.toInt = b.toInt ∨ v.toInt < 1 ∨ 99 < v.toInt)) ∨ (r = 1 ∧ f1.toInt = fx.toInt + 1 ∧ ¬ (30 ≤ fx.toInt ∨ a.toInt < 0 ∨ 11 < a.toInt ∨ b.toInt < 0 ∨ 11 < b.toInt ∨ a.toInt = b.toInt ∨ v.toInt < 1 ∨ 99 < v.toInt))
theorem ps_street_det {r f1 fx a b v r2 g1 : Int32} (hx : ps_street r f1 fx a b v) (hm : ps_street r2 g1 fx a b v) : r = r2 ∧ f1 = g1 := by
  rcases hx with ⟨a9, b9, c9⟩ | ⟨a9, b9, c9⟩ <;> rcases hm with ⟨a8, b8, c8⟩ | ⟨a8, b8, c8⟩
  · exact ⟨a9.trans a8.symm, b9.trans b8.symm⟩
  · exact absurd c9 c8
  · exact absurd c8 c9
  · exact ⟨a9.trans a8.symm, Int32.toInt_inj.mp (b9.trans b8.symm)⟩
def ps_wheel (r f1 fx st a b v d : Int32) : Prop := (r = -1 ∧ f1 = fx ∧ (20 ≤ fx.toInt ∨ a.toInt < 0 ∨ 2 < a.toInt ∨ b.toInt < 0 ∨ st.toInt ≤ b.toInt ∨ v.toInt < 1 ∨ 9 < v.toInt ∨ d.toInt < -1 ∨ 199 < d.toInt)) ∨ (r.toInt = fx.toInt ∧ f1.toInt = fx.toInt + 1 ∧ ¬ (20 ≤ fx.toInt ∨ a.toInt < 0 ∨ 2 < a.toInt ∨ b.toInt < 0 ∨ st.toInt ≤ b.toInt ∨ v.toInt < 1 ∨ 9 < v.toInt ∨ d.toInt < -1 ∨ 199 < d.toInt))
theorem ps_wheel_det {r f1 fx st a b v d r2 g1 : Int32} (hx : ps_wheel r f1 fx st a b v d) (hm : ps_wheel r2 g1 fx st a b v d) : r = r2 ∧ f1 = g1 := by
  rcases hx with ⟨a9, b9, c9⟩ | ⟨a9, b9, c9⟩ <;> rcases hm with ⟨a8, b8, c8⟩ | ⟨a8, b8, c8⟩
  · exact ⟨a9.trans a8.symm, b9.trans b8.symm⟩
  · exact absurd c9 c8
  · exact absurd c8 c9
  · exact ⟨Int32.toInt_inj.mp (a9.trans a8.symm), Int32.toInt_inj.mp (b9.trans b8.symm)⟩
def ps_insure (r wh a b : Int32) : Prop := (r = 0 ∧ (a.toInt < 0 ∨ wh.toInt ≤ a.toInt ∨ b.toInt < -1 ∨ 199 < b.toInt)) ∨ (r = 1 ∧ ¬ (a.toInt < 0 ∨ wh.toInt ≤ a.toInt ∨ b.toInt < -1 ∨ 199 < b.toInt))
theorem ps_insure_det {r wh a b r2 : Int32} (hx : ps_insure r wh a b) (hm : ps_insure r2 wh a b) : r = r2 := by
  rcases hx with ⟨a9, c9⟩ | ⟨a9, c9⟩ <;> rcases hm with ⟨a8, c8⟩ | ⟨a8, c8⟩
  · exact a9.trans a8.symm
  · exact absurd c9 c8
  · exact absurd c8 c9
  · exact a9.trans a8.symm
def ps_trip (r f1 fx wh st td a b v d f g : Int32) : Prop := (r = -1 ∧ f1 = fx ∧ (80 ≤ fx.toInt ∨ a.toInt < 0 ∨ wh.toInt ≤ a.toInt ∨ b.toInt < 0 ∨ st.toInt ≤ b.toInt ∨ v.toInt < 0 ∨ st.toInt ≤ v.toInt ∨ b.toInt = v.toInt ∨ d.toInt < 0 ∨ 719 < d.toInt ∨ f.toInt < td.toInt ∨ 199 < f.toInt ∨ g.toInt < f.toInt ∨ 199 < g.toInt)) ∨ (r.toInt = fx.toInt ∧ f1.toInt = fx.toInt + 1 ∧ ¬ (80 ≤ fx.toInt ∨ a.toInt < 0 ∨ wh.toInt ≤ a.toInt ∨ b.toInt < 0 ∨ st.toInt ≤ b.toInt ∨ v.toInt < 0 ∨ st.toInt ≤ v.toInt ∨ b.toInt = v.toInt ∨ d.toInt < 0 ∨ 719 < d.toInt ∨ f.toInt < td.toInt ∨ 199 < f.toInt ∨ g.toInt < f.toInt ∨ 199 < g.toInt))
theorem ps_trip_det {r f1 fx wh st td a b v d f g r2 g1 : Int32} (hx : ps_trip r f1 fx wh st td a b v d f g) (hm : ps_trip r2 g1 fx wh st td a b v d f g) : r = r2 ∧ f1 = g1 := by
  rcases hx with ⟨a9, b9, c9⟩ | ⟨a9, b9, c9⟩ <;> rcases hm with ⟨a8, b8, c8⟩ | ⟨a8, b8, c8⟩
  · exact ⟨a9.trans a8.symm, b9.trans b8.symm⟩
  · exact absurd c9 c8
  · exact absurd c8 c9
  · exact ⟨Int32.toInt_inj.mp (a9.trans a8.symm), Int32.toInt_inj.mp (b9.trans b8.symm)⟩

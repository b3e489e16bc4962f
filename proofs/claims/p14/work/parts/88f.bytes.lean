def wt_up (u : Nat → Nat → Int32) (j : Nat) (g : Nat → Int32) : Nat → Nat → Int32 := fun i => if i = j then g else u i
def wt_tp4 (g : Nat → Int32) (n : Nat) (b3 b2 b1 b0 : Int32) : Nat → Int32 := upd (upd (upd (upd g n b3) (n + 1) b2) (n + 2) b1) (n + 3) b0
def wt_tpw (g : Nat → Int32) (n : Nat) (a : Int32) : Nat → Int32 := wt_tp4 g n ((a >>> ((24 : Int32) &&& 31)) &&& 255) ((a >>> ((16 : Int32) &&& 31)) &&& 255) ((a >>> ((8 : Int32) &&& 31)) &&& 255) ((a >>> ((0 : Int32) &&& 31)) &&& 255)
def wt_tpF (g : Nat → Int32) (n : Nat) (a b v d f : Int32) : Nat → Int32 := wt_tpw (wt_tpw (wt_tpw (wt_tpw (wt_tpw g n a) (n + 4) b) (n + 8) v) (n + 12) d) (n + 16) f
def wt_tpU (g1 g : Nat → Int32) (fx a b v d f : Int32) : Prop := (320 < fx.toInt ∧ g1 = g) ∨ (¬ 320 < fx.toInt ∧ g1 = wt_tpF g fx.toInt.toNat a b v d f)
theorem wt_tpU_det {g1 g2 g : Nat → Int32} {fx a b v d f : Int32} (h1 : wt_tpU g1 g fx a b v d f) (h2 : wt_tpU g2 g fx a b v d f) : g1 = g2 := by
  rcases h1 with ⟨a9, b9⟩ | ⟨a9, b9⟩ <;> rcases h2 with ⟨a8, b8⟩ | ⟨a8, b8⟩
  · exact b9.trans b8.symm
  · exact absurd a9 a8
  · exact absurd a8 a9
  · exact b9.trans b8.symm
theorem wt_bv (x : BitVec 32) (k : Nat) (hk : k ≤ 24) : (x >>> k) &&& 255#32 = (x.sshiftRight k) &&& 255#32 := by
  apply BitVec.eq_of_getLsbD_eq
  intro i hi
  simp only [BitVec.getLsbD_and, BitVec.getLsbD_ushiftRight, BitVec.getLsbD_sshiftRight]
  by_cases h8 : i < 8
  · have h1 : ¬ (32 ≤ i) := by omega
    have h2 : k + i < 32 := by omega
    simp [h1, h2]
  · have h3 : (255#32).getLsbD i = false := by
      have h4 : ∀ j, j < 32 → ¬ j < 8 → (255#32).getLsbD j = false := by decide
      exact h4 i hi h8
    rw [h3, Bool.and_false, Bool.and_false]
theorem wt_by24 (a : Int32) : ((a.toUInt32 >>> (Int32.toUInt32 24 &&& Int32.toUInt32 31)).toInt32 &&& 255) = ((a >>> ((24 : Int32) &&& 31)) &&& 255) := Int32.toBitVec_inj.mp (wt_bv a.toBitVec 24 (by decide))
theorem wt_by16 (a : Int32) : ((a.toUInt32 >>> (Int32.toUInt32 16 &&& Int32.toUInt32 31)).toInt32 &&& 255) = ((a >>> ((16 : Int32) &&& 31)) &&& 255) := Int32.toBitVec_inj.mp (wt_bv a.toBitVec 16 (by decide))
theorem wt_by8 (a : Int32) : ((a.toUInt32 >>> (Int32.toUInt32 8 &&& Int32.toUInt32 31)).toInt32 &&& 255) = ((a >>> ((8 : Int32) &&& 31)) &&& 255) := Int32.toBitVec_inj.mp (wt_bv a.toBitVec 8 (by decide))
theorem wt_by0 (a : Int32) : ((a.toUInt32 >>> (Int32.toUInt32 0 &&& Int32.toUInt32 31)).toInt32 &&& 255) = ((a >>> ((0 : Int32) &&& 31)) &&& 255) := Int32.toBitVec_inj.mp (wt_bv a.toBitVec 0 (by decide))
theorem wt_tpwM (g : Nat → Int32) (n : Nat) (a : Int32) : wt_tp4 g n ((a.toUInt32 >>> (Int32.toUInt32 24 &&& Int32.toUInt32 31)).toInt32 &&& 255) ((a.toUInt32 >>> (Int32.toUInt32 16 &&& Int32.toUInt32 31)).toInt32 &&& 255) ((a.toUInt32 >>> (Int32.toUInt32 8 &&& Int32.toUInt32 31)).toInt32 &&& 255) ((a.toUInt32 >>> (Int32.toUInt32 0 &&& Int32.toUInt32 31)).toInt32 &&& 255) = wt_tpw g n a := by
  rw [wt_by24, wt_by16, wt_by8, wt_by0]; rfl
def wt_pr (g : Nat → Int32) (k : Nat) : Int := 256 * (g (2 * k)).toInt + (g (2 * k + 1)).toInt
def wt_person (r f1 fx tp : Int32) (g : Nat → Int32) (h w c : Int32) : Prop := (r = -1 ∧ f1 = fx ∧ (40 ≤ fx.toInt ∨ h.toInt < 0 ∨ 11 < h.toInt ∨ w.toInt < 0 ∨ 11 < w.toInt ∨ c.toInt < 0 ∨ 9999 < c.toInt ∨ ¬ tp.toInt = 12 ∨ 600 < wt_pr g 0 ∨ 719 < wt_pr g 1 ∨ wt_pr g 2 < 10 ∨ 99 < wt_pr g 2 ∨ 9 < wt_pr g 3 ∨ 10000 < wt_pr g 4 ∨ 9 < wt_pr g 5)) ∨ (r.toInt = fx.toInt ∧ f1.toInt = fx.toInt + 1 ∧ ¬ (40 ≤ fx.toInt ∨ h.toInt < 0 ∨ 11 < h.toInt ∨ w.toInt < 0 ∨ 11 < w.toInt ∨ c.toInt < 0 ∨ 9999 < c.toInt ∨ ¬ tp.toInt = 12 ∨ 600 < wt_pr g 0 ∨ 719 < wt_pr g 1 ∨ wt_pr g 2 < 10 ∨ 99 < wt_pr g 2 ∨ 9 < wt_pr g 3 ∨ 10000 < wt_pr g 4 ∨ 9 < wt_pr g 5))
theorem wt_person_det {r r2 f1 g1 fx tp : Int32} {g : Nat → Int32} {h w c : Int32} (hx : wt_person r f1 fx tp g h w c) (hm : wt_person r2 g1 fx tp g h w c) : r = r2 ∧ f1 = g1 := by
  rcases hx with ⟨a9, b9, c9⟩ | ⟨a9, b9, c9⟩ <;> rcases hm with ⟨a8, b8, c8⟩ | ⟨a8, b8, c8⟩
  · exact ⟨a9.trans a8.symm, b9.trans b8.symm⟩
  · exact absurd c9 c8
  · exact absurd c8 c9
  · exact ⟨Int32.toInt_inj.mp (a9.trans a8.symm), Int32.toInt_inj.mp (b9.trans b8.symm)⟩
def wt_ok (n : Int) (g : Nat → Int32) : Prop := 1 ≤ n ∧ n ≤ 200 ∧ ∀ j : Nat, (j : Int) < n → (g j).toInt ≤ 9 ∨ (g j).toInt = 255
def wt_rn : Nat → (Nat → Int32) → (Nat → Int32) → Nat → Int32
  | 0, d, _ => d
  | n + 1, d, t => upd (wt_rn n d t) n (if (t n).toInt = 255 then (if n = 0 then 0 else wt_rn n d t (n - 1)) else t n)
theorem wt_rs {d t g g1 : Nat → Int32} {n : Nat} {x : Int32} (h : g = wt_rn n d t) (e : g1 = upd g n x) (hv : ((t n).toInt = 255 ∧ n = 0 ∧ x = 0) ∨ ((t n).toInt = 255 ∧ ¬ n = 0 ∧ x = g (n - 1)) ∨ (¬ (t n).toInt = 255 ∧ x = t n)) : g1 = wt_rn (n + 1) d t := by
  have h1 : wt_rn (n + 1) d t = upd (wt_rn n d t) n (if (t n).toInt = 255 then (if n = 0 then 0 else wt_rn n d t (n - 1)) else t n) := rfl
  rw [h1, e, ← h]
  rcases hv with ⟨a9, b9, c9⟩ | ⟨a9, b9, c9⟩ | ⟨a9, c9⟩
  · rw [if_pos a9, if_pos b9, c9]
  · rw [if_pos a9, if_neg b9, c9]
  · rw [if_neg a9, c9]
def wt_rain (r w1 w0 tp : Int32) (d1 d0 t : Nat → Int32) : Prop := (r = 0 ∧ w1 = w0 ∧ d1 = d0 ∧ ¬ wt_ok tp.toInt t) ∨ (r = 1 ∧ w1 = tp ∧ d1 = wt_rn tp.toInt.toNat d0 t ∧ wt_ok tp.toInt t)
theorem wt_rain_det {r r2 w1 w2 w0 tp : Int32} {d1 d2 d0 t : Nat → Int32} (hx : wt_rain r w1 w0 tp d1 d0 t) (hm : wt_rain r2 w2 w0 tp d2 d0 t) : r = r2 ∧ w1 = w2 ∧ d1 = d2 := by
  rcases hx with ⟨a9, b9, c9, e9⟩ | ⟨a9, b9, c9, e9⟩ <;> rcases hm with ⟨a8, b8, c8, e8⟩ | ⟨a8, b8, c8, e8⟩
  · exact ⟨a9.trans a8.symm, b9.trans b8.symm, c9.trans c8.symm⟩
  · exact absurd e8 e9
  · exact absurd e9 e8
  · exact ⟨a9.trans a8.symm, b9.trans b8.symm, c9.trans c8.symm⟩
def wt_on (r d w : Int32) (g : Nat → Int32) : Prop := (w.toInt = 0 ∧ r = 0) ∨ (¬ w.toInt = 0 ∧ d.toInt < w.toInt ∧ r = g d.toInt.toNat) ∨ (¬ w.toInt = 0 ∧ w.toInt ≤ d.toInt ∧ r = 9)
def wt_wet (r d w : Int32) (g : Nat → Int32) : Prop := ((d.toInt < 0 ∨ 199 < d.toInt) ∧ r = -1) ∨ (¬ (d.toInt < 0 ∨ 199 < d.toInt) ∧ wt_on r d w g)

theorem rg_ru {r : Int32} {g1 g : Nat → Int32} {n x : Int32} {lo hi : Int} (h : ∀ i, lo ≤ (g i).toInt ∧ (g i).toInt ≤ hi) (hu : wt_ru r g1 g n x) (hx : 0 ≤ r.toInt → lo ≤ x.toInt ∧ x.toInt ≤ hi) : ∀ i, lo ≤ (g1 i).toInt ∧ (g1 i).toInt ≤ hi := by
  rcases hu with ⟨_, e⟩ | ⟨h0, e⟩
  · rw [e]; exact h
  · intro i
    rw [e]
    show lo ≤ ((if i = n.toInt.toNat then x else g i)).toInt ∧ ((if i = n.toInt.toNat then x else g i)).toInt ≤ hi
    by_cases q : i = n.toInt.toNat
    · rw [if_pos q]; exact hx h0
    · rw [if_neg q]; exact h i
theorem rg_rv {r : Int32} {g1 g : Nat → Int32} {n : Int32} {x lo hi : Int} (h : ∀ i, lo ≤ (g i).toInt ∧ (g i).toInt ≤ hi) (hu : wt_rv r g1 g n x) (hx : 0 ≤ r.toInt → lo ≤ x ∧ x ≤ hi) : ∀ i, lo ≤ (g1 i).toInt ∧ (g1 i).toInt ≤ hi := by
  rcases hu with ⟨_, e⟩ | ⟨h0, v, hv, e⟩
  · rw [e]; exact h
  · intro i
    rw [e]
    show lo ≤ ((if i = n.toInt.toNat then v else g i)).toInt ∧ ((if i = n.toInt.toNat then v else g i)).toInt ≤ hi
    by_cases q : i = n.toInt.toNat
    · rw [if_pos q, hv]; exact hx h0
    · rw [if_neg q]; exact h i
def mx_rg (fv : Nat → Int32) (ar : Nat → Nat → Int32) : Prop := (∀ i, 0 ≤ (ar 31 i).toInt ∧ (ar 31 i).toInt ≤ 719) ∧ (∀ i, 0 ≤ (ar 10 i).toInt ∧ (ar 10 i).toInt ≤ 719) ∧ (∀ i, 0 ≤ (ar 11 i).toInt ∧ (ar 11 i).toInt ≤ 99) ∧ (∀ i, 0 ≤ (ar 34 i).toInt ∧ (ar 34 i).toInt ≤ 199) ∧ (∀ i, 0 ≤ (ar 14 i).toInt ∧ (ar 14 i).toInt ≤ 9) ∧ (∀ i, 0 ≤ (ar 9 i).toInt ∧ (ar 9 i).toInt ≤ 600) ∧ (∀ i, 0 ≤ (ar 12 i).toInt ∧ (ar 12 i).toInt ≤ 9) ∧ (∀ i, 0 ≤ (ar 3 i).toInt ∧ (ar 3 i).toInt ≤ 9) ∧ ∀ k : Nat, (k : Int) < (fv 12).toInt → 0 ≤ (ar 28 k).toInt ∧ (ar 28 k).toInt < (fv 11).toInt
theorem mx_rg_fr {M N : List Nat} {f f1 : Nat → Int32} {a a1 : Nat → Nat → Int32} (h : mx_rg f a) (hf : fM M f f1) (ha : fA N a a1) (hM : ([11, 12] : List Nat).all (fun k => !M.contains k) = true) (hN : ([31, 10, 11, 34, 14, 9, 12, 3, 28] : List Nat).all (fun k => !N.contains k) = true) : mx_rg f1 a1 := by
  unfold mx_rg
  rw [hf 11 (mm_nin hM (by decide)), hf 12 (mm_nin hM (by decide)), ha 31 (mm_nin hN (by decide)), ha 10 (mm_nin hN (by decide)), ha 11 (mm_nin hN (by decide)), ha 34 (mm_nin hN (by decide)), ha 14 (mm_nin hN (by decide)), ha 9 (mm_nin hN (by decide)), ha 12 (mm_nin hN (by decide)), ha 3 (mm_nin hN (by decide)), ha 28 (mm_nin hN (by decide))]
  exact h
theorem mx_R_of {fv : Nat → Int32} {ar : Nat → Nat → Int32} (h : mx_rg fv ar) (h2 : ∀ i, 0 ≤ (ar 2 i).toInt ∧ (ar 2 i).toInt ≤ 11) (h6 : ∀ i, 0 ≤ (ar 6 i).toInt ∧ (ar 6 i).toInt ≤ 11) (h7 : ∀ i, 0 ≤ (ar 7 i).toInt ∧ (ar 7 i).toInt ≤ 11) (hG : mo_GR (mx_G ar)) : mx_R fv ar := by
  obtain ⟨a1, a2, a3, a4, a5, _, _, a8, _⟩ := h
  refine ⟨⟨h2, h7, a1, h6, a3, a2, ?_⟩, hG, a4, a5⟩
  show 0 ≤ (mx_rn fv ar).toInt ∧ (mx_rn fv ar).toInt ≤ 9
  unfold mx_rn
  split
  · decide
  · split
    · exact a8 _
    · decide
theorem mx_wh_of {fv : Nat → Int32} {ar : Nat → Nat → Int32} (h : mx_rg fv ar) : mo_wh (mx_D fv ar) := by
  intro k hk
  have hk2 : k < (fv 12).toInt.toNat := hk
  exact h.2.2.2.2.2.2.2.2 k (by omega)
theorem wt_cn_b (f : Nat → Nat) (v : Nat) : ∀ n, wt_cn f v n ≤ n
  | 0 => Nat.le_refl _
  | n + 1 => by
    have h := wt_cn_b f v n
    show wt_cn f v n + (if f n = v then 1 else 0) ≤ n + 1
    split <;> omega
theorem wt_S_GR {G : Nat → Int} {f : Nat → Nat} (h : wt_S G f) : mo_GR G := by
  intro i hi
  have h1 := h (i / 12) (i % 12) (by omega) (by omega)
  rw [show 12 * (i / 12) + i % 12 = i from by omega] at h1
  have hc := wt_cn_b f (f (i / 12)) 12
  by_cases q : f (i / 12) = f (i % 12)
  · have h2 := h1.1 q
    exact ⟨h2.1, Or.inl (by omega)⟩
  · have h2 := h1.2 q
    exact ⟨by omega, Or.inr h2⟩

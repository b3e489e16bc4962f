def cd_DV (n : Int) (D : Nat → Int32 × List (Int × Int × List (Nat × Nat × Int))) : Prop := ∀ i : Nat, (i : Int) < n → ∃ (b : Nat → Int) (k : Nat), (D i).2 = cd_txt (rd_T b k) (rd_N b k)
theorem cd_DV_up {n n1 : Int} {D : Nat → Int32 × List (Int × Int × List (Nat × Nat × Int))} {a : Int32} {b : Nat → Int} {k : Nat} (h : cd_DV n D) (hn : n1 = n ∨ n1 = n + 1) (h0 : 0 ≤ n) : cd_DV n1 (cd_up D n n1 (a, cd_txt (rd_T b k) (rd_N b k))) := by
  intro i hi
  unfold cd_up
  by_cases q : n1 = n + 1 ∧ i = n.toNat
  · rw [if_pos q]; exact ⟨b, k, rfl⟩
  · rw [if_neg q]; exact h i (by omega)
theorem cd_DV_vl {n : Int} {D : Nat → Int32 × List (Int × Int × List (Nat × Nat × Int))} (h : cd_DV n D) {i : Nat} (hi : (i : Int) < n) : ∀ l ∈ (D i).2, cd_vl l := by
  obtain ⟨b, k, e⟩ := h i hi
  rw [e]
  exact cd_txt_vl (fun q _ => rd_N_nn b k q)
theorem cd_DV_dk {n : Int} {D : Nat → Int32 × List (Int × Int × List (Nat × Nat × Int))} (h : cd_DV n D) {i : Nat} (hi : (i : Int) < n) (F : Nat → Int) : cd_fv F 6 (D i).2 = cd_dk (D i).2 := by
  obtain ⟨b, k, e⟩ := h i hi
  rw [e]
  exact cd_txt_dk F
theorem cd_DV_W {n td : Int} {D : Nat → Int32 × List (Int × Int × List (Nat × Nat × Int))} (h : cd_DV n D) (h0 : 0 ≤ n) : ∀ l ∈ cd_WD D td n.toNat, cd_vl l := by
  intro l hl
  unfold cd_WD at hl
  have hle := cd_nw_le (fun i => (D (i - 1)).1.toInt) td n.toNat
  by_cases q : (cd_nw (fun i => (D (i - 1)).1.toInt) td n.toNat).1 = 0
  · rw [if_pos q] at hl; exact absurd hl List.not_mem_nil
  · rw [if_neg q] at hl
    exact cd_DV_vl h (by omega) l hl
theorem cd_DV_HA {n td : Int} {D : Nat → Int32 × List (Int × Int × List (Nat × Nat × Int))} (h : cd_DV n D) (h0 : 0 ≤ n) (D1 : Nat → Nat → Int32) : mo_HA D1 (mo_A D1 (cd_WD D td n.toNat)) := fun t k ti => mo_A3 (cd_DV_W h h0) D1 t k ti
theorem cd_DV_hAs {gfr : Nat → Int32} {gln : Nat → Nat} {glr : Nat → Nat → Nat → Int32} {n : Int} {D : Nat → Int32 × List (Int × Int × List (Nat × Nat × Int))} (hx : cd_DX gfr gln glr n D) (hv : cd_DV n D) : ∀ i : Nat, (i : Int) ≤ n → ∀ (D1 : Nat → Nat → Int32) (t : Nat) (k ti : Int), 0 ≤ (mo_A D1 (cd_Wf (cd_gX (glr i)) (gln i) 0) t 3 k ti).toInt := by
  intro i hi D1 t k ti
  refine (mo_A3 ?_ D1 t k ti).1
  cases i with
  | zero =>
    rw [hx.1]
    intro l hl
    exact absurd hl List.not_mem_nil
  | succ i =>
    rw [(hx.2 i (by omega)).2.1]
    exact cd_DV_vl hv (by omega)
theorem cd_DV_L {gfr : Nat → Int32} {gln : Nat → Nat} {glr : Nat → Nat → Nat → Int32} {n : Int} {D : Nat → Int32 × List (Int × Int × List (Nat × Nat × Int))} {gv : Nat → Int32} {gr : Nat → Nat → Int32} (hx : cd_DX gfr gln glr n D) (e : n = (gv 58).toInt) (hd : cd_DMM gr (gv 58).toInt D) (hv : cd_DV n D) : mm_L gv gr := by
  refine ⟨fun b hb l hl => ⟨cd_DM_gd hx e hd b hb l hl, ?_⟩, cd_DM_fd hx e hd⟩
  rw [(hd b hb).2.1] at hl
  exact (cd_DV_vl hv (by omega) l hl).1
theorem cd_DV_dock {n : Int} {D : Nat → Int32 × List (Int × Int × List (Nat × Nat × Int))} {gv : Nat → Int32} {gr : Nat → Nat → Int32} (e : n = (gv 58).toInt) (h0 : 0 ≤ n) (hd : cd_DMM gr n D) (hv : cd_DV n D) (F : Nat → Int) : mo_dkv F (cd_WD D (gv 3).toInt n.toNat) = mm_dk gv gr := by
  have e1 : cd_nw (fun i => (gr 49 (i - 1)).toInt) (gv 3).toInt n.toNat = cd_nw (fun i => (D (i - 1)).1.toInt) (gv 3).toInt n.toNat := cd_nw_eq _ (fun i hi => by
    show (gr 49 (i + 1 - 1)).toInt = (D (i + 1 - 1)).1.toInt
    rw [Nat.add_sub_cancel, (hd i (by omega)).1])
  unfold mm_dk cd_WD mo_dkv
  rw [← e, e1]
  have hle := cd_nw_le (fun i => (D (i - 1)).1.toInt) (gv 3).toInt n.toNat
  generalize (cd_nw (fun i => (D (i - 1)).1.toInt) (gv 3).toInt n.toNat).1 = z at hle ⊢
  cases z with
  | zero => rw [if_pos rfl, if_pos rfl]; rfl
  | succ z =>
    rw [if_neg (by omega), if_neg (by omega), Nat.add_sub_cancel, cd_DV_dk hv (by omega) F, ← (hd z (by omega)).2.2]
    exact Int32.ofInt_toInt _
theorem cd_WM_m {gv : Nat → Int32} {gr : Nat → Nat → Int32} {D : Nat → Int32 × List (Int × Int × List (Nat × Nat × Int))} (hd : cd_DMM gr (gv 58).toInt D) (h0 : 0 ≤ (gv 58).toInt) : mm_W gv gr = cd_WD D (gv 3).toInt (gv 58).toInt.toNat := cd_WM hd h0

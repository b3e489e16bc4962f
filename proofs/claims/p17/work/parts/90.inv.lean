-- the law's data: what both sides keep of the laws told (day and lines of each)
def cd_up (D : Nat → Int32 × List (Int × Int × List (Nat × Nat × Int))) (n n1 : Int) (x : Int32 × List (Int × Int × List (Nat × Nat × Int))) (i : Nat) : Int32 × List (Int × Int × List (Nat × Nat × Int)) := if n1 = n + 1 ∧ i = n.toNat then x else D i
def cd_DX (gfr : Nat → Int32) (gln : Nat → Nat) (glr : Nat → Nat → Nat → Int32) (n : Int) (D : Nat → Int32 × List (Int × Int × List (Nat × Nat × Int))) : Prop := gln 0 = 0 ∧ ∀ i : Nat, (i : Int) < n → gfr (i + 1) = (D i).1 ∧ cd_Wf (cd_gX (glr (i + 1))) (gln (i + 1)) 0 = (D i).2 ∧ (∀ l ∈ (D i).2, cd_gd l) ∧ 0 ≤ (D i).1.toInt
def cd_DMM (a : Nat → Nat → Int32) (n : Int) (D : Nat → Int32 × List (Int × Int × List (Nat × Nat × Int))) : Prop := ∀ i : Nat, (i : Int) < n → a 49 i = (D i).1 ∧ cd_LM a i = (D i).2 ∧ (a 48 i).toInt = cd_dk (D i).2
theorem cd_DX_up {n n1 : Int} {gfr gfr9 : Nat → Int32} {gln gln9 : Nat → Nat} {glr glr9 : Nat → Nat → Nat → Int32} {a : Int32} {T : List (Int × Int × List (Nat × Nat × Int))} {D : Nat → Int32 × List (Int × Int × List (Nat × Nat × Int))} (hb : cd_bX n n1 gfr gfr9 gln gln9 glr glr9 a T) (h0 : 0 ≤ n) (ha : n1 = n + 1 → 0 ≤ a.toInt) (hd : cd_DX gfr gln glr n D) : cd_DX gfr9 gln9 glr9 n1 (cd_up D n n1 (a, T)) := by
  obtain ⟨hold, hnew⟩ := hb
  refine ⟨by rw [(hold 0 (by omega)).2.1]; exact hd.1, fun i hi => ?_⟩
  unfold cd_up
  by_cases q : n1 = n + 1 ∧ i = n.toNat
  · rw [if_pos q]
    rcases hnew with w | ⟨w1, w2, w3, w4⟩
    · exfalso; omega
    · have e : n1.toNat = i + 1 := by omega
      rw [e] at w2 w3
      exact ⟨w2, w3, w4, ha w1⟩
  · rw [if_neg q]
    have hi2 : (i : Int) < n := by
      rcases hnew with w | ⟨w1, w2, w3, w4⟩
      · omega
      · omega
    have ho := hold (i + 1) (by omega)
    have hh := hd.2 i hi2
    rw [ho.1, ho.2.1, ho.2.2]
    exact hh
theorem cd_DMM_up {n n1 : Int} {a a1 : Nat → Nat → Int32} {d : Int32} {T : List (Int × Int × List (Nat × Nat × Int))} {D : Nat → Int32 × List (Int × Int × List (Nat × Nat × Int))} (hb : cd_bM n n1 a a1 d T) (h0 : 0 ≤ n) (hd : cd_DMM a n D) : cd_DMM a1 n1 (cd_up D n n1 (d, T)) := by
  obtain ⟨hold, hnew⟩ := hb
  intro i hi
  unfold cd_up
  by_cases q : n1 = n + 1 ∧ i = n.toNat
  · rw [if_pos q]
    rcases hnew with w | ⟨w1, w2, w3, w4⟩
    · exfalso; omega
    · rw [← q.2] at w2 w3 w4
      exact ⟨w4, w2, w3⟩
  · rw [if_neg q]
    have hi2 : (i : Int) < n := by
      rcases hnew with w | ⟨w1, w2, w3, w4⟩
      · omega
      · omega
    have ho := hold i hi2
    have hh := hd i hi2
    rw [ho.1, ho.2.1, ho.2.2]
    exact hh
theorem cd_DMM_fr {a a1 : Nat → Nat → Int32} {n : Int} {D : Nat → Int32 × List (Int × Int × List (Nat × Nat × Int))} (h47 : a1 47 = a 47) (h48 : a1 48 = a 48) (h49 : a1 49 = a 49) (h50 : a1 50 = a 50) (h51 : a1 51 = a 51) (h52 : a1 52 = a 52) (h53 : a1 53 = a 53) (h54 : a1 54 = a 54) (h55 : a1 55 = a 55) (h56 : a1 56 = a 56) (h : cd_DMM a n D) : cd_DMM a1 n D := by
  intro i hi
  have e : cd_LM a1 i = cd_LM a i := by
    unfold cd_LM
    rw [h47]
    refine cd_Wf_eq _ _ (fun j _ _ => ?_)
    unfold cd_gM
    rw [h50, h51, h52, h53, h54, h55, h56]
  have hh := h i hi
  rw [h49, e, h48]
  exact hh
def cd_WD (D : Nat → Int32 × List (Int × Int × List (Nat × Nat × Int))) (td : Int) (n : Nat) : List (Int × Int × List (Nat × Nat × Int)) := if (cd_nw (fun i => (D (i - 1)).1.toInt) td n).1 = 0 then [] else (D ((cd_nw (fun i => (D (i - 1)).1.toInt) td n).1 - 1)).2
theorem cd_nw_eq {f g : Nat → Int} {td : Int} : ∀ n : Nat, (∀ i, i < n → f (i + 1) = g (i + 1)) → cd_nw f td n = cd_nw g td n := by
  intro n
  induction n with
  | zero => intro _; rfl
  | succ n ih =>
    intro h
    have e := ih (fun i hi => h i (by omega))
    have e1 := h n (by omega)
    show (if f (n + 1) ≤ td ∧ (cd_nw f td n).2 ≤ f (n + 1) then (n + 1, f (n + 1)) else cd_nw f td n) = (if g (n + 1) ≤ td ∧ (cd_nw g td n).2 ≤ g (n + 1) then (n + 1, g (n + 1)) else cd_nw g td n)
    rw [e, e1]
theorem cd_WX {gfr : Nat → Int32} {gln : Nat → Nat} {glr : Nat → Nat → Nat → Int32} {n td : Int} {D : Nat → Int32 × List (Int × Int × List (Nat × Nat × Int))} (hd : cd_DX gfr gln glr n D) (h0 : 0 ≤ n) : cd_Wf (cd_gX (glr ((cd_nw (fun i => (gfr i).toInt) td (n.toNat)).1))) (gln ((cd_nw (fun i => (gfr i).toInt) td (n.toNat)).1)) 0 = cd_WD D td (n.toNat) := by
  have e : cd_nw (fun i => (gfr i).toInt) td n.toNat = cd_nw (fun i => (D (i - 1)).1.toInt) td n.toNat := cd_nw_eq _ (fun i hi => by
    show (gfr (i + 1)).toInt = (D (i + 1 - 1)).1.toInt
    rw [Nat.add_sub_cancel, (hd.2 i (by omega)).1])
  unfold cd_WD
  rw [e]
  have hle := cd_nw_le (fun i => (D (i - 1)).1.toInt) td n.toNat
  generalize (cd_nw (fun i => (D (i - 1)).1.toInt) td n.toNat).1 = z at hle ⊢
  cases z with
  | zero => rw [if_pos rfl, hd.1]; rfl
  | succ z => rw [if_neg (by omega), Nat.add_sub_cancel, (hd.2 z (by omega)).2.1]
theorem cd_WM {a : Nat → Nat → Int32} {n td : Int} {D : Nat → Int32 × List (Int × Int × List (Nat × Nat × Int))} (hd : cd_DMM a n D) (h0 : 0 ≤ n) : (if ((cd_nw (fun i => (a 49 (i - 1)).toInt) td (n.toNat)).1) = 0 then [] else cd_LM a (((cd_nw (fun i => (a 49 (i - 1)).toInt) td (n.toNat)).1) - 1)) = cd_WD D td (n.toNat) := by
  have e : cd_nw (fun i => (a 49 (i - 1)).toInt) td n.toNat = cd_nw (fun i => (D (i - 1)).1.toInt) td n.toNat := cd_nw_eq _ (fun i hi => by
    show (a 49 (i + 1 - 1)).toInt = (D (i + 1 - 1)).1.toInt
    rw [Nat.add_sub_cancel, (hd i (by omega)).1])
  unfold cd_WD
  rw [e]
  have hle := cd_nw_le (fun i => (D (i - 1)).1.toInt) td n.toNat
  generalize (cd_nw (fun i => (D (i - 1)).1.toInt) td n.toNat).1 = z at hle ⊢
  cases z with
  | zero => rw [if_pos rfl, if_pos rfl]
  | succ z => rw [if_neg (by omega), if_neg (by omega), Nat.add_sub_cancel, (hd z (by omega)).2.1]
theorem cd_DX_gds {gfr : Nat → Int32} {gln : Nat → Nat} {glr : Nat → Nat → Nat → Int32} {n : Int} {D : Nat → Int32 × List (Int × Int × List (Nat × Nat × Int))} (hd : cd_DX gfr gln glr n D) : ∀ i : Nat, (i : Int) ≤ n → ∀ j, j < gln i → cd_gd (cd_gX (glr i) j) := by
  intro i hi j hj
  cases i with
  | zero => rw [hd.1] at hj; omega
  | succ i =>
    have h := hd.2 i (by omega)
    exact h.2.2.1 _ (by rw [← h.2.1]; exact cd_Wf_mem0 _ 0 j (by omega) (by omega))
theorem cd_DM_gd {gfr : Nat → Int32} {gln : Nat → Nat} {glr : Nat → Nat → Nat → Int32} {n m : Int} {a : Nat → Nat → Int32} {D : Nat → Int32 × List (Int × Int × List (Nat × Nat × Int))} (hx : cd_DX gfr gln glr n D) (e : n = m) (hd : cd_DMM a m D) : ∀ b : Nat, (b : Int) < m → ∀ l ∈ cd_LM a b, cd_gd l := by
  intro b hb l hl
  rw [(hd b hb).2.1] at hl
  exact (hx.2 b (by omega)).2.2.1 l hl
theorem cd_DM_fd {gfr : Nat → Int32} {gln : Nat → Nat} {glr : Nat → Nat → Nat → Int32} {n m : Int} {a : Nat → Nat → Int32} {D : Nat → Int32 × List (Int × Int × List (Nat × Nat × Int))} (hx : cd_DX gfr gln glr n D) (e : n = m) (hd : cd_DMM a m D) : ∀ i : Nat, (i : Int) < m → 0 ≤ (a 49 i).toInt := by
  intro i hi
  rw [(hd i hi).1]
  exact (hx.2 i (by omega)).2.2.2
def wt_told (r a b v d nt ty we : Int32) (gk gs gi gw gf gt gm gd : Nat → Int32) (W : List (Int × Int × List (Nat × Nat × Int))) : Prop := ((a.toInt < 0 ∨ nt.toInt ≤ a.toInt ∨ b.toInt < 0 ∨ 5 < b.toInt ∨ v.toInt < 0 ∨ d.toInt < 0) ∧ r = -1) ∨ (¬ (a.toInt < 0 ∨ nt.toInt ≤ a.toInt ∨ b.toInt < 0 ∨ 5 < b.toInt ∨ v.toInt < 0 ∨ d.toInt < 0) ∧ r.toInt = cd_av (cd_fc (gk ((gw (a.toInt.toNat)).toInt.toNat)).toInt (gi ((gw (a.toInt.toNat)).toInt.toNat)).toInt (gs ((gw (a.toInt.toNat)).toInt.toNat)).toInt (wt_rf ty we gd) (gm (a.toInt.toNat)).toInt ty.toInt (gf (a.toInt.toNat)).toInt (gt (a.toInt.toNat)).toInt (cd_ri b.toInt v.toInt) d.toInt) b.toInt (decide ((gk ((gw (a.toInt.toNat)).toInt.toNat)).toInt = 2)) W)
theorem wt_told_i {r a b v d nt ty we : Int32} {gk gs gi gw gf gt gm gd : Nat → Int32} {W W2 : List (Int × Int × List (Nat × Nat × Int))} {P Q : Prop} (h : ((a.toInt < 0 ∨ nt.toInt ≤ a.toInt ∨ b.toInt < 0 ∨ 5 < b.toInt ∨ v.toInt < 0 ∨ d.toInt < 0) ∧ r = -1 ∧ P) ∨ (¬ (a.toInt < 0 ∨ nt.toInt ≤ a.toInt ∨ b.toInt < 0 ∨ 5 < b.toInt ∨ v.toInt < 0 ∨ d.toInt < 0) ∧ r.toInt = cd_av (cd_fc (gk ((gw (a.toInt.toNat)).toInt.toNat)).toInt (gi ((gw (a.toInt.toNat)).toInt.toNat)).toInt (gs ((gw (a.toInt.toNat)).toInt.toNat)).toInt (wt_rf ty we gd) (gm (a.toInt.toNat)).toInt ty.toInt (gf (a.toInt.toNat)).toInt (gt (a.toInt.toNat)).toInt (cd_ri b.toInt v.toInt) d.toInt) b.toInt (decide ((gk ((gw (a.toInt.toNat)).toInt.toNat)).toInt = 2)) W ∧ Q)) (e : W = W2) : wt_told r a b v d nt ty we gk gs gi gw gf gt gm gd W2 := by
  subst e
  rcases h with ⟨h1, h2, _⟩ | ⟨h1, h2, _⟩
  · exact Or.inl ⟨h1, h2⟩
  · exact Or.inr ⟨h1, h2⟩
theorem wt_told_det {r r2 a b v d nt ty we : Int32} {gk gs gi gw gf gt gm gd : Nat → Int32} {W : List (Int × Int × List (Nat × Nat × Int))} (h1 : wt_told r a b v d nt ty we gk gs gi gw gf gt gm gd W) (h2 : wt_told r2 a b v d nt ty we gk gs gi gw gf gt gm gd W) : r = r2 := by
  rcases h1 with ⟨a1, b1⟩ | ⟨a1, b1⟩ <;> rcases h2 with ⟨a2, b2⟩ | ⟨a2, b2⟩
  · exact b1.trans b2.symm
  · exact absurd a1 a2
  · exact absurd a2 a1
  · exact Int32.toInt_inj.mp (b1.trans b2.symm)
def iSep (s : State) (ob ad : Nat → Nat) (h : Nat) (adm : Nat → Nat) (yO : Nat) : Prop := dX ob ad ∧ dM h adm ∧ (∀ k q : Nat, (adX ob ad)[k]? = some q → s.heap.size ≤ q) ∧ (∀ k q : Nat, (adM h adm)[k]? = some q → s.heap.size ≤ q) ∧ (∀ j k q : Nat, (adX ob ad)[j]? = some q → (adM h adm)[k]? = some q → False) ∧ (∀ k : Nat, (adX ob ad)[k]? = some yO → False) ∧ (∀ k : Nat, (adM h adm)[k]? = some yO → False) ∧ s.heap.size ≤ yO
def pX (s : State) (ob ad : Nat → Nat) (h : Nat) (adm : Nat → Nat) (yO : Nat) (q : Nat) : Prop := s.heap.size ≤ q ∧ (∀ k : Nat, (adX ob ad)[k]? = some q → False) ∧ (∀ k : Nat, (adM h adm)[k]? = some q → False) ∧ q ≠ yO
def inV (s : State) (dC : Nat → ClassId) (dI : Nat → Nat → Nat) (ob ad : Nat → Nat) (cA : Nat → ClassId) (h : Nat) (adm : Nat → Nat) (cAm : Nat → ClassId) (yO : Nat) (kO : ClassId) (tA : Nat → Nat) (tD : Nat) (tX tM : (Nat → Int32) × (Nat → Nat → Int32) × (Nat → Int32 × List (Int × Int × List (Nat × Nat × Int)))) (H : Heap) : Prop := ∃ (fv : Nat → Int32) (wd : xT) (ar : Nat → Nat → Int32) (gv : Nat → Int32) (gw : Int64) (gr : Nat → Nat → Int32) (fO : Nat → Int64) (gla : Nat → Nat) (gfr : Nat → Int32) (gra : Nat → Nat → Nat) (grc : Nat → Nat → ClassId) (gln gcn : Nat → Nat) (glr : Nat → Nat → Nat → Int32) (ce : ClassId) (ef : Nat → Option Nat), (va_P (dC, dI) vwCl (wsX ob ad cA fv wd ar) H ∧ rX fv ∧ rB ar ∧ tO tA wd.2.1 ∧ cd_DX gfr gln glr (fv 30).toInt tX.2.2 ∧ fv 7 = tX.1 0 ∧ fv 4 = tX.1 1 ∧ fv 11 = tX.1 2 ∧ fv 12 = tX.1 3 ∧ fv 9 = tX.1 4 ∧ fv 0 = tX.1 5 ∧ fv 10 = tX.1 6 ∧ fv 5 = tX.1 7 ∧ fv 2 = tX.1 8 ∧ fv 30 = tX.1 9 ∧ ar 1 = tX.2.1 0 ∧ ar 3 = tX.2.1 1 ∧ ar 20 = tX.2.1 2 ∧ ar 22 = tX.2.1 3 ∧ ar 23 = tX.2.1 4 ∧ ar 28 = tX.2.1 5 ∧ ar 29 = tX.2.1 6 ∧ ar 30 = tX.2.1 7 ∧ ar 31 = tX.2.1 8) ∧ (va_P (dC, dI) vwCl (wsM h adm cAm gv gw gr) H ∧ rF gv ∧ rA gr ∧ vM gv gr ∧ sW gr ∧ cd_DMM gr (gv 58).toInt tM.2.2 ∧ gv 3 = tM.1 0 ∧ gv 33 = tM.1 1 ∧ gv 34 = tM.1 2 ∧ gv 35 = tM.1 3 ∧ gv 6 = tM.1 4 ∧ gv 2 = tM.1 5 ∧ gv 32 = tM.1 6 ∧ gv 7 = tM.1 7 ∧ gv 43 = tM.1 8 ∧ gv 58 = tM.1 9 ∧ gr 1 = tM.2.1 0 ∧ gr 5 = tM.2.1 1 ∧ gr 20 = tM.2.1 2 ∧ gr 22 = tM.2.1 3 ∧ gr 23 = tM.2.1 4 ∧ gr 25 = tM.2.1 5 ∧ gr 26 = tM.2.1 6 ∧ gr 27 = tM.2.1 7 ∧ gr 28 = tM.2.1 8) ∧ va_P (dC, dI) vwCl [(yO, .inl (kO, 1, .inr (.inl fO)))] H ∧ (∀ U : State, U.heap = H → s.vm.Alike U.vm → lsA dC dI ob ad gla gfr gra grc gln gcn glr ce ef (fv 30).toInt wd.2.2.2 H.size U) ∧ ((fv 30).toInt = 0 → wd.2.2.2 = tD) ∧ (0 < (fv 30).toInt → lsN (fun q => q ≠ wd.2.2.2) gla gra (fv 30).toInt) ∧ lsN (fun q => q < H.size ∧ pX s ob ad h adm yO q) gla gra (fv 30).toInt ∧ (0 < (fv 30).toInt → wd.2.2.2 < H.size ∧ pX s ob ad h adm yO wd.2.2.2)
theorem lsN_mono {P Q : Nat → Prop} {gla : Nat → Nat} {gra : Nat → Nat → Nat} {n : Int} (h : lsN P gla gra n) (w : ∀ q, P q → Q q) : lsN Q gla gra n := fun i hi => ⟨w _ (h i hi).1, fun j => w _ ((h i hi).2 j)⟩
theorem ls_gen {dC : Nat → ClassId} {dI : Nat → Nat → Nat} {ob ad : Nat → Nat} {gla : Nat → Nat} {gfr : Nat → Int32} {gra : Nat → Nat → Nat} {grc : Nat → Nat → ClassId} {gln gcn : Nat → Nat} {glr : Nat → Nat → Nat → Int32} {ce : ClassId} {ef : Nat → Option Nat} {n : Int} {ed : Nat} {U0 U : State} {H1 : Heap} {P : Nat → Prop} (h : lsA dC dI ob ad gla gfr gra grc gln gcn glr ce ef n ed U0.heap.size U0) (hU : U.heap = H1) (hv : U0.vm.Alike U.vm) (hz : U0.heap.size ≤ H1.size) (hk : ∀ q, q < U0.heap.size → P q → H1[q]? = U0.heap[q]?) (hl : lsN P gla gra n) (he : 0 < n → P ed) : lsA dC dI ob ad gla gfr gra grc gln gcn glr ce ef n ed H1.size U := by
  have hx : ∀ q, aX ob ad H1.size q → aX ob ad U0.heap.size q := fun q w => w.elim Or.inl (fun w => Or.inr (Nat.le_trans hz w))
  refine ⟨h.1, fun i hi => ⟨(h.2.1 i hi).1, ?_, va_K.moved hv (h.2.1 i hi).2.2.1, fun k q hk9 w => (h.2.1 i hi).2.2.2 k q hk9 (hx _ w)⟩, fun hn => ⟨⟨?_, va_K.moved hv (h.2.2 hn).1.2.1, fun w => (h.2.2 hn).1.2.2 (hx _ w)⟩, (h.2.2 hn).2⟩⟩
  · rw [hU]; exact (h.2.1 i hi).2.1.kept (fun k q hk9 => hk q.1 ((h.2.1 i hi).2.1 k q hk9).lt (lw_all (P := P) (hl i hi).1 (hl i hi).2 k q hk9))
  · rw [hU]; exact ls_one (h.2.2 hn).1.1 (hk ed (ls_lt (h.2.2 hn).1.1) (he hn))
theorem my_admlt {dC : Nat → ClassId} {dI : Nat → Nat → Nat} {h : Nat} {ad : Nat → Nat} {cA : Nat → ClassId} {fv : Nat → Int32} {wd : Int64} {ar : Nat → Nat → Int32} {H : Heap} (hP : va_P (dC, dI) vwCl (wsM h ad cA fv wd ar) H) {k q : Nat} (hk : (adM h ad)[k]? = some q) : q < H.size := by
  have e : adM h ad = (wsM h ad cA fv wd ar).map (fun q => q.1) := rfl
  rw [e, List.getElem?_map] at hk
  cases hc : (wsM h ad cA fv wd ar)[k]? with
  | none => rw [hc] at hk; cases hk
  | some c => rw [hc] at hk; cases hk; exact (hP k c hc).lt
theorem inv_x {s : State} {dC : Nat → ClassId} {dI : Nat → Nat → Nat} {ob ad : Nat → Nat} {cA : Nat → ClassId} {h : Nat} {adm : Nat → Nat} {cAm : Nat → ClassId} {yO : Nat} {kO : ClassId} {tA : Nat → Nat} {tD : Nat} (hs : iSep s ob ad h adm yO) {H : Heap} {fv : Nat → Int32} {wd : xT} {ar : Nat → Nat → Int32} {gv : Nat → Int32} {gw : Int64} {gr : Nat → Nat → Int32} {fO : Nat → Int64} {gla : Nat → Nat} {gfr : Nat → Int32} {gra : Nat → Nat → Nat} {grc : Nat → Nat → ClassId} {gln gcn : Nat → Nat} {glr : Nat → Nat → Nat → Int32} {ce : ClassId} {ef : Nat → Option Nat} {tX tM : (Nat → Int32) × (Nat → Nat → Int32) × (Nat → Int32 × List (Int × Int × List (Nat × Nat × Int)))} (hM : (va_P (dC, dI) vwCl (wsM h adm cAm gv gw gr) H ∧ rF gv ∧ rA gr ∧ vM gv gr ∧ sW gr ∧ cd_DMM gr (gv 58).toInt tM.2.2 ∧ gv 3 = tM.1 0 ∧ gv 33 = tM.1 1 ∧ gv 34 = tM.1 2 ∧ gv 35 = tM.1 3 ∧ gv 6 = tM.1 4 ∧ gv 2 = tM.1 5 ∧ gv 32 = tM.1 6 ∧ gv 7 = tM.1 7 ∧ gv 43 = tM.1 8 ∧ gv 58 = tM.1 9 ∧ gr 1 = tM.2.1 0 ∧ gr 5 = tM.2.1 1 ∧ gr 20 = tM.2.1 2 ∧ gr 22 = tM.2.1 3 ∧ gr 23 = tM.2.1 4 ∧ gr 25 = tM.2.1 5 ∧ gr 26 = tM.2.1 6 ∧ gr 27 = tM.2.1 7 ∧ gr 28 = tM.2.1 8)) (hO : va_P (dC, dI) vwCl [(yO, .inl (kO, 1, .inr (.inl fO)))] H) (hG : (∀ U : State, U.heap = H → s.vm.Alike U.vm → lsA dC dI ob ad gla gfr gra grc gln gcn glr ce ef (fv 30).toInt wd.2.2.2 H.size U)) (h0 : ((fv 30).toInt = 0 → wd.2.2.2 = tD)) (hN : (0 < (fv 30).toInt → lsN (fun q => q ≠ wd.2.2.2) gla gra (fv 30).toInt)) (hL : lsN (fun q => q < H.size ∧ pX s ob ad h adm yO q) gla gra (fv 30).toInt) (hE : (0 < (fv 30).toInt → wd.2.2.2 < H.size ∧ pX s ob ad h adm yO wd.2.2.2)) {H1 : Heap} {f1 : Nat → Int32} {w1 : xT} {a1 : Nat → Nat → Int32} (hP1 : va_P (dC, dI) vwCl (wsX ob ad cA f1 w1 a1) H1) (h1 : rX f1) (h2 : rB a1) (h3 : tO tA w1.2.1) {t1 : (Nat → Int32) × (Nat → Nat → Int32) × (Nat → Int32 × List (Int × Int × List (Nat × Nat × Int)))} (h4 : cd_DX gfr gln glr (f1 30).toInt t1.2.2 ∧ f1 7 = t1.1 0 ∧ f1 4 = t1.1 1 ∧ f1 11 = t1.1 2 ∧ f1 12 = t1.1 3 ∧ f1 9 = t1.1 4 ∧ f1 0 = t1.1 5 ∧ f1 10 = t1.1 6 ∧ f1 5 = t1.1 7 ∧ f1 2 = t1.1 8 ∧ f1 30 = t1.1 9 ∧ a1 1 = t1.2.1 0 ∧ a1 3 = t1.2.1 1 ∧ a1 20 = t1.2.1 2 ∧ a1 22 = t1.2.1 3 ∧ a1 23 = t1.2.1 4 ∧ a1 28 = t1.2.1 5 ∧ a1 29 = t1.2.1 6 ∧ a1 30 = t1.2.1 7 ∧ a1 31 = t1.2.1 8) (h5 : f1 30 = fv 30) (h6 : w1.2.2.2 = wd.2.2.2) (hz : H.size ≤ H1.size) (hk : ∀ q, q < H.size → ¬ aX ob ad H.size q → H1[q]? = H[q]?) : inV s dC dI ob ad cA h adm cAm yO kO tA tD t1 tM H1 := by
  have hkp : ∀ q, q < H.size → (∀ k : Nat, (adX ob ad)[k]? = some q → False) → H1[q]? = H[q]? := fun q hq hn => hk q hq (fun w => w.elim (fun ⟨k, hk⟩ => hn k hk) (fun w => absurd hq (Nat.not_lt.mpr w)))
  refine ⟨f1, w1, a1, gv, gw, gr, fO, gla, gfr, gra, grc, gln, gcn, glr, ce, ef, ⟨hP1, h1, h2, h3, h4⟩, ⟨hM.1.kept (fun k q hk9 => hkp q.1 (hM.1 k q hk9).lt (fun j hj => hs.2.2.2.2.1 j k q.1 hj (adM_at hk9))), hM.2⟩, ls_one hO (hkp yO (ls_lt hO) hs.2.2.2.2.2.1), ?_, ?_, ?_, ?_, ?_⟩
  · intro U hU hv
    rw [h5, h6]
    exact ls_gen (U0 := { U with heap := H }) (P := fun q => q < H.size ∧ pX s ob ad h adm yO q) (hG { U with heap := H } rfl hv) hU (Vm.Alike.refl _) hz (fun q hq hp => hkp q hq hp.2.2.1) hL hE
  · rw [h5, h6]; exact h0
  · rw [h5, h6]; exact hN
  · rw [h5]; exact lsN_mono hL (fun q w => ⟨Nat.lt_of_lt_of_le w.1 hz, w.2⟩)
  · rw [h5, h6]; exact fun w => ⟨Nat.lt_of_lt_of_le (hE w).1 hz, (hE w).2⟩
theorem inv_m {s : State} {dC : Nat → ClassId} {dI : Nat → Nat → Nat} {ob ad : Nat → Nat} {cA : Nat → ClassId} {h : Nat} {adm : Nat → Nat} {cAm : Nat → ClassId} {yO : Nat} {kO : ClassId} {tA : Nat → Nat} {tD : Nat} (hs : iSep s ob ad h adm yO) {H : Heap} {fv : Nat → Int32} {wd : xT} {ar : Nat → Nat → Int32} {gv : Nat → Int32} {gw : Int64} {gr : Nat → Nat → Int32} {fO : Nat → Int64} {gla : Nat → Nat} {gfr : Nat → Int32} {gra : Nat → Nat → Nat} {grc : Nat → Nat → ClassId} {gln gcn : Nat → Nat} {glr : Nat → Nat → Nat → Int32} {ce : ClassId} {ef : Nat → Option Nat} {tX tM : (Nat → Int32) × (Nat → Nat → Int32) × (Nat → Int32 × List (Int × Int × List (Nat × Nat × Int)))} (hX : (va_P (dC, dI) vwCl (wsX ob ad cA fv wd ar) H ∧ rX fv ∧ rB ar ∧ tO tA wd.2.1 ∧ cd_DX gfr gln glr (fv 30).toInt tX.2.2 ∧ fv 7 = tX.1 0 ∧ fv 4 = tX.1 1 ∧ fv 11 = tX.1 2 ∧ fv 12 = tX.1 3 ∧ fv 9 = tX.1 4 ∧ fv 0 = tX.1 5 ∧ fv 10 = tX.1 6 ∧ fv 5 = tX.1 7 ∧ fv 2 = tX.1 8 ∧ fv 30 = tX.1 9 ∧ ar 1 = tX.2.1 0 ∧ ar 3 = tX.2.1 1 ∧ ar 20 = tX.2.1 2 ∧ ar 22 = tX.2.1 3 ∧ ar 23 = tX.2.1 4 ∧ ar 28 = tX.2.1 5 ∧ ar 29 = tX.2.1 6 ∧ ar 30 = tX.2.1 7 ∧ ar 31 = tX.2.1 8)) (hO : va_P (dC, dI) vwCl [(yO, .inl (kO, 1, .inr (.inl fO)))] H) (hG : (∀ U : State, U.heap = H → s.vm.Alike U.vm → lsA dC dI ob ad gla gfr gra grc gln gcn glr ce ef (fv 30).toInt wd.2.2.2 H.size U)) (h0 : ((fv 30).toInt = 0 → wd.2.2.2 = tD)) (hN : (0 < (fv 30).toInt → lsN (fun q => q ≠ wd.2.2.2) gla gra (fv 30).toInt)) (hL : lsN (fun q => q < H.size ∧ pX s ob ad h adm yO q) gla gra (fv 30).toInt) (hE : (0 < (fv 30).toInt → wd.2.2.2 < H.size ∧ pX s ob ad h adm yO wd.2.2.2)) {H1 : Heap} {f1 : Nat → Int32} {w1 : Int64} {a1 : Nat → Nat → Int32} (hP1 : va_P (dC, dI) vwCl (wsM h adm cAm f1 w1 a1) H1) (h1 : rF f1) (h2 : rA a1) (h3 : vM f1 a1) (h4 : sW a1) {t1 : (Nat → Int32) × (Nat → Nat → Int32) × (Nat → Int32 × List (Int × Int × List (Nat × Nat × Int)))} (h5 : cd_DMM a1 (f1 58).toInt t1.2.2 ∧ f1 3 = t1.1 0 ∧ f1 33 = t1.1 1 ∧ f1 34 = t1.1 2 ∧ f1 35 = t1.1 3 ∧ f1 6 = t1.1 4 ∧ f1 2 = t1.1 5 ∧ f1 32 = t1.1 6 ∧ f1 7 = t1.1 7 ∧ f1 43 = t1.1 8 ∧ f1 58 = t1.1 9 ∧ a1 1 = t1.2.1 0 ∧ a1 5 = t1.2.1 1 ∧ a1 20 = t1.2.1 2 ∧ a1 22 = t1.2.1 3 ∧ a1 23 = t1.2.1 4 ∧ a1 25 = t1.2.1 5 ∧ a1 26 = t1.2.1 6 ∧ a1 27 = t1.2.1 7 ∧ a1 28 = t1.2.1 8) (hz : H.size ≤ H1.size) (hk : ∀ q, q < H.size → ¬ aM h adm H.size q → H1[q]? = H[q]?) : inV s dC dI ob ad cA h adm cAm yO kO tA tD tX t1 H1 := by
  have hkp : ∀ q, q < H.size → (∀ k : Nat, (adM h adm)[k]? = some q → False) → H1[q]? = H[q]? := fun q hq hn => hk q hq (fun w => w.elim (fun ⟨k, hk⟩ => hn k hk) (fun w => absurd hq (Nat.not_lt.mpr w)))
  refine ⟨fv, wd, ar, f1, w1, a1, fO, gla, gfr, gra, grc, gln, gcn, glr, ce, ef, ⟨hX.1.kept (fun k q hk9 => hkp q.1 (hX.1 k q hk9).lt (fun j hj => hs.2.2.2.2.1 k j q.1 (adX_at hk9) hj)), hX.2⟩, ⟨hP1, h1, h2, h3, h4, h5⟩, ls_one hO (hkp yO (ls_lt hO) hs.2.2.2.2.2.2.1), ?_, h0, hN, lsN_mono hL (fun q w => ⟨Nat.lt_of_lt_of_le w.1 hz, w.2⟩), fun w => ⟨Nat.lt_of_lt_of_le (hE w).1 hz, (hE w).2⟩⟩
  intro U hU hv
  exact ls_gen (U0 := { U with heap := H }) (P := fun q => q < H.size ∧ pX s ob ad h adm yO q) (hG { U with heap := H } rfl hv) hU (Vm.Alike.refl _) hz (fun q hq hp => hkp q hq hp.2.2.2.1) hL hE
theorem inv_o {s : State} {dC : Nat → ClassId} {dI : Nat → Nat → Nat} {ob ad : Nat → Nat} {cA : Nat → ClassId} {h : Nat} {adm : Nat → Nat} {cAm : Nat → ClassId} {yO : Nat} {kO : ClassId} {tA : Nat → Nat} {tD : Nat} (hs : iSep s ob ad h adm yO) {H : Heap} {fv : Nat → Int32} {wd : xT} {ar : Nat → Nat → Int32} {gv : Nat → Int32} {gw : Int64} {gr : Nat → Nat → Int32} {fO : Nat → Int64} {gla : Nat → Nat} {gfr : Nat → Int32} {gra : Nat → Nat → Nat} {grc : Nat → Nat → ClassId} {gln gcn : Nat → Nat} {glr : Nat → Nat → Nat → Int32} {ce : ClassId} {ef : Nat → Option Nat} {tX tM : (Nat → Int32) × (Nat → Nat → Int32) × (Nat → Int32 × List (Int × Int × List (Nat × Nat × Int)))} (hM : (va_P (dC, dI) vwCl (wsM h adm cAm gv gw gr) H ∧ rF gv ∧ rA gr ∧ vM gv gr ∧ sW gr ∧ cd_DMM gr (gv 58).toInt tM.2.2 ∧ gv 3 = tM.1 0 ∧ gv 33 = tM.1 1 ∧ gv 34 = tM.1 2 ∧ gv 35 = tM.1 3 ∧ gv 6 = tM.1 4 ∧ gv 2 = tM.1 5 ∧ gv 32 = tM.1 6 ∧ gv 7 = tM.1 7 ∧ gv 43 = tM.1 8 ∧ gv 58 = tM.1 9 ∧ gr 1 = tM.2.1 0 ∧ gr 5 = tM.2.1 1 ∧ gr 20 = tM.2.1 2 ∧ gr 22 = tM.2.1 3 ∧ gr 23 = tM.2.1 4 ∧ gr 25 = tM.2.1 5 ∧ gr 26 = tM.2.1 6 ∧ gr 27 = tM.2.1 7 ∧ gr 28 = tM.2.1 8)) (hG : (∀ U : State, U.heap = H → s.vm.Alike U.vm → lsA dC dI ob ad gla gfr gra grc gln gcn glr ce ef (fv 30).toInt wd.2.2.2 H.size U)) (h0 : ((fv 30).toInt = 0 → wd.2.2.2 = tD)) (hN : (0 < (fv 30).toInt → lsN (fun q => q ≠ wd.2.2.2) gla gra (fv 30).toInt)) (hL : lsN (fun q => q < H.size ∧ pX s ob ad h adm yO q) gla gra (fv 30).toInt) (hE : (0 < (fv 30).toInt → wd.2.2.2 < H.size ∧ pX s ob ad h adm yO wd.2.2.2)) {H1 : Heap} {f1 : Nat → Int32} {w1 : xT} {a1 : Nat → Nat → Int32} {f9 : Nat → Int64} (hP1 : va_P (dC, dI) vwCl (wsX ob ad cA f1 w1 a1) H1) (h1 : rX f1) (h2 : rB a1) (h3 : tO tA w1.2.1) {t1 : (Nat → Int32) × (Nat → Nat → Int32) × (Nat → Int32 × List (Int × Int × List (Nat × Nat × Int)))} (h4 : cd_DX gfr gln glr (f1 30).toInt t1.2.2 ∧ f1 7 = t1.1 0 ∧ f1 4 = t1.1 1 ∧ f1 11 = t1.1 2 ∧ f1 12 = t1.1 3 ∧ f1 9 = t1.1 4 ∧ f1 0 = t1.1 5 ∧ f1 10 = t1.1 6 ∧ f1 5 = t1.1 7 ∧ f1 2 = t1.1 8 ∧ f1 30 = t1.1 9 ∧ a1 1 = t1.2.1 0 ∧ a1 3 = t1.2.1 1 ∧ a1 20 = t1.2.1 2 ∧ a1 22 = t1.2.1 3 ∧ a1 23 = t1.2.1 4 ∧ a1 28 = t1.2.1 5 ∧ a1 29 = t1.2.1 6 ∧ a1 30 = t1.2.1 7 ∧ a1 31 = t1.2.1 8) (h5 : f1 30 = fv 30) (h6 : w1.2.2.2 = wd.2.2.2) (hO1 : va_P (dC, dI) vwCl [(yO, .inl (kO, 1, .inr (.inl f9)))] H1) (hz : H.size ≤ H1.size) (hk : ∀ q, q < H.size → ¬ (aX ob ad H.size q ∨ q = yO) → H1[q]? = H[q]?) : inV s dC dI ob ad cA h adm cAm yO kO tA tD t1 tM H1 := by
  have hkp : ∀ q, q < H.size → (∀ k : Nat, (adX ob ad)[k]? = some q → False) → q ≠ yO → H1[q]? = H[q]? := fun q hq hn hy => hk q hq (fun w => w.elim (fun w => w.elim (fun ⟨k, hk⟩ => hn k hk) (fun w => absurd hq (Nat.not_lt.mpr w))) hy)
  refine ⟨f1, w1, a1, gv, gw, gr, f9, gla, gfr, gra, grc, gln, gcn, glr, ce, ef, ⟨hP1, h1, h2, h3, h4⟩, ⟨hM.1.kept (fun k q hk9 => hkp q.1 (hM.1 k q hk9).lt (fun j hj => hs.2.2.2.2.1 j k q.1 hj (adM_at hk9)) (fun w => hs.2.2.2.2.2.2.1 k (w ▸ adM_at hk9))), hM.2⟩, hO1, ?_, ?_, ?_, ?_, ?_⟩
  · intro U hU hv
    rw [h5, h6]
    exact ls_gen (U0 := { U with heap := H }) (P := fun q => q < H.size ∧ pX s ob ad h adm yO q) (hG { U with heap := H } rfl hv) hU (Vm.Alike.refl _) hz (fun q hq hp => hkp q hq hp.2.2.1 hp.2.2.2.2) hL hE
  · rw [h5, h6]; exact h0
  · rw [h5, h6]; exact hN
  · rw [h5]; exact lsN_mono hL (fun q w => ⟨Nat.lt_of_lt_of_le w.1 hz, w.2⟩)
  · rw [h5, h6]; exact fun w => ⟨Nat.lt_of_lt_of_le (hE w).1 hz, (hE w).2⟩
theorem inv_b {s : State} {dC : Nat → ClassId} {dI : Nat → Nat → Nat} {ob ad : Nat → Nat} {cA : Nat → ClassId} {h : Nat} {adm : Nat → Nat} {cAm : Nat → ClassId} {yO : Nat} {kO : ClassId} {tA : Nat → Nat} {tD : Nat} (hs : iSep s ob ad h adm yO) {H : Heap} {fv : Nat → Int32} {wd : xT} {ar : Nat → Nat → Int32} {gv : Nat → Int32} {gw : Int64} {gr : Nat → Nat → Int32} {fO : Nat → Int64} {gla : Nat → Nat} {gfr : Nat → Int32} {gra : Nat → Nat → Nat} {grc : Nat → Nat → ClassId} {gln gcn : Nat → Nat} {glr : Nat → Nat → Nat → Int32} {ce : ClassId} {ef : Nat → Option Nat} {tX tM : (Nat → Int32) × (Nat → Nat → Int32) × (Nat → Int32 × List (Int × Int × List (Nat × Nat × Int)))} (hX : (va_P (dC, dI) vwCl (wsX ob ad cA fv wd ar) H ∧ rX fv ∧ rB ar ∧ tO tA wd.2.1 ∧ cd_DX gfr gln glr (fv 30).toInt tX.2.2 ∧ fv 7 = tX.1 0 ∧ fv 4 = tX.1 1 ∧ fv 11 = tX.1 2 ∧ fv 12 = tX.1 3 ∧ fv 9 = tX.1 4 ∧ fv 0 = tX.1 5 ∧ fv 10 = tX.1 6 ∧ fv 5 = tX.1 7 ∧ fv 2 = tX.1 8 ∧ fv 30 = tX.1 9 ∧ ar 1 = tX.2.1 0 ∧ ar 3 = tX.2.1 1 ∧ ar 20 = tX.2.1 2 ∧ ar 22 = tX.2.1 3 ∧ ar 23 = tX.2.1 4 ∧ ar 28 = tX.2.1 5 ∧ ar 29 = tX.2.1 6 ∧ ar 30 = tX.2.1 7 ∧ ar 31 = tX.2.1 8)) (hM : (va_P (dC, dI) vwCl (wsM h adm cAm gv gw gr) H ∧ rF gv ∧ rA gr ∧ vM gv gr ∧ sW gr ∧ cd_DMM gr (gv 58).toInt tM.2.2 ∧ gv 3 = tM.1 0 ∧ gv 33 = tM.1 1 ∧ gv 34 = tM.1 2 ∧ gv 35 = tM.1 3 ∧ gv 6 = tM.1 4 ∧ gv 2 = tM.1 5 ∧ gv 32 = tM.1 6 ∧ gv 7 = tM.1 7 ∧ gv 43 = tM.1 8 ∧ gv 58 = tM.1 9 ∧ gr 1 = tM.2.1 0 ∧ gr 5 = tM.2.1 1 ∧ gr 20 = tM.2.1 2 ∧ gr 22 = tM.2.1 3 ∧ gr 23 = tM.2.1 4 ∧ gr 25 = tM.2.1 5 ∧ gr 26 = tM.2.1 6 ∧ gr 27 = tM.2.1 7 ∧ gr 28 = tM.2.1 8)) (hO : va_P (dC, dI) vwCl [(yO, .inl (kO, 1, .inr (.inl fO)))] H) (hL : lsN (fun q => q < H.size ∧ pX s ob ad h adm yO q) gla gra (fv 30).toInt) (hE : (0 < (fv 30).toInt → wd.2.2.2 < H.size ∧ pX s ob ad h adm yO wd.2.2.2)) (hsz : s.heap.size ≤ H.size) {H1 : Heap} {f1 : Nat → Int32} {w1 : xT} {a1 : Nat → Nat → Int32} {a9 : Int32} {T9 : List (Int × Int × List (Nat × Nat × Int))} {t : State} (ht : t.heap = H1) (hvm : s.vm.Alike t.vm) (hP1 : va_P (dC, dI) vwCl (wsX ob ad cA f1 w1 a1) H1) (h1 : rX f1) (h2 : rB a1) (h3 : tO tA w1.2.1) {t1 : (Nat → Int32) × (Nat → Nat → Int32) × (Nat → Int32 × List (Int × Int × List (Nat × Nat × Int)))} (h4 : f1 7 = t1.1 0 ∧ f1 4 = t1.1 1 ∧ f1 11 = t1.1 2 ∧ f1 12 = t1.1 3 ∧ f1 9 = t1.1 4 ∧ f1 0 = t1.1 5 ∧ f1 10 = t1.1 6 ∧ f1 5 = t1.1 7 ∧ f1 2 = t1.1 8 ∧ f1 30 = t1.1 9 ∧ a1 1 = t1.2.1 0 ∧ a1 3 = t1.2.1 1 ∧ a1 20 = t1.2.1 2 ∧ a1 22 = t1.2.1 3 ∧ a1 23 = t1.2.1 4 ∧ a1 28 = t1.2.1 5 ∧ a1 29 = t1.2.1 6 ∧ a1 30 = t1.2.1 7 ∧ a1 31 = t1.2.1 8) (hF : ∃ (gla9 : Nat → Nat) (gfr9 : Nat → Int32) (gra9 : Nat → Nat → Nat) (grc9 : Nat → Nat → ClassId) (gln9 gcn9 : Nat → Nat) (glr9 : Nat → Nat → Nat → Int32) (ce9 : ClassId) (ef9 : Nat → Option Nat), lsA dC dI ob ad gla9 gfr9 gra9 grc9 gln9 gcn9 glr9 ce9 ef9 (f1 30).toInt w1.2.2.2 t.heap.size t ∧ ((f1 30).toInt = 0 → w1.2.2.2 = tD) ∧ (0 < (f1 30).toInt → lsN (fun q => q ≠ w1.2.2.2) gla9 gra9 (f1 30).toInt) ∧ cd_bX (fv 30).toInt (f1 30).toInt gfr gfr9 gln gln9 glr glr9 a9 T9 ∧ ∀ P : Nat → Prop, (∀ q, H.size ≤ q → q < t.heap.size → P q) → lsN P gla gra (fv 30).toInt → (0 < (fv 30).toInt → P wd.2.2.2) → lsN P gla9 gra9 (f1 30).toInt ∧ (0 < (f1 30).toInt → P w1.2.2.2)) (hT1 : t1.2.2 = cd_up tX.2.2 (fv 30).toInt (f1 30).toInt (a9, T9)) (h0a : (f1 30).toInt = (fv 30).toInt + 1 → 0 ≤ a9.toInt) (hz : H.size ≤ H1.size) (hk : ∀ q, q < H.size → ¬ (aX ob ad H.size q ∨ (0 < (fv 30).toInt ∧ q = wd.2.2.2)) → H1[q]? = H[q]?) : inV s dC dI ob ad cA h adm cAm yO kO tA tD t1 tM H1 := by
  obtain ⟨gla9, gfr9, gra9, grc9, gln9, gcn9, glr9, ce9, ef9, hA9, hB9, hC9, hbx9, hD9⟩ := hF
  have hdx9 : cd_DX gfr9 gln9 glr9 (f1 30).toInt t1.2.2 := by rw [hT1]; exact cd_DX_up hbx9 (show (0 : Int) ≤ (fv 30).toInt from (hX.2.1 30).1) h0a hX.2.2.2.2.1
  have hkp : ∀ q, q < H.size → (∀ k : Nat, (adX ob ad)[k]? = some q → False) → (0 < (fv 30).toInt → q ≠ wd.2.2.2) → H1[q]? = H[q]? := fun q hq hn hy => hk q hq (fun w => w.elim (fun w => w.elim (fun ⟨k, hk⟩ => hn k hk) (fun w => absurd hq (Nat.not_lt.mpr w))) (fun w => hy w.1 w.2))
  obtain ⟨hl9, he9⟩ := hD9 (fun q => q < H1.size ∧ pX s ob ad h adm yO q) (fun q hq1 hq2 => ⟨ht ▸ hq2, Nat.le_trans hsz hq1, fun k hk => absurd (my_adlt hX.1 hk) (Nat.not_lt.mpr hq1), fun k hk => absurd (my_admlt hM.1 hk) (Nat.not_lt.mpr hq1), fun w => absurd (ls_lt hO) (Nat.not_lt.mpr (w ▸ hq1))⟩) (lsN_mono hL (fun q w => ⟨Nat.lt_of_lt_of_le w.1 hz, w.2⟩)) (fun w => ⟨Nat.lt_of_lt_of_le (hE w).1 hz, (hE w).2⟩)
  refine ⟨f1, w1, a1, gv, gw, gr, fO, gla9, gfr9, gra9, grc9, gln9, gcn9, glr9, ce9, ef9, ⟨hP1, h1, h2, h3, hdx9, h4⟩, ⟨hM.1.kept (fun k q hk9 => hkp q.1 (hM.1 k q hk9).lt (fun j hj => hs.2.2.2.2.1 j k q.1 hj (adM_at hk9)) (fun w1 w => (hE w1).2.2.2.1 k (w ▸ adM_at hk9))), hM.2⟩, ls_one hO (hkp yO (ls_lt hO) hs.2.2.2.2.2.1 (fun w1 w => (hE w1).2.2.2.2 w.symm)), ?_, hB9, hC9, hl9, he9⟩
  intro U hU hv
  have h9 := ls_mv (U := U) (hU.trans ht.symm) (Vm.Alike.trans hvm.symm hv) hA9
  rw [ht] at h9
  exact h9
theorem tx_from {ob ad tA tkK tkV tkL : Nat → Nat} {tkB : Nat → Nat → Int32} {tkT : Nat} {A : Nat → Prop} {s U : State} {H : Heap} {locs : List Loc} (h1 : va_Z "WalkingTown$Reader" "TOKENS" "[LWalkingTown$Token;" (.ref tkT) A s s.heap) (h2 : va_T (.object "WalkingTown$Token") tkT 32 (fun j => .ref (tA j)) A s s.heap) (h3 : ∀ j, j < 32 → va_OF "WalkingTown$Token" "text" "Ljava/lang/String;" (.ref (tkK j)) (tA j) A s s.heap ∧ stA (tkK j) (tkV j) (tkL j) (tkB j) A s) (hS : va_S A s.heap H locs) (hB : ∀ q, aX ob ad H.size q → A q) (hU : U.heap = H) (hv : s.vm.Alike U.vm) : txA ob ad tA tkK tkV tkL tkB tkT H.size U := by
  refine ⟨?_, ?_, fun j hj => ⟨?_, st_pass (h3 j hj).2 hS hU hv hB⟩⟩
  · rw [hU]; exact ((h1.kept hS.2.1).narrow hB).moved hv
  · rw [hU]; exact va_T.moved hv ((h2.kept hS.2.1).narrow hB)
  · rw [hU]; exact va_OF.moved hv (((h3 j hj).1.kept hS.2.1).narrow hB)
theorem my_si {i v c : Int32} {J L : Nat} {k : Int} (hi : i.toInt = (J : Int)) (h7 : J + 7 ≤ L) (hL : L ≤ 3584) (e : v = i + c) (hc : c.toInt = k) (h0 : 0 ≤ k) (h6 : k ≤ 6) : vp_in v L := by
  have h9 := iv_addc (a := 0) (b := 3584) e ⟨by omega, by omega⟩ hc (by omega) (by omega)
  exact vp_in_iff.mpr ⟨by omega, by omega⟩
def iSt (s : State) (A : Nat → Prop) (tA : Nat → Nat) (tkK tkV tkL : Nat → Nat) (tkB : Nat → Nat → Int32) (tkT sN : Nat) (tD : Nat) : Prop := va_En RX6 "LWalkingTown$Token;" tkN tkF tA A s s.heap ∧ va_Z "WalkingTown$Reader" "TOKENS" "[LWalkingTown$Token;" (.ref tkT) A s s.heap ∧ va_T (.object "WalkingTown$Token") tkT 32 (fun j => .ref (tA j)) A s s.heap ∧ (∀ j, j < 32 → va_OF "WalkingTown$Token" "text" "Ljava/lang/String;" (.ref (tkK j)) (tA j) A s s.heap ∧ stA (tkK j) (tkV j) (tkL j) (tkB j) A s) ∧ va_Z "java/util/ArrayList" "DEFAULTCAPACITY_EMPTY_ELEMENTDATA" "[Ljava/lang/Object;" (.ref tD) A s s.heap ∧ va_T (.object "java/lang/Object") tD 0 (fun _ => .null) A s s.heap ∧ va_AO "java/lang/Object" s ∧ va_Nw (.castable RX0 "java/lang/Object") s ∧ vx_Zq Bundle.tN "UNASSIGNED_STACK" Bundle.steD A s s.heap ∧ vx_Zq Bundle.tN "SUPPRESSED_SENTINEL" Bundle.listD A s s.heap ∧ vk_R RX11 209 "no such person, or nothing such is told" sN s ∧ va_Nw (.castable ne_N ne_N) s ∧ va_Nw (.declares (Bundle.initS "java/lang/RuntimeException")) s ∧ va_Nw (.declares (Bundle.initS "java/lang/Exception")) s ∧ va_Nw (.declares (Bundle.initS "java/lang/Throwable")) s ∧ rd_hx tkL tkB

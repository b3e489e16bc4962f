def mm_w0 (D T : Nat → Nat → Int32) (w : Nat) : Nat → Nat → Int32 := mo_se (mo_se (mo_se (mo_se T 10 w (D 8 w)) 11 w (-1)) 8 w 0) 9 w 0
def mm_p0 (D T : Nat → Nat → Int32) (p : Nat) : Nat → Nat → Int32 := mo_se (mo_se (mo_se (mo_se (mo_se T 6 p 0) 14 p (D 0 p)) 2 p (-1)) 3 p 0) 4 p 0
def mm_k0 (T : Nat → Nat → Int32) (k : Nat) : Nat → Nat → Int32 := mo_se T 12 k (-1)
def mm_Ts (D T : Nat → Nat → Int32) (np nw nt : Nat) : Nat → Nat → Int32 := mo_fo mm_k0 (mo_fo (mm_p0 D) (mo_fo (mm_w0 D) T nw) np) nt
theorem mm_D_84 {w9 : Nat → Int32} {f f1 : Nat → Int32} {ar : Nat → Nat → Int32} {x : Int32} (e : f1 = upd f 84 x) (n : Nat) (h : n ≠ 19) : mm_D w9 f1 ar n = mm_D w9 f ar n := by
  subst e
  unfold mm_D
  split <;> first
    | rfl
    | (exfalso; omega)
theorem mm_wh_84 {w9 : Nat → Int32} {f f1 : Nat → Int32} {ar : Nat → Nat → Int32} {x : Int32} (e : f1 = upd f 84 x) (h : mo_wh (mm_D w9 f ar)) : mo_wh (mm_D w9 f1 ar) := by
  intro k hk
  have e35 : f1 35 = f 35 := by rw [e]; rfl
  have e34 : f1 34 = f 34 := by rw [e]; rfl
  have hk2 : k < (f1 35).toInt.toNat := hk
  rw [e35] at hk2
  have h9 := h k hk2
  show 0 ≤ (ar 25 k).toInt ∧ (ar 25 k).toInt < (f1 34).toInt
  rw [e34]; exact h9
def mm_dk (fv : Nat → Int32) (ar : Nat → Nat → Int32) : Int32 := if (cd_nw (fun i => (ar 49 (i - 1)).toInt) (fv 3).toInt ((fv 58).toInt.toNat)).1 = 0 then 0 else ar 48 ((cd_nw (fun i => (ar 49 (i - 1)).toInt) (fv 3).toInt ((fv 58).toInt.toNat)).1 - 1)
theorem mm_dk_0 {fv : Nat → Int32} {ar : Nat → Nat → Int32} {b : Int} (h : b + 1 = (((cd_nw (fun i => (ar 49 (i - 1)).toInt) (fv 3).toInt ((fv 58).toInt.toNat)).1 : Nat) : Int)) (hb : b = -1) : (0 : Int32) = mm_dk fv ar := by
  unfold mm_dk; rw [if_pos (by omega)]
theorem mm_dk_v {fv : Nat → Int32} {ar : Nat → Nat → Int32} {b : Int} {v : Int32} (h : b + 1 = (((cd_nw (fun i => (ar 49 (i - 1)).toInt) (fv 3).toInt ((fv 58).toInt.toNat)).1 : Nat) : Int)) (hb : 0 ≤ b) (hv : v = ar 48 b.toNat) : v = mm_dk fv ar := by
  unfold mm_dk; rw [if_neg (by omega), hv]; exact congrArg (ar 48) (by omega)
theorem mm_sb {x y : Int32} (h1 : -1000 ≤ x.toInt ∧ x.toInt ≤ 1000) (h2 : -1000 ≤ y.toInt ∧ y.toInt ≤ 1000) : (x - y).toInt = x.toInt - y.toInt := by
  rw [Int32.toInt_sub, iv_bm (by omega) (by omega)]
theorem mm_lt_n {c b l : Int32} (hc : c.toInt = -1) (hb : 0 ≤ b.toInt ∧ b.toInt ≤ 719) (hl : l = 840 - b) : l = mo_late c b := by
  have h8 : (840 : Int32).toInt = 840 := by decide
  have h9 := mm_sb (x := 840) (y := b) (by omega) (by omega)
  unfold mo_late; rw [if_pos hc, if_pos (by omega)]; exact hl
theorem mm_lt_l {c b l : Int32} (hr : -1 ≤ c.toInt ∧ c.toInt ≤ 840) (hc : ¬ c.toInt = -1) (hb : 0 ≤ b.toInt ∧ b.toInt ≤ 719) (hg : b.toInt < c.toInt) (hl : l = c - b) : l = mo_late c b := by
  have h9 := mm_sb (x := c) (y := b) (by omega) (by omega)
  unfold mo_late; rw [if_neg hc, if_pos (by omega)]; exact hl
theorem mm_lt_0 {c b l : Int32} (hr : -1 ≤ c.toInt ∧ c.toInt ≤ 840) (hc : ¬ c.toInt = -1) (hb : 0 ≤ b.toInt ∧ b.toInt ≤ 719) (hg : c.toInt ≤ b.toInt) (hl : l = 0) : l = mo_late c b := by
  have h9 := mm_sb (x := c) (y := b) (by omega) (by omega)
  unfold mo_late; rw [if_neg hc, if_neg (by omega)]; exact hl
theorem mm_wgI {dk wg lt pay v : Int32} (hp : pay = wg - dk * (lt / 10)) (hv : (pay.toInt < 0 → v = 0) ∧ (0 ≤ pay.toInt → v = pay)) : v = mo_wage dk wg lt := by
  unfold mo_wage
  rw [← hp]
  by_cases q : 0 < pay.toInt
  · rw [if_pos q]; exact hv.2 (by omega)
  · rw [if_neg q]
    by_cases c : pay.toInt < 0
    · exact hv.1 c
    · rw [hv.2 (by omega)]
      exact Int32.toInt_inj.mp (by rw [show (0 : Int32).toInt = 0 from by decide]; omega)
theorem mm_puI {pu pay s v : Int32} (hs : s = pu + pay) (hv : (100000 < s.toInt → v = 100000) ∧ (s.toInt ≤ 100000 → v = s)) : v = mo_pur pu pay := by
  unfold mo_pur
  rw [← hs]
  by_cases q : 100000 < s.toInt
  · rw [if_pos q]; exact hv.1 q
  · rw [if_neg q]; exact hv.2 (by omega)
def mm_sp (aE a1 : Nat → Nat → Int32) (wg bg : Nat → Int32) (dk : Int32) (n : Nat) : Prop := ∀ i : Nat, a1 73 i = (if i < n then mo_late (aE 72 i) (bg i) else aE 73 i) ∧ a1 16 i = (if i < n then mo_pur (aE 16 i) (mo_wage dk (wg i) (mo_late (aE 72 i) (bg i))) else aE 16 i)
theorem mm_sp_0 {aE a1 : Nat → Nat → Int32} {wg bg : Nat → Int32} {dk : Int32} (h73 : a1 73 = aE 73) (h16 : a1 16 = aE 16) : mm_sp aE a1 wg bg dk 0 := fun i => ⟨by rw [if_neg (Nat.not_lt_zero i), h73], by rw [if_neg (Nat.not_lt_zero i), h16]⟩
theorem mm_sp_s {aE a1 a2 : Nat → Nat → Int32} {wg bg : Nat → Int32} {dk l v : Int32} {n : Nat} (h : mm_sp aE a1 wg bg dk n) (h73 : ∀ i, a2 73 i = if i = n then l else a1 73 i) (h16 : ∀ i, a2 16 i = if i = n then v else a1 16 i) (hl : l = mo_late (aE 72 n) (bg n)) (hv : v = mo_pur (aE 16 n) (mo_wage dk (wg n) (mo_late (aE 72 n) (bg n)))) : mm_sp aE a2 wg bg dk (n + 1) := by
  intro i
  rw [h73 i, h16 i, (h i).1, (h i).2]
  by_cases q : i = n
  · subst q
    rw [if_pos rfl, if_pos (Nat.lt_succ_self i), if_pos rfl, if_pos (Nat.lt_succ_self i)]
    exact ⟨hl, hv⟩
  · by_cases c : i < n
    · rw [if_neg q, if_pos c, if_pos (by omega), if_neg q, if_pos c, if_pos (by omega)]; exact ⟨rfl, rfl⟩
    · rw [if_neg q, if_neg c, if_neg (by omega), if_neg q, if_neg c, if_neg (by omega)]; exact ⟨rfl, rfl⟩
theorem mm_sp_at {aE a1 : Nat → Nat → Int32} {wg bg : Nat → Int32} {dk : Int32} {n : Nat} (h : mm_sp aE a1 wg bg dk n) : a1 73 n = aE 73 n ∧ a1 16 n = aE 16 n := ⟨by rw [(h n).1, if_neg (Nat.lt_irrefl n)], by rw [(h n).2, if_neg (Nat.lt_irrefl n)]⟩
theorem mm_up2 {a b c : Nat → Int32} {n : Nat} {v1 v2 : Int32} (h1 : ∀ i, b i = if i = n then v1 else a i) (h2 : ∀ i, c i = if i = n then v2 else b i) : ∀ i, c i = if i = n then v2 else a i := fun i => by
  rw [h2 i, h1 i]
  by_cases q : i = n
  · rw [if_pos q, if_pos q]
  · rw [if_neg q, if_neg q, if_neg q]
theorem mm_T_but {M N : List Nat} {f f1 : Nat → Int32} {a a1 : Nat → Nat → Int32} (hf : fM M f f1) (ha : fA N a a1) (hM : M.contains 36 = false) (hN : ([15, 72, 74, 75, 71, 68, 24, 78, 79, 76, 77, 80, 69, 70, 18] : List Nat).all (fun k => !N.contains k) = true) : ∀ r, r ≠ 0 → mm_T f1 a1 r = mm_T f a r := by
  intro j hj
  by_cases c : j = 13
  · subst c
    funext i
    show (if i = 0 then f1 36 else 0) = (if i = 0 then f 36 else 0)
    rw [hf 36 hM]
  · by_cases q : j < 17
    · rw [mm_T_k f1 a1 j q c, mm_T_k f a j q c]
      have h : j = 1 ∨ j = 2 ∨ j = 3 ∨ j = 4 ∨ j = 5 ∨ j = 6 ∨ j = 7 ∨ j = 8 ∨ j = 9 ∨ j = 10 ∨ j = 11 ∨ j = 12 ∨ j = 14 ∨ j = 15 ∨ j = 16 := by omega
      rcases h with h | h | h | h | h | h | h | h | h | h | h | h | h | h | h <;> subst h <;> exact ha _ (mm_nin hN (by decide))
    · rw [mm_T_17 (by omega), mm_T_17 (by omega)]
theorem mm_ot_y {D S : Nat → Nat → Int32} {n : Nat} {v : Int} (h : (S 2 n).toInt ≠ -1 ∧ (S 2 n).toInt ≤ (D 3 n).toInt) (hv : v = mo_ot D S n + 1) : v = mo_ot D S (n + 1) := by
  show v = if _ then _ else _
  rw [if_pos h]; exact hv
theorem mm_ot_n {D S : Nat → Nat → Int32} {n : Nat} {v : Int} (h : ¬ ((S 2 n).toInt ≠ -1 ∧ (S 2 n).toInt ≤ (D 3 n).toInt)) (hv : v = mo_ot D S n) : v = mo_ot D S (n + 1) := by
  show v = if _ then _ else _
  rw [if_neg h]; exact hv
theorem mm_D_se {w9 : Nat → Int32} {f : Nat → Int32} {ar : Nat → Nat → Int32} {x : Int32} : mm_D w9 (upd f 84 x) ar = mo_se (mm_D w9 f ar) 19 5 x := by
  funext r i
  rw [mo_se_at]
  by_cases h : r = 19
  · subst h
    by_cases c : i = 5
    · subst c; rfl
    · rw [if_neg (fun w => c w.2)]
      have h6 : i = 0 ∨ i = 1 ∨ i = 2 ∨ i = 3 ∨ i = 4 ∨ 6 ≤ i := by omega
      rcases h6 with h6 | h6 | h6 | h6 | h6 | h6
      · subst h6; rfl
      · subst h6; rfl
      · subst h6; rfl
      · subst h6; rfl
      · subst h6; rfl
      · obtain ⟨k, rfl⟩ : ∃ k, i = k + 6 := ⟨i - 6, by omega⟩
        rfl
  · rw [if_neg (fun w => h w.1)]
    exact congrFun (mm_D_84 (f := f) rfl r h) i
theorem mm_dk_fr {M N : List Nat} {f f1 : Nat → Int32} {a a1 : Nat → Nat → Int32} (hf : fM M f f1) (ha : fA N a a1) (hM : ([3, 58] : List Nat).all (fun k => !M.contains k) = true) (hN : ([48, 49] : List Nat).all (fun k => !N.contains k) = true) : mm_dk f1 a1 = mm_dk f a := by
  unfold mm_dk
  rw [hf 3 (mm_nin hM (by decide)), hf 58 (mm_nin hM (by decide)), ha 48 (mm_nin hN (by decide)), ha 49 (mm_nin hN (by decide))]
theorem mo_ot_cg {D D1 S S1 : Nat → Nat → Int32} (h2 : S1 2 = S 2) (h3 : D1 3 = D 3) : ∀ n, mo_ot D1 S1 n = mo_ot D S n
  | 0 => rfl
  | n + 1 => by
    show (if (S1 2 n).toInt ≠ -1 ∧ (S1 2 n).toInt ≤ (D1 3 n).toInt then mo_ot D1 S1 n + 1 else mo_ot D1 S1 n) = (if (S 2 n).toInt ≠ -1 ∧ (S 2 n).toInt ≤ (D 3 n).toInt then mo_ot D S n + 1 else mo_ot D S n)
    rw [h2, h3, mo_ot_cg h2 h3 n]
def mm_kp (a0 b c : Nat → Int32) (n0 n : Nat) : Prop := ∀ j : Nat, c j = if n0 ≤ j ∧ j < n0 + n then b (j - n0) else a0 j
theorem mm_kp_0 (a0 b : Nat → Int32) (n0 : Nat) : mm_kp a0 b a0 n0 0 := fun j => by rw [if_neg (by omega)]
theorem mm_kp_s {a0 b c c1 : Nat → Int32} {n0 n : Nat} {v : Int32} (h : mm_kp a0 b c n0 n) (h1 : ∀ j, c1 j = if j = n0 + n then v else c j) (hv : v = b n) : mm_kp a0 b c1 n0 (n + 1) := by
  intro j
  rw [h1 j, h j]
  by_cases q : j = n0 + n
  · rw [if_pos q, if_pos (by omega), hv]; exact congrArg b (by omega)
  · by_cases c : n0 ≤ j ∧ j < n0 + n
    · rw [if_neg q, if_pos c, if_pos (by omega)]
    · rw [if_neg q, if_neg c, if_neg (by omega)]
theorem mm_kp_out {a0 b c : Nat → Int32} {n0 n j : Nat} (h : mm_kp a0 b c n0 n) (hj : j < n0 ∨ n0 + n ≤ j) : c j = a0 j := by rw [h j, if_neg (by omega)]
theorem mm_kp_in {a0 b c : Nat → Int32} {n0 n j i : Nat} (h : mm_kp a0 b c n0 n) (hj : j = n0 + i) (hi : i < n) : c j = b i := by rw [h j, if_pos (by omega)]; exact congrArg b (by omega)
def mm_pb (a0 b c : Nat → Int32) (n0 n : Nat) : Prop := ∀ j : Nat, c j = if j < n then b (n0 + j) else a0 j
theorem mm_pb_0 (a0 b : Nat → Int32) (n0 : Nat) : mm_pb a0 b a0 n0 0 := fun j => by rw [if_neg (by omega)]
theorem mm_pb_s {a0 b c c1 : Nat → Int32} {n0 n : Nat} {v : Int32} (h : mm_pb a0 b c n0 n) (h1 : ∀ j, c1 j = if j = n then v else c j) (hv : v = b (n0 + n)) : mm_pb a0 b c1 n0 (n + 1) := by
  intro j
  rw [h1 j, h j]
  by_cases q : j = n
  · rw [if_pos q, if_pos (by omega), hv, q]
  · by_cases c : j < n
    · rw [if_neg q, if_pos c, if_pos (by omega)]
    · rw [if_neg q, if_neg c, if_neg (by omega)]
def mm_cp (a0 b c : Nat → Int32) (n : Nat) : Prop := ∀ j : Nat, c j = if j < n then b j else a0 j
theorem mm_cp_0 (a0 b : Nat → Int32) : mm_cp a0 b a0 0 := fun j => by rw [if_neg (by omega)]
theorem mm_cp_s {a0 b c c1 : Nat → Int32} {n : Nat} {v : Int32} (h : mm_cp a0 b c n) (h1 : ∀ j, c1 j = if j = n then v else c j) (hv : v = b n) : mm_cp a0 b c1 (n + 1) := by
  intro j
  rw [h1 j, h j]
  by_cases q : j = n
  · rw [if_pos q, if_pos (by omega), hv, q]
  · by_cases c : j < n
    · rw [if_neg q, if_pos c, if_pos (by omega)]
    · rw [if_neg q, if_neg c, if_neg (by omega)]
theorem mm_tn {x y n : Int32} (h0 : 0 ≤ x.toInt) (hn : 0 ≤ n.toInt) (h : y.toInt = x.toInt + n.toInt) : y.toInt.toNat = x.toInt.toNat + n.toInt.toNat := by omega

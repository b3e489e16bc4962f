theorem rd_s_lim (b : Nat → Int) {m n : Nat} (hmn : m ≤ n) : ∀ f p, m - p = f → p ≤ m → rd_s b m p = if rd_s b n p < m then rd_s b n p else m := by
  intro f
  induction f with
  | zero =>
    intro p h0 h1
    have e : p = m := by omega
    have h2 := rd_s_le b n p
    rw [rd_s0 (fun w => by omega), if_neg (by omega), e]
  | succ f ih =>
    intro p h0 h1
    by_cases h : b p = 32 ∨ b p = 10
    · rw [rd_s1 (by omega) h, rd_s1 (n := n) (by omega) h]
      exact ih (p + 1) (by omega) (by omega)
    · rw [rd_s0 (fun w => h w.2), rd_s0 (n := n) (fun w => h w.2), if_pos (by omega)]
theorem rd_stM {b : Nat → Int} {n k q : Nat} (hq : rd_s b n (rd_en b n k) = q) : (q < rd_lim n → rd_st b n k = q) ∧ (rd_lim n ≤ q → rd_lim n ≤ rd_st b n k) := by
  have hl := rd_lim_le n
  have h0 : rd_st b n k = rd_s b (rd_lim n) (rd_en b n k) := rfl
  have h2 := rd_s_le b n (rd_en b n k)
  rcases Nat.lt_or_ge (rd_lim n) (rd_en b n k) with h | h
  · rw [h0, rd_s0 (fun w => by omega)]
    exact ⟨fun w => by omega, fun _ => by omega⟩
  · rw [h0, rd_s_lim b hl.1 _ _ rfl h, hq]
    by_cases w : q < rd_lim n
    · rw [if_pos w]; exact ⟨fun _ => rfl, fun _ => by omega⟩
    · rw [if_neg w]; exact ⟨fun _ => by omega, fun _ => Nat.le_refl _⟩
def rd_an (c : Int) : Prop := rd_l c = true ∨ rd_d c = true
theorem rd_l_d {c : Int} (h : rd_l c = true) : ¬ rd_d c = true := by
  intro w
  have h1 := of_decide_eq_true h
  have h2 := of_decide_eq_true w
  omega
def rd_wm (b : Nat → Int) (a m : Nat) (gd lt nu : Int32) (w : Int64) : Prop := (∀ i, i < m → rd_an (b (a + i))) ∧ ((lt.toInt = 1 ∧ rd_l (b a) = true) ∨ (lt.toInt = 0 ∧ rd_d (b a) = true)) ∧ (m = 0 ∨ (lt.toInt = 1 ∧ rd_c b a m < m) ∨ (lt.toInt = 0 ∧ 0 < rd_c b a m)) ∧ (gd.toInt = 1 → lt.toInt = 1 → rd_c b a m = 0 ∧ (m ≤ 8 → w.toInt = rd_u (rd_tx b a m))) ∧ (gd.toInt = 1 → lt.toInt = 0 → rd_c b a m = m ∧ (m ≤ 4 → nu.toInt = rd_nb b a m)) ∧ (gd.toInt = 0 → 0 < rd_c b a m ∧ rd_c b a m < m) ∧ (gd.toInt = 0 ∨ gd.toInt = 1)
theorem rd_u_ub : ∀ l : List Int, (∀ d ∈ l, 97 ≤ d ∧ d ≤ 122) → rd_u l + 1 ≤ (27 : Int) ^ l.length := by
  intro l
  induction l with
  | nil => intro _; show (0 : Int) + 1 ≤ 27 ^ 0; decide
  | cons d r ih =>
    intro h
    have h1 := ih (fun x hx => h x (List.mem_cons_of_mem _ hx))
    have h2 := h d (List.mem_cons_self ..)
    show 27 * rd_u r + (d - 96) + 1 ≤ (27 : Int) ^ (r.length + 1)
    rw [Int.pow_succ]
    omega
theorem rd_u_8 {l : List Int} (h : ∀ d ∈ l, 97 ≤ d ∧ d ≤ 122) (hl : l.length ≤ 8) : 0 ≤ rd_u l ∧ rd_u l ≤ 20000000000000 := by
  have h1 := rd_u_ub l h
  have h2 : ∀ n : Nat, n ≤ 8 → (27 : Int) ^ n ≤ 282429536481 := by decide +kernel
  have h3 := h2 l.length hl
  exact ⟨rd_u_pos l h, by omega⟩
theorem rd_wm_0 {b : Nat → Int} {a : Nat} {gd lt nu : Int32} {w : Int64} (h : (lt.toInt = 1 ∧ rd_l (b a) = true) ∨ (lt.toInt = 0 ∧ rd_d (b a) = true)) (hg : gd.toInt = 1) (hw : w.toInt = 0) (hn : nu.toInt = 0) : rd_wm b a 0 gd lt nu w :=
  ⟨fun i hi => absurd hi (Nat.not_lt_zero i), h, Or.inl rfl, fun _ _ => ⟨rfl, fun _ => hw⟩, fun _ _ => ⟨rfl, fun _ => hn⟩, fun q => by omega, Or.inr hg⟩
theorem rd_wm_s {b : Nat → Int} {a m : Nat} {gd lt nu gd1 nu1 : Int32} {w w1 : Int64} (h : rd_wm b a m gd lt nu w) (hd : (rd_l (b (a + m)) = true ∧ (gd1.toInt = 1 ↔ (gd.toInt = 1 ∧ lt.toInt = 1))) ∨ (rd_d (b (a + m)) = true ∧ (gd1.toInt = 1 ↔ (gd.toInt = 1 ∧ lt.toInt = 0)))) (hg1 : gd1.toInt = 0 ∨ gd1.toInt = 1) (hw : m < 8 → 0 ≤ w.toInt ∧ w.toInt ≤ 20000000000000 → w1.toInt = 27 * w.toInt + (b (a + m) - 96)) (hn : m < 4 → 0 ≤ nu.toInt ∧ nu.toInt ≤ 999 → nu1.toInt = 10 * nu.toInt + (b (a + m) - 48)) : rd_wm b a (m + 1) gd1 lt nu1 w1 := by
  obtain ⟨h1, h2, h3, h4, h5, h6, h7⟩ := h
  have ha : ∀ i, i < m + 1 → rd_an (b (a + i)) := by
    intro i hi
    by_cases q : i = m
    · rw [q]; exact hd.elim (fun w => Or.inl w.1) (fun w => Or.inr w.1)
    · exact h1 i (by omega)
  have hle := rd_c_le b a m
  rcases hd with ⟨c1, c2⟩ | ⟨c1, c2⟩
  · have e := rd_c_n (m := m) (rd_l_d c1)
    have hm0 : m = 0 → lt.toInt = 1 := by
      intro q
      rw [q] at c1
      rcases h2 with w | w
      · exact w.1
      · exact absurd w.2 (rd_l_d c1)
    refine ⟨ha, h2, Or.inr ?_, fun q1 q2 => ?_, fun q1 q2 => ?_, fun q1 => ?_, hg1⟩
    · rw [e]; omega
    · have q3 := c2.mp q1
      have q4 := h4 q3.1 q3.2
      refine ⟨by rw [e]; exact q4.1, fun q5 => ?_⟩
      have hu := rd_u_8 (rd_tx_all m q4.1 h1) (by rw [rd_tx_len]; omega)
      rw [← q4.2 (by omega)] at hu
      rw [hw (by omega) hu, q4.2 (by omega)]; rfl
    · have q3 := c2.mp q1
      omega
    · have q3 : ¬ (gd.toInt = 1 ∧ lt.toInt = 1) := fun w => by have := c2.mpr w; omega
      rw [e]
      rcases h7 with w | w
      · have := h6 w; omega
      · have q4 : lt.toInt = 0 := by omega
        have q5 := (h5 w q4).1
        omega
  · have e := rd_c_d (m := m) c1
    have hm0 : m = 0 → lt.toInt = 0 := by
      intro q
      rw [q] at c1
      rcases h2 with w | w
      · exact absurd c1 (rd_l_d w.2)
      · exact w.1
    refine ⟨ha, h2, Or.inr ?_, fun q1 q2 => ?_, fun q1 q2 => ?_, fun q1 => ?_, hg1⟩
    · rw [e]; omega
    · have q3 := c2.mp q1
      omega
    · have q3 := c2.mp q1
      have q4 := h5 q3.1 q3.2
      refine ⟨by rw [e]; omega, fun q5 => ?_⟩
      have hu1 := rd_nb_0 b a m
      have hu2 := rd_nb_3 b a m (by omega)
      rw [← q4.2 (by omega)] at hu1 hu2
      rw [hn (by omega) ⟨hu1, hu2⟩, rd_nb_d c1, q4.2 (by omega)]
      omega
    · have q3 : ¬ (gd.toInt = 1 ∧ lt.toInt = 0) := fun w => by have := c2.mpr w; omega
      rw [e]
      rcases h7 with w | w
      · have := h6 w; omega
      · have q4 : lt.toInt = 1 := by omega
        have q5 := (h4 w q4).1
        omega
theorem rd_n32 {nu d x y z : Int32} (e1 : x = 10 * nu) (e2 : y = x + d) (e3 : z = y - 48) (h : 0 ≤ nu.toInt ∧ nu.toInt ≤ 999) (hd : 0 ≤ d.toInt ∧ d.toInt ≤ 255) : z.toInt = 10 * nu.toInt + (d.toInt - 48) := by
  have h1 := iv_mulc (k := 10) e1 h (by decide) (by decide) (by decide) (by decide)
  have h2 := iv_add e2 h1.2 hd (by decide) (by decide)
  have h3 := iv_subc (k := 48) e3 h2.2 (by decide) (by decide) (by decide)
  omega
def rd_bt (n : Int) (f : Nat → Int32) (pp r : Int32) : Prop := (pp.toInt < n ∧ r = f pp.toInt.toNat) ∨ (¬ pp.toInt < n ∧ r.toInt = 0)
def rd_h2 (b : Nat → Int) (a : Nat) (lt : Int32) : Prop := (lt.toInt = 1 ∧ rd_l (b a) = true) ∨ (lt.toInt = 0 ∧ rd_d (b a) = true)
def rd_hd2 (c : Int) (gd lt gd1 : Int32) : Prop := (rd_l c = true ∧ (gd1.toInt = 1 ↔ (gd.toInt = 1 ∧ lt.toInt = 1))) ∨ (rd_d c = true ∧ (gd1.toInt = 1 ↔ (gd.toInt = 1 ∧ lt.toInt = 0)))
theorem rd_hd_0 {c : Int} {gd lt gd1 : Int32} (h : rd_an c) (h0 : gd.toInt = 0) (h1 : gd1.toInt = 0) : rd_hd2 c gd lt gd1 :=
  h.elim (fun w => Or.inl ⟨w, ⟨fun q => by omega, fun q => by omega⟩⟩) (fun w => Or.inr ⟨w, ⟨fun q => by omega, fun q => by omega⟩⟩)
theorem rd_hd_an {c : Int} {gd lt gd1 : Int32} (h : rd_hd2 c gd lt gd1) : rd_l c = true ∨ rd_d c = true := h.elim (fun w => Or.inl w.1) (fun w => Or.inr w.1)
def rd_hw (m : Nat) (c : Int) (w w1 : Int64) : Prop := m < 8 → 0 ≤ w.toInt ∧ w.toInt ≤ 20000000000000 → w1.toInt = 27 * w.toInt + (c - 96)
def rd_hn (m : Nat) (c : Int) (nu nu1 : Int32) : Prop := m < 4 → 0 ≤ nu.toInt ∧ nu.toInt ≤ 999 → nu1.toInt = 10 * nu.toInt + (c - 48)
set_option maxHeartbeats 4000000 in
set_option maxRecDepth 100000 in
theorem m_isLetterC (l : Launch) (sz : Nat) (v : Int32) : Met l yX12_isLetter (.code yX12_isLetter cX12_isLetter 1 (some .boolean) :: lw_good) ({ frames := 2, cells := 0, slots := 0, locals := 40 }) (va_Pc [.int v] (fun U => U.heap.size = sz)) (va_Qi (fun (r : Int32) (_ : Unit) => (0 ≤ r.toInt ∧ r.toInt ≤ 1) ∧ ((r = 0 ∧ (¬ (97 ≤ v.toInt ∧ v.toInt ≤ 122))) ∨ (r = 1 ∧ (97 ≤ v.toInt) ∧ (v.toInt ≤ 122))) ∧ True) (fun (_ : Unit) (_ : State) => True) (fun q => sz ≤ q)) 0 0 (fun q => sz ≤ q) := by
  refine Met.ofW (cc := cX12_isLetter) (maxL := 1) (ret := (some .boolean)) (by decide) rfl ?_
  intro p e s m args below meth c s₁ B hml hv
  obtain ⟨rfl, hsz⟩ := hv
  have hx := B.exec
  have hb := B.bytes
  have hr := B.returns
  have hts := atoms_spec (ws := (.code yX12_isLetter cX12_isLetter 1 (some .boolean) :: lw_good)) B.pre
  have htg : ∀ w ∈ lw_good, w.before _ s = true := fun w hw => hts w (List.mem_cons_of_mem _ hw)
  have hown : s.vm.findClass RX12 = some m.cls := findClass_of_methodNamed B.named
  have hlocks := B.notSynchronized
  subst hsz
  have hS : va_S (fun q => s.heap.size ≤ q) s.heap s.heap [] := va_S.rf
  have hl := lv_entry ([.int v]) (n := 1) (Nat.le_of_ble_eq_true rfl)
  rw [lg_entry_eq]
  generalize (lg_sl ([.int v]) ++ List.replicate (1 - (lg_sl ([.int v])).length) Slot.unset).toArray = ls at hl ⊢
  have hl : lv_has ls 1 [(0, .int v)] := hl
  refine lv_iload_n hx hb dX12_isLetter_0 rfl (lv_at hl 0 rfl) ?_
  refine lv_bipush (v := 97) hx hb dX12_isLetter_1 (by decide) ?_
  refine lv_icmp_lt (tgt := 16) hx hb dX12_isLetter_3 (by decide) (fun c_1 => ?_) (fun c_1 => ?_)
  · skip
    have i_2 : (-2147483648) ≤ v.toInt ∧ v.toInt ≤ 96 := iv_lt1 (iv_any v) (⟨by decide, by decide⟩ : (97 : Int) ≤ (97 : Int32).toInt ∧ (97 : Int32).toInt ≤ 97) c_1
    refine lv_iconst (v := 0) hx hb dX12_isLetter_16 (by decide) ?_
    exact W.zret (v := 0) hx hb hr (by decide) (fun t ht hW => ⟨⟨0, (), rfl, ⟨(iv_w (⟨by decide, by decide⟩ : (0 : Int) ≤ (0 : Int32).toInt ∧ (0 : Int32).toInt ≤ 0) (by decide) (by decide)), (Or.inl ⟨rfl, by omega⟩), trivial⟩, trivial⟩, hS.F ht⟩) hS.2.2 dX12_isLetter_17
  · skip
    have i_3 : 97 ≤ v.toInt ∧ v.toInt ≤ 2147483647 := iv_le2 (⟨by decide, by decide⟩ : (97 : Int) ≤ (97 : Int32).toInt ∧ (97 : Int32).toInt ≤ 97) (iv_any v) (Int32.not_lt.mp c_1)
    refine lv_iload_n hx hb dX12_isLetter_6 rfl (lv_at hl 0 rfl) ?_
    refine lv_bipush (v := 122) hx hb dX12_isLetter_7 (by decide) ?_
    refine lv_icmp_gt (tgt := 16) hx hb dX12_isLetter_9 (by decide) (fun c_4 => ?_) (fun c_4 => ?_)
    · skip
      have i_5 : 123 ≤ v.toInt ∧ v.toInt ≤ 2147483647 := iv_lt2 (⟨by decide, by decide⟩ : (122 : Int) ≤ (122 : Int32).toInt ∧ (122 : Int32).toInt ≤ 122) i_3 c_4
      refine lv_iconst (v := 0) hx hb dX12_isLetter_16 (by decide) ?_
      exact W.zret (v := 0) hx hb hr (by decide) (fun t ht hW => ⟨⟨0, (), rfl, ⟨(iv_w (⟨by decide, by decide⟩ : (0 : Int) ≤ (0 : Int32).toInt ∧ (0 : Int32).toInt ≤ 0) (by decide) (by decide)), (Or.inl ⟨rfl, by omega⟩), trivial⟩, trivial⟩, hS.F ht⟩) hS.2.2 dX12_isLetter_17
    · skip
      have i_6 : 97 ≤ v.toInt ∧ v.toInt ≤ 122 := iv_le1 i_3 (⟨by decide, by decide⟩ : (122 : Int) ≤ (122 : Int32).toInt ∧ (122 : Int32).toInt ≤ 122) (Int32.not_lt.mp c_4)
      refine lv_iconst (v := 1) hx hb dX12_isLetter_12 (by decide) ?_
      refine lv_goto (tgt := 17) hx hb dX12_isLetter_13 (by decide) ?_
      exact W.zret (v := 1) hx hb hr (by decide) (fun t ht hW => ⟨⟨1, (), rfl, ⟨(iv_w (⟨by decide, by decide⟩ : (1 : Int) ≤ (1 : Int32).toInt ∧ (1 : Int32).toInt ≤ 1) (by decide) (by decide)), (Or.inr (⟨rfl, by omega⟩)), trivial⟩, trivial⟩, hS.F ht⟩) hS.2.2 dX12_isLetter_17
set_option maxHeartbeats 4000000 in
set_option maxRecDepth 100000 in
theorem m_isDigitC (l : Launch) (sz : Nat) (v : Int32) : Met l yX12_isDigit (.code yX12_isDigit cX12_isDigit 1 (some .boolean) :: lw_good) ({ frames := 2, cells := 0, slots := 0, locals := 40 }) (va_Pc [.int v] (fun U => U.heap.size = sz)) (va_Qi (fun (r : Int32) (_ : Unit) => (0 ≤ r.toInt ∧ r.toInt ≤ 1) ∧ ((r = 0 ∧ (¬ (48 ≤ v.toInt ∧ v.toInt ≤ 57))) ∨ (r = 1 ∧ (48 ≤ v.toInt) ∧ (v.toInt ≤ 57))) ∧ True) (fun (_ : Unit) (_ : State) => True) (fun q => sz ≤ q)) 0 0 (fun q => sz ≤ q) := by
  refine Met.ofW (cc := cX12_isDigit) (maxL := 1) (ret := (some .boolean)) (by decide) rfl ?_
  intro p e s m args below meth c s₁ B hml hv
  obtain ⟨rfl, hsz⟩ := hv
  have hx := B.exec
  have hb := B.bytes
  have hr := B.returns
  have hts := atoms_spec (ws := (.code yX12_isDigit cX12_isDigit 1 (some .boolean) :: lw_good)) B.pre
  have htg : ∀ w ∈ lw_good, w.before _ s = true := fun w hw => hts w (List.mem_cons_of_mem _ hw)
  have hown : s.vm.findClass RX12 = some m.cls := findClass_of_methodNamed B.named
  have hlocks := B.notSynchronized
  subst hsz
  have hS : va_S (fun q => s.heap.size ≤ q) s.heap s.heap [] := va_S.rf
  have hl := lv_entry ([.int v]) (n := 1) (Nat.le_of_ble_eq_true rfl)
  rw [lg_entry_eq]
  generalize (lg_sl ([.int v]) ++ List.replicate (1 - (lg_sl ([.int v])).length) Slot.unset).toArray = ls at hl ⊢
  have hl : lv_has ls 1 [(0, .int v)] := hl
  refine lv_iload_n hx hb dX12_isDigit_0 rfl (lv_at hl 0 rfl) ?_
  refine lv_bipush (v := 48) hx hb dX12_isDigit_1 (by decide) ?_
  refine lv_icmp_lt (tgt := 16) hx hb dX12_isDigit_3 (by decide) (fun c_1 => ?_) (fun c_1 => ?_)
  · skip
    have i_2 : (-2147483648) ≤ v.toInt ∧ v.toInt ≤ 47 := iv_lt1 (iv_any v) (⟨by decide, by decide⟩ : (48 : Int) ≤ (48 : Int32).toInt ∧ (48 : Int32).toInt ≤ 48) c_1
    refine lv_iconst (v := 0) hx hb dX12_isDigit_16 (by decide) ?_
    exact W.zret (v := 0) hx hb hr (by decide) (fun t ht hW => ⟨⟨0, (), rfl, ⟨(iv_w (⟨by decide, by decide⟩ : (0 : Int) ≤ (0 : Int32).toInt ∧ (0 : Int32).toInt ≤ 0) (by decide) (by decide)), (Or.inl ⟨rfl, by omega⟩), trivial⟩, trivial⟩, hS.F ht⟩) hS.2.2 dX12_isDigit_17
  · skip
    have i_3 : 48 ≤ v.toInt ∧ v.toInt ≤ 2147483647 := iv_le2 (⟨by decide, by decide⟩ : (48 : Int) ≤ (48 : Int32).toInt ∧ (48 : Int32).toInt ≤ 48) (iv_any v) (Int32.not_lt.mp c_1)
    refine lv_iload_n hx hb dX12_isDigit_6 rfl (lv_at hl 0 rfl) ?_
    refine lv_bipush (v := 57) hx hb dX12_isDigit_7 (by decide) ?_
    refine lv_icmp_gt (tgt := 16) hx hb dX12_isDigit_9 (by decide) (fun c_4 => ?_) (fun c_4 => ?_)
    · skip
      have i_5 : 58 ≤ v.toInt ∧ v.toInt ≤ 2147483647 := iv_lt2 (⟨by decide, by decide⟩ : (57 : Int) ≤ (57 : Int32).toInt ∧ (57 : Int32).toInt ≤ 57) i_3 c_4
      refine lv_iconst (v := 0) hx hb dX12_isDigit_16 (by decide) ?_
      exact W.zret (v := 0) hx hb hr (by decide) (fun t ht hW => ⟨⟨0, (), rfl, ⟨(iv_w (⟨by decide, by decide⟩ : (0 : Int) ≤ (0 : Int32).toInt ∧ (0 : Int32).toInt ≤ 0) (by decide) (by decide)), (Or.inl ⟨rfl, by omega⟩), trivial⟩, trivial⟩, hS.F ht⟩) hS.2.2 dX12_isDigit_17
    · skip
      have i_6 : 48 ≤ v.toInt ∧ v.toInt ≤ 57 := iv_le1 i_3 (⟨by decide, by decide⟩ : (57 : Int) ≤ (57 : Int32).toInt ∧ (57 : Int32).toInt ≤ 57) (Int32.not_lt.mp c_4)
      refine lv_iconst (v := 1) hx hb dX12_isDigit_12 (by decide) ?_
      refine lv_goto (tgt := 17) hx hb dX12_isDigit_13 (by decide) ?_
      exact W.zret (v := 1) hx hb hr (by decide) (fun t ht hW => ⟨⟨1, (), rfl, ⟨(iv_w (⟨by decide, by decide⟩ : (1 : Int) ≤ (1 : Int32).toInt ∧ (1 : Int32).toInt ≤ 1) (by decide) (by decide)), (Or.inr (⟨rfl, by omega⟩)), trivial⟩, trivial⟩, hS.F ht⟩) hS.2.2 dX12_isDigit_17
set_option maxHeartbeats 4000000 in
set_option maxRecDepth 100000 in
theorem m_isMarkC (l : Launch) (sz : Nat) (v : Int32) : Met l yX12_isMark (.code yX12_isMark cX12_isMark 1 (some .boolean) :: lw_good) ({ frames := 2, cells := 0, slots := 0, locals := 40 }) (va_Pc [.int v] (fun U => U.heap.size = sz)) (va_Qi (fun (r : Int32) (_ : Unit) => (0 ≤ r.toInt ∧ r.toInt ≤ 1) ∧ ((r = 0 ∧ (¬ (v.toInt = 59 ∨ v.toInt = 40 ∨ v.toInt = 41 ∨ v.toInt = 60 ∨ v.toInt = 61 ∨ v.toInt = 62))) ∨ (r = 1 ∧ (v.toInt = 59 ∨ v.toInt = 40 ∨ v.toInt = 41 ∨ v.toInt = 60 ∨ v.toInt = 61 ∨ v.toInt = 62))) ∧ True) (fun (_ : Unit) (_ : State) => True) (fun q => sz ≤ q)) 0 0 (fun q => sz ≤ q) := by
  refine Met.ofW (cc := cX12_isMark) (maxL := 1) (ret := (some .boolean)) (by decide) rfl ?_
  intro p e s m args below meth c s₁ B hml hv
  obtain ⟨rfl, hsz⟩ := hv
  have hx := B.exec
  have hb := B.bytes
  have hr := B.returns
  have hts := atoms_spec (ws := (.code yX12_isMark cX12_isMark 1 (some .boolean) :: lw_good)) B.pre
  have htg : ∀ w ∈ lw_good, w.before _ s = true := fun w hw => hts w (List.mem_cons_of_mem _ hw)
  have hown : s.vm.findClass RX12 = some m.cls := findClass_of_methodNamed B.named
  have hlocks := B.notSynchronized
  subst hsz
  have hS : va_S (fun q => s.heap.size ≤ q) s.heap s.heap [] := va_S.rf
  have hl := lv_entry ([.int v]) (n := 1) (Nat.le_of_ble_eq_true rfl)
  rw [lg_entry_eq]
  generalize (lg_sl ([.int v]) ++ List.replicate (1 - (lg_sl ([.int v])).length) Slot.unset).toArray = ls at hl ⊢
  have hl : lv_has ls 1 [(0, .int v)] := hl
  refine lv_iload_n hx hb dX12_isMark_0 rfl (lv_at hl 0 rfl) ?_
  refine lv_bipush (v := 59) hx hb dX12_isMark_1 (by decide) ?_
  refine lv_icmp_eq (tgt := 36) hx hb dX12_isMark_3 (by decide) (fun c_1 => ?_) (fun c_1 => ?_)
  · skip
    have i_2 : 59 ≤ v.toInt ∧ v.toInt ≤ 59 := iv_eq1 (⟨by decide, by decide⟩ : (59 : Int) ≤ (59 : Int32).toInt ∧ (59 : Int32).toInt ≤ 59) c_1
    refine lv_iconst (v := 1) hx hb dX12_isMark_36 (by decide) ?_
    refine lv_goto (tgt := 41) hx hb dX12_isMark_37 (by decide) ?_
    exact W.zret (v := 1) hx hb hr (by decide) (fun t ht hW => ⟨⟨1, (), rfl, ⟨(iv_w (⟨by decide, by decide⟩ : (1 : Int) ≤ (1 : Int32).toInt ∧ (1 : Int32).toInt ≤ 1) (by decide) (by decide)), (Or.inr (⟨rfl, by omega⟩)), trivial⟩, trivial⟩, hS.F ht⟩) hS.2.2 dX12_isMark_41
  · skip
    have k_4 : ¬ v.toInt = 59 := fun q => c_1 (Int32.toInt_inj.mp q)
    refine lv_iload_n hx hb dX12_isMark_6 rfl (lv_at hl 0 rfl) ?_
    refine lv_bipush (v := 40) hx hb dX12_isMark_7 (by decide) ?_
    refine lv_icmp_eq (tgt := 36) hx hb dX12_isMark_9 (by decide) (fun c_5 => ?_) (fun c_5 => ?_)
    · skip
      have i_6 : 40 ≤ v.toInt ∧ v.toInt ≤ 40 := iv_eq1 (⟨by decide, by decide⟩ : (40 : Int) ≤ (40 : Int32).toInt ∧ (40 : Int32).toInt ≤ 40) c_5
      refine lv_iconst (v := 1) hx hb dX12_isMark_36 (by decide) ?_
      refine lv_goto (tgt := 41) hx hb dX12_isMark_37 (by decide) ?_
      exact W.zret (v := 1) hx hb hr (by decide) (fun t ht hW => ⟨⟨1, (), rfl, ⟨(iv_w (⟨by decide, by decide⟩ : (1 : Int) ≤ (1 : Int32).toInt ∧ (1 : Int32).toInt ≤ 1) (by decide) (by decide)), (Or.inr (⟨rfl, by omega⟩)), trivial⟩, trivial⟩, hS.F ht⟩) hS.2.2 dX12_isMark_41
    · skip
      have k_8 : ¬ v.toInt = 40 := fun q => c_5 (Int32.toInt_inj.mp q)
      refine lv_iload_n hx hb dX12_isMark_12 rfl (lv_at hl 0 rfl) ?_
      refine lv_bipush (v := 41) hx hb dX12_isMark_13 (by decide) ?_
      refine lv_icmp_eq (tgt := 36) hx hb dX12_isMark_15 (by decide) (fun c_9 => ?_) (fun c_9 => ?_)
      · skip
        have i_10 : 41 ≤ v.toInt ∧ v.toInt ≤ 41 := iv_eq1 (⟨by decide, by decide⟩ : (41 : Int) ≤ (41 : Int32).toInt ∧ (41 : Int32).toInt ≤ 41) c_9
        refine lv_iconst (v := 1) hx hb dX12_isMark_36 (by decide) ?_
        refine lv_goto (tgt := 41) hx hb dX12_isMark_37 (by decide) ?_
        exact W.zret (v := 1) hx hb hr (by decide) (fun t ht hW => ⟨⟨1, (), rfl, ⟨(iv_w (⟨by decide, by decide⟩ : (1 : Int) ≤ (1 : Int32).toInt ∧ (1 : Int32).toInt ≤ 1) (by decide) (by decide)), (Or.inr (⟨rfl, by omega⟩)), trivial⟩, trivial⟩, hS.F ht⟩) hS.2.2 dX12_isMark_41
      · skip
        have k_12 : ¬ v.toInt = 41 := fun q => c_9 (Int32.toInt_inj.mp q)
        refine lv_iload_n hx hb dX12_isMark_18 rfl (lv_at hl 0 rfl) ?_
        refine lv_bipush (v := 60) hx hb dX12_isMark_19 (by decide) ?_
        refine lv_icmp_eq (tgt := 36) hx hb dX12_isMark_21 (by decide) (fun c_13 => ?_) (fun c_13 => ?_)
        · skip
          have i_14 : 60 ≤ v.toInt ∧ v.toInt ≤ 60 := iv_eq1 (⟨by decide, by decide⟩ : (60 : Int) ≤ (60 : Int32).toInt ∧ (60 : Int32).toInt ≤ 60) c_13
          refine lv_iconst (v := 1) hx hb dX12_isMark_36 (by decide) ?_
          refine lv_goto (tgt := 41) hx hb dX12_isMark_37 (by decide) ?_
          exact W.zret (v := 1) hx hb hr (by decide) (fun t ht hW => ⟨⟨1, (), rfl, ⟨(iv_w (⟨by decide, by decide⟩ : (1 : Int) ≤ (1 : Int32).toInt ∧ (1 : Int32).toInt ≤ 1) (by decide) (by decide)), (Or.inr (⟨rfl, by omega⟩)), trivial⟩, trivial⟩, hS.F ht⟩) hS.2.2 dX12_isMark_41
        · skip
          have k_16 : ¬ v.toInt = 60 := fun q => c_13 (Int32.toInt_inj.mp q)
          refine lv_iload_n hx hb dX12_isMark_24 rfl (lv_at hl 0 rfl) ?_
          refine lv_bipush (v := 61) hx hb dX12_isMark_25 (by decide) ?_
          refine lv_icmp_eq (tgt := 36) hx hb dX12_isMark_27 (by decide) (fun c_17 => ?_) (fun c_17 => ?_)
          · skip
            have i_18 : 61 ≤ v.toInt ∧ v.toInt ≤ 61 := iv_eq1 (⟨by decide, by decide⟩ : (61 : Int) ≤ (61 : Int32).toInt ∧ (61 : Int32).toInt ≤ 61) c_17
            refine lv_iconst (v := 1) hx hb dX12_isMark_36 (by decide) ?_
            refine lv_goto (tgt := 41) hx hb dX12_isMark_37 (by decide) ?_
            exact W.zret (v := 1) hx hb hr (by decide) (fun t ht hW => ⟨⟨1, (), rfl, ⟨(iv_w (⟨by decide, by decide⟩ : (1 : Int) ≤ (1 : Int32).toInt ∧ (1 : Int32).toInt ≤ 1) (by decide) (by decide)), (Or.inr (⟨rfl, by omega⟩)), trivial⟩, trivial⟩, hS.F ht⟩) hS.2.2 dX12_isMark_41
          · skip
            have k_20 : ¬ v.toInt = 61 := fun q => c_17 (Int32.toInt_inj.mp q)
            refine lv_iload_n hx hb dX12_isMark_30 rfl (lv_at hl 0 rfl) ?_
            refine lv_bipush (v := 62) hx hb dX12_isMark_31 (by decide) ?_
            refine lv_icmp_ne (tgt := 40) hx hb dX12_isMark_33 (by decide) (fun c_21 => ?_) (fun c_21 => ?_)
            · skip
              have k_22 : ¬ v.toInt = 62 := fun q => c_21 (Int32.toInt_inj.mp q)
              refine lv_iconst (v := 0) hx hb dX12_isMark_40 (by decide) ?_
              exact W.zret (v := 0) hx hb hr (by decide) (fun t ht hW => ⟨⟨0, (), rfl, ⟨(iv_w (⟨by decide, by decide⟩ : (0 : Int) ≤ (0 : Int32).toInt ∧ (0 : Int32).toInt ≤ 0) (by decide) (by decide)), (Or.inl ⟨rfl, by omega⟩), trivial⟩, trivial⟩, hS.F ht⟩) hS.2.2 dX12_isMark_41
            · skip
              have i_23 : 62 ≤ v.toInt ∧ v.toInt ≤ 62 := iv_eq1 (⟨by decide, by decide⟩ : (62 : Int) ≤ (62 : Int32).toInt ∧ (62 : Int32).toInt ≤ 62) c_21
              refine lv_iconst (v := 1) hx hb dX12_isMark_36 (by decide) ?_
              refine lv_goto (tgt := 41) hx hb dX12_isMark_37 (by decide) ?_
              exact W.zret (v := 1) hx hb hr (by decide) (fun t ht hW => ⟨⟨1, (), rfl, ⟨(iv_w (⟨by decide, by decide⟩ : (1 : Int) ≤ (1 : Int32).toInt ∧ (1 : Int32).toInt ≤ 1) (by decide) (by decide)), (Or.inr (⟨rfl, by omega⟩)), trivial⟩, trivial⟩, hS.F ht⟩) hS.2.2 dX12_isMark_41
set_option maxHeartbeats 4000000 in
set_option maxRecDepth 100000 in
theorem m_byteAtC (l : Launch) (dC : Nat → ClassId) (dI : Nat → Nat → Nat) (sz h : Nat) (ad : Nat → Nat) (cA : Nat → ClassId) (hd : dM h ad) (fv : Nat → Int32) (wd : Int64) (ar : Nat → Nat → Int32) (hF_fv : rF fv) (hA_ar : rA ar) (pp : Int32) (h_pp : 0 ≤ pp.toInt ∧ pp.toInt ≤ 340) : Met l yX12_byteAt (.code yX12_byteAt cX12_byteAt 2 (some .int) :: lw_good) ({ frames := 2, cells := 0, slots := 0, locals := 40 }) (va_Pc [.ref h, .int pp] (prM dC dI h ad cA fv wd ar sz)) (va_Qi (fun (r : Int32) (u : mS) => rF u.1 ∧ rA u.2.2 ∧ fM [] fv u.1 ∧ fA [] ar u.2.2 ∧ (0 ≤ r.toInt ∧ r.toInt ≤ 255) ∧ (u.2.1 = wd) ∧ (rd_bt (fv 37).toInt (ar 1) pp r) ∧ True) (enM dC dI h ad cA) (aM h ad sz)) 0 0 (aM h ad sz) := by
  refine Met.ofW (cc := cX12_byteAt) (maxL := 2) (ret := (some .int)) (by decide) rfl ?_
  intro p e s m args below meth c s₁ B hml hv
  obtain ⟨rfl, hsz, hP, hK⟩ := hv
  have hx := B.exec
  have hb := B.bytes
  have hr := B.returns
  have hts := atoms_spec (ws := (.code yX12_byteAt cX12_byteAt 2 (some .int) :: lw_good)) B.pre
  have htg : ∀ w ∈ lw_good, w.before _ s = true := fun w hw => hts w (List.mem_cons_of_mem _ hw)
  have hown : s.vm.findClass RX12 = some m.cls := findClass_of_methodNamed B.named
  have hlocks := B.notSynchronized
  subst hsz
  have hS : va_S (aM h ad s.heap.size) s.heap s.heap [] := va_S.rf
  have hl := lv_entry ([.ref h, .int pp]) (n := 2) (Nat.le_of_ble_eq_true rfl)
  rw [lg_entry_eq]
  generalize (lg_sl ([.ref h, .int pp]) ++ List.replicate (2 - (lg_sl ([.ref h, .int pp])).length) Slot.unset).toArray = ls at hl ⊢
  have hl : lv_has ls 2 [(0, .ref h), (1, .int pp)] := hl
  refine lv_iload_n hx hb dX12_byteAt_0 rfl (lv_at hl 1 rfl) ?_
  refine lv_aload_n hx hb dX12_byteAt_1 rfl (lv_at hl 0 rfl) ?_
  refine gM_37 hx hb htg hown hK hP dX12_byteAt_2 ?_
  have i_1 : 0 ≤ (fv 37).toInt ∧ (fv 37).toInt ≤ 340 := hF_fv 37
  refine lv_icmp_ge (tgt := 17) hx hb dX12_byteAt_5 (by decide) (fun c_2 => ?_) (fun c_2 => ?_)
  · skip
    have k_3 := Int32.le_iff_toInt_le.mp c_2
    refine lv_iconst (v := 0) hx hb dX12_byteAt_17 (by decide) ?_
    have z_4 : (0 : Int32).toInt = 0 := by decide
    exact W.iret (v := 0) hx hb hr (fun t ht hW => ⟨⟨0, (fv, wd, ar), rfl, ⟨hF_fv, hA_ar, (fM_rf [] _), (fA_rf [] _), (iv_w (⟨by decide, by decide⟩ : (0 : Int) ≤ (0 : Int32).toInt ∧ (0 : Int32).toInt ≤ 0) (by decide) (by decide)), rfl, (show rd_bt (fv 37).toInt (ar 1) pp (0 : Int32) from Or.inr ⟨by omega, by decide⟩), trivial⟩, ⟨by rw [ht]; exact hP, va_K.moved hW.alike hK⟩⟩, hS.F ht⟩) hS.2.2 dX12_byteAt_18
  · skip
    have i_5 : 0 ≤ pp.toInt ∧ pp.toInt ≤ 339 := iv_lt1 h_pp i_1 (Int32.not_le.mp c_2)
    have i_6 : 1 ≤ (fv 37).toInt ∧ (fv 37).toInt ≤ 340 := iv_lt2 h_pp i_1 (Int32.not_le.mp c_2)
    have k_7 := Int32.lt_iff_toInt_lt.mp (Int32.not_le.mp c_2)
    refine lv_aload_n hx hb dX12_byteAt_8 rfl (lv_at hl 0 rfl) ?_
    refine gM_1 hx hb htg hown hK hP dX12_byteAt_9 ?_
    refine lv_iload_n hx hb dX12_byteAt_12 rfl (lv_at hl 1 rfl) ?_
    refine lM_1 hx hb hK hP (iv_in i_5 (by decide) (by decide)) dX12_byteAt_13 (fun v_8 ev_8 => ?_)
    have i_9 : 0 ≤ v_8.toInt ∧ v_8.toInt ≤ 255 := ev_8 ▸ hA_ar 1 _
    refine lv_goto (tgt := 18) hx hb dX12_byteAt_14 (by decide) ?_
    exact W.iret (v := v_8) hx hb hr (fun t ht hW => ⟨⟨v_8, (fv, wd, ar), rfl, ⟨hF_fv, hA_ar, (fM_rf [] _), (fA_rf [] _), i_9, rfl, (show rd_bt (fv 37).toInt (ar 1) pp v_8 from Or.inl ⟨by omega, ev_8⟩), trivial⟩, ⟨by rw [ht]; exact hP, va_K.moved hW.alike hK⟩⟩, hS.F ht⟩) hS.2.2 dX12_byteAt_18
set_option maxHeartbeats 4000000 in
set_option maxRecDepth 100000 in
theorem m_goC (l : Launch) (dC : Nat → ClassId) (dI : Nat → Nat → Nat) (sz h : Nat) (ad : Nat → Nat) (cA : Nat → ClassId) (hd : dM h ad) (fv : Nat → Int32) (wd : Int64) (ar : Nat → Nat → Int32) (hF_fv : rF fv) (hA_ar : rA ar) (k9 : Nat) (hto : (fv 38).toInt = (rd_en (rd_b (ar 1)) (fv 37).toInt.toNat k9 : Nat)) (hts : (fv 38).toInt ≤ (fv 37).toInt) : Met l yX12_go (.code yX12_go cX12_go 5 none :: lw_good) ({ frames := 3, cells := 0, slots := 0, locals := 61 }) (va_Pc [.ref h] (prM dC dI h ad cA fv wd ar sz)) (va_Qv (fun (u : mS) => rF u.1 ∧ rA u.2.2 ∧ fM [38, 39, 40, 41, 42] fv u.1 ∧ fA [] ar u.2.2 ∧ ((u.1 39).toInt = (rd_S (rd_b (ar 1)) (fv 37).toInt.toNat k9 : Nat)) ∧ (rd_st (rd_b (ar 1)) (fv 37).toInt.toNat k9 < rd_lim ((fv 37).toInt.toNat) → (u.1 38).toInt = (rd_en (rd_b (ar 1)) (fv 37).toInt.toNat (k9 + 1) : Nat)) ∧ (rd_rel (rd_T (rd_b (ar 1)) (fv 37).toInt.toNat k9) (rd_N (rd_b (ar 1)) (fv 37).toInt.toNat k9) (u.1 40) (u.1 42) (u.1 41) u.2.1) ∧ True) (enM dC dI h ad cA) (aM h ad sz)) 0 0 (aM h ad sz) := by
  refine Met.ofW (cc := cX12_go) (maxL := 5) (ret := none) (by decide) rfl ?_
  intro p e s m args below meth c s₁ B hml hv
  obtain ⟨rfl, hsz, hP, hK⟩ := hv
  have hx := B.exec
  have hb := B.bytes
  have hr := B.returns
  have hts := atoms_spec (ws := (.code yX12_go cX12_go 5 none :: lw_good)) B.pre
  have htg : ∀ w ∈ lw_good, w.before _ s = true := fun w hw => hts w (List.mem_cons_of_mem _ hw)
  have hown : s.vm.findClass RX12 = some m.cls := findClass_of_methodNamed B.named
  have hlocks := B.notSynchronized
  subst hsz
  have hS : va_S (aM h ad s.heap.size) s.heap s.heap [] := va_S.rf
  have hl := lv_entry ([.ref h]) (n := 5) (Nat.le_of_ble_eq_true rfl)
  rw [lg_entry_eq]
  generalize (lg_sl ([.ref h]) ++ List.replicate (5 - (lg_sl ([.ref h])).length) Slot.unset).toArray = ls at hl ⊢
  have hl : lv_has ls 5 [(0, .ref h)] := hl
  have z_1 : 0 ≤ (fv 37).toInt ∧ (fv 37).toInt ≤ 340 := hF_fv 37
  have z_2 : 0 ≤ (fv 38).toInt ∧ (fv 38).toInt ≤ 340 := hF_fv 38
  refine my_cut (P := fun R9 a9 Q9 => ∀ (n_8 : Nat) (fv_3 : Nat → Int32) (H : Heap) (locs : List Loc) (ls : Array Slot), 340 - (fv_3 38).toInt < (n_8 : Int) → rF fv_3 → fM [38] fv fv_3 → (0 ≤ (fv_3 38).toInt ∧ (fv_3 38).toInt ≤ 340) → (rd_s (rd_b (ar 1)) (fv 37).toInt.toNat (rd_en (rd_b (ar 1)) (fv 37).toInt.toNat k9) = rd_s (rd_b (ar 1)) (fv 37).toInt.toNat ((fv_3 38).toInt.toNat)) → ((fv_3 38).toInt ≤ (fv 37).toInt) → va_P (dC, dI) vwCl (wsM h ad cA fv_3 wd ar) H → va_S (aM h ad s.heap.size) s.heap H locs → lv_has ls 5 [(0, .ref h)] → W p l e R9 s m a9 below meth c H locs 0 0 Q9 (F0 m 0 ls [])) ?_ (fun hj_10 => ?_)
  · intro n_8
    induction n_8 with
    | zero => intro fv_3 H locs ls fu_9 hF_fv_3 fr_4 q_5 q_6 q_7; exfalso; omega
    | succ n_8 ih_8 =>
      intro fv_3 H locs ls fu_9 hF_fv_3 fr_4 q_5 q_6 q_7 hP hS hl
      refine lv_aload_n hx hb dX12_go_0 rfl (lv_at hl 0 rfl) ?_
      refine gM_38 hx hb htg hown hK hP dX12_go_1 ?_
      have i_11 : 0 ≤ (fv_3 38).toInt ∧ (fv_3 38).toInt ≤ 340 := hF_fv_3 38
      refine lv_aload_n hx hb dX12_go_4 rfl (lv_at hl 0 rfl) ?_
      refine gM_37 hx hb htg hown hK hP dX12_go_5 ?_
      refine my_ti (y := fv 37) ((fr_4 37 rfl)) ?_
      have i_12 : 0 ≤ (fv 37).toInt ∧ (fv 37).toInt ≤ 340 := hF_fv 37
      refine my_cut (P := fun R9 a9 Q9 => ∀  (H : Heap) (locs : List Loc) (ls : Array Slot), (rd_s (rd_b (ar 1)) (fv 37).toInt.toNat (rd_en (rd_b (ar 1)) (fv 37).toInt.toNat k9) = (fv_3 38).toInt.toNat) → va_P (dC, dI) vwCl (wsM h ad cA fv_3 wd ar) H → va_S (aM h ad s.heap.size) s.heap H locs → lv_has ls 5 [(0, .ref h)] → W p l e R9 s m a9 below meth c H locs 0 0 Q9 (F0 m 52 ls [])) ?_ (fun hj_38 => ?_)
      · intro  H locs ls q_37 hP hS hl
        refine lv_aload_n hx hb dX12_go_52 rfl (lv_at hl 0 rfl) ?_
        refine lv_aload_n hx hb dX12_go_53 rfl (lv_at hl 0 rfl) ?_
        refine gM_38 hx hb htg hown hK hP dX12_go_54 ?_
        refine pM_39 hx hb htg hown hK hP hS hd dX12_go_57 (fun H locs fv_39 efv_39 hP hS => ?_)
        have hF_fv_39 : rF fv_39 := rF_put hF_fv_3 efv_39 i_11
        refine lv_aload_n hx hb dX12_go_60 rfl (lv_at hl 0 rfl) ?_
        refine gM_37 hx hb htg hown hK hP dX12_go_61 ?_
        refine my_ti (y := fv 37) ((congrFun efv_39 37).trans ((fr_4 37 rfl))) ?_
        refine lv_sipush (v := 300) hx hb dX12_go_64 (by decide) ?_
        refine my_cut (P := fun R9 a9 Q9 => ∀  (H : Heap) (locs : List Loc) (ls : Array Slot), ((fv 37).toInt ≤ 300 ∨ (fv_39 39).toInt < 300) → va_P (dC, dI) vwCl (wsM h ad cA fv_39 wd ar) H → va_S (aM h ad s.heap.size) s.heap H locs → lv_has ls 5 [(0, .ref h)] → W p l e R9 s m a9 below meth c H locs 0 0 Q9 (F0 m 93 ls [])) ?_ (fun hj_49 => ?_)
        · intro  H locs ls q_48 hP hS hl
          refine lv_aload_n hx hb dX12_go_93 rfl (lv_at hl 0 rfl) ?_
          refine gM_38 hx hb htg hown hK hP dX12_go_94 ?_
          refine my_ti (y := fv_3 38) ((congrFun efv_39 38)) ?_
          refine lv_aload_n hx hb dX12_go_97 rfl (lv_at hl 0 rfl) ?_
          refine gM_37 hx hb htg hown hK hP dX12_go_98 ?_
          refine my_ti (y := fv 37) ((congrFun efv_39 37).trans ((fr_4 37 rfl))) ?_
          refine lv_icmp_lt (tgt := 110) hx hb dX12_go_101 (by decide) (fun c_50 => ?_) (fun c_50 => ?_)
          · skip
            have i_51 : 0 ≤ (fv_3 38).toInt ∧ (fv_3 38).toInt ≤ 339 := iv_lt1 i_11 i_12 c_50
            have i_52 : 1 ≤ (fv 37).toInt ∧ (fv 37).toInt ≤ 340 := iv_lt2 i_11 i_12 c_50
            have k_53 := Int32.lt_iff_toInt_lt.mp c_50
            have z_54 : (fv_39 38).toInt = (fv_3 38).toInt := congrArg Int32.toInt ((congrFun efv_39 38))
            have z_55 : 0 ≤ (fv_39 38).toInt ∧ (fv_39 38).toInt ≤ 340 := hF_fv_39 38
            have z_56 : (fv_39 39).toInt = (fv_3 38).toInt := congrArg Int32.toInt ((congrFun efv_39 39))
            have z_57 : 0 ≤ (fv_39 39).toInt ∧ (fv_39 39).toInt ≤ 340 := hF_fv_39 39
            have hl9 := rd_lim_le ((fv 37).toInt.toNat)
            have hlt9 : (fv_3 38).toInt.toNat < rd_lim ((fv 37).toInt.toNat) := by omega
            have hst9 : rd_st (rd_b (ar 1)) (fv 37).toInt.toNat k9 = (fv_3 38).toInt.toNat := (rd_stM q_37).1 hlt9
            have hsl9 : rd_st (rd_b (ar 1)) (fv 37).toInt.toNat k9 < rd_lim ((fv 37).toInt.toNat) := by rw [hst9]; exact hlt9
            clear hl9 q_48
            refine lv_aload_n hx hb dX12_go_110 rfl (lv_at hl 0 rfl) ?_
            refine gM_1 hx hb htg hown hK hP dX12_go_111 ?_
            refine lv_aload_n hx hb dX12_go_114 rfl (lv_at hl 0 rfl) ?_
            refine gM_38 hx hb htg hown hK hP dX12_go_115 ?_
            refine my_ti (y := fv_3 38) ((congrFun efv_39 38)) ?_
            refine lM_1 hx hb hK hP (iv_in i_51 (by decide) (by decide)) dX12_go_118 (fun v_58 ev_58 => ?_)
            have i_59 : 0 ≤ v_58.toInt ∧ v_58.toInt ≤ 255 := ev_58 ▸ hA_ar 1 _
            refine lv_istore_n (lv' := [(1, .int v_58), (0, .ref h)]) hx hb dX12_go_119 rfl hl (by decide) rfl (fun ls hl => ?_)
            refine lv_iload_n hx hb dX12_go_120 rfl (lv_at hl 0 rfl) ?_
            refine va_calli (va_runS (As := [.int v_58]) (rest := []) ⟨hx, hb, hml, hown, hts⟩ (m_isLetterC l H.size v_58) (va_cwS 1 hts (gS kw_8_64 kw_8_65 kw_1_15 kw_8_66) rfl rfl rfl (by decide +kernel) ⟨Nat.le_of_ble_eq_true rfl, Nat.le_of_ble_eq_true rfl⟩) ⟨fun a U g mk q => ⟨q.1, q.2⟩, fun U hU hW => ⟨rfl, congrArg Array.size hU⟩⟩ rfl rfl hl.1 rfl (lv_room (Nat.le_of_ble_eq_true rfl)) dX12_go_121 ⟨Nat.le_of_ble_eq_true rfl, Nat.le_of_ble_eq_true rfl⟩) hS (fun q _ h9 => nM_up hS q h9) (nM_up hS) (fun r_60 u t H1 locs ht _ hw hB _ hk1 hS => ?_)
            obtain ⟨p_61, p_62, -⟩ := hw
            have hP := my_keepM hP hk1
            generalize H1 = H at hP hS ⊢
            refine my_cut (P := fun R9 a9 Q9 => ∀  (H : Heap) (locs : List Loc) (ls : Array Slot), ((97 ≤ v_58.toInt ∧ v_58.toInt ≤ 122) ∨ (48 ≤ v_58.toInt ∧ v_58.toInt ≤ 57)) → va_P (dC, dI) vwCl (wsM h ad cA fv_39 wd ar) H → va_S (aM h ad s.heap.size) s.heap H locs → lv_has ls 5 [(0, .ref h), (1, .int v_58)] → W p l e R9 s m a9 below meth c H locs 0 0 Q9 (F0 m 166 ls [])) ?_ (fun hj_92 => ?_)
            · intro  H locs ls q_91 hP hS hl
              clear p_62
              refine lv_iload_n hx hb dX12_go_166 rfl (lv_at hl 1 rfl) ?_
              refine va_calli (va_runS (As := [.int v_58]) (rest := []) ⟨hx, hb, hml, hown, hts⟩ (m_isLetterC l H.size v_58) (va_cwS 1 hts (gS kw_8_64 kw_8_65 kw_1_15 kw_8_66) rfl rfl rfl (by decide +kernel) ⟨Nat.le_of_ble_eq_true rfl, Nat.le_of_ble_eq_true rfl⟩) ⟨fun a U g mk q => ⟨q.1, q.2⟩, fun U hU hW => ⟨rfl, congrArg Array.size hU⟩⟩ rfl rfl hl.1 rfl (lv_room (Nat.le_of_ble_eq_true rfl)) dX12_go_167 ⟨Nat.le_of_ble_eq_true rfl, Nat.le_of_ble_eq_true rfl⟩) hS (fun q _ h9 => nM_up hS q h9) (nM_up hS) (fun r_93 u t H1 locs ht _ hw hB _ hk1 hS => ?_)
              obtain ⟨p_94, p_95, -⟩ := hw
              have hP := my_keepM hP hk1
              generalize H1 = H at hP hS ⊢
              refine my_cut (P := fun R9 a9 Q9 => ∀ (x_98 : Int32) (H : Heap) (locs : List Loc) (ls : Array Slot), (0 ≤ x_98.toInt ∧ x_98.toInt ≤ 1) → (rd_h2 (rd_b (ar 1)) ((fv_3 38).toInt.toNat) x_98) → va_P (dC, dI) vwCl (wsM h ad cA fv_39 wd ar) H → va_S (aM h ad s.heap.size) s.heap H locs → lv_has ls 5 [(0, .ref h)] → W p l e R9 s m a9 below meth c H locs 0 0 Q9 (F0 m 170 ls [.int x_98])) ?_ (fun hj_100 => ?_)
              · intro x_98 H locs ls i_x_98 q_99 hP hS hl
                clear p_95
                refine lv_istore_n (lv' := [(2, .int x_98), (0, .ref h)]) hx hb dX12_go_170 rfl hl (by decide) rfl (fun ls hl => ?_)
                clear q_91
                refine lv_iconst (v := 1) hx hb dX12_go_171 (by decide) ?_
                refine lv_istore_n (lv' := [(3, .int 1), (2, .int x_98), (0, .ref h)]) hx hb dX12_go_172 rfl hl (by decide) rfl (fun ls hl => ?_)
                refine lv_aload_n hx hb dX12_go_173 rfl (lv_at hl 2 rfl) ?_
                refine lv_lconst (v := 0) hx hb dX12_go_174 (by decide) ?_
                refine pM_46 hx hb htg hown hK hP hS hd dX12_go_175 (fun H locs hP hS => ?_)
                refine lv_aload_n hx hb dX12_go_178 rfl (lv_at hl 2 rfl) ?_
                refine lv_iconst (v := 0) hx hb dX12_go_179 (by decide) ?_
                refine pM_41 hx hb htg hown hK hP hS hd dX12_go_180 (fun H locs fv_101 efv_101 hP hS => ?_)
                have hF_fv_101 : rF fv_101 := rF_put hF_fv_39 efv_101 (iv_any _)
                refine my_cut (P := fun R9 a9 Q9 => ∀ (n_112 : Nat) (x_102 : Int32) (fv_103 : Nat → Int32) (ar_105 : Nat → Nat → Int32) (wd_107 : Int64) (H : Heap) (locs : List Loc) (ls : Array Slot), 340 - (fv_103 38).toInt < (n_112 : Int) → (0 ≤ x_102.toInt ∧ x_102.toInt ≤ 1) → rF fv_103 → fM [38, 41] fv_101 fv_103 → rA ar_105 → fA [] ar ar_105 → (0 ≤ (fv_103 38).toInt ∧ (fv_103 38).toInt ≤ 340) → (rd_w (rd_b (ar 1)) (fv 37).toInt.toNat ((fv_3 38).toInt.toNat) = rd_w (rd_b (ar 1)) (fv 37).toInt.toNat ((fv_103 38).toInt.toNat)) → ((fv_3 38).toInt ≤ (fv_103 38).toInt ∧ (fv_103 38).toInt ≤ (fv 37).toInt ∧ (fv_103 39).toInt = (fv_3 38).toInt) → (rd_wm (rd_b (ar 1)) ((fv_3 38).toInt.toNat) ((fv_103 38).toInt.toNat - (fv_3 38).toInt.toNat) x_102 x_98 (fv_103 41) wd_107) → va_P (dC, dI) vwCl (wsM h ad cA fv_103 wd_107 ar_105) H → va_S (aM h ad s.heap.size) s.heap H locs → lv_has ls 5 [(0, .ref h), (2, .int x_98), (3, .int x_102)] → W p l e R9 s m a9 below meth c H locs 0 0 Q9 (F0 m 183 ls [])) ?_ (fun hj_114 => ?_)
                · intro n_112
                  induction n_112 with
                  | zero => intro x_102 fv_103 ar_105 wd_107 H locs ls fu_113 i_x_102 hF_fv_103 fr_104 hA_ar_105 fa_106 q_108 q_109 q_110 q_111; exfalso; omega
                  | succ n_112 ih_112 =>
                    intro x_102 fv_103 ar_105 wd_107 H locs ls fu_113 i_x_102 hF_fv_103 fr_104 hA_ar_105 fa_106 q_108 q_109 q_110 q_111 hP hS hl
                    refine lv_aload_n hx hb dX12_go_183 rfl (lv_at hl 0 rfl) ?_
                    refine lv_aload_n hx hb dX12_go_184 rfl (lv_at hl 0 rfl) ?_
                    refine gM_38 hx hb htg hown hK hP dX12_go_185 ?_
                    have i_115 : 0 ≤ (fv_103 38).toInt ∧ (fv_103 38).toInt ≤ 340 := hF_fv_103 38
                    have z_116 : 0 ≤ (fv_103 38).toInt ∧ (fv_103 38).toInt ≤ 340 := hF_fv_103 38
                    have z_117 : (fv_103 39).toInt = (fv_3 38).toInt := congrArg Int32.toInt ((fr_104 39 rfl).trans ((congrFun efv_101 39).trans ((congrFun efv_39 39))))
                    have z_118 : 0 ≤ (fv_103 39).toInt ∧ (fv_103 39).toInt ≤ 340 := hF_fv_103 39
                    have z_119 : (fv_103 37).toInt = (fv 37).toInt := congrArg Int32.toInt ((fr_104 37 rfl).trans ((congrFun efv_101 37).trans ((congrFun efv_39 37).trans ((fr_4 37 rfl)))))
                    have z_120 : 0 ≤ (fv_103 37).toInt ∧ (fv_103 37).toInt ≤ 340 := hF_fv_103 37
                    refine va_calli (va_runV (As := [.int (fv_103 38)]) (rest := []) ⟨hx, hb, hml, hown, hts⟩ (m_byteAtC l dC dI H.size h ad cA hd fv_103 wd_107 ar_105 hF_fv_103 hA_ar_105 (fv_103 38) i_115) (cwV 1 hts (gV kw_8_73 kw_8_75 kw_p_65 kw_1_15 kw_8_76) rfl rfl rfl (by decide +kernel) ⟨Nat.le_of_ble_eq_true rfl, Nat.le_of_ble_eq_true rfl⟩) ⟨fun a U g mk q => ⟨q.1, q.2.1, q.2.2.1, va_K.moved (u := U) (U := U.calling g mk a) (Vm.Alike.refl U.vm) q.2.2.2⟩, va_recv hK hP (ci := 12) (q0 := 0) rfl rfl, fun U hU hW => ⟨rfl, by rw [hU], by rw [hU]; exact hP, va_K.moved hW.alike hK⟩⟩ rfl rfl hl.1 rfl (lv_room (Nat.le_of_ble_eq_true rfl)) dX12_go_188 ⟨Nat.le_of_ble_eq_true rfl, Nat.le_of_ble_eq_true rfl⟩) hS (fun q _ h9 => aM_up hS q h9) (aM_up hS) (fun r_121 u t H1 locs ht _ hw hB _ hk1 hS => ?_)
                    obtain ⟨fv_125, wd_126, ar_127⟩ := u
                    obtain ⟨hF_fv_125, hA_ar_127, fr_128, fa_129, p_122, p_123, p_124, -⟩ := hw
                    have hP : va_P (dC, dI) vwCl (wsM h ad cA fv_125 wd_126 ar_127) H1 := by have h9 := hB.1; rw [ht] at h9; exact h9
                    have fr_128 : fM [] fv_103 fv_125 := fr_128
                    have fa_129 : fA [] ar_105 ar_127 := fa_129
                    have p_123 : wd_126 = wd_107 := p_123
                    have p_124 : rd_bt (fv_103 37).toInt (ar_105 1) (fv_103 38) r_121 := p_124
                    generalize H1 = H at hP hS ⊢
                    rw [p_123] at hP
                    have k_130 : rd_bt (fv 37).toInt (ar 1) (fv_103 38) r_121 := by have h9 := p_124; rw [show ar_105 1 = ar 1 from ((fA_call (fA_rf [] _) fa_106 (by decide)) 1 rfl), show fv_103 37 = fv 37 from ((fM_call (fM_put (fM_put (fM_call (fM_rf [38, 39, 41] _) fr_4 (by decide)) efv_39 (by decide)) efv_101 (by decide)) fr_104 (by decide)) 37 rfl)] at h9; exact h9
                    clear p_124
                    refine va_calli (va_runS (As := [.int r_121]) (rest := []) ⟨hx, hb, hml, hown, hts⟩ (m_isLetterC l H.size r_121) (va_cwS 1 hts (gS kw_8_64 kw_8_65 kw_1_15 kw_8_66) rfl rfl rfl (by decide +kernel) ⟨Nat.le_of_ble_eq_true rfl, Nat.le_of_ble_eq_true rfl⟩) ⟨fun a U g mk q => ⟨q.1, q.2⟩, fun U hU hW => ⟨rfl, congrArg Array.size hU⟩⟩ rfl rfl hl.1 rfl (lv_room (Nat.le_of_ble_eq_true rfl)) dX12_go_191 ⟨Nat.le_of_ble_eq_true rfl, Nat.le_of_ble_eq_true rfl⟩) hS (fun q _ h9 => nM_up hS q h9) (nM_up hS) (fun r_131 u t H1 locs ht _ hw hB _ hk1 hS => ?_)
                    obtain ⟨p_132, p_133, -⟩ := hw
                    have hP := my_keepM hP hk1
                    generalize H1 = H at hP hS ⊢
                    refine my_cut (P := fun R9 a9 Q9 => ∀ (fv_185 : Nat → Int32) (ar_187 : Nat → Nat → Int32) (H : Heap) (locs : List Loc) (ls : Array Slot), rF fv_185 → fM [] fv_125 fv_185 → rA ar_187 → fA [] ar_127 ar_187 → ((fv_103 38).toInt < (fv 37).toInt ∧ rd_an (rd_b (ar 1) ((fv_103 38).toInt.toNat))) → va_P (dC, dI) vwCl (wsM h ad cA fv_185 wd_107 ar_187) H → va_S (aM h ad s.heap.size) s.heap H locs → lv_has ls 5 [(0, .ref h), (2, .int x_98), (3, .int x_102)] → W p l e R9 s m a9 below meth c H locs 0 0 Q9 (F0 m 211 ls [])) ?_ (fun hj_190 => ?_)
                    · intro fv_185 ar_187 H locs ls hF_fv_185 fr_186 hA_ar_187 fa_188 q_189 hP hS hl
                      clear p_133
                      have i_191 : 0 ≤ (fv_103 38).toInt ∧ (fv_103 38).toInt ≤ 339 := (by omega)
                      refine lv_aload_n hx hb dX12_go_211 rfl (lv_at hl 0 rfl) ?_
                      refine gM_1 hx hb htg hown hK hP dX12_go_212 ?_
                      refine lv_aload_n hx hb dX12_go_215 rfl (lv_at hl 0 rfl) ?_
                      refine gM_38 hx hb htg hown hK hP dX12_go_216 ?_
                      refine my_ti (y := fv_103 38) ((fr_186 38 rfl).trans ((fr_128 38 rfl))) ?_
                      refine lM_1 hx hb hK hP (iv_in i_191 (by decide) (by decide)) dX12_go_219 (fun v_192 ev_192 => ?_)
                      have i_193 : 0 ≤ v_192.toInt ∧ v_192.toInt ≤ 255 := ev_192 ▸ hA_ar_187 1 _
                      have hdq_194 : (97 ≤ v_192.toInt ∧ v_192.toInt ≤ 122) ∨ (48 ≤ v_192.toInt ∧ v_192.toInt ≤ 57) := by have h8 := (show rd_b (ar 1) ((fv_103 38).toInt.toNat) = v_192.toInt from by show (ar 1 ((fv_103 38).toInt.toNat)).toInt = _; rw [ev_192, show ar_187 1 = ar 1 from ((fA_call (fA_call (fA_call (fA_rf [] _) fa_106 (by decide)) fa_129 (by decide)) fa_188 (by decide)) 1 rfl)]; rfl); have h7 := q_189.2; rw [h8] at h7; exact h7.elim (fun w => Or.inl (of_decide_eq_true w)) (fun w => Or.inr (of_decide_eq_true w))
                      have i_195 : 48 ≤ v_192.toInt ∧ v_192.toInt ≤ 122 := (by omega)
                      refine lv_istore (lv' := [(4, .int v_192), (0, .ref h), (2, .int x_98), (3, .int x_102)]) hx hb dX12_go_220 hl (by decide) rfl (fun ls hl => ?_)
                      refine lv_iload_n hx hb dX12_go_222 rfl (lv_at hl 3 rfl) ?_
                      refine my_cut (P := fun R9 a9 Q9 => ∀ (x_213 : Int32) (H : Heap) (locs : List Loc) (ls : Array Slot), (0 ≤ x_213.toInt ∧ x_213.toInt ≤ 1) → (rd_hd2 (rd_b (ar 1) ((fv_3 38).toInt.toNat + ((fv_103 38).toInt.toNat - (fv_3 38).toInt.toNat))) x_102 x_98 x_213) → va_P (dC, dI) vwCl (wsM h ad cA fv_185 wd_107 ar_187) H → va_S (aM h ad s.heap.size) s.heap H locs → lv_has ls 5 [(0, .ref h), (2, .int x_98), (4, .int v_192)] → W p l e R9 s m a9 below meth c H locs 0 0 Q9 (F0 m 240 ls [.int x_213])) ?_ (fun hj_215 => ?_)
                      · intro x_213 H locs ls i_x_213 q_214 hP hS hl
                        refine lv_istore_n (lv' := [(3, .int x_213), (0, .ref h), (2, .int x_98), (4, .int v_192)]) hx hb dX12_go_240 rfl hl (by decide) rfl (fun ls hl => ?_)
                        refine lv_aload_n hx hb dX12_go_241 rfl (lv_at hl 1 rfl) ?_
                        refine gM_38 hx hb htg hown hK hP dX12_go_242 ?_
                        refine my_ti (y := fv_103 38) ((fr_186 38 rfl).trans ((fr_128 38 rfl))) ?_
                        refine lv_aload_n hx hb dX12_go_245 rfl (lv_at hl 1 rfl) ?_
                        refine gM_39 hx hb htg hown hK hP dX12_go_246 ?_
                        refine my_ti (y := fv_3 38) ((fr_186 39 rfl).trans ((fr_128 39 rfl).trans ((fr_104 39 rfl).trans ((congrFun efv_101 39).trans ((congrFun efv_39 39)))))) ?_
                        refine lv_isub hx hb dX12_go_249 ?_
                        refine lv_topi (fun v_216 ev_216 => ?_)
                        have t_217 : v_216.toInt = (fv_103 38 : Int32).toInt - (fv_3 38).toInt ∧ (-339) ≤ v_216.toInt ∧ v_216.toInt ≤ 339 := iv_sub ev_216 i_191 i_51 (by decide) (by decide)
                        refine lv_bipush (v := 8) hx hb dX12_go_250 (by decide) ?_
                        refine my_cut (P := fun R9 a9 Q9 => ∀ (wd_226 : Int64) (H : Heap) (locs : List Loc) (ls : Array Slot), (rd_hw (((fv_103 38).toInt.toNat - (fv_3 38).toInt.toNat)) (rd_b (ar 1) ((fv_3 38).toInt.toNat + ((fv_103 38).toInt.toNat - (fv_3 38).toInt.toNat))) wd_107 wd_226) → va_P (dC, dI) vwCl (wsM h ad cA fv_185 wd_226 ar_187) H → va_S (aM h ad s.heap.size) s.heap H locs → lv_has ls 5 [(0, .ref h), (2, .int x_98), (3, .int x_213), (4, .int v_192)] → W p l e R9 s m a9 below meth c H locs 0 0 Q9 (F0 m 275 ls [])) ?_ (fun hj_228 => ?_)
                        · intro wd_226 H locs ls q_227 hP hS hl
                          refine lv_aload_n hx hb dX12_go_275 rfl (lv_at hl 0 rfl) ?_
                          refine gM_38 hx hb htg hown hK hP dX12_go_276 ?_
                          refine my_ti (y := fv_103 38) ((fr_186 38 rfl).trans ((fr_128 38 rfl))) ?_
                          refine lv_aload_n hx hb dX12_go_279 rfl (lv_at hl 0 rfl) ?_
                          refine gM_39 hx hb htg hown hK hP dX12_go_280 ?_
                          refine my_ti (y := fv_3 38) ((fr_186 39 rfl).trans ((fr_128 39 rfl).trans ((fr_104 39 rfl).trans ((congrFun efv_101 39).trans ((congrFun efv_39 39)))))) ?_
                          refine lv_isub hx hb dX12_go_283 ?_
                          refine my_ti (y := v_216) ev_216.symm ?_
                          refine lv_iconst (v := 4) hx hb dX12_go_284 (by decide) ?_
                          refine my_cut (P := fun R9 a9 Q9 => ∀ (fv_236 : Nat → Int32) (H : Heap) (locs : List Loc) (ls : Array Slot), rF fv_236 → fM [41] fv_185 fv_236 → (rd_hn (((fv_103 38).toInt.toNat - (fv_3 38).toInt.toNat)) (rd_b (ar 1) ((fv_3 38).toInt.toNat + ((fv_103 38).toInt.toNat - (fv_3 38).toInt.toNat))) (fv_103 41) (fv_236 41)) → va_P (dC, dI) vwCl (wsM h ad cA fv_236 wd_226 ar_187) H → va_S (aM h ad s.heap.size) s.heap H locs → lv_has ls 5 [(0, .ref h), (2, .int x_98), (3, .int x_213)] → W p l e R9 s m a9 below meth c H locs 0 0 Q9 (F0 m 305 ls [])) ?_ (fun hj_239 => ?_)
                          · intro fv_236 H locs ls hF_fv_236 fr_237 q_238 hP hS hl
                            refine lv_aload_n hx hb dX12_go_305 rfl (lv_at hl 0 rfl) ?_
                            refine lv_dup hx hb dX12_go_306 rfl ?_
                            refine gM_38 hx hb htg hown hK hP dX12_go_307 ?_
                            refine my_ti (y := fv_103 38) ((fr_237 38 rfl).trans ((fr_186 38 rfl).trans ((fr_128 38 rfl)))) ?_
                            refine lv_iconst (v := 1) hx hb dX12_go_310 (by decide) ?_
                            refine lv_iadd hx hb dX12_go_311 ?_
                            refine lv_topi (fun v_240 ev_240 => ?_)
                            have t_241 : v_240.toInt = (fv_103 38).toInt + 1 ∧ 1 ≤ v_240.toInt ∧ v_240.toInt ≤ 340 := iv_addc ev_240 i_191 (by decide) (by decide) (by decide)
                            refine pM_38 hx hb htg hown hK hP hS hd dX12_go_312 (fun H locs fv_243 efv_243 hP hS => ?_)
                            have hF_fv_243 : rF fv_243 := rF_put hF_fv_236 efv_243 (iv_w t_241.2 (by decide) (by decide))
                            refine lv_goto (tgt := 183) hx hb dX12_go_315 (by decide) ?_
                            have z_249 : (fv_243 38).toInt = v_240.toInt := congrArg Int32.toInt ((congrFun efv_243 38))
                            have z_250 : 0 ≤ (fv_243 38).toInt ∧ (fv_243 38).toInt ≤ 340 := hF_fv_243 38
                            exact ih_112 x_213 fv_243 ar_187 wd_226 _ _ ls (by omega) i_x_213 hF_fv_243 (fM_put (fM_call (fM_call (fM_call (fM_call (fM_rf [38, 41] _) fr_104 (by decide)) fr_128 (by decide)) fr_186 (by decide)) fr_237 (by decide)) efv_243 (by decide)) hA_ar_187 (fA_call (fA_call (fA_call (fA_rf [] _) fa_106 (by decide)) fa_129 (by decide)) fa_188 (by decide)) (by have : (fv_3 39).toInt = (fv 39).toInt := congrArg Int32.toInt ((fM_call (fM_rf [38] _) fr_4 (by decide)) 39 rfl); have : (fv_39 38).toInt = (fv_3 38).toInt := congrArg Int32.toInt ((fM_put (fM_rf [39] _) efv_39 (by decide)) 38 rfl); have : (fv_101 38).toInt = (fv_39 38).toInt := congrArg Int32.toInt ((fM_put (fM_rf [41] _) efv_101 (by decide)) 38 rfl); have : (fv_101 39).toInt = (fv_39 39).toInt := congrArg Int32.toInt ((fM_put (fM_rf [41] _) efv_101 (by decide)) 39 rfl); have : (fv_103 39).toInt = (fv_101 39).toInt := congrArg Int32.toInt ((fM_call (fM_rf [38, 41] _) fr_104 (by decide)) 39 rfl); have : (fv_125 38).toInt = (fv_103 38).toInt := congrArg Int32.toInt ((fM_call (fM_rf [] _) fr_128 (by decide)) 38 rfl); have : (fv_125 39).toInt = (fv_103 39).toInt := congrArg Int32.toInt ((fM_call (fM_rf [] _) fr_128 (by decide)) 39 rfl); have : (fv_185 38).toInt = (fv_125 38).toInt := congrArg Int32.toInt ((fM_call (fM_rf [] _) fr_186 (by decide)) 38 rfl); have : (fv_185 39).toInt = (fv_125 39).toInt := congrArg Int32.toInt ((fM_call (fM_rf [] _) fr_186 (by decide)) 39 rfl); have : (fv_236 38).toInt = (fv_185 38).toInt := congrArg Int32.toInt ((fM_call (fM_rf [41] _) fr_237 (by decide)) 38 rfl); have : (fv_236 39).toInt = (fv_185 39).toInt := congrArg Int32.toInt ((fM_call (fM_rf [41] _) fr_237 (by decide)) 39 rfl); have : (fv_243 39).toInt = (fv_236 39).toInt := congrArg Int32.toInt ((fM_put (fM_rf [38] _) efv_243 (by decide)) 39 rfl); have : (fv_243 38).toInt = v_240.toInt := (by rw [show fv_243 38 = v_240 from (congrFun efv_243 38)]); have : (fv_243 39).toInt = (fv_3 38).toInt := (by rw [show fv_243 39 = (fv_3 38) from (congrFun efv_243 39).trans ((fr_237 39 rfl).trans ((fr_186 39 rfl).trans ((fr_128 39 rfl).trans ((fr_104 39 rfl).trans ((congrFun efv_101 39).trans ((congrFun efv_39 39)))))))]); have : (fv_243 41).toInt = (fv_236 41).toInt := (by rw [show fv_243 41 = (fv_236 41) from (congrFun efv_243 41)]); omega) (by have : (fv_3 39).toInt = (fv 39).toInt := congrArg Int32.toInt ((fM_call (fM_rf [38] _) fr_4 (by decide)) 39 rfl); have : (fv_39 38).toInt = (fv_3 38).toInt := congrArg Int32.toInt ((fM_put (fM_rf [39] _) efv_39 (by decide)) 38 rfl); have : (fv_101 38).toInt = (fv_39 38).toInt := congrArg Int32.toInt ((fM_put (fM_rf [41] _) efv_101 (by decide)) 38 rfl); have : (fv_101 39).toInt = (fv_39 39).toInt := congrArg Int32.toInt ((fM_put (fM_rf [41] _) efv_101 (by decide)) 39 rfl); have : (fv_103 39).toInt = (fv_101 39).toInt := congrArg Int32.toInt ((fM_call (fM_rf [38, 41] _) fr_104 (by decide)) 39 rfl); have : (fv_125 38).toInt = (fv_103 38).toInt := congrArg Int32.toInt ((fM_call (fM_rf [] _) fr_128 (by decide)) 38 rfl); have : (fv_125 39).toInt = (fv_103 39).toInt := congrArg Int32.toInt ((fM_call (fM_rf [] _) fr_128 (by decide)) 39 rfl); have : (fv_185 38).toInt = (fv_125 38).toInt := congrArg Int32.toInt ((fM_call (fM_rf [] _) fr_186 (by decide)) 38 rfl); have : (fv_185 39).toInt = (fv_125 39).toInt := congrArg Int32.toInt ((fM_call (fM_rf [] _) fr_186 (by decide)) 39 rfl); have : (fv_236 38).toInt = (fv_185 38).toInt := congrArg Int32.toInt ((fM_call (fM_rf [41] _) fr_237 (by decide)) 38 rfl); have : (fv_236 39).toInt = (fv_185 39).toInt := congrArg Int32.toInt ((fM_call (fM_rf [41] _) fr_237 (by decide)) 39 rfl); have : (fv_243 39).toInt = (fv_236 39).toInt := congrArg Int32.toInt ((fM_put (fM_rf [38] _) efv_243 (by decide)) 39 rfl); have : (fv_243 38).toInt = v_240.toInt := (by rw [show fv_243 38 = v_240 from (congrFun efv_243 38)]); have : (fv_243 39).toInt = (fv_3 38).toInt := (by rw [show fv_243 39 = (fv_3 38) from (congrFun efv_243 39).trans ((fr_237 39 rfl).trans ((fr_186 39 rfl).trans ((fr_128 39 rfl).trans ((fr_104 39 rfl).trans ((congrFun efv_101 39).trans ((congrFun efv_39 39)))))))]); have : (fv_243 41).toInt = (fv_236 41).toInt := (by rw [show fv_243 41 = (fv_236 41) from (congrFun efv_243 41)]); rw [q_109, show (fv_103 38).toInt.toNat = (fv_3 38).toInt.toNat + ((fv_103 38).toInt.toNat - (fv_3 38).toInt.toNat) from (by omega), rd_w1 (by omega) (rd_hd_an q_214), show (fv_3 38).toInt.toNat + ((fv_103 38).toInt.toNat - (fv_3 38).toInt.toNat) + 1 = (fv_243 38).toInt.toNat from (by omega)]) (by have : (fv_3 39).toInt = (fv 39).toInt := congrArg Int32.toInt ((fM_call (fM_rf [38] _) fr_4 (by decide)) 39 rfl); have : (fv_39 38).toInt = (fv_3 38).toInt := congrArg Int32.toInt ((fM_put (fM_rf [39] _) efv_39 (by decide)) 38 rfl); have : (fv_101 38).toInt = (fv_39 38).toInt := congrArg Int32.toInt ((fM_put (fM_rf [41] _) efv_101 (by decide)) 38 rfl); have : (fv_101 39).toInt = (fv_39 39).toInt := congrArg Int32.toInt ((fM_put (fM_rf [41] _) efv_101 (by decide)) 39 rfl); have : (fv_103 39).toInt = (fv_101 39).toInt := congrArg Int32.toInt ((fM_call (fM_rf [38, 41] _) fr_104 (by decide)) 39 rfl); have : (fv_125 38).toInt = (fv_103 38).toInt := congrArg Int32.toInt ((fM_call (fM_rf [] _) fr_128 (by decide)) 38 rfl); have : (fv_125 39).toInt = (fv_103 39).toInt := congrArg Int32.toInt ((fM_call (fM_rf [] _) fr_128 (by decide)) 39 rfl); have : (fv_185 38).toInt = (fv_125 38).toInt := congrArg Int32.toInt ((fM_call (fM_rf [] _) fr_186 (by decide)) 38 rfl); have : (fv_185 39).toInt = (fv_125 39).toInt := congrArg Int32.toInt ((fM_call (fM_rf [] _) fr_186 (by decide)) 39 rfl); have : (fv_236 38).toInt = (fv_185 38).toInt := congrArg Int32.toInt ((fM_call (fM_rf [41] _) fr_237 (by decide)) 38 rfl); have : (fv_236 39).toInt = (fv_185 39).toInt := congrArg Int32.toInt ((fM_call (fM_rf [41] _) fr_237 (by decide)) 39 rfl); have : (fv_243 39).toInt = (fv_236 39).toInt := congrArg Int32.toInt ((fM_put (fM_rf [38] _) efv_243 (by decide)) 39 rfl); have : (fv_243 38).toInt = v_240.toInt := (by rw [show fv_243 38 = v_240 from (congrFun efv_243 38)]); have : (fv_243 39).toInt = (fv_3 38).toInt := (by rw [show fv_243 39 = (fv_3 38) from (congrFun efv_243 39).trans ((fr_237 39 rfl).trans ((fr_186 39 rfl).trans ((fr_128 39 rfl).trans ((fr_104 39 rfl).trans ((congrFun efv_101 39).trans ((congrFun efv_39 39)))))))]); have : (fv_243 41).toInt = (fv_236 41).toInt := (by rw [show fv_243 41 = (fv_236 41) from (congrFun efv_243 41)]); omega) (by have : (fv_3 39).toInt = (fv 39).toInt := congrArg Int32.toInt ((fM_call (fM_rf [38] _) fr_4 (by decide)) 39 rfl); have : (fv_39 38).toInt = (fv_3 38).toInt := congrArg Int32.toInt ((fM_put (fM_rf [39] _) efv_39 (by decide)) 38 rfl); have : (fv_101 38).toInt = (fv_39 38).toInt := congrArg Int32.toInt ((fM_put (fM_rf [41] _) efv_101 (by decide)) 38 rfl); have : (fv_101 39).toInt = (fv_39 39).toInt := congrArg Int32.toInt ((fM_put (fM_rf [41] _) efv_101 (by decide)) 39 rfl); have : (fv_103 39).toInt = (fv_101 39).toInt := congrArg Int32.toInt ((fM_call (fM_rf [38, 41] _) fr_104 (by decide)) 39 rfl); have : (fv_125 38).toInt = (fv_103 38).toInt := congrArg Int32.toInt ((fM_call (fM_rf [] _) fr_128 (by decide)) 38 rfl); have : (fv_125 39).toInt = (fv_103 39).toInt := congrArg Int32.toInt ((fM_call (fM_rf [] _) fr_128 (by decide)) 39 rfl); have : (fv_185 38).toInt = (fv_125 38).toInt := congrArg Int32.toInt ((fM_call (fM_rf [] _) fr_186 (by decide)) 38 rfl); have : (fv_185 39).toInt = (fv_125 39).toInt := congrArg Int32.toInt ((fM_call (fM_rf [] _) fr_186 (by decide)) 39 rfl); have : (fv_236 38).toInt = (fv_185 38).toInt := congrArg Int32.toInt ((fM_call (fM_rf [41] _) fr_237 (by decide)) 38 rfl); have : (fv_236 39).toInt = (fv_185 39).toInt := congrArg Int32.toInt ((fM_call (fM_rf [41] _) fr_237 (by decide)) 39 rfl); have : (fv_243 39).toInt = (fv_236 39).toInt := congrArg Int32.toInt ((fM_put (fM_rf [38] _) efv_243 (by decide)) 39 rfl); have : (fv_243 38).toInt = v_240.toInt := (by rw [show fv_243 38 = v_240 from (congrFun efv_243 38)]); have : (fv_243 39).toInt = (fv_3 38).toInt := (by rw [show fv_243 39 = (fv_3 38) from (congrFun efv_243 39).trans ((fr_237 39 rfl).trans ((fr_186 39 rfl).trans ((fr_128 39 rfl).trans ((fr_104 39 rfl).trans ((congrFun efv_101 39).trans ((congrFun efv_39 39)))))))]); have : (fv_243 41).toInt = (fv_236 41).toInt := (by rw [show fv_243 41 = (fv_236 41) from (congrFun efv_243 41)]); rw [show (fv_243 38).toInt.toNat - (fv_3 38).toInt.toNat = ((fv_103 38).toInt.toNat - (fv_3 38).toInt.toNat) + 1 from (by omega)]; exact rd_wm_s q_111 q_214 (by omega) q_227 (by rw [show fv_243 41 = fv_236 41 from (congrFun efv_243 41)]; exact q_238)) hP hS (lv_sub hl [0, 1, 2] rfl)
                          · skip
                            refine lv_icmp_ge (tgt := 305) hx hb dX12_go_285 (by decide) (fun c_229 => ?_) (fun c_229 => ?_)
                            · skip
                              have i_230 : 4 ≤ v_216.toInt ∧ v_216.toInt ≤ 339 := iv_le2 (⟨by decide, by decide⟩ : (4 : Int) ≤ (4 : Int32).toInt ∧ (4 : Int32).toInt ≤ 4) t_217.2 c_229
                              exact hj_239 fv_185 _ _ ls hF_fv_185 (fM_rf [41] _) (fun w _ => by omega) hP hS (lv_sub hl [0, 1, 2] rfl)
                            · skip
                              have i_231 : (-339) ≤ v_216.toInt ∧ v_216.toInt ≤ 3 := iv_lt1 t_217.2 (⟨by decide, by decide⟩ : (4 : Int) ≤ (4 : Int32).toInt ∧ (4 : Int32).toInt ≤ 4) (Int32.not_le.mp c_229)
                              refine lv_aload_n hx hb dX12_go_288 rfl (lv_at hl 0 rfl) ?_
                              refine lv_bipush (v := 10) hx hb dX12_go_289 (by decide) ?_
                              refine lv_aload_n hx hb dX12_go_291 rfl (lv_at hl 0 rfl) ?_
                              refine gM_41 hx hb htg hown hK hP dX12_go_292 ?_
                              refine my_ti (y := fv_103 41) ((fr_186 41 rfl).trans ((fr_128 41 rfl).trans (rfl))) ?_
                              refine lv_imul hx hb dX12_go_295 ?_
                              refine lv_topi (fun v_232 ev_232 => ?_)
                              refine lv_iload hx hb dX12_go_296 (lv_at hl 3 rfl) ?_
                              refine lv_iadd hx hb dX12_go_298 ?_
                              refine lv_topi (fun v_233 ev_233 => ?_)
                              refine lv_bipush (v := 48) hx hb dX12_go_299 (by decide) ?_
                              refine lv_isub hx hb dX12_go_301 ?_
                              refine lv_topi (fun v_234 ev_234 => ?_)
                              refine pM_41 hx hb htg hown hK hP hS hd dX12_go_302 (fun H locs fv_235 efv_235 hP hS => ?_)
                              have hF_fv_235 : rF fv_235 := rF_put hF_fv_185 efv_235 (iv_any v_234)
                              exact hj_239 fv_235 _ _ ls hF_fv_235 (fM_put (fM_rf [41] _) efv_235 (by decide)) (fun _ hn9 => by have hb8 : rd_b (ar 1) ((fv_3 38).toInt.toNat + ((fv_103 38).toInt.toNat - (fv_3 38).toInt.toNat)) = v_192.toInt := (by have h8 := (show rd_b (ar 1) ((fv_103 38).toInt.toNat) = v_192.toInt from by show (ar 1 ((fv_103 38).toInt.toNat)).toInt = _; rw [ev_192, show ar_187 1 = ar 1 from ((fA_call (fA_call (fA_call (fA_rf [] _) fa_106 (by decide)) fa_129 (by decide)) fa_188 (by decide)) 1 rfl)]; rfl); rw [show (fv_3 38).toInt.toNat + ((fv_103 38).toInt.toNat - (fv_3 38).toInt.toNat) = (fv_103 38).toInt.toNat from (by omega)]; exact h8); rw [hb8, show fv_235 41 = v_234 from (congrFun efv_235 41)]; exact rd_n32 ev_232 ev_233 ev_234 hn9 (by omega)) hP hS (lv_sub hl [0, 1, 2] rfl)
                        · skip
                          refine lv_icmp_ge (tgt := 275) hx hb dX12_go_252 (by decide) (fun c_219 => ?_) (fun c_219 => ?_)
                          · skip
                            have i_220 : 8 ≤ v_216.toInt ∧ v_216.toInt ≤ 339 := iv_le2 (⟨by decide, by decide⟩ : (8 : Int) ≤ (8 : Int32).toInt ∧ (8 : Int32).toInt ≤ 8) t_217.2 c_219
                            exact hj_228 wd_107 _ _ ls (fun w _ => by omega) hP hS (lv_sub hl [1, 2, 0, 3] rfl)
                          · skip
                            have i_221 : (-339) ≤ v_216.toInt ∧ v_216.toInt ≤ 7 := iv_lt1 t_217.2 (⟨by decide, by decide⟩ : (8 : Int) ≤ (8 : Int32).toInt ∧ (8 : Int32).toInt ≤ 8) (Int32.not_le.mp c_219)
                            refine lv_aload_n hx hb dX12_go_255 rfl (lv_at hl 1 rfl) ?_
                            refine lv_ldc2 (v := 27) hx hb hown (htg (.constantLong RX12 313 27) kw_8_77) dX12_go_256 ?_
                            refine lv_aload_n hx hb dX12_go_259 rfl (lv_at hl 1 rfl) ?_
                            refine gM_46 hx hb htg hown hK hP dX12_go_260 ?_
                            refine lv_lmul hx hb dX12_go_263 ?_
                            refine lv_topl (fun w_222 ew_222 => ?_)
                            refine lv_iload hx hb dX12_go_264 (lv_at hl 3 rfl) ?_
                            refine lv_i2l hx hb dX12_go_266 rfl ?_
                            refine lv_topl (fun w_223 ew_223 => ?_)
                            refine lv_ladd hx hb dX12_go_267 ?_
                            refine lv_topl (fun w_224 ew_224 => ?_)
                            refine lv_ldc2 (v := 96) hx hb hown (htg (.constantLong RX12 315 96) kw_8_78) dX12_go_268 ?_
                            refine lv_lsub hx hb dX12_go_271 ?_
                            refine lv_topl (fun w_225 ew_225 => ?_)
                            refine pM_46 hx hb htg hown hK hP hS hd dX12_go_272 (fun H locs hP hS => ?_)
                            exact hj_228 w_225 _ _ ls (fun _ hw9 => by have hb8 : rd_b (ar 1) ((fv_3 38).toInt.toNat + ((fv_103 38).toInt.toNat - (fv_3 38).toInt.toNat)) = v_192.toInt := (by have h8 := (show rd_b (ar 1) ((fv_103 38).toInt.toNat) = v_192.toInt from by show (ar 1 ((fv_103 38).toInt.toNat)).toInt = _; rw [ev_192, show ar_187 1 = ar 1 from ((fA_call (fA_call (fA_call (fA_rf [] _) fa_106 (by decide)) fa_129 (by decide)) fa_188 (by decide)) 1 rfl)]; rfl); rw [show (fv_3 38).toInt.toNat + ((fv_103 38).toInt.toNat - (fv_3 38).toInt.toNat) = (fv_103 38).toInt.toNat from (by omega)]; exact h8); rw [hb8]; exact rd_w64 ew_222 ew_223 ew_224 ew_225 hw9 (by omega)) hP hS (lv_sub hl [1, 2, 0, 3] rfl)
                      · skip
                        refine lv_if_eq (tgt := 239) hx hb dX12_go_223 (by decide) (fun c_196 => ?_) (fun c_196 => ?_)
                        · skip
                          have i_197 : 0 ≤ x_102.toInt ∧ x_102.toInt ≤ 0 := iv_eq1 (⟨by decide, by decide⟩ : (0 : Int) ≤ (0 : Int32).toInt ∧ (0 : Int32).toInt ≤ 0) c_196
                          refine lv_iconst (v := 0) hx hb dX12_go_239 (by decide) ?_
                          have z_244 : (0 : Int32).toInt = 0 := by decide
                          exact hj_215 0 _ _ ls (iv_w (⟨by decide, by decide⟩ : (0 : Int) ≤ (0 : Int32).toInt ∧ (0 : Int32).toInt ≤ 0) (by decide) (by decide)) (by have h0z : (0 : Int32).toInt = 0 := (by decide); have h1z : (1 : Int32).toInt = 1 := (by decide); have hb8 : rd_b (ar 1) ((fv_3 38).toInt.toNat + ((fv_103 38).toInt.toNat - (fv_3 38).toInt.toNat)) = v_192.toInt := (by have h8 := (show rd_b (ar 1) ((fv_103 38).toInt.toNat) = v_192.toInt from by show (ar 1 ((fv_103 38).toInt.toNat)).toInt = _; rw [ev_192, show ar_187 1 = ar 1 from ((fA_call (fA_call (fA_call (fA_rf [] _) fa_106 (by decide)) fa_129 (by decide)) fa_188 (by decide)) 1 rfl)]; rfl); rw [show (fv_3 38).toInt.toNat + ((fv_103 38).toInt.toNat - (fv_3 38).toInt.toNat) = (fv_103 38).toInt.toNat from (by omega)]; exact h8); exact rd_hd_0 (by rw [hb8]; exact hdq_194.elim (fun w => Or.inl (decide_eq_true w)) (fun w => Or.inr (decide_eq_true w))) (by omega) h0z) hP hS (lv_sub hl [1, 2, 0] rfl)
                        · skip
                          have i_199 : 1 ≤ x_102.toInt ∧ x_102.toInt ≤ 1 := iv_nel i_x_102 (by decide) c_196
                          have k_200 : ¬ x_102.toInt = 0 := fun q => c_196 (Int32.toInt_inj.mp q)
                          refine lv_iload hx hb dX12_go_226 (lv_at hl 0 rfl) ?_
                          refine va_calli (va_runS (As := [.int v_192]) (rest := []) ⟨hx, hb, hml, hown, hts⟩ (m_isLetterC l H.size v_192) (va_cwS 1 hts (gS kw_8_64 kw_8_65 kw_1_15 kw_8_66) rfl rfl rfl (by decide +kernel) ⟨Nat.le_of_ble_eq_true rfl, Nat.le_of_ble_eq_true rfl⟩) ⟨fun a U g mk q => ⟨q.1, q.2⟩, fun U hU hW => ⟨rfl, congrArg Array.size hU⟩⟩ rfl rfl hl.1 rfl (lv_room (Nat.le_of_ble_eq_true rfl)) dX12_go_228 ⟨Nat.le_of_ble_eq_true rfl, Nat.le_of_ble_eq_true rfl⟩) hS (fun q _ h9 => nM_up hS q h9) (nM_up hS) (fun r_201 u t H1 locs ht _ hw hB _ hk1 hS => ?_)
                          obtain ⟨p_202, p_203, -⟩ := hw
                          have hP := my_keepM hP hk1
                          generalize H1 = H at hP hS ⊢
                          rcases p_203 with ⟨rfl, p_203⟩ | ⟨rfl, p_203⟩
                          · skip
                            refine lv_iload_n hx hb dX12_go_231 rfl (lv_at hl 2 rfl) ?_
                            refine lv_icmp_ne (tgt := 239) hx hb dX12_go_232 (by decide) (fun c_204 => ?_) (fun c_204 => ?_)
                            · skip
                              have k_205 : ¬ x_98.toInt = 0 := fun q => c_204 (Int32.toInt_inj.mp q.symm)
                              refine lv_iconst (v := 0) hx hb dX12_go_239 (by decide) ?_
                              have z_245 : (0 : Int32).toInt = 0 := by decide
                              exact hj_215 0 _ _ ls (iv_w (⟨by decide, by decide⟩ : (0 : Int) ≤ (0 : Int32).toInt ∧ (0 : Int32).toInt ≤ 0) (by decide) (by decide)) (by have h0z : (0 : Int32).toInt = 0 := (by decide); have h1z : (1 : Int32).toInt = 1 := (by decide); have hb8 : rd_b (ar 1) ((fv_3 38).toInt.toNat + ((fv_103 38).toInt.toNat - (fv_3 38).toInt.toNat)) = v_192.toInt := (by have h8 := (show rd_b (ar 1) ((fv_103 38).toInt.toNat) = v_192.toInt from by show (ar 1 ((fv_103 38).toInt.toNat)).toInt = _; rw [ev_192, show ar_187 1 = ar 1 from ((fA_call (fA_call (fA_call (fA_rf [] _) fa_106 (by decide)) fa_129 (by decide)) fa_188 (by decide)) 1 rfl)]; rfl); rw [show (fv_3 38).toInt.toNat + ((fv_103 38).toInt.toNat - (fv_3 38).toInt.toNat) = (fv_103 38).toInt.toNat from (by omega)]; exact h8); exact Or.inr ⟨decide_eq_true (by rw [hb8]; omega), ⟨fun w => by omega, fun w => by omega⟩⟩) hP hS (lv_sub hl [1, 2, 0] rfl)
                            · skip
                              have i_206 : 0 ≤ x_98.toInt ∧ x_98.toInt ≤ 0 := iv_eq1 (⟨by decide, by decide⟩ : (0 : Int) ≤ (0 : Int32).toInt ∧ (0 : Int32).toInt ≤ 0) c_204.symm
                              refine lv_iconst (v := 1) hx hb dX12_go_235 (by decide) ?_
                              refine lv_goto (tgt := 240) hx hb dX12_go_236 (by decide) ?_
                              have z_246 : (1 : Int32).toInt = 1 := by decide
                              exact hj_215 1 _ _ ls (iv_w (⟨by decide, by decide⟩ : (1 : Int) ≤ (1 : Int32).toInt ∧ (1 : Int32).toInt ≤ 1) (by decide) (by decide)) (by have h0z : (0 : Int32).toInt = 0 := (by decide); have h1z : (1 : Int32).toInt = 1 := (by decide); have hb8 : rd_b (ar 1) ((fv_3 38).toInt.toNat + ((fv_103 38).toInt.toNat - (fv_3 38).toInt.toNat)) = v_192.toInt := (by have h8 := (show rd_b (ar 1) ((fv_103 38).toInt.toNat) = v_192.toInt from by show (ar 1 ((fv_103 38).toInt.toNat)).toInt = _; rw [ev_192, show ar_187 1 = ar 1 from ((fA_call (fA_call (fA_call (fA_rf [] _) fa_106 (by decide)) fa_129 (by decide)) fa_188 (by decide)) 1 rfl)]; rfl); rw [show (fv_3 38).toInt.toNat + ((fv_103 38).toInt.toNat - (fv_3 38).toInt.toNat) = (fv_103 38).toInt.toNat from (by omega)]; exact h8); exact Or.inr ⟨decide_eq_true (by rw [hb8]; omega), ⟨fun w => by omega, fun w => by omega⟩⟩) hP hS (lv_sub hl [1, 2, 0] rfl)
                          · skip
                            have i_208 : 97 ≤ v_192.toInt ∧ v_192.toInt ≤ 122 := ⟨p_203.1, i_195.2⟩
                            refine lv_iload_n hx hb dX12_go_231 rfl (lv_at hl 2 rfl) ?_
                            refine lv_icmp_ne (tgt := 239) hx hb dX12_go_232 (by decide) (fun c_209 => ?_) (fun c_209 => ?_)
                            · skip
                              have k_210 : ¬ x_98.toInt = 1 := fun q => c_209 (Int32.toInt_inj.mp q.symm)
                              refine lv_iconst (v := 0) hx hb dX12_go_239 (by decide) ?_
                              have z_247 : (0 : Int32).toInt = 0 := by decide
                              exact hj_215 0 _ _ ls (iv_w (⟨by decide, by decide⟩ : (0 : Int) ≤ (0 : Int32).toInt ∧ (0 : Int32).toInt ≤ 0) (by decide) (by decide)) (by have h0z : (0 : Int32).toInt = 0 := (by decide); have h1z : (1 : Int32).toInt = 1 := (by decide); have hb8 : rd_b (ar 1) ((fv_3 38).toInt.toNat + ((fv_103 38).toInt.toNat - (fv_3 38).toInt.toNat)) = v_192.toInt := (by have h8 := (show rd_b (ar 1) ((fv_103 38).toInt.toNat) = v_192.toInt from by show (ar 1 ((fv_103 38).toInt.toNat)).toInt = _; rw [ev_192, show ar_187 1 = ar 1 from ((fA_call (fA_call (fA_call (fA_rf [] _) fa_106 (by decide)) fa_129 (by decide)) fa_188 (by decide)) 1 rfl)]; rfl); rw [show (fv_3 38).toInt.toNat + ((fv_103 38).toInt.toNat - (fv_3 38).toInt.toNat) = (fv_103 38).toInt.toNat from (by omega)]; exact h8); exact Or.inl ⟨decide_eq_true (by rw [hb8]; omega), ⟨fun w => by omega, fun w => by omega⟩⟩) hP hS (lv_sub hl [1, 2, 0] rfl)
                            · skip
                              have i_211 : 1 ≤ x_98.toInt ∧ x_98.toInt ≤ 1 := iv_eq1 (⟨by decide, by decide⟩ : (1 : Int) ≤ (1 : Int32).toInt ∧ (1 : Int32).toInt ≤ 1) c_209.symm
                              refine lv_iconst (v := 1) hx hb dX12_go_235 (by decide) ?_
                              refine lv_goto (tgt := 240) hx hb dX12_go_236 (by decide) ?_
                              have z_248 : (1 : Int32).toInt = 1 := by decide
                              exact hj_215 1 _ _ ls (iv_w (⟨by decide, by decide⟩ : (1 : Int) ≤ (1 : Int32).toInt ∧ (1 : Int32).toInt ≤ 1) (by decide) (by decide)) (by have h0z : (0 : Int32).toInt = 0 := (by decide); have h1z : (1 : Int32).toInt = 1 := (by decide); have hb8 : rd_b (ar 1) ((fv_3 38).toInt.toNat + ((fv_103 38).toInt.toNat - (fv_3 38).toInt.toNat)) = v_192.toInt := (by have h8 := (show rd_b (ar 1) ((fv_103 38).toInt.toNat) = v_192.toInt from by show (ar 1 ((fv_103 38).toInt.toNat)).toInt = _; rw [ev_192, show ar_187 1 = ar 1 from ((fA_call (fA_call (fA_call (fA_rf [] _) fa_106 (by decide)) fa_129 (by decide)) fa_188 (by decide)) 1 rfl)]; rfl); rw [show (fv_3 38).toInt.toNat + ((fv_103 38).toInt.toNat - (fv_3 38).toInt.toNat) = (fv_103 38).toInt.toNat from (by omega)]; exact h8); exact Or.inl ⟨decide_eq_true (by rw [hb8]; omega), ⟨fun w => by omega, fun w => by omega⟩⟩) hP hS (lv_sub hl [1, 2, 0] rfl)
                    · skip
                      rcases p_133 with ⟨rfl, p_133⟩ | ⟨rfl, p_133⟩
                      · skip
                        refine lv_if_ne (tgt := 211) hx hb dX12_go_194 (by decide) (fun c_134 => ?_) (fun c_134 => ?_)
                        · skip
                          exact absurd c_134 (by decide)
                        · skip
                          refine lv_aload_n hx hb dX12_go_197 rfl (lv_at hl 0 rfl) ?_
                          refine lv_aload_n hx hb dX12_go_198 rfl (lv_at hl 0 rfl) ?_
                          refine gM_38 hx hb htg hown hK hP dX12_go_199 ?_
                          refine my_ti (y := fv_103 38) ((fr_128 38 rfl)) ?_
                          have z_135 : (fv_125 37).toInt = (fv 37).toInt := congrArg Int32.toInt ((fr_128 37 rfl).trans ((fr_104 37 rfl).trans ((congrFun efv_101 37).trans ((congrFun efv_39 37).trans ((fr_4 37 rfl))))))
                          have z_136 : 0 ≤ (fv_125 37).toInt ∧ (fv_125 37).toInt ≤ 340 := hF_fv_125 37
                          refine va_calli (va_runV (As := [.int (fv_103 38)]) (rest := []) ⟨hx, hb, hml, hown, hts⟩ (m_byteAtC l dC dI H.size h ad cA hd fv_125 wd_107 ar_127 hF_fv_125 hA_ar_127 (fv_103 38) i_115) (cwV 1 hts (gV kw_8_73 kw_8_75 kw_p_65 kw_1_15 kw_8_76) rfl rfl rfl (by decide +kernel) ⟨Nat.le_of_ble_eq_true rfl, Nat.le_of_ble_eq_true rfl⟩) ⟨fun a U g mk q => ⟨q.1, q.2.1, q.2.2.1, va_K.moved (u := U) (U := U.calling g mk a) (Vm.Alike.refl U.vm) q.2.2.2⟩, va_recv hK hP (ci := 12) (q0 := 0) rfl rfl, fun U hU hW => ⟨rfl, by rw [hU], by rw [hU]; exact hP, va_K.moved hW.alike hK⟩⟩ rfl rfl hl.1 rfl (lv_room (Nat.le_of_ble_eq_true rfl)) dX12_go_202 ⟨Nat.le_of_ble_eq_true rfl, Nat.le_of_ble_eq_true rfl⟩) hS (fun q _ h9 => aM_up hS q h9) (aM_up hS) (fun r_137 u t H1 locs ht _ hw hB _ hk1 hS => ?_)
                          obtain ⟨fv_141, wd_142, ar_143⟩ := u
                          obtain ⟨hF_fv_141, hA_ar_143, fr_144, fa_145, p_138, p_139, p_140, -⟩ := hw
                          have hP : va_P (dC, dI) vwCl (wsM h ad cA fv_141 wd_142 ar_143) H1 := by have h9 := hB.1; rw [ht] at h9; exact h9
                          have fr_144 : fM [] fv_125 fv_141 := fr_144
                          have fa_145 : fA [] ar_127 ar_143 := fa_145
                          have p_139 : wd_142 = wd_107 := p_139
                          have p_140 : rd_bt (fv_125 37).toInt (ar_127 1) (fv_103 38) r_137 := p_140
                          generalize H1 = H at hP hS ⊢
                          rw [p_139] at hP
                          have k_146 : rd_bt (fv 37).toInt (ar 1) (fv_103 38) r_137 := by have h9 := p_140; rw [show ar_127 1 = ar 1 from ((fA_call (fA_call (fA_rf [] _) fa_106 (by decide)) fa_129 (by decide)) 1 rfl), show fv_125 37 = fv 37 from ((fM_call (fM_call (fM_put (fM_put (fM_call (fM_rf [38, 39, 41] _) fr_4 (by decide)) efv_39 (by decide)) efv_101 (by decide)) fr_104 (by decide)) fr_128 (by decide)) 37 rfl)] at h9; exact h9
                          clear p_140
                          refine va_calli (va_runS (As := [.int r_137]) (rest := []) ⟨hx, hb, hml, hown, hts⟩ (m_isDigitC l H.size r_137) (va_cwS 1 hts (gS kw_8_67 kw_8_68 kw_1_15 kw_8_69) rfl rfl rfl (by decide +kernel) ⟨Nat.le_of_ble_eq_true rfl, Nat.le_of_ble_eq_true rfl⟩) ⟨fun a U g mk q => ⟨q.1, q.2⟩, fun U hU hW => ⟨rfl, congrArg Array.size hU⟩⟩ rfl rfl hl.1 rfl (lv_room (Nat.le_of_ble_eq_true rfl)) dX12_go_205 ⟨Nat.le_of_ble_eq_true rfl, Nat.le_of_ble_eq_true rfl⟩) hS (fun q _ h9 => nM_up hS q h9) (nM_up hS) (fun r_147 u t H1 locs ht _ hw hB _ hk1 hS => ?_)
                          obtain ⟨p_148, p_149, -⟩ := hw
                          have hP := my_keepM hP hk1
                          generalize H1 = H at hP hS ⊢
                          rcases p_149 with ⟨rfl, p_149⟩ | ⟨rfl, p_149⟩
                          · skip
                            refine lv_if_eq (tgt := 318) hx hb dX12_go_208 (by decide) (fun c_150 => ?_) (fun c_150 => ?_)
                            · skip
                              have hwe9 : rd_w (rd_b (ar 1)) (fv 37).toInt.toNat ((fv_3 38).toInt.toNat) = (fv_103 38).toInt.toNat := q_109.trans (rd_w0 (p := (fv_103 38).toInt.toNat) (fun w => by rcases k_130 with ⟨a9, b9⟩ | ⟨a9, b9⟩; rcases k_146 with ⟨a8, b8⟩ | ⟨a8, b8⟩; have hb9 : rd_b (ar 1) ((fv_103 38).toInt.toNat) = r_121.toInt := congrArg Int32.toInt b9.symm; have hb8 : rd_b (ar 1) ((fv_103 38).toInt.toNat) = r_137.toInt := congrArg Int32.toInt b8.symm; exact w.2.elim (fun q => by have h8 := of_decide_eq_true q; rw [hb9] at h8; omega) (fun q => by have h8 := of_decide_eq_true q; rw [hb8] at h8; omega); exfalso; omega; exfalso; omega))
                              have hgt9 : (fv_3 38).toInt.toNat < (fv_103 38).toInt.toNat := by have hz := q_111; have h7 := rd_w1 (b := (rd_b (ar 1))) (n := (fv 37).toInt.toNat) (p := (fv_3 38).toInt.toNat) (by omega) (hz.2.1.elim (fun w => Or.inl w.2) (fun w => Or.inr w.2)); have h8 := rd_w_le (rd_b (ar 1)) ((fv 37).toInt.toNat) ((fv_3 38).toInt.toNat + 1); rw [← h7, hwe9] at h8; omega
                              have hen9 : rd_en (rd_b (ar 1)) (fv 37).toInt.toNat (k9 + 1) = (fv_103 38).toInt.toNat := by rw [rd_en_at hsl9, hst9, hwe9]; unfold rd_mx; by_cases h9 : (fv_3 38).toInt.toNat + 1 < (fv_103 38).toInt.toNat; rw [if_pos h9]; rw [if_neg h9]; omega
                              have hT9 : rd_T (rd_b (ar 1)) (fv 37).toInt.toNat k9 = rd_cl (rd_b (ar 1)) ((fv_3 38).toInt.toNat) ((fv_103 38).toInt.toNat - (fv_3 38).toInt.toNat) := by rw [rd_T_at hsl9, hst9, hen9]
                              refine lv_aload_n hx hb dX12_go_318 rfl (lv_at hl 0 rfl) ?_
                              refine lv_iload_n hx hb dX12_go_319 rfl (lv_at hl 2 rfl) ?_
                              refine lv_if_eq (tgt := 345) hx hb dX12_go_320 (by decide) (fun c_154 => ?_) (fun c_154 => ?_)
                              · skip
                                have i_155 : 0 ≤ x_102.toInt ∧ x_102.toInt ≤ 0 := iv_eq1 (⟨by decide, by decide⟩ : (0 : Int) ≤ (0 : Int32).toInt ∧ (0 : Int32).toInt ≤ 0) c_154
                                refine lv_iconst (v := 1) hx hb dX12_go_345 (by decide) ?_
                                refine lv_goto (tgt := 358) hx hb dX12_go_346 (by decide) ?_
                                refine pM_40 hx hb htg hown hK hP hS hd dX12_go_358 (fun H locs fv_157 efv_157 hP hS => ?_)
                                have hF_fv_157 : rF fv_157 := rF_put hF_fv_141 efv_157 (iv_any _)
                                exact W.vret hx hb hr (fun t ht hW => ⟨⟨(fv_157, wd_107, ar_143), rfl, ⟨hF_fv_157, hA_ar_143, (fM_put (fM_call (fM_call (fM_call (fM_put (fM_put (fM_call (fM_rf [38, 39, 40, 41, 42] _) fr_4 (by decide)) efv_39 (by decide)) efv_101 (by decide)) fr_104 (by decide)) fr_128 (by decide)) fr_144 (by decide)) efv_157 (by decide)), (fA_call (fA_call (fA_call (fA_rf [] _) fa_106 (by decide)) fa_129 (by decide)) fa_145 (by decide)), (show (fv_157 39).toInt = (rd_S (rd_b (ar 1)) (fv 37).toInt.toNat k9 : Nat) from by have : (fv_157 38).toInt = (fv_103 38).toInt := (by rw [show fv_157 38 = (fv_103 38) from (congrFun efv_157 38).trans ((fr_144 38 rfl).trans ((fr_128 38 rfl)))]); have : (fv_157 39).toInt = (fv_3 38).toInt := (by rw [show fv_157 39 = (fv_3 38) from (congrFun efv_157 39).trans ((fr_144 39 rfl).trans ((fr_128 39 rfl).trans ((fr_104 39 rfl).trans ((congrFun efv_101 39).trans ((congrFun efv_39 39))))))]); have h0s := hF_fv_3 38; rw [rd_S_at hsl9, hst9]; omega), (show rd_st (rd_b (ar 1)) (fv 37).toInt.toNat k9 < rd_lim ((fv 37).toInt.toNat) → (fv_157 38).toInt = (rd_en (rd_b (ar 1)) (fv 37).toInt.toNat (k9 + 1) : Nat) from fun _ => by have : (fv_157 38).toInt = (fv_103 38).toInt := (by rw [show fv_157 38 = (fv_103 38) from (congrFun efv_157 38).trans ((fr_144 38 rfl).trans ((fr_128 38 rfl)))]); have : (fv_157 39).toInt = (fv_3 38).toInt := (by rw [show fv_157 39 = (fv_3 38) from (congrFun efv_157 39).trans ((fr_144 39 rfl).trans ((fr_128 39 rfl).trans ((fr_104 39 rfl).trans ((congrFun efv_101 39).trans ((congrFun efv_39 39))))))]); have h0s := hF_fv_3 38; rw [hen9]; omega), (show rd_rel (rd_T (rd_b (ar 1)) (fv 37).toInt.toNat k9) (rd_N (rd_b (ar 1)) (fv 37).toInt.toNat k9) (fv_157 40) (fv_157 42) (fv_157 41) wd_107 from by rw [hT9]; exact rd_rel_no (show (fv_157 40).toInt = 1 from by rw [show fv_157 40 = (1 : Int32) from (congrFun efv_157 40)]; decide) (by have hz := q_111; exact rd_cl_x (by have hc := hz.2.2.2.2.2.1 (by omega); omega) (by have hc := hz.2.2.2.2.2.1 (by omega); omega))), trivial⟩, ⟨by rw [ht]; exact hP, va_K.moved hW.alike hK⟩⟩, hS.F ht⟩) hS.2.2 dX12_go_361
                              · skip
                                have i_158 : 1 ≤ x_102.toInt ∧ x_102.toInt ≤ 1 := iv_nel i_x_102 (by decide) c_154
                                have k_159 : ¬ x_102.toInt = 0 := fun q => c_154 (Int32.toInt_inj.mp q)
                                refine lv_aload_n hx hb dX12_go_323 rfl (lv_at hl 0 rfl) ?_
                                refine gM_38 hx hb htg hown hK hP dX12_go_324 ?_
                                refine my_ti (y := fv_103 38) ((fr_144 38 rfl).trans ((fr_128 38 rfl))) ?_
                                refine lv_aload_n hx hb dX12_go_327 rfl (lv_at hl 0 rfl) ?_
                                refine gM_39 hx hb htg hown hK hP dX12_go_328 ?_
                                refine my_ti (y := fv_3 38) ((fr_144 39 rfl).trans ((fr_128 39 rfl).trans ((fr_104 39 rfl).trans ((congrFun efv_101 39).trans ((congrFun efv_39 39)))))) ?_
                                refine lv_isub hx hb dX12_go_331 ?_
                                refine lv_topi (fun v_160 ev_160 => ?_)
                                have t_161 : v_160.toInt = (fv_103 38 : Int32).toInt - (fv_3 38).toInt ∧ (-339) ≤ v_160.toInt ∧ v_160.toInt ≤ 340 := iv_sub ev_160 i_115 i_51 (by decide) (by decide)
                                refine lv_iload_n hx hb dX12_go_332 rfl (lv_at hl 1 rfl) ?_
                                refine lv_if_eq (tgt := 341) hx hb dX12_go_333 (by decide) (fun c_163 => ?_) (fun c_163 => ?_)
                                · skip
                                  have i_164 : 0 ≤ x_98.toInt ∧ x_98.toInt ≤ 0 := iv_eq1 (⟨by decide, by decide⟩ : (0 : Int) ≤ (0 : Int32).toInt ∧ (0 : Int32).toInt ≤ 0) c_163
                                  refine lv_iconst (v := 4) hx hb dX12_go_341 (by decide) ?_
                                  refine lv_icmp_le (tgt := 349) hx hb dX12_go_342 (by decide) (fun c_166 => ?_) (fun c_166 => ?_)
                                  · skip
                                    have i_167 : (-339) ≤ v_160.toInt ∧ v_160.toInt ≤ 4 := iv_le1 t_161.2 (⟨by decide, by decide⟩ : (4 : Int) ≤ (4 : Int32).toInt ∧ (4 : Int32).toInt ≤ 4) c_166
                                    refine lv_iload_n hx hb dX12_go_349 rfl (lv_at hl 1 rfl) ?_
                                    refine lv_if_eq (tgt := 357) hx hb dX12_go_350 (by decide) (fun c_168 => ?_) (fun c_168 => ?_)
                                    · skip
                                      refine lv_iconst (v := 3) hx hb dX12_go_357 (by decide) ?_
                                      refine pM_40 hx hb htg hown hK hP hS hd dX12_go_358 (fun H locs fv_170 efv_170 hP hS => ?_)
                                      have hF_fv_170 : rF fv_170 := rF_put hF_fv_141 efv_170 (iv_any _)
                                      exact W.vret hx hb hr (fun t ht hW => ⟨⟨(fv_170, wd_107, ar_143), rfl, ⟨hF_fv_170, hA_ar_143, (fM_put (fM_call (fM_call (fM_call (fM_put (fM_put (fM_call (fM_rf [38, 39, 40, 41, 42] _) fr_4 (by decide)) efv_39 (by decide)) efv_101 (by decide)) fr_104 (by decide)) fr_128 (by decide)) fr_144 (by decide)) efv_170 (by decide)), (fA_call (fA_call (fA_call (fA_rf [] _) fa_106 (by decide)) fa_129 (by decide)) fa_145 (by decide)), (show (fv_170 39).toInt = (rd_S (rd_b (ar 1)) (fv 37).toInt.toNat k9 : Nat) from by have : (fv_170 38).toInt = (fv_103 38).toInt := (by rw [show fv_170 38 = (fv_103 38) from (congrFun efv_170 38).trans ((fr_144 38 rfl).trans ((fr_128 38 rfl)))]); have : (fv_170 39).toInt = (fv_3 38).toInt := (by rw [show fv_170 39 = (fv_3 38) from (congrFun efv_170 39).trans ((fr_144 39 rfl).trans ((fr_128 39 rfl).trans ((fr_104 39 rfl).trans ((congrFun efv_101 39).trans ((congrFun efv_39 39))))))]); have h0s := hF_fv_3 38; rw [rd_S_at hsl9, hst9]; omega), (show rd_st (rd_b (ar 1)) (fv 37).toInt.toNat k9 < rd_lim ((fv 37).toInt.toNat) → (fv_170 38).toInt = (rd_en (rd_b (ar 1)) (fv 37).toInt.toNat (k9 + 1) : Nat) from fun _ => by have : (fv_170 38).toInt = (fv_103 38).toInt := (by rw [show fv_170 38 = (fv_103 38) from (congrFun efv_170 38).trans ((fr_144 38 rfl).trans ((fr_128 38 rfl)))]); have : (fv_170 39).toInt = (fv_3 38).toInt := (by rw [show fv_170 39 = (fv_3 38) from (congrFun efv_170 39).trans ((fr_144 39 rfl).trans ((fr_128 39 rfl).trans ((fr_104 39 rfl).trans ((congrFun efv_101 39).trans ((congrFun efv_39 39))))))]); have h0s := hF_fv_3 38; rw [hen9]; omega), (show rd_rel (rd_T (rd_b (ar 1)) (fv 37).toInt.toNat k9) (rd_N (rd_b (ar 1)) (fv 37).toInt.toNat k9) (fv_170 40) (fv_170 42) (fv_170 41) wd_107 from by have hz := q_111; have hc := hz.2.2.2.2.1 (by omega) (by omega); rw [hT9]; exact rd_rel_num (show (fv_170 40).toInt = 3 from by rw [show fv_170 40 = (3 : Int32) from (congrFun efv_170 40)]; decide) (rd_cl_n hc.1 (by omega)) (show (fv_170 41).toInt = rd_N (rd_b (ar 1)) (fv 37).toInt.toNat k9 from by unfold rd_N; rw [hst9, hen9, show (fv_170 41).toInt = (fv_103 41).toInt from (congrArg Int32.toInt ((fM_put (fM_call (fM_call (fM_rf [40] _) fr_128 (by decide)) fr_144 (by decide)) efv_170 (by decide)) 41 rfl))]; rw [hc.2 (by omega)]; congr 1; by_cases h9 : (fv_103 38).toInt.toNat - (fv_3 38).toInt.toNat < 4; rw [if_pos h9]; rw [if_neg h9]; omega)), trivial⟩, ⟨by rw [ht]; exact hP, va_K.moved hW.alike hK⟩⟩, hS.F ht⟩) hS.2.2 dX12_go_361
                                    · skip
                                      exact absurd True.intro (by have h7 := i_164; have h8 := (⟨by decide, by decide⟩ : (0 : Int) ≤ (0 : Int32).toInt ∧ (0 : Int32).toInt ≤ 0); have h9 : ¬ _ := fun q => c_168 (Int32.toInt_inj.mp q); exfalso; omega)
                                  · skip
                                    have i_171 : 5 ≤ v_160.toInt ∧ v_160.toInt ≤ 340 := iv_lt2 (⟨by decide, by decide⟩ : (4 : Int) ≤ (4 : Int32).toInt ∧ (4 : Int32).toInt ≤ 4) t_161.2 (Int32.not_le.mp c_166)
                                    refine lv_iconst (v := 1) hx hb dX12_go_345 (by decide) ?_
                                    refine lv_goto (tgt := 358) hx hb dX12_go_346 (by decide) ?_
                                    refine pM_40 hx hb htg hown hK hP hS hd dX12_go_358 (fun H locs fv_172 efv_172 hP hS => ?_)
                                    have hF_fv_172 : rF fv_172 := rF_put hF_fv_141 efv_172 (iv_any _)
                                    exact W.vret hx hb hr (fun t ht hW => ⟨⟨(fv_172, wd_107, ar_143), rfl, ⟨hF_fv_172, hA_ar_143, (fM_put (fM_call (fM_call (fM_call (fM_put (fM_put (fM_call (fM_rf [38, 39, 40, 41, 42] _) fr_4 (by decide)) efv_39 (by decide)) efv_101 (by decide)) fr_104 (by decide)) fr_128 (by decide)) fr_144 (by decide)) efv_172 (by decide)), (fA_call (fA_call (fA_call (fA_rf [] _) fa_106 (by decide)) fa_129 (by decide)) fa_145 (by decide)), (show (fv_172 39).toInt = (rd_S (rd_b (ar 1)) (fv 37).toInt.toNat k9 : Nat) from by have : (fv_172 38).toInt = (fv_103 38).toInt := (by rw [show fv_172 38 = (fv_103 38) from (congrFun efv_172 38).trans ((fr_144 38 rfl).trans ((fr_128 38 rfl)))]); have : (fv_172 39).toInt = (fv_3 38).toInt := (by rw [show fv_172 39 = (fv_3 38) from (congrFun efv_172 39).trans ((fr_144 39 rfl).trans ((fr_128 39 rfl).trans ((fr_104 39 rfl).trans ((congrFun efv_101 39).trans ((congrFun efv_39 39))))))]); have h0s := hF_fv_3 38; rw [rd_S_at hsl9, hst9]; omega), (show rd_st (rd_b (ar 1)) (fv 37).toInt.toNat k9 < rd_lim ((fv 37).toInt.toNat) → (fv_172 38).toInt = (rd_en (rd_b (ar 1)) (fv 37).toInt.toNat (k9 + 1) : Nat) from fun _ => by have : (fv_172 38).toInt = (fv_103 38).toInt := (by rw [show fv_172 38 = (fv_103 38) from (congrFun efv_172 38).trans ((fr_144 38 rfl).trans ((fr_128 38 rfl)))]); have : (fv_172 39).toInt = (fv_3 38).toInt := (by rw [show fv_172 39 = (fv_3 38) from (congrFun efv_172 39).trans ((fr_144 39 rfl).trans ((fr_128 39 rfl).trans ((fr_104 39 rfl).trans ((congrFun efv_101 39).trans ((congrFun efv_39 39))))))]); have h0s := hF_fv_3 38; rw [hen9]; omega), (show rd_rel (rd_T (rd_b (ar 1)) (fv 37).toInt.toNat k9) (rd_N (rd_b (ar 1)) (fv 37).toInt.toNat k9) (fv_172 40) (fv_172 42) (fv_172 41) wd_107 from by rw [hT9]; exact rd_rel_no (show (fv_172 40).toInt = 1 from by rw [show fv_172 40 = (1 : Int32) from (congrFun efv_172 40)]; decide) (by have hz := q_111; exact rd_cl_w ((hz.2.2.2.2.1 (by omega) (by omega)).1) (by omega))), trivial⟩, ⟨by rw [ht]; exact hP, va_K.moved hW.alike hK⟩⟩, hS.F ht⟩) hS.2.2 dX12_go_361
                                · skip
                                  have i_173 : 1 ≤ x_98.toInt ∧ x_98.toInt ≤ 1 := iv_nel i_x_98 (by decide) c_163
                                  have k_174 : ¬ x_98.toInt = 0 := fun q => c_163 (Int32.toInt_inj.mp q)
                                  refine lv_bipush (v := 8) hx hb dX12_go_336 (by decide) ?_
                                  refine lv_goto (tgt := 342) hx hb dX12_go_338 (by decide) ?_
                                  refine lv_icmp_le (tgt := 349) hx hb dX12_go_342 (by decide) (fun c_175 => ?_) (fun c_175 => ?_)
                                  · skip
                                    have i_176 : (-339) ≤ v_160.toInt ∧ v_160.toInt ≤ 8 := iv_le1 t_161.2 (⟨by decide, by decide⟩ : (8 : Int) ≤ (8 : Int32).toInt ∧ (8 : Int32).toInt ≤ 8) c_175
                                    refine lv_iload_n hx hb dX12_go_349 rfl (lv_at hl 1 rfl) ?_
                                    refine lv_if_eq (tgt := 357) hx hb dX12_go_350 (by decide) (fun c_177 => ?_) (fun c_177 => ?_)
                                    · skip
                                      exact absurd True.intro (by have h7 := i_173; have h8 := (⟨by decide, by decide⟩ : (0 : Int) ≤ (0 : Int32).toInt ∧ (0 : Int32).toInt ≤ 0); have h9 := congrArg Int32.toInt c_177; exfalso; omega)
                                    · skip
                                      have k_178 : ¬ x_98.toInt = 0 := fun q => c_177 (Int32.toInt_inj.mp q)
                                      refine lv_iconst (v := 2) hx hb dX12_go_353 (by decide) ?_
                                      refine lv_goto (tgt := 358) hx hb dX12_go_354 (by decide) ?_
                                      refine pM_40 hx hb htg hown hK hP hS hd dX12_go_358 (fun H locs fv_179 efv_179 hP hS => ?_)
                                      have hF_fv_179 : rF fv_179 := rF_put hF_fv_141 efv_179 (iv_any _)
                                      exact W.vret hx hb hr (fun t ht hW => ⟨⟨(fv_179, wd_107, ar_143), rfl, ⟨hF_fv_179, hA_ar_143, (fM_put (fM_call (fM_call (fM_call (fM_put (fM_put (fM_call (fM_rf [38, 39, 40, 41, 42] _) fr_4 (by decide)) efv_39 (by decide)) efv_101 (by decide)) fr_104 (by decide)) fr_128 (by decide)) fr_144 (by decide)) efv_179 (by decide)), (fA_call (fA_call (fA_call (fA_rf [] _) fa_106 (by decide)) fa_129 (by decide)) fa_145 (by decide)), (show (fv_179 39).toInt = (rd_S (rd_b (ar 1)) (fv 37).toInt.toNat k9 : Nat) from by have : (fv_179 38).toInt = (fv_103 38).toInt := (by rw [show fv_179 38 = (fv_103 38) from (congrFun efv_179 38).trans ((fr_144 38 rfl).trans ((fr_128 38 rfl)))]); have : (fv_179 39).toInt = (fv_3 38).toInt := (by rw [show fv_179 39 = (fv_3 38) from (congrFun efv_179 39).trans ((fr_144 39 rfl).trans ((fr_128 39 rfl).trans ((fr_104 39 rfl).trans ((congrFun efv_101 39).trans ((congrFun efv_39 39))))))]); have h0s := hF_fv_3 38; rw [rd_S_at hsl9, hst9]; omega), (show rd_st (rd_b (ar 1)) (fv 37).toInt.toNat k9 < rd_lim ((fv 37).toInt.toNat) → (fv_179 38).toInt = (rd_en (rd_b (ar 1)) (fv 37).toInt.toNat (k9 + 1) : Nat) from fun _ => by have : (fv_179 38).toInt = (fv_103 38).toInt := (by rw [show fv_179 38 = (fv_103 38) from (congrFun efv_179 38).trans ((fr_144 38 rfl).trans ((fr_128 38 rfl)))]); have : (fv_179 39).toInt = (fv_3 38).toInt := (by rw [show fv_179 39 = (fv_3 38) from (congrFun efv_179 39).trans ((fr_144 39 rfl).trans ((fr_128 39 rfl).trans ((fr_104 39 rfl).trans ((congrFun efv_101 39).trans ((congrFun efv_39 39))))))]); have h0s := hF_fv_3 38; rw [hen9]; omega), (show rd_rel (rd_T (rd_b (ar 1)) (fv 37).toInt.toNat k9) (rd_N (rd_b (ar 1)) (fv 37).toInt.toNat k9) (fv_179 40) (fv_179 42) (fv_179 41) wd_107 from by have hz := q_111; have hc := hz.2.2.2.1 (by omega) (by omega); rw [hT9, rd_cl_k (by omega) (by omega)]; exact rd_rel_word (show (fv_179 40).toInt = 2 from by rw [show fv_179 40 = (2 : Int32) from (congrFun efv_179 40)]; decide) (hc.2 (by omega)) (rd_tx_all _ hc.1 hz.1) (fun w => by have h9 := congrArg List.length w; rw [rd_tx_len] at h9; have h8 : _ = 0 := h9; omega)), trivial⟩, ⟨by rw [ht]; exact hP, va_K.moved hW.alike hK⟩⟩, hS.F ht⟩) hS.2.2 dX12_go_361
                                  · skip
                                    have i_180 : 9 ≤ v_160.toInt ∧ v_160.toInt ≤ 340 := iv_lt2 (⟨by decide, by decide⟩ : (8 : Int) ≤ (8 : Int32).toInt ∧ (8 : Int32).toInt ≤ 8) t_161.2 (Int32.not_le.mp c_175)
                                    refine lv_iconst (v := 1) hx hb dX12_go_345 (by decide) ?_
                                    refine lv_goto (tgt := 358) hx hb dX12_go_346 (by decide) ?_
                                    refine pM_40 hx hb htg hown hK hP hS hd dX12_go_358 (fun H locs fv_181 efv_181 hP hS => ?_)
                                    have hF_fv_181 : rF fv_181 := rF_put hF_fv_141 efv_181 (iv_any _)
                                    exact W.vret hx hb hr (fun t ht hW => ⟨⟨(fv_181, wd_107, ar_143), rfl, ⟨hF_fv_181, hA_ar_143, (fM_put (fM_call (fM_call (fM_call (fM_put (fM_put (fM_call (fM_rf [38, 39, 40, 41, 42] _) fr_4 (by decide)) efv_39 (by decide)) efv_101 (by decide)) fr_104 (by decide)) fr_128 (by decide)) fr_144 (by decide)) efv_181 (by decide)), (fA_call (fA_call (fA_call (fA_rf [] _) fa_106 (by decide)) fa_129 (by decide)) fa_145 (by decide)), (show (fv_181 39).toInt = (rd_S (rd_b (ar 1)) (fv 37).toInt.toNat k9 : Nat) from by have : (fv_181 38).toInt = (fv_103 38).toInt := (by rw [show fv_181 38 = (fv_103 38) from (congrFun efv_181 38).trans ((fr_144 38 rfl).trans ((fr_128 38 rfl)))]); have : (fv_181 39).toInt = (fv_3 38).toInt := (by rw [show fv_181 39 = (fv_3 38) from (congrFun efv_181 39).trans ((fr_144 39 rfl).trans ((fr_128 39 rfl).trans ((fr_104 39 rfl).trans ((congrFun efv_101 39).trans ((congrFun efv_39 39))))))]); have h0s := hF_fv_3 38; rw [rd_S_at hsl9, hst9]; omega), (show rd_st (rd_b (ar 1)) (fv 37).toInt.toNat k9 < rd_lim ((fv 37).toInt.toNat) → (fv_181 38).toInt = (rd_en (rd_b (ar 1)) (fv 37).toInt.toNat (k9 + 1) : Nat) from fun _ => by have : (fv_181 38).toInt = (fv_103 38).toInt := (by rw [show fv_181 38 = (fv_103 38) from (congrFun efv_181 38).trans ((fr_144 38 rfl).trans ((fr_128 38 rfl)))]); have : (fv_181 39).toInt = (fv_3 38).toInt := (by rw [show fv_181 39 = (fv_3 38) from (congrFun efv_181 39).trans ((fr_144 39 rfl).trans ((fr_128 39 rfl).trans ((fr_104 39 rfl).trans ((congrFun efv_101 39).trans ((congrFun efv_39 39))))))]); have h0s := hF_fv_3 38; rw [hen9]; omega), (show rd_rel (rd_T (rd_b (ar 1)) (fv 37).toInt.toNat k9) (rd_N (rd_b (ar 1)) (fv 37).toInt.toNat k9) (fv_181 40) (fv_181 42) (fv_181 41) wd_107 from by rw [hT9]; exact rd_rel_no (show (fv_181 40).toInt = 1 from by rw [show fv_181 40 = (1 : Int32) from (congrFun efv_181 40)]; decide) (by have hz := q_111; exact rd_cl_x (by have hc := (hz.2.2.2.1 (by omega) (by omega)).1; omega) (Or.inr (by omega)))), trivial⟩, ⟨by rw [ht]; exact hP, va_K.moved hW.alike hK⟩⟩, hS.F ht⟩) hS.2.2 dX12_go_361
                            · skip
                              exact absurd c_150 (by decide)
                          · skip
                            have i_151 : 48 ≤ r_137.toInt ∧ r_137.toInt ≤ 255 := ⟨p_149.1, p_138.2⟩
                            have i_152 : 48 ≤ r_137.toInt ∧ r_137.toInt ≤ 57 := ⟨i_151.1, p_149.2⟩
                            refine lv_if_eq (tgt := 318) hx hb dX12_go_208 (by decide) (fun c_153 => ?_) (fun c_153 => ?_)
                            · skip
                              exact absurd c_153 (by decide)
                            · skip
                              exact hj_190 fv_141 ar_143 _ _ ls hF_fv_141 (fM_call (fM_rf [] _) fr_144 (by decide)) hA_ar_143 (fA_call (fA_rf [] _) fa_145 (by decide)) (by rcases k_146 with ⟨a9, b9⟩ | ⟨a9, b9⟩; exact ⟨a9, Or.inr (decide_eq_true (by rw [show rd_b (ar 1) ((fv_103 38).toInt.toNat) = r_137.toInt from congrArg Int32.toInt b9.symm]; omega))⟩; exfalso; omega) hP hS (lv_sub hl [0, 1, 2] rfl)
                      · skip
                        have i_182 : 97 ≤ r_121.toInt ∧ r_121.toInt ≤ 255 := ⟨p_133.1, p_122.2⟩
                        have i_183 : 97 ≤ r_121.toInt ∧ r_121.toInt ≤ 122 := ⟨i_182.1, p_133.2⟩
                        refine lv_if_ne (tgt := 211) hx hb dX12_go_194 (by decide) (fun c_184 => ?_) (fun c_184 => ?_)
                        · skip
                          exact hj_190 fv_125 ar_127 _ _ ls hF_fv_125 (fM_rf [] _) hA_ar_127 (fA_rf [] _) (by rcases k_130 with ⟨a9, b9⟩ | ⟨a9, b9⟩; exact ⟨a9, Or.inl (decide_eq_true (by rw [show rd_b (ar 1) ((fv_103 38).toInt.toNat) = r_121.toInt from congrArg Int32.toInt b9.symm]; omega))⟩; exfalso; omega) hP hS (lv_sub hl [0, 1, 2] rfl)
                        · skip
                          exact absurd c_184 (by decide)
                · skip
                  have z_251 : (0 : Int32).toInt = 0 := by decide
                  have z_252 : (1 : Int32).toInt = 1 := by decide
                  have z_253 : (fv_101 38).toInt = (fv_3 38).toInt := congrArg Int32.toInt ((congrFun efv_101 38).trans ((congrFun efv_39 38)))
                  have z_254 : 0 ≤ (fv_101 38).toInt ∧ (fv_101 38).toInt ≤ 340 := hF_fv_101 38
                  exact hj_114 341 1 fv_101 ar 0 _ _ ls (by first | decide | omega) (iv_w (⟨by decide, by decide⟩ : (1 : Int) ≤ (1 : Int32).toInt ∧ (1 : Int32).toInt ≤ 1) (by decide) (by decide)) hF_fv_101 (fM_rf [38, 41] _) hA_ar (fA_rf [] _) (by have : (fv_101 38).toInt = (fv_3 38).toInt := (by rw [show fv_101 38 = (fv_3 38) from (congrFun efv_101 38).trans ((congrFun efv_39 38))]); have : (fv_101 39).toInt = (fv_3 38).toInt := (by rw [show fv_101 39 = (fv_3 38) from (congrFun efv_101 39).trans ((congrFun efv_39 39))]); have : (fv_101 41).toInt = 0 := (by rw [show fv_101 41 = (0 : Int32) from (congrFun efv_101 41)]; decide); omega) (by have : (fv_101 38).toInt = (fv_3 38).toInt := (by rw [show fv_101 38 = (fv_3 38) from (congrFun efv_101 38).trans ((congrFun efv_39 38))]); have : (fv_101 39).toInt = (fv_3 38).toInt := (by rw [show fv_101 39 = (fv_3 38) from (congrFun efv_101 39).trans ((congrFun efv_39 39))]); have : (fv_101 41).toInt = 0 := (by rw [show fv_101 41 = (0 : Int32) from (congrFun efv_101 41)]; decide); rw [show (fv_101 38).toInt.toNat = (fv_3 38).toInt.toNat from (by omega)]) (by have : (fv_101 38).toInt = (fv_3 38).toInt := (by rw [show fv_101 38 = (fv_3 38) from (congrFun efv_101 38).trans ((congrFun efv_39 38))]); have : (fv_101 39).toInt = (fv_3 38).toInt := (by rw [show fv_101 39 = (fv_3 38) from (congrFun efv_101 39).trans ((congrFun efv_39 39))]); have : (fv_101 41).toInt = 0 := (by rw [show fv_101 41 = (0 : Int32) from (congrFun efv_101 41)]; decide); omega) (by have : (fv_101 38).toInt = (fv_3 38).toInt := (by rw [show fv_101 38 = (fv_3 38) from (congrFun efv_101 38).trans ((congrFun efv_39 38))]); have : (fv_101 39).toInt = (fv_3 38).toInt := (by rw [show fv_101 39 = (fv_3 38) from (congrFun efv_101 39).trans ((congrFun efv_39 39))]); have : (fv_101 41).toInt = 0 := (by rw [show fv_101 41 = (0 : Int32) from (congrFun efv_101 41)]; decide); rw [show (fv_101 38).toInt.toNat - (fv_3 38).toInt.toNat = 0 from (by omega)]; exact rd_wm_0 q_99 (by decide) (by decide) (by omega)) hP hS (lv_sub hl [2, 1, 0] rfl)
              · skip
                rcases p_95 with ⟨rfl, p_95⟩ | ⟨rfl, p_95⟩
                · skip
                  have z_255 : (0 : Int32).toInt = 0 := by decide
                  exact hj_100 0 _ _ ls (iv_w (⟨by decide, by decide⟩ : (0 : Int) ≤ (0 : Int32).toInt ∧ (0 : Int32).toInt ≤ 0) (by decide) (by decide)) (Or.inr ⟨by decide, rd_dT (show v_58 = ar 1 ((fv_3 38).toInt.toNat) from ev_58.trans (congrArg (ar 1) (show (fv_3 38).toInt.toNat = (fv_3 38).toInt.toNat from (by omega)))) (by omega) (by omega)⟩) hP hS (lv_sub hl [0] rfl)
                · skip
                  have i_96 : 97 ≤ v_58.toInt ∧ v_58.toInt ≤ 255 := ⟨p_95.1, i_59.2⟩
                  have i_97 : 97 ≤ v_58.toInt ∧ v_58.toInt ≤ 122 := ⟨i_96.1, p_95.2⟩
                  have z_256 : (1 : Int32).toInt = 1 := by decide
                  exact hj_100 1 _ _ ls (iv_w (⟨by decide, by decide⟩ : (1 : Int) ≤ (1 : Int32).toInt ∧ (1 : Int32).toInt ≤ 1) (by decide) (by decide)) (Or.inl ⟨by decide, rd_lT (show v_58 = ar 1 ((fv_3 38).toInt.toNat) from ev_58.trans (congrArg (ar 1) (show (fv_3 38).toInt.toNat = (fv_3 38).toInt.toNat from (by omega)))) (by omega) (by omega)⟩) hP hS (lv_sub hl [0] rfl)
            · skip
              rcases p_62 with ⟨rfl, p_62⟩ | ⟨rfl, p_62⟩
              · skip
                refine lv_if_ne (tgt := 166) hx hb dX12_go_124 (by decide) (fun c_63 => ?_) (fun c_63 => ?_)
                · skip
                  exact absurd c_63 (by decide)
                · skip
                  refine lv_iload_n hx hb dX12_go_127 rfl (lv_at hl 0 rfl) ?_
                  refine va_calli (va_runS (As := [.int v_58]) (rest := []) ⟨hx, hb, hml, hown, hts⟩ (m_isDigitC l H.size v_58) (va_cwS 1 hts (gS kw_8_67 kw_8_68 kw_1_15 kw_8_69) rfl rfl rfl (by decide +kernel) ⟨Nat.le_of_ble_eq_true rfl, Nat.le_of_ble_eq_true rfl⟩) ⟨fun a U g mk q => ⟨q.1, q.2⟩, fun U hU hW => ⟨rfl, congrArg Array.size hU⟩⟩ rfl rfl hl.1 rfl (lv_room (Nat.le_of_ble_eq_true rfl)) dX12_go_128 ⟨Nat.le_of_ble_eq_true rfl, Nat.le_of_ble_eq_true rfl⟩) hS (fun q _ h9 => nM_up hS q h9) (nM_up hS) (fun r_64 u t H1 locs ht _ hw hB _ hk1 hS => ?_)
                  obtain ⟨p_65, p_66, -⟩ := hw
                  have hP := my_keepM hP hk1
                  generalize H1 = H at hP hS ⊢
                  rcases p_66 with ⟨rfl, p_66⟩ | ⟨rfl, p_66⟩
                  · skip
                    refine lv_if_ne (tgt := 166) hx hb dX12_go_131 (by decide) (fun c_67 => ?_) (fun c_67 => ?_)
                    · skip
                      exact absurd c_67 (by decide)
                    · skip
                      have hb9 : rd_b (ar 1) ((fv_3 38).toInt.toNat) = v_58.toInt := by have h8 := (show rd_b (ar 1) ((fv_3 38).toInt.toNat) = v_58.toInt from by show (ar 1 ((fv_3 38).toInt.toNat)).toInt = _; rw [ev_58]; rfl); rw [show (fv_3 38).toInt.toNat = (fv_3 38).toInt.toNat from (by omega)]; exact h8
                      have hnl9 : ¬ rd_l (rd_b (ar 1) ((fv_3 38).toInt.toNat)) = true := fun w => by have h8 := of_decide_eq_true w; rw [hb9] at h8; omega
                      have hnd9 : ¬ rd_d (rd_b (ar 1) ((fv_3 38).toInt.toNat)) = true := fun w => by have h8 := of_decide_eq_true w; rw [hb9] at h8; omega
                      have hen9 : rd_en (rd_b (ar 1)) (fv 37).toInt.toNat (k9 + 1) = (fv_3 38).toInt.toNat + 1 := by rw [rd_en_at hsl9, hst9, rd_w0 (fun w => w.2.elim hnl9 hnd9)]; unfold rd_mx; rw [if_neg (by omega)]
                      have hT9 : rd_T (rd_b (ar 1)) (fv 37).toInt.toNat k9 = rd_lk [rd_b (ar 1) ((fv_3 38).toInt.toNat)] := by rw [rd_T_at hsl9, hst9, hen9, show (fv_3 38).toInt.toNat + 1 - (fv_3 38).toInt.toNat = 1 from (by omega)]; have hc9 : rd_c (rd_b (ar 1)) ((fv_3 38).toInt.toNat) 1 = 0 := rd_c_n (m := 0) hnd9; rw [rd_cl_k (by omega) (by omega)]; rfl
                      refine lv_aload_n hx hb dX12_go_134 rfl (lv_at hl 1 rfl) ?_
                      refine lv_iload_n hx hb dX12_go_135 rfl (lv_at hl 0 rfl) ?_
                      refine va_calli (va_runS (As := [.int v_58]) (rest := [.ref h]) ⟨hx, hb, hml, hown, hts⟩ (m_isMarkC l H.size v_58) (va_cwS 1 hts (gS kw_8_70 kw_8_71 kw_1_15 kw_8_72) rfl rfl rfl (by decide +kernel) ⟨Nat.le_of_ble_eq_true rfl, Nat.le_of_ble_eq_true rfl⟩) ⟨fun a U g mk q => ⟨q.1, q.2⟩, fun U hU hW => ⟨rfl, congrArg Array.size hU⟩⟩ rfl rfl hl.1 rfl (lv_room (Nat.le_of_ble_eq_true rfl)) dX12_go_136 ⟨Nat.le_of_ble_eq_true rfl, Nat.le_of_ble_eq_true rfl⟩) hS (fun q _ h9 => nM_up hS q h9) (nM_up hS) (fun r_68 u t H1 locs ht _ hw hB _ hk1 hS => ?_)
                      obtain ⟨p_69, p_70, -⟩ := hw
                      have hP := my_keepM hP hk1
                      generalize H1 = H at hP hS ⊢
                      rcases p_70 with ⟨rfl, p_70⟩ | ⟨rfl, p_70⟩
                      · skip
                        refine lv_if_eq (tgt := 146) hx hb dX12_go_139 (by decide) (fun c_71 => ?_) (fun c_71 => ?_)
                        · skip
                          refine lv_iconst (v := 1) hx hb dX12_go_146 (by decide) ?_
                          refine pM_40 hx hb htg hown hK hP hS hd dX12_go_147 (fun H locs fv_72 efv_72 hP hS => ?_)
                          have hF_fv_72 : rF fv_72 := rF_put hF_fv_39 efv_72 (iv_any _)
                          refine lv_aload_n hx hb dX12_go_150 rfl (lv_at hl 1 rfl) ?_
                          refine lv_iload_n hx hb dX12_go_151 rfl (lv_at hl 0 rfl) ?_
                          refine pM_42 hx hb htg hown hK hP hS hd dX12_go_152 (fun H locs fv_73 efv_73 hP hS => ?_)
                          have hF_fv_73 : rF fv_73 := rF_put hF_fv_72 efv_73 (iv_any _)
                          refine lv_aload_n hx hb dX12_go_155 rfl (lv_at hl 1 rfl) ?_
                          refine lv_dup hx hb dX12_go_156 rfl ?_
                          refine gM_38 hx hb htg hown hK hP dX12_go_157 ?_
                          refine my_ti (y := fv_3 38) ((congrFun efv_73 38).trans ((congrFun efv_72 38).trans ((congrFun efv_39 38)))) ?_
                          refine lv_iconst (v := 1) hx hb dX12_go_160 (by decide) ?_
                          refine lv_iadd hx hb dX12_go_161 ?_
                          refine lv_topi (fun v_74 ev_74 => ?_)
                          have t_75 : v_74.toInt = (fv_3 38).toInt + 1 ∧ 1 ≤ v_74.toInt ∧ v_74.toInt ≤ 340 := iv_addc ev_74 i_51 (by decide) (by decide) (by decide)
                          refine pM_38 hx hb htg hown hK hP hS hd dX12_go_162 (fun H locs fv_77 efv_77 hP hS => ?_)
                          have hF_fv_77 : rF fv_77 := rF_put hF_fv_73 efv_77 (iv_w t_75.2 (by decide) (by decide))
                          exact W.vret hx hb hr (fun t ht hW => ⟨⟨(fv_77, wd, ar), rfl, ⟨hF_fv_77, hA_ar, (fM_put (fM_put (fM_put (fM_put (fM_call (fM_rf [38, 39, 40, 41, 42] _) fr_4 (by decide)) efv_39 (by decide)) efv_72 (by decide)) efv_73 (by decide)) efv_77 (by decide)), (fA_rf [] _), (show (fv_77 39).toInt = (rd_S (rd_b (ar 1)) (fv 37).toInt.toNat k9 : Nat) from by have : (fv_77 38).toInt = v_74.toInt := (by rw [show fv_77 38 = v_74 from (congrFun efv_77 38)]); have : (fv_77 39).toInt = (fv_3 38).toInt := (by rw [show fv_77 39 = (fv_3 38) from (congrFun efv_77 39).trans ((congrFun efv_73 39).trans ((congrFun efv_72 39).trans ((congrFun efv_39 39))))]); have h0s := hF_fv_3 38; rw [rd_S_at hsl9, hst9]; omega), (show rd_st (rd_b (ar 1)) (fv 37).toInt.toNat k9 < rd_lim ((fv 37).toInt.toNat) → (fv_77 38).toInt = (rd_en (rd_b (ar 1)) (fv 37).toInt.toNat (k9 + 1) : Nat) from fun _ => by have : (fv_77 38).toInt = v_74.toInt := (by rw [show fv_77 38 = v_74 from (congrFun efv_77 38)]); have : (fv_77 39).toInt = (fv_3 38).toInt := (by rw [show fv_77 39 = (fv_3 38) from (congrFun efv_77 39).trans ((congrFun efv_73 39).trans ((congrFun efv_72 39).trans ((congrFun efv_39 39))))]); have h0s := hF_fv_3 38; rw [hen9]; omega), (show rd_rel (rd_T (rd_b (ar 1)) (fv 37).toInt.toNat k9) (rd_N (rd_b (ar 1)) (fv 37).toInt.toNat k9) (fv_77 40) (fv_77 42) (fv_77 41) wd from by rw [hT9]; exact rd_rel_no (show (fv_77 40).toInt = 1 from by rw [show fv_77 40 = (1 : Int32) from (congrFun efv_77 40).trans ((congrFun efv_73 40).trans ((congrFun efv_72 40)))]; decide) (rd_lk_nm (by rw [hb9]; omega))), trivial⟩, ⟨by rw [ht]; exact hP, va_K.moved hW.alike hK⟩⟩, hS.F ht⟩) hS.2.2 dX12_go_165
                        · skip
                          exact absurd c_71 (by decide)
                      · skip
                        refine lv_if_eq (tgt := 146) hx hb dX12_go_139 (by decide) (fun c_78 => ?_) (fun c_78 => ?_)
                        · skip
                          exact absurd c_78 (by decide)
                        · skip
                          refine lv_iconst (v := 4) hx hb dX12_go_142 (by decide) ?_
                          refine lv_goto (tgt := 147) hx hb dX12_go_143 (by decide) ?_
                          refine pM_40 hx hb htg hown hK hP hS hd dX12_go_147 (fun H locs fv_79 efv_79 hP hS => ?_)
                          have hF_fv_79 : rF fv_79 := rF_put hF_fv_39 efv_79 (iv_any _)
                          refine lv_aload_n hx hb dX12_go_150 rfl (lv_at hl 1 rfl) ?_
                          refine lv_iload_n hx hb dX12_go_151 rfl (lv_at hl 0 rfl) ?_
                          refine pM_42 hx hb htg hown hK hP hS hd dX12_go_152 (fun H locs fv_80 efv_80 hP hS => ?_)
                          have hF_fv_80 : rF fv_80 := rF_put hF_fv_79 efv_80 (iv_any _)
                          refine lv_aload_n hx hb dX12_go_155 rfl (lv_at hl 1 rfl) ?_
                          refine lv_dup hx hb dX12_go_156 rfl ?_
                          refine gM_38 hx hb htg hown hK hP dX12_go_157 ?_
                          refine my_ti (y := fv_3 38) ((congrFun efv_80 38).trans ((congrFun efv_79 38).trans ((congrFun efv_39 38)))) ?_
                          refine lv_iconst (v := 1) hx hb dX12_go_160 (by decide) ?_
                          refine lv_iadd hx hb dX12_go_161 ?_
                          refine lv_topi (fun v_81 ev_81 => ?_)
                          have t_82 : v_81.toInt = (fv_3 38).toInt + 1 ∧ 1 ≤ v_81.toInt ∧ v_81.toInt ≤ 340 := iv_addc ev_81 i_51 (by decide) (by decide) (by decide)
                          refine pM_38 hx hb htg hown hK hP hS hd dX12_go_162 (fun H locs fv_84 efv_84 hP hS => ?_)
                          have hF_fv_84 : rF fv_84 := rF_put hF_fv_80 efv_84 (iv_w t_82.2 (by decide) (by decide))
                          exact W.vret hx hb hr (fun t ht hW => ⟨⟨(fv_84, wd, ar), rfl, ⟨hF_fv_84, hA_ar, (fM_put (fM_put (fM_put (fM_put (fM_call (fM_rf [38, 39, 40, 41, 42] _) fr_4 (by decide)) efv_39 (by decide)) efv_79 (by decide)) efv_80 (by decide)) efv_84 (by decide)), (fA_rf [] _), (show (fv_84 39).toInt = (rd_S (rd_b (ar 1)) (fv 37).toInt.toNat k9 : Nat) from by have : (fv_84 38).toInt = v_81.toInt := (by rw [show fv_84 38 = v_81 from (congrFun efv_84 38)]); have : (fv_84 39).toInt = (fv_3 38).toInt := (by rw [show fv_84 39 = (fv_3 38) from (congrFun efv_84 39).trans ((congrFun efv_80 39).trans ((congrFun efv_79 39).trans ((congrFun efv_39 39))))]); have h0s := hF_fv_3 38; rw [rd_S_at hsl9, hst9]; omega), (show rd_st (rd_b (ar 1)) (fv 37).toInt.toNat k9 < rd_lim ((fv 37).toInt.toNat) → (fv_84 38).toInt = (rd_en (rd_b (ar 1)) (fv 37).toInt.toNat (k9 + 1) : Nat) from fun _ => by have : (fv_84 38).toInt = v_81.toInt := (by rw [show fv_84 38 = v_81 from (congrFun efv_84 38)]); have : (fv_84 39).toInt = (fv_3 38).toInt := (by rw [show fv_84 39 = (fv_3 38) from (congrFun efv_84 39).trans ((congrFun efv_80 39).trans ((congrFun efv_79 39).trans ((congrFun efv_39 39))))]); have h0s := hF_fv_3 38; rw [hen9]; omega), (show rd_rel (rd_T (rd_b (ar 1)) (fv 37).toInt.toNat k9) (rd_N (rd_b (ar 1)) (fv 37).toInt.toNat k9) (fv_84 40) (fv_84 42) (fv_84 41) wd from by rw [hT9]; exact rd_rel_sign (show (fv_84 40).toInt = 4 from by rw [show fv_84 40 = (4 : Int32) from (congrFun efv_84 40).trans ((congrFun efv_80 40).trans ((congrFun efv_79 40)))]; decide) (show (fv_84 42).toInt = rd_b (ar 1) ((fv_3 38).toInt.toNat) from by rw [show fv_84 42 = v_58 from (congrFun efv_84 42).trans ((congrFun efv_80 42))]; exact hb9.symm) (by rw [hb9]; omega)), trivial⟩, ⟨by rw [ht]; exact hP, va_K.moved hW.alike hK⟩⟩, hS.F ht⟩) hS.2.2 dX12_go_165
                  · skip
                    have i_85 : 48 ≤ v_58.toInt ∧ v_58.toInt ≤ 255 := ⟨p_66.1, i_59.2⟩
                    have i_86 : 48 ≤ v_58.toInt ∧ v_58.toInt ≤ 57 := ⟨i_85.1, p_66.2⟩
                    refine lv_if_ne (tgt := 166) hx hb dX12_go_131 (by decide) (fun c_87 => ?_) (fun c_87 => ?_)
                    · skip
                      exact hj_92  _ _ ls (by omega) hP hS (lv_sub hl [1, 0] rfl)
                    · skip
                      exact absurd c_87 (by decide)
              · skip
                have i_88 : 97 ≤ v_58.toInt ∧ v_58.toInt ≤ 255 := ⟨p_62.1, i_59.2⟩
                have i_89 : 97 ≤ v_58.toInt ∧ v_58.toInt ≤ 122 := ⟨i_88.1, p_62.2⟩
                refine lv_if_ne (tgt := 166) hx hb dX12_go_124 (by decide) (fun c_90 => ?_) (fun c_90 => ?_)
                · skip
                  exact hj_92  _ _ ls (by omega) hP hS (lv_sub hl [1, 0] rfl)
                · skip
                  exact absurd c_90 (by decide)
          · skip
            have k_257 := Int32.le_iff_toInt_le.mp (Int32.not_lt.mp c_50)
            have z_258 : (fv_39 39).toInt = (fv_3 38).toInt := congrArg Int32.toInt ((congrFun efv_39 39))
            have z_259 : 0 ≤ (fv_39 39).toInt ∧ (fv_39 39).toInt ≤ 340 := hF_fv_39 39
            refine lv_aload_n hx hb dX12_go_104 rfl (lv_at hl 0 rfl) ?_
            refine lv_iconst (v := 0) hx hb dX12_go_105 (by decide) ?_
            refine pM_40 hx hb htg hown hK hP hS hd dX12_go_106 (fun H locs fv_260 efv_260 hP hS => ?_)
            have hF_fv_260 : rF fv_260 := rF_put hF_fv_39 efv_260 (iv_any _)
            have z_261 : (fv_260 39).toInt = (fv_3 38).toInt := congrArg Int32.toInt ((congrFun efv_260 39).trans ((congrFun efv_39 39)))
            have z_262 : 0 ≤ (fv_260 39).toInt ∧ (fv_260 39).toInt ≤ 340 := hF_fv_260 39
            have z_263 : (fv_260 38).toInt = (fv_3 38).toInt := congrArg Int32.toInt ((congrFun efv_260 38).trans ((congrFun efv_39 38)))
            have z_264 : 0 ≤ (fv_260 38).toInt ∧ (fv_260 38).toInt ≤ 340 := hF_fv_260 38
            exact W.vret hx hb hr (fun t ht hW => ⟨⟨(fv_260, wd, ar), rfl, ⟨hF_fv_260, hA_ar, (fM_put (fM_put (fM_call (fM_rf [38, 39, 40, 41, 42] _) fr_4 (by decide)) efv_39 (by decide)) efv_260 (by decide)), (fA_rf [] _), (show (fv_260 39).toInt = (rd_S (rd_b (ar 1)) (fv 37).toInt.toNat k9 : Nat) from by have : (fv_260 38).toInt = (fv_3 38).toInt := (by rw [show fv_260 38 = (fv_3 38) from (congrFun efv_260 38).trans ((congrFun efv_39 38))]); have : (fv_260 39).toInt = (fv_3 38).toInt := (by rw [show fv_260 39 = (fv_3 38) from (congrFun efv_260 39).trans ((congrFun efv_39 39))]); have h0s := hF_fv_3 38; have hl9 := rd_lim_le ((fv 37).toInt.toNat); have hst8 : rd_lim ((fv 37).toInt.toNat) ≤ rd_st (rd_b (ar 1)) (fv 37).toInt.toNat k9 := (rd_stM q_37).2 (by omega); rw [rd_S_e hst8]; omega), (show rd_st (rd_b (ar 1)) (fv 37).toInt.toNat k9 < rd_lim ((fv 37).toInt.toNat) → (fv_260 38).toInt = (rd_en (rd_b (ar 1)) (fv 37).toInt.toNat (k9 + 1) : Nat) from fun w => by have : (fv_260 38).toInt = (fv_3 38).toInt := (by rw [show fv_260 38 = (fv_3 38) from (congrFun efv_260 38).trans ((congrFun efv_39 38))]); have : (fv_260 39).toInt = (fv_3 38).toInt := (by rw [show fv_260 39 = (fv_3 38) from (congrFun efv_260 39).trans ((congrFun efv_39 39))]); have h0s := hF_fv_3 38; have hl9 := rd_lim_le ((fv 37).toInt.toNat); have hst8 : rd_lim ((fv 37).toInt.toNat) ≤ rd_st (rd_b (ar 1)) (fv 37).toInt.toNat k9 := (rd_stM q_37).2 (by omega); exfalso; omega), (show rd_rel (rd_T (rd_b (ar 1)) (fv 37).toInt.toNat k9) (rd_N (rd_b (ar 1)) (fv 37).toInt.toNat k9) (fv_260 40) (fv_260 42) (fv_260 41) wd from by have : (fv_260 38).toInt = (fv_3 38).toInt := (by rw [show fv_260 38 = (fv_3 38) from (congrFun efv_260 38).trans ((congrFun efv_39 38))]); have : (fv_260 39).toInt = (fv_3 38).toInt := (by rw [show fv_260 39 = (fv_3 38) from (congrFun efv_260 39).trans ((congrFun efv_39 39))]); have h0s := hF_fv_3 38; have hl9 := rd_lim_le ((fv 37).toInt.toNat); have hst8 : rd_lim ((fv 37).toInt.toNat) ≤ rd_st (rd_b (ar 1)) (fv 37).toInt.toNat k9 := (rd_stM q_37).2 (by omega); exact rd_rel_end (show (fv_260 40).toInt = 0 from by rw [show fv_260 40 = (0 : Int32) from (congrFun efv_260 40)]; decide) (rd_T_e hst8 (by omega))), trivial⟩, ⟨by rw [ht]; exact hP, va_K.moved hW.alike hK⟩⟩, hS.F ht⟩) hS.2.2 dX12_go_109
        · skip
          refine lv_icmp_le (tgt := 93) hx hb dX12_go_67 (by decide) (fun c_40 => ?_) (fun c_40 => ?_)
          · skip
            have i_41 : 0 ≤ (fv 37).toInt ∧ (fv 37).toInt ≤ 300 := iv_le1 i_12 (⟨by decide, by decide⟩ : (300 : Int) ≤ (300 : Int32).toInt ∧ (300 : Int32).toInt ≤ 300) c_40
            have z_265 : (fv_39 39).toInt = (fv_3 38).toInt := congrArg Int32.toInt ((congrFun efv_39 39))
            have z_266 : 0 ≤ (fv_39 39).toInt ∧ (fv_39 39).toInt ≤ 340 := hF_fv_39 39
            exact hj_49  _ _ ls (by omega) hP hS (lv_sub hl [0] rfl)
          · skip
            have i_42 : 301 ≤ (fv 37).toInt ∧ (fv 37).toInt ≤ 340 := iv_lt2 (⟨by decide, by decide⟩ : (300 : Int) ≤ (300 : Int32).toInt ∧ (300 : Int32).toInt ≤ 300) i_12 (Int32.not_le.mp c_40)
            refine lv_aload_n hx hb dX12_go_70 rfl (lv_at hl 0 rfl) ?_
            refine gM_39 hx hb htg hown hK hP dX12_go_71 ?_
            refine my_ti (y := fv_3 38) ((congrFun efv_39 39)) ?_
            refine lv_sipush (v := 300) hx hb dX12_go_74 (by decide) ?_
            refine lv_icmp_lt (tgt := 93) hx hb dX12_go_77 (by decide) (fun c_43 => ?_) (fun c_43 => ?_)
            · skip
              have i_44 : 0 ≤ (fv_3 38).toInt ∧ (fv_3 38).toInt ≤ 299 := iv_lt1 i_11 (⟨by decide, by decide⟩ : (300 : Int) ≤ (300 : Int32).toInt ∧ (300 : Int32).toInt ≤ 300) c_43
              have z_267 : (fv_39 39).toInt = (fv_3 38).toInt := congrArg Int32.toInt ((congrFun efv_39 39))
              have z_268 : 0 ≤ (fv_39 39).toInt ∧ (fv_39 39).toInt ≤ 340 := hF_fv_39 39
              exact hj_49  _ _ ls (by omega) hP hS (lv_sub hl [0] rfl)
            · skip
              have i_45 : 300 ≤ (fv_3 38).toInt ∧ (fv_3 38).toInt ≤ 340 := iv_le2 (⟨by decide, by decide⟩ : (300 : Int) ≤ (300 : Int32).toInt ∧ (300 : Int32).toInt ≤ 300) i_11 (Int32.not_lt.mp c_43)
              refine lv_aload_n hx hb dX12_go_80 rfl (lv_at hl 0 rfl) ?_
              refine lv_sipush (v := 300) hx hb dX12_go_81 (by decide) ?_
              refine pM_39 hx hb htg hown hK hP hS hd dX12_go_84 (fun H locs fv_46 efv_46 hP hS => ?_)
              have hF_fv_46 : rF fv_46 := rF_put hF_fv_39 efv_46 (iv_w (⟨by decide, by decide⟩ : (300 : Int) ≤ (300 : Int32).toInt ∧ (300 : Int32).toInt ≤ 300) (by decide) (by decide))
              refine lv_aload_n hx hb dX12_go_87 rfl (lv_at hl 0 rfl) ?_
              refine lv_iconst (v := 1) hx hb dX12_go_88 (by decide) ?_
              refine pM_40 hx hb htg hown hK hP hS hd dX12_go_89 (fun H locs fv_47 efv_47 hP hS => ?_)
              have hF_fv_47 : rF fv_47 := rF_put hF_fv_46 efv_47 (iv_any _)
              exact W.vret hx hb hr (fun t ht hW => ⟨⟨(fv_47, wd, ar), rfl, ⟨hF_fv_47, hA_ar, (fM_put (fM_put (fM_put (fM_call (fM_rf [38, 39, 40, 41, 42] _) fr_4 (by decide)) efv_39 (by decide)) efv_46 (by decide)) efv_47 (by decide)), (fA_rf [] _), (show (fv_47 39).toInt = (rd_S (rd_b (ar 1)) (fv 37).toInt.toNat k9 : Nat) from by have : (fv_47 38).toInt = (fv_3 38).toInt := (by rw [show fv_47 38 = (fv_3 38) from (congrFun efv_47 38).trans ((congrFun efv_46 38).trans ((congrFun efv_39 38)))]); have : (fv_47 39).toInt = 300 := (by rw [show fv_47 39 = (300 : Int32) from (congrFun efv_47 39).trans ((congrFun efv_46 39))]; decide); have h0s := hF_fv_3 38; have hl9 := rd_lim_le ((fv 37).toInt.toNat); have hst8 : rd_lim ((fv 37).toInt.toNat) ≤ rd_st (rd_b (ar 1)) (fv 37).toInt.toNat k9 := (rd_stM q_37).2 (by omega); rw [rd_S_e hst8]; omega), (show rd_st (rd_b (ar 1)) (fv 37).toInt.toNat k9 < rd_lim ((fv 37).toInt.toNat) → (fv_47 38).toInt = (rd_en (rd_b (ar 1)) (fv 37).toInt.toNat (k9 + 1) : Nat) from fun w => by have : (fv_47 38).toInt = (fv_3 38).toInt := (by rw [show fv_47 38 = (fv_3 38) from (congrFun efv_47 38).trans ((congrFun efv_46 38).trans ((congrFun efv_39 38)))]); have : (fv_47 39).toInt = 300 := (by rw [show fv_47 39 = (300 : Int32) from (congrFun efv_47 39).trans ((congrFun efv_46 39))]; decide); have h0s := hF_fv_3 38; have hl9 := rd_lim_le ((fv 37).toInt.toNat); have hst8 : rd_lim ((fv 37).toInt.toNat) ≤ rd_st (rd_b (ar 1)) (fv 37).toInt.toNat k9 := (rd_stM q_37).2 (by omega); exfalso; omega), (show rd_rel (rd_T (rd_b (ar 1)) (fv 37).toInt.toNat k9) (rd_N (rd_b (ar 1)) (fv 37).toInt.toNat k9) (fv_47 40) (fv_47 42) (fv_47 41) wd from by have : (fv_47 38).toInt = (fv_3 38).toInt := (by rw [show fv_47 38 = (fv_3 38) from (congrFun efv_47 38).trans ((congrFun efv_46 38).trans ((congrFun efv_39 38)))]); have : (fv_47 39).toInt = 300 := (by rw [show fv_47 39 = (300 : Int32) from (congrFun efv_47 39).trans ((congrFun efv_46 39))]; decide); have h0s := hF_fv_3 38; have hl9 := rd_lim_le ((fv 37).toInt.toNat); have hst8 : rd_lim ((fv 37).toInt.toNat) ≤ rd_st (rd_b (ar 1)) (fv 37).toInt.toNat k9 := (rd_stM q_37).2 (by omega); exact rd_rel_no (show (fv_47 40).toInt = 1 from by rw [show fv_47 40 = (1 : Int32) from (congrFun efv_47 40)]; decide) (rd_T_w hst8 (by omega))), trivial⟩, ⟨by rw [ht]; exact hP, va_K.moved hW.alike hK⟩⟩, hS.F ht⟩) hS.2.2 dX12_go_92
      · skip
        refine lv_icmp_ge (tgt := 52) hx hb dX12_go_8 (by decide) (fun c_13 => ?_) (fun c_13 => ?_)
        · skip
          have k_14 := Int32.le_iff_toInt_le.mp c_13
          exact hj_38  _ _ ls (q_6.trans (rd_s0 (p := (fv_3 38).toInt.toNat) (fun w => by omega))) hP hS (lv_sub hl [0] rfl)
        · skip
          have i_15 : 0 ≤ (fv_3 38).toInt ∧ (fv_3 38).toInt ≤ 339 := iv_lt1 i_11 i_12 (Int32.not_le.mp c_13)
          have i_16 : 1 ≤ (fv 37).toInt ∧ (fv 37).toInt ≤ 340 := iv_lt2 i_11 i_12 (Int32.not_le.mp c_13)
          have k_17 := Int32.lt_iff_toInt_lt.mp (Int32.not_le.mp c_13)
          refine lv_aload_n hx hb dX12_go_11 rfl (lv_at hl 0 rfl) ?_
          refine gM_1 hx hb htg hown hK hP dX12_go_12 ?_
          refine lv_aload_n hx hb dX12_go_15 rfl (lv_at hl 0 rfl) ?_
          refine gM_38 hx hb htg hown hK hP dX12_go_16 ?_
          refine lM_1 hx hb hK hP (iv_in i_15 (by decide) (by decide)) dX12_go_19 (fun v_18 ev_18 => ?_)
          have i_19 : 0 ≤ v_18.toInt ∧ v_18.toInt ≤ 255 := ev_18 ▸ hA_ar 1 _
          refine lv_bipush (v := 32) hx hb dX12_go_20 (by decide) ?_
          refine lv_icmp_eq (tgt := 39) hx hb dX12_go_22 (by decide) (fun c_20 => ?_) (fun c_20 => ?_)
          · skip
            have i_21 : 32 ≤ v_18.toInt ∧ v_18.toInt ≤ 32 := iv_eq1 (⟨by decide, by decide⟩ : (32 : Int) ≤ (32 : Int32).toInt ∧ (32 : Int32).toInt ≤ 32) c_20
            refine lv_aload_n hx hb dX12_go_39 rfl (lv_at hl 0 rfl) ?_
            refine lv_dup hx hb dX12_go_40 rfl ?_
            refine gM_38 hx hb htg hown hK hP dX12_go_41 ?_
            refine lv_iconst (v := 1) hx hb dX12_go_44 (by decide) ?_
            refine lv_iadd hx hb dX12_go_45 ?_
            refine lv_topi (fun v_23 ev_23 => ?_)
            have t_24 : v_23.toInt = (fv_3 38).toInt + 1 ∧ 1 ≤ v_23.toInt ∧ v_23.toInt ≤ 340 := iv_addc ev_23 i_15 (by decide) (by decide) (by decide)
            refine pM_38 hx hb htg hown hK hP hS hd dX12_go_46 (fun H locs fv_26 efv_26 hP hS => ?_)
            have hF_fv_26 : rF fv_26 := rF_put hF_fv_3 efv_26 (iv_w t_24.2 (by decide) (by decide))
            refine lv_goto (tgt := 0) hx hb dX12_go_49 (by decide) ?_
            have z_269 : (fv_26 38).toInt = v_23.toInt := congrArg Int32.toInt ((congrFun efv_26 38))
            have z_270 : 0 ≤ (fv_26 38).toInt ∧ (fv_26 38).toInt ≤ 340 := hF_fv_26 38
            exact ih_8 fv_26 _ _ ls (by omega) hF_fv_26 (fM_put (fM_call (fM_rf [38] _) fr_4 (by decide)) efv_26 (by decide)) (by omega) (q_6.trans (by have hb9 : rd_b (ar 1) ((fv_3 38).toInt.toNat) = v_18.toInt := (by have h8 := (show rd_b (ar 1) ((fv_3 38).toInt.toNat) = v_18.toInt from by show (ar 1 ((fv_3 38).toInt.toNat)).toInt = _; rw [ev_18]; rfl); rw [show (fv_3 38).toInt.toNat = (fv_3 38).toInt.toNat from (by omega)]; exact h8); rw [rd_s1 (p := (fv_3 38).toInt.toNat) (by omega) (Or.inl (hb9.trans (by omega))), show (fv_26 38).toInt.toNat = (fv_3 38).toInt.toNat + 1 from (by omega)])) (by omega) hP hS (lv_sub hl [0] rfl)
          · skip
            have k_27 : ¬ v_18.toInt = 32 := fun q => c_20 (Int32.toInt_inj.mp q)
            refine lv_aload_n hx hb dX12_go_25 rfl (lv_at hl 0 rfl) ?_
            refine gM_1 hx hb htg hown hK hP dX12_go_26 ?_
            refine lv_aload_n hx hb dX12_go_29 rfl (lv_at hl 0 rfl) ?_
            refine gM_38 hx hb htg hown hK hP dX12_go_30 ?_
            refine lM_1 hx hb hK hP (iv_in i_15 (by decide) (by decide)) dX12_go_33 (fun v_28 ev_28 => ?_)
            obtain rfl : v_18 = v_28 := ev_18.trans ev_28.symm
            refine lv_bipush (v := 10) hx hb dX12_go_34 (by decide) ?_
            refine lv_icmp_ne (tgt := 52) hx hb dX12_go_36 (by decide) (fun c_29 => ?_) (fun c_29 => ?_)
            · skip
              have k_30 : ¬ v_18.toInt = 10 := fun q => c_29 (Int32.toInt_inj.mp q)
              exact hj_38  _ _ ls (q_6.trans (rd_s0 (p := (fv_3 38).toInt.toNat) (fun w => by have hb9 : rd_b (ar 1) ((fv_3 38).toInt.toNat) = v_18.toInt := (show rd_b (ar 1) ((fv_3 38).toInt.toNat) = v_18.toInt from by show (ar 1 ((fv_3 38).toInt.toNat)).toInt = _; rw [ev_18]; rfl); have hw9 := w.2; rw [hb9] at hw9; omega))) hP hS (lv_sub hl [0] rfl)
            · skip
              have i_31 : 10 ≤ v_18.toInt ∧ v_18.toInt ≤ 10 := iv_eq1 (⟨by decide, by decide⟩ : (10 : Int) ≤ (10 : Int32).toInt ∧ (10 : Int32).toInt ≤ 10) c_29
              refine lv_aload_n hx hb dX12_go_39 rfl (lv_at hl 0 rfl) ?_
              refine lv_dup hx hb dX12_go_40 rfl ?_
              refine gM_38 hx hb htg hown hK hP dX12_go_41 ?_
              refine lv_iconst (v := 1) hx hb dX12_go_44 (by decide) ?_
              refine lv_iadd hx hb dX12_go_45 ?_
              refine lv_topi (fun v_33 ev_33 => ?_)
              have t_34 : v_33.toInt = (fv_3 38).toInt + 1 ∧ 1 ≤ v_33.toInt ∧ v_33.toInt ≤ 340 := iv_addc ev_33 i_15 (by decide) (by decide) (by decide)
              refine pM_38 hx hb htg hown hK hP hS hd dX12_go_46 (fun H locs fv_36 efv_36 hP hS => ?_)
              have hF_fv_36 : rF fv_36 := rF_put hF_fv_3 efv_36 (iv_w t_34.2 (by decide) (by decide))
              refine lv_goto (tgt := 0) hx hb dX12_go_49 (by decide) ?_
              have z_271 : (fv_36 38).toInt = v_33.toInt := congrArg Int32.toInt ((congrFun efv_36 38))
              have z_272 : 0 ≤ (fv_36 38).toInt ∧ (fv_36 38).toInt ≤ 340 := hF_fv_36 38
              exact ih_8 fv_36 _ _ ls (by omega) hF_fv_36 (fM_put (fM_call (fM_rf [38] _) fr_4 (by decide)) efv_36 (by decide)) (by omega) (q_6.trans (by have hb9 : rd_b (ar 1) ((fv_3 38).toInt.toNat) = v_18.toInt := (by have h8 := (show rd_b (ar 1) ((fv_3 38).toInt.toNat) = v_18.toInt from by show (ar 1 ((fv_3 38).toInt.toNat)).toInt = _; rw [ev_18]; rfl); rw [show (fv_3 38).toInt.toNat = (fv_3 38).toInt.toNat from (by omega)]; exact h8); rw [rd_s1 (p := (fv_3 38).toInt.toNat) (by omega) (Or.inr (hb9.trans (by omega))), show (fv_36 38).toInt.toNat = (fv_3 38).toInt.toNat + 1 from (by omega)])) (by omega) hP hS (lv_sub hl [0] rfl)
  · skip
    have z_273 : 0 ≤ (fv 38).toInt ∧ (fv 38).toInt ≤ 340 := hF_fv 38
    exact hj_10 341 fv _ _ ls (by omega) hF_fv (fM_rf [38] _) (by omega) (by rw [show (fv 38).toInt.toNat = rd_en (rd_b (ar 1)) (fv 37).toInt.toNat k9 from (by omega)]) (by omega) hP hS (lv_sub hl [0] rfl)

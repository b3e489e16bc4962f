-- the reference's evaluation: a row of answers
def cd_vs (g : Nat → Int32) : Nat → List Bool
  | 0 => []
  | n + 1 => decide ((g n).toInt = 1) :: cd_vs g n
theorem cd_vs_eq {g g1 : Nat → Int32} : ∀ n, (∀ i, i < n → g1 i = g i) → cd_vs g1 n = cd_vs g n := by
  intro n
  induction n with
  | zero => intro _; rfl
  | succ n ih =>
    intro h
    show decide ((g1 n).toInt = 1) :: cd_vs g1 n = decide ((g n).toInt = 1) :: cd_vs g n
    rw [h n (by omega), ih (fun i hi => h i (by omega))]
theorem cd_vs_put {g g1 : Nat → Int32} {n : Nat} {x : Int32} (h : g1 = upd g n x) : cd_vs g1 (n + 1) = decide (x.toInt = 1) :: cd_vs g n := by
  show decide ((g1 n).toInt = 1) :: cd_vs g1 n = _
  rw [h, up_eq, cd_vs_eq n (fun i hi => up_ne (by omega))]
def cm_I (f : Nat → Int) (a b c g : Nat → Int32) (n p m : Nat) (W : List Bool) : Prop := cd_ev f (cd_vs g n) (cd_lm a b c p m) = W ∧ ((n = 0 ∧ m = 0) ∨ cd_hd n (cd_lm a b c p m) = some 1)
theorem cd_lm_c (a b c : Nat → Int32) (p m : Nat) : cd_lm a b c p (m + 1) = cd_t3 a b c p :: cd_lm a b c (p + 1) m := by
  have h := cd_lm_app a b c p 1 m
  rw [show 1 + m = m + 1 from by omega] at h
  rw [h]; rfl
theorem cm_Ih {f : Nat → Int} {a b c g : Nat → Int32} {n p m : Nat} {W : List Bool} (h : cm_I f a b c g n p (m + 1) W) : cd_ev f (cd_vs g n) (((a p).toInt.toNat, (b p).toInt.toNat, (c p).toInt) :: cd_lm a b c (p + 1) m) = W ∧ cd_hd n (((a p).toInt.toNat, (b p).toInt.toNat, (c p).toInt) :: cd_lm a b c (p + 1) m) = some 1 := by
  obtain ⟨h1, h2⟩ := h
  rw [cd_lm_c] at h1 h2
  rcases h2 with h2 | h2
  · omega
  · exact ⟨h1, h2⟩
theorem cm_b {p : Prop} [Decidable p] {x : Int32} (h : x.toInt = 1 ↔ p) : decide (x.toInt = 1) = decide p := by
  by_cases q : p
  · rw [decide_eq_true q, decide_eq_true (h.mpr q)]
  · rw [decide_eq_false q, decide_eq_false (fun w => q (h.mp w))]
theorem cm_I_not {f : Nat → Int} {a b c g g1 : Nat → Int32} {n p m : Nat} {W : List Bool} {x : Int32} (h : cm_I f a b c g n p (m + 1) W) (hw : (a p).toInt = 12) (hg : g1 = upd g (n - 1) x) (hx : x.toInt = 1 ↔ ¬ (g (n - 1)).toInt = 1) : cm_I f a b c g1 n (p + 1) m W := by
  obtain ⟨h1, h2⟩ := cm_Ih h
  rw [show (a p).toInt.toNat = 12 from by omega] at h1 h2
  rw [cd_hd_e, if_neg (by decide), if_pos rfl] at h2
  cases n with
  | zero => rw [if_pos rfl] at h2; cases h2
  | succ n =>
    rw [if_neg (by omega)] at h2
    have hn : n + 1 - 1 = n := by omega
    rw [hn] at hg hx
    have e : cd_vs g (n + 1) = decide ((g n).toInt = 1) :: cd_vs g n := rfl
    rw [e, cd_ev_not] at h1
    refine ⟨?_, Or.inr h2⟩
    rw [cd_vs_put hg, cm_b hx, ← h1]
    by_cases q : (g n).toInt = 1
    · rw [decide_eq_true q, decide_eq_false (fun w => w q)]; rfl
    · rw [decide_eq_false q, decide_eq_true q]; rfl
theorem cm_two {n k s : Nat} {v : Int} {r : List (Nat × Nat × Int)} (hk : k = 13 ∨ k = 14) (h : cd_hd n ((k, s, v) :: r) = some 1) : 2 ≤ n ∧ cd_hd (n - 1) r = some 1 := by
  rw [cd_hd_e, if_neg (by omega), if_neg (by omega), if_pos hk] at h
  by_cases q : n < 2
  · rw [if_pos q] at h; cases h
  · rw [if_neg q] at h; exact ⟨by omega, h⟩
theorem cm_I_and {f : Nat → Int} {a b c g g1 : Nat → Int32} {n p m : Nat} {W : List Bool} {x : Int32} (h : cm_I f a b c g n p (m + 1) W) (hw : (a p).toInt = 13) (hg : g1 = upd g (n - 2) x) (hx : x.toInt = 1 ↔ ((g (n - 2)).toInt = 1 ∧ (g (n - 1)).toInt = 1)) : cm_I f a b c g1 (n - 1) (p + 1) m W := by
  obtain ⟨h1, h2⟩ := cm_Ih h
  rw [show (a p).toInt.toNat = 13 from by omega] at h1 h2
  obtain ⟨h3, h4⟩ := cm_two (Or.inl rfl) h2
  obtain ⟨j, rfl⟩ : ∃ j, n = j + 2 := ⟨n - 2, by omega⟩
  have e2 : j + 2 - 2 = j := by omega
  have e1 : j + 2 - 1 = j + 1 := by omega
  rw [e2] at hg hx
  rw [e1] at hx h4 ⊢
  have e : cd_vs g (j + 2) = decide ((g (j + 1)).toInt = 1) :: decide ((g j).toInt = 1) :: cd_vs g j := rfl
  rw [e, cd_ev_and] at h1
  refine ⟨?_, Or.inr h4⟩
  rw [cd_vs_put hg, cm_b hx, ← h1, Bool.decide_and]
theorem cm_I_or {f : Nat → Int} {a b c g g1 : Nat → Int32} {n p m : Nat} {W : List Bool} {x : Int32} (h : cm_I f a b c g n p (m + 1) W) (hw : (a p).toInt = 14) (hg : g1 = upd g (n - 2) x) (hx : x.toInt = 1 ↔ ((g (n - 2)).toInt = 1 ∨ (g (n - 1)).toInt = 1)) : cm_I f a b c g1 (n - 1) (p + 1) m W := by
  obtain ⟨h1, h2⟩ := cm_Ih h
  rw [show (a p).toInt.toNat = 14 from by omega] at h1 h2
  obtain ⟨h3, h4⟩ := cm_two (Or.inr rfl) h2
  obtain ⟨j, rfl⟩ : ∃ j, n = j + 2 := ⟨n - 2, by omega⟩
  have e2 : j + 2 - 2 = j := by omega
  have e1 : j + 2 - 1 = j + 1 := by omega
  rw [e2] at hg hx
  rw [e1] at hx h4 ⊢
  have e : cd_vs g (j + 2) = decide ((g (j + 1)).toInt = 1) :: decide ((g j).toInt = 1) :: cd_vs g j := rfl
  rw [e, cd_ev_or] at h1
  refine ⟨?_, Or.inr h4⟩
  rw [cd_vs_put hg, cm_b hx, ← h1, Bool.decide_or]
def cm_t (f : Nat → Int) (k s : Nat) (n : Int) : Prop := (k < 4 ∧ f k = 1) ∨ (4 ≤ k ∧ ((s = 60 ∧ f k < n) ∨ (s = 61 ∧ f k = n) ∨ (¬ s = 60 ∧ ¬ s = 61 ∧ n < f k)))
theorem cm_tb {f : Nat → Int} {k s : Nat} {n : Int} {x : Int32} (h : x.toInt = 1 ↔ cm_t f k s n) : decide (x.toInt = 1) = (if k < 4 then decide (f k = 1) else if s = 60 then decide (f k < n) else if s = 61 then decide (f k = n) else decide (n < f k)) := by
  unfold cm_t at h
  by_cases q : k < 4
  · rw [if_pos q]
    exact cm_b (h.trans ⟨fun w => by rcases w with w | w; exact w.2; omega, fun w => Or.inl ⟨q, w⟩⟩)
  · rw [if_neg q]
    by_cases z0 : s = 60
    · rw [if_pos z0]
      exact cm_b (h.trans ⟨fun w => by rcases w with w | ⟨_, w⟩; omega; rcases w with w | w | w; exact w.2; omega; omega, fun w => Or.inr ⟨by omega, Or.inl ⟨z0, w⟩⟩⟩)
    · rw [if_neg z0]
      by_cases z1 : s = 61
      · rw [if_pos z1]
        exact cm_b (h.trans ⟨fun w => by rcases w with w | ⟨_, w⟩; omega; rcases w with w | w | w; omega; exact w.2; omega, fun w => Or.inr ⟨by omega, Or.inr (Or.inl ⟨z1, w⟩)⟩⟩)
      · rw [if_neg z1]
        exact cm_b (h.trans ⟨fun w => by rcases w with w | ⟨_, w⟩; omega; rcases w with w | w | w; omega; omega; exact w.2.2, fun w => Or.inr ⟨by omega, Or.inr (Or.inr ⟨z0, z1, w⟩)⟩⟩)
theorem cm_I_psh {f : Nat → Int} {a b c g g1 : Nat → Int32} {n p m : Nat} {W : List Bool} {x : Int32} (h : cm_I f a b c g n p (m + 1) W) (hw : (a p).toInt.toNat < 12) (hg : g1 = upd g n x) (hx : x.toInt = 1 ↔ cm_t f (a p).toInt.toNat (b p).toInt.toNat (c p).toInt) : cm_I f a b c g1 (n + 1) (p + 1) m W := by
  obtain ⟨h1, h2⟩ := cm_Ih h
  rw [cd_hd_e, if_neg (by omega), if_neg (by omega), if_neg (by omega)] at h2
  rw [cd_ev_psh f _ _ _ _ _ hw, ← cm_tb hx, ← cd_vs_put hg] at h1
  refine ⟨h1, Or.inr ?_⟩
  by_cases q : 30 < n + 1
  · rw [if_pos q] at h2; cases h2
  · rw [if_neg q] at h2; exact h2
theorem cm_I_end {f : Nat → Int} {a b c g : Nat → Int32} {n p : Nat} {W : List Bool} (h : cm_I f a b c g n p 0 W) : (n = 0 ∧ W.headD true = true) ∨ (n = 1 ∧ W.headD true = decide ((g 0).toInt = 1)) := by
  obtain ⟨h1, h2⟩ := h
  have h3 : cd_vs g n = W := h1
  rcases h2 with h2 | h2
  · rw [h2.1] at h3
    exact Or.inl ⟨h2.1, by rw [← h3]; rfl⟩
  · have h4 : some n = some 1 := h2
    have h5 := Option.some.inj h4
    subst h5
    exact Or.inr ⟨rfl, by rw [← h3]; rfl⟩
theorem cm_I0 {f : Nat → Int} {a b c g : Nat → Int32} {p m : Nat} (h : cd_lm a b c p m = [] ∨ cd_hd 0 (cd_lm a b c p m) = some 1) : cm_I f a b c g 0 p m (cd_ev f [] (cd_lm a b c p m)) := by
  refine ⟨rfl, ?_⟩
  rcases h with h | h
  · have h1 := congrArg List.length h
    rw [cd_lm_len] at h1
    exact Or.inl ⟨rfl, h1⟩
  · exact Or.inr h
theorem iv_vn9 (x : Int32) : x = x := rfl
set_option maxHeartbeats 4000000 in
set_option maxRecDepth 100000 in
theorem m_holdsE (l : Launch) (dC : Nat → ClassId) (dI : Nat → Nat → Nat) (sz h : Nat) (ad : Nat → Nat) (cA : Nat → ClassId) (hd : dM h ad) (fv : Nat → Int32) (wd : Int64) (ar : Nat → Nat → Int32) (hF_fv : rF fv) (hA_ar : rA ar) (bb : Int32) (ff : Int32) (tt : Int32) (h_bb : 0 ≤ bb.toInt ∧ bb.toInt ≤ 9) (h_ff : 0 ≤ ff.toInt ∧ ff.toInt ≤ 120) (h_tt : 0 ≤ tt.toInt ∧ tt.toInt ≤ 120) (hvp : vP (ar 54) (120 * bb.toInt + ff.toInt).toNat (120 * bb.toInt + tt.toInt).toNat) (hgd : (cd_lm (ar 54) (ar 55) (ar 56) (120 * bb.toInt.toNat + ff.toInt.toNat) (tt.toInt.toNat - ff.toInt.toNat)) = [] ∨ cd_hd 0 (cd_lm (ar 54) (ar 55) (ar 56) (120 * bb.toInt.toNat + ff.toInt.toNat) (tt.toInt.toNat - ff.toInt.toNat)) = some 1) : Met l yX12_holds (.code yX12_holds cX12_holds 10 (some .boolean) :: lw_good) ({ frames := 2, cells := 0, slots := 0, locals := 40 }) (va_Pc [.ref h, .int bb, .int ff, .int tt] (prM dC dI h ad cA fv wd ar sz)) (va_Qi (fun (r : Int32) (u : mS) => rF u.1 ∧ rA u.2.2 ∧ fM [] fv u.1 ∧ fA [65] ar u.2.2 ∧ (0 ≤ r.toInt ∧ r.toInt ≤ 1) ∧ ((r = 1 ∧ cd_ho (cd_f (ar 64)) (cd_lm (ar 54) (ar 55) (ar 56) (120 * bb.toInt.toNat + ff.toInt.toNat) (tt.toInt.toNat - ff.toInt.toNat)) = true) ∨ (r = 0 ∧ cd_ho (cd_f (ar 64)) (cd_lm (ar 54) (ar 55) (ar 56) (120 * bb.toInt.toNat + ff.toInt.toNat) (tt.toInt.toNat - ff.toInt.toNat)) = false)) ∧ True) (enM dC dI h ad cA) (aM h ad sz)) 0 0 (aM h ad sz) := by
  refine Met.ofW (cc := cX12_holds) (maxL := 10) (ret := (some .boolean)) (by decide) rfl ?_
  intro p e s m args below meth c s₁ B hml hv
  obtain ⟨rfl, hsz, hP, hK⟩ := hv
  have hx := B.exec
  have hb := B.bytes
  have hr := B.returns
  have hts := atoms_spec (ws := (.code yX12_holds cX12_holds 10 (some .boolean) :: lw_good)) B.pre
  have htg : ∀ w ∈ lw_good, w.before _ s = true := fun w hw => hts w (List.mem_cons_of_mem _ hw)
  have hown : s.vm.findClass RX12 = some m.cls := findClass_of_methodNamed B.named
  have hlocks := B.notSynchronized
  subst hsz
  have hS : va_S (aM h ad s.heap.size) s.heap s.heap [] := va_S.rf
  have hl := lv_entry ([.ref h, .int bb, .int ff, .int tt]) (n := 10) (Nat.le_of_ble_eq_true rfl)
  rw [lg_entry_eq]
  generalize (lg_sl ([.ref h, .int bb, .int ff, .int tt]) ++ List.replicate (10 - (lg_sl ([.ref h, .int bb, .int ff, .int tt])).length) Slot.unset).toArray = ls at hl ⊢
  have hl : lv_has ls 10 [(0, .ref h), (1, .int bb), (2, .int ff), (3, .int tt)] := hl
  refine lv_iconst (v := 0) hx hb dX12_holds_0 (by decide) ?_
  refine lv_istore (lv' := [(4, .int 0), (0, .ref h), (1, .int bb), (2, .int ff), (3, .int tt)]) hx hb dX12_holds_1 hl (by decide) rfl (fun ls hl => ?_)
  refine lv_iload_n hx hb dX12_holds_3 rfl (lv_at hl 3 rfl) ?_
  refine lv_istore (lv' := [(5, .int ff), (4, .int 0), (0, .ref h), (1, .int bb), (2, .int ff), (3, .int tt)]) hx hb dX12_holds_4 hl (by decide) rfl (fun ls hl => ?_)
  refine my_cut (P := fun R9 a9 Q9 => ∀ (n_8 : Nat) (x_1 : Int32) (x_2 : Int32) (ar_3 : Nat → Nat → Int32) (H : Heap) (locs : List Loc) (ls : Array Slot), 120 - x_2.toInt < (n_8 : Int) → (0 ≤ x_1.toInt ∧ x_1.toInt ≤ 61) → (0 ≤ x_2.toInt ∧ x_2.toInt ≤ 120) → rA ar_3 → fA [65] ar ar_3 → (x_1.toInt = dQ (ar 54) (120 * bb.toInt + ff.toInt).toNat (x_2.toInt - ff.toInt).toNat) → (ff.toInt ≤ x_2.toInt) → (cm_I (cd_f (ar 64)) (ar 54) (ar 55) (ar 56) (ar_3 65) (x_1.toInt.toNat) (120 * bb.toInt.toNat + x_2.toInt.toNat) (tt.toInt.toNat - x_2.toInt.toNat) (cd_ev (cd_f (ar 64)) [] (cd_lm (ar 54) (ar 55) (ar 56) (120 * bb.toInt.toNat + ff.toInt.toNat) (tt.toInt.toNat - ff.toInt.toNat)))) → va_P (dC, dI) vwCl (wsM h ad cA fv wd ar_3) H → va_S (aM h ad s.heap.size) s.heap H locs → lv_has ls 10 [(0, .ref h), (1, .int bb), (3, .int tt), (4, .int x_1), (5, .int x_2)] → W p l e R9 s m a9 below meth c H locs 0 0 Q9 (F0 m 6 ls [])) ?_ (fun hj_10 => ?_)
  · intro n_8
    induction n_8 with
    | zero => intro x_1 x_2 ar_3 H locs ls fu_9 i_x_1 i_x_2 hA_ar_3 fa_4 q_5 q_6 q_7; exfalso; omega
    | succ n_8 ih_8 =>
      intro x_1 x_2 ar_3 H locs ls fu_9 i_x_1 i_x_2 hA_ar_3 fa_4 q_5 q_6 q_7 hP hS hl
      refine lv_iload hx hb dX12_holds_6 (lv_at hl 4 rfl) ?_
      refine lv_iload_n hx hb dX12_holds_8 rfl (lv_at hl 2 rfl) ?_
      refine lv_icmp_ge (tgt := 284) hx hb dX12_holds_9 (by decide) (fun c_11 => ?_) (fun c_11 => ?_)
      · skip
        have k_12 := Int32.le_iff_toInt_le.mp c_11
        refine lv_iload hx hb dX12_holds_284 (lv_at hl 3 rfl) ?_
        refine lv_if_eq (tgt := 298) hx hb dX12_holds_286 (by decide) (fun c_175 => ?_) (fun c_175 => ?_)
        · skip
          have i_176 : 0 ≤ x_1.toInt ∧ x_1.toInt ≤ 0 := iv_eq1 (⟨by decide, by decide⟩ : (0 : Int) ≤ (0 : Int32).toInt ∧ (0 : Int32).toInt ≤ 0) c_175
          refine lv_iconst (v := 1) hx hb dX12_holds_298 (by decide) ?_
          refine lv_goto (tgt := 303) hx hb dX12_holds_299 (by decide) ?_
          have z_178 : (1 : Int32).toInt = 1 := by decide
          exact W.zret (v := 1) hx hb hr (by decide) (fun t ht hW => ⟨⟨1, (fv, wd, ar_3), rfl, ⟨hF_fv, hA_ar_3, (fM_rf [] _), (fA_call (fA_rf [65] _) fa_4 (by decide)), (iv_w (⟨by decide, by decide⟩ : (1 : Int) ≤ (1 : Int32).toInt ∧ (1 : Int32).toInt ≤ 1) (by decide) (by decide)), (show ((1 : Int32) = 1 ∧ cd_ho (cd_f (ar 64)) (cd_lm (ar 54) (ar 55) (ar 56) (120 * bb.toInt.toNat + ff.toInt.toNat) (tt.toInt.toNat - ff.toInt.toNat)) = true) ∨ ((1 : Int32) = 0 ∧ cd_ho (cd_f (ar 64)) (cd_lm (ar 54) (ar 55) (ar 56) (120 * bb.toInt.toNat + ff.toInt.toNat) (tt.toInt.toNat - ff.toInt.toNat)) = false) from by have hq9 := q_7; rw [show tt.toInt.toNat - x_2.toInt.toNat = 0 from by omega] at hq9; have hz0 : (0 : Int32).toInt = 0 := (by decide); rcases cm_I_end hq9 with ⟨a9, b9⟩ | ⟨a9, b9⟩; exact Or.inl ⟨rfl, b9⟩; exfalso; omega), trivial⟩, ⟨by rw [ht]; exact hP, va_K.moved hW.alike hK⟩⟩, hS.F ht⟩) hS.2.2 dX12_holds_303
        · skip
          have i_179 : 1 ≤ x_1.toInt ∧ x_1.toInt ≤ 61 := iv_nel i_x_1 (by decide) c_175
          have k_180 : ¬ x_1.toInt = 0 := fun q => c_175 (Int32.toInt_inj.mp q)
          refine lv_aload_n hx hb dX12_holds_289 rfl (lv_at hl 0 rfl) ?_
          refine gM_65 hx hb htg hown hK hP dX12_holds_290 ?_
          refine lv_iconst (v := 0) hx hb dX12_holds_293 (by decide) ?_
          refine lM_65 hx hb hK hP (iv_in (⟨by decide, by decide⟩ : (0 : Int) ≤ (0 : Int32).toInt ∧ (0 : Int32).toInt ≤ 0) (by decide) (by decide)) dX12_holds_294 (fun v_181 ev_181 => ?_)
          have i_182 : 0 ≤ v_181.toInt ∧ v_181.toInt ≤ 1 := ev_181 ▸ hA_ar_3 65 _
          refine lv_if_eq (tgt := 302) hx hb dX12_holds_295 (by decide) (fun c_183 => ?_) (fun c_183 => ?_)
          · skip
            have i_184 : 0 ≤ v_181.toInt ∧ v_181.toInt ≤ 0 := iv_eq1 (⟨by decide, by decide⟩ : (0 : Int) ≤ (0 : Int32).toInt ∧ (0 : Int32).toInt ≤ 0) c_183
            refine lv_iconst (v := 0) hx hb dX12_holds_302 (by decide) ?_
            have z_186 : (0 : Int32).toInt = 0 := by decide
            exact W.zret (v := 0) hx hb hr (by decide) (fun t ht hW => ⟨⟨0, (fv, wd, ar_3), rfl, ⟨hF_fv, hA_ar_3, (fM_rf [] _), (fA_call (fA_rf [65] _) fa_4 (by decide)), (iv_w (⟨by decide, by decide⟩ : (0 : Int) ≤ (0 : Int32).toInt ∧ (0 : Int32).toInt ≤ 0) (by decide) (by decide)), (show ((0 : Int32) = 1 ∧ cd_ho (cd_f (ar 64)) (cd_lm (ar 54) (ar 55) (ar 56) (120 * bb.toInt.toNat + ff.toInt.toNat) (tt.toInt.toNat - ff.toInt.toNat)) = true) ∨ ((0 : Int32) = 0 ∧ cd_ho (cd_f (ar 64)) (cd_lm (ar 54) (ar 55) (ar 56) (120 * bb.toInt.toNat + ff.toInt.toNat) (tt.toInt.toNat - ff.toInt.toNat)) = false) from by have hq9 := q_7; rw [show tt.toInt.toNat - x_2.toInt.toNat = 0 from by omega] at hq9; have hz0 : (0 : Int32).toInt = 0 := (by decide); have h0 : ar_3 65 0 = v_181 := (by rw [ev_181]; rfl); rcases cm_I_end hq9 with ⟨a9, b9⟩ | ⟨a9, b9⟩; exfalso; omega; rw [h0] at b9; exact Or.inr ⟨rfl, b9.trans (decide_eq_false (by omega))⟩), trivial⟩, ⟨by rw [ht]; exact hP, va_K.moved hW.alike hK⟩⟩, hS.F ht⟩) hS.2.2 dX12_holds_303
          · skip
            have i_187 : 1 ≤ v_181.toInt ∧ v_181.toInt ≤ 1 := iv_nel i_182 (by decide) c_183
            have k_188 : ¬ v_181.toInt = 0 := fun q => c_183 (Int32.toInt_inj.mp q)
            refine lv_iconst (v := 1) hx hb dX12_holds_298 (by decide) ?_
            refine lv_goto (tgt := 303) hx hb dX12_holds_299 (by decide) ?_
            have z_189 : (1 : Int32).toInt = 1 := by decide
            exact W.zret (v := 1) hx hb hr (by decide) (fun t ht hW => ⟨⟨1, (fv, wd, ar_3), rfl, ⟨hF_fv, hA_ar_3, (fM_rf [] _), (fA_call (fA_rf [65] _) fa_4 (by decide)), (iv_w (⟨by decide, by decide⟩ : (1 : Int) ≤ (1 : Int32).toInt ∧ (1 : Int32).toInt ≤ 1) (by decide) (by decide)), (show ((1 : Int32) = 1 ∧ cd_ho (cd_f (ar 64)) (cd_lm (ar 54) (ar 55) (ar 56) (120 * bb.toInt.toNat + ff.toInt.toNat) (tt.toInt.toNat - ff.toInt.toNat)) = true) ∨ ((1 : Int32) = 0 ∧ cd_ho (cd_f (ar 64)) (cd_lm (ar 54) (ar 55) (ar 56) (120 * bb.toInt.toNat + ff.toInt.toNat) (tt.toInt.toNat - ff.toInt.toNat)) = false) from by have hq9 := q_7; rw [show tt.toInt.toNat - x_2.toInt.toNat = 0 from by omega] at hq9; have hz0 : (0 : Int32).toInt = 0 := (by decide); have h0 : ar_3 65 0 = v_181 := (by rw [ev_181]; rfl); rcases cm_I_end hq9 with ⟨a9, b9⟩ | ⟨a9, b9⟩; exact Or.inl ⟨rfl, b9⟩; rw [h0] at b9; exact Or.inl ⟨rfl, b9.trans (decide_eq_true (by omega))⟩), trivial⟩, ⟨by rw [ht]; exact hP, va_K.moved hW.alike hK⟩⟩, hS.F ht⟩) hS.2.2 dX12_holds_303
      · skip
        have i_13 : 0 ≤ x_2.toInt ∧ x_2.toInt ≤ 119 := iv_lt1 i_x_2 h_tt (Int32.not_le.mp c_11)
        have i_14 : 1 ≤ tt.toInt ∧ tt.toInt ≤ 120 := iv_lt2 i_x_2 h_tt (Int32.not_le.mp c_11)
        have k_15 := Int32.lt_iff_toInt_lt.mp (Int32.not_le.mp c_11)
        refine lv_bipush (v := 120) hx hb dX12_holds_12 (by decide) ?_
        refine lv_iload_n hx hb dX12_holds_14 rfl (lv_at hl 1 rfl) ?_
        refine lv_imul hx hb dX12_holds_15 ?_
        refine lv_topi (fun v_16 ev_16 => ?_)
        have t_17 : v_16.toInt = 120 * bb.toInt ∧ 0 ≤ v_16.toInt ∧ v_16.toInt ≤ 1080 := iv_mulc ev_16 h_bb (by decide) (by decide) (by decide) (by decide)
        refine lv_iload hx hb dX12_holds_16 (lv_at hl 4 rfl) ?_
        refine lv_iadd hx hb dX12_holds_18 ?_
        refine lv_topi (fun v_19 ev_19 => ?_)
        have t_20 : v_19.toInt = v_16.toInt + x_2.toInt ∧ 0 ≤ v_19.toInt ∧ v_19.toInt ≤ 1199 := iv_add ev_19 t_17.2 i_13 (by decide) (by decide)
        refine lv_istore (lv' := [(6, .int v_19), (0, .ref h), (1, .int bb), (3, .int tt), (4, .int x_1), (5, .int x_2)]) hx hb dX12_holds_19 hl (by decide) rfl (fun ls hl => ?_)
        refine lv_aload_n hx hb dX12_holds_21 rfl (lv_at hl 1 rfl) ?_
        refine gM_54 hx hb htg hown hK hP dX12_holds_22 ?_
        refine lv_iload hx hb dX12_holds_25 (lv_at hl 0 rfl) ?_
        refine lM_54 hx hb hK hP (iv_in t_20.2 (by decide) (by decide)) dX12_holds_27 (fun v_22 ev_22 => ?_)
        have i_23 : 0 ≤ v_22.toInt ∧ v_22.toInt ≤ 15 := ev_22 ▸ hA_ar_3 54 _
        refine lv_istore (lv' := [(7, .int v_22), (6, .int v_19), (0, .ref h), (1, .int bb), (3, .int tt), (4, .int x_1), (5, .int x_2)]) hx hb dX12_holds_28 hl (by decide) rfl (fun ls hl => ?_)
        have hw9 : v_22 = ar 54 ((120 * bb.toInt + ff.toInt).toNat + (x_2.toInt - ff.toInt).toNat) := by
          rw [ev_22, ((fA_call (fA_rf [65] _) fa_4 (by decide)) 54 rfl)]; congr 1; show v_19.toInt.toNat = _; omega
        have ok9 := okP_st hvp (n := (x_2.toInt - ff.toInt).toNat) (by omega) hw9 q_5
        refine lv_iload hx hb dX12_holds_30 (lv_at hl 0 rfl) ?_
        refine lv_bipush (v := 12) hx hb dX12_holds_32 (by decide) ?_
        refine my_cut (P := fun R9 a9 Q9 => ∀ (x_166 : Int32) (ar_167 : Nat → Nat → Int32) (H : Heap) (locs : List Loc) (ls : Array Slot), (0 ≤ x_166.toInt ∧ x_166.toInt ≤ 61) → rA ar_167 → fA [65] ar_3 ar_167 → (x_166.toInt = dQ (ar 54) (120 * bb.toInt + ff.toInt).toNat ((x_2.toInt - ff.toInt).toNat + 1)) → (cm_I (cd_f (ar 64)) (ar 54) (ar 55) (ar 56) (ar_167 65) (x_166.toInt.toNat) (120 * bb.toInt.toNat + x_2.toInt.toNat + 1) (tt.toInt.toNat - (x_2.toInt.toNat + 1)) (cd_ev (cd_f (ar 64)) [] (cd_lm (ar 54) (ar 55) (ar 56) (120 * bb.toInt.toNat + ff.toInt.toNat) (tt.toInt.toNat - ff.toInt.toNat)))) → va_P (dC, dI) vwCl (wsM h ad cA fv wd ar_167) H → va_S (aM h ad s.heap.size) s.heap H locs → lv_has ls 10 [(0, .ref h), (1, .int bb), (3, .int tt), (4, .int x_166), (5, .int x_2)] → W p l e R9 s m a9 below meth c H locs 0 0 Q9 (F0 m 278 ls [])) ?_ (fun hj_171 => ?_)
        · intro x_166 ar_167 H locs ls i_x_166 hA_ar_167 fa_168 q_169 q_170 hP hS hl
          obtain ⟨v_172, ev_172⟩ : ∃ z : Int32, z = x_2 + 1 := ⟨_, rfl⟩
          refine lv_iinc (v := v_172) (lv' := [(5, .int v_172), (0, .ref h), (1, .int bb), (3, .int tt), (4, .int x_166)]) hx hb dX12_holds_278 hl (k := 4) rfl (by rw [ev_172]; rfl) (by decide) rfl (fun ls hl => ?_)
          have t_173 : v_172.toInt = x_2.toInt + 1 ∧ 1 ≤ v_172.toInt ∧ v_172.toInt ≤ 120 := iv_addc ev_172 i_13 (by decide) (by decide) (by decide)
          refine lv_goto (tgt := 6) hx hb dX12_holds_281 (by decide) ?_
          exact ih_8 x_166 v_172 ar_167 _ _ ls (by omega) i_x_166 (iv_w t_173.2 (by decide) (by decide)) hA_ar_167 (fA_call (fA_call (fA_rf [65] _) fa_4 (by decide)) fa_168 (by decide)) (by rw [show (v_172.toInt - ff.toInt).toNat = (x_2.toInt - ff.toInt).toNat + 1 from by omega]; omega) (by omega) (by have h9 := q_170; rw [show 120 * bb.toInt.toNat + x_2.toInt.toNat + 1 = 120 * bb.toInt.toNat + v_172.toInt.toNat from by omega, show x_2.toInt.toNat + 1 = v_172.toInt.toNat from by omega] at h9; exact h9) hP hS (lv_sub hl [1, 2, 3, 4, 0] rfl)
        · skip
          refine lv_icmp_ne (tgt := 66) hx hb dX12_holds_34 (by decide) (fun c_24 => ?_) (fun c_24 => ?_)
          · skip
            have k_25 : ¬ v_22.toInt = 12 := fun q => c_24 (Int32.toInt_inj.mp q)
            refine lv_iload hx hb dX12_holds_66 (lv_at hl 0 rfl) ?_
            refine lv_bipush (v := 13) hx hb dX12_holds_68 (by decide) ?_
            refine lv_icmp_eq (tgt := 80) hx hb dX12_holds_70 (by decide) (fun c_26 => ?_) (fun c_26 => ?_)
            · skip
              have i_27 : 13 ≤ v_22.toInt ∧ v_22.toInt ≤ 13 := iv_eq1 (⟨by decide, by decide⟩ : (13 : Int) ≤ (13 : Int32).toInt ∧ (13 : Int32).toInt ≤ 13) c_26
              have i_29 : 2 ≤ x_1.toInt ∧ x_1.toInt ≤ 61 := (by omega)
              obtain ⟨v_30, ev_30⟩ : ∃ z : Int32, z = x_1 + (-1) := ⟨_, rfl⟩
              refine lv_iinc (v := v_30) (lv' := [(4, .int v_30), (7, .int v_22), (6, .int v_19), (0, .ref h), (1, .int bb), (3, .int tt), (5, .int x_2)]) hx hb dX12_holds_80 hl (k := 5) rfl (by rw [ev_30]; rfl) (by decide) rfl (fun ls hl => ?_)
              have t_31 : v_30.toInt = x_1.toInt + (-1) ∧ 1 ≤ v_30.toInt ∧ v_30.toInt ≤ 60 := iv_addc ev_30 i_29 (by decide) (by decide) (by decide)
              refine lv_aload_n hx hb dX12_holds_83 rfl (lv_at hl 3 rfl) ?_
              refine gM_65 hx hb htg hown hK hP dX12_holds_84 ?_
              refine lv_iload hx hb dX12_holds_87 (lv_at hl 0 rfl) ?_
              refine lv_iconst (v := 1) hx hb dX12_holds_89 (by decide) ?_
              refine lv_isub hx hb dX12_holds_90 ?_
              refine lv_topi (fun v_33 ev_33 => ?_)
              have t_34 : v_33.toInt = v_30.toInt - 1 ∧ 0 ≤ v_33.toInt ∧ v_33.toInt ≤ 59 := iv_subc ev_33 t_31.2 (by decide) (by decide) (by decide)
              refine lv_iload hx hb dX12_holds_91 (lv_at hl 1 rfl) ?_
              refine lv_bipush (v := 13) hx hb dX12_holds_93 (by decide) ?_
              refine lv_icmp_ne (tgt := 128) hx hb dX12_holds_95 (by decide) (fun c_36 => ?_) (fun c_36 => ?_)
              · skip
                exact absurd True.intro (by have h7 := i_27; have h8 := (⟨by decide, by decide⟩ : (13 : Int) ≤ (13 : Int32).toInt ∧ (13 : Int32).toInt ≤ 13); have h9 : ¬ _ := fun q => c_36 (Int32.toInt_inj.mp q); exfalso; omega)
              · skip
                refine lv_aload_n hx hb dX12_holds_98 rfl (lv_at hl 3 rfl) ?_
                refine gM_65 hx hb htg hown hK hP dX12_holds_99 ?_
                refine lv_iload hx hb dX12_holds_102 (lv_at hl 0 rfl) ?_
                refine lv_iconst (v := 1) hx hb dX12_holds_104 (by decide) ?_
                refine lv_isub hx hb dX12_holds_105 ?_
                refine my_ti (y := v_33) ev_33.symm ?_
                refine lM_65 hx hb hK hP (iv_in t_34.2 (by decide) (by decide)) dX12_holds_106 (fun v_38 ev_38 => ?_)
                have i_39 : 0 ≤ v_38.toInt ∧ v_38.toInt ≤ 1 := ev_38 ▸ hA_ar_3 65 _
                refine lv_if_eq (tgt := 124) hx hb dX12_holds_107 (by decide) (fun c_40 => ?_) (fun c_40 => ?_)
                · skip
                  have i_41 : 0 ≤ v_38.toInt ∧ v_38.toInt ≤ 0 := iv_eq1 (⟨by decide, by decide⟩ : (0 : Int) ≤ (0 : Int32).toInt ∧ (0 : Int32).toInt ≤ 0) c_40
                  refine lv_iconst (v := 0) hx hb dX12_holds_124 (by decide) ?_
                  refine lv_goto (tgt := 155) hx hb dX12_holds_125 (by decide) ?_
                  refine sM_65 hx hb hK hP hS hd (iv_in t_34.2 (by decide) (by decide)) dX12_holds_155 (fun H locs ar_43 ear_43 hP hS => ?_)
                  have hA_ar_43 : rA ar_43 := rA_put hA_ar_3 ear_43 (iv_vn _)
                  refine lv_goto (tgt := 278) hx hb dX12_holds_156 (by decide) ?_
                  exact hj_171 v_30 ar_43 _ _ ls (iv_w t_31.2 (by decide) (by decide)) hA_ar_43 (fA_put (fA_rf [65] _) ear_43 (by decide)) (by omega) (by have hq9 := q_7; rw [show tt.toInt.toNat - x_2.toInt.toNat = (tt.toInt.toNat - (x_2.toInt.toNat + 1)) + 1 from by omega] at hq9; have hw8 : ar 54 (120 * bb.toInt.toNat + x_2.toInt.toNat) = v_22 := (by rw [hw9]; exact congrArg (ar 54) (show (120 * bb.toInt.toNat + x_2.toInt.toNat) = (120 * bb.toInt + ff.toInt).toNat + (x_2.toInt - ff.toInt).toNat from by omega)); have hz1 : (1 : Int32).toInt = 1 := (by decide); have hz0 : (0 : Int32).toInt = 0 := (by decide); have h9 := cm_I_and (g1 := ar_43 65) (x := (0 : Int32)) hq9 (by rw [hw8]; omega) (by rw [ear_43]; show upd (ar_3 65) (Int32.toNatClampNeg v_33) _ = _; rw [show Int32.toNatClampNeg v_33 = x_1.toInt.toNat - 2 from (show v_33.toInt.toNat = x_1.toInt.toNat - 2 from by omega)]; exact congrArg (upd (ar_3 65) (x_1.toInt.toNat - 2)) (iv_vn9 (0 : Int32))) (by rw [(show ar_3 65 (x_1.toInt.toNat - 2) = v_38 from (by rw [ev_38]; exact congrArg (ar_3 65) (show x_1.toInt.toNat - 2 = v_33.toInt.toNat from by omega)))]; omega); rw [show v_30.toInt.toNat = x_1.toInt.toNat - 1 from by omega]; exact h9) hP hS (lv_sub hl [3, 4, 5, 0, 6] rfl)
                · skip
                  have i_44 : 1 ≤ v_38.toInt ∧ v_38.toInt ≤ 1 := iv_nel i_39 (by decide) c_40
                  have k_45 : ¬ v_38.toInt = 0 := fun q => c_40 (Int32.toInt_inj.mp q)
                  refine lv_aload_n hx hb dX12_holds_110 rfl (lv_at hl 3 rfl) ?_
                  refine gM_65 hx hb htg hown hK hP dX12_holds_111 ?_
                  refine lv_iload hx hb dX12_holds_114 (lv_at hl 0 rfl) ?_
                  refine lM_65 hx hb hK hP (iv_in t_31.2 (by decide) (by decide)) dX12_holds_116 (fun v_46 ev_46 => ?_)
                  have i_47 : 0 ≤ v_46.toInt ∧ v_46.toInt ≤ 1 := ev_46 ▸ hA_ar_3 65 _
                  refine lv_if_eq (tgt := 124) hx hb dX12_holds_117 (by decide) (fun c_48 => ?_) (fun c_48 => ?_)
                  · skip
                    have i_49 : 0 ≤ v_46.toInt ∧ v_46.toInt ≤ 0 := iv_eq1 (⟨by decide, by decide⟩ : (0 : Int) ≤ (0 : Int32).toInt ∧ (0 : Int32).toInt ≤ 0) c_48
                    refine lv_iconst (v := 0) hx hb dX12_holds_124 (by decide) ?_
                    refine lv_goto (tgt := 155) hx hb dX12_holds_125 (by decide) ?_
                    refine sM_65 hx hb hK hP hS hd (iv_in t_34.2 (by decide) (by decide)) dX12_holds_155 (fun H locs ar_51 ear_51 hP hS => ?_)
                    have hA_ar_51 : rA ar_51 := rA_put hA_ar_3 ear_51 (iv_vn _)
                    refine lv_goto (tgt := 278) hx hb dX12_holds_156 (by decide) ?_
                    exact hj_171 v_30 ar_51 _ _ ls (iv_w t_31.2 (by decide) (by decide)) hA_ar_51 (fA_put (fA_rf [65] _) ear_51 (by decide)) (by omega) (by have hq9 := q_7; rw [show tt.toInt.toNat - x_2.toInt.toNat = (tt.toInt.toNat - (x_2.toInt.toNat + 1)) + 1 from by omega] at hq9; have hw8 : ar 54 (120 * bb.toInt.toNat + x_2.toInt.toNat) = v_22 := (by rw [hw9]; exact congrArg (ar 54) (show (120 * bb.toInt.toNat + x_2.toInt.toNat) = (120 * bb.toInt + ff.toInt).toNat + (x_2.toInt - ff.toInt).toNat from by omega)); have hz1 : (1 : Int32).toInt = 1 := (by decide); have hz0 : (0 : Int32).toInt = 0 := (by decide); have h9 := cm_I_and (g1 := ar_51 65) (x := (0 : Int32)) hq9 (by rw [hw8]; omega) (by rw [ear_51]; show upd (ar_3 65) (Int32.toNatClampNeg v_33) _ = _; rw [show Int32.toNatClampNeg v_33 = x_1.toInt.toNat - 2 from (show v_33.toInt.toNat = x_1.toInt.toNat - 2 from by omega)]; exact congrArg (upd (ar_3 65) (x_1.toInt.toNat - 2)) (iv_vn9 (0 : Int32))) (by rw [(show ar_3 65 (x_1.toInt.toNat - 2) = v_38 from (by rw [ev_38]; exact congrArg (ar_3 65) (show x_1.toInt.toNat - 2 = v_33.toInt.toNat from by omega))), (show ar_3 65 (x_1.toInt.toNat - 1) = v_46 from (by rw [ev_46]; exact congrArg (ar_3 65) (show x_1.toInt.toNat - 1 = v_30.toInt.toNat from by omega)))]; omega); rw [show v_30.toInt.toNat = x_1.toInt.toNat - 1 from by omega]; exact h9) hP hS (lv_sub hl [3, 4, 5, 0, 6] rfl)
                  · skip
                    have i_52 : 1 ≤ v_46.toInt ∧ v_46.toInt ≤ 1 := iv_nel i_47 (by decide) c_48
                    have k_53 : ¬ v_46.toInt = 0 := fun q => c_48 (Int32.toInt_inj.mp q)
                    refine lv_iconst (v := 1) hx hb dX12_holds_120 (by decide) ?_
                    refine lv_goto (tgt := 155) hx hb dX12_holds_121 (by decide) ?_
                    refine sM_65 hx hb hK hP hS hd (iv_in t_34.2 (by decide) (by decide)) dX12_holds_155 (fun H locs ar_54 ear_54 hP hS => ?_)
                    have hA_ar_54 : rA ar_54 := rA_put hA_ar_3 ear_54 (iv_vn _)
                    refine lv_goto (tgt := 278) hx hb dX12_holds_156 (by decide) ?_
                    exact hj_171 v_30 ar_54 _ _ ls (iv_w t_31.2 (by decide) (by decide)) hA_ar_54 (fA_put (fA_rf [65] _) ear_54 (by decide)) (by omega) (by have hq9 := q_7; rw [show tt.toInt.toNat - x_2.toInt.toNat = (tt.toInt.toNat - (x_2.toInt.toNat + 1)) + 1 from by omega] at hq9; have hw8 : ar 54 (120 * bb.toInt.toNat + x_2.toInt.toNat) = v_22 := (by rw [hw9]; exact congrArg (ar 54) (show (120 * bb.toInt.toNat + x_2.toInt.toNat) = (120 * bb.toInt + ff.toInt).toNat + (x_2.toInt - ff.toInt).toNat from by omega)); have hz1 : (1 : Int32).toInt = 1 := (by decide); have hz0 : (0 : Int32).toInt = 0 := (by decide); have h9 := cm_I_and (g1 := ar_54 65) (x := (1 : Int32)) hq9 (by rw [hw8]; omega) (by rw [ear_54]; show upd (ar_3 65) (Int32.toNatClampNeg v_33) _ = _; rw [show Int32.toNatClampNeg v_33 = x_1.toInt.toNat - 2 from (show v_33.toInt.toNat = x_1.toInt.toNat - 2 from by omega)]; exact congrArg (upd (ar_3 65) (x_1.toInt.toNat - 2)) (iv_vn9 (1 : Int32))) (by rw [(show ar_3 65 (x_1.toInt.toNat - 2) = v_38 from (by rw [ev_38]; exact congrArg (ar_3 65) (show x_1.toInt.toNat - 2 = v_33.toInt.toNat from by omega))), (show ar_3 65 (x_1.toInt.toNat - 1) = v_46 from (by rw [ev_46]; exact congrArg (ar_3 65) (show x_1.toInt.toNat - 1 = v_30.toInt.toNat from by omega)))]; omega); rw [show v_30.toInt.toNat = x_1.toInt.toNat - 1 from by omega]; exact h9) hP hS (lv_sub hl [3, 4, 5, 0, 6] rfl)
            · skip
              have k_55 : ¬ v_22.toInt = 13 := fun q => c_26 (Int32.toInt_inj.mp q)
              refine lv_iload hx hb dX12_holds_73 (lv_at hl 0 rfl) ?_
              refine lv_bipush (v := 14) hx hb dX12_holds_75 (by decide) ?_
              refine lv_icmp_ne (tgt := 159) hx hb dX12_holds_77 (by decide) (fun c_56 => ?_) (fun c_56 => ?_)
              · skip
                have k_57 : ¬ v_22.toInt = 14 := fun q => c_56 (Int32.toInt_inj.mp q)
                have i_58 : 0 ≤ x_1.toInt ∧ x_1.toInt ≤ 60 := (by omega)
                refine lv_aload_n hx hb dX12_holds_159 rfl (lv_at hl 2 rfl) ?_
                refine gM_64 hx hb htg hown hK hP dX12_holds_160 ?_
                refine lv_iload hx hb dX12_holds_163 (lv_at hl 0 rfl) ?_
                refine lM_64 hx hb hK hP (vp_in_iff.mpr (by omega)) dX12_holds_165 (fun v_59 ev_59 => ?_)
                refine lv_istore (lv' := [(8, .int v_59), (7, .int v_22), (6, .int v_19), (0, .ref h), (1, .int bb), (3, .int tt), (4, .int x_1), (5, .int x_2)]) hx hb dX12_holds_166 hl (by decide) rfl (fun ls hl => ?_)
                refine lv_aload_n hx hb dX12_holds_168 rfl (lv_at hl 3 rfl) ?_
                refine gM_55 hx hb htg hown hK hP dX12_holds_169 ?_
                refine lv_iload hx hb dX12_holds_172 (lv_at hl 2 rfl) ?_
                refine lM_55 hx hb hK hP (iv_in t_20.2 (by decide) (by decide)) dX12_holds_174 (fun v_60 ev_60 => ?_)
                refine lv_istore (lv' := [(9, .int v_60), (8, .int v_59), (7, .int v_22), (6, .int v_19), (0, .ref h), (1, .int bb), (3, .int tt), (4, .int x_1), (5, .int x_2)]) hx hb dX12_holds_175 hl (by decide) rfl (fun ls hl => ?_)
                refine lv_aload_n hx hb dX12_holds_177 rfl (lv_at hl 4 rfl) ?_
                refine gM_65 hx hb htg hown hK hP dX12_holds_178 ?_
                refine lv_iload hx hb dX12_holds_181 (lv_at hl 7 rfl) ?_
                refine lv_iload hx hb dX12_holds_183 (lv_at hl 2 rfl) ?_
                refine lv_iconst (v := 4) hx hb dX12_holds_185 (by decide) ?_
                refine lv_icmp_ge (tgt := 203) hx hb dX12_holds_186 (by decide) (fun c_61 => ?_) (fun c_61 => ?_)
                · skip
                  have i_62 : 4 ≤ v_22.toInt ∧ v_22.toInt ≤ 15 := iv_le2 (⟨by decide, by decide⟩ : (4 : Int) ≤ (4 : Int32).toInt ∧ (4 : Int32).toInt ≤ 4) i_23 c_61
                  refine lv_iload hx hb dX12_holds_203 (lv_at hl 0 rfl) ?_
                  refine lv_bipush (v := 60) hx hb dX12_holds_205 (by decide) ?_
                  refine lv_icmp_ne (tgt := 230) hx hb dX12_holds_207 (by decide) (fun c_63 => ?_) (fun c_63 => ?_)
                  · skip
                    have k_64 : ¬ v_60.toInt = 60 := fun q => c_63 (Int32.toInt_inj.mp q)
                    refine lv_iload hx hb dX12_holds_230 (lv_at hl 0 rfl) ?_
                    refine lv_bipush (v := 61) hx hb dX12_holds_232 (by decide) ?_
                    refine lv_icmp_ne (tgt := 257) hx hb dX12_holds_234 (by decide) (fun c_65 => ?_) (fun c_65 => ?_)
                    · skip
                      have k_66 : ¬ v_60.toInt = 61 := fun q => c_65 (Int32.toInt_inj.mp q)
                      refine lv_iload hx hb dX12_holds_257 (lv_at hl 1 rfl) ?_
                      refine lv_aload_n hx hb dX12_holds_259 rfl (lv_at hl 4 rfl) ?_
                      refine gM_56 hx hb htg hown hK hP dX12_holds_260 ?_
                      refine lv_iload hx hb dX12_holds_263 (lv_at hl 3 rfl) ?_
                      refine lM_56 hx hb hK hP (iv_in t_20.2 (by decide) (by decide)) dX12_holds_265 (fun v_67 ev_67 => ?_)
                      refine lv_icmp_le (tgt := 273) hx hb dX12_holds_266 (by decide) (fun c_68 => ?_) (fun c_68 => ?_)
                      · skip
                        have k_69 := Int32.le_iff_toInt_le.mp c_68
                        refine lv_iconst (v := 0) hx hb dX12_holds_273 (by decide) ?_
                        refine sM_65 hx hb hK hP hS hd (iv_in i_58 (by decide) (by decide)) dX12_holds_274 (fun H locs ar_70 ear_70 hP hS => ?_)
                        have hA_ar_70 : rA ar_70 := rA_put hA_ar_3 ear_70 (iv_vn _)
                        obtain ⟨v_71, ev_71⟩ : ∃ z : Int32, z = x_1 + 1 := ⟨_, rfl⟩
                        refine lv_iinc (v := v_71) (lv' := [(4, .int v_71), (9, .int v_60), (8, .int v_59), (7, .int v_22), (6, .int v_19), (0, .ref h), (1, .int bb), (3, .int tt), (5, .int x_2)]) hx hb dX12_holds_275 hl (k := 7) rfl (by rw [ev_71]; rfl) (by decide) rfl (fun ls hl => ?_)
                        have t_72 : v_71.toInt = x_1.toInt + 1 ∧ 1 ≤ v_71.toInt ∧ v_71.toInt ≤ 61 := iv_addc ev_71 i_58 (by decide) (by decide) (by decide)
                        exact hj_171 v_71 ar_70 _ _ ls (iv_w t_72.2 (by decide) (by decide)) hA_ar_70 (fA_put (fA_rf [65] _) ear_70 (by decide)) (by omega) (by have hq9 := q_7; rw [show tt.toInt.toNat - x_2.toInt.toNat = (tt.toInt.toNat - (x_2.toInt.toNat + 1)) + 1 from by omega] at hq9; have hw8 : ar 54 (120 * bb.toInt.toNat + x_2.toInt.toNat) = v_22 := (by rw [hw9]; exact congrArg (ar 54) (show (120 * bb.toInt.toNat + x_2.toInt.toNat) = (120 * bb.toInt + ff.toInt).toNat + (x_2.toInt - ff.toInt).toNat from by omega)); have hz1 : (1 : Int32).toInt = 1 := (by decide); have hz0 : (0 : Int32).toInt = 0 := (by decide); have hf9 : (cd_f (ar 64)) ((ar 54 (120 * bb.toInt.toNat + x_2.toInt.toNat)).toInt.toNat) = v_59.toInt := (by rw [hw8]; unfold cd_f; rw [if_pos (by omega)]; rw [ev_59, show ar_3 64 = ar 64 from ((fA_call (fA_rf [65] _) fa_4 (by decide)) 64 rfl)]; rfl); have hs9 : ar 55 (120 * bb.toInt.toNat + x_2.toInt.toNat) = v_60 := (show v_60 = ar 55 ((120 * bb.toInt.toNat + x_2.toInt.toNat)) from by rw [ev_60, show ar_3 55 = ar 55 from ((fA_call (fA_rf [65] _) fa_4 (by decide)) 55 rfl)]; exact congrArg (ar 55) (show v_19.toInt.toNat = (120 * bb.toInt.toNat + x_2.toInt.toNat) from by omega)).symm; have hn9 : ar 56 (120 * bb.toInt.toNat + x_2.toInt.toNat) = v_67 := (show v_67 = ar 56 ((120 * bb.toInt.toNat + x_2.toInt.toNat)) from by rw [ev_67, show ar_3 56 = ar 56 from ((fA_call (fA_rf [65] _) fa_4 (by decide)) 56 rfl)]; exact congrArg (ar 56) (show v_19.toInt.toNat = (120 * bb.toInt.toNat + x_2.toInt.toNat) from by omega)).symm; have h9 := cm_I_psh (g1 := ar_70 65) (x := (0 : Int32)) hq9 (by rw [hw8]; omega) (by rw [ear_70]; show upd (ar_3 65) (Int32.toNatClampNeg x_1) _ = _; rw [show Int32.toNatClampNeg x_1 = x_1.toInt.toNat from (show x_1.toInt.toNat = x_1.toInt.toNat from by omega)]; exact congrArg (upd (ar_3 65) (x_1.toInt.toNat)) (iv_vn9 (0 : Int32))) (by unfold cm_t; rw [hf9, hs9, hn9, hw8]; omega); rw [show v_71.toInt.toNat = x_1.toInt.toNat + 1 from by omega]; exact h9) hP hS (lv_sub hl [5, 6, 7, 0, 8] rfl)
                      · skip
                        have i_74 : (-2147483648) ≤ v_67.toInt ∧ v_67.toInt ≤ 2147483646 := iv_lt1 (iv_any v_67) (iv_any v_59) (Int32.not_le.mp c_68)
                        have i_75 : (-2147483647) ≤ v_59.toInt ∧ v_59.toInt ≤ 2147483647 := iv_lt2 (iv_any v_67) (iv_any v_59) (Int32.not_le.mp c_68)
                        have k_76 := Int32.lt_iff_toInt_lt.mp (Int32.not_le.mp c_68)
                        refine lv_iconst (v := 1) hx hb dX12_holds_269 (by decide) ?_
                        refine lv_goto (tgt := 274) hx hb dX12_holds_270 (by decide) ?_
                        refine sM_65 hx hb hK hP hS hd (iv_in i_58 (by decide) (by decide)) dX12_holds_274 (fun H locs ar_77 ear_77 hP hS => ?_)
                        have hA_ar_77 : rA ar_77 := rA_put hA_ar_3 ear_77 (iv_vn _)
                        obtain ⟨v_78, ev_78⟩ : ∃ z : Int32, z = x_1 + 1 := ⟨_, rfl⟩
                        refine lv_iinc (v := v_78) (lv' := [(4, .int v_78), (9, .int v_60), (8, .int v_59), (7, .int v_22), (6, .int v_19), (0, .ref h), (1, .int bb), (3, .int tt), (5, .int x_2)]) hx hb dX12_holds_275 hl (k := 7) rfl (by rw [ev_78]; rfl) (by decide) rfl (fun ls hl => ?_)
                        have t_79 : v_78.toInt = x_1.toInt + 1 ∧ 1 ≤ v_78.toInt ∧ v_78.toInt ≤ 61 := iv_addc ev_78 i_58 (by decide) (by decide) (by decide)
                        exact hj_171 v_78 ar_77 _ _ ls (iv_w t_79.2 (by decide) (by decide)) hA_ar_77 (fA_put (fA_rf [65] _) ear_77 (by decide)) (by omega) (by have hq9 := q_7; rw [show tt.toInt.toNat - x_2.toInt.toNat = (tt.toInt.toNat - (x_2.toInt.toNat + 1)) + 1 from by omega] at hq9; have hw8 : ar 54 (120 * bb.toInt.toNat + x_2.toInt.toNat) = v_22 := (by rw [hw9]; exact congrArg (ar 54) (show (120 * bb.toInt.toNat + x_2.toInt.toNat) = (120 * bb.toInt + ff.toInt).toNat + (x_2.toInt - ff.toInt).toNat from by omega)); have hz1 : (1 : Int32).toInt = 1 := (by decide); have hz0 : (0 : Int32).toInt = 0 := (by decide); have hf9 : (cd_f (ar 64)) ((ar 54 (120 * bb.toInt.toNat + x_2.toInt.toNat)).toInt.toNat) = v_59.toInt := (by rw [hw8]; unfold cd_f; rw [if_pos (by omega)]; rw [ev_59, show ar_3 64 = ar 64 from ((fA_call (fA_rf [65] _) fa_4 (by decide)) 64 rfl)]; rfl); have hs9 : ar 55 (120 * bb.toInt.toNat + x_2.toInt.toNat) = v_60 := (show v_60 = ar 55 ((120 * bb.toInt.toNat + x_2.toInt.toNat)) from by rw [ev_60, show ar_3 55 = ar 55 from ((fA_call (fA_rf [65] _) fa_4 (by decide)) 55 rfl)]; exact congrArg (ar 55) (show v_19.toInt.toNat = (120 * bb.toInt.toNat + x_2.toInt.toNat) from by omega)).symm; have hn9 : ar 56 (120 * bb.toInt.toNat + x_2.toInt.toNat) = v_67 := (show v_67 = ar 56 ((120 * bb.toInt.toNat + x_2.toInt.toNat)) from by rw [ev_67, show ar_3 56 = ar 56 from ((fA_call (fA_rf [65] _) fa_4 (by decide)) 56 rfl)]; exact congrArg (ar 56) (show v_19.toInt.toNat = (120 * bb.toInt.toNat + x_2.toInt.toNat) from by omega)).symm; have h9 := cm_I_psh (g1 := ar_77 65) (x := (1 : Int32)) hq9 (by rw [hw8]; omega) (by rw [ear_77]; show upd (ar_3 65) (Int32.toNatClampNeg x_1) _ = _; rw [show Int32.toNatClampNeg x_1 = x_1.toInt.toNat from (show x_1.toInt.toNat = x_1.toInt.toNat from by omega)]; exact congrArg (upd (ar_3 65) (x_1.toInt.toNat)) (iv_vn9 (1 : Int32))) (by unfold cm_t; rw [hf9, hs9, hn9, hw8]; omega); rw [show v_78.toInt.toNat = x_1.toInt.toNat + 1 from by omega]; exact h9) hP hS (lv_sub hl [5, 6, 7, 0, 8] rfl)
                    · skip
                      have i_81 : 61 ≤ v_60.toInt ∧ v_60.toInt ≤ 61 := iv_eq1 (⟨by decide, by decide⟩ : (61 : Int) ≤ (61 : Int32).toInt ∧ (61 : Int32).toInt ≤ 61) c_65
                      refine lv_iload hx hb dX12_holds_237 (lv_at hl 1 rfl) ?_
                      refine lv_aload_n hx hb dX12_holds_239 rfl (lv_at hl 4 rfl) ?_
                      refine gM_56 hx hb htg hown hK hP dX12_holds_240 ?_
                      refine lv_iload hx hb dX12_holds_243 (lv_at hl 3 rfl) ?_
                      refine lM_56 hx hb hK hP (iv_in t_20.2 (by decide) (by decide)) dX12_holds_245 (fun v_83 ev_83 => ?_)
                      refine lv_icmp_ne (tgt := 253) hx hb dX12_holds_246 (by decide) (fun c_84 => ?_) (fun c_84 => ?_)
                      · skip
                        have k_85 : ¬ v_59.toInt = v_83.toInt := fun q => c_84 (Int32.toInt_inj.mp q)
                        refine lv_iconst (v := 0) hx hb dX12_holds_253 (by decide) ?_
                        refine lv_goto (tgt := 274) hx hb dX12_holds_254 (by decide) ?_
                        refine sM_65 hx hb hK hP hS hd (iv_in i_58 (by decide) (by decide)) dX12_holds_274 (fun H locs ar_86 ear_86 hP hS => ?_)
                        have hA_ar_86 : rA ar_86 := rA_put hA_ar_3 ear_86 (iv_vn _)
                        obtain ⟨v_87, ev_87⟩ : ∃ z : Int32, z = x_1 + 1 := ⟨_, rfl⟩
                        refine lv_iinc (v := v_87) (lv' := [(4, .int v_87), (9, .int v_60), (8, .int v_59), (7, .int v_22), (6, .int v_19), (0, .ref h), (1, .int bb), (3, .int tt), (5, .int x_2)]) hx hb dX12_holds_275 hl (k := 7) rfl (by rw [ev_87]; rfl) (by decide) rfl (fun ls hl => ?_)
                        have t_88 : v_87.toInt = x_1.toInt + 1 ∧ 1 ≤ v_87.toInt ∧ v_87.toInt ≤ 61 := iv_addc ev_87 i_58 (by decide) (by decide) (by decide)
                        exact hj_171 v_87 ar_86 _ _ ls (iv_w t_88.2 (by decide) (by decide)) hA_ar_86 (fA_put (fA_rf [65] _) ear_86 (by decide)) (by omega) (by have hq9 := q_7; rw [show tt.toInt.toNat - x_2.toInt.toNat = (tt.toInt.toNat - (x_2.toInt.toNat + 1)) + 1 from by omega] at hq9; have hw8 : ar 54 (120 * bb.toInt.toNat + x_2.toInt.toNat) = v_22 := (by rw [hw9]; exact congrArg (ar 54) (show (120 * bb.toInt.toNat + x_2.toInt.toNat) = (120 * bb.toInt + ff.toInt).toNat + (x_2.toInt - ff.toInt).toNat from by omega)); have hz1 : (1 : Int32).toInt = 1 := (by decide); have hz0 : (0 : Int32).toInt = 0 := (by decide); have hf9 : (cd_f (ar 64)) ((ar 54 (120 * bb.toInt.toNat + x_2.toInt.toNat)).toInt.toNat) = v_59.toInt := (by rw [hw8]; unfold cd_f; rw [if_pos (by omega)]; rw [ev_59, show ar_3 64 = ar 64 from ((fA_call (fA_rf [65] _) fa_4 (by decide)) 64 rfl)]; rfl); have hs9 : ar 55 (120 * bb.toInt.toNat + x_2.toInt.toNat) = v_60 := (show v_60 = ar 55 ((120 * bb.toInt.toNat + x_2.toInt.toNat)) from by rw [ev_60, show ar_3 55 = ar 55 from ((fA_call (fA_rf [65] _) fa_4 (by decide)) 55 rfl)]; exact congrArg (ar 55) (show v_19.toInt.toNat = (120 * bb.toInt.toNat + x_2.toInt.toNat) from by omega)).symm; have hn9 : ar 56 (120 * bb.toInt.toNat + x_2.toInt.toNat) = v_83 := (show v_83 = ar 56 ((120 * bb.toInt.toNat + x_2.toInt.toNat)) from by rw [ev_83, show ar_3 56 = ar 56 from ((fA_call (fA_rf [65] _) fa_4 (by decide)) 56 rfl)]; exact congrArg (ar 56) (show v_19.toInt.toNat = (120 * bb.toInt.toNat + x_2.toInt.toNat) from by omega)).symm; have h9 := cm_I_psh (g1 := ar_86 65) (x := (0 : Int32)) hq9 (by rw [hw8]; omega) (by rw [ear_86]; show upd (ar_3 65) (Int32.toNatClampNeg x_1) _ = _; rw [show Int32.toNatClampNeg x_1 = x_1.toInt.toNat from (show x_1.toInt.toNat = x_1.toInt.toNat from by omega)]; exact congrArg (upd (ar_3 65) (x_1.toInt.toNat)) (iv_vn9 (0 : Int32))) (by unfold cm_t; rw [hf9, hs9, hn9, hw8]; omega); rw [show v_87.toInt.toNat = x_1.toInt.toNat + 1 from by omega]; exact h9) hP hS (lv_sub hl [5, 6, 7, 0, 8] rfl)
                      · skip
                        have k_90 := congrArg Int32.toInt c_84
                        refine lv_iconst (v := 1) hx hb dX12_holds_249 (by decide) ?_
                        refine lv_goto (tgt := 274) hx hb dX12_holds_250 (by decide) ?_
                        refine sM_65 hx hb hK hP hS hd (iv_in i_58 (by decide) (by decide)) dX12_holds_274 (fun H locs ar_91 ear_91 hP hS => ?_)
                        have hA_ar_91 : rA ar_91 := rA_put hA_ar_3 ear_91 (iv_vn _)
                        obtain ⟨v_92, ev_92⟩ : ∃ z : Int32, z = x_1 + 1 := ⟨_, rfl⟩
                        refine lv_iinc (v := v_92) (lv' := [(4, .int v_92), (9, .int v_60), (8, .int v_59), (7, .int v_22), (6, .int v_19), (0, .ref h), (1, .int bb), (3, .int tt), (5, .int x_2)]) hx hb dX12_holds_275 hl (k := 7) rfl (by rw [ev_92]; rfl) (by decide) rfl (fun ls hl => ?_)
                        have t_93 : v_92.toInt = x_1.toInt + 1 ∧ 1 ≤ v_92.toInt ∧ v_92.toInt ≤ 61 := iv_addc ev_92 i_58 (by decide) (by decide) (by decide)
                        exact hj_171 v_92 ar_91 _ _ ls (iv_w t_93.2 (by decide) (by decide)) hA_ar_91 (fA_put (fA_rf [65] _) ear_91 (by decide)) (by omega) (by have hq9 := q_7; rw [show tt.toInt.toNat - x_2.toInt.toNat = (tt.toInt.toNat - (x_2.toInt.toNat + 1)) + 1 from by omega] at hq9; have hw8 : ar 54 (120 * bb.toInt.toNat + x_2.toInt.toNat) = v_22 := (by rw [hw9]; exact congrArg (ar 54) (show (120 * bb.toInt.toNat + x_2.toInt.toNat) = (120 * bb.toInt + ff.toInt).toNat + (x_2.toInt - ff.toInt).toNat from by omega)); have hz1 : (1 : Int32).toInt = 1 := (by decide); have hz0 : (0 : Int32).toInt = 0 := (by decide); have hf9 : (cd_f (ar 64)) ((ar 54 (120 * bb.toInt.toNat + x_2.toInt.toNat)).toInt.toNat) = v_59.toInt := (by rw [hw8]; unfold cd_f; rw [if_pos (by omega)]; rw [ev_59, show ar_3 64 = ar 64 from ((fA_call (fA_rf [65] _) fa_4 (by decide)) 64 rfl)]; rfl); have hs9 : ar 55 (120 * bb.toInt.toNat + x_2.toInt.toNat) = v_60 := (show v_60 = ar 55 ((120 * bb.toInt.toNat + x_2.toInt.toNat)) from by rw [ev_60, show ar_3 55 = ar 55 from ((fA_call (fA_rf [65] _) fa_4 (by decide)) 55 rfl)]; exact congrArg (ar 55) (show v_19.toInt.toNat = (120 * bb.toInt.toNat + x_2.toInt.toNat) from by omega)).symm; have hn9 : ar 56 (120 * bb.toInt.toNat + x_2.toInt.toNat) = v_83 := (show v_83 = ar 56 ((120 * bb.toInt.toNat + x_2.toInt.toNat)) from by rw [ev_83, show ar_3 56 = ar 56 from ((fA_call (fA_rf [65] _) fa_4 (by decide)) 56 rfl)]; exact congrArg (ar 56) (show v_19.toInt.toNat = (120 * bb.toInt.toNat + x_2.toInt.toNat) from by omega)).symm; have h9 := cm_I_psh (g1 := ar_91 65) (x := (1 : Int32)) hq9 (by rw [hw8]; omega) (by rw [ear_91]; show upd (ar_3 65) (Int32.toNatClampNeg x_1) _ = _; rw [show Int32.toNatClampNeg x_1 = x_1.toInt.toNat from (show x_1.toInt.toNat = x_1.toInt.toNat from by omega)]; exact congrArg (upd (ar_3 65) (x_1.toInt.toNat)) (iv_vn9 (1 : Int32))) (by unfold cm_t; rw [hf9, hs9, hn9, hw8]; omega); rw [show v_92.toInt.toNat = x_1.toInt.toNat + 1 from by omega]; exact h9) hP hS (lv_sub hl [5, 6, 7, 0, 8] rfl)
                  · skip
                    have i_95 : 60 ≤ v_60.toInt ∧ v_60.toInt ≤ 60 := iv_eq1 (⟨by decide, by decide⟩ : (60 : Int) ≤ (60 : Int32).toInt ∧ (60 : Int32).toInt ≤ 60) c_63
                    refine lv_iload hx hb dX12_holds_210 (lv_at hl 1 rfl) ?_
                    refine lv_aload_n hx hb dX12_holds_212 rfl (lv_at hl 4 rfl) ?_
                    refine gM_56 hx hb htg hown hK hP dX12_holds_213 ?_
                    refine lv_iload hx hb dX12_holds_216 (lv_at hl 3 rfl) ?_
                    refine lM_56 hx hb hK hP (iv_in t_20.2 (by decide) (by decide)) dX12_holds_218 (fun v_97 ev_97 => ?_)
                    refine lv_icmp_ge (tgt := 226) hx hb dX12_holds_219 (by decide) (fun c_98 => ?_) (fun c_98 => ?_)
                    · skip
                      have k_99 := Int32.le_iff_toInt_le.mp c_98
                      refine lv_iconst (v := 0) hx hb dX12_holds_226 (by decide) ?_
                      refine lv_goto (tgt := 274) hx hb dX12_holds_227 (by decide) ?_
                      refine sM_65 hx hb hK hP hS hd (iv_in i_58 (by decide) (by decide)) dX12_holds_274 (fun H locs ar_100 ear_100 hP hS => ?_)
                      have hA_ar_100 : rA ar_100 := rA_put hA_ar_3 ear_100 (iv_vn _)
                      obtain ⟨v_101, ev_101⟩ : ∃ z : Int32, z = x_1 + 1 := ⟨_, rfl⟩
                      refine lv_iinc (v := v_101) (lv' := [(4, .int v_101), (9, .int v_60), (8, .int v_59), (7, .int v_22), (6, .int v_19), (0, .ref h), (1, .int bb), (3, .int tt), (5, .int x_2)]) hx hb dX12_holds_275 hl (k := 7) rfl (by rw [ev_101]; rfl) (by decide) rfl (fun ls hl => ?_)
                      have t_102 : v_101.toInt = x_1.toInt + 1 ∧ 1 ≤ v_101.toInt ∧ v_101.toInt ≤ 61 := iv_addc ev_101 i_58 (by decide) (by decide) (by decide)
                      exact hj_171 v_101 ar_100 _ _ ls (iv_w t_102.2 (by decide) (by decide)) hA_ar_100 (fA_put (fA_rf [65] _) ear_100 (by decide)) (by omega) (by have hq9 := q_7; rw [show tt.toInt.toNat - x_2.toInt.toNat = (tt.toInt.toNat - (x_2.toInt.toNat + 1)) + 1 from by omega] at hq9; have hw8 : ar 54 (120 * bb.toInt.toNat + x_2.toInt.toNat) = v_22 := (by rw [hw9]; exact congrArg (ar 54) (show (120 * bb.toInt.toNat + x_2.toInt.toNat) = (120 * bb.toInt + ff.toInt).toNat + (x_2.toInt - ff.toInt).toNat from by omega)); have hz1 : (1 : Int32).toInt = 1 := (by decide); have hz0 : (0 : Int32).toInt = 0 := (by decide); have hf9 : (cd_f (ar 64)) ((ar 54 (120 * bb.toInt.toNat + x_2.toInt.toNat)).toInt.toNat) = v_59.toInt := (by rw [hw8]; unfold cd_f; rw [if_pos (by omega)]; rw [ev_59, show ar_3 64 = ar 64 from ((fA_call (fA_rf [65] _) fa_4 (by decide)) 64 rfl)]; rfl); have hs9 : ar 55 (120 * bb.toInt.toNat + x_2.toInt.toNat) = v_60 := (show v_60 = ar 55 ((120 * bb.toInt.toNat + x_2.toInt.toNat)) from by rw [ev_60, show ar_3 55 = ar 55 from ((fA_call (fA_rf [65] _) fa_4 (by decide)) 55 rfl)]; exact congrArg (ar 55) (show v_19.toInt.toNat = (120 * bb.toInt.toNat + x_2.toInt.toNat) from by omega)).symm; have hn9 : ar 56 (120 * bb.toInt.toNat + x_2.toInt.toNat) = v_97 := (show v_97 = ar 56 ((120 * bb.toInt.toNat + x_2.toInt.toNat)) from by rw [ev_97, show ar_3 56 = ar 56 from ((fA_call (fA_rf [65] _) fa_4 (by decide)) 56 rfl)]; exact congrArg (ar 56) (show v_19.toInt.toNat = (120 * bb.toInt.toNat + x_2.toInt.toNat) from by omega)).symm; have h9 := cm_I_psh (g1 := ar_100 65) (x := (0 : Int32)) hq9 (by rw [hw8]; omega) (by rw [ear_100]; show upd (ar_3 65) (Int32.toNatClampNeg x_1) _ = _; rw [show Int32.toNatClampNeg x_1 = x_1.toInt.toNat from (show x_1.toInt.toNat = x_1.toInt.toNat from by omega)]; exact congrArg (upd (ar_3 65) (x_1.toInt.toNat)) (iv_vn9 (0 : Int32))) (by unfold cm_t; rw [hf9, hs9, hn9, hw8]; omega); rw [show v_101.toInt.toNat = x_1.toInt.toNat + 1 from by omega]; exact h9) hP hS (lv_sub hl [5, 6, 7, 0, 8] rfl)
                    · skip
                      have i_104 : (-2147483648) ≤ v_59.toInt ∧ v_59.toInt ≤ 2147483646 := iv_lt1 (iv_any v_59) (iv_any v_97) (Int32.not_le.mp c_98)
                      have i_105 : (-2147483647) ≤ v_97.toInt ∧ v_97.toInt ≤ 2147483647 := iv_lt2 (iv_any v_59) (iv_any v_97) (Int32.not_le.mp c_98)
                      have k_106 := Int32.lt_iff_toInt_lt.mp (Int32.not_le.mp c_98)
                      refine lv_iconst (v := 1) hx hb dX12_holds_222 (by decide) ?_
                      refine lv_goto (tgt := 274) hx hb dX12_holds_223 (by decide) ?_
                      refine sM_65 hx hb hK hP hS hd (iv_in i_58 (by decide) (by decide)) dX12_holds_274 (fun H locs ar_107 ear_107 hP hS => ?_)
                      have hA_ar_107 : rA ar_107 := rA_put hA_ar_3 ear_107 (iv_vn _)
                      obtain ⟨v_108, ev_108⟩ : ∃ z : Int32, z = x_1 + 1 := ⟨_, rfl⟩
                      refine lv_iinc (v := v_108) (lv' := [(4, .int v_108), (9, .int v_60), (8, .int v_59), (7, .int v_22), (6, .int v_19), (0, .ref h), (1, .int bb), (3, .int tt), (5, .int x_2)]) hx hb dX12_holds_275 hl (k := 7) rfl (by rw [ev_108]; rfl) (by decide) rfl (fun ls hl => ?_)
                      have t_109 : v_108.toInt = x_1.toInt + 1 ∧ 1 ≤ v_108.toInt ∧ v_108.toInt ≤ 61 := iv_addc ev_108 i_58 (by decide) (by decide) (by decide)
                      exact hj_171 v_108 ar_107 _ _ ls (iv_w t_109.2 (by decide) (by decide)) hA_ar_107 (fA_put (fA_rf [65] _) ear_107 (by decide)) (by omega) (by have hq9 := q_7; rw [show tt.toInt.toNat - x_2.toInt.toNat = (tt.toInt.toNat - (x_2.toInt.toNat + 1)) + 1 from by omega] at hq9; have hw8 : ar 54 (120 * bb.toInt.toNat + x_2.toInt.toNat) = v_22 := (by rw [hw9]; exact congrArg (ar 54) (show (120 * bb.toInt.toNat + x_2.toInt.toNat) = (120 * bb.toInt + ff.toInt).toNat + (x_2.toInt - ff.toInt).toNat from by omega)); have hz1 : (1 : Int32).toInt = 1 := (by decide); have hz0 : (0 : Int32).toInt = 0 := (by decide); have hf9 : (cd_f (ar 64)) ((ar 54 (120 * bb.toInt.toNat + x_2.toInt.toNat)).toInt.toNat) = v_59.toInt := (by rw [hw8]; unfold cd_f; rw [if_pos (by omega)]; rw [ev_59, show ar_3 64 = ar 64 from ((fA_call (fA_rf [65] _) fa_4 (by decide)) 64 rfl)]; rfl); have hs9 : ar 55 (120 * bb.toInt.toNat + x_2.toInt.toNat) = v_60 := (show v_60 = ar 55 ((120 * bb.toInt.toNat + x_2.toInt.toNat)) from by rw [ev_60, show ar_3 55 = ar 55 from ((fA_call (fA_rf [65] _) fa_4 (by decide)) 55 rfl)]; exact congrArg (ar 55) (show v_19.toInt.toNat = (120 * bb.toInt.toNat + x_2.toInt.toNat) from by omega)).symm; have hn9 : ar 56 (120 * bb.toInt.toNat + x_2.toInt.toNat) = v_97 := (show v_97 = ar 56 ((120 * bb.toInt.toNat + x_2.toInt.toNat)) from by rw [ev_97, show ar_3 56 = ar 56 from ((fA_call (fA_rf [65] _) fa_4 (by decide)) 56 rfl)]; exact congrArg (ar 56) (show v_19.toInt.toNat = (120 * bb.toInt.toNat + x_2.toInt.toNat) from by omega)).symm; have h9 := cm_I_psh (g1 := ar_107 65) (x := (1 : Int32)) hq9 (by rw [hw8]; omega) (by rw [ear_107]; show upd (ar_3 65) (Int32.toNatClampNeg x_1) _ = _; rw [show Int32.toNatClampNeg x_1 = x_1.toInt.toNat from (show x_1.toInt.toNat = x_1.toInt.toNat from by omega)]; exact congrArg (upd (ar_3 65) (x_1.toInt.toNat)) (iv_vn9 (1 : Int32))) (by unfold cm_t; rw [hf9, hs9, hn9, hw8]; omega); rw [show v_108.toInt.toNat = x_1.toInt.toNat + 1 from by omega]; exact h9) hP hS (lv_sub hl [5, 6, 7, 0, 8] rfl)
                · skip
                  have i_111 : 0 ≤ v_22.toInt ∧ v_22.toInt ≤ 3 := iv_lt1 i_23 (⟨by decide, by decide⟩ : (4 : Int) ≤ (4 : Int32).toInt ∧ (4 : Int32).toInt ≤ 4) (Int32.not_le.mp c_61)
                  refine lv_iload hx hb dX12_holds_189 (lv_at hl 1 rfl) ?_
                  refine lv_iconst (v := 1) hx hb dX12_holds_191 (by decide) ?_
                  refine lv_icmp_ne (tgt := 199) hx hb dX12_holds_192 (by decide) (fun c_112 => ?_) (fun c_112 => ?_)
                  · skip
                    have k_113 : ¬ v_59.toInt = 1 := fun q => c_112 (Int32.toInt_inj.mp q)
                    refine lv_iconst (v := 0) hx hb dX12_holds_199 (by decide) ?_
                    refine lv_goto (tgt := 274) hx hb dX12_holds_200 (by decide) ?_
                    refine sM_65 hx hb hK hP hS hd (iv_in i_58 (by decide) (by decide)) dX12_holds_274 (fun H locs ar_114 ear_114 hP hS => ?_)
                    have hA_ar_114 : rA ar_114 := rA_put hA_ar_3 ear_114 (iv_vn _)
                    obtain ⟨v_115, ev_115⟩ : ∃ z : Int32, z = x_1 + 1 := ⟨_, rfl⟩
                    refine lv_iinc (v := v_115) (lv' := [(4, .int v_115), (9, .int v_60), (8, .int v_59), (7, .int v_22), (6, .int v_19), (0, .ref h), (1, .int bb), (3, .int tt), (5, .int x_2)]) hx hb dX12_holds_275 hl (k := 7) rfl (by rw [ev_115]; rfl) (by decide) rfl (fun ls hl => ?_)
                    have t_116 : v_115.toInt = x_1.toInt + 1 ∧ 1 ≤ v_115.toInt ∧ v_115.toInt ≤ 61 := iv_addc ev_115 i_58 (by decide) (by decide) (by decide)
                    exact hj_171 v_115 ar_114 _ _ ls (iv_w t_116.2 (by decide) (by decide)) hA_ar_114 (fA_put (fA_rf [65] _) ear_114 (by decide)) (by omega) (by have hq9 := q_7; rw [show tt.toInt.toNat - x_2.toInt.toNat = (tt.toInt.toNat - (x_2.toInt.toNat + 1)) + 1 from by omega] at hq9; have hw8 : ar 54 (120 * bb.toInt.toNat + x_2.toInt.toNat) = v_22 := (by rw [hw9]; exact congrArg (ar 54) (show (120 * bb.toInt.toNat + x_2.toInt.toNat) = (120 * bb.toInt + ff.toInt).toNat + (x_2.toInt - ff.toInt).toNat from by omega)); have hz1 : (1 : Int32).toInt = 1 := (by decide); have hz0 : (0 : Int32).toInt = 0 := (by decide); have hf9 : (cd_f (ar 64)) ((ar 54 (120 * bb.toInt.toNat + x_2.toInt.toNat)).toInt.toNat) = v_59.toInt := (by rw [hw8]; unfold cd_f; rw [if_pos (by omega)]; rw [ev_59, show ar_3 64 = ar 64 from ((fA_call (fA_rf [65] _) fa_4 (by decide)) 64 rfl)]; rfl); have hs9 : ar 55 (120 * bb.toInt.toNat + x_2.toInt.toNat) = v_60 := (show v_60 = ar 55 ((120 * bb.toInt.toNat + x_2.toInt.toNat)) from by rw [ev_60, show ar_3 55 = ar 55 from ((fA_call (fA_rf [65] _) fa_4 (by decide)) 55 rfl)]; exact congrArg (ar 55) (show v_19.toInt.toNat = (120 * bb.toInt.toNat + x_2.toInt.toNat) from by omega)).symm; have h9 := cm_I_psh (g1 := ar_114 65) (x := (0 : Int32)) hq9 (by rw [hw8]; omega) (by rw [ear_114]; show upd (ar_3 65) (Int32.toNatClampNeg x_1) _ = _; rw [show Int32.toNatClampNeg x_1 = x_1.toInt.toNat from (show x_1.toInt.toNat = x_1.toInt.toNat from by omega)]; exact congrArg (upd (ar_3 65) (x_1.toInt.toNat)) (iv_vn9 (0 : Int32))) (by unfold cm_t; rw [hf9, hs9, hw8]; omega); rw [show v_115.toInt.toNat = x_1.toInt.toNat + 1 from by omega]; exact h9) hP hS (lv_sub hl [5, 6, 7, 0, 8] rfl)
                  · skip
                    have i_118 : 1 ≤ v_59.toInt ∧ v_59.toInt ≤ 1 := iv_eq1 (⟨by decide, by decide⟩ : (1 : Int) ≤ (1 : Int32).toInt ∧ (1 : Int32).toInt ≤ 1) c_112
                    refine lv_iconst (v := 1) hx hb dX12_holds_195 (by decide) ?_
                    refine lv_goto (tgt := 274) hx hb dX12_holds_196 (by decide) ?_
                    refine sM_65 hx hb hK hP hS hd (iv_in i_58 (by decide) (by decide)) dX12_holds_274 (fun H locs ar_120 ear_120 hP hS => ?_)
                    have hA_ar_120 : rA ar_120 := rA_put hA_ar_3 ear_120 (iv_vn _)
                    obtain ⟨v_121, ev_121⟩ : ∃ z : Int32, z = x_1 + 1 := ⟨_, rfl⟩
                    refine lv_iinc (v := v_121) (lv' := [(4, .int v_121), (9, .int v_60), (8, .int v_59), (7, .int v_22), (6, .int v_19), (0, .ref h), (1, .int bb), (3, .int tt), (5, .int x_2)]) hx hb dX12_holds_275 hl (k := 7) rfl (by rw [ev_121]; rfl) (by decide) rfl (fun ls hl => ?_)
                    have t_122 : v_121.toInt = x_1.toInt + 1 ∧ 1 ≤ v_121.toInt ∧ v_121.toInt ≤ 61 := iv_addc ev_121 i_58 (by decide) (by decide) (by decide)
                    exact hj_171 v_121 ar_120 _ _ ls (iv_w t_122.2 (by decide) (by decide)) hA_ar_120 (fA_put (fA_rf [65] _) ear_120 (by decide)) (by omega) (by have hq9 := q_7; rw [show tt.toInt.toNat - x_2.toInt.toNat = (tt.toInt.toNat - (x_2.toInt.toNat + 1)) + 1 from by omega] at hq9; have hw8 : ar 54 (120 * bb.toInt.toNat + x_2.toInt.toNat) = v_22 := (by rw [hw9]; exact congrArg (ar 54) (show (120 * bb.toInt.toNat + x_2.toInt.toNat) = (120 * bb.toInt + ff.toInt).toNat + (x_2.toInt - ff.toInt).toNat from by omega)); have hz1 : (1 : Int32).toInt = 1 := (by decide); have hz0 : (0 : Int32).toInt = 0 := (by decide); have hf9 : (cd_f (ar 64)) ((ar 54 (120 * bb.toInt.toNat + x_2.toInt.toNat)).toInt.toNat) = v_59.toInt := (by rw [hw8]; unfold cd_f; rw [if_pos (by omega)]; rw [ev_59, show ar_3 64 = ar 64 from ((fA_call (fA_rf [65] _) fa_4 (by decide)) 64 rfl)]; rfl); have hs9 : ar 55 (120 * bb.toInt.toNat + x_2.toInt.toNat) = v_60 := (show v_60 = ar 55 ((120 * bb.toInt.toNat + x_2.toInt.toNat)) from by rw [ev_60, show ar_3 55 = ar 55 from ((fA_call (fA_rf [65] _) fa_4 (by decide)) 55 rfl)]; exact congrArg (ar 55) (show v_19.toInt.toNat = (120 * bb.toInt.toNat + x_2.toInt.toNat) from by omega)).symm; have h9 := cm_I_psh (g1 := ar_120 65) (x := (1 : Int32)) hq9 (by rw [hw8]; omega) (by rw [ear_120]; show upd (ar_3 65) (Int32.toNatClampNeg x_1) _ = _; rw [show Int32.toNatClampNeg x_1 = x_1.toInt.toNat from (show x_1.toInt.toNat = x_1.toInt.toNat from by omega)]; exact congrArg (upd (ar_3 65) (x_1.toInt.toNat)) (iv_vn9 (1 : Int32))) (by unfold cm_t; rw [hf9, hs9, hw8]; omega); rw [show v_121.toInt.toNat = x_1.toInt.toNat + 1 from by omega]; exact h9) hP hS (lv_sub hl [5, 6, 7, 0, 8] rfl)
              · skip
                have i_124 : 14 ≤ v_22.toInt ∧ v_22.toInt ≤ 14 := iv_eq1 (⟨by decide, by decide⟩ : (14 : Int) ≤ (14 : Int32).toInt ∧ (14 : Int32).toInt ≤ 14) c_56
                have i_126 : 2 ≤ x_1.toInt ∧ x_1.toInt ≤ 61 := (by omega)
                obtain ⟨v_127, ev_127⟩ : ∃ z : Int32, z = x_1 + (-1) := ⟨_, rfl⟩
                refine lv_iinc (v := v_127) (lv' := [(4, .int v_127), (7, .int v_22), (6, .int v_19), (0, .ref h), (1, .int bb), (3, .int tt), (5, .int x_2)]) hx hb dX12_holds_80 hl (k := 5) rfl (by rw [ev_127]; rfl) (by decide) rfl (fun ls hl => ?_)
                have t_128 : v_127.toInt = x_1.toInt + (-1) ∧ 1 ≤ v_127.toInt ∧ v_127.toInt ≤ 60 := iv_addc ev_127 i_126 (by decide) (by decide) (by decide)
                refine lv_aload_n hx hb dX12_holds_83 rfl (lv_at hl 3 rfl) ?_
                refine gM_65 hx hb htg hown hK hP dX12_holds_84 ?_
                refine lv_iload hx hb dX12_holds_87 (lv_at hl 0 rfl) ?_
                refine lv_iconst (v := 1) hx hb dX12_holds_89 (by decide) ?_
                refine lv_isub hx hb dX12_holds_90 ?_
                refine lv_topi (fun v_130 ev_130 => ?_)
                have t_131 : v_130.toInt = v_127.toInt - 1 ∧ 0 ≤ v_130.toInt ∧ v_130.toInt ≤ 59 := iv_subc ev_130 t_128.2 (by decide) (by decide) (by decide)
                refine lv_iload hx hb dX12_holds_91 (lv_at hl 1 rfl) ?_
                refine lv_bipush (v := 13) hx hb dX12_holds_93 (by decide) ?_
                refine lv_icmp_ne (tgt := 128) hx hb dX12_holds_95 (by decide) (fun c_133 => ?_) (fun c_133 => ?_)
                · skip
                  have k_134 : ¬ v_22.toInt = 13 := fun q => c_133 (Int32.toInt_inj.mp q)
                  refine lv_aload_n hx hb dX12_holds_128 rfl (lv_at hl 3 rfl) ?_
                  refine gM_65 hx hb htg hown hK hP dX12_holds_129 ?_
                  refine lv_iload hx hb dX12_holds_132 (lv_at hl 0 rfl) ?_
                  refine lv_iconst (v := 1) hx hb dX12_holds_134 (by decide) ?_
                  refine lv_isub hx hb dX12_holds_135 ?_
                  refine my_ti (y := v_130) ev_130.symm ?_
                  refine lM_65 hx hb hK hP (iv_in t_131.2 (by decide) (by decide)) dX12_holds_136 (fun v_135 ev_135 => ?_)
                  have i_136 : 0 ≤ v_135.toInt ∧ v_135.toInt ≤ 1 := ev_135 ▸ hA_ar_3 65 _
                  refine lv_if_ne (tgt := 150) hx hb dX12_holds_137 (by decide) (fun c_137 => ?_) (fun c_137 => ?_)
                  · skip
                    have i_138 : 1 ≤ v_135.toInt ∧ v_135.toInt ≤ 1 := iv_nel i_136 (by decide) c_137
                    have k_139 : ¬ v_135.toInt = 0 := fun q => c_137 (Int32.toInt_inj.mp q)
                    refine lv_iconst (v := 1) hx hb dX12_holds_150 (by decide) ?_
                    refine lv_goto (tgt := 155) hx hb dX12_holds_151 (by decide) ?_
                    refine sM_65 hx hb hK hP hS hd (iv_in t_131.2 (by decide) (by decide)) dX12_holds_155 (fun H locs ar_140 ear_140 hP hS => ?_)
                    have hA_ar_140 : rA ar_140 := rA_put hA_ar_3 ear_140 (iv_vn _)
                    refine lv_goto (tgt := 278) hx hb dX12_holds_156 (by decide) ?_
                    exact hj_171 v_127 ar_140 _ _ ls (iv_w t_128.2 (by decide) (by decide)) hA_ar_140 (fA_put (fA_rf [65] _) ear_140 (by decide)) (by omega) (by have hq9 := q_7; rw [show tt.toInt.toNat - x_2.toInt.toNat = (tt.toInt.toNat - (x_2.toInt.toNat + 1)) + 1 from by omega] at hq9; have hw8 : ar 54 (120 * bb.toInt.toNat + x_2.toInt.toNat) = v_22 := (by rw [hw9]; exact congrArg (ar 54) (show (120 * bb.toInt.toNat + x_2.toInt.toNat) = (120 * bb.toInt + ff.toInt).toNat + (x_2.toInt - ff.toInt).toNat from by omega)); have hz1 : (1 : Int32).toInt = 1 := (by decide); have hz0 : (0 : Int32).toInt = 0 := (by decide); have h9 := cm_I_or (g1 := ar_140 65) (x := (1 : Int32)) hq9 (by rw [hw8]; omega) (by rw [ear_140]; show upd (ar_3 65) (Int32.toNatClampNeg v_130) _ = _; rw [show Int32.toNatClampNeg v_130 = x_1.toInt.toNat - 2 from (show v_130.toInt.toNat = x_1.toInt.toNat - 2 from by omega)]; exact congrArg (upd (ar_3 65) (x_1.toInt.toNat - 2)) (iv_vn9 (1 : Int32))) (by rw [(show ar_3 65 (x_1.toInt.toNat - 2) = v_135 from (by rw [ev_135]; exact congrArg (ar_3 65) (show x_1.toInt.toNat - 2 = v_130.toInt.toNat from by omega)))]; omega); rw [show v_127.toInt.toNat = x_1.toInt.toNat - 1 from by omega]; exact h9) hP hS (lv_sub hl [3, 4, 5, 0, 6] rfl)
                  · skip
                    have i_141 : 0 ≤ v_135.toInt ∧ v_135.toInt ≤ 0 := iv_eq1 (⟨by decide, by decide⟩ : (0 : Int) ≤ (0 : Int32).toInt ∧ (0 : Int32).toInt ≤ 0) c_137
                    refine lv_aload_n hx hb dX12_holds_140 rfl (lv_at hl 3 rfl) ?_
                    refine gM_65 hx hb htg hown hK hP dX12_holds_141 ?_
                    refine lv_iload hx hb dX12_holds_144 (lv_at hl 0 rfl) ?_
                    refine lM_65 hx hb hK hP (iv_in t_128.2 (by decide) (by decide)) dX12_holds_146 (fun v_143 ev_143 => ?_)
                    have i_144 : 0 ≤ v_143.toInt ∧ v_143.toInt ≤ 1 := ev_143 ▸ hA_ar_3 65 _
                    refine lv_if_eq (tgt := 154) hx hb dX12_holds_147 (by decide) (fun c_145 => ?_) (fun c_145 => ?_)
                    · skip
                      have i_146 : 0 ≤ v_143.toInt ∧ v_143.toInt ≤ 0 := iv_eq1 (⟨by decide, by decide⟩ : (0 : Int) ≤ (0 : Int32).toInt ∧ (0 : Int32).toInt ≤ 0) c_145
                      refine lv_iconst (v := 0) hx hb dX12_holds_154 (by decide) ?_
                      refine sM_65 hx hb hK hP hS hd (iv_in t_131.2 (by decide) (by decide)) dX12_holds_155 (fun H locs ar_148 ear_148 hP hS => ?_)
                      have hA_ar_148 : rA ar_148 := rA_put hA_ar_3 ear_148 (iv_vn _)
                      refine lv_goto (tgt := 278) hx hb dX12_holds_156 (by decide) ?_
                      exact hj_171 v_127 ar_148 _ _ ls (iv_w t_128.2 (by decide) (by decide)) hA_ar_148 (fA_put (fA_rf [65] _) ear_148 (by decide)) (by omega) (by have hq9 := q_7; rw [show tt.toInt.toNat - x_2.toInt.toNat = (tt.toInt.toNat - (x_2.toInt.toNat + 1)) + 1 from by omega] at hq9; have hw8 : ar 54 (120 * bb.toInt.toNat + x_2.toInt.toNat) = v_22 := (by rw [hw9]; exact congrArg (ar 54) (show (120 * bb.toInt.toNat + x_2.toInt.toNat) = (120 * bb.toInt + ff.toInt).toNat + (x_2.toInt - ff.toInt).toNat from by omega)); have hz1 : (1 : Int32).toInt = 1 := (by decide); have hz0 : (0 : Int32).toInt = 0 := (by decide); have h9 := cm_I_or (g1 := ar_148 65) (x := (0 : Int32)) hq9 (by rw [hw8]; omega) (by rw [ear_148]; show upd (ar_3 65) (Int32.toNatClampNeg v_130) _ = _; rw [show Int32.toNatClampNeg v_130 = x_1.toInt.toNat - 2 from (show v_130.toInt.toNat = x_1.toInt.toNat - 2 from by omega)]; exact congrArg (upd (ar_3 65) (x_1.toInt.toNat - 2)) (iv_vn9 (0 : Int32))) (by rw [(show ar_3 65 (x_1.toInt.toNat - 2) = v_135 from (by rw [ev_135]; exact congrArg (ar_3 65) (show x_1.toInt.toNat - 2 = v_130.toInt.toNat from by omega))), (show ar_3 65 (x_1.toInt.toNat - 1) = v_143 from (by rw [ev_143]; exact congrArg (ar_3 65) (show x_1.toInt.toNat - 1 = v_127.toInt.toNat from by omega)))]; omega); rw [show v_127.toInt.toNat = x_1.toInt.toNat - 1 from by omega]; exact h9) hP hS (lv_sub hl [3, 4, 5, 0, 6] rfl)
                    · skip
                      have i_149 : 1 ≤ v_143.toInt ∧ v_143.toInt ≤ 1 := iv_nel i_144 (by decide) c_145
                      have k_150 : ¬ v_143.toInt = 0 := fun q => c_145 (Int32.toInt_inj.mp q)
                      refine lv_iconst (v := 1) hx hb dX12_holds_150 (by decide) ?_
                      refine lv_goto (tgt := 155) hx hb dX12_holds_151 (by decide) ?_
                      refine sM_65 hx hb hK hP hS hd (iv_in t_131.2 (by decide) (by decide)) dX12_holds_155 (fun H locs ar_151 ear_151 hP hS => ?_)
                      have hA_ar_151 : rA ar_151 := rA_put hA_ar_3 ear_151 (iv_vn _)
                      refine lv_goto (tgt := 278) hx hb dX12_holds_156 (by decide) ?_
                      exact hj_171 v_127 ar_151 _ _ ls (iv_w t_128.2 (by decide) (by decide)) hA_ar_151 (fA_put (fA_rf [65] _) ear_151 (by decide)) (by omega) (by have hq9 := q_7; rw [show tt.toInt.toNat - x_2.toInt.toNat = (tt.toInt.toNat - (x_2.toInt.toNat + 1)) + 1 from by omega] at hq9; have hw8 : ar 54 (120 * bb.toInt.toNat + x_2.toInt.toNat) = v_22 := (by rw [hw9]; exact congrArg (ar 54) (show (120 * bb.toInt.toNat + x_2.toInt.toNat) = (120 * bb.toInt + ff.toInt).toNat + (x_2.toInt - ff.toInt).toNat from by omega)); have hz1 : (1 : Int32).toInt = 1 := (by decide); have hz0 : (0 : Int32).toInt = 0 := (by decide); have h9 := cm_I_or (g1 := ar_151 65) (x := (1 : Int32)) hq9 (by rw [hw8]; omega) (by rw [ear_151]; show upd (ar_3 65) (Int32.toNatClampNeg v_130) _ = _; rw [show Int32.toNatClampNeg v_130 = x_1.toInt.toNat - 2 from (show v_130.toInt.toNat = x_1.toInt.toNat - 2 from by omega)]; exact congrArg (upd (ar_3 65) (x_1.toInt.toNat - 2)) (iv_vn9 (1 : Int32))) (by rw [(show ar_3 65 (x_1.toInt.toNat - 2) = v_135 from (by rw [ev_135]; exact congrArg (ar_3 65) (show x_1.toInt.toNat - 2 = v_130.toInt.toNat from by omega))), (show ar_3 65 (x_1.toInt.toNat - 1) = v_143 from (by rw [ev_143]; exact congrArg (ar_3 65) (show x_1.toInt.toNat - 1 = v_127.toInt.toNat from by omega)))]; omega); rw [show v_127.toInt.toNat = x_1.toInt.toNat - 1 from by omega]; exact h9) hP hS (lv_sub hl [3, 4, 5, 0, 6] rfl)
                · skip
                  exact absurd True.intro (by have h7 := i_124; have h8 := (⟨by decide, by decide⟩ : (13 : Int) ≤ (13 : Int32).toInt ∧ (13 : Int32).toInt ≤ 13); have h9 := congrArg Int32.toInt c_133; exfalso; omega)
          · skip
            have i_152 : 12 ≤ v_22.toInt ∧ v_22.toInt ≤ 12 := iv_eq1 (⟨by decide, by decide⟩ : (12 : Int) ≤ (12 : Int32).toInt ∧ (12 : Int32).toInt ≤ 12) c_24
            refine lv_aload_n hx hb dX12_holds_37 rfl (lv_at hl 2 rfl) ?_
            refine gM_65 hx hb htg hown hK hP dX12_holds_38 ?_
            refine lv_iload hx hb dX12_holds_41 (lv_at hl 5 rfl) ?_
            refine lv_iconst (v := 1) hx hb dX12_holds_43 (by decide) ?_
            refine lv_isub hx hb dX12_holds_44 ?_
            refine lv_topi (fun v_154 ev_154 => ?_)
            have t_155 : v_154.toInt = x_1.toInt - 1 ∧ (-1) ≤ v_154.toInt ∧ v_154.toInt ≤ 60 := iv_subc ev_154 i_x_1 (by decide) (by decide) (by decide)
            refine lv_aload_n hx hb dX12_holds_45 rfl (lv_at hl 2 rfl) ?_
            refine gM_65 hx hb htg hown hK hP dX12_holds_46 ?_
            refine lv_iload hx hb dX12_holds_49 (lv_at hl 5 rfl) ?_
            refine lv_iconst (v := 1) hx hb dX12_holds_51 (by decide) ?_
            refine lv_isub hx hb dX12_holds_52 ?_
            refine my_ti (y := v_154) ev_154.symm ?_
            refine lM_65 hx hb hK hP (vp_in_iff.mpr (by omega)) dX12_holds_53 (fun v_157 ev_157 => ?_)
            have i_158 : 0 ≤ v_157.toInt ∧ v_157.toInt ≤ 1 := ev_157 ▸ hA_ar_3 65 _
            refine lv_if_ne (tgt := 61) hx hb dX12_holds_54 (by decide) (fun c_159 => ?_) (fun c_159 => ?_)
            · skip
              have i_160 : 1 ≤ v_157.toInt ∧ v_157.toInt ≤ 1 := iv_nel i_158 (by decide) c_159
              have k_161 : ¬ v_157.toInt = 0 := fun q => c_159 (Int32.toInt_inj.mp q)
              refine lv_iconst (v := 0) hx hb dX12_holds_61 (by decide) ?_
              refine sM_65 hx hb hK hP hS hd (vp_in_iff.mpr (by omega)) dX12_holds_62 (fun H locs ar_162 ear_162 hP hS => ?_)
              have hA_ar_162 : rA ar_162 := rA_put hA_ar_3 ear_162 (iv_vn _)
              refine lv_goto (tgt := 278) hx hb dX12_holds_63 (by decide) ?_
              exact hj_171 x_1 ar_162 _ _ ls i_x_1 hA_ar_162 (fA_put (fA_rf [65] _) ear_162 (by decide)) (by omega) (by have hq9 := q_7; rw [show tt.toInt.toNat - x_2.toInt.toNat = (tt.toInt.toNat - (x_2.toInt.toNat + 1)) + 1 from by omega] at hq9; have hw8 : ar 54 (120 * bb.toInt.toNat + x_2.toInt.toNat) = v_22 := (by rw [hw9]; exact congrArg (ar 54) (show (120 * bb.toInt.toNat + x_2.toInt.toNat) = (120 * bb.toInt + ff.toInt).toNat + (x_2.toInt - ff.toInt).toNat from by omega)); have hz1 : (1 : Int32).toInt = 1 := (by decide); have hz0 : (0 : Int32).toInt = 0 := (by decide); have h9 := cm_I_not (g1 := ar_162 65) (x := (0 : Int32)) hq9 (by rw [hw8]; omega) (by rw [ear_162]; show upd (ar_3 65) (Int32.toNatClampNeg v_154) _ = _; rw [show Int32.toNatClampNeg v_154 = x_1.toInt.toNat - 1 from (show v_154.toInt.toNat = x_1.toInt.toNat - 1 from by omega)]; exact congrArg (upd (ar_3 65) (x_1.toInt.toNat - 1)) (iv_vn9 (0 : Int32))) (by rw [(show ar_3 65 (x_1.toInt.toNat - 1) = v_157 from (by rw [ev_157]; exact congrArg (ar_3 65) (show x_1.toInt.toNat - 1 = v_154.toInt.toNat from by omega)))]; omega); rw [show x_1.toInt.toNat = x_1.toInt.toNat from by omega]; exact h9) hP hS (lv_sub hl [2, 3, 4, 5, 6] rfl)
            · skip
              have i_163 : 0 ≤ v_157.toInt ∧ v_157.toInt ≤ 0 := iv_eq1 (⟨by decide, by decide⟩ : (0 : Int) ≤ (0 : Int32).toInt ∧ (0 : Int32).toInt ≤ 0) c_159
              refine lv_iconst (v := 1) hx hb dX12_holds_57 (by decide) ?_
              refine lv_goto (tgt := 62) hx hb dX12_holds_58 (by decide) ?_
              refine sM_65 hx hb hK hP hS hd (vp_in_iff.mpr (by omega)) dX12_holds_62 (fun H locs ar_165 ear_165 hP hS => ?_)
              have hA_ar_165 : rA ar_165 := rA_put hA_ar_3 ear_165 (iv_vn _)
              refine lv_goto (tgt := 278) hx hb dX12_holds_63 (by decide) ?_
              exact hj_171 x_1 ar_165 _ _ ls i_x_1 hA_ar_165 (fA_put (fA_rf [65] _) ear_165 (by decide)) (by omega) (by have hq9 := q_7; rw [show tt.toInt.toNat - x_2.toInt.toNat = (tt.toInt.toNat - (x_2.toInt.toNat + 1)) + 1 from by omega] at hq9; have hw8 : ar 54 (120 * bb.toInt.toNat + x_2.toInt.toNat) = v_22 := (by rw [hw9]; exact congrArg (ar 54) (show (120 * bb.toInt.toNat + x_2.toInt.toNat) = (120 * bb.toInt + ff.toInt).toNat + (x_2.toInt - ff.toInt).toNat from by omega)); have hz1 : (1 : Int32).toInt = 1 := (by decide); have hz0 : (0 : Int32).toInt = 0 := (by decide); have h9 := cm_I_not (g1 := ar_165 65) (x := (1 : Int32)) hq9 (by rw [hw8]; omega) (by rw [ear_165]; show upd (ar_3 65) (Int32.toNatClampNeg v_154) _ = _; rw [show Int32.toNatClampNeg v_154 = x_1.toInt.toNat - 1 from (show v_154.toInt.toNat = x_1.toInt.toNat - 1 from by omega)]; exact congrArg (upd (ar_3 65) (x_1.toInt.toNat - 1)) (iv_vn9 (1 : Int32))) (by rw [(show ar_3 65 (x_1.toInt.toNat - 1) = v_157 from (by rw [ev_157]; exact congrArg (ar_3 65) (show x_1.toInt.toNat - 1 = v_154.toInt.toNat from by omega)))]; omega); rw [show x_1.toInt.toNat = x_1.toInt.toNat from by omega]; exact h9) hP hS (lv_sub hl [2, 3, 4, 5, 6] rfl)
  · skip
    have z_190 : (0 : Int32).toInt = 0 := by decide
    exact hj_10 121 0 ff ar _ _ ls (by first | decide | omega) (iv_w (⟨by decide, by decide⟩ : (0 : Int) ≤ (0 : Int32).toInt ∧ (0 : Int32).toInt ≤ 0) (by decide) (by decide)) h_ff hA_ar (fA_rf [65] _) (by rw [show (ff.toInt - ff.toInt).toNat = 0 from by omega]; rfl) (Int.le_refl _) (by rw [show (0 : Int32).toInt.toNat = 0 from by decide]; exact cm_I0 hgd) hP hS (lv_sub hl [2, 3, 5, 1, 0] rfl)

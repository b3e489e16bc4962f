theorem dX11_bylaw_0 : decode cX11_bylaw 0 = .ok (.sipush (-1000), 3) := by decide +kernel
theorem dX11_bylaw_3 : decode cX11_bylaw 3 = .ok (.istore_n 2, 1) := by decide +kernel
theorem dX11_bylaw_4 : decode cX11_bylaw 4 = .ok (.aload_n 0, 1) := by decide +kernel
theorem dX11_bylaw_5 : decode cX11_bylaw 5 = .ok (.getfield 16, 3) := by decide +kernel
theorem dX11_bylaw_8 : decode cX11_bylaw 8 = .ok (.getfield 154, 3) := by decide +kernel
theorem dX11_bylaw_11 : decode cX11_bylaw 11 = .ok (.invokevirtual 158, 3) := by decide +kernel
theorem dX11_bylaw_14 : decode cX11_bylaw 14 = .ok (.bipush 10, 2) := by decide +kernel
theorem dX11_bylaw_16 : decode cX11_bylaw 16 = .ok (.if_icmp .ge 100, 3) := by decide +kernel
theorem dX11_bylaw_19 : decode cX11_bylaw 19 = .ok (.iload_n 1, 1) := by decide +kernel
theorem dX11_bylaw_20 : decode cX11_bylaw 20 = .ok (.aload_n 0, 1) := by decide +kernel
theorem dX11_bylaw_21 : decode cX11_bylaw 21 = .ok (.getfield 16, 3) := by decide +kernel
theorem dX11_bylaw_24 : decode cX11_bylaw 24 = .ok (.getfield 57, 3) := by decide +kernel
theorem dX11_bylaw_27 : decode cX11_bylaw 27 = .ok (.if_icmp .lt 89, 3) := by decide +kernel
theorem dX11_bylaw_30 : decode cX11_bylaw 30 = .ok (.iload_n 1, 1) := by decide +kernel
theorem dX11_bylaw_31 : decode cX11_bylaw 31 = .ok (.sipush 199, 3) := by decide +kernel
theorem dX11_bylaw_34 : decode cX11_bylaw 34 = .ok (.if_icmp .gt 82, 3) := by decide +kernel
theorem dX11_bylaw_37 : decode cX11_bylaw 37 = .ok (.aload_n 0, 1) := by decide +kernel
theorem dX11_bylaw_38 : decode cX11_bylaw 38 = .ok (.getfield 23, 3) := by decide +kernel
theorem dX11_bylaw_41 : decode cX11_bylaw 41 = .ok (.aload_n 0, 1) := by decide +kernel
theorem dX11_bylaw_42 : decode cX11_bylaw 42 = .ok (.getfield 9, 3) := by decide +kernel
theorem dX11_bylaw_45 : decode cX11_bylaw 45 = .ok (.aload_n 0, 1) := by decide +kernel
theorem dX11_bylaw_46 : decode cX11_bylaw 46 = .ok (.getfield 50, 3) := by decide +kernel
theorem dX11_bylaw_49 : decode cX11_bylaw 49 = .ok (.invokevirtual 164, 3) := by decide +kernel
theorem dX11_bylaw_52 : decode cX11_bylaw 52 = .ok (.aload_n 0, 1) := by decide +kernel
theorem dX11_bylaw_53 : decode cX11_bylaw 53 = .ok (.aload_n 0, 1) := by decide +kernel
theorem dX11_bylaw_54 : decode cX11_bylaw 54 = .ok (.getfield 23, 3) := by decide +kernel
theorem dX11_bylaw_57 : decode cX11_bylaw 57 = .ok (.getfield 168, 3) := by decide +kernel
theorem dX11_bylaw_60 : decode cX11_bylaw 60 = .ok (.putfield 171, 3) := by decide +kernel
theorem dX11_bylaw_63 : decode cX11_bylaw 63 = .ok (.aload_n 0, 1) := by decide +kernel
theorem dX11_bylaw_64 : decode cX11_bylaw 64 = .ok (.getfield 171, 3) := by decide +kernel
theorem dX11_bylaw_67 : decode cX11_bylaw 67 = .ok (.ifCond .ne 13, 3) := by decide +kernel
theorem dX11_bylaw_70 : decode cX11_bylaw 70 = .ok (.aload_n 0, 1) := by decide +kernel
theorem dX11_bylaw_71 : decode cX11_bylaw 71 = .ok (.getfield 23, 3) := by decide +kernel
theorem dX11_bylaw_74 : decode cX11_bylaw 74 = .ok (.getfield 172, 3) := by decide +kernel
theorem dX11_bylaw_77 : decode cX11_bylaw 77 = .ok (.goto 12, 3) := by decide +kernel
theorem dX11_bylaw_80 : decode cX11_bylaw 80 = .ok (.iconst (-1), 1) := by decide +kernel
theorem dX11_bylaw_81 : decode cX11_bylaw 81 = .ok (.aload_n 0, 1) := by decide +kernel
theorem dX11_bylaw_82 : decode cX11_bylaw 82 = .ok (.getfield 23, 3) := by decide +kernel
theorem dX11_bylaw_85 : decode cX11_bylaw 85 = .ok (.getfield 175, 3) := by decide +kernel
theorem dX11_bylaw_88 : decode cX11_bylaw 88 = .ok (.isub, 1) := by decide +kernel
theorem dX11_bylaw_89 : decode cX11_bylaw 89 = .ok (.istore_n 2, 1) := by decide +kernel
theorem dX11_bylaw_90 : decode cX11_bylaw 90 = .ok (.aload_n 0, 1) := by decide +kernel
theorem dX11_bylaw_91 : decode cX11_bylaw 91 = .ok (.getfield 171, 3) := by decide +kernel
theorem dX11_bylaw_94 : decode cX11_bylaw 94 = .ok (.ifCond .ne 22, 3) := by decide +kernel
theorem dX11_bylaw_97 : decode cX11_bylaw 97 = .ok (.aload_n 0, 1) := by decide +kernel
theorem dX11_bylaw_98 : decode cX11_bylaw 98 = .ok (.getfield 16, 3) := by decide +kernel
theorem dX11_bylaw_101 : decode cX11_bylaw 101 = .ok (.getfield 154, 3) := by decide +kernel
theorem dX11_bylaw_104 : decode cX11_bylaw 104 = .ok (.aload_n 0, 1) := by decide +kernel
theorem dX11_bylaw_105 : decode cX11_bylaw 105 = .ok (.getfield 23, 3) := by decide +kernel
theorem dX11_bylaw_108 : decode cX11_bylaw 108 = .ok (.iload_n 1, 1) := by decide +kernel
theorem dX11_bylaw_109 : decode cX11_bylaw 109 = .ok (.invokevirtual 178, 3) := by decide +kernel
theorem dX11_bylaw_112 : decode cX11_bylaw 112 = .ok (.invokevirtual 182, 3) := by decide +kernel
theorem dX11_bylaw_115 : decode cX11_bylaw 115 = .ok (.pop, 1) := by decide +kernel
theorem dX11_bylaw_116 : decode cX11_bylaw 116 = .ok (.aload_n 0, 1) := by decide +kernel
theorem dX11_bylaw_117 : decode cX11_bylaw 117 = .ok (.iconst 0, 1) := by decide +kernel
theorem dX11_bylaw_118 : decode cX11_bylaw 118 = .ok (.putfield 50, 3) := by decide +kernel
theorem dX11_bylaw_121 : decode cX11_bylaw 121 = .ok (.iload_n 2, 1) := by decide +kernel
theorem dX11_bylaw_122 : decode cX11_bylaw 122 = .ok (.ireturn, 1) := by decide +kernel
theorem my_Sw {A B : Nat → Prop} {H0 H : Heap} {locs : List Loc} (h : va_S A H0 H locs) (w : ∀ q, A q → B q) : va_S B H0 H locs := ⟨h.1, fun q h1 h2 => h.2.1 q h1 (fun z => h2 (w q z)), fun l hl => w _ (h.2.2 l hl)⟩
theorem my_back {D : va_G} {cl : List vw_C} {ws wc : va_W} {H H1 : Heap} {A : Nat → Prop} (hP : va_P D cl ws H) (hD : va_D A ws) (is : List Nat) (hs : is.map (fun i => ws[i]?) = wc.map some) (hk : ∀ (k : Nat) (c : Nat × va_E), ws[k]? = some c → ¬ va_A wc H.size c.1 → H1[c.1]? = H[c.1]?) (h1 : va_P D cl wc H1) : va_P D cl ws H1 := by
  intro k q hq
  by_cases z : ∃ (j : Nat) (c : Nat × va_E), wc[j]? = some c ∧ c.1 = q.1
  · obtain ⟨j, c, hj, hc⟩ := z
    have h2 : (is.map (fun i => ws[i]?))[j]? = some (some c) := by rw [hs, List.getElem?_map, hj]; rfl
    rw [List.getElem?_map] at h2
    cases hi : is[j]? with
    | none => rw [hi] at h2; cases h2
    | some i =>
      rw [hi] at h2
      have h3 : ws[i]? = some c := Option.some.inj h2
      have e := hD.1 i k c q h3 hq hc
      subst e
      have e2 : c = q := Option.some.inj (h3.symm.trans hq)
      subst e2
      exact h1 j c hj
  · refine (hP k q hq).kept (hk k q hq ?_)
    intro w
    rcases w with ⟨j, e, hj⟩ | w
    · exact z ⟨j, (q.1, e), hj, rfl⟩
    · exact absurd (hP k q hq).lt (Nat.not_lt.mpr w)
theorem my_new {ws w1 : va_W} {sz : Nat} (hD : va_D (va_A ws sz) (ws ++ w1)) : ∀ (k : Nat) (q : Nat × va_E), w1[k]? = some q → sz ≤ q.1 := by
  intro k q hk
  have h1 : (ws ++ w1)[ws.length + k]? = some q := by rw [List.getElem?_append_right (Nat.le_add_right _ _), Nat.add_sub_cancel_left]; exact hk
  rcases hD.2 _ q h1 with ⟨j, e, hj⟩ | h
  · have hl : j < ws.length := (List.getElem?_eq_some_iff.mp hj).1
    have h2 : (ws ++ w1)[j]? = some (q.1, e) := by rw [List.getElem?_append_left hl]; exact hj
    have := hD.1 _ _ _ _ h2 h1 rfl
    omega
  · exact h
theorem my_right {D : va_G} {cl : List vw_C} {w1 w2 : va_W} {H : Heap} (h : va_P D cl (w1 ++ w2) H) : va_P D cl w2 H := fun k q hk => h (w1.length + k) q (by rw [List.getElem?_append_right (Nat.le_add_right _ _), Nat.add_sub_cancel_left]; exact hk)
theorem my_left {D : va_G} {cl : List vw_C} {w1 w2 : va_W} {H : Heap} (h : va_P D cl (w1 ++ w2) H) : va_P D cl w1 H := fun k q hk => h k q (by rw [List.getElem?_append_left (List.getElem?_eq_some_iff.mp hk).1]; exact hk)
theorem my_Dright {A : Nat → Prop} {w1 w2 : va_W} (h : va_D A (w1 ++ w2)) : va_D A w2 := by
  have f : ∀ (k : Nat) (q : Nat × va_E), w2[k]? = some q → (w1 ++ w2)[w1.length + k]? = some q := fun k q hk => by rw [List.getElem?_append_right (Nat.le_add_right _ _), Nat.add_sub_cancel_left]; exact hk
  exact ⟨fun i j p q hi hj e => by have := h.1 _ _ p q (f i p hi) (f j q hj) e; omega, fun k q hk => h.2 _ q (f k q hk)⟩
theorem my_put1 {D : va_G} {cl : List vw_C} {ws : va_W} {H H2 : Heap} {A : Nat → Prop} (hP : va_P D cl ws H) (hD : va_D A ws) (i : Nat) {a : Nat} {e0 e1 : va_E} (hi : ws[i]? = some (a, e0)) (hk : ∀ (k : Nat) (c : Nat × va_E), ws[k]? = some c → c.1 ≠ a → H2[c.1]? = H[c.1]?) (h1 : va_P D cl [(a, e1)] H2) : va_P D cl (ws.set i (a, e1)) H2 := by
  intro k q hq
  rw [List.getElem?_set] at hq
  by_cases z : i = k
  · rw [if_pos z] at hq
    have hl : i < ws.length := (List.getElem?_eq_some_iff.mp hi).1
    rw [if_pos hl] at hq
    cases hq
    exact h1 0 _ rfl
  · rw [if_neg z] at hq
    refine (hP k q hq).kept (hk k q hq ?_)
    intro e
    exact z (hD.1 i k _ q hi hq e.symm)
theorem my_D2 {a b : Nat} {x y : va_E} (h : a ≠ b) : va_D (fun _ => True) [(a, x), (b, y)] := by
  refine ⟨fun i j p q hi hj e => ?_, fun _ _ _ => trivial⟩
  match i, j, hi, hj with
  | 0, 0, _, _ => rfl
  | 1, 1, _, _ => rfl
  | 0, 1, hi, hj => cases hi; cases hj; exact absurd e h
  | 1, 0, hi, hj => cases hi; cases hj; exact absurd e.symm h
  | i + 2, _, hi, _ => simp at hi
  | _, j + 2, _, hj => simp at hj
theorem my_D3 {a b c : Nat} {x y z : va_E} (h : a ≠ b) (h2 : a ≠ c) (h3 : b ≠ c) : va_D (fun _ => True) [(a, x), (b, y), (c, z)] := by
  refine ⟨fun i j p q hi hj e => ?_, fun _ _ _ => trivial⟩
  match i, j, hi, hj with
  | 0, 0, _, _ => rfl
  | 1, 1, _, _ => rfl
  | 2, 2, _, _ => rfl
  | 0, 1, hi, hj => cases hi; cases hj; exact absurd e h
  | 1, 0, hi, hj => cases hi; cases hj; exact absurd e.symm h
  | 0, 2, hi, hj => cases hi; cases hj; exact absurd e h2
  | 2, 0, hi, hj => cases hi; cases hj; exact absurd e.symm h2
  | 1, 2, hi, hj => cases hi; cases hj; exact absurd e h3
  | 2, 1, hi, hj => cases hi; cases hj; exact absurd e.symm h3
  | i + 3, _, hi, _ => simp at hi
  | _, j + 3, _, hj => simp at hj
theorem my_A2 {a b sz : Nat} {x y : va_E} {P : Nat → Prop} (h1 : P a) (h2 : P b) (h : ∀ q, sz ≤ q → P q) : ∀ q, va_A [(a, x), (b, y)] sz q → P q := by
  intro q hq
  rcases hq with ⟨k, e, hk⟩ | hq
  · match k, hk with
    | 0, hk => cases hk; exact h1
    | 1, hk => cases hk; exact h2
    | k + 2, hk => simp at hk
  · exact h q hq
theorem my_A3 {a b c sz : Nat} {x y z : va_E} {P : Nat → Prop} (h1 : P a) (h2 : P b) (h3 : P c) (h : ∀ q, sz ≤ q → P q) : ∀ q, va_A [(a, x), (b, y), (c, z)] sz q → P q := by
  intro q hq
  rcases hq with ⟨k, e, hk⟩ | hq
  · match k, hk with
    | 0, hk => cases hk; exact h1
    | 1, hk => cases hk; exact h2
    | 2, hk => cases hk; exact h3
    | k + 3, hk => simp at hk
  · exact h q hq
theorem ntH_all {α : Type} {P : α → Prop} {d : α} (hd : P d) : ∀ (l : List α), (∀ x ∈ l, P x) → ∀ j, P (ntH d l j)
  | [], _, _ => hd
  | a :: t, h, 0 => h a (List.mem_cons_self)
  | a :: t, h, j + 1 => ntH_all hd t (fun x hx => h x (List.mem_cons_of_mem _ hx)) j
theorem lw_all {P : Nat → Prop} {la : Nat} {lfr : Int32} {lra : Nat → Nat} {lrc : Nat → ClassId} {lln lcn : Nat} {llr : Nat → Nat → Int32} (h0 : P la) (h1 : ∀ j, P (lra j)) : ∀ (k : Nat) (q : Nat × va_E), (lwC la lfr lra lrc lln lcn llr)[k]? = some q → P q.1 := by
  intro k q hk
  match k, hk with
  | 0, hk => cases hk; exact h0
  | 1, hk => cases hk; exact h1 1
  | 2, hk => cases hk; exact h1 2
  | 3, hk => cases hk; exact h1 3
  | 4, hk => cases hk; exact h1 4
  | 5, hk => cases hk; exact h1 5
  | 6, hk => cases hk; exact h1 6
  | k + 7, hk => simp [lwC] at hk
def lsN (P : Nat → Prop) (gla : Nat → Nat) (gra : Nat → Nat → Nat) (n : Int) : Prop := ∀ i : Nat, (i : Int) ≤ n → P (gla i) ∧ ∀ j : Nat, P (gra i j)
theorem lsN_up {P : Nat → Prop} {gla : Nat → Nat} {gra : Nat → Nat → Nat} {n n1 : Int} {N la : Nat} {lra : Nat → Nat} (h : lsN P gla gra n) (hN : n1 = (N : Int)) (hn : n1 = n + 1) (h0 : P la) (h1 : ∀ j, P (lra j)) : lsN P (va_up gla N la) (va_up gra N lra) n1 := by
  intro i hi
  by_cases q : i = N
  · simp only [va_up, if_pos q]; exact ⟨h0, h1⟩
  · simp only [va_up, if_neg q]; exact h i (by omega)
theorem lq_new {FV : Nat → Int32} {AR : Nat → Nat → Int32} {llr : Nat → Nat → Int32} {LN CN : Nat} (hA : rB AR) (hec : eC FV AR) (r15 : 0 ≤ (FV 15).toInt ∧ (FV 15).toInt ≤ 16) (r16 : 0 ≤ (FV 16).toInt ∧ (FV 16).toInt ≤ 100) (hL : (FV 15).toNatClampNeg = LN) (hC : (FV 16).toNatClampNeg = CN) (q3 : ∀ i : Nat, (i < LN → llr 3 i = AR 40 i) ∧ (¬ i < LN → llr 3 i = 0)) (q5 : ∀ i : Nat, (i < CN → llr 5 i = AR 42 i) ∧ (¬ i < CN → llr 5 i = 0)) : lwQ LN CN llr := by
  have e1 : (FV 15).toNatClampNeg = (FV 15).toInt.toNat := rfl
  have e2 : (FV 16).toNatClampNeg = (FV 16).toInt.toNat := rfl
  have z : (0 : Int32).toInt = 0 := by decide
  refine ⟨by omega, by omega, fun i => ⟨?_, ?_⟩⟩
  · by_cases h : i < LN
    · rw [(q3 i).1 h]
      have h1 : (0 : Int) ≤ (AR 40 i).toInt ∧ (AR 40 i).toInt ≤ 100 := hA 40 i
      have h2 := hec i (by omega)
      omega
    · rw [(q3 i).2 h, z]; omega
  · by_cases h : i < CN
    · rw [(q5 i).1 h]; exact hA 42 i
    · rw [(q5 i).2 h, z]; omega
theorem ls_ext {dC : Nat → ClassId} {dI : Nat → Nat → Nat} {ob ad : Nat → Nat} {gla : Nat → Nat} {gfr : Nat → Int32} {gra : Nat → Nat → Nat} {grc : Nat → Nat → ClassId} {gln gcn : Nat → Nat} {glr : Nat → Nat → Nat → Int32} {la : Nat} {lfr : Int32} {lra : Nat → Nat} {lrc : Nat → ClassId} {lln lcn : Nat} {llr : Nat → Nat → Int32} {ce1 : ClassId} {ef1 : Nat → Option Nat} {n n1 : Int} {ed1 sz1 N : Nat} {U : State} (hN : n1 = (N : Int)) (hn : n1 = n + 1) (hn0 : 0 ≤ n) (h0 : gla 0 = ob 12)
    (hold : ∀ i : Nat, (i : Int) ≤ n → lwQ (gln i) (gcn i) (glr i) ∧ lwA dC dI ob ad (gla i) (gfr i) (gra i) (grc i) (gln i) (gcn i) (glr i) sz1 U) (hq : lwQ lln lcn llr) (hA : lwA dC dI ob ad la lfr lra lrc lln lcn llr sz1 U)
    (hed : va_P (dC, dI) vwCl [(ed1, .inl (ce1, 10, .inr (.inr (.inr (.inr ef1)))))] U.heap ∧ va_K (dC, dI) vwCl [(ce1, .object "java/lang/Object")] U ∧ ¬ aX ob ad sz1 ed1) (hef : ∀ i : Nat, (i : Int) < n → ef1 i = some (gla (i + 1))) (hefn : ef1 (N - 1) = some la) : lsA dC dI ob ad (va_up gla N la) (va_up gfr N lfr) (va_up gra N lra) (va_up grc N lrc) (va_up gln N lln) (va_up gcn N lcn) (va_up glr N llr) ce1 ef1 n1 ed1 sz1 U := by
  refine ⟨?_, fun i hi => ?_, fun _ => ⟨hed, fun i hi => ?_⟩⟩
  · simp only [va_up, if_neg (show ¬ 0 = N from by omega)]; exact h0
  · by_cases q : i = N
    · simp only [va_up, if_pos q]; exact ⟨hq, hA⟩
    · simp only [va_up, if_neg q]; exact hold i (by omega)
  · by_cases q : i + 1 = N
    · simp only [va_up, if_pos q]; rw [show i = N - 1 from by omega]; exact hefn
    · simp only [va_up, if_neg q]; exact hef i (by omega)
theorem my_adlt {dC : Nat → ClassId} {dI : Nat → Nat → Nat} {ob ad : Nat → Nat} {cA : Nat → ClassId} {fv : Nat → Int32} {wd : xT} {ar : Nat → Nat → Int32} {H : Heap} (hP : va_P (dC, dI) vwCl (wsX ob ad cA fv wd ar) H) {k q : Nat} (hk : (adX ob ad)[k]? = some q) : q < H.size := by
  have e : adX ob ad = (wsX ob ad cA fv wd ar).map (fun q => q.1) := rfl
  rw [e, List.getElem?_map] at hk
  cases hc : (wsX ob ad cA fv wd ar)[k]? with
  | none => rw [hc] at hk; cases hk
  | some c => rw [hc] at hk; cases hk; exact (hP k c hc).lt
theorem my_D1 {A : Nat → Prop} {a : Nat} {x : va_E} (h : A a) : va_D A [(a, x)] := by
  refine ⟨fun i j p q hi hj e => ?_, fun k q hk => ?_⟩
  · match i, j, hi, hj with
    | 0, 0, _, _ => rfl
    | i + 1, _, hi, _ => simp at hi
    | _, j + 1, _, hj => simp at hj
  · match k, hk with
    | 0, hk => cases hk; exact h
    | k + 1, hk => simp at hk
theorem my_ne1 {a : Nat} {x : va_E} {j : Nat} {p q : Nat × va_E} (hj : ([(a, x)] : va_W)[j]? = some q) (e : p.1 = q.1) (h : p.1 ≠ a) : False := by
  match j, hj with
  | 0, hj => cases hj; exact h e
  | j + 1, hj => simp at hj
theorem my_ne2 {ob ad : Nat → Nat} {sz a : Nat} {x : va_E} {lw : va_W} {i j : Nat} {p q : Nat × va_E} (hx : ∀ k q9 : Nat, (adX ob ad)[k]? = some q9 → q9 < sz) (hi : (adX ob ad)[i]? = some p.1) (hj : (lw ++ [(a, x)])[j]? = some q) (e : p.1 = q.1) (hl : ∀ (k : Nat) (q : Nat × va_E), lw[k]? = some q → sz ≤ q.1) (ha : ∀ k q9 : Nat, (adX ob ad)[k]? = some q9 → q9 ≠ a) : False := by
  rcases Nat.lt_or_ge j lw.length with h | h
  · rw [List.getElem?_append_left h] at hj
    have h1 := hl j q hj
    have h2 := hx i _ hi
    omega
  · rw [List.getElem?_append_right h] at hj
    exact my_ne1 hj e (ha i _ hi)
theorem my_nA2 {a b sz q : Nat} {x y : va_E} (h1 : q ≠ a) (h2 : q ≠ b) (h : q < sz) : ¬ va_A [(a, x), (b, y)] sz q := my_A2 (P := fun z => z ≠ q) h1.symm h2.symm (fun z hz => by omega) q |> fun f w => f w rfl
theorem my_nA3 {a b c sz q : Nat} {x y z : va_E} (h1 : q ≠ a) (h2 : q ≠ b) (h3 : q ≠ c) (h : q < sz) : ¬ va_A [(a, x), (b, y), (c, z)] sz q := my_A3 (P := fun z => z ≠ q) h1.symm h2.symm h3.symm (fun z hz => by omega) q |> fun f w => f w rfl
theorem my_Dcg {a b c sz : Nat} {x x1 y y1 z : va_E} (hD : va_D (va_A [(a, x), (b, y)] sz) [(a, x1), (b, y1), (c, z)]) : va_D (va_A [(a, x), (b, y)] sz) ([(a, x), (b, y)] ++ [(c, z)]) := by
  have f : ∀ (k : Nat) (q : Nat × va_E), ([(a, x), (b, y)] ++ [(c, z)] : va_W)[k]? = some q → ∃ q1 : Nat × va_E, ([(a, x1), (b, y1), (c, z)] : va_W)[k]? = some q1 ∧ q1.1 = q.1 := by
    intro k q hk
    match k, hk with
    | 0, hk => cases hk; exact ⟨_, rfl, rfl⟩
    | 1, hk => cases hk; exact ⟨_, rfl, rfl⟩
    | 2, hk => cases hk; exact ⟨_, rfl, rfl⟩
    | k + 3, hk => simp at hk
  refine ⟨fun i j p q hi hj e => ?_, fun k q hk => ?_⟩
  · obtain ⟨p1, h1, h2⟩ := f i p hi
    obtain ⟨q1, h3, h4⟩ := f j q hj
    exact hD.1 i j p1 q1 h1 h3 (by rw [h2, h4, e])
  · obtain ⟨q1, h3, h4⟩ := f k q hk
    rw [← h4]; exact hD.2 k q1 h3

def wt_cn (f : Nat → Nat) (c : Nat) : Nat → Nat
  | 0 => 0
  | n + 1 => wt_cn f c n + (if f n = c then 1 else 0)
theorem wt_cn_s (f : Nat → Nat) (c n : Nat) : wt_cn f c (n + 1) = wt_cn f c n + (if f n = c then 1 else 0) := rfl
theorem wt_cn_le (f : Nat → Nat) (c : Nat) : ∀ n, wt_cn f c n ≤ n := by
  intro n
  induction n with
  | zero => exact Nat.le_refl _
  | succ n ih =>
    rw [wt_cn_s]
    by_cases h : f n = c
    · rw [if_pos h]; omega
    · rw [if_neg h]; omega
theorem wt_cn_pos (f : Nat → Nat) (z : Nat) : ∀ n, z < n → 1 ≤ wt_cn f (f z) n := by
  intro n
  induction n with
  | zero => intro h; omega
  | succ n ih =>
    intro h
    rw [wt_cn_s]
    by_cases h1 : z = n
    · subst h1; rw [if_pos rfl]; omega
    · have := ih (by omega); omega
def wt_un (f : Nat → Nat) (a b : Nat) : Nat → Nat := fun z => if f z = f b then f a else f z
theorem wt_cn_join (f : Nat → Nat) (a b : Nat) (h : f a ≠ f b) : ∀ n, wt_cn (wt_un f a b) (f a) n = wt_cn f (f a) n + wt_cn f (f b) n := by
  intro n
  induction n with
  | zero => rfl
  | succ n ih =>
    rw [wt_cn_s, wt_cn_s, wt_cn_s, ih]
    have hu : wt_un f a b n = if f n = f b then f a else f n := rfl
    rw [hu]
    by_cases h1 : f n = f b
    · have h2 : ¬ f n = f a := fun q => h (q.symm.trans h1)
      rw [if_pos h1, if_pos rfl, if_neg h2, if_pos h1]; omega
    · rw [if_neg h1, if_neg h1]; omega
theorem wt_cn_up (f : Nat → Nat) (a b c : Nat) (h : c ≠ f b) : ∀ n, wt_cn f c n ≤ wt_cn (wt_un f a b) c n := by
  intro n
  induction n with
  | zero => exact Nat.le_refl _
  | succ n ih =>
    rw [wt_cn_s, wt_cn_s]
    have hu : wt_un f a b n = if f n = f b then f a else f n := rfl
    rw [hu]
    by_cases h1 : f n = f b
    · have h2 : ¬ f n = c := fun q => h (q.symm.trans h1)
      rw [if_neg h2]; omega
    · rw [if_neg h1]; omega
theorem wt_un_same (f : Nat → Nat) (a b : Nat) (h : f a = f b) : wt_un f a b = f := by
  funext z
  show (if f z = f b then f a else f z) = f z
  by_cases h1 : f z = f b
  · rw [if_pos h1, h, h1]
  · rw [if_neg h1]
theorem wt_cn_more (f : Nat → Nat) (a b x : Nat) (n : Nat) : wt_cn f (f x) n ≤ wt_cn (wt_un f a b) (wt_un f a b x) n := by
  by_cases h : f a = f b
  · rw [wt_un_same f a b h]; exact Nat.le_refl _
  · have hu : wt_un f a b x = if f x = f b then f a else f x := rfl
    rw [hu]
    by_cases h1 : f x = f b
    · rw [if_pos h1, wt_cn_join f a b h, h1]; omega
    · rw [if_neg h1]; exact wt_cn_up f a b (f x) h1 n
def wt_S (d : Nat → Int) (f : Nat → Nat) : Prop := ∀ x y : Nat, x < 12 → y < 12 → (f x = f y → 0 ≤ d (12 * x + y) ∧ d (12 * x + y) ≤ 99 * ((wt_cn f (f x) 12 : Nat) : Int) - 99) ∧ (f x ≠ f y → d (12 * x + y) = 10000000)
def wt_mn (p q : Int) : Int := if p < q then p else q
theorem wt_mn_cases (p q : Int) : (p < q ∧ wt_mn p q = p) ∨ (q ≤ p ∧ wt_mn p q = q) := by
  unfold wt_mn
  by_cases h : p < q
  · exact Or.inl ⟨h, if_pos h⟩
  · exact Or.inr ⟨by omega, if_neg h⟩
def wt_cd (d : Nat → Int) (a b : Nat) (len : Int) (n : Nat) : Int := wt_mn (d (12 * (n / 12) + a) + len + d (12 * b + n % 12)) (d (12 * (n / 12) + b) + len + d (12 * a + n % 12))
def wt_L (a b : Nat) (len : Int) (d : Nat → Int) : Nat → Nat → Int
  | 0 => d
  | n + 1 => fun i => if i = n then wt_mn (wt_cd (wt_L a b len d n) a b len n) (wt_L a b len d n n) else wt_L a b len d n i
theorem wt_L_at (a b : Nat) (len : Int) (d : Nat → Int) (n : Nat) : wt_L a b len d (n + 1) n = wt_mn (wt_cd (wt_L a b len d n) a b len n) (wt_L a b len d n n) := by
  show (if n = n then _ else _) = _
  rw [if_pos rfl]
theorem wt_L_ne (a b : Nat) (len : Int) (d : Nat → Int) (n i : Nat) (h : i ≠ n) : wt_L a b len d (n + 1) i = wt_L a b len d n i := by
  show (if i = n then _ else _) = _
  rw [if_neg h]
def wt_K (d : Nat → Int) (f : Nat → Nat) (a b n : Nat) (c : Nat → Int) : Prop := ∀ x y : Nat, x < 12 → y < 12 → (0 ≤ c (12 * x + y)) ∧ c (12 * x + y) ≤ d (12 * x + y) ∧ (n ≤ 12 * x + y → c (12 * x + y) = d (12 * x + y)) ∧ (wt_un f a b x ≠ wt_un f a b y → c (12 * x + y) = 10000000) ∧ (12 * x + y < n → wt_un f a b x = wt_un f a b y → c (12 * x + y) ≤ 99 * ((wt_cn (wt_un f a b) (wt_un f a b x) 12 : Nat) : Int) - 99)
theorem wt_S0 {d : Nat → Int} {f : Nat → Nat} (h : wt_S d f) {x y : Nat} (hx : x < 12) (hy : y < 12) : 0 ≤ d (12 * x + y) ∧ d (12 * x + y) ≤ 10000000 := by
  by_cases e : f x = f y
  · have h1 := (h x y hx hy).1 e
    have h2 := wt_cn_le f (f x) 12
    omega
  · have h1 := (h x y hx hy).2 e
    omega
theorem wt_un_inj {f : Nat → Nat} {a b x y : Nat} (h : f x = f y) : wt_un f a b x = wt_un f a b y := by
  show (if f x = f b then f a else f x) = (if f y = f b then f a else f y)
  rw [h]
theorem wt_K0 {d : Nat → Int} {f : Nat → Nat} (h : wt_S d f) (a b : Nat) : wt_K d f a b 0 d := by
  intro x y hx hy
  refine ⟨(wt_S0 h hx hy).1, Int.le_refl _, fun _ => rfl, fun q => (h x y hx hy).2 (fun e => q (wt_un_inj e)), fun w => by omega⟩
theorem wt_un_ab (f : Nat → Nat) (a b : Nat) : wt_un f a b a = wt_un f a b b := by
  show (if f a = f b then f a else f a) = (if f b = f b then f a else f b)
  rw [if_pos (rfl : f b = f b)]
  by_cases h : f a = f b
  · rw [if_pos h]
  · rw [if_neg h]
theorem wt_un_two {f : Nat → Nat} {a b x y : Nat} (h : wt_un f a b x = wt_un f a b y) (hn : f x ≠ f y) : f a ≠ f b ∧ ((f x = f a ∧ f y = f b) ∨ (f x = f b ∧ f y = f a)) := by
  have h1 : (if f x = f b then f a else f x) = (if f y = f b then f a else f y) := h
  by_cases q1 : f x = f b
  · by_cases q2 : f y = f b
    · exact absurd (q1.trans q2.symm) hn
    · rw [if_pos q1, if_neg q2] at h1
      exact ⟨fun w => q2 (h1.symm.trans w), Or.inr ⟨q1, h1.symm⟩⟩
  · by_cases q2 : f y = f b
    · rw [if_neg q1, if_pos q2] at h1
      exact ⟨fun w => q1 (h1.trans w), Or.inl ⟨h1, q2⟩⟩
    · rw [if_neg q1, if_neg q2] at h1
      exact absurd h1 hn
theorem wt_Kn {d : Nat → Int} {f : Nat → Nat} (h : wt_S d f) {a b : Nat} (ha : a < 12) (hb : b < 12) {len : Int} (h1 : 1 ≤ len) (h2 : len ≤ 99) : ∀ n, n ≤ 144 → wt_K d f a b n (wt_L a b len d n) := by
  intro n
  induction n with
  | zero => intro _; exact wt_K0 h a b
  | succ n ih =>
    intro hn
    have K := ih (by omega)
    obtain ⟨c, hc⟩ : ∃ c : Nat → Int, c = wt_L a b len d n := ⟨_, rfl⟩
    rw [← hc] at K
    have hX : n / 12 < 12 := by omega
    have hY : n % 12 < 12 := by omega
    have hXY : 12 * (n / 12) + n % 12 = n := by omega
    have k0 := K (n / 12) (n % 12) hX hY
    rw [hXY] at k0
    have k1 := K (n / 12) a hX ha
    have k2 := K b (n % 12) hb hY
    have k3 := K (n / 12) b hX hb
    have k4 := K a (n % 12) ha hY
    have hcd : wt_cd c a b len n = wt_mn (c (12 * (n / 12) + a) + len + c (12 * b + n % 12)) (c (12 * (n / 12) + b) + len + c (12 * a + n % 12)) := rfl
    have hab := wt_un_ab f a b
    obtain ⟨v, hv⟩ : ∃ v : Int, v = wt_mn (wt_cd c a b len n) (c n) := ⟨_, rfl⟩
    have hle : v ≤ c n ∧ v ≤ c (12 * (n / 12) + a) + len + c (12 * b + n % 12) ∧ v ≤ c (12 * (n / 12) + b) + len + c (12 * a + n % 12) ∧ 0 ≤ v ∧ (v = c n ∨ v = c (12 * (n / 12) + a) + len + c (12 * b + n % 12) ∨ v = c (12 * (n / 12) + b) + len + c (12 * a + n % 12)) := by
      have m1 := wt_mn_cases (c (12 * (n / 12) + a) + len + c (12 * b + n % 12)) (c (12 * (n / 12) + b) + len + c (12 * a + n % 12))
      rw [← hcd] at m1
      have m2 := wt_mn_cases (wt_cd c a b len n) (c n)
      rw [← hv] at m2
      have z1 := k1.1
      have z2 := k2.1
      have z3 := k3.1
      have z4 := k4.1
      have z0 := k0.1
      omega
    have hnew : ∀ x y : Nat, x < 12 → y < 12 → 12 * x + y = n → x = n / 12 ∧ y = n % 12 := by
      intro x y hx hy e
      omega
    intro x y hx hy
    by_cases e : 12 * x + y = n
    · obtain ⟨rfl, rfl⟩ := hnew x y hx hy e
      rw [e, wt_L_at, ← hc, ← hv]
      have hcn : c n = d n := k0.2.2.1 (Nat.le_refl n)
      refine ⟨hle.2.2.2.1, by omega, fun w => by omega, fun q => ?_, fun _ q => ?_⟩
      · -- not joined
        have z0 := k0.2.2.2.1 q
        have p1 : 10000000 ≤ c (12 * (n / 12) + a) + len + c (12 * b + n % 12) := by
          by_cases w : wt_un f a b (n / 12) = wt_un f a b a
          · have w2 : wt_un f a b b ≠ wt_un f a b (n % 12) := fun z => q (w.trans (hab.trans z))
            have z1 := k2.2.2.2.1 w2
            have z2 := k1.1
            omega
          · have z1 := k1.2.2.2.1 w
            have z2 := k2.1
            omega
        have p2 : 10000000 ≤ c (12 * (n / 12) + b) + len + c (12 * a + n % 12) := by
          by_cases w : wt_un f a b (n / 12) = wt_un f a b b
          · have w2 : wt_un f a b a ≠ wt_un f a b (n % 12) := fun z => q (w.trans (hab.symm.trans z))
            have z1 := k4.2.2.2.1 w2
            have z2 := k3.1
            omega
          · have z1 := k3.2.2.2.1 w
            have z2 := k4.1
            omega
        omega
      · by_cases s : f (n / 12) = f (n % 12)
        · have z1 := ((h (n / 12) (n % 12) hX hY).1 s).2
          rw [hXY] at z1
          have z2 := wt_cn_more f a b (n / 12) 12
          omega
        · obtain ⟨hne, t⟩ := wt_un_two q s
          have hJ := wt_cn_join f a b hne 12
          rcases t with ⟨t1, t2⟩ | ⟨t1, t2⟩
          · have hu : wt_un f a b (n / 12) = f a := by
              show (if f (n / 12) = f b then f a else f (n / 12)) = f a
              rw [if_neg (fun w => hne (t1.symm.trans w)), t1]
            rw [hu, hJ]
            have z1 := ((h (n / 12) a hX ha).1 t1).2
            have z2 := ((h b (n % 12) hb hY).1 t2.symm).2
            rw [t1] at z1
            have z3 := k1.2.1
            have z4 := k2.2.1
            omega
          · have hu : wt_un f a b (n / 12) = f a := by
              show (if f (n / 12) = f b then f a else f (n / 12)) = f a
              rw [if_pos t1]
            rw [hu, hJ]
            have z1 := ((h (n / 12) b hX hb).1 t1).2
            have z2 := ((h a (n % 12) ha hY).1 t2.symm).2
            rw [t1] at z1
            have z3 := k3.2.1
            have z4 := k4.2.1
            omega
    · rw [wt_L_ne a b len d n _ e, ← hc]
      have k := K x y hx hy
      exact ⟨k.1, k.2.1, fun w => k.2.2.1 (by omega), k.2.2.2.1, fun w q => k.2.2.2.2 (by omega) q⟩
theorem wt_Sn {d : Nat → Int} {f : Nat → Nat} (h : wt_S d f) {a b : Nat} (ha : a < 12) (hb : b < 12) {len : Int} (h1 : 1 ≤ len) (h2 : len ≤ 99) : wt_S (wt_L a b len d 144) (wt_un f a b) := by
  have K := wt_Kn h ha hb h1 h2 144 (Nat.le_refl _)
  intro x y hx hy
  have k := K x y hx hy
  exact ⟨fun q => ⟨k.1, k.2.2.2.2 (by omega) q⟩, k.2.2.2.1⟩
def wt_rl (x m : Int) : Prop := (x ≤ 1089 ∧ m = x) ∨ (x = 10000000 ∧ m = 100000)
theorem wt_Kfin {d : Nat → Int} {f : Nat → Nat} (h : wt_S d f) {a b n : Nat} {c : Nat → Int} (K : wt_K d f a b n c) {x y : Nat} (hx : x < 12) (hy : y < 12) : 0 ≤ c (12 * x + y) ∧ (c (12 * x + y) ≤ 1089 ∨ c (12 * x + y) = 10000000) := by
  have k := K x y hx hy
  refine ⟨k.1, ?_⟩
  have z1 := wt_cn_le (wt_un f a b) (wt_un f a b x) 12
  have z2 := wt_cn_le f (f x) 12
  by_cases q : wt_un f a b x = wt_un f a b y
  · by_cases w : 12 * x + y < n
    · have := k.2.2.2.2 w q; omega
    · have e := k.2.2.1 (by omega)
      by_cases s : f x = f y
      · have := (h x y hx hy).1 s; omega
      · have := (h x y hx hy).2 s; omega
  · have := k.2.2.2.1 q; omega
theorem wt_R1 {A1 A2 A3 A4 B1 B2 B3 B4 len : Int} (h1 : 1 ≤ len) (h2 : len ≤ 99) (z1 : 0 ≤ A1) (z2 : 0 ≤ A2) (z3 : 0 ≤ A3) (z4 : 0 ≤ A4) (r1 : wt_rl A1 B1) (r2 : wt_rl A2 B2) (r3 : wt_rl A3 B3) (r4 : wt_rl A4 B4) : (wt_mn (A1 + len + A2) (A3 + len + A4) < 5000 ∧ wt_mn (B1 + len + B2) (B3 + len + B4) = wt_mn (A1 + len + A2) (A3 + len + A4) ∧ 0 ≤ wt_mn (A1 + len + A2) (A3 + len + A4)) ∨ (10000000 ≤ wt_mn (A1 + len + A2) (A3 + len + A4) ∧ 100000 ≤ wt_mn (B1 + len + B2) (B3 + len + B4)) := by
  have m1 := wt_mn_cases (A1 + len + A2) (A3 + len + A4)
  have m2 := wt_mn_cases (B1 + len + B2) (B3 + len + B4)
  unfold wt_rl at r1 r2 r3 r4
  omega
theorem wt_R2 {P Q A0 B0 : Int} (p : (P < 5000 ∧ Q = P ∧ 0 ≤ P) ∨ (10000000 ≤ P ∧ 100000 ≤ Q)) (r0 : wt_rl A0 B0) (k9 : 0 ≤ wt_mn P A0 ∧ (wt_mn P A0 ≤ 1089 ∨ wt_mn P A0 = 10000000)) : wt_rl (wt_mn P A0) (wt_mn Q B0) := by
  have m3 := wt_mn_cases P A0
  have m4 := wt_mn_cases Q B0
  unfold wt_rl at r0 ⊢
  omega
theorem wt_Rn {d m : Nat → Int} {f : Nat → Nat} (h : wt_S d f) {a b : Nat} (ha : a < 12) (hb : b < 12) {len : Int} (h1 : 1 ≤ len) (h2 : len ≤ 99) (hr : ∀ i, i < 144 → wt_rl (d i) (m i)) : ∀ n, n ≤ 144 → ∀ i, i < 144 → wt_rl (wt_L a b len d n i) (wt_L a b len m n i) := by
  intro n
  induction n with
  | zero => intro _ i hi; exact hr i hi
  | succ n ih =>
    intro hn i hi
    have R := ih (by omega)
    by_cases e : i = n
    · subst e
      have K := wt_Kn h ha hb h1 h2 i (by omega)
      have hX : i / 12 < 12 := by omega
      have hY : i % 12 < 12 := by omega
      have k9 := wt_Kfin h (wt_Kn h ha hb h1 h2 (i + 1) (by omega)) hX hY
      rw [show 12 * (i / 12) + i % 12 = i from by omega] at k9
      rw [wt_L_at] at k9
      rw [wt_L_at, wt_L_at]
      exact wt_R2 (wt_R1 h1 h2 (wt_Kfin h K hX ha).1 (wt_Kfin h K hb hY).1 (wt_Kfin h K hX hb).1 (wt_Kfin h K ha hY).1 (R (12 * (i / 12) + a) (by omega)) (R (12 * b + i % 12) (by omega)) (R (12 * (i / 12) + b) (by omega)) (R (12 * a + i % 12) (by omega))) (R i hi) k9
    · rw [wt_L_ne a b len d n i e, wt_L_ne a b len m n i e]
      exact R i hi
def wt_i0 (i : Nat) : Int := if i / 12 = i % 12 then 0 else 10000000
theorem wt_S00 : wt_S wt_i0 (fun z => z) := by
  intro x y hx hy
  have hc := wt_cn_pos (fun z => z) x 12 hx
  have hd : (12 * x + y) / 12 = x := by omega
  have hm : (12 * x + y) % 12 = y := by omega
  constructor
  · intro q
    have q1 : x = y := q
    have e : wt_i0 (12 * x + y) = 0 := by
      unfold wt_i0
      rw [hd, hm, if_pos q1]
    rw [e]
    show (0 : Int) ≤ 0 ∧ (0 : Int) ≤ 99 * ((wt_cn (fun z => z) x 12 : Nat) : Int) - 99
    have hc : 1 ≤ wt_cn (fun z => z) x 12 := hc
    exact ⟨by omega, by omega⟩
  · intro q
    have q1 : ¬ x = y := q
    unfold wt_i0
    rw [hd, hm, if_neg q1]
def wt_cI (n : Nat) (f : Nat → Int32) : Prop := (∀ j, j < n → (f j).toInt = wt_i0 j) ∧ ∀ j, 0 ≤ (f j).toInt ∧ (f j).toInt ≤ 10000000
def wt_fm (G : Nat → Int) (ms : Int32) (g : Nat → Int32) : Prop := (ms.toInt = 0 ∧ ∀ i, i < 144 → G i = wt_i0 i) ∨ (ms.toInt = 1 ∧ ∀ i, i < 144 → wt_rl (G i) (g i).toInt)
theorem wt_fm_eq {G : Nat → Int} {m m1 : Int32} {g g1 : Nat → Int32} (h : wt_fm G m g) (e1 : m1 = m) (e2 : g1 = g) : wt_fm G m1 g1 := by rw [e1, e2]; exact h
def wt_far (r a b : Int32) (G : Nat → Int) : Prop := ((a.toInt < 0 ∨ 11 < a.toInt ∨ b.toInt < 0 ∨ 11 < b.toInt) ∧ r = -1) ∨ (¬ (a.toInt < 0 ∨ 11 < a.toInt ∨ b.toInt < 0 ∨ 11 < b.toInt) ∧ ((G (12 * a.toInt.toNat + b.toInt.toNat) < 10000000 ∧ r.toInt = G (12 * a.toInt.toNat + b.toInt.toNat)) ∨ (10000000 ≤ G (12 * a.toInt.toNat + b.toInt.toNat) ∧ r = -2)))
def wt_sx (r : Int32) (g1 g : Nat → Int32) (a b v : Int32) : Prop := (r = 0 ∧ g1 = g) ∨ (r = 1 ∧ (fun i => (g1 i).toInt) = wt_L a.toInt.toNat b.toInt.toNat v.toInt (fun i => (g i).toInt) 144)
def wt_sm (r : Int32) (G : Nat → Int) (ms : Int32) (g : Nat → Int32) (a b v : Int32) : Prop := (r = 0 ∧ wt_fm G ms g) ∨ (r = 1 ∧ ms.toInt = 1 ∧ ∃ g0 : Nat → Int32, (∀ i, i < 144 → wt_rl (G i) (g0 i).toInt) ∧ (fun i => (g i).toInt) = wt_L a.toInt.toNat b.toInt.toNat v.toInt (fun i => (g0 i).toInt) 144)
theorem wt_street {r r2 a b v ms : Int32} {g1 g gm : Nat → Int32} (hp : r = 1 → 0 ≤ a.toInt ∧ a.toInt ≤ 11 ∧ 0 ≤ b.toInt ∧ b.toInt ≤ 11 ∧ 1 ≤ v.toInt ∧ v.toInt ≤ 99) (hx : wt_sx r g1 g a b v) (hm : wt_sm r2 (fun i => (g i).toInt) ms gm a b v) (e : r = r2) (hS : ∃ f, wt_S (fun i => (g i).toInt) f) : wt_fm (fun i => (g1 i).toInt) ms gm ∧ ∃ f, wt_S (fun i => (g1 i).toInt) f := by
  subst e
  obtain ⟨f, hS⟩ := hS
  rcases hx with ⟨h1, h2⟩ | ⟨h1, h2⟩ <;> rcases hm with ⟨k1, k2⟩ | ⟨k1, k2, g0, k3, k4⟩
  · rw [h2]; exact ⟨k2, f, hS⟩
  · exact absurd (h1.symm.trans k1) (by decide)
  · exact absurd (h1.symm.trans k1) (by decide)
  · have p := hp h1
    have ha : a.toInt.toNat < 12 := by omega
    have hb : b.toInt.toNat < 12 := by omega
    refine ⟨Or.inr ⟨k2, fun i hi => ?_⟩, wt_un f a.toInt.toNat b.toInt.toNat, ?_⟩
    · show wt_rl ((fun i => (g1 i).toInt) i) ((fun i => (gm i).toInt) i)
      rw [h2, k4]
      exact wt_Rn hS ha hb p.2.2.2.2.1 p.2.2.2.2.2 k3 144 (Nat.le_refl _) i hi
    · rw [h2]; exact wt_Sn hS ha hb p.2.2.2.2.1 p.2.2.2.2.2
set_option maxHeartbeats 4000000 in
set_option maxRecDepth 100000 in
theorem m_why (l : Launch) (dC : Nat → ClassId) (dI : Nat → Nat → Nat) (sz h : Nat) (ad : Nat → Nat) (cA : Nat → ClassId) (hd : dM h ad) (fv : Nat → Int32) (wd : Int64) (ar : Nat → Nat → Int32) (hF_fv : rF fv) (hA_ar : rA ar) : Met l yX12_why (.code yX12_why cX12_why 1 (some .int) :: lw_good) ({ frames := 2, cells := 0, slots := 0, locals := 40 }) (va_Pc [.ref h] (prM dC dI h ad cA fv wd ar sz)) (va_Qi (fun (r : Int32) (u : mS) => rF u.1 ∧ rA u.2.2 ∧ fM [0] fv u.1 ∧ fA [] ar u.2.2 ∧ True) (enM dC dI h ad cA) (aM h ad sz)) 0 0 (aM h ad sz) := by
  sorry
set_option maxHeartbeats 4000000 in
set_option maxRecDepth 100000 in
theorem m_seatedAt (l : Launch) (dC : Nat → ClassId) (dI : Nat → Nat → Nat) (sz h : Nat) (ad : Nat → Nat) (cA : Nat → ClassId) (hd : dM h ad) (fv : Nat → Int32) (wd : Int64) (ar : Nat → Nat → Int32) (hF_fv : rF fv) (hA_ar : rA ar) (a : Int32) : Met l yX12_seatedAt (.code yX12_seatedAt cX12_seatedAt 2 (some .int) :: lw_good) ({ frames := 2, cells := 0, slots := 0, locals := 40 }) (va_Pc [.ref h, .int a] (prM dC dI h ad cA fv wd ar sz)) (va_Qi (fun (r : Int32) (u : mS) => rF u.1 ∧ rA u.2.2 ∧ fM [0] fv u.1 ∧ fA [] ar u.2.2 ∧ True) (enM dC dI h ad cA) (aM h ad sz)) 0 0 (aM h ad sz) := by
  sorry
def sW (ar : Nat → Nat → Int32) : Prop := ∀ i : Nat, 1 ≤ (ar 68 i).toInt → (ar 68 i).toInt ≤ 3 → 0 ≤ (ar 71 i).toInt
theorem sW_fr {M : List Nat} {ar ar1 : Nat → Nat → Int32} (h : sW ar) (f : fA M ar ar1) (h1 : M.contains 68 = false) (h2 : M.contains 71 = false) : sW ar1 := by intro i; rw [f 68 h1, f 71 h2]; exact h i
def dl (x : Int32) : Int := if x.toInt = 12 then 0 else if x.toInt = 13 ∨ x.toInt = 14 then -1 else 1
def dQ (g : Nat → Int32) (f : Nat) : Nat → Int
  | 0 => 0
  | n + 1 => dQ g f n + dl (g (f + n))
def okP (x : Int32) (d : Int) : Prop := x.toInt ≤ 14 ∧ 0 ≤ d ∧ (x.toInt = 12 → 1 ≤ d) ∧ (x.toInt = 13 ∨ x.toInt = 14 → 2 ≤ d) ∧ (x.toInt < 12 → d ≤ 60)
def vP (g : Nat → Int32) (f t : Nat) : Prop := ∀ n : Nat, f + n < t → okP (g (f + n)) (dQ g f n)
def vM (fv : Nat → Int32) (ar : Nat → Nat → Int32) : Prop := ∀ b k : Nat, (b : Int) < (fv 58).toInt → (k : Int) < (ar 47 b).toInt → vP (ar 54) (120 * b + (ar 52 (16 * b + k)).toInt.toNat) (120 * b + (ar 53 (16 * b + k)).toInt.toNat)
theorem vM_fr {M N : List Nat} {fv fv1 : Nat → Int32} {ar ar1 : Nat → Nat → Int32} (h : vM fv ar) (f : fM M fv fv1) (a : fA N ar ar1) (h0 : M.contains 58 = false) (h1 : N.contains 47 = false) (h2 : N.contains 52 = false) (h3 : N.contains 53 = false) (h4 : N.contains 54 = false) : vM fv1 ar1 := by
  intro b k; rw [f 58 h0, a 47 h1, a 52 h2, a 53 h3, a 54 h4]; exact h b k
def w8 (k : Int) : Int := if k = 4 then 1 else if k = 3 then 8 else if k = 2 then 64 else if k = 1 then 512 else if k = 0 then 4096 else 32768
set_option maxHeartbeats 4000000 in
set_option maxRecDepth 100000 in
theorem x_why (l : Launch) (dC : Nat → ClassId) (dI : Nat → Nat → Nat) (sz : Nat) (ob ad : Nat → Nat) (cA : Nat → ClassId) (hd : dX ob ad) (fv : Nat → Int32) (wd : xT) (ar : Nat → Nat → Int32) (hF_fv : rX fv) (hA_ar : rB ar) : Met l yX11_why (.code yX11_why cX11_why 1 (some .int) :: lw_good) ({ frames := 2, cells := 0, slots := 0, locals := 40 }) (va_Pc [.ref (ob 0)] (prX dC dI ob ad cA fv wd ar sz)) (va_Qi (fun (r : Int32) (u : xS) => rX u.1 ∧ rB u.2.2 ∧ fM [] fv u.1 ∧ fA [] ar u.2.2 ∧ u.2.1.2 = wd.2 ∧ True) (enX dC dI ob ad cA) (aX ob ad sz)) 0 0 (aX ob ad sz) := by
  sorry
set_option maxHeartbeats 4000000 in
set_option maxRecDepth 100000 in
theorem x_seatedAt (l : Launch) (dC : Nat → ClassId) (dI : Nat → Nat → Nat) (sz : Nat) (ob ad : Nat → Nat) (cA : Nat → ClassId) (hd : dX ob ad) (fv : Nat → Int32) (wd : xT) (ar : Nat → Nat → Int32) (hF_fv : rX fv) (hA_ar : rB ar) (a : Int32) : Met l yX11_seatedAt (.code yX11_seatedAt cX11_seatedAt 2 (some .int) :: lw_good) ({ frames := 2, cells := 0, slots := 0, locals := 40 }) (va_Pc [.ref (ob 0), .int a] (prX dC dI ob ad cA fv wd ar sz)) (va_Qi (fun (r : Int32) (u : xS) => rX u.1 ∧ rB u.2.2 ∧ fM [] fv u.1 ∧ fA [] ar u.2.2 ∧ u.2.1.2 = wd.2 ∧ True) (enX dC dI ob ad cA) (aX ob ad sz)) 0 0 (aX ob ad sz) := by
  sorry
def lwC (la : Nat) (lfr : Int32) (lra : Nat → Nat) (lrc : Nat → ClassId) (lln lcn : Nat) (llr : Nat → Nat → Int32) : va_W := [(la, .inr (1, [.int lfr, .ref (lra 1), .ref (lra 2), .ref (lra 3), .ref (lra 4), .ref (lra 5), .ref (lra 6)])), (lra 1, .inl (lrc 1, lln, .inl (llr 1))), (lra 2, .inl (lrc 2, lln, .inl (llr 2))), (lra 3, .inl (lrc 3, lln, .inl (llr 3))), (lra 4, .inl (lrc 4, lcn, .inl (llr 4))), (lra 5, .inl (lrc 5, lcn, .inl (llr 5))), (lra 6, .inl (lrc 6, lcn, .inl (llr 6)))]
def lwTy (lrc : Nat → ClassId) : List (ClassId × FieldType) := [(lrc 1, .int), (lrc 2, .int), (lrc 3, .int), (lrc 4, .int), (lrc 5, .int), (lrc 6, .int)]
def lwQ (lln lcn : Nat) (llr : Nat → Nat → Int32) : Prop := lln ≤ 16 ∧ lcn ≤ 100 ∧ ∀ i : Nat, (0 ≤ (llr 3 i).toInt ∧ (llr 3 i).toInt ≤ (lcn : Int)) ∧ (0 ≤ (llr 5 i).toInt ∧ (llr 5 i).toInt ≤ 11)
def lwA (dC : Nat → ClassId) (dI : Nat → Nat → Nat) (ob ad : Nat → Nat) (la : Nat) (lfr : Int32) (lra : Nat → Nat) (lrc : Nat → ClassId) (lln lcn : Nat) (llr : Nat → Nat → Int32) (sz : Nat) (U : State) : Prop := va_P (dC, dI) vwCl (lwC la lfr lra lrc lln lcn llr) U.heap ∧ va_K (dC, dI) vwCl (lwTy lrc) U ∧ ∀ (k : Nat) (q : Nat × va_E), (lwC la lfr lra lrc lln lcn llr)[k]? = some q → ¬ aX ob ad sz q.1
theorem my_tr {p : Program} {l : Launch} {e : Env} {R : Room} {s : State} {m : MethodId} {args : Array Value} {below : List Frame} {meth : Method} {c : Code} {H : Heap} {locs : List Loc} {cells slots : Nat} {Q : State → Prop} {pc : Nat} {ls : Array Slot} {rest : List Value} {x w : Nat} (h : x = w) (k : W p l e R s m args below meth c H locs cells slots Q (F0 m pc ls (.ref w :: rest))) : W p l e R s m args below meth c H locs cells slots Q (F0 m pc ls (.ref x :: rest)) := by subst h; exact k
def lsA (dC : Nat → ClassId) (dI : Nat → Nat → Nat) (ob ad : Nat → Nat) (gla : Nat → Nat) (gfr : Nat → Int32) (gra : Nat → Nat → Nat) (grc : Nat → Nat → ClassId) (gln gcn : Nat → Nat) (glr : Nat → Nat → Nat → Int32) (ce : ClassId) (ef : Nat → Option Nat) (n : Int) (ed sz : Nat) (U : State) : Prop := gla 0 = ob 12 ∧ (∀ i : Nat, (i : Int) ≤ n → lwQ (gln i) (gcn i) (glr i) ∧ lwA dC dI ob ad (gla i) (gfr i) (gra i) (grc i) (gln i) (gcn i) (glr i) sz U) ∧ (0 < n → (va_P (dC, dI) vwCl [(ed, .inl (ce, 10, .inr (.inr (.inr (.inr ef)))))] U.heap ∧ va_K (dC, dI) vwCl [(ce, .object "java/lang/Object")] U ∧ ¬ aX ob ad sz ed) ∧ ∀ i : Nat, (i : Int) < n → ef i = some (gla (i + 1)))
theorem ls_one {D : va_G} {ed : Nat} {x : va_E} {H H1 : Heap} (h : va_P D vwCl [(ed, x)] H) (hk : H1[ed]? = H[ed]?) : va_P D vwCl [(ed, x)] H1 := h.kept (fun k q hq => by cases k with | zero => cases hq; exact hk | succ k => simp at hq)
theorem ls_lt {D : va_G} {ed : Nat} {x : va_E} {H : Heap} (h : va_P D vwCl [(ed, x)] H) : ed < H.size := (h 0 _ rfl).lt
theorem ls_mv {dC : Nat → ClassId} {dI : Nat → Nat → Nat} {ob ad : Nat → Nat} {gla : Nat → Nat} {gfr : Nat → Int32} {gra : Nat → Nat → Nat} {grc : Nat → Nat → ClassId} {gln gcn : Nat → Nat} {glr : Nat → Nat → Nat → Int32} {ce : ClassId} {ef : Nat → Option Nat} {n : Int} {ed : Nat} {sz : Nat} {u U : State} (hU : U.heap = u.heap) (hv : u.vm.Alike U.vm) (h : lsA dC dI ob ad gla gfr gra grc gln gcn glr ce ef n ed sz u) : lsA dC dI ob ad gla gfr gra grc gln gcn glr ce ef n ed sz U := ⟨h.1, fun i hi => ⟨(h.2.1 i hi).1, by rw [hU]; exact (h.2.1 i hi).2.1, va_K.moved hv (h.2.1 i hi).2.2.1, (h.2.1 i hi).2.2.2⟩, fun hn => ⟨⟨by rw [hU]; exact (h.2.2 hn).1.1, va_K.moved hv (h.2.2 hn).1.2.1, (h.2.2 hn).1.2.2⟩, (h.2.2 hn).2⟩⟩
def tkN : List String := ["CARRY", "STOP", "FARE", "HOLD", "FINE", "GAS", "DOCK", "CAR", "WAGON", "TAXI", "INSURED", "RIDERS", "SEATS", "RAIN", "MINUTE", "DAY", "FROM", "TO", "TIMES", "LESS", "EQUAL", "MORE", "NOT", "IF", "AND", "OR", "SEMICOLON", "OPEN", "CLOSE", "NUMBER", "END", "WRONG"]
abbrev tkrole : String × String × String × List Int32 := ("WalkingTown$Token", "role", "I", [0, 0, 1, 1, 1, 1, 1, 2, 2, 2, 2, 3, 3, 3, 3, 3, 3, 3, 3, 4, 4, 4, 5, 5, 5, 5, 5, 5, 5, 5, 5, 5])
abbrev tkcode : String × String × String × List Int32 := ("WalkingTown$Token", "code", "I", [0, 1, 2, 3, 4, 5, 6, 0, 1, 2, 3, 4, 5, 6, 7, 8, 9, 10, 11, 0, 1, 2, 0, 0, 0, 0, 0, 0, 0, 0, 0, 0])
def tkF : List (String × String × String × List Int32) := [tkrole, tkcode]
def tkA (ob ad tA : Nat → Nat) (sz : Nat) (U : State) : Prop := va_En RX6 "LWalkingTown$Token;" tkN tkF tA (aX ob ad sz) U U.heap
theorem tk_mv {ob ad tA : Nat → Nat} {sz : Nat} {u U : State} (hU : U.heap = u.heap) (hv : u.vm.Alike U.vm) (h : tkA ob ad tA sz u) : tkA ob ad tA sz U := by unfold tkA; rw [hU]; exact va_En.moved hv h
def tO (tA : Nat → Nat) (f : Nat → Option Nat) : Prop := ∀ i v, f i = some v → ∃ j, j < 32 ∧ v = tA j
set_option maxHeartbeats 4000000 in
set_option maxRecDepth 100000 in
theorem x_nextE (l : Launch) (dC : Nat → ClassId) (dI : Nat → Nat → Nat) (sz : Nat) (ob ad : Nat → Nat) (cA : Nat → ClassId) (hd : dX ob ad) (fv : Nat → Int32) (wd : xT) (ar : Nat → Nat → Int32) (hF_fv : rX fv) (hA_ar : rB ar) (n : Int32) : Met l yX11_next (.code yX11_next cX11_next 2 (some .int) :: lw_good) ({ frames := 2, cells := 0, slots := 0, locals := 40 }) (va_Pc [.ref (ob 0), .int n] (prX dC dI ob ad cA fv wd ar sz)) (va_Qi (fun (r : Int32) (u : xS) => rX u.1 ∧ rB u.2.2 ∧ fM [7] fv u.1 ∧ fA [] ar u.2.2 ∧ u.2.1.2 = wd.2 ∧ ((r = -1 ∧ u.1 7 = fv 7 ∧ (n.toInt < 0 ∨ 199 < n.toInt ∨ 199 < (fv 7).toInt + n.toInt)) ∨ (r = fv 7 + n ∧ u.1 7 = fv 7 + n ∧ ¬ (n.toInt < 0 ∨ 199 < n.toInt ∨ 199 < (fv 7).toInt + n.toInt))) ∧ True) (enX dC dI ob ad cA) (aX ob ad sz)) 0 0 (aX ob ad sz) := by
  sorry
set_option maxHeartbeats 4000000 in
set_option maxRecDepth 100000 in
theorem m_nextE (l : Launch) (dC : Nat → ClassId) (dI : Nat → Nat → Nat) (sz h : Nat) (ad : Nat → Nat) (cA : Nat → ClassId) (hd : dM h ad) (fv : Nat → Int32) (wd : Int64) (ar : Nat → Nat → Int32) (hF_fv : rF fv) (hA_ar : rA ar) (n : Int32) : Met l yX12_next (.code yX12_next cX12_next 2 (some .int) :: lw_good) ({ frames := 3, cells := 0, slots := 0, locals := 62 }) (va_Pc [.ref h, .int n] (prM dC dI h ad cA fv wd ar sz)) (va_Qi (fun (r : Int32) (u : mS) => rF u.1 ∧ rA u.2.2 ∧ fM [0, 3] fv u.1 ∧ fA [] ar u.2.2 ∧ ((r = -1 ∧ u.1 3 = fv 3 ∧ (n.toInt < 0 ∨ 199 < n.toInt ∨ 199 < (fv 3).toInt + n.toInt)) ∨ (r = fv 3 + n ∧ u.1 3 = fv 3 + n ∧ ¬ (n.toInt < 0 ∨ 199 < n.toInt ∨ 199 < (fv 3).toInt + n.toInt))) ∧ True) (enM dC dI h ad cA) (aM h ad sz)) 0 0 (aM h ad sz) := by
  sorry
def stA (ak av ln : Nat) (bt : Nat → Int32) (A : Nat → Prop) (U : State) : Prop := (va_O "java/lang/String" ak A U U.heap ∧ va_OF "java/lang/String" "coder" "B" (.int 0) ak A U U.heap ∧ va_OF "java/lang/String" "value" "[B" (.ref av) ak A U U.heap ∧ va_T .byte av ln (fun j => .int (bt j)) A U U.heap ∧ va_Z "java/lang/String" "COMPACT_STRINGS" "Z" (.int 1) A U U.heap ∧ va_Zq "jdk/internal/util/Preconditions" "SIOOBE_FORMATTER" "Ljava/util/function/BiFunction;" A U U.heap) ∧ ln ≤ 8
theorem st_mv {ak av ln : Nat} {bt : Nat → Int32} {A : Nat → Prop} {u U : State} (hU : U.heap = u.heap) (hv : u.vm.Alike U.vm) (h : stA ak av ln bt A u) : stA ak av ln bt A U := by
  refine ⟨?_, h.2⟩
  rw [hU]
  exact ⟨va_O.moved hv h.1.1, va_OF.moved hv h.1.2.1, va_OF.moved hv h.1.2.2.1, va_T.moved hv h.1.2.2.2.1, va_Z.moved hv h.1.2.2.2.2.1, va_Zq.moved hv h.1.2.2.2.2.2⟩
theorem st_pass {ak av ln : Nat} {bt : Nat → Int32} {A B : Nat → Prop} {s U : State} {H : Heap} {locs : List Loc} (h : stA ak av ln bt A s) (hS : va_S A s.heap H locs) (hU : U.heap = H) (hv : s.vm.Alike U.vm) (hB : ∀ q, B q → A q) : stA ak av ln bt B U := by
  refine ⟨?_, h.2⟩
  rw [hU]
  exact ⟨va_O.moved hv ((h.1.1.kept hS.2.1).narrow hB), va_OF.moved hv ((h.1.2.1.kept hS.2.1).narrow hB), va_OF.moved hv ((h.1.2.2.1.kept hS.2.1).narrow hB), va_T.moved hv ((h.1.2.2.2.1.kept hS.2.1).narrow hB), va_Z.moved hv ((h.1.2.2.2.2.1.kept hS.2.1).narrow hB), va_Zq.moved hv ((h.1.2.2.2.2.2.kept hS.2.1).narrow hB)⟩
def txA (ob ad tA tkK tkV tkL : Nat → Nat) (tkB : Nat → Nat → Int32) (tkT sz : Nat) (U : State) : Prop := va_Z "WalkingTown$Reader" "TOKENS" "[LWalkingTown$Token;" (.ref tkT) (aX ob ad sz) U U.heap ∧ va_T (.object "WalkingTown$Token") tkT 32 (fun j => .ref (tA j)) (aX ob ad sz) U U.heap ∧ ∀ j, j < 32 → va_OF "WalkingTown$Token" "text" "Ljava/lang/String;" (.ref (tkK j)) (tA j) (aX ob ad sz) U U.heap ∧ stA (tkK j) (tkV j) (tkL j) (tkB j) (aX ob ad sz) U
theorem tx_mv {ob ad tA tkK tkV tkL : Nat → Nat} {tkB : Nat → Nat → Int32} {tkT sz : Nat} {u U : State} (hU : U.heap = u.heap) (hv : u.vm.Alike U.vm) (h : txA ob ad tA tkK tkV tkL tkB tkT sz u) : txA ob ad tA tkK tkV tkL tkB tkT sz U := by
  refine ⟨?_, ?_, fun j hj => ⟨?_, st_mv hU hv (h.2.2 j hj).2⟩⟩
  · rw [hU]; exact va_Z.moved hv h.1
  · rw [hU]; exact va_T.moved hv h.2.1
  · rw [hU]; exact va_OF.moved hv (h.2.2 j hj).1
def ntH {α : Type} (d : α) : List α → Nat → α
  | [], _ => d
  | a :: _, 0 => a
  | _ :: t, k + 1 => ntH d t k
def fvX0 : Nat → Int32 := fun k => if k = 1 then -1 else if k = 3 then -1 else 0
def wdX0 (ob : Nat → Nat) (tD : Nat) : xT := (fun _ => 0, fun _ => none, ob 12, tD)
def arX0 (fL : Nat → Int32) : Nat → Nat → Int32 := fun k => if k = 5 then fL else fun _ => 0
set_option maxHeartbeats 4000000 in
set_option maxRecDepth 100000 in
theorem x_WT_init (l : Launch) (dC : Nat → ClassId) (dI : Nat → Nat → Nat) (sz : Nat) (tD : Nat) (xX : Nat) : Met l yX11_init (.code yX11_init cX11_init 1 none :: lw_good) ({ frames := 12, cells := 92, slots := 6024, locals := 400 }) (va_Pc [.ref xX] (fun U => U.heap.size = sz ∧ va_P (dC, dI) vwCl [(xX, .inr (11, [.null, .int 0, .null, .null, .null, .null, .int 0, .int 0, .int 0]))] U.heap ∧ va_K (dC, dI) vwCl [] U ∧ va_D (fun _ => True) [(xX, .inr (11, [.null, .int 0, .null, .null, .null, .null, .int 0, .int 0, .int 0]))] ∧ va_Z "java/util/ArrayList" "DEFAULTCAPACITY_EMPTY_ELEMENTDATA" "[Ljava/lang/Object;" (.ref tD) (va_A [(xX, .inr (11, [.null, .int 0, .null, .null, .null, .null, .int 0, .int 0, .int 0]))] sz) U U.heap ∧ va_AO RX6 U)) (va_Qv (fun (_ : Unit) => True) (fun (_ : Unit) (t : State) => ∃ (ob : Nat → Nat), ∃ (ad : Nat → Nat), ∃ (cA : Nat → ClassId), ∃ (fL : Nat → Int32), ∃ (nr : Nat → Nat), ∃ (nc : Nat → ClassId), ob 0 = xX ∧ wt_cI 144 fL ∧ va_P (dC, dI) vwCl (wsX ob ad cA fvX0 (wdX0 ob tD) (arX0 fL) ++ lwC (ob 12) 0 nr nc 0 0 (fun _ _ => 0)) t.heap ∧ va_K (dC, dI) vwCl (tyX cA ++ lwTy nc) t ∧ va_D (va_A [(xX, .inr (11, [.null, .int 0, .null, .null, .null, .null, .int 0, .int 0, .int 0]))] sz) (wsX ob ad cA fvX0 (wdX0 ob tD) (arX0 fL) ++ lwC (ob 12) 0 nr nc 0 0 (fun _ _ => 0))) (va_A [(xX, .inr (11, [.null, .int 0, .null, .null, .null, .null, .int 0, .int 0, .int 0]))] sz)) 92 6024 (va_A [(xX, .inr (11, [.null, .int 0, .null, .null, .null, .null, .int 0, .int 0, .int 0]))] sz) := by
  sorry
def fvM0 : Nat → Int32 := fun k => if k = 66 then (-1) else if k = 67 then (-1) else if k = 86 then (-1) else 0
set_option maxHeartbeats 8000000 in
set_option maxRecDepth 100000 in
theorem m_init (l : Launch) (dC : Nat → ClassId) (dI : Nat → Nat → Nat) (sz : Nat) (h0 : Nat) : Met l yX12_init (.code yX12_init cX12_init 1 none :: lw_good) ({ frames := 2, cells := 61, slots := 8064, locals := 60 }) (va_Pc [.ref h0] (fun U => U.heap.size = sz ∧ va_P (dC, dI) vwCl [(h0, .inr (12, [.int 0, .null, .int 0, .int 0, .null, .null, .int 0, .int 0, .int 0, .null, .null, .null, .null, .null, .null, .null, .null, .null, .null, .null, .null, .null, .null, .null, .null, .null, .null, .null, .null, .null, .null, .null, .int 0, .int 0, .int 0, .int 0, .int 0, .int 0, .int 0, .int 0, .int 0, .int 0, .int 0, .int 0, .int 0, .int 0, .long 0, .null, .null, .null, .null, .null, .null, .null, .null, .null, .null, .null, .int 0, .int 0, .int 0, .int 0, .int 0, .int 0, .null, .null, .int 0, .int 0, .null, .null, .null, .null, .null, .null, .null, .null, .null, .null, .null, .null, .null, .null, .null, .null, .int 0, .int 0, .int 0, .int 0, .null, .int 0, .null, .null, .null, .null, .null, .int 0]))] U.heap ∧ va_K (dC, dI) vwCl [] U ∧ va_D (fun _ => True) [(h0, .inr (12, [.int 0, .null, .int 0, .int 0, .null, .null, .int 0, .int 0, .int 0, .null, .null, .null, .null, .null, .null, .null, .null, .null, .null, .null, .null, .null, .null, .null, .null, .null, .null, .null, .null, .null, .null, .null, .int 0, .int 0, .int 0, .int 0, .int 0, .int 0, .int 0, .int 0, .int 0, .int 0, .int 0, .int 0, .int 0, .int 0, .long 0, .null, .null, .null, .null, .null, .null, .null, .null, .null, .null, .null, .int 0, .int 0, .int 0, .int 0, .int 0, .int 0, .null, .null, .int 0, .int 0, .null, .null, .null, .null, .null, .null, .null, .null, .null, .null, .null, .null, .null, .null, .null, .null, .int 0, .int 0, .int 0, .int 0, .null, .int 0, .null, .null, .null, .null, .null, .int 0]))])) (va_Qv (fun (_ : Unit) => True) (fun (_ : Unit) (t : State) => ∃ (ad : Nat → Nat) (cA : Nat → ClassId), va_P (dC, dI) vwCl (wsM h0 ad cA fvM0 0 (fun _ _ => 0)) t.heap ∧ va_K (dC, dI) vwCl (tyM cA) t ∧ va_D (va_A [(h0, .inr (12, [.int 0, .null, .int 0, .int 0, .null, .null, .int 0, .int 0, .int 0, .null, .null, .null, .null, .null, .null, .null, .null, .null, .null, .null, .null, .null, .null, .null, .null, .null, .null, .null, .null, .null, .null, .null, .int 0, .int 0, .int 0, .int 0, .int 0, .int 0, .int 0, .int 0, .int 0, .int 0, .int 0, .int 0, .int 0, .int 0, .long 0, .null, .null, .null, .null, .null, .null, .null, .null, .null, .null, .null, .int 0, .int 0, .int 0, .int 0, .int 0, .int 0, .null, .null, .int 0, .int 0, .null, .null, .null, .null, .null, .null, .null, .null, .null, .null, .null, .null, .null, .null, .null, .null, .int 0, .int 0, .int 0, .int 0, .null, .int 0, .null, .null, .null, .null, .null, .int 0]))] sz) (wsM h0 ad cA fvM0 0 (fun _ _ => 0))) (va_A [(h0, .inr (12, [.int 0, .null, .int 0, .int 0, .null, .null, .int 0, .int 0, .int 0, .null, .null, .null, .null, .null, .null, .null, .null, .null, .null, .null, .null, .null, .null, .null, .null, .null, .null, .null, .null, .null, .null, .null, .int 0, .int 0, .int 0, .int 0, .int 0, .int 0, .int 0, .int 0, .int 0, .int 0, .int 0, .int 0, .int 0, .int 0, .long 0, .null, .null, .null, .null, .null, .null, .null, .null, .null, .null, .null, .int 0, .int 0, .int 0, .int 0, .int 0, .int 0, .null, .null, .int 0, .int 0, .null, .null, .null, .null, .null, .null, .null, .null, .null, .null, .null, .null, .null, .null, .null, .null, .int 0, .int 0, .int 0, .int 0, .null, .int 0, .null, .null, .null, .null, .null, .int 0]))] sz)) 61 8064 (va_A [(h0, .inr (12, [.int 0, .null, .int 0, .int 0, .null, .null, .int 0, .int 0, .int 0, .null, .null, .null, .null, .null, .null, .null, .null, .null, .null, .null, .null, .null, .null, .null, .null, .null, .null, .null, .null, .null, .null, .null, .int 0, .int 0, .int 0, .int 0, .int 0, .int 0, .int 0, .int 0, .int 0, .int 0, .int 0, .int 0, .int 0, .int 0, .long 0, .null, .null, .null, .null, .null, .null, .null, .null, .null, .null, .null, .int 0, .int 0, .int 0, .int 0, .int 0, .int 0, .null, .null, .int 0, .int 0, .null, .null, .null, .null, .null, .null, .null, .null, .null, .null, .null, .null, .null, .null, .null, .null, .int 0, .int 0, .int 0, .int 0, .null, .int 0, .null, .null, .null, .null, .null, .int 0]))] sz) := by
  sorry
theorem my_right {D : va_G} {cl : List vw_C} {w1 w2 : va_W} {H : Heap} (h : va_P D cl (w1 ++ w2) H) : va_P D cl w2 H := fun k q hk => h (w1.length + k) q (by rw [List.getElem?_append_right (Nat.le_add_right _ _), Nat.add_sub_cancel_left]; exact hk)
theorem my_left {D : va_G} {cl : List vw_C} {w1 w2 : va_W} {H : Heap} (h : va_P D cl (w1 ++ w2) H) : va_P D cl w1 H := fun k q hk => h k q (by rw [List.getElem?_append_left (List.getElem?_eq_some_iff.mp hk).1]; exact hk)
theorem my_Dright {A : Nat → Prop} {w1 w2 : va_W} (h : va_D A (w1 ++ w2)) : va_D A w2 := by
  have f : ∀ (k : Nat) (q : Nat × va_E), w2[k]? = some q → (w1 ++ w2)[w1.length + k]? = some q := fun k q hk => by rw [List.getElem?_append_right (Nat.le_add_right _ _), Nat.add_sub_cancel_left]; exact hk
  exact ⟨fun i j p q hi hj e => by have := h.1 _ _ p q (f i p hi) (f j q hj) e; omega, fun k q hk => h.2 _ q (f k q hk)⟩
theorem ntH_all {α : Type} {P : α → Prop} {d : α} (hd : P d) : ∀ (l : List α), (∀ x ∈ l, P x) → ∀ j, P (ntH d l j)
  | [], _, _ => hd
  | a :: t, h, 0 => h a (List.mem_cons_self)
  | a :: t, h, j + 1 => ntH_all hd t (fun x hx => h x (List.mem_cons_of_mem _ hx)) j
theorem lw_all {P : Nat → Prop} {la : Nat} {lfr : Int32} {lra : Nat → Nat} {lrc : Nat → ClassId} {lln lcn : Nat} {llr : Nat → Nat → Int32} (h0 : P la) (h1 : ∀ j, P (lra j)) : ∀ (k : Nat) (q : Nat × va_E), (lwC la lfr lra lrc lln lcn llr)[k]? = some q → P q.1 := by
  intro k q hk
  match k, hk with
  | 0, hk => cases hk; exact h0
  | 1, hk => cases hk; exact h1 1
  | 2, hk => cases hk; exact h1 2
  | 3, hk => cases hk; exact h1 3
  | 4, hk => cases hk; exact h1 4
  | 5, hk => cases hk; exact h1 5
  | 6, hk => cases hk; exact h1 6
  | k + 7, hk => simp [lwC] at hk
def lsN (P : Nat → Prop) (gla : Nat → Nat) (gra : Nat → Nat → Nat) (n : Int) : Prop := ∀ i : Nat, (i : Int) ≤ n → P (gla i) ∧ ∀ j : Nat, P (gra i j)
theorem my_adlt {dC : Nat → ClassId} {dI : Nat → Nat → Nat} {ob ad : Nat → Nat} {cA : Nat → ClassId} {fv : Nat → Int32} {wd : xT} {ar : Nat → Nat → Int32} {H : Heap} (hP : va_P (dC, dI) vwCl (wsX ob ad cA fv wd ar) H) {k q : Nat} (hk : (adX ob ad)[k]? = some q) : q < H.size := by
  have e : adX ob ad = (wsX ob ad cA fv wd ar).map (fun q => q.1) := rfl
  rw [e, List.getElem?_map] at hk
  cases hc : (wsX ob ad cA fv wd ar)[k]? with
  | none => rw [hc] at hk; cases hk
  | some c => rw [hc] at hk; cases hk; exact (hP k c hc).lt
theorem kw_of : (.codeWith yL_of cL_of 5 (some .int) [(0, 10, 13, 13)] : Cond) ∈ lw_good := lwg (lwT6 (List.mem_of_getElem? (i := 66) rfl)) rfl
set_option maxHeartbeats 4000000 in
set_option maxRecDepth 100000 in
theorem l_of (l : Launch) (dC : Nat → ClassId) (dI : Nat → Nat → Nat) (sz : Nat) (ob ad : Nat → Nat) (cA : Nat → ClassId) (hd : dX ob ad) (fv : Nat → Int32) (wd : xT) (ar : Nat → Nat → Int32) (hF_fv : rX fv) (hA_ar : rB ar) (sN : Nat) (a b : Int32) (yO : Nat) (kO : ClassId) (fO : Nat → Int64) (hyO : ¬ aX ob ad sz yO) (hl0 : l.stackTraces = false) : Met l yL_of (.codeWith yL_of cL_of 5 (some .int) [(0, 10, 13, 13)] :: lw_good) ({ frames := 14, cells := 1, slots := 6, locals := 400 }) (va_Pc [.ref (ob 0), .int a, .int b, .ref yO] (fun U => prX dC dI ob ad cA fv wd ar sz U ∧ va_P (dC, dI) vwCl [(yO, .inl (kO, 1, .inr (.inl fO)))] U.heap ∧ va_K (dC, dI) vwCl [(kO, .long)] U ∧ vx_Zq Bundle.tN "UNASSIGNED_STACK" Bundle.steD (fun q => aX ob ad sz q ∨ q = yO) U U.heap ∧ vx_Zq Bundle.tN "SUPPRESSED_SENTINEL" Bundle.listD (fun q => aX ob ad sz q ∨ q = yO) U U.heap ∧ vk_R RX11 209 "no such person, or nothing such is told" sN U ∧ va_Nw (.castable ne_N ne_N) U ∧ va_Nw (.declares (Bundle.initS "java/lang/RuntimeException")) U ∧ va_Nw (.declares (Bundle.initS "java/lang/Exception")) U ∧ va_Nw (.declares (Bundle.initS "java/lang/Throwable")) U)) (va_Qi (fun (r : Int32) (u : xS) => rX u.1 ∧ rB u.2.2 ∧ fM [] fv u.1 ∧ fA [] ar u.2.2 ∧ u.2.1.2 = wd.2) (fun (u : xS) (t : State) => enX dC dI ob ad cA u t ∧ ∃ f9 : Nat → Int64, va_P (dC, dI) vwCl [(yO, .inl (kO, 1, .inr (.inl f9)))] t.heap ∧ va_K (dC, dI) vwCl [(kO, .long)] t) (fun q => aX ob ad sz q ∨ q = yO)) 1 6 (fun q => aX ob ad sz q ∨ q = yO) := by
  sorry
def ps_next (r f1 fx n : Int32) : Prop := (r = -1 ∧ f1 = fx ∧ (n.toInt < 0 ∨ 199 < n.toInt ∨ 199 < fx.toInt + n.toInt)) ∨ (r = fx + n ∧ f1 = fx + n ∧ ¬ (n.toInt < 0 ∨ 199 < n.toInt ∨ 199 < fx.toInt + n.toInt))
theorem ps_next_det {r f1 fx n r2 g1 : Int32} (hx : ps_next r f1 fx n) (hm : ps_next r2 g1 fx n) : r = r2 ∧ f1 = g1 := by
  rcases hx with ⟨a9, b9, c9⟩ | ⟨a9, b9, c9⟩ <;> rcases hm with ⟨a8, b8, c8⟩ | ⟨a8, b8, c8⟩
  · exact ⟨a9.trans a8.symm, b9.trans b8.symm⟩
  · exact absurd c9 c8
  · exact absurd c8 c9
  · exact ⟨a9.trans a8.symm, b9.trans b8.symm⟩
def ps_stop (r f1 fx v : Int32) : Prop := (r = -1 ∧ f1 = fx ∧ (v.toInt < 0 ∨ 11 < v.toInt ∨ 8 ≤ fx.toInt)) ∨ (r.toInt = fx.toInt ∧ f1.toInt = fx.toInt + 1 ∧ ¬ (v.toInt < 0 ∨ 11 < v.toInt ∨ 8 ≤ fx.toInt))
theorem ps_stop_det {r f1 fx v r2 g1 : Int32} (hx : ps_stop r f1 fx v) (hm : ps_stop r2 g1 fx v) : r = r2 ∧ f1 = g1 := by
  rcases hx with ⟨a9, b9, c9⟩ | ⟨a9, b9, c9⟩ <;> rcases hm with ⟨a8, b8, c8⟩ | ⟨a8, b8, c8⟩
  · exact ⟨a9.trans a8.symm, b9.trans b8.symm⟩
  · exact absurd c9 c8
  · exact absurd c8 c9
  · exact ⟨Int32.toInt_inj.mp (a9.trans a8.symm), Int32.toInt_inj.mp (b9.trans b8.symm)⟩
def ps_end (r f1 fx n : Int32) : Prop := (r = 0 ∧ f1 = fx ∧ (n.toInt < 0 ∨ fx.toInt < n.toInt)) ∨ (r = 1 ∧ f1 = n ∧ ¬ (n.toInt < 0 ∨ fx.toInt < n.toInt))
theorem ps_end_det {r f1 fx n r2 g1 : Int32} (hx : ps_end r f1 fx n) (hm : ps_end r2 g1 fx n) : r = r2 ∧ f1 = g1 := by
  rcases hx with ⟨a9, b9, c9⟩ | ⟨a9, b9, c9⟩ <;> rcases hm with ⟨a8, b8, c8⟩ | ⟨a8, b8, c8⟩
  · exact ⟨a9.trans a8.symm, b9.trans b8.symm⟩
  · exact absurd c9 c8
  · exact absurd c8 c9
  · exact ⟨a9.trans a8.symm, b9.trans b8.symm⟩
def ps_feed (r f1 fx : Int32) : Prop := (r = -1 ∧ f1 = fx ∧ 320 < fx.toInt) ∨ (r.toInt = f1.toInt ∧ f1.toInt = fx.toInt + 20 ∧ ¬ 320 < fx.toInt)
theorem ps_feed_det {r f1 fx r2 g1 : Int32} (hx : ps_feed r f1 fx) (hm : ps_feed r2 g1 fx) : r = r2 ∧ f1 = g1 := by
  rcases hx with ⟨a9, b9, c9⟩ | ⟨a9, b9, c9⟩ <;> rcases hm with ⟨a8, b8, c8⟩ | ⟨a8, b8, c8⟩
  · exact ⟨a9.trans a8.symm, b9.trans b8.symm⟩
  · exact absurd c9 c8
  · exact absurd c8 c9
  · have e9 := Int32.toInt_inj.mp (b9.trans b8.symm)
    exact ⟨Int32.toInt_inj.mp (by rw [a9, a8, e9]), e9⟩
def ps_street (r f1 fx a b v : Int32) : Prop := (r = 0 ∧ f1 = fx ∧ (30 ≤ fx.toInt ∨ a.toInt < 0 ∨ 11 < a.toInt ∨ b.toInt < 0 ∨ 11 < b.toInt ∨ a.toInt = b.toInt ∨ v.toInt < 1 ∨ 99 < v.toInt)) ∨ (r = 1 ∧ f1.toInt = fx.toInt + 1 ∧ ¬ (30 ≤ fx.toInt ∨ a.toInt < 0 ∨ 11 < a.toInt ∨ b.toInt < 0 ∨ 11 < b.toInt ∨ a.toInt = b.toInt ∨ v.toInt < 1 ∨ 99 < v.toInt))
theorem ps_street_det {r f1 fx a b v r2 g1 : Int32} (hx : ps_street r f1 fx a b v) (hm : ps_street r2 g1 fx a b v) : r = r2 ∧ f1 = g1 := by
  rcases hx with ⟨a9, b9, c9⟩ | ⟨a9, b9, c9⟩ <;> rcases hm with ⟨a8, b8, c8⟩ | ⟨a8, b8, c8⟩
  · exact ⟨a9.trans a8.symm, b9.trans b8.symm⟩
  · exact absurd c9 c8
  · exact absurd c8 c9
  · exact ⟨a9.trans a8.symm, Int32.toInt_inj.mp (b9.trans b8.symm)⟩
def ps_wheel (r f1 fx st a b v d : Int32) : Prop := (r = -1 ∧ f1 = fx ∧ (20 ≤ fx.toInt ∨ a.toInt < 0 ∨ 2 < a.toInt ∨ b.toInt < 0 ∨ st.toInt ≤ b.toInt ∨ v.toInt < 1 ∨ 9 < v.toInt ∨ d.toInt < -1 ∨ 199 < d.toInt)) ∨ (r.toInt = fx.toInt ∧ f1.toInt = fx.toInt + 1 ∧ ¬ (20 ≤ fx.toInt ∨ a.toInt < 0 ∨ 2 < a.toInt ∨ b.toInt < 0 ∨ st.toInt ≤ b.toInt ∨ v.toInt < 1 ∨ 9 < v.toInt ∨ d.toInt < -1 ∨ 199 < d.toInt))
theorem ps_wheel_det {r f1 fx st a b v d r2 g1 : Int32} (hx : ps_wheel r f1 fx st a b v d) (hm : ps_wheel r2 g1 fx st a b v d) : r = r2 ∧ f1 = g1 := by
  rcases hx with ⟨a9, b9, c9⟩ | ⟨a9, b9, c9⟩ <;> rcases hm with ⟨a8, b8, c8⟩ | ⟨a8, b8, c8⟩
  · exact ⟨a9.trans a8.symm, b9.trans b8.symm⟩
  · exact absurd c9 c8
  · exact absurd c8 c9
  · exact ⟨Int32.toInt_inj.mp (a9.trans a8.symm), Int32.toInt_inj.mp (b9.trans b8.symm)⟩
def ps_insure (r wh a b : Int32) : Prop := (r = 0 ∧ (a.toInt < 0 ∨ wh.toInt ≤ a.toInt ∨ b.toInt < -1 ∨ 199 < b.toInt)) ∨ (r = 1 ∧ ¬ (a.toInt < 0 ∨ wh.toInt ≤ a.toInt ∨ b.toInt < -1 ∨ 199 < b.toInt))
theorem ps_insure_det {r wh a b r2 : Int32} (hx : ps_insure r wh a b) (hm : ps_insure r2 wh a b) : r = r2 := by
  rcases hx with ⟨a9, c9⟩ | ⟨a9, c9⟩ <;> rcases hm with ⟨a8, c8⟩ | ⟨a8, c8⟩
  · exact a9.trans a8.symm
  · exact absurd c9 c8
  · exact absurd c8 c9
  · exact a9.trans a8.symm
def ps_trip (r f1 fx wh st td a b v d f g : Int32) : Prop := (r = -1 ∧ f1 = fx ∧ (80 ≤ fx.toInt ∨ a.toInt < 0 ∨ wh.toInt ≤ a.toInt ∨ b.toInt < 0 ∨ st.toInt ≤ b.toInt ∨ v.toInt < 0 ∨ st.toInt ≤ v.toInt ∨ b.toInt = v.toInt ∨ d.toInt < 0 ∨ 719 < d.toInt ∨ f.toInt < td.toInt ∨ 199 < f.toInt ∨ g.toInt < f.toInt ∨ 199 < g.toInt)) ∨ (r.toInt = fx.toInt ∧ f1.toInt = fx.toInt + 1 ∧ ¬ (80 ≤ fx.toInt ∨ a.toInt < 0 ∨ wh.toInt ≤ a.toInt ∨ b.toInt < 0 ∨ st.toInt ≤ b.toInt ∨ v.toInt < 0 ∨ st.toInt ≤ v.toInt ∨ b.toInt = v.toInt ∨ d.toInt < 0 ∨ 719 < d.toInt ∨ f.toInt < td.toInt ∨ 199 < f.toInt ∨ g.toInt < f.toInt ∨ 199 < g.toInt))
theorem ps_trip_det {r f1 fx wh st td a b v d f g r2 g1 : Int32} (hx : ps_trip r f1 fx wh st td a b v d f g) (hm : ps_trip r2 g1 fx wh st td a b v d f g) : r = r2 ∧ f1 = g1 := by
  rcases hx with ⟨a9, b9, c9⟩ | ⟨a9, b9, c9⟩ <;> rcases hm with ⟨a8, b8, c8⟩ | ⟨a8, b8, c8⟩
  · exact ⟨a9.trans a8.symm, b9.trans b8.symm⟩
  · exact absurd c9 c8
  · exact absurd c8 c9
  · exact ⟨Int32.toInt_inj.mp (a9.trans a8.symm), Int32.toInt_inj.mp (b9.trans b8.symm)⟩
set_option maxHeartbeats 4000000 in
set_option maxRecDepth 100000 in
theorem x_endE (l : Launch) (dC : Nat → ClassId) (dI : Nat → Nat → Nat) (sz : Nat) (ob ad : Nat → Nat) (cA : Nat → ClassId) (hd : dX ob ad) (fv : Nat → Int32) (wd : xT) (ar : Nat → Nat → Int32) (hF_fv : rX fv) (hA_ar : rB ar) (n : Int32) : Met l yX11_end (.code yX11_end cX11_end 2 (some .boolean) :: lw_good) ({ frames := 2, cells := 0, slots := 0, locals := 40 }) (va_Pc [.ref (ob 0), .int n] (prX dC dI ob ad cA fv wd ar sz)) (va_Qi (fun (r : Int32) (u : xS) => rX u.1 ∧ rB u.2.2 ∧ fM [0] fv u.1 ∧ fA [] ar u.2.2 ∧ u.2.1.2 = wd.2 ∧ (0 ≤ r.toInt ∧ r.toInt ≤ 1) ∧ (ps_end r (u.1 0) (fv 0) n) ∧ True) (enX dC dI ob ad cA) (aX ob ad sz)) 0 0 (aX ob ad sz) := by
  sorry
set_option maxHeartbeats 4000000 in
set_option maxRecDepth 100000 in
theorem x_seatedE (l : Launch) (dC : Nat → ClassId) (dI : Nat → Nat → Nat) (sz : Nat) (ob ad : Nat → Nat) (cA : Nat → ClassId) (hd : dX ob ad) (fv : Nat → Int32) (wd : xT) (ar : Nat → Nat → Int32) (hF_fv : rX fv) (hA_ar : rB ar) (mm : Int32) : Met l yX11_seated (.code yX11_seated cX11_seated 3 (some .int) :: lw_good) ({ frames := 9, cells := 0, slots := 0, locals := 209 }) (va_Pc [.ref (ob 0), .int mm] (prX dC dI ob ad cA fv wd ar sz)) (va_Qi (fun (r : Int32) (u : xS) => rX u.1 ∧ rB u.2.2 ∧ fM [0, 25, 26, 27, 28] fv u.1 ∧ fA [65, 66, 67, 68, 69, 70, 71, 72] ar u.2.2 ∧ u.2.1.2 = wd.2 ∧ ((u.1 0).toInt = 0) ∧ True) (enX dC dI ob ad cA) (aX ob ad sz)) 0 0 (aX ob ad sz) := by
  sorry
set_option maxHeartbeats 4000000 in
set_option maxRecDepth 100000 in
theorem m_endE (l : Launch) (dC : Nat → ClassId) (dI : Nat → Nat → Nat) (sz h : Nat) (ad : Nat → Nat) (cA : Nat → ClassId) (hd : dM h ad) (fv : Nat → Int32) (wd : Int64) (ar : Nat → Nat → Int32) (hF_fv : rF fv) (hA_ar : rA ar) (n : Int32) : Met l yX12_end (.code yX12_end cX12_end 2 (some .boolean) :: lw_good) ({ frames := 2, cells := 0, slots := 0, locals := 40 }) (va_Pc [.ref h, .int n] (prM dC dI h ad cA fv wd ar sz)) (va_Qi (fun (r : Int32) (u : mS) => rF u.1 ∧ rA u.2.2 ∧ fM [0, 2] fv u.1 ∧ fA [] ar u.2.2 ∧ (0 ≤ r.toInt ∧ r.toInt ≤ 1) ∧ (ps_end r (u.1 2) (fv 2) n) ∧ True) (enM dC dI h ad cA) (aM h ad sz)) 0 0 (aM h ad sz) := by
  sorry
set_option maxHeartbeats 4000000 in
set_option maxRecDepth 100000 in
theorem m_seatedE (l : Launch) (dC : Nat → ClassId) (dI : Nat → Nat → Nat) (sz h : Nat) (ad : Nat → Nat) (cA : Nat → ClassId) (hd : dM h ad) (fv : Nat → Int32) (wd : Int64) (ar : Nat → Nat → Int32) (hF_fv : rF fv) (hA_ar : rA ar) (G9 : Nat → Int) (mm : Int32) (hp_mF : wt_fm G9 (fv 8) (ar 4)) : Met l yX12_seated (.code yX12_seated cX12_seated 9 (some .int) :: lw_good) ({ frames := 5, cells := 0, slots := 0, locals := 106 }) (va_Pc [.ref h, .int mm] (prM dC dI h ad cA fv wd ar sz)) (va_Qi (fun (r : Int32) (u : mS) => rF u.1 ∧ rA u.2.2 ∧ fM [0, 2, 8, 95] fv u.1 ∧ fA [4, 90, 91, 92, 93, 94] ar u.2.2 ∧ ((u.1 2).toInt = 0) ∧ (wt_fm G9 (u.1 8) (u.2.2 4)) ∧ True) (enM dC dI h ad cA) (aM h ad sz)) 0 0 (aM h ad sz) := by
  sorry
def wt_up (u : Nat → Nat → Int32) (j : Nat) (g : Nat → Int32) : Nat → Nat → Int32 := fun i => if i = j then g else u i
def wt_tp4 (g : Nat → Int32) (n : Nat) (b3 b2 b1 b0 : Int32) : Nat → Int32 := upd (upd (upd (upd g n b3) (n + 1) b2) (n + 2) b1) (n + 3) b0
def wt_tpw (g : Nat → Int32) (n : Nat) (a : Int32) : Nat → Int32 := wt_tp4 g n ((a >>> ((24 : Int32) &&& 31)) &&& 255) ((a >>> ((16 : Int32) &&& 31)) &&& 255) ((a >>> ((8 : Int32) &&& 31)) &&& 255) ((a >>> ((0 : Int32) &&& 31)) &&& 255)
def wt_tpF (g : Nat → Int32) (n : Nat) (a b v d f : Int32) : Nat → Int32 := wt_tpw (wt_tpw (wt_tpw (wt_tpw (wt_tpw g n a) (n + 4) b) (n + 8) v) (n + 12) d) (n + 16) f
def wt_tpU (g1 g : Nat → Int32) (fx a b v d f : Int32) : Prop := (320 < fx.toInt ∧ g1 = g) ∨ (¬ 320 < fx.toInt ∧ g1 = wt_tpF g fx.toInt.toNat a b v d f)
theorem wt_tpU_det {g1 g2 g : Nat → Int32} {fx a b v d f : Int32} (h1 : wt_tpU g1 g fx a b v d f) (h2 : wt_tpU g2 g fx a b v d f) : g1 = g2 := by
  rcases h1 with ⟨a9, b9⟩ | ⟨a9, b9⟩ <;> rcases h2 with ⟨a8, b8⟩ | ⟨a8, b8⟩
  · exact b9.trans b8.symm
  · exact absurd a9 a8
  · exact absurd a8 a9
  · exact b9.trans b8.symm
def wt_pr (g : Nat → Int32) (k : Nat) : Int := 256 * (g (2 * k)).toInt + (g (2 * k + 1)).toInt
def wt_person (r f1 fx tp : Int32) (g : Nat → Int32) (h w c : Int32) : Prop := (r = -1 ∧ f1 = fx ∧ (40 ≤ fx.toInt ∨ h.toInt < 0 ∨ 11 < h.toInt ∨ w.toInt < 0 ∨ 11 < w.toInt ∨ c.toInt < 0 ∨ 9999 < c.toInt ∨ ¬ tp.toInt = 12 ∨ 600 < wt_pr g 0 ∨ 719 < wt_pr g 1 ∨ wt_pr g 2 < 10 ∨ 99 < wt_pr g 2 ∨ 9 < wt_pr g 3 ∨ 10000 < wt_pr g 4 ∨ 9 < wt_pr g 5)) ∨ (r.toInt = fx.toInt ∧ f1.toInt = fx.toInt + 1 ∧ ¬ (40 ≤ fx.toInt ∨ h.toInt < 0 ∨ 11 < h.toInt ∨ w.toInt < 0 ∨ 11 < w.toInt ∨ c.toInt < 0 ∨ 9999 < c.toInt ∨ ¬ tp.toInt = 12 ∨ 600 < wt_pr g 0 ∨ 719 < wt_pr g 1 ∨ wt_pr g 2 < 10 ∨ 99 < wt_pr g 2 ∨ 9 < wt_pr g 3 ∨ 10000 < wt_pr g 4 ∨ 9 < wt_pr g 5))
theorem wt_person_det {r r2 f1 g1 fx tp : Int32} {g : Nat → Int32} {h w c : Int32} (hx : wt_person r f1 fx tp g h w c) (hm : wt_person r2 g1 fx tp g h w c) : r = r2 ∧ f1 = g1 := by
  rcases hx with ⟨a9, b9, c9⟩ | ⟨a9, b9, c9⟩ <;> rcases hm with ⟨a8, b8, c8⟩ | ⟨a8, b8, c8⟩
  · exact ⟨a9.trans a8.symm, b9.trans b8.symm⟩
  · exact absurd c9 c8
  · exact absurd c8 c9
  · exact ⟨Int32.toInt_inj.mp (a9.trans a8.symm), Int32.toInt_inj.mp (b9.trans b8.symm)⟩
def wt_ok (n : Int) (g : Nat → Int32) : Prop := 1 ≤ n ∧ n ≤ 200 ∧ ∀ j : Nat, (j : Int) < n → (g j).toInt ≤ 9 ∨ (g j).toInt = 255
def wt_rn : Nat → (Nat → Int32) → (Nat → Int32) → Nat → Int32
  | 0, d, _ => d
  | n + 1, d, t => upd (wt_rn n d t) n (if (t n).toInt = 255 then (if n = 0 then 0 else wt_rn n d t (n - 1)) else t n)
def wt_rain (r w1 w0 tp : Int32) (d1 d0 t : Nat → Int32) : Prop := (r = 0 ∧ w1 = w0 ∧ d1 = d0 ∧ ¬ wt_ok tp.toInt t) ∨ (r = 1 ∧ w1 = tp ∧ d1 = wt_rn tp.toInt.toNat d0 t ∧ wt_ok tp.toInt t)
theorem wt_rain_det {r r2 w1 w2 w0 tp : Int32} {d1 d2 d0 t : Nat → Int32} (hx : wt_rain r w1 w0 tp d1 d0 t) (hm : wt_rain r2 w2 w0 tp d2 d0 t) : r = r2 ∧ w1 = w2 ∧ d1 = d2 := by
  rcases hx with ⟨a9, b9, c9, e9⟩ | ⟨a9, b9, c9, e9⟩ <;> rcases hm with ⟨a8, b8, c8, e8⟩ | ⟨a8, b8, c8, e8⟩
  · exact ⟨a9.trans a8.symm, b9.trans b8.symm, c9.trans c8.symm⟩
  · exact absurd e8 e9
  · exact absurd e9 e8
  · exact ⟨a9.trans a8.symm, b9.trans b8.symm, c9.trans c8.symm⟩
def wt_on (r d w : Int32) (g : Nat → Int32) : Prop := (w.toInt = 0 ∧ r = 0) ∨ (¬ w.toInt = 0 ∧ d.toInt < w.toInt ∧ r = g d.toInt.toNat) ∨ (¬ w.toInt = 0 ∧ w.toInt ≤ d.toInt ∧ r = 9)
def wt_wet (r d w : Int32) (g : Nat → Int32) : Prop := ((d.toInt < 0 ∨ 199 < d.toInt) ∧ r = -1) ∨ (¬ (d.toInt < 0 ∨ 199 < d.toInt) ∧ wt_on r d w g)
set_option maxHeartbeats 4000000 in
set_option maxRecDepth 100000 in
theorem m_streetF (l : Launch) (dC : Nat → ClassId) (dI : Nat → Nat → Nat) (sz h : Nat) (ad : Nat → Nat) (cA : Nat → ClassId) (hd : dM h ad) (fv : Nat → Int32) (wd : Int64) (ar : Nat → Nat → Int32) (hF_fv : rF fv) (hA_ar : rA ar) (G9 : Nat → Int) (a : Int32) (b : Int32) (v : Int32) (hp_mF : wt_fm G9 (fv 8) (ar 4)) : Met l yX12_street (.code yX12_street cX12_street 9 (some .boolean) :: lw_good) ({ frames := 3, cells := 0, slots := 0, locals := 62 }) (va_Pc [.ref h, .int a, .int b, .int v] (prM dC dI h ad cA fv wd ar sz)) (va_Qi (fun (r : Int32) (u : mS) => rF u.1 ∧ rA u.2.2 ∧ fM [0, 6, 8] fv u.1 ∧ fA [4] ar u.2.2 ∧ (0 ≤ r.toInt ∧ r.toInt ≤ 1) ∧ (ps_street r (u.1 6) (fv 6) a b v) ∧ (wt_sm r G9 (u.1 8) (u.2.2 4) a b v) ∧ True) (enM dC dI h ad cA) (aM h ad sz)) 0 0 (aM h ad sz) := by
  sorry
set_option maxHeartbeats 4000000 in
set_option maxRecDepth 100000 in
theorem m_farF (l : Launch) (dC : Nat → ClassId) (dI : Nat → Nat → Nat) (sz h : Nat) (ad : Nat → Nat) (cA : Nat → ClassId) (hd : dM h ad) (fv : Nat → Int32) (wd : Int64) (ar : Nat → Nat → Int32) (hF_fv : rF fv) (hA_ar : rA ar) (G9 : Nat → Int) (a : Int32) (b : Int32) (hp_mF : wt_fm G9 (fv 8) (ar 4)) : Met l yX12_far (.code yX12_far cX12_far 4 (some .int) :: lw_good) ({ frames := 4, cells := 0, slots := 0, locals := 83 }) (va_Pc [.ref h, .int a, .int b] (prM dC dI h ad cA fv wd ar sz)) (va_Qi (fun (r : Int32) (u : mS) => rF u.1 ∧ rA u.2.2 ∧ fM [0, 8] fv u.1 ∧ fA [4] ar u.2.2 ∧ (wt_far r a b G9) ∧ (wt_fm G9 (u.1 8) (u.2.2 4)) ∧ True) (enM dC dI h ad cA) (aM h ad sz)) 0 0 (aM h ad sz) := by
  sorry
set_option maxHeartbeats 4000000 in
set_option maxRecDepth 100000 in
theorem x_feedC (l : Launch) (dC : Nat → ClassId) (dI : Nat → Nat → Nat) (sz : Nat) (ob ad : Nat → Nat) (cA : Nat → ClassId) (hd : dX ob ad) (fv : Nat → Int32) (wd : xT) (ar : Nat → Nat → Int32) (hF_fv : rX fv) (hA_ar : rB ar) (a : Int32) (b : Int32) (v : Int32) (d : Int32) (f : Int32) : Met l yX11_feed (.code yX11_feed cX11_feed 6 (some .int) :: lw_good) ({ frames := 3, cells := 0, slots := 0, locals := 62 }) (va_Pc [.ref (ob 0), .int a, .int b, .int v, .int d, .int f] (prX dC dI ob ad cA fv wd ar sz)) (va_Qi (fun (r : Int32) (u : xS) => rX u.1 ∧ rB u.2.2 ∧ fM [0] fv u.1 ∧ fA [1] ar u.2.2 ∧ u.2.1.2 = wd.2 ∧ (ps_feed r (u.1 0) (fv 0)) ∧ (wt_tpU (u.2.2 1) (ar 1) (fv 0) a b v d f) ∧ True) (enX dC dI ob ad cA) (aX ob ad sz)) 0 0 (aX ob ad sz) := by
  sorry
set_option maxHeartbeats 4000000 in
set_option maxRecDepth 100000 in
theorem x_rainC (l : Launch) (dC : Nat → ClassId) (dI : Nat → Nat → Nat) (sz : Nat) (ob ad : Nat → Nat) (cA : Nat → ClassId) (hd : dX ob ad) (fv : Nat → Int32) (wd : xT) (ar : Nat → Nat → Int32) (hF_fv : rX fv) (hA_ar : rB ar) : Met l yX11_rain (.code yX11_rain cX11_rain 4 (some .boolean) :: lw_good) ({ frames := 3, cells := 0, slots := 0, locals := 61 }) (va_Pc [.ref (ob 0)] (prX dC dI ob ad cA fv wd ar sz)) (va_Qi (fun (r : Int32) (u : xS) => rX u.1 ∧ rB u.2.2 ∧ fM [0, 5] fv u.1 ∧ fA [3] ar u.2.2 ∧ u.2.1.2 = wd.2 ∧ (0 ≤ r.toInt ∧ r.toInt ≤ 1) ∧ (wt_rain r (u.1 5) (fv 5) (fv 0) (u.2.2 3) (ar 3) (ar 1)) ∧ ((u.1 0).toInt = 0) ∧ True) (enX dC dI ob ad cA) (aX ob ad sz)) 0 0 (aX ob ad sz) := by
  sorry
set_option maxHeartbeats 4000000 in
set_option maxRecDepth 100000 in
theorem x_wetC (l : Launch) (dC : Nat → ClassId) (dI : Nat → Nat → Nat) (sz : Nat) (ob ad : Nat → Nat) (cA : Nat → ClassId) (hd : dX ob ad) (fv : Nat → Int32) (wd : xT) (ar : Nat → Nat → Int32) (hF_fv : rX fv) (hA_ar : rB ar) (a : Int32) : Met l yX11_wet (.code yX11_wet cX11_wet 2 (some .int) :: lw_good) ({ frames := 3, cells := 0, slots := 0, locals := 61 }) (va_Pc [.ref (ob 0), .int a] (prX dC dI ob ad cA fv wd ar sz)) (va_Qi (fun (r : Int32) (u : xS) => rX u.1 ∧ rB u.2.2 ∧ fM [] fv u.1 ∧ fA [] ar u.2.2 ∧ u.2.1.2 = wd.2 ∧ (wt_wet r a (fv 5) (ar 3)) ∧ True) (enX dC dI ob ad cA) (aX ob ad sz)) 0 0 (aX ob ad sz) := by
  sorry
set_option maxHeartbeats 4000000 in
set_option maxRecDepth 100000 in
theorem x_streetF (l : Launch) (dC : Nat → ClassId) (dI : Nat → Nat → Nat) (sz : Nat) (ob ad : Nat → Nat) (cA : Nat → ClassId) (hd : dX ob ad) (fv : Nat → Int32) (wd : xT) (ar : Nat → Nat → Int32) (hF_fv : rX fv) (hA_ar : rB ar) (a : Int32) (b : Int32) (v : Int32) : Met l yX11_street (.code yX11_street cX11_street 4 (some .boolean) :: lw_good) ({ frames := 4, cells := 0, slots := 0, locals := 90 }) (va_Pc [.ref (ob 0), .int a, .int b, .int v] (prX dC dI ob ad cA fv wd ar sz)) (va_Qi (fun (r : Int32) (u : xS) => rX u.1 ∧ rB u.2.2 ∧ fM [9] fv u.1 ∧ fA [5] ar u.2.2 ∧ u.2.1.2 = wd.2 ∧ (0 ≤ r.toInt ∧ r.toInt ≤ 1) ∧ (ps_street r (u.1 9) (fv 9) a b v) ∧ (wt_sx r (u.2.2 5) (ar 5) a b v) ∧ True) (enX dC dI ob ad cA) (aX ob ad sz)) 0 0 (aX ob ad sz) := by
  sorry
set_option maxHeartbeats 4000000 in
set_option maxRecDepth 100000 in
theorem x_farF (l : Launch) (dC : Nat → ClassId) (dI : Nat → Nat → Nat) (sz : Nat) (ob ad : Nat → Nat) (cA : Nat → ClassId) (hd : dX ob ad) (fv : Nat → Int32) (wd : xT) (ar : Nat → Nat → Int32) (hF_fv : rX fv) (hA_ar : rB ar) (a : Int32) (b : Int32) : Met l yX11_far (.code yX11_far cX11_far 4 (some .int) :: lw_good) ({ frames := 3, cells := 0, slots := 0, locals := 62 }) (va_Pc [.ref (ob 0), .int a, .int b] (prX dC dI ob ad cA fv wd ar sz)) (va_Qi (fun (r : Int32) (u : xS) => rX u.1 ∧ rB u.2.2 ∧ fM [] fv u.1 ∧ fA [] ar u.2.2 ∧ u.2.1.2 = wd.2 ∧ (wt_far r a b (fun i => (ar 5 i).toInt)) ∧ True) (enX dC dI ob ad cA) (aX ob ad sz)) 0 0 (aX ob ad sz) := by
  sorry
set_option maxHeartbeats 4000000 in
set_option maxRecDepth 100000 in
theorem m_feedC (l : Launch) (dC : Nat → ClassId) (dI : Nat → Nat → Nat) (sz h : Nat) (ad : Nat → Nat) (cA : Nat → ClassId) (hd : dM h ad) (fv : Nat → Int32) (wd : Int64) (ar : Nat → Nat → Int32) (hF_fv : rF fv) (hA_ar : rA ar) (a : Int32) (b : Int32) (v : Int32) (d : Int32) (f : Int32) : Met l yX12_feed (.code yX12_feed cX12_feed 6 (some .int) :: lw_good) ({ frames := 3, cells := 0, slots := 0, locals := 62 }) (va_Pc [.ref h, .int a, .int b, .int v, .int d, .int f] (prM dC dI h ad cA fv wd ar sz)) (va_Qi (fun (r : Int32) (u : mS) => rF u.1 ∧ rA u.2.2 ∧ fM [0, 2] fv u.1 ∧ fA [1] ar u.2.2 ∧ (ps_feed r (u.1 2) (fv 2)) ∧ (wt_tpU (u.2.2 1) (ar 1) (fv 2) a b v d f) ∧ True) (enM dC dI h ad cA) (aM h ad sz)) 0 0 (aM h ad sz) := by
  sorry
set_option maxHeartbeats 4000000 in
set_option maxRecDepth 100000 in
theorem m_rainC (l : Launch) (dC : Nat → ClassId) (dI : Nat → Nat → Nat) (sz h : Nat) (ad : Nat → Nat) (cA : Nat → ClassId) (hd : dM h ad) (fv : Nat → Int32) (wd : Int64) (ar : Nat → Nat → Int32) (hF_fv : rF fv) (hA_ar : rA ar) : Met l yX12_rain (.code yX12_rain cX12_rain 3 (some .boolean) :: lw_good) ({ frames := 3, cells := 0, slots := 0, locals := 62 }) (va_Pc [.ref h] (prM dC dI h ad cA fv wd ar sz)) (va_Qi (fun (r : Int32) (u : mS) => rF u.1 ∧ rA u.2.2 ∧ fM [0, 2, 7] fv u.1 ∧ fA [5] ar u.2.2 ∧ (0 ≤ r.toInt ∧ r.toInt ≤ 1) ∧ (wt_rain r (u.1 7) (fv 7) (fv 2) (u.2.2 5) (ar 5) (ar 1)) ∧ ((u.1 2).toInt = 0) ∧ True) (enM dC dI h ad cA) (aM h ad sz)) 0 0 (aM h ad sz) := by
  sorry
set_option maxHeartbeats 4000000 in
set_option maxRecDepth 100000 in
theorem m_wetC (l : Launch) (dC : Nat → ClassId) (dI : Nat → Nat → Nat) (sz h : Nat) (ad : Nat → Nat) (cA : Nat → ClassId) (hd : dM h ad) (fv : Nat → Int32) (wd : Int64) (ar : Nat → Nat → Int32) (hF_fv : rF fv) (hA_ar : rA ar) (a : Int32) : Met l yX12_wet (.code yX12_wet cX12_wet 2 (some .int) :: lw_good) ({ frames := 3, cells := 0, slots := 0, locals := 61 }) (va_Pc [.ref h, .int a] (prM dC dI h ad cA fv wd ar sz)) (va_Qi (fun (r : Int32) (u : mS) => rF u.1 ∧ rA u.2.2 ∧ fM [0] fv u.1 ∧ fA [] ar u.2.2 ∧ (wt_wet r a (fv 7) (ar 5)) ∧ True) (enM dC dI h ad cA) (aM h ad sz)) 0 0 (aM h ad sz) := by
  sorry
def rd_l (c : Int) : Bool := decide (97 ≤ c ∧ c ≤ 122)
def rd_d (c : Int) : Bool := decide (48 ≤ c ∧ c ≤ 57)
def rd_sk (b : Nat → Int) (n : Nat) : Nat → Nat → Nat
  | 0, p => p
  | f + 1, p => if p < n ∧ (b p = 32 ∨ b p = 10) then rd_sk b n f (p + 1) else p
def rd_s (b : Nat → Int) (n p : Nat) : Nat := rd_sk b n (n - p) p
def rd_wk (b : Nat → Int) (n : Nat) : Nat → Nat → Nat
  | 0, p => p
  | f + 1, p => if p < n ∧ (rd_l (b p) = true ∨ rd_d (b p) = true) then rd_wk b n f (p + 1) else p
def rd_w (b : Nat → Int) (n p : Nat) : Nat := rd_wk b n (n - p) p
def rd_lim (n : Nat) : Nat := if n < 300 then n else 300
def rd_mx (a b : Nat) : Nat := if a < b then b else a
def rd_nx (b : Nat → Int) (n q : Nat) : Nat := if q < rd_lim n then rd_mx (q + 1) (rd_w b n q) else q
def rd_en (b : Nat → Int) (n : Nat) : Nat → Nat
  | 0 => 0
  | k + 1 => rd_nx b n (rd_s b (rd_lim n) (rd_en b n k))
def rd_st (b : Nat → Int) (n k : Nat) : Nat := rd_s b (rd_lim n) (rd_en b n k)
def rd_S (b : Nat → Int) (n k : Nat) : Nat := if rd_st b n k < rd_lim n then rd_st b n k else rd_lim n
def rd_c (b : Nat → Int) (a : Nat) : Nat → Nat
  | 0 => 0
  | m + 1 => rd_c b a m + (if rd_d (b (a + m)) = true then 1 else 0)
def rd_tx (b : Nat → Int) (a : Nat) : Nat → List Int
  | 0 => []
  | m + 1 => b (a + m) :: rd_tx b a m
def rd_nb (b : Nat → Int) (a : Nat) : Nat → Int
  | 0 => 0
  | m + 1 => rd_nb b a m * 10 + (if rd_d (b (a + m)) = true then b (a + m) - 48 else 0)
def rd_tb : List (List Int) := [[121, 114, 114, 97, 99], [112, 111, 116, 115], [101, 114, 97, 102], [100, 108, 111, 104], [101, 110, 105, 102], [115, 97, 103], [107, 99, 111, 100], [114, 97, 99], [110, 111, 103, 97, 119], [105, 120, 97, 116], [100, 101, 114, 117, 115, 110, 105], [115, 114, 101, 100, 105, 114], [115, 116, 97, 101, 115], [110, 105, 97, 114], [101, 116, 117, 110, 105, 109], [121, 97, 100], [109, 111, 114, 102], [111, 116], [115, 101, 109, 105, 116], [60], [61], [62], [116, 111, 110], [102, 105], [100, 110, 97], [114, 111], [59], [40], [41]]
def rd_ix (t : List Int) : List (List Int) → Nat → Nat
  | [], _ => 31
  | x :: r, i => if x = t then i else rd_ix t r (i + 1)
def rd_lk (t : List Int) : Nat := rd_ix t rd_tb 0
def rd_cl (b : Nat → Int) (a m : Nat) : Nat := if rd_c b a m = m then (if m ≤ 4 then 29 else 31) else if 0 < rd_c b a m ∨ 8 < m then 31 else rd_lk (rd_tx b a m)
def rd_T (b : Nat → Int) (n k : Nat) : Nat := if rd_st b n k < rd_lim n then rd_cl b (rd_st b n k) (rd_en b n (k + 1) - rd_st b n k) else if 300 < n then 31 else 30
def rd_N (b : Nat → Int) (n k : Nat) : Int := rd_nb b (rd_st b n k) (if rd_en b n (k + 1) - rd_st b n k < 4 then rd_en b n (k + 1) - rd_st b n k else 4)
def rd_dn : List Bool → List Bool
  | [] => []
  | x :: r => if x = true then rd_dn r else x :: r
def rd_mc (T : Nat → Nat) : Nat → Nat → Nat → Nat → List Bool → Nat × Nat × Nat
  | 0, _, p, o, _ => (9, p, o)
  | n + 1, s, p, o, r =>
    if s = 0 then
      if ¬ ((7 ≤ T p ∧ T p ≤ 18) ∨ T p = 22 ∨ T p = 27) then (1, p, o)
      else if 50 ≤ o ∨ 10 ≤ r.length then (4, p, o)
      else if T p = 22 then rd_mc T n 0 (p + 1) (o + 1) (true :: r)
      else if T p = 27 then rd_mc T n 0 (p + 1) (o + 1) (false :: r)
      else if T p < 11 then rd_mc T n 1 (p + 1) (o + 1) r
      else rd_mc T n 2 (p + 1) (o + 1) r
    else if s = 2 then (if 19 ≤ T p ∧ T p ≤ 21 then rd_mc T n 3 (p + 1) o r else (1, p, o))
    else if s = 3 then (if T p = 29 then rd_mc T n 1 (p + 1) o r else (1, p, o))
    else if T p = 28 ∧ rd_dn r ≠ [] then rd_mc T n 1 (p + 1) o (rd_dn r).tail
    else if T p = 24 ∨ T p = 25 then rd_mc T n 0 (p + 1) o (rd_dn r)
    else if rd_dn r ≠ [] then (1, p, o) else (0, p, o)
def rd_m (T : Nat → Nat) (s p o : Nat) (r : List Bool) : Nat × Nat × Nat := rd_mc T (400 - p) s p o r
def rd_l3 (T : Nat → Nat) (q : Nat × Nat × Nat) : Nat × Nat × Nat := if ¬ q.1 = 0 then q else if T q.2.1 = 26 then (0, q.2.1 + 1, q.2.2) else (1, q.2.1, q.2.2)
def rd_l2 (T : Nat → Nat) (h p o : Nat) : Nat × Nat × Nat := rd_l3 T (if ¬ h = 6 ∧ T p = 23 then rd_m T 0 (p + 1) o [] else (0, p, o))
def rd_ln (T : Nat → Nat) (N : Nat → Int) (p o ln : Nat) (dk : Bool) : Nat × Nat × Nat :=
  if ¬ T p < 7 then (1, p, o)
  else if 16 ≤ ln ∨ (T p = 6 ∧ dk = true) then (3, p, o)
  else if T p < 2 then rd_l2 T (T p) (if T (p + 1) = 22 then p + 2 else p + 1) o
  else if T (p + 1) = 29 ∧ 2000 < N (p + 1) then (2, p + 1, o)
  else if ¬ T (p + 1) = 29 then (1, p + 1, o)
  else rd_l2 T (T p) (p + 2) o
def rd_tt (T : Nat → Nat) (N : Nat → Int) : Nat → Nat → Nat → Nat → Bool → Nat × Nat × Nat
  | 0, p, _, _, _ => (9, p, 0)
  | f + 1, p, o, ln, dk => if T p = 30 then (0, p, ln) else if (rd_ln T N p o ln dk).1 = 0 then rd_tt T N f (rd_ln T N p o ln dk).2.1 (rd_ln T N p o ln dk).2.2 (ln + 1) (dk || decide (T p = 6)) else ((rd_ln T N p o ln dk).1, (rd_ln T N p o ln dk).2.1, ln)
def rd_txt (T : Nat → Nat) (N : Nat → Int) : Nat × Nat × Nat := rd_tt T N 400 0 0 0 false
def rd_b (g : Nat → Int32) : Nat → Int := fun i => (g i).toInt
def rd_hx (tkL : Nat → Nat) (tkB : Nat → Nat → Int32) : Prop := ∀ j, j < 32 → rd_tx (fun i => (tkB j i).toInt) 0 (tkL j) = rd_tb.getD j [] ∧ ∀ i, i < tkL j → 0 ≤ (tkB j i).toInt ∧ (tkB j i).toInt ≤ 127
def cd_dp (a b : Nat) : List Nat → List (Nat × Nat × Int) → List Nat × List (Nat × Nat × Int)
  | [], o => ([], o)
  | x :: r, o => if a ≤ x ∧ x ≤ b then cd_dp a b r (o ++ [(x, 0, 0)]) else (x :: r, o)
def cd_mc (T : Nat → Nat) (N : Nat → Int) : Nat → Nat → Nat → List Nat → List (Nat × Nat × Int) → List (Nat × Nat × Int)
  | 0, _, _, _, o => o
  | n + 1, s, p, r, o =>
    if s = 0 then
      if T p = 22 then cd_mc T N n 0 (p + 1) (12 :: r) o
      else if T p = 27 then cd_mc T N n 0 (p + 1) (15 :: r) o
      else if T p < 11 then cd_mc T N n 1 (p + 1) r (o ++ [(T p - 7, 0, 0)])
      else cd_mc T N n 2 (p + 1) r o
    else if s = 2 then cd_mc T N n 3 (p + 1) r o
    else if s = 3 then cd_mc T N n 1 (p + 1) r (o ++ [(T (p - 2) - 7, T (p - 1) + 41, N p)])
    else if T p = 28 ∧ 15 ∈ r then cd_mc T N n 1 (p + 1) (cd_dp 13 14 (cd_dp 12 12 r o).1 (cd_dp 12 12 r o).2).1.tail (cd_dp 13 14 (cd_dp 12 12 r o).1 (cd_dp 12 12 r o).2).2
    else if T p = 24 then cd_mc T N n 0 (p + 1) (13 :: (cd_dp 13 13 (cd_dp 12 12 r o).1 (cd_dp 12 12 r o).2).1) (cd_dp 13 13 (cd_dp 12 12 r o).1 (cd_dp 12 12 r o).2).2
    else if T p = 25 then cd_mc T N n 0 (p + 1) (14 :: (cd_dp 13 14 (cd_dp 12 12 r o).1 (cd_dp 12 12 r o).2).1) (cd_dp 13 14 (cd_dp 12 12 r o).1 (cd_dp 12 12 r o).2).2
    else (cd_dp 13 14 (cd_dp 12 12 r o).1 (cd_dp 12 12 r o).2).2
def cd_m (T : Nat → Nat) (N : Nat → Int) (s p : Nat) (r : List Nat) (o : List (Nat × Nat × Int)) : List (Nat × Nat × Int) := cd_mc T N (400 - p) s p r o
def cd_x (ac ak nu : Int32) : Nat × Nat × Int := if ac.toInt = 3 then (12, 0, 0) else if ac.toInt = 4 then (13, 0, 0) else if ac.toInt = 5 then (14, 0, 0) else if ak.toInt < 4 then (if 0 ≤ ak.toInt ∧ ac.toInt = 2 ∧ nu.toInt = 0 then (ak.toInt.toNat, 0, 0) else (99, 0, 0)) else if 0 ≤ ac.toInt ∧ ac.toInt ≤ 2 ∧ ak.toInt ≤ 11 then (ak.toInt.toNat, (ac.toInt + 60).toNat, nu.toInt) else (99, 0, 0)
def cd_lm (a b c : Nat → Int32) (p : Nat) : Nat → List (Nat × Nat × Int)
  | 0 => []
  | n + 1 => cd_lm a b c p n ++ [((a (p + n)).toInt.toNat, (b (p + n)).toInt.toNat, (c (p + n)).toInt)]
def cd_ev (f : Nat → Int) : List Bool → List (Nat × Nat × Int) → List Bool
  | st, [] => st
  | st, (k, s, n) :: r =>
    if k = 12 then cd_ev f (match st with | a :: t => (!a) :: t | [] => []) r
    else if k = 13 then cd_ev f (match st with | a :: b :: t => (b && a) :: t | t => t) r
    else if k = 14 then cd_ev f (match st with | a :: b :: t => (b || a) :: t | t => t) r
    else cd_ev f ((if k < 4 then decide (f k = 1) else if s = 60 then decide (f k < n) else if s = 61 then decide (f k = n) else decide (n < f k)) :: st) r
def cd_hd : Nat → List (Nat × Nat × Int) → Option Nat
  | d, [] => some d
  | d, (k, _, _) :: r => if k = 99 then none else if k = 12 then (if d = 0 then none else cd_hd d r) else if k = 13 ∨ k = 14 then (if d < 2 then none else cd_hd (d - 1) r) else if 30 < d + 1 then none else cd_hd (d + 1) r
def cd_sx (a b c : Nat → Int32) (p : Nat) : Nat → List (Nat × Nat × Int)
  | 0 => []
  | n + 1 => cd_sx a b c p n ++ [cd_x (a (p + n)) (b (p + n)) (c (p + n))]
def cd_bg (e : Nat → Int32) : Nat → Nat
  | 0 => 0
  | i + 1 => (e i).toInt.toNat
def cd_gX (r : Nat → Nat → Int32) (i : Nat) : Int × Int × List (Nat × Nat × Int) := ((r 1 i).toInt, (r 2 i).toInt, cd_sx (r 4) (r 5) (r 6) (cd_bg (r 3) i) ((r 3 i).toInt.toNat - cd_bg (r 3) i))
def cd_Wf (g : Nat → Int × Int × List (Nat × Nat × Int)) : Nat → Nat → List (Int × Int × List (Nat × Nat × Int))
  | 0, _ => []
  | k + 1, i => g i :: cd_Wf g k (i + 1)
theorem cd_Wf_eq {g h : Nat → Int × Int × List (Nat × Nat × Int)} : ∀ n i, (∀ j, i ≤ j → j < i + n → g j = h j) → cd_Wf g n i = cd_Wf h n i := by
  intro n
  induction n with
  | zero => intro i _; rfl
  | succ n ih =>
    intro i hh
    show g i :: cd_Wf g n (i + 1) = h i :: cd_Wf h n (i + 1)
    rw [hh i (by omega) (by omega), ih (i + 1) (fun j h1 h2 => hh j (by omega) (by omega))]
def cd_q0 (T : Nat → Nat) (p : Nat) : Nat := if T p < 2 then (if T (p + 1) = 22 then p + 2 else p + 1) else p + 2
def cd_v0 (T : Nat → Nat) (N : Nat → Int) (p : Nat) : Int := if T p < 2 then (if T (p + 1) = 22 then 0 else 1) else N (p + 1)
def cd_c0 (T : Nat → Nat) (N : Nat → Int) (h q : Nat) : List (Nat × Nat × Int) := if ¬ h = 6 ∧ T q = 23 then cd_m T N 0 (q + 1) [] [] else []
def cd_line (T : Nat → Nat) (N : Nat → Int) (p : Nat) : Int × Int × List (Nat × Nat × Int) := ((T p : Int), cd_v0 T N p, cd_c0 T N (T p) (cd_q0 T p))
def cd_tt (T : Nat → Nat) (N : Nat → Int) : Nat → Nat → Nat → Nat → Bool → List (Int × Int × List (Nat × Nat × Int))
  | 0, _, _, _, _ => []
  | f + 1, p, o, ln, dk => if T p = 30 then [] else if (rd_ln T N p o ln dk).1 = 0 then cd_line T N p :: cd_tt T N f (rd_ln T N p o ln dk).2.1 (rd_ln T N p o ln dk).2.2 (ln + 1) (dk || decide (T p = 6)) else []
def cd_txt (T : Nat → Nat) (N : Nat → Int) : List (Int × Int × List (Nat × Nat × Int)) := cd_tt T N 400 0 0 0 false
def cd_gd (l : Int × Int × List (Nat × Nat × Int)) : Prop := l.2.2 = [] ∨ cd_hd 0 l.2.2 = some 1
def rd_by (T S : Nat → Nat) (N : Nat → Int) (r f1 f0 b1 b0 td d : Int32) : Prop := ((10 ≤ b0.toInt ∨ d.toInt < td.toInt ∨ 199 < d.toInt) ∧ r = -1000 ∧ f1 = f0 ∧ b1 = b0) ∨ (¬ (10 ≤ b0.toInt ∨ d.toInt < td.toInt ∨ 199 < d.toInt) ∧ (((rd_txt T N).1 = 0 ∧ r.toInt = ((rd_txt T N).2.2 : Nat) ∧ f1.toInt = 0 ∧ b1.toInt = b0.toInt + 1) ∨ (0 < (rd_txt T N).1 ∧ r.toInt = -1 - ((S (rd_txt T N).2.1 : Nat) : Int) ∧ f1.toInt = ((rd_txt T N).1 : Nat) ∧ b1 = b0)))
theorem rd_by_det {T S : Nat → Nat} {N : Nat → Int} {r r2 f1 f2 f0 b1 b2 b0 td d : Int32} (hx : rd_by T S N r f1 f0 b1 b0 td d) (hm : rd_by T S N r2 f2 f0 b2 b0 td d) : r = r2 ∧ f1 = f2 ∧ b1 = b2 := by
  rcases hx with ⟨a, b, c, e⟩ | ⟨a, q⟩ <;> rcases hm with ⟨a1, b1, c1, e1⟩ | ⟨a1, q1⟩
  · exact ⟨b.trans b1.symm, c.trans c1.symm, e.trans e1.symm⟩
  · exact absurd a a1
  · exact absurd a1 a
  · rcases q with ⟨b, c, e, f⟩ | ⟨b, c, e, f⟩ <;> rcases q1 with ⟨b1, c1, e1, f1⟩ | ⟨b1, c1, e1, f1⟩
    · exact ⟨Int32.toInt_inj.mp (c.trans c1.symm), Int32.toInt_inj.mp (e.trans e1.symm), Int32.toInt_inj.mp (f.trans f1.symm)⟩
    · omega
    · omega
    · exact ⟨Int32.toInt_inj.mp (c.trans c1.symm), Int32.toInt_inj.mp (e.trans e1.symm), f.trans f1.symm⟩
def cd_gM (a : Nat → Nat → Int32) (b i : Nat) : Int × Int × List (Nat × Nat × Int) := ((a 50 (16 * b + i)).toInt, (a 51 (16 * b + i)).toInt, cd_lm (a 54) (a 55) (a 56) (120 * b + (a 52 (16 * b + i)).toInt.toNat) ((a 53 (16 * b + i)).toInt.toNat - (a 52 (16 * b + i)).toInt.toNat))
def cd_dx (h : Int) (v d : Int) : Int := if h = 6 then v else d
def cd_LM (a : Nat → Nat → Int32) (b : Nat) : List (Int × Int × List (Nat × Nat × Int)) := cd_Wf (cd_gM a b) ((a 47 b).toInt.toNat) 0
def cd_dk (l : List (Int × Int × List (Nat × Nat × Int))) : Int := l.foldl (fun d x => cd_dx x.1 x.2.1 d) 0
def cd_bM (n n1 : Int) (a a1 : Nat → Nat → Int32) (d : Int32) (D : List (Int × Int × List (Nat × Nat × Int))) : Prop := (∀ b : Nat, (b : Int) < n → cd_LM a1 b = cd_LM a b ∧ a1 48 b = a 48 b ∧ a1 49 b = a 49 b) ∧ (n1 = n ∨ (n1 = n + 1 ∧ cd_LM a1 n.toNat = D ∧ (a1 48 n.toNat).toInt = cd_dk D ∧ a1 49 n.toNat = d))
set_option maxHeartbeats 4000000 in
set_option maxRecDepth 100000 in
theorem m_bylawC (l : Launch) (dC : Nat → ClassId) (dI : Nat → Nat → Nat) (sz h : Nat) (ad : Nat → Nat) (cA : Nat → ClassId) (hd : dM h ad) (fv : Nat → Int32) (wd : Int64) (ar : Nat → Nat → Int32) (hF_fv : rF fv) (hA_ar : rA ar) (dd : Int32) (hp_vM : vM fv ar) : Met l yX12_bylaw (.code yX12_bylaw cX12_bylaw 3 (some .int) :: lw_good) ({ frames := 7, cells := 0, slots := 0, locals := 151 }) (va_Pc [.ref h, .int dd] (prM dC dI h ad cA fv wd ar sz)) (va_Qi (fun (r : Int32) (u : mS) => rF u.1 ∧ rA u.2.2 ∧ fM [0, 2, 37, 38, 39, 40, 41, 42, 43, 44, 45, 58, 59, 60, 61, 62, 63] fv u.1 ∧ fA [47, 48, 49, 50, 51, 52, 53, 54, 55, 56, 57] ar u.2.2 ∧ ((u.1 2).toInt = 0) ∧ (rd_by (rd_T (rd_b (ar 1)) (fv 2).toInt.toNat) (rd_S (rd_b (ar 1)) (fv 2).toInt.toNat) (rd_N (rd_b (ar 1)) (fv 2).toInt.toNat) r (u.1 43) (fv 43) (u.1 58) (fv 58) (fv 3) dd) ∧ (cd_bM (fv 58).toInt (u.1 58).toInt ar u.2.2 dd (cd_txt (rd_T (rd_b (ar 1)) (fv 2).toInt.toNat) (rd_N (rd_b (ar 1)) (fv 2).toInt.toNat))) ∧ (vM u.1 u.2.2) ∧ True) (enM dC dI h ad cA) (aM h ad sz)) 0 0 (aM h ad sz) := by
  sorry
set_option maxHeartbeats 4000000 in
set_option maxRecDepth 100000 in
theorem m_faultC (l : Launch) (dC : Nat → ClassId) (dI : Nat → Nat → Nat) (sz h : Nat) (ad : Nat → Nat) (cA : Nat → ClassId) (hd : dM h ad) (fv : Nat → Int32) (wd : Int64) (ar : Nat → Nat → Int32) (hF_fv : rF fv) (hA_ar : rA ar) : Met l yX12_fault (.code yX12_fault cX12_fault 1 (some .int) :: lw_good) ({ frames := 2, cells := 0, slots := 0, locals := 40 }) (va_Pc [.ref h] (prM dC dI h ad cA fv wd ar sz)) (va_Qi (fun (r : Int32) (u : mS) => rF u.1 ∧ rA u.2.2 ∧ fM [0] fv u.1 ∧ fA [] ar u.2.2 ∧ (r = fv 43) ∧ True) (enM dC dI h ad cA) (aM h ad sz)) 0 0 (aM h ad sz) := by
  sorry
def cd_bX (n n1 : Int) (gfr gfr9 : Nat → Int32) (gln gln9 : Nat → Nat) (glr glr9 : Nat → Nat → Nat → Int32) (a : Int32) (D : List (Int × Int × List (Nat × Nat × Int))) : Prop := (∀ i : Nat, (i : Int) ≤ n → gfr9 i = gfr i ∧ gln9 i = gln i ∧ glr9 i = glr i) ∧ (n1 = n ∨ (n1 = n + 1 ∧ gfr9 n1.toNat = a ∧ cd_Wf (cd_gX (glr9 n1.toNat)) (gln9 n1.toNat) 0 = D ∧ ∀ l ∈ D, cd_gd l))
set_option maxHeartbeats 4000000 in
set_option maxRecDepth 100000 in
theorem x_bylawC (l : Launch) (dC : Nat → ClassId) (dI : Nat → Nat → Nat) (sz : Nat) (ob ad : Nat → Nat) (cA : Nat → ClassId) (hd : dX ob ad) (fv : Nat → Int32) (wd : xT) (ar : Nat → Nat → Int32) (hF_fv : rX fv) (hA_ar : rB ar) (tkK tkV tkL : Nat → Nat) (tkB : Nat → Nat → Int32) (tkT : Nat) (tA : Nat → Nat) (hto : tO tA wd.2.1) (a : Int32) (hhx : rd_hx tkL tkB) (tD : Nat) (gla : Nat → Nat) (gfr : Nat → Int32) (gra : Nat → Nat → Nat) (grc : Nat → Nat → ClassId) (gln gcn : Nat → Nat) (glr : Nat → Nat → Nat → Int32) (ce : ClassId) (ef : Nat → Option Nat) (hed0 : (fv 30).toInt = 0 → wd.2.2.2 = tD) (hNE : 0 < (fv 30).toInt → lsN (fun q => q ≠ wd.2.2.2) gla gra (fv 30).toInt) (hGRs : ∀ i : Nat, (i : Int) ≤ (fv 30).toInt → ∀ j : Nat, gra i j < sz) : Met l yX11_bylaw (.code yX11_bylaw cX11_bylaw 3 (some .int) :: lw_good) ({ frames := 38, cells := 8, slots := 365, locals := 900 }) (va_Pc [.ref (ob 0), .int a] (fun U => prX dC dI ob ad cA fv wd ar sz U ∧ tkA ob ad tA sz U ∧ txA ob ad tA tkK tkV tkL tkB tkT sz U ∧ lsA dC dI ob ad gla gfr gra grc gln gcn glr ce ef (fv 30).toInt wd.2.2.2 sz U ∧ va_Z "java/util/ArrayList" "DEFAULTCAPACITY_EMPTY_ELEMENTDATA" "[Ljava/lang/Object;" (.ref tD) (fun q => aX ob ad sz q ∨ (0 < (fv 30).toInt ∧ q = wd.2.2.2)) U U.heap ∧ va_T (.object "java/lang/Object") tD 0 (fun _ => .null) (fun q => aX ob ad sz q ∨ (0 < (fv 30).toInt ∧ q = wd.2.2.2)) U U.heap ∧ va_AO "java/lang/Object" U ∧ va_Nw (.castable RX0 "java/lang/Object") U)) (va_Qi (fun (r : Int32) (u : xS) => rX u.1 ∧ rB u.2.2 ∧ fM [0, 2, 13, 14, 15, 16, 17, 18, 19, 20, 29, 30] fv u.1 ∧ fA [36, 37, 38, 39, 40, 41, 42, 43] ar u.2.2 ∧ (tO tA u.2.1.2.1) ∧ ((u.1 0).toInt = 0) ∧ (rd_by (rd_T (rd_b (ar 1)) ((fv 0).toInt.toNat)) (rd_S (rd_b (ar 1)) ((fv 0).toInt.toNat)) (rd_N (rd_b (ar 1)) ((fv 0).toInt.toNat)) r (u.1 2) (fv 2) (u.1 30) (fv 30) (fv 7) a) ∧ True) (fun (u : xS) (t : State) => enX dC dI ob ad cA u t ∧ ∃ (gla9 : Nat → Nat) (gfr9 : Nat → Int32) (gra9 : Nat → Nat → Nat) (grc9 : Nat → Nat → ClassId) (gln9 gcn9 : Nat → Nat) (glr9 : Nat → Nat → Nat → Int32) (ce9 : ClassId) (ef9 : Nat → Option Nat), lsA dC dI ob ad gla9 gfr9 gra9 grc9 gln9 gcn9 glr9 ce9 ef9 (u.1 30).toInt u.2.1.2.2.2 t.heap.size t ∧ ((u.1 30).toInt = 0 → u.2.1.2.2.2 = tD) ∧ (0 < (u.1 30).toInt → lsN (fun q => q ≠ u.2.1.2.2.2) gla9 gra9 (u.1 30).toInt) ∧ cd_bX (fv 30).toInt (u.1 30).toInt gfr gfr9 gln gln9 glr glr9 a (cd_txt (rd_T (rd_b (ar 1)) ((fv 0).toInt.toNat)) (rd_N (rd_b (ar 1)) ((fv 0).toInt.toNat))) ∧ ∀ P : Nat → Prop, (∀ q, sz ≤ q → q < t.heap.size → P q) → lsN P gla gra (fv 30).toInt → (0 < (fv 30).toInt → P wd.2.2.2) → lsN P gla9 gra9 (u.1 30).toInt ∧ (0 < (u.1 30).toInt → P u.2.1.2.2.2)) (fun q => aX ob ad sz q ∨ (0 < (fv 30).toInt ∧ q = wd.2.2.2))) 8 365 (fun q => aX ob ad sz q ∨ (0 < (fv 30).toInt ∧ q = wd.2.2.2)) := by
  sorry
set_option maxHeartbeats 4000000 in
set_option maxRecDepth 100000 in
theorem x_faultC (l : Launch) (dC : Nat → ClassId) (dI : Nat → Nat → Nat) (sz : Nat) (ob ad : Nat → Nat) (cA : Nat → ClassId) (hd : dX ob ad) (fv : Nat → Int32) (wd : xT) (ar : Nat → Nat → Int32) (hF_fv : rX fv) (hA_ar : rB ar) : Met l yX11_fault (.code yX11_fault cX11_fault 1 (some .int) :: lw_good) ({ frames := 2, cells := 0, slots := 0, locals := 40 }) (va_Pc [.ref (ob 0)] (prX dC dI ob ad cA fv wd ar sz)) (va_Qi (fun (r : Int32) (u : xS) => rX u.1 ∧ rB u.2.2 ∧ fM [] fv u.1 ∧ fA [] ar u.2.2 ∧ u.2.1.2 = wd.2 ∧ (r = fv 2) ∧ True) (enX dC dI ob ad cA) (aX ob ad sz)) 0 0 (aX ob ad sz) := by
  sorry
def cd_ho (f : Nat → Int) (c : List (Nat × Nat × Int)) : Bool := (cd_ev f [] c).headD true
def cd_f (g : Nat → Int32) (k : Nat) : Int := if k < 12 then (g k).toInt else 0
def cd_fi (f : Nat → Int) (k : Int) : List (Int × Int × List (Nat × Nat × Int)) → Nat → Int
  | [], _ => -1
  | x :: r, i => if x.1 = k ∧ cd_ho f x.2.2 = true then (i : Int) else cd_fi f k r (i + 1)
def cd_fv (f : Nat → Int) (k : Int) : List (Int × Int × List (Nat × Nat × Int)) → Int
  | [] => 0
  | x :: r => if x.1 = k ∧ cd_ho f x.2.2 = true then x.2.1 else cd_fv f k r
def cd_pl (k : Int) (tx : Bool) : Int := if k = 0 then 1 else if k = 2 then (if tx then 10 else 0) else if k = 3 then 15 else if k = 4 then 500 else if k = 5 then (if tx then 0 else 20) else 0
def cd_al (f : Nat → Int) (k : Int) (tx : Bool) (W : List (Int × Int × List (Nat × Nat × Int))) : Int := if k = 5 ∧ tx = true then -1 else cd_fi f k W 0
def cd_av (f : Nat → Int) (k : Int) (tx : Bool) (W : List (Int × Int × List (Nat × Nat × Int))) : Int := if cd_al f k tx W = -1 then cd_pl k tx else cd_fv f k W
def cd_fc (kd ins se rn mi td fr to_ ri ti : Int) (k : Nat) : Int := if k = 0 then (if kd = 0 then 1 else 0) else if k = 1 then (if kd = 1 then 1 else 0) else if k = 2 then (if kd = 2 then 1 else 0) else if k = 3 then (if td ≤ ins then 1 else 0) else if k = 4 then ri else if k = 5 then se else if k = 6 then rn else if k = 7 then mi else if k = 8 then td else if k = 9 then fr else if k = 10 then to_ else if k = 11 then ti else 0
def cd_nw (fr : Nat → Int) (td : Int) : Nat → Nat × Int
  | 0 => (0, -1)
  | n + 1 => if fr (n + 1) ≤ td ∧ (cd_nw fr td n).2 ≤ fr (n + 1) then (n + 1, fr (n + 1)) else cd_nw fr td n
theorem cd_nw_y {fr : Nat → Int} {td : Int} {n : Nat} (h : fr (n + 1) ≤ td ∧ (cd_nw fr td n).2 ≤ fr (n + 1)) : cd_nw fr td (n + 1) = (n + 1, fr (n + 1)) := if_pos h
theorem cd_nw_n {fr : Nat → Int} {td : Int} {n : Nat} (h : ¬ (fr (n + 1) ≤ td ∧ (cd_nw fr td n).2 ≤ fr (n + 1))) : cd_nw fr td (n + 1) = cd_nw fr td n := if_neg h
theorem cd_nw_le (fr : Nat → Int) (td : Int) : ∀ n, (cd_nw fr td n).1 ≤ n := by
  intro n
  induction n with
  | zero => exact Nat.le_refl _
  | succ n ih =>
    by_cases h : fr (n + 1) ≤ td ∧ (cd_nw fr td n).2 ≤ fr (n + 1)
    · rw [cd_nw_y h]; exact Nat.le_refl _
    · rw [cd_nw_n h]; omega
def wt_rf (d w : Int32) (g : Nat → Int32) : Int := if w.toInt = 0 then 0 else if d.toInt < w.toInt then (g d.toInt.toNat).toInt else 9
def cd_ri (k ri : Int) : Int := if k = 0 ∨ k = 2 ∨ k = 5 then 0 else ri
def mx_f01 (ar : Nat → Nat → Int32) : Prop := ∀ k, k < 4 → cd_f (ar 4) k = 0 ∨ cd_f (ar 4) k = 1
theorem mx_f01_fr {N : List Nat} {a a1 : Nat → Nat → Int32} (h : mx_f01 a) (ha : fA N a a1) (h4 : N.contains 4 = false) : mx_f01 a1 := by
  unfold mx_f01; rw [ha 4 h4]; exact h
set_option maxHeartbeats 4000000 in
set_option maxRecDepth 100000 in
theorem x_toldE (l : Launch) (dC : Nat → ClassId) (dI : Nat → Nat → Nat) (sz : Nat) (ob ad : Nat → Nat) (cA : Nat → ClassId) (hd : dX ob ad) (fv : Nat → Int32) (wd : xT) (ar : Nat → Nat → Int32) (hF_fv : rX fv) (hA_ar : rB ar) (gla : Nat → Nat) (gfr : Nat → Int32) (gra : Nat → Nat → Nat) (grc : Nat → Nat → ClassId) (gln gcn : Nat → Nat) (glr : Nat → Nat → Nat → Int32) (ce : ClassId) (ef : Nat → Option Nat) (a : Int32) (b : Int32) (v : Int32) (d : Int32) (hgds : ∀ i : Nat, (i : Int) ≤ (fv 30).toInt → ∀ j, j < gln i → cd_gd (cd_gX (glr i) j)) (hp_f01 : mx_f01 ar) : Met l yX11_told (.code yX11_told cX11_told 6 (some .int) :: lw_good) ({ frames := 6, cells := 0, slots := 0, locals := 128 }) (va_Pc [.ref (ob 0), .int a, .int b, .int v, .int d] (fun U => prX dC dI ob ad cA fv wd ar sz U ∧ lsA dC dI ob ad gla gfr gra grc gln gcn glr ce ef (fv 30).toInt wd.2.2.2 sz U)) (va_Qi (fun (r : Int32) (u : xS) => rX u.1 ∧ rB u.2.2 ∧ fM [1, 6] fv u.1 ∧ fA [4] ar u.2.2 ∧ u.2.1.2 = wd.2 ∧ (((a.toInt < 0 ∨ (fv 12).toInt ≤ a.toInt ∨ b.toInt < 0 ∨ 5 < b.toInt ∨ v.toInt < 0 ∨ d.toInt < 0) ∧ r = -1 ∧ u.1 1 = -1) ∨ (¬ (a.toInt < 0 ∨ (fv 12).toInt ≤ a.toInt ∨ b.toInt < 0 ∨ 5 < b.toInt ∨ v.toInt < 0 ∨ d.toInt < 0) ∧ r.toInt = cd_av (cd_fc (ar 20 ((ar 28 (a.toInt.toNat)).toInt.toNat)).toInt (ar 23 ((ar 28 (a.toInt.toNat)).toInt.toNat)).toInt (ar 22 ((ar 28 (a.toInt.toNat)).toInt.toNat)).toInt (wt_rf (fv 7) (fv 5) (ar 3)) (ar 31 (a.toInt.toNat)).toInt (fv 7).toInt (ar 29 (a.toInt.toNat)).toInt (ar 30 (a.toInt.toNat)).toInt (cd_ri b.toInt v.toInt) d.toInt) b.toInt (decide ((ar 20 ((ar 28 (a.toInt.toNat)).toInt.toNat)).toInt = 2)) (cd_Wf (cd_gX (glr ((cd_nw (fun i => (gfr i).toInt) (fv 7).toInt ((fv 30).toInt.toNat)).1))) (gln ((cd_nw (fun i => (gfr i).toInt) (fv 7).toInt ((fv 30).toInt.toNat)).1)) 0) ∧ (u.1 1).toInt = cd_al (cd_fc (ar 20 ((ar 28 (a.toInt.toNat)).toInt.toNat)).toInt (ar 23 ((ar 28 (a.toInt.toNat)).toInt.toNat)).toInt (ar 22 ((ar 28 (a.toInt.toNat)).toInt.toNat)).toInt (wt_rf (fv 7) (fv 5) (ar 3)) (ar 31 (a.toInt.toNat)).toInt (fv 7).toInt (ar 29 (a.toInt.toNat)).toInt (ar 30 (a.toInt.toNat)).toInt (cd_ri b.toInt v.toInt) d.toInt) b.toInt (decide ((ar 20 ((ar 28 (a.toInt.toNat)).toInt.toNat)).toInt = 2)) (cd_Wf (cd_gX (glr ((cd_nw (fun i => (gfr i).toInt) (fv 7).toInt ((fv 30).toInt.toNat)).1))) (gln ((cd_nw (fun i => (gfr i).toInt) (fv 7).toInt ((fv 30).toInt.toNat)).1)) 0))) ∧ (mx_f01 u.2.2) ∧ True) (enX dC dI ob ad cA) (aX ob ad sz)) 0 0 (aX ob ad sz) := by
  sorry
theorem cd_Wf_mem0 {g : Nat → Int × Int × List (Nat × Nat × Int)} : ∀ n i j, i ≤ j → j < i + n → g j ∈ cd_Wf g n i := by
  intro n
  induction n with
  | zero => intro i j h1 h2; omega
  | succ n ih =>
    intro i j h1 h2
    have e : cd_Wf g (n + 1) i = g i :: cd_Wf g n (i + 1) := rfl
    rw [e]
    by_cases q : j = i
    · rw [q]; exact List.mem_cons_self ..
    · exact List.mem_cons_of_mem _ (ih (i + 1) j (by omega) (by omega))
set_option maxHeartbeats 4000000 in
set_option maxRecDepth 100000 in
theorem m_toldE (l : Launch) (dC : Nat → ClassId) (dI : Nat → Nat → Nat) (sz h : Nat) (ad : Nat → Nat) (cA : Nat → ClassId) (hd : dM h ad) (fv : Nat → Int32) (wd : Int64) (ar : Nat → Nat → Int32) (hF_fv : rF fv) (hA_ar : rA ar) (a : Int32) (b : Int32) (v : Int32) (f : Int32) (hgdm : ∀ b : Nat, (b : Int) < (fv 58).toInt → ∀ l ∈ cd_LM ar b, cd_gd l) (hfd : ∀ i : Nat, (i : Int) < (fv 58).toInt → 0 ≤ (ar 49 i).toInt) (hp_vM : vM fv ar) : Met l yX12_told (.code yX12_told cX12_told 6 (some .int) :: lw_good) ({ frames := 5, cells := 0, slots := 0, locals := 114 }) (va_Pc [.ref h, .int a, .int b, .int v, .int f] (prM dC dI h ad cA fv wd ar sz)) (va_Qi (fun (r : Int32) (u : mS) => rF u.1 ∧ rA u.2.2 ∧ fM [0, 66, 67] fv u.1 ∧ fA [64, 65] ar u.2.2 ∧ (((a.toInt < 0 ∨ (fv 35).toInt ≤ a.toInt ∨ b.toInt < 0 ∨ 5 < b.toInt ∨ v.toInt < 0 ∨ f.toInt < 0) ∧ r = -1 ∧ u.1 67 = fv 67) ∨ (¬ (a.toInt < 0 ∨ (fv 35).toInt ≤ a.toInt ∨ b.toInt < 0 ∨ 5 < b.toInt ∨ v.toInt < 0 ∨ f.toInt < 0) ∧ r.toInt = cd_av (cd_fc (ar 20 ((ar 25 (a.toInt.toNat)).toInt.toNat)).toInt (ar 23 ((ar 25 (a.toInt.toNat)).toInt.toNat)).toInt (ar 22 ((ar 25 (a.toInt.toNat)).toInt.toNat)).toInt (wt_rf (fv 3) (fv 7) (ar 5)) (ar 28 (a.toInt.toNat)).toInt (fv 3).toInt (ar 26 (a.toInt.toNat)).toInt (ar 27 (a.toInt.toNat)).toInt (cd_ri b.toInt v.toInt) f.toInt) b.toInt (decide ((ar 20 ((ar 25 (a.toInt.toNat)).toInt.toNat)).toInt = 2)) (if ((cd_nw (fun i => (ar 49 (i - 1)).toInt) (fv 3).toInt ((fv 58).toInt.toNat)).1) = 0 then [] else cd_LM ar (((cd_nw (fun i => (ar 49 (i - 1)).toInt) (fv 3).toInt ((fv 58).toInt.toNat)).1) - 1)) ∧ (u.1 67).toInt = cd_al (cd_fc (ar 20 ((ar 25 (a.toInt.toNat)).toInt.toNat)).toInt (ar 23 ((ar 25 (a.toInt.toNat)).toInt.toNat)).toInt (ar 22 ((ar 25 (a.toInt.toNat)).toInt.toNat)).toInt (wt_rf (fv 3) (fv 7) (ar 5)) (ar 28 (a.toInt.toNat)).toInt (fv 3).toInt (ar 26 (a.toInt.toNat)).toInt (ar 27 (a.toInt.toNat)).toInt (cd_ri b.toInt v.toInt) f.toInt) b.toInt (decide ((ar 20 ((ar 25 (a.toInt.toNat)).toInt.toNat)).toInt = 2)) (if ((cd_nw (fun i => (ar 49 (i - 1)).toInt) (fv 3).toInt ((fv 58).toInt.toNat)).1) = 0 then [] else cd_LM ar (((cd_nw (fun i => (ar 49 (i - 1)).toInt) (fv 3).toInt ((fv 58).toInt.toNat)).1) - 1)))) ∧ True) (enM dC dI h ad cA) (aM h ad sz)) 0 0 (aM h ad sz) := by
  sorry
def wt_ru (r : Int32) (g1 g : Nat → Int32) (n x : Int32) : Prop := (r.toInt < 0 ∧ g1 = g) ∨ (0 ≤ r.toInt ∧ g1 = upd g n.toInt.toNat x)
theorem wt_ru_det {r : Int32} {g1 g2 g : Nat → Int32} {n x : Int32} (h1 : wt_ru r g1 g n x) (h2 : wt_ru r g2 g n x) : g1 = g2 := by
  rcases h1 with ⟨a9, b9⟩ | ⟨a9, b9⟩ <;> rcases h2 with ⟨a8, b8⟩ | ⟨a8, b8⟩
  · exact b9.trans b8.symm
  · omega
  · omega
  · exact b9.trans b8.symm
def wt_rz (r : Int32) (g1 g : Nat → Int32) (n x : Int32) : Prop := (r = 0 ∧ g1 = g) ∨ (r = 1 ∧ g1 = upd g n.toInt.toNat x)
theorem wt_rz_det {r : Int32} {g1 g2 g : Nat → Int32} {n x : Int32} (h1 : wt_rz r g1 g n x) (h2 : wt_rz r g2 g n x) : g1 = g2 := by
  rcases h1 with ⟨a9, b9⟩ | ⟨a9, b9⟩ <;> rcases h2 with ⟨a8, b8⟩ | ⟨a8, b8⟩
  · exact b9.trans b8.symm
  · exact absurd (a9.symm.trans a8) (by decide)
  · exact absurd (a8.symm.trans a9) (by decide)
  · exact b9.trans b8.symm
set_option maxHeartbeats 4000000 in
set_option maxRecDepth 100000 in
theorem x_insureR (l : Launch) (dC : Nat → ClassId) (dI : Nat → Nat → Nat) (sz : Nat) (ob ad : Nat → Nat) (cA : Nat → ClassId) (hd : dX ob ad) (fv : Nat → Int32) (wd : xT) (ar : Nat → Nat → Int32) (hF_fv : rX fv) (hA_ar : rB ar) (a : Int32) (b : Int32) : Met l yX11_insure (.code yX11_insure cX11_insure 3 (some .boolean) :: lw_good) ({ frames := 3, cells := 0, slots := 0, locals := 61 }) (va_Pc [.ref (ob 0), .int a, .int b] (prX dC dI ob ad cA fv wd ar sz)) (va_Qi (fun (r : Int32) (u : xS) => rX u.1 ∧ rB u.2.2 ∧ fM [] fv u.1 ∧ fA [23] ar u.2.2 ∧ u.2.1.2 = wd.2 ∧ (0 ≤ r.toInt ∧ r.toInt ≤ 1) ∧ (ps_insure r (fv 11) a b) ∧ (wt_rz r (u.2.2 23) (ar 23) a b) ∧ True) (enX dC dI ob ad cA) (aX ob ad sz)) 0 0 (aX ob ad sz) := by
  sorry
set_option maxHeartbeats 4000000 in
set_option maxRecDepth 100000 in
theorem m_insureR (l : Launch) (dC : Nat → ClassId) (dI : Nat → Nat → Nat) (sz h : Nat) (ad : Nat → Nat) (cA : Nat → ClassId) (hd : dM h ad) (fv : Nat → Int32) (wd : Int64) (ar : Nat → Nat → Int32) (hF_fv : rF fv) (hA_ar : rA ar) (a : Int32) (b : Int32) : Met l yX12_insure (.code yX12_insure cX12_insure 3 (some .boolean) :: lw_good) ({ frames := 3, cells := 0, slots := 0, locals := 62 }) (va_Pc [.ref h, .int a, .int b] (prM dC dI h ad cA fv wd ar sz)) (va_Qi (fun (r : Int32) (u : mS) => rF u.1 ∧ rA u.2.2 ∧ fM [0] fv u.1 ∧ fA [23] ar u.2.2 ∧ (0 ≤ r.toInt ∧ r.toInt ≤ 1) ∧ (ps_insure r (fv 34) a b) ∧ (wt_rz r (u.2.2 23) (ar 23) a b) ∧ True) (enM dC dI h ad cA) (aM h ad sz)) 0 0 (aM h ad sz) := by
  sorry
def mo_mn (p q : Int) : Int := if p < q then p else q
theorem mo_mn_le (p q x : Int) : mo_mn p q ≤ x ↔ (p ≤ x ∨ q ≤ x) := by
  unfold mo_mn
  by_cases h : p < q
  · rw [if_pos h]; omega
  · rw [if_neg h]; omega
def mo_pace (age shoes rain : Int) : Int := 18 + rain + (if 40 < age then (age - 40) / 10 else 0) + (if shoes = 1 then 4 else if shoes = 0 then 9 else 0)
def mo_min (len pace : Int) : Int := if 10000000 ≤ len then 10000000 else (len * pace + 9) / 10
def mo_gt (D : Nat → Nat → Int32) (k : Nat) : Prop := (D 15 k).toInt ≤ (D 19 3).toInt ∧ (D 19 3).toInt ≤ (D 16 k).toInt ∧ (D 11 k).toInt ≠ (D 19 5).toInt
def mo_cf (D : Nat → Nat → Int32) (k : Nat) : Nat := (D 18 (D 12 k).toInt.toNat).toInt.toNat
def mo_ct (D : Nat → Nat → Int32) (k : Nat) : Nat := (D 18 (D 13 k).toInt.toNat).toInt.toNat
def mo_ln (D : Nat → Nat → Int32) (G : Nat → Int) (k : Nat) : Int := G (12 * mo_cf D k + mo_ct D k)
def mo_rn (D : Nat → Nat → Int32) (G : Nat → Int) (k : Nat) : Prop := mo_gt D k ∧ mo_ln D G k < 10000000
def mo_dp (rain kind : Int) : Int := (if kind = 1 then 4 else 3) + (if 4 < rain ∧ kind ≠ 2 then 1 else 0)
def mo_dr (D : Nat → Nat → Int32) (G : Nat → Int) (k : Nat) : Int := if mo_min (mo_ln D G k) (mo_dp (D 19 4).toInt (D 7 (D 11 k).toInt.toNat).toInt) < 1 then 1 else mo_min (mo_ln D G k) (mo_dp (D 19 4).toInt (D 7 (D 11 k).toInt.toNat).toInt)
def mo_cm (D : Nat → Nat → Int32) (G : Nat → Int) (k : Nat) : Int := (D 14 k).toInt + mo_dr D G k
def mo_wk (G : Nat → Int) (pace : Int) (a b : Nat) : Int := mo_min (G (12 * a + b)) pace
def mo_ft (D : Nat → Nat → Int32) (G : Nat → Int) (p : Nat) (pc : Int) (k : Nat) : Int := mo_cm D G k + mo_wk G pc (mo_ct D k) (D 1 p).toInt.toNat
def mo_hd (D : Nat → Nat → Int32) (p k : Nat) : Prop := (D 17 k).toInt + (D 5 p).toInt ≤ (D 19 3).toInt
def mo_g (D : Nat → Nat → Int32) (G : Nat → Int) (p k : Nat) : Prop := mo_rn D G k ∧ mo_hd D p k
def mo_cc (D : Nat → Nat → Int32) (G : Nat → Int) (n k : Nat) : Prop := (D 12 n).toInt = (D 13 k).toInt ∧ mo_cm D G k ≤ (D 14 n).toInt
def mo_cd (D : Nat → Nat → Int32) (G : Nat → Int) (p a : Nat) (pc m na : Int) (k : Nat) : Prop := mo_g D G p k ∧ na ≤ (D 14 k).toInt ∧ m + mo_wk G pc a (mo_cf D k) ≤ (D 14 k).toInt
def mo_th (L : Int) (c : Nat → Nat → Prop) (g : Nat → Prop) (nt : Nat) (foot W : Nat → Int) : Prop := ∀ k, k < nt → g k → ∀ x : Int, x < L → (W k ≤ x ↔ (foot k ≤ x ∨ ∃ n, n < nt ∧ g n ∧ c n k ∧ W n ≤ x))
theorem mo_th_u {L : Int} {c : Nat → Nat → Prop} {g : Nat → Prop} {nt : Nat} {foot W1 W2 mi : Nat → Int} (hc : ∀ n k, c n k → mi k < mi n) (hb : ∀ n, mi n ≤ 719) (h1 : mo_th L c g nt foot W1) (h2 : mo_th L c g nt foot W2) : ∀ k, k < nt → g k → ∀ x : Int, x < L → (W1 k ≤ x ↔ W2 k ≤ x) := by
  have key : ∀ d : Nat, ∀ k, k < nt → g k → 720 - (d : Int) ≤ mi k → ∀ x : Int, x < L → (W1 k ≤ x ↔ W2 k ≤ x) := by
    intro d
    induction d with
    | zero =>
      intro k hk hg hm
      have h9 := hb k
      exfalso
      omega
    | succ d ih =>
      intro k hk hg hm x hx
      rw [h1 k hk hg x hx, h2 k hk hg x hx]
      constructor
      · rintro (h | ⟨n, hn, hgn, hcn, hw⟩)
        · exact Or.inl h
        · have h9 := hc n k hcn
          exact Or.inr ⟨n, hn, hgn, hcn, (ih n hn hgn (by omega) x hx).mp hw⟩
      · rintro (h | ⟨n, hn, hgn, hcn, hw⟩)
        · exact Or.inl h
        · have h9 := hc n k hcn
          exact Or.inr ⟨n, hn, hgn, hcn, (ih n hn hgn (by omega) x hx).mpr hw⟩
  intro k hk hg x hx
  have h9 := hb k
  exact key (720 - mi k).toNat k hk hg (by omega) x hx
theorem mo_le_eq {L a b : Int} (h : ∀ x : Int, x < L → (a ≤ x ↔ b ≤ x)) : a = b ∨ (L ≤ a ∧ L ≤ b) := by
  by_cases q : a < L
  · have h1 := (h a q).mp (Int.le_refl a)
    have h2 := (h b (by omega)).mpr (Int.le_refl b)
    omega
  · by_cases q2 : b < L
    · have h2 := (h b q2).mpr (Int.le_refl b)
      omega
    · exact Or.inr ⟨by omega, by omega⟩
def mo_ch (L b0 : Int) (cand : Nat → Prop) (nt : Nat) (W : Nat → Int) (r : Int) : Prop := (r = -1 ∧ ∀ k, k < nt → cand k → W k < L → b0 ≤ W k) ∨ (∃ t : Nat, r = (t : Int) ∧ t < nt ∧ cand t ∧ W t < L ∧ W t < b0 ∧ ∀ k, k < nt → cand k → W k < L → W t < W k ∨ (W t = W k ∧ t ≤ k))
theorem mo_ch_u {L b0 : Int} {cand g : Nat → Prop} {nt : Nat} {W1 W2 : Nat → Int} {r1 r2 : Int} (hg : ∀ k, cand k → g k) (hW : ∀ k, k < nt → g k → ∀ x : Int, x < L → (W1 k ≤ x ↔ W2 k ≤ x)) (h1 : mo_ch L b0 cand nt W1 r1) (h2 : mo_ch L b0 cand nt W2 r2) : r1 = r2 := by
  have hk : ∀ k, k < nt → cand k → W1 k = W2 k ∨ (L ≤ W1 k ∧ L ≤ W2 k) := fun k h c => mo_le_eq (hW k h (hg k c))
  rcases h1 with ⟨e1, m1⟩ | ⟨t1, e1, l1, c1, f1, w1, m1⟩ <;> rcases h2 with ⟨e2, m2⟩ | ⟨t2, e2, l2, c2, f2, w2, m2⟩
  · exact e1.trans e2.symm
  · exfalso
    have h := hk t2 l2 c2
    have h9 := m1 t2 l2 c2 (by omega)
    omega
  · exfalso
    have h := hk t1 l1 c1
    have h9 := m2 t1 l1 c1 (by omega)
    omega
  · have ha := hk t1 l1 c1
    have hb2 := hk t2 l2 c2
    have g1 := m1 t2 l2 c2 (by omega)
    have g2 := m2 t1 l1 c1 (by omega)
    have : t1 = t2 := by omega
    rw [e1, e2, this]
def mo_nt (D : Nat → Nat → Int32) : Nat := (D 19 2).toInt.toNat
def mo_pk (D : Nat → Nat → Int32) (G : Nat → Int) (p a : Nat) (pc m na r : Int) : Prop := ∃ W : Nat → Int, mo_th 50000 (mo_cc D G) (mo_g D G p) (mo_nt D) (mo_ft D G p pc) W ∧ mo_ch 50000 (m + mo_wk G pc a (D 1 p).toInt.toNat) (mo_cd D G p a pc m na) (mo_nt D) W r
theorem mo_dr1 (D : Nat → Nat → Int32) (G : Nat → Int) (k : Nat) : 1 ≤ mo_dr D G k := by
  unfold mo_dr
  by_cases q : mo_min (mo_ln D G k) (mo_dp (D 19 4).toInt (D 7 (D 11 k).toInt.toNat).toInt) < 1
  · rw [if_pos q]; omega
  · rw [if_neg q]; omega
theorem mo_cc_lt {D : Nat → Nat → Int32} {G : Nat → Int} {n k : Nat} (h : mo_cc D G n k) : (D 14 k).toInt < (D 14 n).toInt := by
  have h9 := h.2
  have h8 := mo_dr1 D G k
  unfold mo_cm at h9
  omega
theorem mo_pk_u {D : Nat → Nat → Int32} {G : Nat → Int} {p a : Nat} {pc m na r1 r2 : Int} (hm : ∀ k, (D 14 k).toInt ≤ 719) (h1 : mo_pk D G p a pc m na r1) (h2 : mo_pk D G p a pc m na r2) : r1 = r2 := by
  obtain ⟨W1, t1, c1⟩ := h1
  obtain ⟨W2, t2, c2⟩ := h2
  have hW := mo_th_u (mi := fun k => (D 14 k).toInt) (fun n k h => mo_cc_lt h) hm t1 t2
  exact mo_ch_u (g := mo_g D G p) (fun k h => h.1) hW c1 c2
theorem mo_pk_r {D : Nat → Nat → Int32} {G : Nat → Int} {p a : Nat} {pc m na r : Int} (h : mo_pk D G p a pc m na r) : r = -1 ∨ ∃ t : Nat, r = (t : Int) ∧ t < mo_nt D ∧ mo_cd D G p a pc m na t := by
  obtain ⟨W, _, h9⟩ := h
  rcases h9 with ⟨e, _⟩ | ⟨t, e, l, c, _⟩
  · exact Or.inl e
  · exact Or.inr ⟨t, e, l, c⟩
def mo_GR (G : Nat → Int) : Prop := ∀ i, i < 144 → 0 ≤ G i ∧ (G i ≤ 1089 ∨ G i = 10000000)
def mo_R (D : Nat → Nat → Int32) : Prop := (∀ i, 0 ≤ (D 18 i).toInt ∧ (D 18 i).toInt ≤ 11) ∧ (∀ i, 0 ≤ (D 1 i).toInt ∧ (D 1 i).toInt ≤ 11) ∧ (∀ i, 0 ≤ (D 14 i).toInt ∧ (D 14 i).toInt ≤ 719) ∧ (∀ i, 0 ≤ (D 0 i).toInt ∧ (D 0 i).toInt ≤ 11) ∧ (∀ i, 0 ≤ (D 4 i).toInt ∧ (D 4 i).toInt ≤ 99) ∧ (∀ i, 0 ≤ (D 3 i).toInt ∧ (D 3 i).toInt ≤ 719) ∧ (0 ≤ (D 19 4).toInt ∧ (D 19 4).toInt ≤ 9)
theorem mo_wk_b {G : Nat → Int} (hG : mo_GR G) {pc : Int} (h0 : 0 ≤ pc) (h1 : pc ≤ 50) {a b : Nat} (ha : a < 12) (hb : b < 12) : 0 ≤ mo_wk G pc a b ∧ (mo_wk G pc a b ≤ 5446 ∨ mo_wk G pc a b = 10000000) := by
  have h := hG (12 * a + b) (by omega)
  unfold mo_wk mo_min
  by_cases q : 10000000 ≤ G (12 * a + b)
  · rw [if_pos q]; omega
  · rw [if_neg q]
    have e : 0 ≤ G (12 * a + b) * pc := Int.mul_nonneg h.1 h0
    have e2 : G (12 * a + b) * pc ≤ 1089 * pc := Int.mul_le_mul_of_nonneg_right (by omega) h0
    omega
theorem mo_dp_b (rain kind : Int) : 3 ≤ mo_dp rain kind ∧ mo_dp rain kind ≤ 5 := by
  unfold mo_dp
  split <;> split <;> omega
theorem mo_cf_b {D : Nat → Nat → Int32} (h : mo_R D) (k : Nat) : mo_cf D k < 12 := by
  have := h.1 (D 12 k).toInt.toNat
  unfold mo_cf; omega
theorem mo_ct_b {D : Nat → Nat → Int32} (h : mo_R D) (k : Nat) : mo_ct D k < 12 := by
  have := h.1 (D 13 k).toInt.toNat
  unfold mo_ct; omega
theorem mo_dr_b {D : Nat → Nat → Int32} {G : Nat → Int} (hR : mo_R D) (hG : mo_GR G) {k : Nat} (hl : mo_ln D G k < 10000000) : 1 ≤ mo_dr D G k ∧ mo_dr D G k ≤ 546 := by
  have h1 := mo_dr1 D G k
  refine ⟨h1, ?_⟩
  have hp := mo_dp_b (D 19 4).toInt (D 7 (D 11 k).toInt.toNat).toInt
  have hg := hG (12 * mo_cf D k + mo_ct D k) (by have := mo_cf_b hR k; have := mo_ct_b hR k; omega)
  have hl2 : G (12 * mo_cf D k + mo_ct D k) < 10000000 := hl
  unfold mo_dr
  have hm : mo_min (mo_ln D G k) (mo_dp (D 19 4).toInt (D 7 (D 11 k).toInt.toNat).toInt) ≤ 546 := by
    unfold mo_min mo_ln
    rw [if_neg (by omega)]
    have e2 : G (12 * mo_cf D k + mo_ct D k) * mo_dp (D 19 4).toInt (D 7 (D 11 k).toInt.toNat).toInt ≤ 1089 * mo_dp (D 19 4).toInt (D 7 (D 11 k).toInt.toNat).toInt := Int.mul_le_mul_of_nonneg_right (by omega) (by omega)
    omega
  by_cases q : mo_min (mo_ln D G k) (mo_dp (D 19 4).toInt (D 7 (D 11 k).toInt.toNat).toInt) < 1
  · rw [if_pos q]; omega
  · rw [if_neg q]; exact hm
def mo_ms (cand : Nat → Prop) (b0 : Int) (n : Nat) (W : Nat → Int) (le fi : Int) : Prop := (fi = -1 ∧ le = b0 ∧ ∀ k, k < n → cand k → b0 ≤ W k) ∨ (∃ t, t < n ∧ fi = (t : Int) ∧ le = W t ∧ cand t ∧ W t < b0 ∧ ∀ k, k < n → cand k → W t < W k ∨ (W t = W k ∧ t ≤ k))
theorem mo_ms0 (cand : Nat → Prop) (b0 : Int) (W : Nat → Int) : mo_ms cand b0 0 W b0 (-1) := Or.inl ⟨rfl, rfl, fun i hi => absurd hi (Nat.not_lt_zero i)⟩
theorem mo_ms_y {cand : Nat → Prop} {b0 : Int} {n : Nat} {W : Nat → Int} {le fi : Int} (h : mo_ms cand b0 n W le fi) (hc : cand n) (hs : W n < le) : mo_ms cand b0 (n + 1) W (W n) (n : Int) := by
  refine Or.inr ⟨n, Nat.lt_succ_self n, rfl, rfl, hc, ?_, ?_⟩
  · rcases h with ⟨e1, e2, _⟩ | ⟨i, _, _, e2, _, l9, _⟩ <;> omega
  · intro j hj cj
    rcases Nat.lt_or_ge j n with w | w
    · rcases h with ⟨e1, e2, m9⟩ | ⟨i, hi, e1, e2, _, _, m9⟩
      · have := m9 j w cj; omega
      · have := m9 j w cj; omega
    · have e : j = n := by omega
      subst e; exact Or.inr ⟨rfl, Nat.le_refl _⟩
theorem mo_ms_n {cand : Nat → Prop} {b0 : Int} {n : Nat} {W : Nat → Int} {le fi : Int} (h : mo_ms cand b0 n W le fi) (hs : ¬ cand n ∨ le ≤ W n) : mo_ms cand b0 (n + 1) W le fi := by
  rcases h with ⟨e1, e2, m9⟩ | ⟨i, hi, e1, e2, c9, l9, m9⟩
  · refine Or.inl ⟨e1, e2, fun j hj cj => ?_⟩
    rcases Nat.lt_or_ge j n with w | w
    · exact m9 j w cj
    · have e : j = n := by omega
      subst e
      rcases hs with q | q
      · exact absurd cj q
      · omega
  · refine Or.inr ⟨i, by omega, e1, e2, c9, l9, fun j hj cj => ?_⟩
    rcases Nat.lt_or_ge j n with w | w
    · exact m9 j w cj
    · have e : j = n := by omega
      subst e
      rcases hs with q | q
      · exact absurd cj q
      · omega
noncomputable def mo_if (c : Prop) (a b : Int) : Int := @ite Int c (Classical.propDecidable c) a b
theorem mo_if_y {c : Prop} (h : c) (a b : Int) : mo_if c a b = a := if_pos h
theorem mo_if_n {c : Prop} (h : ¬ c) (a b : Int) : mo_if c a b = b := if_neg h
noncomputable def mo_fm (f : Nat → Int) (c : Nat → Prop) (b : Int) : Nat → Int
  | 0 => b
  | n + 1 => mo_if (c n) (mo_mn (mo_fm f c b n) (f n)) (mo_fm f c b n)
theorem mo_fm_le (f : Nat → Int) (c : Nat → Prop) (b x : Int) : ∀ n, mo_fm f c b n ≤ x ↔ (b ≤ x ∨ ∃ k, k < n ∧ c k ∧ f k ≤ x) := by
  intro n
  induction n with
  | zero =>
    show b ≤ x ↔ _
    exact ⟨Or.inl, fun h => h.elim id (fun ⟨k, hk, _⟩ => absurd hk (Nat.not_lt_zero k))⟩
  | succ n ih =>
    show mo_if (c n) (mo_mn (mo_fm f c b n) (f n)) (mo_fm f c b n) ≤ x ↔ _
    by_cases h : c n
    · rw [mo_if_y h, mo_mn_le, ih]
      constructor
      · rintro ((w | ⟨k, hk, ck, fk⟩) | w)
        · exact Or.inl w
        · exact Or.inr ⟨k, by omega, ck, fk⟩
        · exact Or.inr ⟨n, by omega, h, w⟩
      · rintro (w | ⟨k, hk, ck, fk⟩)
        · exact Or.inl (Or.inl w)
        · rcases Nat.lt_or_ge k n with q | q
          · exact Or.inl (Or.inr ⟨k, q, ck, fk⟩)
          · have e : k = n := by omega
            subst e; exact Or.inr fk
    · rw [mo_if_n h, ih]
      constructor
      · rintro (w | ⟨k, hk, ck, fk⟩)
        · exact Or.inl w
        · exact Or.inr ⟨k, by omega, ck, fk⟩
      · rintro (w | ⟨k, hk, ck, fk⟩)
        · exact Or.inl w
        · rcases Nat.lt_or_ge k n with q | q
          · exact Or.inr ⟨k, q, ck, fk⟩
          · have e : k = n := by omega
            subst e; exact absurd ck h
theorem mo_th_ex {L : Int} {c : Nat → Nat → Prop} {g : Nat → Prop} {nt : Nat} {foot mi : Nat → Int} (hc : ∀ n k, c n k → mi k < mi n) (hb : ∀ n, 0 ≤ mi n ∧ mi n ≤ 719) : ∃ W, mo_th L c g nt foot W := by
  have key : ∀ d : Nat, ∃ W : Nat → Int, ∀ k, k < nt → g k → 720 - (d : Int) ≤ mi k → ∀ x : Int, x < L → (W k ≤ x ↔ (foot k ≤ x ∨ ∃ n, n < nt ∧ g n ∧ c n k ∧ W n ≤ x)) := by
    intro d
    induction d with
    | zero => exact ⟨fun _ => 0, fun k hk hg hm => by have := hb k; exfalso; omega⟩
    | succ d ih =>
      obtain ⟨W, hW⟩ := ih
      refine ⟨fun k => if 720 - (d : Int) ≤ mi k then W k else mo_fm W (fun n => g n ∧ c n k) (foot k) nt, fun k hk hg hm x hx => ?_⟩
      have hn : ∀ n, c n k → (if 720 - (d : Int) ≤ mi n then W n else mo_fm W (fun n' => g n' ∧ c n' n) (foot n) nt) = W n := fun n h => if_pos (by have := hc n k h; omega)
      have e : (∃ n, n < nt ∧ g n ∧ c n k ∧ (if 720 - (d : Int) ≤ mi n then W n else mo_fm W (fun n' => g n' ∧ c n' n) (foot n) nt) ≤ x) ↔ ∃ n, n < nt ∧ g n ∧ c n k ∧ W n ≤ x := by
        constructor
        · rintro ⟨n, a1, a2, a3, a4⟩
          rw [hn n a3] at a4
          exact ⟨n, a1, a2, a3, a4⟩
        · rintro ⟨n, a1, a2, a3, a4⟩
          exact ⟨n, a1, a2, a3, by rw [hn n a3]; exact a4⟩
      show (if 720 - (d : Int) ≤ mi k then W k else mo_fm W (fun n => g n ∧ c n k) (foot k) nt) ≤ x ↔ _
      rw [e]
      by_cases q : 720 - (d : Int) ≤ mi k
      · rw [if_pos q]; exact hW k hk hg q x hx
      · rw [if_neg q, mo_fm_le]
        constructor
        · rintro (w | ⟨n, a1, ⟨a2, a3⟩, a4⟩)
          · exact Or.inl w
          · exact Or.inr ⟨n, a1, a2, a3, a4⟩
        · rintro (w | ⟨n, a1, a2, a3, a4⟩)
          · exact Or.inl w
          · exact Or.inr ⟨n, a1, ⟨a2, a3⟩, a4⟩
  obtain ⟨W, hW⟩ := key 720
  exact ⟨W, fun k hk hg => hW k hk hg (by have := hb k; omega)⟩
theorem mo_ms_ex (cand : Nat → Prop) (b0 : Int) (W : Nat → Int) : ∀ n, ∃ le fi, mo_ms cand b0 n W le fi := by
  intro n
  induction n with
  | zero => exact ⟨_, _, mo_ms0 cand b0 W⟩
  | succ n ih =>
    obtain ⟨le, fi, h⟩ := ih
    by_cases hc : cand n
    · rcases Int.lt_or_le (W n) le with q | q
      · exact ⟨_, _, mo_ms_y h hc q⟩
      · exact ⟨_, _, mo_ms_n h (Or.inr q)⟩
    · exact ⟨_, _, mo_ms_n h (Or.inl hc)⟩
theorem mo_ch_ex (L b0 : Int) (cand : Nat → Prop) (nt : Nat) (W : Nat → Int) : ∃ r, mo_ch L b0 cand nt W r := by
  obtain ⟨le, fi, h⟩ := mo_ms_ex cand (mo_mn b0 L) W nt
  have hmn : mo_mn b0 L ≤ b0 ∧ mo_mn b0 L ≤ L ∧ (mo_mn b0 L = b0 ∨ mo_mn b0 L = L) := by
    unfold mo_mn
    by_cases q : b0 < L
    · rw [if_pos q]; omega
    · rw [if_neg q]; omega
  refine ⟨fi, ?_⟩
  rcases h with ⟨e1, e2, m9⟩ | ⟨t, ht, e1, e2, c9, l9, m9⟩
  · refine Or.inl ⟨e1, fun k hk ck hl => ?_⟩
    have := m9 k hk ck
    omega
  · exact Or.inr ⟨t, e1, ht, c9, by omega, by omega, fun k hk ck _ => m9 k hk ck⟩
theorem mo_pk_ex {D : Nat → Nat → Int32} {G : Nat → Int} (hR : mo_R D) (p a : Nat) (pc m na : Int) : ∃ r, mo_pk D G p a pc m na r := by
  obtain ⟨W, hW⟩ := mo_th_ex (L := 50000) (c := mo_cc D G) (g := mo_g D G p) (nt := mo_nt D) (foot := mo_ft D G p pc) (mi := fun k => (D 14 k).toInt) (fun n k h => mo_cc_lt h) hR.2.2.1
  obtain ⟨r, hr⟩ := mo_ch_ex 50000 (m + mo_wk G pc a (D 1 p).toInt.toNat) (mo_cd D G p a pc m na) (mo_nt D) W
  exact ⟨r, W, hW, hr⟩
def mo_ro (S : Nat → Nat → Int32) (r : Nat) (f : Nat → Int32) : Nat → Nat → Int32 := fun r1 => if r1 = r then f else S r1
def mo_se (S : Nat → Nat → Int32) (r i : Nat) (v : Int32) : Nat → Nat → Int32 := mo_ro S r (upd (S r) i v)
theorem mo_se_at (S : Nat → Nat → Int32) (r i : Nat) (v : Int32) (r1 i1 : Nat) : mo_se S r i v r1 i1 = if r1 = r ∧ i1 = i then v else S r1 i1 := by
  unfold mo_se mo_ro
  by_cases h : r1 = r
  · rw [if_pos h]
    show (if i1 = i then v else S r i1) = _
    by_cases q : i1 = i
    · rw [if_pos q, if_pos ⟨h, q⟩]
    · rw [if_neg q, if_neg (fun w => q w.2), h]
  · rw [if_neg h, if_neg (fun w => h w.1)]
noncomputable def mo_t (D : Nat → Nat → Int32) (G : Nat → Int) (p a : Nat) (pc m na : Int) : Int := Classical.epsilon (fun r => mo_pk D G p a pc m na r)
theorem mo_t_eq {D : Nat → Nat → Int32} {G : Nat → Int} {p a : Nat} {pc m na r : Int} (hm : ∀ k, (D 14 k).toInt ≤ 719) (h : mo_pk D G p a pc m na r) : mo_t D G p a pc m na = r := mo_pk_u hm (Classical.epsilon_spec (p := fun r => mo_pk D G p a pc m na r) ⟨r, h⟩) h
def mo_pc (D : Nat → Nat → Int32) (sh : Int32) (p : Nat) : Int := mo_pace (D 4 p).toInt sh.toInt (D 19 4).toInt
def mo_wo (D : Nat → Nat → Int32) (p : Nat) : Nat := (D 1 p).toInt.toNat
def mo_goal (D : Nat → Nat → Int32) (p : Nat) (t : Int) : Nat := if t = -1 then mo_wo D p else mo_cf D t.toNat
def mo_worn (ah ln : Int32) : Int32 := (ah + ln) / 300 - ah / 300
def mo_shoe (s w : Int32) : Int32 := if 0 < w.toInt then (if (s - w).toInt < 0 then 0 else s - w) else s
def mo_go (D : Nat → Nat → Int32) (G : Nat → Int) (S : Nat → Nat → Int32) (p a : Nat) (m t : Int) : Nat → Nat → Int32 :=
  if 10000000 ≤ G (12 * a + mo_goal D p t) then mo_se S 5 p (Int32.ofInt t)
  else mo_se (mo_se (mo_se (mo_se S 5 p (Int32.ofInt t)) 2 p (if t = -1 ∧ m + mo_wk G (mo_pc D (S 1 p) p) a (mo_goal D p t) < 840 then Int32.ofInt (m + mo_wk G (mo_pc D (S 1 p) p) a (mo_goal D p t)) else S 2 p)) 3 p (S 3 p + Int32.ofInt (G (12 * a + mo_goal D p t)))) 1 p (mo_shoe (S 1 p) (mo_worn (D 6 p + S 3 p) (Int32.ofInt (G (12 * a + mo_goal D p t)))))
noncomputable def mo_xc (D : Nat → Nat → Int32) (G : Nat → Int) (S : Nat → Nat → Int32) (p a : Nat) (m na : Int) : Nat → Nat → Int32 := mo_go D G S p a m (mo_t D G p a (mo_pc D (S 1 p) p) m na)
def mo_co (D : Nat → Nat → Int32) (s : Int32) : Nat := (D 18 s.toInt.toNat).toInt.toNat
noncomputable def mo_xl1 (D : Nat → Nat → Int32) (G : Nat → Int) (m : Int) (S : Nat → Nat → Int32) (p : Nat) : Nat → Nat → Int32 := if (S 6 p).toInt ≠ -1 ∧ (S 11 (S 6 p).toInt.toNat).toInt = m then mo_xc D G (mo_se S 6 p (-1)) p (mo_co D (S 10 (S 6 p).toInt.toNat)) m m else S
def mo_fo (f : (Nat → Nat → Int32) → Nat → (Nat → Nat → Int32)) (S : Nat → Nat → Int32) : Nat → (Nat → Nat → Int32)
  | 0 => S
  | n + 1 => f (mo_fo f S n) n
def mo_xl2 (m : Int) (S : Nat → Nat → Int32) (w : Nat) : Nat → Nat → Int32 := if (S 11 w).toInt = m then mo_se S 11 w (-1) else S
noncomputable def mo_xh1 (D : Nat → Nat → Int32) (G : Nat → Int) (m : Int) (S : Nat → Nat → Int32) (p : Nat) : Nat → Nat → Int32 := if (D 2 p).toInt = m then mo_xc D G S p (D 0 p).toInt.toNat m m else S
noncomputable def mo_xa1 (D : Nat → Nat → Int32) (G : Nat → Int) (m : Int) (S : Nat → Nat → Int32) (p : Nat) : Nat → Nat → Int32 := if (S 5 p).toInt ≠ -1 ∧ (D 14 (S 5 p).toInt.toNat).toInt = m then mo_xc D G S p (mo_cf D (S 5 p).toInt.toNat) m (m + 1) else S
def mo_ar (T : Nat → Nat → Int32) (p : Nat) (m : Int) : Nat → Nat → Int32 := if (T 6 p).toInt = 1 then mo_se T 6 p 2 else mo_se (mo_se T 6 p 5) 2 p (Int32.ofInt m)
def mo_shm (s w : Int32) : Int32 := if (s - w).toInt < 0 then 0 else s - w
def mo_ms0r (D : Nat → Nat → Int32) (G : Nat → Int) (T : Nat → Nat → Int32) (p b : Nat) (how t : Int32) (m : Int) : Nat → Nat → Int32 :=
  mo_se (mo_se (mo_se (mo_se (mo_se (mo_se (mo_se T 3 p (T 3 p + Int32.ofInt (G (12 * (T 14 p).toInt.toNat + b)))) 16 p (T 16 p + Int32.ofInt (G (12 * (T 14 p).toInt.toNat + b)))) 1 p (mo_shm (T 1 p) ((T 16 p + Int32.ofInt (G (12 * (T 14 p).toInt.toNat + b))) / 300 - T 16 p / 300))) 14 p (Int32.ofInt (b : Int))) 5 p t) 6 p how) 15 p (Int32.ofInt (m + mo_wk G (mo_pc D (T 1 p) p) (T 14 p).toInt.toNat b))
def mo_so (D : Nat → Nat → Int32) (G : Nat → Int) (T : Nat → Nat → Int32) (p b : Nat) (how t : Int32) (m : Int) : Nat → Nat → Int32 := if mo_wk G (mo_pc D (T 1 p) p) (T 14 p).toInt.toNat b = 0 then mo_ar (mo_ms0r D G T p b how t m) p m else mo_ms0r D G T p b how t m
def mo_mg (D : Nat → Nat → Int32) (G : Nat → Int) (T : Nat → Nat → Int32) (p : Nat) (m t : Int) : Nat → Nat → Int32 :=
  if t ≠ -1 then mo_so D G T p (mo_cf D t.toNat) 1 (Int32.ofInt t) m
  else if G (12 * (T 14 p).toInt.toNat + mo_wo D p) < 10000000 then mo_so D G T p (mo_wo D p) 4 (-1) m
  else mo_se T 6 p 6
noncomputable def mo_mc (D : Nat → Nat → Int32) (G : Nat → Int) (T : Nat → Nat → Int32) (p : Nat) (m na : Int) : Nat → Nat → Int32 := mo_mg D G T p m (mo_t D G p (T 14 p).toInt.toNat (mo_pc D (T 1 p) p) m na)
noncomputable def mo_ml1 (D : Nat → Nat → Int32) (G : Nat → Int) (m : Int) (T : Nat → Nat → Int32) (p : Nat) : Nat → Nat → Int32 := if (T 6 p).toInt = 3 ∧ (T 11 (D 11 (T 5 p).toInt.toNat).toInt.toNat).toInt = -1 then mo_mc D G (mo_se T 14 p (D 18 (D 13 (T 5 p).toInt.toNat).toInt.toNat)) p m m else T
noncomputable def mo_mh1 (D : Nat → Nat → Int32) (G : Nat → Int) (m : Int) (T : Nat → Nat → Int32) (p : Nat) : Nat → Nat → Int32 := if (T 6 p).toInt = 0 ∧ (D 2 p).toInt = m then mo_mc D G T p m m else if ((T 6 p).toInt = 1 ∨ (T 6 p).toInt = 4) ∧ (T 15 p).toInt = m then mo_ar T p m else T
noncomputable def mo_ma1 (D : Nat → Nat → Int32) (G : Nat → Int) (m : Int) (T : Nat → Nat → Int32) (p : Nat) : Nat → Nat → Int32 := if (T 6 p).toInt = 2 ∧ (D 14 (T 5 p).toInt.toNat).toInt = m then mo_mc D G T p m (m + 1) else T
def mo_ok (D : Nat → Nat → Int32) (S T : Nat → Nat → Int32) (p : Nat) (bw : Int) : Prop := S 0 p = T 0 p ∧ S 1 p = T 1 p ∧ S 3 p = T 3 p ∧ S 4 p = T 4 p ∧ T 16 p = D 6 p + S 3 p ∧ (0 ≤ (S 1 p).toInt ∧ (S 1 p).toInt ≤ 9) ∧ (0 ≤ (S 3 p).toInt ∧ (S 3 p).toInt ≤ bw) ∧ (0 ≤ (D 6 p).toInt ∧ (D 6 p).toInt ≤ 1000000000)
def mo_tk (D : Nat → Nat → Int32) (G : Nat → Int) (S T : Nat → Nat → Int32) (p : Nat) (k : Nat) : Prop := (T 5 p).toInt = (k : Int) ∧ k < mo_nt D ∧ mo_rn D G k
def mo_rp (D : Nat → Nat → Int32) (G : Nat → Int) (S T : Nat → Nat → Int32) (p : Nat) (lv ar tr cm : Int) : Prop :=
  ((T 6 p).toInt = 0 ∧ (S 5 p).toInt = -1 ∧ (S 6 p).toInt = -1 ∧ (S 2 p).toInt = -1 ∧ (T 2 p).toInt = -1 ∧ T 14 p = D 0 p ∧ lv ≤ (D 2 p).toInt) ∨
  ((D 2 p).toInt < lv ∧ (
    ((T 6 p).toInt = 1 ∧ (∃ k, mo_tk D G S T p k ∧ S 5 p = T 5 p ∧ T 14 p = D 18 (D 12 k).toInt.toNat ∧ ar ≤ (T 15 p).toInt ∧ (T 15 p).toInt ≤ (D 14 k).toInt ∧ tr ≤ (D 14 k).toInt) ∧ (S 6 p).toInt = -1 ∧ (S 2 p).toInt = -1 ∧ (T 2 p).toInt = -1) ∨
    ((T 6 p).toInt = 2 ∧ (∃ k, mo_tk D G S T p k ∧ S 5 p = T 5 p ∧ T 14 p = D 18 (D 12 k).toInt.toNat ∧ tr ≤ (D 14 k).toInt) ∧ (S 6 p).toInt = -1 ∧ (S 2 p).toInt = -1 ∧ (T 2 p).toInt = -1) ∨
    ((T 6 p).toInt = 3 ∧ (∃ k, mo_tk D G S T p k ∧ S 6 p = D 11 k ∧ S 10 (D 11 k).toInt.toNat = D 13 k ∧ cm ≤ (S 11 (D 11 k).toInt.toNat).toInt) ∧ (S 5 p).toInt = -1 ∧ (S 2 p).toInt = -1 ∧ (T 2 p).toInt = -1) ∨
    ((T 6 p).toInt = 4 ∧ (S 5 p).toInt = -1 ∧ (S 6 p).toInt = -1 ∧ (T 2 p).toInt = -1 ∧ ar ≤ (T 15 p).toInt ∧ (S 2 p).toInt = (if (T 15 p).toInt < 840 then (T 15 p).toInt else -1)) ∨
    ((T 6 p).toInt = 5 ∧ (S 5 p).toInt = -1 ∧ (S 6 p).toInt = -1 ∧ S 2 p = T 2 p) ∨
    ((T 6 p).toInt = 6 ∧ (S 5 p).toInt = -1 ∧ (S 6 p).toInt = -1 ∧ (S 2 p).toInt = -1 ∧ (T 2 p).toInt = -1)))
theorem mo_i32 {v : Int} (h0 : -2147483648 ≤ v) (h1 : v ≤ 2147483647) : (Int32.ofInt v).toInt = v := Int32.toInt_ofInt_of_le (by omega) (by omega)
theorem mo_i32i (x : Int32) : Int32.ofInt x.toInt = x := Int32.ofInt_toInt x
theorem mo_d300 {x : Int32} (hx : 0 ≤ x.toInt) : (x / 300).toInt = x.toInt / 300 := by
  rw [Int32.toInt_div_of_ne_right x 300 (by decide), show (300 : Int32).toInt = 300 from by decide]
  exact Int.tdiv_eq_ediv_of_nonneg hx
theorem mo_worn_b {ah ln : Int32} (h0 : 0 ≤ ah.toInt) (h1 : ah.toInt ≤ 1500000000) (h2 : 0 ≤ ln.toInt) (h3 : ln.toInt ≤ 10000) : 0 ≤ (mo_worn ah ln).toInt ∧ (mo_worn ah ln).toInt ≤ 10000000 := by
  have hs := iv_add (v := ah + ln) rfl (a := 0) (b := 1500000000) (c := 0) (d := 10000) ⟨h0, h1⟩ ⟨h2, h3⟩ (by decide) (by decide)
  have e1 := mo_d300 h0
  have e2 := mo_d300 (x := ah + ln) (by omega)
  have hq := iv_sub (v := (ah + ln) / 300 - ah / 300) rfl (a := 0) (b := 6000000) (c := 0) (d := 6000000) ⟨by omega, by omega⟩ ⟨by omega, by omega⟩ (by decide) (by decide)
  show 0 ≤ ((ah + ln) / 300 - ah / 300).toInt ∧ ((ah + ln) / 300 - ah / 300).toInt ≤ 10000000
  omega
theorem mo_sh_b {s w : Int32} (h0 : 0 ≤ s.toInt) (h1 : s.toInt ≤ 9) (h2 : 0 ≤ w.toInt) (h3 : w.toInt ≤ 10000000) : mo_shm s w = mo_shoe s w ∧ 0 ≤ (mo_shoe s w).toInt ∧ (mo_shoe s w).toInt ≤ 9 := by
  have hq := iv_sub (v := s - w) rfl (a := 0) (b := 9) (c := 0) (d := 10000000) ⟨h0, h1⟩ ⟨h2, h3⟩ (by decide) (by decide)
  have z : (0 : Int32).toInt = 0 := by decide
  unfold mo_shm mo_shoe
  by_cases c : 0 < w.toInt
  · rw [if_pos c]
    by_cases d : (s - w).toInt < 0
    · rw [if_pos d]; exact ⟨rfl, by omega, by omega⟩
    · rw [if_neg d]; exact ⟨rfl, by omega, by omega⟩
  · rw [if_neg c, if_neg (by omega)]
    exact ⟨Int32.toInt_inj.mp (by omega), by omega, by omega⟩
theorem mo_pc_b {D : Nat → Nat → Int32} (hR : mo_R D) {s : Int32} (p : Nat) : 18 ≤ mo_pc D s p ∧ mo_pc D s p ≤ 50 := by
  have h1 := hR.2.2.2.2.1 p
  have h2 := hR.2.2.2.2.2.2
  unfold mo_pc mo_pace
  split <;> split <;> (try split) <;> omega
theorem mo_msr_ne {D : Nat → Nat → Int32} {G : Nat → Int} {T : Nat → Nat → Int32} {p b : Nat} {how t : Int32} {m : Int} {q : Nat} (h : q ≠ p) (r : Nat) : mo_ms0r D G T p b how t m r q = T r q := by
  unfold mo_ms0r
  simp only [mo_se_at]
  simp [h]
theorem mo_ar_ne {T : Nat → Nat → Int32} {p : Nat} {m : Int} {q : Nat} (h : q ≠ p) (r : Nat) : mo_ar T p m r q = T r q := by
  unfold mo_ar
  split
  · rw [mo_se_at]; simp [h]
  · rw [mo_se_at, mo_se_at]; simp [h]
theorem mo_so_ne {D : Nat → Nat → Int32} {G : Nat → Int} {T : Nat → Nat → Int32} {p b : Nat} {how t : Int32} {m : Int} {q : Nat} (h : q ≠ p) (r : Nat) : mo_so D G T p b how t m r q = T r q := by
  unfold mo_so
  split
  · rw [mo_ar_ne h, mo_msr_ne h]
  · rw [mo_msr_ne h]
theorem mo_mg_ne {D : Nat → Nat → Int32} {G : Nat → Int} {T : Nat → Nat → Int32} {p : Nat} {m t : Int} {q : Nat} (h : q ≠ p) (r : Nat) : mo_mg D G T p m t r q = T r q := by
  unfold mo_mg
  split
  · exact mo_so_ne h r
  · split
    · exact mo_so_ne h r
    · rw [mo_se_at]; simp [h]
theorem mo_msr_at (D : Nat → Nat → Int32) (G : Nat → Int) (T : Nat → Nat → Int32) (p b : Nat) (how t : Int32) (m : Int) : mo_ms0r D G T p b how t m 0 p = T 0 p ∧ mo_ms0r D G T p b how t m 1 p = mo_shm (T 1 p) ((T 16 p + Int32.ofInt (G (12 * (T 14 p).toInt.toNat + b))) / 300 - T 16 p / 300) ∧ mo_ms0r D G T p b how t m 2 p = T 2 p ∧ mo_ms0r D G T p b how t m 3 p = T 3 p + Int32.ofInt (G (12 * (T 14 p).toInt.toNat + b)) ∧ mo_ms0r D G T p b how t m 4 p = T 4 p ∧ mo_ms0r D G T p b how t m 5 p = t ∧ mo_ms0r D G T p b how t m 6 p = how ∧ mo_ms0r D G T p b how t m 14 p = Int32.ofInt (b : Int) ∧ mo_ms0r D G T p b how t m 15 p = Int32.ofInt (m + mo_wk G (mo_pc D (T 1 p) p) (T 14 p).toInt.toNat b) ∧ mo_ms0r D G T p b how t m 16 p = T 16 p + Int32.ofInt (G (12 * (T 14 p).toInt.toNat + b)) := by
  unfold mo_ms0r
  simp only [mo_se_at]
  simp
theorem mo_msr_row (D : Nat → Nat → Int32) (G : Nat → Int) (T : Nat → Nat → Int32) (p b : Nat) (how t : Int32) (m : Int) {r : Nat} (h : 7 ≤ r ∧ r ≤ 13) : mo_ms0r D G T p b how t m r = T r := by
  funext q
  unfold mo_ms0r
  simp only [mo_se_at]
  have h3 : r ≠ 3 := by omega
  have h16 : r ≠ 16 := by omega
  have h1 : r ≠ 1 := by omega
  have h14 : r ≠ 14 := by omega
  have h5 : r ≠ 5 := by omega
  have h6 : r ≠ 6 := by omega
  have h15 : r ≠ 15 := by omega
  simp [h3, h16, h1, h14, h5, h6, h15]
theorem mo_ar_row (T : Nat → Nat → Int32) (p : Nat) (m : Int) {r : Nat} (h : 7 ≤ r) : mo_ar T p m r = T r := by
  funext q
  have h6 : r ≠ 6 := by omega
  have h2 : r ≠ 2 := by omega
  unfold mo_ar
  split
  · rw [mo_se_at]; simp [h6]
  · rw [mo_se_at, mo_se_at]; simp [h6, h2]
theorem mo_mg_row (D : Nat → Nat → Int32) (G : Nat → Int) (T : Nat → Nat → Int32) (p : Nat) (m t : Int) {r : Nat} (h : 7 ≤ r ∧ r ≤ 13) : mo_mg D G T p m t r = T r := by
  have so : ∀ b how u, mo_so D G T p b how u m r = T r := by
    intro b how u
    unfold mo_so
    split
    · rw [mo_ar_row _ _ _ h.1, mo_msr_row D G T p b how u m h]
    · exact mo_msr_row D G T p b how u m h
  unfold mo_mg
  split
  · exact so _ _ _
  · split
    · exact so _ _ _
    · funext q
      have h6 : r ≠ 6 := by omega
      rw [mo_se_at]; simp [h6]
theorem mo_go_ne {D : Nat → Nat → Int32} {G : Nat → Int} {S : Nat → Nat → Int32} {p a : Nat} {m t : Int} {q : Nat} (h : q ≠ p) (r : Nat) : mo_go D G S p a m t r q = S r q := by
  unfold mo_go
  split
  · rw [mo_se_at]; simp [h]
  · simp only [mo_se_at]; simp [h]
theorem mo_go_row {D : Nat → Nat → Int32} {G : Nat → Int} {S : Nat → Nat → Int32} {p a : Nat} {m t : Int} {r : Nat} (h : r = 0 ∨ r = 4 ∨ 6 ≤ r) : mo_go D G S p a m t r = S r := by
  funext q
  have h5 : r ≠ 5 := by omega
  have h2 : r ≠ 2 := by omega
  have h3 : r ≠ 3 := by omega
  have h1 : r ≠ 1 := by omega
  unfold mo_go
  split
  · rw [mo_se_at]; simp [h5]
  · simp only [mo_se_at]; simp [h5, h2, h3, h1]
theorem mo_go_no {D : Nat → Nat → Int32} {G : Nat → Int} {S : Nat → Nat → Int32} {p a : Nat} {m t : Int} (h : 10000000 ≤ G (12 * a + mo_goal D p t)) : mo_go D G S p a m t 1 p = S 1 p ∧ mo_go D G S p a m t 2 p = S 2 p ∧ mo_go D G S p a m t 3 p = S 3 p ∧ mo_go D G S p a m t 5 p = Int32.ofInt t := by
  unfold mo_go
  rw [if_pos h]
  simp only [mo_se_at]
  simp
theorem mo_go_at {D : Nat → Nat → Int32} {G : Nat → Int} {S : Nat → Nat → Int32} {p a : Nat} {m t : Int} (h : ¬ 10000000 ≤ G (12 * a + mo_goal D p t)) : mo_go D G S p a m t 1 p = mo_shoe (S 1 p) (mo_worn (D 6 p + S 3 p) (Int32.ofInt (G (12 * a + mo_goal D p t)))) ∧ mo_go D G S p a m t 2 p = (if t = -1 ∧ m + mo_wk G (mo_pc D (S 1 p) p) a (mo_goal D p t) < 840 then Int32.ofInt (m + mo_wk G (mo_pc D (S 1 p) p) a (mo_goal D p t)) else S 2 p) ∧ mo_go D G S p a m t 3 p = S 3 p + Int32.ofInt (G (12 * a + mo_goal D p t)) ∧ mo_go D G S p a m t 5 p = Int32.ofInt t := by
  unfold mo_go
  rw [if_neg h]
  simp only [mo_se_at]
  simp
theorem mo_walked {D : Nat → Nat → Int32} {S T : Nat → Nat → Int32} {p : Nat} {bw len : Int} (h : mo_ok D S T p bw) (hb : bw ≤ 100000000) (h0 : 0 ≤ len) (h1 : len ≤ 1089) : mo_shm (T 1 p) ((T 16 p + Int32.ofInt len) / 300 - T 16 p / 300) = mo_shoe (S 1 p) (mo_worn (D 6 p + S 3 p) (Int32.ofInt len)) ∧ (0 ≤ (mo_shoe (S 1 p) (mo_worn (D 6 p + S 3 p) (Int32.ofInt len))).toInt ∧ (mo_shoe (S 1 p) (mo_worn (D 6 p + S 3 p) (Int32.ofInt len))).toInt ≤ 9) ∧ T 16 p + Int32.ofInt len = D 6 p + (S 3 p + Int32.ofInt len) ∧ (0 ≤ (S 3 p + Int32.ofInt len).toInt ∧ (S 3 p + Int32.ofInt len).toInt ≤ bw + 1089) := by
  obtain ⟨_, e1, _, _, e16, s1, s3, d6⟩ := h
  have hl := mo_i32 (v := len) (by omega) (by omega)
  have ha := iv_add (v := D 6 p + S 3 p) rfl (a := 0) (b := 1000000000) (c := 0) (d := 100000000) d6 ⟨s3.1, by omega⟩ (by decide) (by decide)
  have hw := mo_worn_b (ah := D 6 p + S 3 p) (ln := Int32.ofInt len) (by omega) (by omega) (by omega) (by omega)
  have hs := mo_sh_b s1.1 s1.2 hw.1 hw.2
  have hn := iv_add (v := S 3 p + Int32.ofInt len) rfl (a := 0) (b := 100000000) (c := 0) (d := 1089) ⟨s3.1, by omega⟩ ⟨by omega, by omega⟩ (by decide) (by decide)
  refine ⟨?_, hs.2, by rw [e16, Int32.add_assoc], by omega⟩
  rw [e16, ← e1]
  exact hs.1
theorem mo_wk_len {G : Nat → Int} {pc : Int} {a b : Nat} (h : mo_wk G pc a b < 10000000) : G (12 * a + b) < 10000000 := by
  unfold mo_wk mo_min at h
  by_cases q : 10000000 ≤ G (12 * a + b)
  · rw [if_pos q] at h; omega
  · omega
theorem mo_sim_t {D : Nat → Nat → Int32} {G : Nat → Int} {S T : Nat → Nat → Int32} {p a : Nat} {m na t bw lv cm : Int} (hR : mo_R D) (hG : mo_GR G) (hm : 0 ≤ m ∧ m ≤ 839) (hna : m ≤ na) (hok : mo_ok D S T p bw) (hb : bw ≤ 100000000) (ha : (T 14 p).toInt = (a : Int)) (ha2 : a < 12) (h6 : (S 6 p).toInt = -1) (h2 : (S 2 p).toInt = -1) (h2t : (T 2 p).toInt = -1) (hlv : (D 2 p).toInt < lv) (hnt : (mo_nt D : Int) ≤ 80) (ht : t = -1 ∨ ∃ k : Nat, t = (k : Int) ∧ k < mo_nt D ∧ mo_cd D G p a (mo_pc D (S 1 p) p) m na k) : mo_ok D (mo_go D G S p a m t) (mo_mg D G T p m t) p (bw + 1089) ∧ mo_rp D G (mo_go D G S p a m t) (mo_mg D G T p m t) p lv (m + 1) na cm := by
  have hpc := mo_pc_b hR (s := S 1 p) p
  have e1 : T 1 p = S 1 p := hok.2.1.symm
  have ea : (T 14 p).toInt.toNat = a := by omega
  have m1 : (Int32.ofInt (-1)).toInt = -1 := by decide
  have n1 : ((-1) : Int32).toInt = -1 := by decide
  have z0 : (0 : Int32).toInt = 0 := by decide
  have z1 : (1 : Int32).toInt = 1 := by decide
  have z2 : (2 : Int32).toInt = 2 := by decide
  have z4 : (4 : Int32).toInt = 4 := by decide
  have z5 : (5 : Int32).toInt = 5 := by decide
  have z6 : (6 : Int32).toInt = 6 := by decide
  have r0 := congrFun (mo_go_row (D := D) (G := G) (S := S) (p := p) (a := a) (m := m) (t := t) (r := 0) (by omega)) p
  have r4 := congrFun (mo_go_row (D := D) (G := G) (S := S) (p := p) (a := a) (m := m) (t := t) (r := 4) (by omega)) p
  have r6 := congrFun (mo_go_row (D := D) (G := G) (S := S) (p := p) (a := a) (m := m) (t := t) (r := 6) (by omega)) p
  rcases ht with rfl | ⟨k, rfl, hk, hc⟩
  · -- none
    have hw := hR.2.1 p
    by_cases q : 10000000 ≤ G (12 * a + mo_goal D p (-1))
    · have hg : mo_goal D p (-1) = mo_wo D p := rfl
      obtain ⟨g1, g2, g3, g5⟩ := mo_go_no (S := S) (m := m) q
      have em : mo_mg D G T p m (-1) = mo_se T 6 p 6 := by
        unfold mo_mg
        rw [if_neg (by decide), ea, if_neg (by rw [← hg]; omega)]
      have t6 : ∀ r, mo_mg D G T p m (-1) r p = if r = 6 then 6 else T r p := by
        intro r; rw [em, mo_se_at]; simp
      obtain ⟨o0, o1, o3, o4, o16, b1, b3, b6⟩ := hok
      refine ⟨⟨?_, ?_, ?_, ?_, ?_, ?_, ?_, b6⟩, Or.inr ⟨hlv, Or.inr (Or.inr (Or.inr (Or.inr (Or.inr ⟨?_, ?_, ?_, ?_, ?_⟩))))⟩⟩
      · rw [r0, t6]; exact o0
      · rw [g1, t6]; exact o1
      · rw [g3, t6]; exact o3
      · rw [r4, t6]; exact o4
      · rw [g3, t6]; exact o16
      · rw [g1]; exact b1
      · rw [g3]; omega
      · rw [t6]; exact z6
      · rw [g5]; exact m1
      · rw [r6]; exact h6
      · rw [g2]; exact h2
      · rw [t6]; exact h2t
    · have hg : mo_goal D p (-1) = mo_wo D p := rfl
      have hbw : (mo_wo D p) < 12 := by unfold mo_wo; omega
      obtain ⟨g1, g2, g3, g5⟩ := mo_go_at (S := S) (m := m) q
      rw [hg] at q g1 g2 g3
      have hG9 := hG (12 * a + mo_wo D p) (by omega)
      have hwk := mo_wk_b hG (pc := mo_pc D (S 1 p) p) (by omega) (by omega) ha2 hbw
      have hwk2 : mo_wk G (mo_pc D (S 1 p) p) a (mo_wo D p) ≤ 5446 := by
        rcases hwk.2 with w | w
        · exact w
        · exfalso
          unfold mo_wk mo_min at w
          rw [if_neg q] at w
          have e2 : G (12 * a + mo_wo D p) * mo_pc D (S 1 p) p ≤ 1089 * mo_pc D (S 1 p) p := Int.mul_le_mul_of_nonneg_right (by omega) (by omega)
          omega
      have hwd := mo_walked hok hb (len := G (12 * a + mo_wo D p)) (by omega) (by omega)
      have em : mo_mg D G T p m (-1) = mo_so D G T p (mo_wo D p) 4 (-1) m := by
        unfold mo_mg
        rw [if_neg (by decide), ea, if_pos (by omega)]
      obtain ⟨u0, u1, u2, u3, u4, u5, u6, u14, u15, u16⟩ := mo_msr_at D G T p (mo_wo D p) 4 (-1) m
      rw [ea] at u1 u3 u15 u16
      rw [e1] at u15
      have hU : (Int32.ofInt (m + mo_wk G (mo_pc D (S 1 p) p) a (mo_wo D p))).toInt = m + mo_wk G (mo_pc D (S 1 p) p) a (mo_wo D p) := mo_i32 (by omega) (by omega)
      obtain ⟨o0, o1, o3, o4, o16, b1, b3, b6⟩ := hok
      have key : ∀ T' : Nat → Nat → Int32, T' 0 p = T 0 p → T' 1 p = mo_shm (T 1 p) ((T 16 p + Int32.ofInt (G (12 * a + mo_wo D p))) / 300 - T 16 p / 300) → T' 3 p = T 3 p + Int32.ofInt (G (12 * a + mo_wo D p)) → T' 4 p = T 4 p → T' 16 p = T 16 p + Int32.ofInt (G (12 * a + mo_wo D p)) → mo_ok D (mo_go D G S p a m (-1)) T' p (bw + 1089) := by
        intro T' k0 k1 k3 k4 k16
        refine ⟨by rw [r0, k0]; exact o0, by rw [g1, k1, hwd.1], by rw [g3, k3, o3], by rw [r4, k4]; exact o4, by rw [k16, g3]; exact hwd.2.2.1, by rw [g1]; exact hwd.2.1, by rw [g3]; exact hwd.2.2.2, b6⟩
      by_cases w0 : mo_wk G (mo_pc D (S 1 p) p) a (mo_wo D p) = 0
      · have es : mo_so D G T p (mo_wo D p) 4 (-1) m = mo_se (mo_se (mo_ms0r D G T p (mo_wo D p) 4 (-1) m) 6 p 5) 2 p (Int32.ofInt m) := by
          unfold mo_so
          rw [ea, e1, if_pos w0]
          unfold mo_ar
          rw [if_neg (by rw [u6, z4]; decide)]
        have tA : ∀ r, mo_mg D G T p m (-1) r p = if r = 2 then Int32.ofInt m else if r = 6 then 5 else mo_ms0r D G T p (mo_wo D p) 4 (-1) m r p := by
          intro r; rw [em, es, mo_se_at, mo_se_at]; simp
        refine ⟨key _ (by rw [tA]; exact u0) (by rw [tA]; exact u1) (by rw [tA]; exact u3) (by rw [tA]; exact u4) (by rw [tA]; exact u16), Or.inr ⟨hlv, Or.inr (Or.inr (Or.inr (Or.inr (Or.inl ⟨?_, ?_, ?_, ?_⟩))))⟩⟩
        · rw [tA]; exact z5
        · rw [g5]; exact m1
        · rw [r6]; exact h6
        · rw [g2, tA, w0, if_pos ⟨rfl, by omega⟩, if_pos rfl, Int.add_zero]
      · have es : mo_so D G T p (mo_wo D p) 4 (-1) m = mo_ms0r D G T p (mo_wo D p) 4 (-1) m := by
          unfold mo_so
          rw [ea, e1, if_neg w0]
        rw [em, es]
        refine ⟨key _ u0 u1 u3 u4 u16, Or.inr ⟨hlv, Or.inr (Or.inr (Or.inr (Or.inl ⟨?_, ?_, ?_, ?_, ?_, ?_⟩)))⟩⟩
        · rw [u6]; exact z4
        · rw [g5]; exact m1
        · rw [r6]; exact h6
        · rw [u2]; exact h2t
        · rw [u15, hU]; omega
        · rw [u15, hU, g2]
          by_cases v : m + mo_wk G (mo_pc D (S 1 p) p) a (mo_wo D p) < 840
          · rw [if_pos ⟨rfl, v⟩, if_pos v]; exact hU
          · rw [if_neg (fun w => v w.2), if_neg v]; exact h2
  · -- a trip
    obtain ⟨⟨hrn, hhd⟩, c1, c2⟩ := hc
    have hgo : mo_goal D p (k : Int) = mo_cf D k := by
      unfold mo_goal
      rw [if_neg (by omega), Int.toNat_natCast]
    have hcf := mo_cf_b hR k
    have h14 := hR.2.2.1 k
    have hwk := mo_wk_b hG (pc := mo_pc D (S 1 p) p) (by omega) (by omega) ha2 hcf
    have hwk2 : mo_wk G (mo_pc D (S 1 p) p) a (mo_cf D k) ≤ 5446 := by omega
    have q : ¬ 10000000 ≤ G (12 * a + mo_cf D k) := by
      have := mo_wk_len (G := G) (pc := mo_pc D (S 1 p) p) (a := a) (b := mo_cf D k) (by omega)
      omega
    obtain ⟨g1, g2, g3, g5⟩ := mo_go_at (S := S) (m := m) (t := (k : Int)) (p := p) (D := D) (G := G) (a := a) (by rw [hgo]; exact q)
    rw [hgo] at g1 g2 g3
    rw [if_neg (by omega)] at g2
    have hG9 := hG (12 * a + mo_cf D k) (by omega)
    have hwd := mo_walked hok hb (len := G (12 * a + mo_cf D k)) (by omega) (by omega)
    have em : mo_mg D G T p m (k : Int) = mo_so D G T p (mo_cf D k) 1 (Int32.ofInt (k : Int)) m := by
      unfold mo_mg
      rw [if_pos (by omega), Int.toNat_natCast]
    obtain ⟨u0, u1, u2, u3, u4, u5, u6, u14, u15, u16⟩ := mo_msr_at D G T p (mo_cf D k) 1 (Int32.ofInt (k : Int)) m
    rw [ea] at u1 u3 u15 u16
    rw [e1] at u15
    have hU : (Int32.ofInt (m + mo_wk G (mo_pc D (S 1 p) p) a (mo_cf D k))).toInt = m + mo_wk G (mo_pc D (S 1 p) p) a (mo_cf D k) := mo_i32 (by omega) (by omega)
    have hK : (Int32.ofInt (k : Int)).toInt = (k : Int) := mo_i32 (by omega) (by omega)
    have hcc : Int32.ofInt ((mo_cf D k : Nat) : Int) = D 18 (D 12 k).toInt.toNat := by
      have h18 := hR.1 (D 12 k).toInt.toNat
      unfold mo_cf
      rw [show (((D 18 (D 12 k).toInt.toNat).toInt.toNat : Nat) : Int) = (D 18 (D 12 k).toInt.toNat).toInt from by omega]
      exact mo_i32i _
    obtain ⟨o0, o1, o3, o4, o16, b1, b3, b6⟩ := hok
    have key : ∀ T' : Nat → Nat → Int32, T' 0 p = T 0 p → T' 1 p = mo_shm (T 1 p) ((T 16 p + Int32.ofInt (G (12 * a + mo_cf D k))) / 300 - T 16 p / 300) → T' 3 p = T 3 p + Int32.ofInt (G (12 * a + mo_cf D k)) → T' 4 p = T 4 p → T' 16 p = T 16 p + Int32.ofInt (G (12 * a + mo_cf D k)) → mo_ok D (mo_go D G S p a m (k : Int)) T' p (bw + 1089) := by
      intro T' k0 k1 k3 k4 k16
      refine ⟨by rw [r0, k0]; exact o0, by rw [g1, k1, hwd.1], by rw [g3, k3, o3], by rw [r4, k4]; exact o4, by rw [k16, g3]; exact hwd.2.2.1, by rw [g1]; exact hwd.2.1, by rw [g3]; exact hwd.2.2.2, b6⟩
    by_cases w0 : mo_wk G (mo_pc D (S 1 p) p) a (mo_cf D k) = 0
    · have es : mo_so D G T p (mo_cf D k) 1 (Int32.ofInt (k : Int)) m = mo_se (mo_ms0r D G T p (mo_cf D k) 1 (Int32.ofInt (k : Int)) m) 6 p 2 := by
        unfold mo_so
        rw [ea, e1, if_pos w0]
        unfold mo_ar
        rw [if_pos (by rw [u6]; exact z1)]
      have tA : ∀ r, mo_mg D G T p m (k : Int) r p = if r = 6 then 2 else mo_ms0r D G T p (mo_cf D k) 1 (Int32.ofInt (k : Int)) m r p := by
        intro r; rw [em, es, mo_se_at]; simp
      refine ⟨key _ (by rw [tA]; exact u0) (by rw [tA]; exact u1) (by rw [tA]; exact u3) (by rw [tA]; exact u4) (by rw [tA]; exact u16), Or.inr ⟨hlv, Or.inr (Or.inl ⟨?_, ⟨k, ⟨?_, hk, hrn⟩, ?_, ?_, c1⟩, ?_, ?_, ?_⟩)⟩⟩
      · rw [tA]; exact z2
      · rw [tA]; exact (congrArg Int32.toInt u5).trans hK
      · rw [g5, tA]; exact u5.symm
      · rw [tA]; exact u14.trans hcc
      · rw [r6]; exact h6
      · rw [g2]; exact h2
      · rw [tA]; exact (congrArg Int32.toInt u2).trans h2t
    · have es : mo_so D G T p (mo_cf D k) 1 (Int32.ofInt (k : Int)) m = mo_ms0r D G T p (mo_cf D k) 1 (Int32.ofInt (k : Int)) m := by
        unfold mo_so
        rw [ea, e1, if_neg w0]
      rw [em, es]
      refine ⟨key _ u0 u1 u3 u4 u16, Or.inr ⟨hlv, Or.inl ⟨?_, ⟨k, ⟨?_, hk, hrn⟩, ?_, ?_, ?_, ?_, c1⟩, ?_, ?_, ?_⟩⟩⟩
      · rw [u6]; exact z1
      · rw [u5]; exact hK
      · rw [g5]; exact u5.symm
      · exact u14.trans hcc
      · rw [u15, hU]; omega
      · rw [u15, hU]; exact c2
      · rw [r6]; exact h6
      · rw [g2]; exact h2
      · rw [u2]; exact h2t
theorem mo_sim_c {D : Nat → Nat → Int32} {G : Nat → Int} {S T : Nat → Nat → Int32} {p a : Nat} {m na bw lv cm : Int} (hR : mo_R D) (hG : mo_GR G) (hm : 0 ≤ m ∧ m ≤ 839) (hna : m ≤ na) (hok : mo_ok D S T p bw) (hb : bw ≤ 100000000) (ha : (T 14 p).toInt = (a : Int)) (ha2 : a < 12) (h6 : (S 6 p).toInt = -1) (h2 : (S 2 p).toInt = -1) (h2t : (T 2 p).toInt = -1) (hlv : (D 2 p).toInt < lv) (hnt : (mo_nt D : Int) ≤ 80) : mo_ok D (mo_xc D G S p a m na) (mo_mc D G T p m na) p (bw + 1089) ∧ mo_rp D G (mo_xc D G S p a m na) (mo_mc D G T p m na) p lv (m + 1) na cm := by
  have e1 : T 1 p = S 1 p := hok.2.1.symm
  have ea : (T 14 p).toInt.toNat = a := by omega
  obtain ⟨r, hr⟩ := mo_pk_ex (G := G) hR p a (mo_pc D (S 1 p) p) m na
  have et := mo_t_eq (fun k => (hR.2.2.1 k).2) hr
  unfold mo_xc mo_mc
  rw [ea, e1, et]
  exact mo_sim_t hR hG hm hna hok hb ha ha2 h6 h2 h2t hlv hnt (mo_pk_r hr)
theorem mo_ok_mono {D S T : Nat → Nat → Int32} {p : Nat} {bw bw1 : Int} (h : mo_ok D S T p bw) (hb : bw ≤ bw1) : mo_ok D S T p bw1 := by
  obtain ⟨a, b, c, d, e, f, g, i⟩ := h
  exact ⟨a, b, c, d, e, f, ⟨g.1, by omega⟩, i⟩
theorem mo_ok_cg {D S T S1 T1 : Nat → Nat → Int32} {p : Nat} {bw : Int} (h : mo_ok D S T p bw) (hS : ∀ r, r < 5 → S1 r p = S r p) (hT : ∀ r, r < 5 → T1 r p = T r p) (h16 : T1 16 p = T 16 p) : mo_ok D S1 T1 p bw := by
  unfold mo_ok
  rw [hS 0 (by omega), hS 1 (by omega), hS 3 (by omega), hS 4 (by omega), hT 0 (by omega), hT 1 (by omega), hT 3 (by omega), hT 4 (by omega), h16]
  exact h
theorem mo_rp_cg {D S T S1 T1 : Nat → Nat → Int32} {G : Nat → Int} {p : Nat} {lv ar tr cm : Int} (h : mo_rp D G S T p lv ar tr cm) (hS : ∀ r, r < 7 → S1 r p = S r p) (h10 : S1 10 = S 10) (h11 : S1 11 = S 11) (hT : ∀ r, T1 r p = T r p) : mo_rp D G S1 T1 p lv ar tr cm := by
  unfold mo_rp mo_tk at h ⊢
  rw [hS 2 (by omega), hS 5 (by omega), hS 6 (by omega), h10, h11, hT 2, hT 5, hT 6, hT 14, hT 15]
  exact h
theorem mo_rp_mono {D S T : Nat → Nat → Int32} {G : Nat → Int} {p : Nat} {lv ar ar1 tr tr1 cm : Int} (h : mo_rp D G S T p lv ar tr cm) (ha : ar1 ≤ ar) (ht : tr1 ≤ tr) : mo_rp D G S T p lv ar1 tr1 cm := by
  rcases h with h | ⟨hl, h | h | h | h | h | h⟩
  · exact Or.inl h
  · obtain ⟨h1, ⟨k, h2, h3, h4, h5, h6, h7⟩, h8⟩ := h
    exact Or.inr ⟨hl, Or.inl ⟨h1, ⟨k, h2, h3, h4, by omega, h6, by omega⟩, h8⟩⟩
  · obtain ⟨h1, ⟨k, h2, h3, h4, h5⟩, h8⟩ := h
    exact Or.inr ⟨hl, Or.inr (Or.inl ⟨h1, ⟨k, h2, h3, h4, by omega⟩, h8⟩)⟩
  · exact Or.inr ⟨hl, Or.inr (Or.inr (Or.inl h))⟩
  · obtain ⟨h1, h2, h3, h4, h5, h6⟩ := h
    exact Or.inr ⟨hl, Or.inr (Or.inr (Or.inr (Or.inl ⟨h1, h2, h3, h4, by omega, h6⟩)))⟩
  · exact Or.inr ⟨hl, Or.inr (Or.inr (Or.inr (Or.inr (Or.inl h))))⟩
  · exact Or.inr ⟨hl, Or.inr (Or.inr (Or.inr (Or.inr (Or.inr h))))⟩
theorem mo_fold {f g : (Nat → Nat → Int32) → Nat → (Nat → Nat → Int32)} {np : Nat} {I : (Nat → Nat → Int32) → (Nat → Nat → Int32) → Prop} {B A : (Nat → Nat → Int32) → (Nat → Nat → Int32) → Nat → Prop} (step : ∀ S T p, p < np → I S T → B S T p → I (f S p) (g T p) ∧ A (f S p) (g T p) p ∧ ∀ q, q < np → q ≠ p → (B S T q → B (f S p) (g T p) q) ∧ (A S T q → A (f S p) (g T p) q)) {S T : Nat → Nat → Int32} (hI : I S T) (hB : ∀ q, q < np → B S T q) : ∀ n, n ≤ np → I (mo_fo f S n) (mo_fo g T n) ∧ (∀ q, q < n → A (mo_fo f S n) (mo_fo g T n) q) ∧ (∀ q, n ≤ q → q < np → B (mo_fo f S n) (mo_fo g T n) q) := by
  intro n
  induction n with
  | zero => exact fun _ => ⟨hI, fun q hq => absurd hq (Nat.not_lt_zero q), fun q _ hq => hB q hq⟩
  | succ n ih =>
    intro hn
    obtain ⟨i1, i2, i3⟩ := ih (by omega)
    obtain ⟨s1, s2, s3⟩ := step _ _ n (by omega) i1 (i3 n (Nat.le_refl _) (by omega))
    refine ⟨s1, fun q hq => ?_, fun q h1 h2 => ?_⟩
    · by_cases e : q = n
      · rw [e]; exact s2
      · exact (s3 q (by omega) e).2 (i2 q (by omega))
    · exact (s3 q h2 (by omega)).1 (i3 q (by omega) h2)
theorem mo_xc_ne {D : Nat → Nat → Int32} {G : Nat → Int} {S : Nat → Nat → Int32} {p a : Nat} {m na : Int} {q : Nat} (h : q ≠ p) (r : Nat) : mo_xc D G S p a m na r q = S r q := mo_go_ne h r
theorem mo_xc_row {D : Nat → Nat → Int32} {G : Nat → Int} {S : Nat → Nat → Int32} {p a : Nat} {m na : Int} {r : Nat} (h : r = 0 ∨ r = 4 ∨ 6 ≤ r) : mo_xc D G S p a m na r = S r := mo_go_row h
theorem mo_mc_ne {D : Nat → Nat → Int32} {G : Nat → Int} {T : Nat → Nat → Int32} {p : Nat} {m na : Int} {q : Nat} (h : q ≠ p) (r : Nat) : mo_mc D G T p m na r q = T r q := mo_mg_ne h r
theorem mo_mc_row {D : Nat → Nat → Int32} {G : Nat → Int} {T : Nat → Nat → Int32} {p : Nat} {m na : Int} {r : Nat} (h : 7 ≤ r ∧ r ≤ 13) : mo_mc D G T p m na r = T r := mo_mg_row D G T p m _ h
theorem mo_se_ne {S : Nat → Nat → Int32} {r p : Nat} {v : Int32} {q : Nat} (h : q ≠ p) (r1 : Nat) : mo_se S r p v r1 q = S r1 q := by
  rw [mo_se_at]; simp [h]
theorem mo_se_rw {S : Nat → Nat → Int32} {r p : Nat} {v : Int32} {r1 : Nat} (h : r1 ≠ r) : mo_se S r p v r1 = S r1 := by
  funext q; rw [mo_se_at]; simp [h]
theorem mo_se_pp {S : Nat → Nat → Int32} {r p : Nat} {v : Int32} : mo_se S r p v r p = v := by rw [mo_se_at]; simp
def mo_kp (S0 T0 S T : Nat → Nat → Int32) : Prop := (∀ r, 7 ≤ r → S r = S0 r) ∧ (∀ r, 7 ≤ r ∧ r ≤ 13 → T r = T0 r)
def mo_wh (D : Nat → Nat → Int32) : Prop := ∀ k, k < mo_nt D → 0 ≤ (D 11 k).toInt ∧ (D 11 k).toInt < (D 19 1).toInt
theorem mo_wf {D : Nat → Nat → Int32} (G : Nat → Int) (m : Int) {S0 T0 : Nat → Nat → Int32} {np : Nat} {bw : Int} (hR : mo_R D) (hG : mo_GR G) (hm : 0 ≤ m ∧ m ≤ 839) (hb : bw ≤ 100000000) (hnt : (mo_nt D : Int) ≤ 80) (hwh : mo_wh D) (h0 : ∀ k, k < mo_nt D → m ≤ (S0 11 (D 11 k).toInt.toNat).toInt → ((T0 11 (D 11 k).toInt.toNat).toInt = -1 ↔ (S0 11 (D 11 k).toInt.toNat).toInt = m)) : ∀ S T p, p < np → mo_kp S0 T0 S T → (mo_ok D S T p bw ∧ mo_rp D G S T p m m m m) → mo_kp S0 T0 (mo_xl1 D G m S p) (mo_ml1 D G m T p) ∧ (mo_ok D (mo_xl1 D G m S p) (mo_ml1 D G m T p) p (bw + 1089) ∧ mo_rp D G (mo_xl1 D G m S p) (mo_ml1 D G m T p) p m m m (m + 1)) ∧ ∀ q, q < np → q ≠ p → ((mo_ok D S T q bw ∧ mo_rp D G S T q m m m m) → (mo_ok D (mo_xl1 D G m S p) (mo_ml1 D G m T p) q bw ∧ mo_rp D G (mo_xl1 D G m S p) (mo_ml1 D G m T p) q m m m m)) ∧ ((mo_ok D S T q (bw + 1089) ∧ mo_rp D G S T q m m m (m + 1)) → (mo_ok D (mo_xl1 D G m S p) (mo_ml1 D G m T p) q (bw + 1089) ∧ mo_rp D G (mo_xl1 D G m S p) (mo_ml1 D G m T p) q m m m (m + 1))) := by
  intro S T p hp hI hB
  have xr : ∀ r, 7 ≤ r → mo_xl1 D G m S p r = S r := by
    intro r hr
    unfold mo_xl1
    split
    · rw [mo_xc_row (by omega), mo_se_rw (by omega)]
    · rfl
  have mr : ∀ r, 7 ≤ r ∧ r ≤ 13 → mo_ml1 D G m T p r = T r := by
    intro r hr
    unfold mo_ml1
    split
    · rw [mo_mc_row hr, mo_se_rw (by omega)]
    · rfl
  have xn : ∀ q, q ≠ p → ∀ r, mo_xl1 D G m S p r q = S r q := by
    intro q hq r
    unfold mo_xl1
    split
    · rw [mo_xc_ne hq, mo_se_ne hq]
    · rfl
  have mn : ∀ q, q ≠ p → ∀ r, mo_ml1 D G m T p r q = T r q := by
    intro q hq r
    unfold mo_ml1
    split
    · rw [mo_mc_ne hq, mo_se_ne hq]
    · rfl
  refine ⟨⟨fun r hr => (xr r hr).trans (hI.1 r hr), fun r hr => (mr r hr).trans (hI.2 r hr)⟩, ?_, fun q _ hq => ⟨fun w => ⟨mo_ok_cg w.1 (fun r _ => xn q hq r) (fun r _ => mn q hq r) (mn q hq 16), mo_rp_cg w.2 (fun r _ => xn q hq r) (xr 10 (by omega)) (xr 11 (by omega)) (fun r => mn q hq r)⟩, fun w => ⟨mo_ok_cg w.1 (fun r _ => xn q hq r) (fun r _ => mn q hq r) (mn q hq 16), mo_rp_cg w.2 (fun r _ => xn q hq r) (xr 10 (by omega)) (xr 11 (by omega)) (fun r => mn q hq r)⟩⟩⟩
  obtain ⟨hok, hrp⟩ := hB
  by_cases h3 : (T 6 p).toInt = 3
  · have hst : ∃ k, mo_tk D G S T p k ∧ S 6 p = D 11 k ∧ S 10 (D 11 k).toInt.toNat = D 13 k ∧ m ≤ (S 11 (D 11 k).toInt.toNat).toInt ∧ (S 2 p).toInt = -1 ∧ (T 2 p).toInt = -1 ∧ (D 2 p).toInt < m ∧ (S 5 p).toInt = -1 := by
      rcases hrp with h | ⟨hl, h | h | h | h | h | h⟩
      · omega
      · omega
      · omega
      · obtain ⟨_, ⟨k, a1, a2, a3, a4⟩, a5, a6, a7⟩ := h
        exact ⟨k, a1, a2, a3, a4, a6, a7, hl, a5⟩
      · omega
      · omega
      · omega
    obtain ⟨k, a1, a2, a3, a4, a6, a7, hl, a5⟩ := hst
    have hk := hwh k a1.2.1
    have tk : (T 5 p).toInt.toNat = k := by have := a1.1; omega
    have hz := h0 k a1.2.1
    rw [← hI.1 11 (by omega), ← hI.2 11 (by omega)] at hz
    have hz := hz a4
    by_cases hc : (S 11 (D 11 k).toInt.toNat).toInt = m
    · have ex : mo_xl1 D G m S p = mo_xc D G (mo_se S 6 p (-1)) p (mo_co D (D 13 k)) m m := by
        unfold mo_xl1
        rw [a2, if_pos ⟨by omega, hc⟩, a3]
      have em : mo_ml1 D G m T p = mo_mc D G (mo_se T 14 p (D 18 (D 13 k).toInt.toNat)) p m m := by
        unfold mo_ml1
        rw [tk, if_pos ⟨h3, hz.mpr hc⟩]
      rw [ex, em]
      have h18 := hR.1 (D 13 k).toInt.toNat
      have hs := mo_sim_c (S := mo_se S 6 p (-1)) (T := mo_se T 14 p (D 18 (D 13 k).toInt.toNat)) (p := p) (a := mo_co D (D 13 k)) (m := m) (na := m) (bw := bw) (lv := m) (cm := m + 1) hR hG hm (Int.le_refl _) (mo_ok_cg hok (fun r hr => congrFun (mo_se_rw (by omega)) p) (fun r hr => congrFun (mo_se_rw (by omega)) p) (congrFun (mo_se_rw (by decide)) p)) hb (by rw [mo_se_pp]; unfold mo_co; omega) (by unfold mo_co; omega) (by rw [mo_se_pp]; decide) (by rw [mo_se_rw (by decide)]; exact a6) (by rw [mo_se_rw (by decide)]; exact a7) hl hnt
      exact ⟨hs.1, mo_rp_mono hs.2 (by omega) (Int.le_refl _)⟩
    · have ex : mo_xl1 D G m S p = S := by
        unfold mo_xl1
        rw [a2, if_neg (fun w => hc w.2)]
      have em : mo_ml1 D G m T p = T := by
        unfold mo_ml1
        rw [tk, if_neg (fun w => hc (hz.mp w.2))]
      rw [ex, em]
      exact ⟨mo_ok_mono hok (by omega), Or.inr ⟨hl, Or.inr (Or.inr (Or.inl ⟨h3, ⟨k, a1, a2, a3, by omega⟩, a5, a6, a7⟩))⟩⟩
  · have em : mo_ml1 D G m T p = T := by
      unfold mo_ml1
      rw [if_neg (fun w => h3 w.1)]
    have s6 : (S 6 p).toInt = -1 := by
      rcases hrp with h | ⟨hl, h | h | h | h | h | h⟩
      · exact h.2.2.1
      · exact h.2.2.1
      · exact h.2.2.1
      · exact absurd h.1 h3
      · exact h.2.2.1
      · exact h.2.2.1
      · exact h.2.2.1
    have ex : mo_xl1 D G m S p = S := by
      unfold mo_xl1
      rw [if_neg (fun w => w.1 s6)]
    rw [ex, em]
    refine ⟨mo_ok_mono hok (by omega), ?_⟩
    rcases hrp with h | ⟨hl, h | h | h | h | h | h⟩
    · exact Or.inl h
    · exact Or.inr ⟨hl, Or.inl h⟩
    · exact Or.inr ⟨hl, Or.inr (Or.inl h)⟩
    · exact absurd h.1 h3
    · exact Or.inr ⟨hl, Or.inr (Or.inr (Or.inr (Or.inl h)))⟩
    · exact Or.inr ⟨hl, Or.inr (Or.inr (Or.inr (Or.inr (Or.inl h))))⟩
    · exact Or.inr ⟨hl, Or.inr (Or.inr (Or.inr (Or.inr (Or.inr h))))⟩
theorem mo_hf {D : Nat → Nat → Int32} (G : Nat → Int) (m : Int) {S0 T0 : Nat → Nat → Int32} {np : Nat} {bw : Int} (hR : mo_R D) (hG : mo_GR G) (hm : 0 ≤ m ∧ m ≤ 839) (hb : bw ≤ 100000000) (hnt : (mo_nt D : Int) ≤ 80) : ∀ S T p, p < np → mo_kp S0 T0 S T → (mo_ok D S T p bw ∧ mo_rp D G S T p m m m (m + 1)) → mo_kp S0 T0 (mo_xh1 D G m S p) (mo_mh1 D G m T p) ∧ (mo_ok D (mo_xh1 D G m S p) (mo_mh1 D G m T p) p (bw + 1089) ∧ mo_rp D G (mo_xh1 D G m S p) (mo_mh1 D G m T p) p (m + 1) (m + 1) m (m + 1)) ∧ ∀ q, q < np → q ≠ p → ((mo_ok D S T q bw ∧ mo_rp D G S T q m m m (m + 1)) → (mo_ok D (mo_xh1 D G m S p) (mo_mh1 D G m T p) q bw ∧ mo_rp D G (mo_xh1 D G m S p) (mo_mh1 D G m T p) q m m m (m + 1))) ∧ ((mo_ok D S T q (bw + 1089) ∧ mo_rp D G S T q (m + 1) (m + 1) m (m + 1)) → (mo_ok D (mo_xh1 D G m S p) (mo_mh1 D G m T p) q (bw + 1089) ∧ mo_rp D G (mo_xh1 D G m S p) (mo_mh1 D G m T p) q (m + 1) (m + 1) m (m + 1))) := by
  intro S T p hp hI hB
  have xr : ∀ r, 7 ≤ r → mo_xh1 D G m S p r = S r := by
    intro r hr
    unfold mo_xh1
    split
    · rw [mo_xc_row (by omega)]
    · rfl
  have mr : ∀ r, 7 ≤ r ∧ r ≤ 13 → mo_mh1 D G m T p r = T r := by
    intro r hr
    unfold mo_mh1
    split
    · rw [mo_mc_row hr]
    · split
      · exact mo_ar_row T p m hr.1
      · rfl
  have xn : ∀ q, q ≠ p → ∀ r, mo_xh1 D G m S p r q = S r q := by
    intro q hq r
    unfold mo_xh1
    split
    · rw [mo_xc_ne hq]
    · rfl
  have mn : ∀ q, q ≠ p → ∀ r, mo_mh1 D G m T p r q = T r q := by
    intro q hq r
    unfold mo_mh1
    split
    · rw [mo_mc_ne hq]
    · split
      · exact mo_ar_ne hq r
      · rfl
  refine ⟨⟨fun r hr => (xr r hr).trans (hI.1 r hr), fun r hr => (mr r hr).trans (hI.2 r hr)⟩, ?_, fun q _ hq => ⟨fun w => ⟨mo_ok_cg w.1 (fun r _ => xn q hq r) (fun r _ => mn q hq r) (mn q hq 16), mo_rp_cg w.2 (fun r _ => xn q hq r) (xr 10 (by omega)) (xr 11 (by omega)) (fun r => mn q hq r)⟩, fun w => ⟨mo_ok_cg w.1 (fun r _ => xn q hq r) (fun r _ => mn q hq r) (mn q hq 16), mo_rp_cg w.2 (fun r _ => xn q hq r) (xr 10 (by omega)) (xr 11 (by omega)) (fun r => mn q hq r)⟩⟩⟩
  obtain ⟨hok, hrp⟩ := hB
  have z2 : (2 : Int32).toInt = 2 := by decide
  have z5 : (5 : Int32).toInt = 5 := by decide
  have ofm : (Int32.ofInt m).toInt = m := mo_i32 (by omega) (by omega)
  rcases hrp with h | ⟨hl, h⟩
  · obtain ⟨h0, h5, h6, h2, h2t, h14, hlv⟩ := h
    by_cases hc : (D 2 p).toInt = m
    · have ex : mo_xh1 D G m S p = mo_xc D G S p (D 0 p).toInt.toNat m m := by
        unfold mo_xh1; rw [if_pos hc]
      have em : mo_mh1 D G m T p = mo_mc D G T p m m := by
        unfold mo_mh1; rw [if_pos ⟨h0, hc⟩]
      rw [ex, em]
      have hh := hR.2.2.2.1 p
      have hs := mo_sim_c (a := (D 0 p).toInt.toNat) (lv := m + 1) (cm := m + 1) hR hG hm (Int.le_refl m) hok hb (by rw [h14]; omega) (by omega) h6 h2 h2t (by omega) hnt
      exact hs
    · have ex : mo_xh1 D G m S p = S := by
        unfold mo_xh1; rw [if_neg hc]
      have em : mo_mh1 D G m T p = T := by
        unfold mo_mh1; rw [if_neg (fun w => hc w.2), if_neg (fun w => by omega)]
      rw [ex, em]
      exact ⟨mo_ok_mono hok (by omega), Or.inl ⟨h0, h5, h6, h2, h2t, h14, by omega⟩⟩
  · have ex : mo_xh1 D G m S p = S := by
      unfold mo_xh1; rw [if_neg (by omega)]
    rw [ex]
    have no : ∀ z : Int, (T 6 p).toInt = z → z ≠ 0 → ¬ (z = 1 ∨ z = 4) ∨ ¬ (T 15 p).toInt = m → mo_mh1 D G m T p = T := by
      intro z e hz hn
      unfold mo_mh1
      rw [if_neg (fun w => hz (e.symm.trans w.1)), if_neg (fun w => hn.elim (fun v => v (by rw [← e]; exact w.1)) (fun v => v w.2))]
    rcases h with h | h | h | h | h | h
    · obtain ⟨s1, ⟨k, k1, k2, k3, k4, k5, k6⟩, s2, s3, s4⟩ := h
      by_cases hc : (T 15 p).toInt = m
      · have em : mo_mh1 D G m T p = mo_se T 6 p 2 := by
          unfold mo_mh1
          rw [if_neg (by omega), if_pos ⟨Or.inl s1, hc⟩]
          unfold mo_ar
          rw [if_pos s1]
        rw [em]
        refine ⟨mo_ok_mono (mo_ok_cg hok (fun r hr => rfl) (fun r hr => congrFun (mo_se_rw (by omega)) p) (congrFun (mo_se_rw (by decide)) p)) (by omega), Or.inr ⟨by omega, Or.inr (Or.inl ⟨by rw [mo_se_pp]; exact z2, ⟨k, ⟨?_, k1.2⟩, ?_, ?_, k6⟩, s2, s3, ?_⟩)⟩⟩
        · rw [mo_se_rw (by decide)]; exact k1.1
        · rw [mo_se_rw (by decide)]; exact k2
        · rw [mo_se_rw (by decide)]; exact k3
        · rw [mo_se_rw (by decide)]; exact s4
      · rw [no 1 s1 (by decide) (Or.inr hc)]
        exact ⟨mo_ok_mono hok (by omega), Or.inr ⟨by omega, Or.inl ⟨s1, ⟨k, k1, k2, k3, by omega, k5, k6⟩, s2, s3, s4⟩⟩⟩
    · rw [no 2 h.1 (by decide) (Or.inl (by decide))]
      exact ⟨mo_ok_mono hok (by omega), Or.inr ⟨by omega, Or.inr (Or.inl h)⟩⟩
    · rw [no 3 h.1 (by decide) (Or.inl (by decide))]
      exact ⟨mo_ok_mono hok (by omega), Or.inr ⟨by omega, Or.inr (Or.inr (Or.inl h))⟩⟩
    · obtain ⟨s1, s2, s3, s4, s5, s6⟩ := h
      by_cases hc : (T 15 p).toInt = m
      · have em : mo_mh1 D G m T p = mo_se (mo_se T 6 p 5) 2 p (Int32.ofInt m) := by
          unfold mo_mh1
          rw [if_neg (by omega), if_pos ⟨Or.inr s1, hc⟩]
          unfold mo_ar
          rw [if_neg (by omega)]
        rw [em]
        rw [hc, if_pos (by omega)] at s6
        refine ⟨mo_ok_mono (mo_ok_cg (T1 := mo_se (mo_se T 6 p 5) 2 p (Int32.ofInt m)) (bw := bw) (S1 := S) ?_ (fun r hr => rfl) (fun r hr => rfl) rfl) (by omega), Or.inr ⟨by omega, Or.inr (Or.inr (Or.inr (Or.inr (Or.inl ⟨?_, s2, s3, ?_⟩))))⟩⟩
        · obtain ⟨o0, o1, o3, o4, o16, b1, b3, b6⟩ := hok
          refine ⟨?_, ?_, ?_, ?_, ?_, b1, b3, b6⟩
          · rw [mo_se_rw (by decide), mo_se_rw (by decide)]; exact o0
          · rw [mo_se_rw (by decide), mo_se_rw (by decide)]; exact o1
          · rw [mo_se_rw (by decide), mo_se_rw (by decide)]; exact o3
          · rw [mo_se_rw (by decide), mo_se_rw (by decide)]; exact o4
          · rw [mo_se_rw (by decide), mo_se_rw (by decide)]; exact o16
        · rw [mo_se_rw (by decide), mo_se_pp]; exact z5
        · rw [mo_se_pp]; exact Int32.toInt_inj.mp (s6.trans ofm.symm)
      · rw [no 4 s1 (by decide) (Or.inr hc)]
        exact ⟨mo_ok_mono hok (by omega), Or.inr ⟨by omega, Or.inr (Or.inr (Or.inr (Or.inl ⟨s1, s2, s3, s4, by omega, s6⟩)))⟩⟩
    · rw [no 5 h.1 (by decide) (Or.inl (by decide))]
      exact ⟨mo_ok_mono hok (by omega), Or.inr ⟨by omega, Or.inr (Or.inr (Or.inr (Or.inr (Or.inl h))))⟩⟩
    · rw [no 6 h.1 (by decide) (Or.inl (by decide))]
      exact ⟨mo_ok_mono hok (by omega), Or.inr ⟨by omega, Or.inr (Or.inr (Or.inr (Or.inr (Or.inr h))))⟩⟩
theorem mo_af {D : Nat → Nat → Int32} (G : Nat → Int) (m : Int) {S0 T0 : Nat → Nat → Int32} {np : Nat} {bw : Int} (hR : mo_R D) (hG : mo_GR G) (hm : 0 ≤ m ∧ m ≤ 839) (hb : bw ≤ 100000000) (hnt : (mo_nt D : Int) ≤ 80) : ∀ S T p, p < np → mo_kp S0 T0 S T → (mo_ok D S T p bw ∧ mo_rp D G S T p (m + 1) (m + 1) m (m + 1)) → mo_kp S0 T0 (mo_xa1 D G m S p) (mo_ma1 D G m T p) ∧ (mo_ok D (mo_xa1 D G m S p) (mo_ma1 D G m T p) p (bw + 1089) ∧ mo_rp D G (mo_xa1 D G m S p) (mo_ma1 D G m T p) p (m + 1) (m + 1) (m + 1) (m + 1)) ∧ ∀ q, q < np → q ≠ p → ((mo_ok D S T q bw ∧ mo_rp D G S T q (m + 1) (m + 1) m (m + 1)) → (mo_ok D (mo_xa1 D G m S p) (mo_ma1 D G m T p) q bw ∧ mo_rp D G (mo_xa1 D G m S p) (mo_ma1 D G m T p) q (m + 1) (m + 1) m (m + 1))) ∧ ((mo_ok D S T q (bw + 1089) ∧ mo_rp D G S T q (m + 1) (m + 1) (m + 1) (m + 1)) → (mo_ok D (mo_xa1 D G m S p) (mo_ma1 D G m T p) q (bw + 1089) ∧ mo_rp D G (mo_xa1 D G m S p) (mo_ma1 D G m T p) q (m + 1) (m + 1) (m + 1) (m + 1))) := by
  intro S T p hp hI hB
  have xr : ∀ r, 7 ≤ r → mo_xa1 D G m S p r = S r := by
    intro r hr
    unfold mo_xa1
    split
    · rw [mo_xc_row (by omega)]
    · rfl
  have mr : ∀ r, 7 ≤ r ∧ r ≤ 13 → mo_ma1 D G m T p r = T r := by
    intro r hr
    unfold mo_ma1
    split
    · rw [mo_mc_row hr]
    · rfl
  have xn : ∀ q, q ≠ p → ∀ r, mo_xa1 D G m S p r q = S r q := by
    intro q hq r
    unfold mo_xa1
    split
    · rw [mo_xc_ne hq]
    · rfl
  have mn : ∀ q, q ≠ p → ∀ r, mo_ma1 D G m T p r q = T r q := by
    intro q hq r
    unfold mo_ma1
    split
    · rw [mo_mc_ne hq]
    · rfl
  refine ⟨⟨fun r hr => (xr r hr).trans (hI.1 r hr), fun r hr => (mr r hr).trans (hI.2 r hr)⟩, ?_, fun q _ hq => ⟨fun w => ⟨mo_ok_cg w.1 (fun r _ => xn q hq r) (fun r _ => mn q hq r) (mn q hq 16), mo_rp_cg w.2 (fun r _ => xn q hq r) (xr 10 (by omega)) (xr 11 (by omega)) (fun r => mn q hq r)⟩, fun w => ⟨mo_ok_cg w.1 (fun r _ => xn q hq r) (fun r _ => mn q hq r) (mn q hq 16), mo_rp_cg w.2 (fun r _ => xn q hq r) (xr 10 (by omega)) (xr 11 (by omega)) (fun r => mn q hq r)⟩⟩⟩
  obtain ⟨hok, hrp⟩ := hB
  have nx : ¬ ((S 5 p).toInt ≠ -1 ∧ (D 14 (S 5 p).toInt.toNat).toInt = m) → mo_xa1 D G m S p = S := fun h => by
    unfold mo_xa1; rw [if_neg h]
  have nm : ¬ (T 6 p).toInt = 2 ∨ ¬ (D 14 (T 5 p).toInt.toNat).toInt = m → mo_ma1 D G m T p = T := fun h => by
    unfold mo_ma1; rw [if_neg (fun w => h.elim (fun v => v w.1) (fun v => v w.2))]
  rcases hrp with h | ⟨hl, h | h | h | h | h | h⟩
  · rw [nx (fun w => w.1 h.2.1), nm (Or.inl (by omega))]
    exact ⟨mo_ok_mono hok (by omega), Or.inl h⟩
  · obtain ⟨s1, ⟨k, k1, k2, k3, k4, k5, k6⟩, s2, s3, s4⟩ := h
    have tk : (T 5 p).toInt.toNat = k := by have := k1.1; omega
    rw [nx (fun w => by have h9 := w.2; rw [k2, tk] at h9; omega), nm (Or.inl (by omega))]
    exact ⟨mo_ok_mono hok (by omega), Or.inr ⟨hl, Or.inl ⟨s1, ⟨k, k1, k2, k3, k4, k5, by omega⟩, s2, s3, s4⟩⟩⟩
  · obtain ⟨s1, ⟨k, k1, k2, k3, k4⟩, s2, s3, s4⟩ := h
    have tk : (T 5 p).toInt.toNat = k := by have := k1.1; omega
    by_cases hc : (D 14 k).toInt = m
    · have ex : mo_xa1 D G m S p = mo_xc D G S p (mo_cf D k) m (m + 1) := by
        unfold mo_xa1
        rw [k2, tk, if_pos ⟨by have := k1.1; omega, hc⟩]
      have em : mo_ma1 D G m T p = mo_mc D G T p m (m + 1) := by
        unfold mo_ma1
        rw [tk, if_pos ⟨s1, hc⟩]
      rw [ex, em]
      have h18 := hR.1 (D 12 k).toInt.toNat
      exact mo_sim_c (a := mo_cf D k) (lv := m + 1) (cm := m + 1) hR hG hm (by omega) hok hb (by rw [k3]; unfold mo_cf; omega) (mo_cf_b hR k) s2 s3 s4 hl hnt
    · rw [nx (fun w => by have h9 := w.2; rw [k2, tk] at h9; exact hc h9), nm (Or.inr (by rw [tk]; exact hc))]
      exact ⟨mo_ok_mono hok (by omega), Or.inr ⟨hl, Or.inr (Or.inl ⟨s1, ⟨k, k1, k2, k3, by omega⟩, s2, s3, s4⟩)⟩⟩
  · rw [nx (fun w => w.1 h.2.2.1), nm (Or.inl (by omega))]
    exact ⟨mo_ok_mono hok (by omega), Or.inr ⟨hl, Or.inr (Or.inr (Or.inl h))⟩⟩
  · rw [nx (fun w => w.1 h.2.1), nm (Or.inl (by omega))]
    exact ⟨mo_ok_mono hok (by omega), Or.inr ⟨hl, Or.inr (Or.inr (Or.inr (Or.inl h)))⟩⟩
  · rw [nx (fun w => w.1 h.2.1), nm (Or.inl (by omega))]
    exact ⟨mo_ok_mono hok (by omega), Or.inr ⟨hl, Or.inr (Or.inr (Or.inr (Or.inr (Or.inl h))))⟩⟩
  · rw [nx (fun w => w.1 h.2.1), nm (Or.inl (by omega))]
    exact ⟨mo_ok_mono hok (by omega), Or.inr ⟨hl, Or.inr (Or.inr (Or.inr (Or.inr (Or.inr h))))⟩⟩
def mo_w (D : Nat → Nat → Int32) (t : Nat) : Nat := (D 11 t).toInt.toNat
def mo_cut (v : Int32) : Int32 := if 1000000 < v.toInt then 1000000 else v
def mo_ea (D : Nat → Nat → Int32) (S : Nat → Nat → Int32) (w : Nat) (fare : Int32) : Nat → Nat → Int32 := if (D 7 w).toInt = 2 then mo_se S 7 w (mo_cut (S 7 w + fare)) else mo_se S 13 0 (mo_cut (S 13 0 + fare))
def mo_xb1 (D : Nat → Nat → Int32) (t : Nat) (fare : Int32) (S : Nat → Nat → Int32) (p : Nat) : Nat → Nat → Int32 := mo_ea D (mo_se (mo_se (mo_se S 5 p (-1)) 6 p (D 11 t)) 0 p (S 0 p - fare)) (mo_w D t) fare
def mo_mb1 (D : Nat → Nat → Int32) (t : Nat) (fare : Int32) (T : Nat → Nat → Int32) (p : Nat) : Nat → Nat → Int32 := mo_se (mo_ea D (mo_se T 0 p (T 0 p - fare)) (mo_w D t) fare) 6 p 3
def mo_el (S : Nat → Nat → Int32) (t : Nat) (fare : Int32) (p : Nat) : Prop := (S 5 p).toInt = (t : Int) ∧ fare.toInt ≤ (S 0 p).toInt
def mo_fi (D S : Nat → Nat → Int32) (t : Nat) (fare : Int32) : Nat → Int
  | 0 => -1
  | n + 1 => if ((S 5 n).toInt = (t : Int) ∧ fare.toInt ≤ (S 0 n).toInt) ∧ (mo_fi D S t fare n = -1 ∨ (D 3 n).toInt < (D 3 (mo_fi D S t fare n).toNat).toInt) then (n : Int) else mo_fi D S t fare n
def mo_xs (D : Nat → Nat → Int32) (t : Nat) (fare : Int32) (np : Nat) (S : Nat → Nat → Int32) : Nat → (Nat → Nat → Int32)
  | 0 => S
  | j + 1 => if mo_fi D (mo_xs D t fare np S j) t fare np = -1 then mo_xs D t fare np S j else mo_xb1 D t fare (mo_xs D t fare np S j) (mo_fi D (mo_xs D t fare np S j) t fare np).toNat
def mo_xn (D : Nat → Nat → Int32) (t : Nat) (fare : Int32) (np : Nat) (S : Nat → Nat → Int32) : Nat → Int
  | 0 => 0
  | j + 1 => if mo_fi D (mo_xs D t fare np S j) t fare np = -1 then mo_xn D t fare np S j else mo_xn D t fare np S j + 1
def mo_mbp (D : Nat → Nat → Int32) (t : Nat) (fare : Int32) (seats : Int) (m9 : Nat) (x : (Nat → Nat → Int32) × Int) (p : Nat) : (Nat → Nat → Int32) × Int := if x.2 < seats ∧ (D 3 p).toInt = (m9 : Int) ∧ (x.1 6 p).toInt = 2 ∧ (x.1 5 p).toInt = (t : Int) ∧ fare.toInt ≤ (x.1 0 p).toInt then (mo_mb1 D t fare x.1 p, x.2 + 1) else x
def mo_mbi (D : Nat → Nat → Int32) (t : Nat) (fare : Int32) (seats : Int) (m9 : Nat) (x : (Nat → Nat → Int32) × Int) : Nat → (Nat → Nat → Int32) × Int
  | 0 => x
  | p + 1 => mo_mbp D t fare seats m9 (mo_mbi D t fare seats m9 x p) p
def mo_mbo (D : Nat → Nat → Int32) (t : Nat) (fare : Int32) (seats : Int) (np : Nat) (x : (Nat → Nat → Int32) × Int) : Nat → (Nat → Nat → Int32) × Int
  | 0 => x
  | m9 + 1 => mo_mbi D t fare seats m9 (mo_mbo D t fare seats np x m9) np
def mo_bd (D S T : Nat → Nat → Int32) (t p : Nat) (lv : Int) : Prop := (T 6 p).toInt = 3 ∧ (T 5 p).toInt = (t : Int) ∧ S 6 p = D 11 t ∧ (S 5 p).toInt = -1 ∧ (S 2 p).toInt = -1 ∧ (T 2 p).toInt = -1 ∧ T 14 p = D 18 (D 12 t).toInt.toNat ∧ (D 2 p).toInt < lv
def mo_K (D : Nat → Nat → Int32) (G : Nat → Int) (np nw t : Nat) (m bw : Int) (S0 T0 S T : Nat → Nat → Int32) : Prop := (∀ p, p < np → mo_ok D S T p bw ∧ (mo_rp D G S T p (m + 1) (m + 1) m (m + 1) ∨ mo_bd D S T t p (m + 1))) ∧ (∀ w, w < nw → S 7 w = T 7 w) ∧ S 13 0 = T 13 0 ∧ (∀ r, 8 ≤ r → r ≠ 13 → S r = S0 r) ∧ (∀ r, 8 ≤ r → r ≤ 12 → T r = T0 r)
theorem mo_ea_row {D S : Nat → Nat → Int32} {w : Nat} {fare : Int32} {r : Nat} (h7 : r ≠ 7) (h13 : r ≠ 13) : mo_ea D S w fare r = S r := by
  unfold mo_ea
  split
  · exact mo_se_rw h7
  · exact mo_se_rw h13
theorem mo_ea_7 {D S T : Nat → Nat → Int32} {w : Nat} {fare : Int32} {nw : Nat} (hw : w < nw) (h7 : ∀ w, w < nw → S 7 w = T 7 w) (h13 : S 13 0 = T 13 0) : (∀ w1, w1 < nw → mo_ea D S w fare 7 w1 = mo_ea D T w fare 7 w1) ∧ mo_ea D S w fare 13 0 = mo_ea D T w fare 13 0 := by
  unfold mo_ea
  by_cases c : (D 7 w).toInt = 2
  · rw [if_pos c, if_pos c]
    refine ⟨fun w1 h1 => ?_, ?_⟩
    · rw [mo_se_at, mo_se_at, h7 w hw, h7 w1 h1]
    · rw [mo_se_rw (by decide), mo_se_rw (by decide)]; exact h13
  · rw [if_neg c, if_neg c]
    refine ⟨fun w1 h1 => ?_, ?_⟩
    · rw [mo_se_rw (by decide), mo_se_rw (by decide)]; exact h7 w1 h1
    · rw [mo_se_pp, mo_se_pp, h13]
theorem mo_K_el {D S T S0 T0 : Nat → Nat → Int32} {G : Nat → Int} {np nw t p : Nat} {m bw : Int} {fare : Int32} (h14 : (D 14 t).toInt = m) (hK : mo_K D G np nw t m bw S0 T0 S T) (hp : p < np) : mo_el S t fare p ↔ ((T 6 p).toInt = 2 ∧ (T 5 p).toInt = (t : Int) ∧ fare.toInt ≤ (T 0 p).toInt) := by
  obtain ⟨hok, h⟩ := hK.1 p hp
  have e0 : S 0 p = T 0 p := hok.1
  unfold mo_el
  rw [e0]
  rcases h with (h | ⟨hl, h | h | h | h | h | h⟩) | h
  · have := h.2.1; have := h.1
    constructor
    · intro w; omega
    · intro w; omega
  · obtain ⟨s1, ⟨k, k1, k2, k3, k4, k5, k6⟩, s2, s3, s4⟩ := h
    have := k1.1
    rw [k2]
    constructor
    · intro w
      have e : k = t := by omega
      subst e; omega
    · intro w; omega
  · obtain ⟨s1, ⟨k, k1, k2, k3, k4⟩, s2, s3, s4⟩ := h
    rw [k2]
    constructor
    · intro w; exact ⟨s1, w.1, w.2⟩
    · intro w; exact ⟨w.2.1, w.2.2⟩
  · have := h.2.2.1; have := h.1
    constructor
    · intro w; omega
    · intro w; omega
  · have := h.2.1; have := h.1
    constructor
    · intro w; omega
    · intro w; omega
  · have := h.2.1; have := h.1
    constructor
    · intro w; omega
    · intro w; omega
  · have := h.2.1; have := h.1
    constructor
    · intro w; omega
    · intro w; omega
  · have := h.2.2.2.1; have := h.1
    constructor
    · intro w; omega
    · intro w; omega
theorem mo_bd_cg {D S T S1 T1 : Nat → Nat → Int32} {t p : Nat} {lv : Int} (h : mo_bd D S T t p lv) (hS : ∀ r, r < 7 → S1 r p = S r p) (hT : ∀ r, r ≠ 7 → r ≠ 13 → T1 r p = T r p) : mo_bd D S1 T1 t p lv := by
  unfold mo_bd at h ⊢
  rw [hS 2 (by omega), hS 5 (by omega), hS 6 (by omega), hT 2 (by omega) (by omega), hT 5 (by omega) (by omega), hT 6 (by omega) (by omega), hT 14 (by omega) (by omega)]
  exact h
theorem mo_K_st {D S T S0 T0 : Nat → Nat → Int32} {G : Nat → Int} {np nw t p : Nat} {m bw : Int} {fare : Int32} (hw : mo_w D t < nw) (h14 : (D 14 t).toInt = m) (hK : mo_K D G np nw t m bw S0 T0 S T) (hp : p < np) (he : mo_el S t fare p) : mo_K D G np nw t m bw S0 T0 (mo_xb1 D t fare S p) (mo_mb1 D t fare T p) := by
  have heT := (mo_K_el h14 hK hp).mp he
  have z3 : (3 : Int32).toInt = 3 := by decide
  have n1 : ((-1) : Int32).toInt = -1 := by decide
  have xr : ∀ r, r ≠ 5 → r ≠ 6 → r ≠ 0 → r ≠ 7 → r ≠ 13 → mo_xb1 D t fare S p r = S r := by
    intro r a b c d e
    unfold mo_xb1
    rw [mo_ea_row d e, mo_se_rw c, mo_se_rw b, mo_se_rw a]
  have mr : ∀ r, r ≠ 6 → r ≠ 0 → r ≠ 7 → r ≠ 13 → mo_mb1 D t fare T p r = T r := by
    intro r b c d e
    unfold mo_mb1
    rw [mo_se_rw b, mo_ea_row d e, mo_se_rw c]
  have x6 : mo_xb1 D t fare S p 6 p = D 11 t := by
    unfold mo_xb1
    rw [mo_ea_row (by decide) (by decide), mo_se_rw (by decide), mo_se_pp]
  have x5 : mo_xb1 D t fare S p 5 p = -1 := by
    unfold mo_xb1
    rw [mo_ea_row (by decide) (by decide), mo_se_rw (by decide), mo_se_rw (by decide), mo_se_pp]
  have x0 : mo_xb1 D t fare S p 0 p = S 0 p - fare := by
    unfold mo_xb1
    rw [mo_ea_row (by decide) (by decide), mo_se_pp]
  have m6 : mo_mb1 D t fare T p 6 p = 3 := by
    unfold mo_mb1
    rw [mo_se_pp]
  have m0 : mo_mb1 D t fare T p 0 p = T 0 p - fare := by
    unfold mo_mb1
    rw [mo_se_rw (by decide), mo_ea_row (by decide) (by decide), mo_se_pp]
  have xn : ∀ q, q ≠ p → ∀ r, r < 7 → mo_xb1 D t fare S p r q = S r q := by
    intro q hq r hr
    unfold mo_xb1
    rw [mo_ea_row (by omega) (by omega), mo_se_ne hq, mo_se_ne hq, mo_se_ne hq]
  have mn : ∀ q, q ≠ p → ∀ r, r ≠ 7 → r ≠ 13 → mo_mb1 D t fare T p r q = T r q := by
    intro q hq r a b
    unfold mo_mb1
    rw [mo_se_ne hq, mo_ea_row a b, mo_se_ne hq]
  obtain ⟨k1, k2, k3, k4, k5⟩ := hK
  have hea := mo_ea_7 (D := D) (S := mo_se (mo_se (mo_se S 5 p (-1)) 6 p (D 11 t)) 0 p (S 0 p - fare)) (T := mo_se T 0 p (T 0 p - fare)) (fare := fare) hw (fun w h => by rw [mo_se_rw (by decide), mo_se_rw (by decide), mo_se_rw (by decide), mo_se_rw (by decide)]; exact k2 w h) (by rw [mo_se_rw (by decide), mo_se_rw (by decide), mo_se_rw (by decide), mo_se_rw (by decide)]; exact k3)
  refine ⟨fun q hq => ?_, fun w h => ?_, ?_, fun r a b => (xr r (by omega) (by omega) (by omega) (by omega) b).trans (k4 r a b), fun r a b => (mr r (by omega) (by omega) (by omega) (by omega)).trans (k5 r a b)⟩
  · by_cases e : q = p
    · subst e
      have hst : (S 2 q).toInt = -1 ∧ (T 2 q).toInt = -1 ∧ (D 2 q).toInt < m + 1 ∧ T 14 q = D 18 (D 12 t).toInt.toNat := by
        rcases (k1 q hq).2 with (h | ⟨hl, h | h | h | h | h | h⟩) | h
        · exfalso; have := h.1; omega
        · exfalso; have := h.1; omega
        · obtain ⟨s1, ⟨k, a1, a2, a3, a4⟩, s2, s3, s4⟩ := h
          have ek : k = t := by have := a1.1; omega
          rw [ek] at a3
          exact ⟨s3, s4, hl, a3⟩
        · exfalso; have := h.1; omega
        · exfalso; have := h.1; omega
        · exfalso; have := h.1; omega
        · exfalso; have := h.1; omega
        · exfalso; have := h.1; omega
      obtain ⟨o0, o1, o3, o4, o16, b1, b3, b6⟩ := (k1 q hq).1
      refine ⟨⟨by rw [x0, m0, o0], ?_, ?_, ?_, ?_, ?_, ?_, b6⟩, Or.inr ⟨by rw [m6]; exact z3, ?_, x6, by rw [x5]; exact n1, ?_, ?_, ?_, hst.2.2.1⟩⟩
      · rw [xr 1 (by decide) (by decide) (by decide) (by decide) (by decide), mr 1 (by decide) (by decide) (by decide) (by decide)]; exact o1
      · rw [xr 3 (by decide) (by decide) (by decide) (by decide) (by decide), mr 3 (by decide) (by decide) (by decide) (by decide)]; exact o3
      · rw [xr 4 (by decide) (by decide) (by decide) (by decide) (by decide), mr 4 (by decide) (by decide) (by decide) (by decide)]; exact o4
      · rw [xr 3 (by decide) (by decide) (by decide) (by decide) (by decide), mr 16 (by decide) (by decide) (by decide) (by decide)]; exact o16
      · rw [xr 1 (by decide) (by decide) (by decide) (by decide) (by decide)]; exact b1
      · rw [xr 3 (by decide) (by decide) (by decide) (by decide) (by decide)]; exact b3
      · rw [mr 5 (by decide) (by decide) (by decide) (by decide)]; exact heT.2.1
      · rw [xr 2 (by decide) (by decide) (by decide) (by decide) (by decide)]; exact hst.1
      · rw [mr 2 (by decide) (by decide) (by decide) (by decide)]; exact hst.2.1
      · rw [mr 14 (by decide) (by decide) (by decide) (by decide)]; exact hst.2.2.2
    · refine ⟨mo_ok_cg (k1 q hq).1 (fun r hr => xn q e r (by omega)) (fun r hr => mn q e r (by omega) (by omega)) (mn q e 16 (by decide) (by decide)), (k1 q hq).2.elim (fun h => Or.inl ?_) (fun h => Or.inr (mo_bd_cg h (fun r hr => xn q e r hr) (fun r a b => mn q e r a b)))⟩
      have h9 := mo_rp_cg (S1 := mo_xb1 D t fare S p) (T1 := fun r i => if r = 7 ∨ r = 13 then T r i else mo_mb1 D t fare T p r i) h (fun r hr => xn q e r hr) (xr 10 (by decide) (by decide) (by decide) (by decide) (by decide)) (xr 11 (by decide) (by decide) (by decide) (by decide) (by decide)) (fun r => by
        show (if r = 7 ∨ r = 13 then T r q else mo_mb1 D t fare T p r q) = T r q
        by_cases c : r = 7 ∨ r = 13
        · rw [if_pos c]
        · rw [if_neg c]; exact mn q e r (by omega) (by omega))
      exact h9
  · unfold mo_xb1 mo_mb1
    rw [mo_se_rw (by decide)]
    exact hea.1 w h
  · unfold mo_xb1 mo_mb1
    rw [mo_se_rw (by decide)]
    exact hea.2
theorem mo_fi_c (D S : Nat → Nat → Int32) (t : Nat) (fare : Int32) : ∀ n, (mo_fi D S t fare n = -1 ∧ ∀ p, p < n → ¬ mo_el S t fare p) ∨ (∃ p, p < n ∧ mo_fi D S t fare n = (p : Int) ∧ mo_el S t fare p ∧ ∀ q, q < n → mo_el S t fare q → (D 3 p).toInt < (D 3 q).toInt ∨ ((D 3 p).toInt = (D 3 q).toInt ∧ p ≤ q)) := by
  intro n
  induction n with
  | zero => exact Or.inl ⟨rfl, fun p hp => absurd hp (Nat.not_lt_zero p)⟩
  | succ n ih =>
    by_cases c : ((S 5 n).toInt = (t : Int) ∧ fare.toInt ≤ (S 0 n).toInt) ∧ (mo_fi D S t fare n = -1 ∨ (D 3 n).toInt < (D 3 (mo_fi D S t fare n).toNat).toInt)
    · have e : mo_fi D S t fare (n + 1) = (n : Int) := if_pos c
      rw [e]
      refine Or.inr ⟨n, Nat.lt_succ_self n, rfl, c.1, fun q hq eq => ?_⟩
      rcases Nat.lt_or_ge q n with w | w
      · rcases ih with ⟨i1, i2⟩ | ⟨p, i1, i2, i3, i4⟩
        · exact absurd eq (i2 q w)
        · have h9 := i4 q w eq
          have h8 := c.2
          rw [i2, Int.toNat_natCast] at h8
          omega
      · have e9 : q = n := by omega
        rw [e9]; exact Or.inr ⟨rfl, Nat.le_refl _⟩
    · have e : mo_fi D S t fare (n + 1) = mo_fi D S t fare n := if_neg c
      rw [e]
      rcases ih with ⟨i1, i2⟩ | ⟨p, i1, i2, i3, i4⟩
      · refine Or.inl ⟨i1, fun q hq eq => ?_⟩
        rcases Nat.lt_or_ge q n with w | w
        · exact i2 q w eq
        · have e9 : q = n := by omega
          rw [e9] at eq
          exact c ⟨eq, Or.inl i1⟩
      · refine Or.inr ⟨p, by omega, i2, i3, fun q hq eq => ?_⟩
        rcases Nat.lt_or_ge q n with w | w
        · exact i4 q w eq
        · have e9 : q = n := by omega
          rw [e9] at eq ⊢
          have h8 : ¬ (D 3 n).toInt < (D 3 p).toInt := fun w => c ⟨eq, Or.inr (by rw [i2, Int.toNat_natCast]; exact w)⟩
          omega
theorem mo_fi_is {D S : Nat → Nat → Int32} {t : Nat} {fare : Int32} {n p : Nat} (hp : p < n) (he : mo_el S t fare p) (hl : ∀ q, q < n → mo_el S t fare q → (D 3 p).toInt < (D 3 q).toInt ∨ ((D 3 p).toInt = (D 3 q).toInt ∧ p ≤ q)) : mo_fi D S t fare n = (p : Int) := by
  rcases mo_fi_c D S t fare n with ⟨i1, i2⟩ | ⟨q, i1, i2, i3, i4⟩
  · exact absurd he (i2 p hp)
  · have a := hl q i1 i3
    have b := i4 p hp he
    rw [i2]; omega
def mo_J (D : Nat → Nat → Int32) (G : Nat → Int) (np nw t : Nat) (m bw : Int) (S0 T0 : Nat → Nat → Int32) (fare : Int32) (seats : Nat) (Sb : Nat → Nat → Int32) (m9 p : Nat) (x : (Nat → Nat → Int32) × Int) : Prop := ∃ j : Nat, x.2 = (j : Int) ∧ j ≤ seats ∧ mo_K D G np nw t m bw S0 T0 (mo_xs D t fare np Sb j) x.1 ∧ mo_xn D t fare np Sb j = (j : Int) ∧ (j < seats → ∀ q, q < np → mo_el (mo_xs D t fare np Sb j) t fare q → (m9 : Int) < (D 3 q).toInt ∨ ((D 3 q).toInt = (m9 : Int) ∧ p ≤ q))
theorem mo_J_st {D : Nat → Nat → Int32} {G : Nat → Int} {np nw t : Nat} {m bw : Int} {S0 T0 : Nat → Nat → Int32} {fare : Int32} {seats : Nat} {Sb : Nat → Nat → Int32} {m9 p : Nat} {x : (Nat → Nat → Int32) × Int} (hw : mo_w D t < nw) (h14 : (D 14 t).toInt = m) (hp : p < np) (h : mo_J D G np nw t m bw S0 T0 fare seats Sb m9 p x) : mo_J D G np nw t m bw S0 T0 fare seats Sb m9 (p + 1) (mo_mbp D t fare (seats : Int) m9 x p) := by
  obtain ⟨j, h1, h2, h3, h4, h5⟩ := h
  unfold mo_mbp
  by_cases c : x.2 < (seats : Int) ∧ (D 3 p).toInt = (m9 : Int) ∧ (x.1 6 p).toInt = 2 ∧ (x.1 5 p).toInt = (t : Int) ∧ fare.toInt ≤ (x.1 0 p).toInt
  · rw [if_pos c]
    have hj : j < seats := by omega
    have hel := (mo_K_el (fare := fare) h14 h3 hp).mpr c.2.2
    have hfi := mo_fi_is (D := D) hp hel (fun q hq eq => by have := h5 hj q hq eq; have := c.2.1; omega)
    have hne : ¬ mo_fi D (mo_xs D t fare np Sb j) t fare np = -1 := by rw [hfi]; omega
    have es : mo_xs D t fare np Sb (j + 1) = mo_xb1 D t fare (mo_xs D t fare np Sb j) p := by
      show (if mo_fi D (mo_xs D t fare np Sb j) t fare np = -1 then mo_xs D t fare np Sb j else mo_xb1 D t fare (mo_xs D t fare np Sb j) (mo_fi D (mo_xs D t fare np Sb j) t fare np).toNat) = _
      rw [if_neg hne, hfi, Int.toNat_natCast]
    have en : mo_xn D t fare np Sb (j + 1) = ((j + 1 : Nat) : Int) := by
      show (if mo_fi D (mo_xs D t fare np Sb j) t fare np = -1 then mo_xn D t fare np Sb j else mo_xn D t fare np Sb j + 1) = _
      rw [if_neg hne, h4]; omega
    have hK := mo_K_st (fare := fare) hw h14 h3 hp hel
    refine ⟨j + 1, by show x.2 + 1 = _; omega, hj, by rw [es]; exact hK, en, fun hj2 q hq eq => ?_⟩
    rw [es] at eq
    have n1 : ((-1) : Int32).toInt = -1 := by decide
    by_cases e : q = p
    · exfalso
      rw [e] at eq
      have h9 := (mo_K_el (fare := fare) h14 hK hp).mp eq
      have h8 : mo_mb1 D t fare x.1 p 6 p = 3 := by unfold mo_mb1; rw [mo_se_pp]
      rw [h8] at h9
      exact absurd h9.1 (by decide)
    · have eq2 : mo_el (mo_xs D t fare np Sb j) t fare q := by
        unfold mo_el mo_xb1 at eq
        rw [mo_ea_row (by decide) (by decide), mo_ea_row (by decide) (by decide), mo_se_ne e, mo_se_ne e, mo_se_ne e, mo_se_ne e, mo_se_ne e, mo_se_ne e] at eq
        exact eq
      have := h5 hj q hq eq2
      omega
  · rw [if_neg c]
    refine ⟨j, h1, h2, h3, h4, fun hj q hq eq => ?_⟩
    have h9 := h5 hj q hq eq
    by_cases e : q = p
    · rcases h9 with w | w
      · exact Or.inl w
      · exfalso
        rw [e] at eq w
        have h8 := (mo_K_el (fare := fare) h14 h3 hp).mp eq
        exact c ⟨by omega, w.1, h8⟩
    · omega
theorem mo_J_in {D : Nat → Nat → Int32} {G : Nat → Int} {np nw t : Nat} {m bw : Int} {S0 T0 : Nat → Nat → Int32} {fare : Int32} {seats : Nat} {Sb : Nat → Nat → Int32} {m9 : Nat} {x : (Nat → Nat → Int32) × Int} (hw : mo_w D t < nw) (h14 : (D 14 t).toInt = m) (h : mo_J D G np nw t m bw S0 T0 fare seats Sb m9 0 x) : ∀ n, n ≤ np → mo_J D G np nw t m bw S0 T0 fare seats Sb m9 n (mo_mbi D t fare (seats : Int) m9 x n) := by
  intro n
  induction n with
  | zero => exact fun _ => h
  | succ n ih => exact fun hn => mo_J_st hw h14 (by omega) (ih (by omega))
theorem mo_J_out {D : Nat → Nat → Int32} {G : Nat → Int} {np nw t : Nat} {m bw : Int} {S0 T0 : Nat → Nat → Int32} {fare : Int32} {seats : Nat} {Sb : Nat → Nat → Int32} {x : (Nat → Nat → Int32) × Int} (hw : mo_w D t < nw) (h14 : (D 14 t).toInt = m) (h : mo_J D G np nw t m bw S0 T0 fare seats Sb 0 0 x) : ∀ n, mo_J D G np nw t m bw S0 T0 fare seats Sb n 0 (mo_mbo D t fare (seats : Int) np x n) := by
  intro n
  induction n with
  | zero => exact h
  | succ n ih =>
    obtain ⟨j, h1, h2, h3, h4, h5⟩ := mo_J_in hw h14 ih np (Nat.le_refl _)
    exact ⟨j, h1, h2, h3, h4, fun hj q hq eq => by have := h5 hj q hq eq; omega⟩
theorem mo_xs_stay {D : Nat → Nat → Int32} {t : Nat} {fare : Int32} {np : Nat} {Sb : Nat → Nat → Int32} {j : Nat} (h : mo_fi D (mo_xs D t fare np Sb j) t fare np = -1) : ∀ i, mo_xs D t fare np Sb (j + i) = mo_xs D t fare np Sb j ∧ mo_xn D t fare np Sb (j + i) = mo_xn D t fare np Sb j := by
  intro i
  induction i with
  | zero => exact ⟨rfl, rfl⟩
  | succ i ih =>
    have e : mo_fi D (mo_xs D t fare np Sb (j + i)) t fare np = -1 := by rw [ih.1]; exact h
    have e1 : mo_xs D t fare np Sb (j + i + 1) = mo_xs D t fare np Sb (j + i) := if_pos e
    have e2 : mo_xn D t fare np Sb (j + i + 1) = mo_xn D t fare np Sb (j + i) := if_pos e
    exact ⟨e1.trans ih.1, e2.trans ih.2⟩
theorem mo_board {D : Nat → Nat → Int32} {G : Nat → Int} {np nw t : Nat} {m bw : Int} {S0 T0 : Nat → Nat → Int32} {fare : Int32} {seats : Nat} {Sb Tb : Nat → Nat → Int32} (hb : ∀ q, (D 3 q).toInt ≤ 719 ∧ 0 ≤ (D 3 q).toInt) (hw : mo_w D t < nw) (h14 : (D 14 t).toInt = m) (h : mo_K D G np nw t m bw S0 T0 Sb Tb) : mo_K D G np nw t m bw S0 T0 (mo_xs D t fare np Sb seats) (mo_mbo D t fare (seats : Int) np (Tb, 0) 720).1 ∧ (mo_mbo D t fare (seats : Int) np (Tb, 0) 720).2 = mo_xn D t fare np Sb seats := by
  have h0 : mo_J D G np nw t m bw S0 T0 fare seats Sb 0 0 (Tb, 0) := ⟨0, rfl, Nat.zero_le _, h, rfl, fun _ q _ _ => by have := hb q; omega⟩
  obtain ⟨j, h1, h2, h3, h4, h5⟩ := mo_J_out hw h14 h0 720
  rcases Nat.lt_or_ge j seats with q | q
  · have hf : mo_fi D (mo_xs D t fare np Sb j) t fare np = -1 := by
      rcases mo_fi_c D (mo_xs D t fare np Sb j) t fare np with w | ⟨p, p1, _, p3, _⟩
      · exact w.1
      · have := h5 q p p1 p3
        have := hb p
        omega
    have hs := mo_xs_stay hf (seats - j)
    rw [show j + (seats - j) = seats from by omega] at hs
    rw [hs.1, hs.2]
    exact ⟨h3, h1.trans h4.symm⟩
  · have e : j = seats := by omega
    subst e
    exact ⟨h3, h1.trans h4.symm⟩
def mo_mk (S : Nat → Nat → Int32) (v : Int32) : Nat → Nat → Int32 := if 0 ≤ v.toInt ∧ v.toInt < 840 then mo_se S 14 v.toInt.toNat 1 else S
def mo_xr1 (D : Nat → Nat → Int32) (t : Nat) (S : Nat → Nat → Int32) (p : Nat) : Nat → Nat → Int32 := if (S 6 p).toInt = (D 11 t).toInt then mo_se S 4 p (S 4 p + 1) else S
def mo_mr1 (t : Nat) (T : Nat → Nat → Int32) (p : Nat) : Nat → Nat → Int32 := if (T 6 p).toInt = 3 ∧ (T 5 p).toInt = (t : Int) then mo_se T 4 p (T 4 p + 1) else T
def mo_cv (D : Nat → Nat → Int32) (G : Nat → Int) (t : Nat) (m : Int) (held : Int32) : Int32 := Int32.ofInt m + held + Int32.ofInt (mo_dr D G t)
def mo_xo (D : Nat → Nat → Int32) (G : Nat → Int) (np t : Nat) (m : Int) (riders : Int) (held : Int32) (S : Nat → Nat → Int32) : Nat → Nat → Int32 := mo_fo (mo_xr1 D t) (mo_mk (mo_se (mo_se (mo_se S 12 t (Int32.ofInt riders)) 10 (mo_w D t) (D 13 t)) 11 (mo_w D t) (mo_cv D G t m held)) (mo_cv D G t m held)) np
def mo_mo (D : Nat → Nat → Int32) (G : Nat → Int) (np t : Nat) (m : Int) (riders : Int) (held : Int32) (T : Nat → Nat → Int32) : Nat → Nat → Int32 := mo_fo (mo_mr1 t) (mo_se (mo_se (mo_se T 12 t (Int32.ofInt riders)) 10 (mo_w D t) (D 13 t)) 11 (mo_w D t) (mo_cv D G t m held)) np
def mo_pay (D : Nat → Nat → Int32) (S : Nat → Nat → Int32) (w : Nat) : Int32 := if (D 7 w).toInt = 2 then S 7 w else S 13 0
def mo_xp (D : Nat → Nat → Int32) (w : Nat) (fine : Int32) (S : Nat → Nat → Int32) : Nat → Nat → Int32 := if (D 7 w).toInt = 2 then mo_se S 7 w (S 7 w - fine) else mo_se S 13 0 (S 13 0 - fine)
def mo_xq1 (D : Nat → Nat → Int32) (t : Nat) (S : Nat → Nat → Int32) (p : Nat) : Nat → Nat → Int32 := if (S 6 p).toInt = (D 11 t).toInt then mo_se (mo_se S 6 p (-1)) 5 p (Int32.ofInt (t : Int)) else S
def mo_mq1 (t : Nat) (T : Nat → Nat → Int32) (p : Nat) : Nat → Nat → Int32 := if (T 6 p).toInt = 3 ∧ (T 5 p).toInt = (t : Int) then mo_se T 6 p 2 else T
def mo_seats (D : Nat → Nat → Int32) (t : Nat) : Nat := (D 9 (mo_w D t)).toInt.toNat
def mo_rdy (D : Nat → Nat → Int32) (G : Nat → Int) (S : Nat → Nat → Int32) (t : Nat) : Prop := (S 11 (mo_w D t)).toInt = -1 ∧ (S 10 (mo_w D t)).toInt = (D 12 t).toInt ∧ (S 9 (mo_w D t)).toInt = 0 ∧ mo_ln D G t < 10000000
noncomputable def mo_ii (c : Prop) (a b : Nat → Nat → Int32) : Nat → Nat → Int32 := @ite (Nat → Nat → Int32) c (Classical.propDecidable c) a b
theorem mo_ii_y {c : Prop} (h : c) (a b : Nat → Nat → Int32) : mo_ii c a b = a := if_pos h
theorem mo_ii_n {c : Prop} (h : ¬ c) (a b : Nat → Nat → Int32) : mo_ii c a b = b := if_neg h
noncomputable def mo_xg (D : Nat → Nat → Int32) (G : Nat → Int) (A : Nat → Nat → Int → Int → Int32) (np t : Nat) (m n : Int) (S : Nat → Nat → Int32) : Nat → Nat → Int32 :=
  mo_ii ((A t 1 n (S 8 (mo_w D t)).toInt).toInt = 0) (mo_xo D G np t m n 0 S)
    (mo_ii ((A t 4 n (S 8 (mo_w D t)).toInt).toInt ≤ (mo_pay D S (mo_w D t)).toInt)
      (mo_xo D G np t m n (A t 3 n (S 8 (mo_w D t)).toInt) (mo_xp D (mo_w D t) (A t 4 n (S 8 (mo_w D t)).toInt) (mo_se S 8 (mo_w D t) (S 8 (mo_w D t) + 1))))
      (mo_fo (mo_xq1 D t) (mo_se (mo_se S 8 (mo_w D t) (S 8 (mo_w D t) + 1)) 9 (mo_w D t) 1) np))
noncomputable def mo_mg2 (D : Nat → Nat → Int32) (G : Nat → Int) (A : Nat → Nat → Int → Int → Int32) (np t : Nat) (m n : Int) (T : Nat → Nat → Int32) : Nat → Nat → Int32 :=
  mo_ii ((A t 1 n (T 8 (mo_w D t)).toInt).toInt = 0) (mo_mo D G np t m n 0 T)
    (mo_ii ((A t 4 n (T 8 (mo_w D t)).toInt).toInt ≤ (mo_pay D T (mo_w D t)).toInt)
      (mo_mo D G np t m n (A t 3 n (T 8 (mo_w D t)).toInt) (mo_xp D (mo_w D t) (A t 4 n (T 8 (mo_w D t)).toInt) (mo_se T 8 (mo_w D t) (T 8 (mo_w D t) + 1))))
      (mo_fo (mo_mq1 t) (mo_se (mo_se T 8 (mo_w D t) (T 8 (mo_w D t) + 1)) 9 (mo_w D t) 1) np))
def mo_no (D : Nat → Nat → Int32) (G : Nat → Int) (A : Nat → Nat → Int → Int → Int32) (t : Nat) (S : Nat → Nat → Int32) : Prop := ¬ mo_rdy D G S t ∨ (S 13 0).toInt < (A t 5 0 (S 8 (mo_w D t)).toInt).toInt ∨ (A t 0 0 (S 8 (mo_w D t)).toInt).toInt = 0
noncomputable def mo_xsn (D : Nat → Nat → Int32) (G : Nat → Int) (A : Nat → Nat → Int → Int → Int32) (np t : Nat) (m : Int) (S : Nat → Nat → Int32) : Nat → Nat → Int32 :=
  mo_ii (mo_no D G A t S) (mo_se S 12 t (-2))
    (mo_xg D G A np t m (mo_xn D t (A t 2 0 (S 8 (mo_w D t)).toInt) np (mo_se (mo_se S 12 t (-2)) 13 0 (S 13 0 - A t 5 0 (S 8 (mo_w D t)).toInt)) (mo_seats D t)) (mo_xs D t (A t 2 0 (S 8 (mo_w D t)).toInt) np (mo_se (mo_se S 12 t (-2)) 13 0 (S 13 0 - A t 5 0 (S 8 (mo_w D t)).toInt)) (mo_seats D t)))
noncomputable def mo_mlv (D : Nat → Nat → Int32) (G : Nat → Int) (A : Nat → Nat → Int → Int → Int32) (np t : Nat) (m : Int) (T : Nat → Nat → Int32) : Nat → Nat → Int32 :=
  mo_ii (mo_no D G A t T) (mo_se T 12 t (-2))
    (mo_mg2 D G A np t m (mo_mbo D t (A t 2 0 (T 8 (mo_w D t)).toInt) (mo_seats D t : Int) np (mo_se (mo_se T 12 t (-2)) 13 0 (T 13 0 - A t 5 0 (T 8 (mo_w D t)).toInt), 0) 720).2 (mo_mbo D t (A t 2 0 (T 8 (mo_w D t)).toInt) (mo_seats D t : Int) np (mo_se (mo_se T 12 t (-2)) 13 0 (T 13 0 - A t 5 0 (T 8 (mo_w D t)).toInt), 0) 720).1)
def mo_P (D : Nat → Nat → Int32) (G : Nat → Int) (np nw nt : Nat) (m bw : Int) (S T : Nat → Nat → Int32) : Prop := (∀ p, p < np → mo_ok D S T p bw ∧ mo_rp D G S T p (m + 1) (m + 1) m (m + 1)) ∧ (∀ w, w < nw → (∀ r, 7 ≤ r → r ≤ 11 → S r w = T r w) ∧ ((S 9 w).toInt = 0 ∨ (S 9 w).toInt = 1) ∧ ((S 11 w).toInt = -1 ∨ (m + 1 ≤ (S 11 w).toInt ∧ (S 11 w).toInt ≤ 5000 ∧ ((S 11 w).toInt < 840 → (S 14 (S 11 w).toInt.toNat).toInt ≠ 0)))) ∧ (∀ k, k < nt → S 12 k = T 12 k) ∧ S 13 0 = T 13 0
theorem mo_fo_xr {D S : Nat → Nat → Int32} {t : Nat} : ∀ n r i, mo_fo (mo_xr1 D t) S n r i = if r = 4 ∧ i < n ∧ (S 6 i).toInt = (D 11 t).toInt then S 4 i + 1 else S r i := by
  intro n
  induction n with
  | zero => intro r i; rw [if_neg (fun w => absurd w.2.1 (Nat.not_lt_zero i))]; rfl
  | succ n ih =>
    intro r i
    show mo_xr1 D t (mo_fo (mo_xr1 D t) S n) n r i = _
    generalize mo_fo (mo_xr1 D t) S n = F at ih ⊢
    unfold mo_xr1
    have e6 : F 6 n = S 6 n := by rw [ih, if_neg (fun w => absurd w.1 (by decide))]
    have e4 : F 4 n = S 4 n := by rw [ih, if_neg (fun w => absurd w.2.1 (Nat.lt_irrefl n))]
    rw [e6]
    by_cases c : (S 6 n).toInt = (D 11 t).toInt
    · rw [if_pos c, mo_se_at, e4]
      by_cases q : r = 4 ∧ i = n
      · rw [if_pos q, if_pos ⟨q.1, by omega, by rw [q.2]; exact c⟩, q.2]
      · rw [if_neg q, ih]
        by_cases z : r = 4 ∧ i < n ∧ (S 6 i).toInt = (D 11 t).toInt
        · rw [if_pos z, if_pos ⟨z.1, by omega, z.2.2⟩]
        · rw [if_neg z, if_neg (fun w => z ⟨w.1, by have := w.2.1; have h9 : i ≠ n := fun e => q ⟨w.1, e⟩; omega, w.2.2⟩)]
    · rw [if_neg c, ih]
      by_cases z : r = 4 ∧ i < n ∧ (S 6 i).toInt = (D 11 t).toInt
      · rw [if_pos z, if_pos ⟨z.1, by omega, z.2.2⟩]
      · rw [if_neg z, if_neg (fun w => z ⟨w.1, by have h8 := w.2.1; have h9 : i ≠ n := fun e => c (by rw [← e]; exact w.2.2); omega, w.2.2⟩)]
theorem mo_fo_mr {T : Nat → Nat → Int32} {t : Nat} : ∀ n r i, mo_fo (mo_mr1 t) T n r i = if r = 4 ∧ i < n ∧ ((T 6 i).toInt = 3 ∧ (T 5 i).toInt = (t : Int)) then T 4 i + 1 else T r i := by
  intro n
  induction n with
  | zero => intro r i; rw [if_neg (fun w => absurd w.2.1 (Nat.not_lt_zero i))]; rfl
  | succ n ih =>
    intro r i
    show mo_mr1 t (mo_fo (mo_mr1 t) T n) n r i = _
    generalize mo_fo (mo_mr1 t) T n = F at ih ⊢
    unfold mo_mr1
    have e6 : F 6 n = T 6 n := by rw [ih, if_neg (fun w => absurd w.1 (by decide))]
    have e5 : F 5 n = T 5 n := by rw [ih, if_neg (fun w => absurd w.1 (by decide))]
    have e4 : F 4 n = T 4 n := by rw [ih, if_neg (fun w => absurd w.2.1 (Nat.lt_irrefl n))]
    rw [e6, e5]
    by_cases c : (T 6 n).toInt = 3 ∧ (T 5 n).toInt = (t : Int)
    · rw [if_pos c, mo_se_at, e4]
      by_cases q : r = 4 ∧ i = n
      · rw [if_pos q, if_pos ⟨q.1, by omega, by rw [q.2]; exact c⟩, q.2]
      · rw [if_neg q, ih]
        by_cases z : r = 4 ∧ i < n ∧ ((T 6 i).toInt = 3 ∧ (T 5 i).toInt = (t : Int))
        · rw [if_pos z, if_pos ⟨z.1, by omega, z.2.2⟩]
        · rw [if_neg z, if_neg (fun w => z ⟨w.1, by have := w.2.1; have h9 : i ≠ n := fun e => q ⟨w.1, e⟩; omega, w.2.2⟩)]
    · rw [if_neg c, ih]
      by_cases z : r = 4 ∧ i < n ∧ ((T 6 i).toInt = 3 ∧ (T 5 i).toInt = (t : Int))
      · rw [if_pos z, if_pos ⟨z.1, by omega, z.2.2⟩]
      · rw [if_neg z, if_neg (fun w => z ⟨w.1, by have h8 := w.2.1; have h9 : i ≠ n := fun e => c (by rw [← e]; exact w.2.2); omega, w.2.2⟩)]
theorem mo_fo_xq {D S : Nat → Nat → Int32} {t : Nat} : ∀ n r i, mo_fo (mo_xq1 D t) S n r i = if i < n ∧ (S 6 i).toInt = (D 11 t).toInt then (if r = 5 then Int32.ofInt (t : Int) else if r = 6 then -1 else S r i) else S r i := by
  intro n
  induction n with
  | zero => intro r i; rw [if_neg (fun w => absurd w.1 (Nat.not_lt_zero i))]; rfl
  | succ n ih =>
    intro r i
    show mo_xq1 D t (mo_fo (mo_xq1 D t) S n) n r i = _
    generalize mo_fo (mo_xq1 D t) S n = F at ih ⊢
    unfold mo_xq1
    have e6 : ∀ r, F r n = S r n := by intro r; rw [ih, if_neg (fun w => absurd w.1 (Nat.lt_irrefl n))]
    rw [e6]
    by_cases c : (S 6 n).toInt = (D 11 t).toInt
    · rw [if_pos c, mo_se_at, mo_se_at]
      by_cases q : i = n
      · subst q
        rw [if_pos (show i < i + 1 ∧ (S 6 i).toInt = (D 11 t).toInt from ⟨Nat.lt_succ_self i, c⟩)]
        by_cases r5 : r = 5
        · rw [if_pos (show r = 5 ∧ i = i from ⟨r5, rfl⟩), if_pos r5]
        · rw [if_neg (show ¬ (r = 5 ∧ i = i) from fun w => r5 w.1), if_neg r5]
          by_cases r6 : r = 6
          · rw [if_pos (show r = 6 ∧ i = i from ⟨r6, rfl⟩), if_pos r6]
          · rw [if_neg (show ¬ (r = 6 ∧ i = i) from fun w => r6 w.1), if_neg r6, e6]
      · rw [if_neg (show ¬ (r = 5 ∧ i = n) from fun w => q w.2), if_neg (show ¬ (r = 6 ∧ i = n) from fun w => q w.2), ih]
        by_cases z : i < n ∧ (S 6 i).toInt = (D 11 t).toInt
        · rw [if_pos z, if_pos (show i < n + 1 ∧ (S 6 i).toInt = (D 11 t).toInt from ⟨by omega, z.2⟩)]
        · rw [if_neg z, if_neg (show ¬ (i < n + 1 ∧ (S 6 i).toInt = (D 11 t).toInt) from fun w => z ⟨by have := w.1; omega, w.2⟩)]
    · rw [if_neg c, ih]
      by_cases z : i < n ∧ (S 6 i).toInt = (D 11 t).toInt
      · rw [if_pos z, if_pos (show i < n + 1 ∧ (S 6 i).toInt = (D 11 t).toInt from ⟨by omega, z.2⟩)]
      · rw [if_neg z, if_neg (show ¬ (i < n + 1 ∧ (S 6 i).toInt = (D 11 t).toInt) from fun w => z ⟨by have h8 := w.1; have h9 : i ≠ n := fun e => c (by rw [← e]; exact w.2); omega, w.2⟩)]
theorem mo_fo_mq {T : Nat → Nat → Int32} {t : Nat} : ∀ n r i, mo_fo (mo_mq1 t) T n r i = if r = 6 ∧ i < n ∧ ((T 6 i).toInt = 3 ∧ (T 5 i).toInt = (t : Int)) then 2 else T r i := by
  intro n
  induction n with
  | zero => intro r i; rw [if_neg (fun w => absurd w.2.1 (Nat.not_lt_zero i))]; rfl
  | succ n ih =>
    intro r i
    show mo_mq1 t (mo_fo (mo_mq1 t) T n) n r i = _
    generalize mo_fo (mo_mq1 t) T n = F at ih ⊢
    unfold mo_mq1
    have e6 : ∀ r, F r n = T r n := by intro r; rw [ih, if_neg (fun w => absurd w.2.1 (Nat.lt_irrefl n))]
    rw [e6, e6]
    by_cases c : (T 6 n).toInt = 3 ∧ (T 5 n).toInt = (t : Int)
    · rw [if_pos c, mo_se_at]
      by_cases q : r = 6 ∧ i = n
      · rw [if_pos q, if_pos ⟨q.1, by omega, by rw [q.2]; exact c⟩]
      · rw [if_neg q, ih]
        by_cases z : r = 6 ∧ i < n ∧ ((T 6 i).toInt = 3 ∧ (T 5 i).toInt = (t : Int))
        · rw [if_pos z, if_pos ⟨z.1, by omega, z.2.2⟩]
        · rw [if_neg z, if_neg (fun w => z ⟨w.1, by have := w.2.1; have h9 : i ≠ n := fun e => q ⟨w.1, e⟩; omega, w.2.2⟩)]
    · rw [if_neg c, ih]
      by_cases z : r = 6 ∧ i < n ∧ ((T 6 i).toInt = 3 ∧ (T 5 i).toInt = (t : Int))
      · rw [if_pos z, if_pos ⟨z.1, by omega, z.2.2⟩]
      · rw [if_neg z, if_neg (fun w => z ⟨w.1, by have h8 := w.2.1; have h9 : i ≠ n := fun e => c (by rw [← e]; exact w.2.2); omega, w.2.2⟩)]
theorem mo_fo_xl {m : Int} {S : Nat → Nat → Int32} : ∀ n r i, mo_fo (mo_xl2 m) S n r i = if r = 11 ∧ i < n ∧ (S 11 i).toInt = m then -1 else S r i := by
  intro n
  induction n with
  | zero => intro r i; rw [if_neg (fun w => absurd w.2.1 (Nat.not_lt_zero i))]; rfl
  | succ n ih =>
    intro r i
    show mo_xl2 m (mo_fo (mo_xl2 m) S n) n r i = _
    generalize mo_fo (mo_xl2 m) S n = F at ih ⊢
    unfold mo_xl2
    have e6 : F 11 n = S 11 n := by rw [ih, if_neg (fun w => absurd w.2.1 (Nat.lt_irrefl n))]
    rw [e6]
    by_cases c : (S 11 n).toInt = m
    · rw [if_pos c, mo_se_at]
      by_cases q : r = 11 ∧ i = n
      · rw [if_pos q, if_pos ⟨q.1, by omega, by rw [q.2]; exact c⟩]
      · rw [if_neg q, ih]
        by_cases z : r = 11 ∧ i < n ∧ (S 11 i).toInt = m
        · rw [if_pos z, if_pos ⟨z.1, by omega, z.2.2⟩]
        · rw [if_neg z, if_neg (fun w => z ⟨w.1, by have := w.2.1; have h9 : i ≠ n := fun e => q ⟨w.1, e⟩; omega, w.2.2⟩)]
    · rw [if_neg c, ih]
      by_cases z : r = 11 ∧ i < n ∧ (S 11 i).toInt = m
      · rw [if_pos z, if_pos ⟨z.1, by omega, z.2.2⟩]
      · rw [if_neg z, if_neg (fun w => z ⟨w.1, by have h8 := w.2.1; have h9 : i ≠ n := fun e => c (by rw [← e]; exact w.2.2); omega, w.2.2⟩)]
theorem mo_mk_row {S : Nat → Nat → Int32} {v : Int32} {r : Nat} (h : r ≠ 14) : mo_mk S v r = S r := by
  unfold mo_mk
  split
  · exact mo_se_rw h
  · rfl
theorem mo_mk_on {S : Nat → Nat → Int32} {v : Int32} (h0 : 0 ≤ v.toInt) (h1 : v.toInt < 840) : (mo_mk S v 14 v.toInt.toNat).toInt ≠ 0 := by
  unfold mo_mk
  rw [if_pos ⟨h0, h1⟩, mo_se_pp]
  decide
theorem mo_mk_up {S : Nat → Nat → Int32} {v : Int32} {i : Nat} (h : (S 14 i).toInt ≠ 0) : (mo_mk S v 14 i).toInt ≠ 0 := by
  unfold mo_mk
  by_cases c : 0 ≤ v.toInt ∧ v.toInt < 840
  · rw [if_pos c, mo_se_at]
    by_cases q : i = v.toInt.toNat
    · rw [if_pos ⟨rfl, q⟩]; decide
    · rw [if_neg (fun w => q w.2)]; exact h
  · rw [if_neg c]; exact h
theorem mo_cv_b {D : Nat → Nat → Int32} {G : Nat → Int} {t : Nat} {m : Int} {held : Int32} (hR : mo_R D) (hG : mo_GR G) (hl : mo_ln D G t < 10000000) (hm : 0 ≤ m ∧ m ≤ 839) (hh : 0 ≤ held.toInt ∧ held.toInt ≤ 2000) : m + 1 ≤ (mo_cv D G t m held).toInt ∧ (mo_cv D G t m held).toInt ≤ 5000 := by
  have hd := mo_dr_b hR hG hl
  have e1 := mo_i32 (v := m) (by omega) (by omega)
  have e2 := mo_i32 (v := mo_dr D G t) (by omega) (by omega)
  have s1 := iv_add (v := Int32.ofInt m + held) rfl (a := 0) (b := 839) (c := 0) (d := 2000) ⟨by omega, by omega⟩ hh (by decide) (by decide)
  have s2 := iv_add (v := Int32.ofInt m + held + Int32.ofInt (mo_dr D G t)) rfl (a := 0) (b := 2839) (c := 1) (d := 546) ⟨by omega, by omega⟩ ⟨by omega, by omega⟩ (by decide) (by decide)
  unfold mo_cv
  omega
def mo_Wr (S T : Nat → Nat → Int32) (nw : Nat) (m : Int) : Prop := ∀ w, w < nw → (∀ r, 7 ≤ r → r ≤ 11 → S r w = T r w) ∧ ((S 9 w).toInt = 0 ∨ (S 9 w).toInt = 1) ∧ ((S 11 w).toInt = -1 ∨ (m + 1 ≤ (S 11 w).toInt ∧ (S 11 w).toInt ≤ 5000 ∧ ((S 11 w).toInt < 840 → (S 14 (S 11 w).toInt.toNat).toInt ≠ 0)))
theorem mo_nbd {D : Nat → Nat → Int32} {G : Nat → Int} {S T : Nat → Nat → Int32} {t p : Nat} {lv ar tr m : Int} (hm : 0 ≤ m) (hwt : 0 ≤ (D 11 t).toInt) (h11 : (S 11 (mo_w D t)).toInt = -1) (h : mo_rp D G S T p lv ar tr (m + 1)) : ¬ (S 6 p).toInt = (D 11 t).toInt ∧ ¬ ((T 6 p).toInt = 3 ∧ (T 5 p).toInt = (t : Int)) := by
  have st : ∀ k, S 6 p = D 11 k → m + 1 ≤ (S 11 (D 11 k).toInt.toNat).toInt → ¬ (D 11 k).toInt = (D 11 t).toInt := by
    intro k a b e
    rw [e] at b
    have h9 : (S 11 (D 11 t).toInt.toNat).toInt = -1 := h11
    omega
  rcases h with h | ⟨hl, h | h | h | h | h | h⟩
  · have := h.1; have := h.2.2.1; exact ⟨by omega, by omega⟩
  · have := h.1; have := h.2.2.1; exact ⟨by omega, by omega⟩
  · have := h.1; have := h.2.2.1; exact ⟨by omega, by omega⟩
  · obtain ⟨s1, ⟨k, a1, a2, a3, a4⟩, _⟩ := h
    have h9 := st k a2 a4
    refine ⟨by rw [a2]; exact h9, fun w => h9 ?_⟩
    have e : k = t := by have := a1.1; omega
    rw [e]
  · have := h.1; have := h.2.2.1; exact ⟨by omega, by omega⟩
  · have := h.1; have := h.2.2.1; exact ⟨by omega, by omega⟩
  · have := h.1; have := h.2.2.1; exact ⟨by omega, by omega⟩
theorem mo_rp_w {D : Nat → Nat → Int32} {G : Nat → Int} {S T S1 T1 : Nat → Nat → Int32} {p w : Nat} {lv ar tr cm m : Int} (hm : 0 ≤ m) (hcm : cm = m + 1) (h11 : (S 11 w).toInt = -1) (h : mo_rp D G S T p lv ar tr cm) (hS : ∀ r, r < 7 → r ≠ 4 → S1 r p = S r p) (h10 : ∀ v, v ≠ w → S1 10 v = S 10 v) (h11b : ∀ v, v ≠ w → S1 11 v = S 11 v) (hT : ∀ r, r ≠ 4 → (r < 7 ∨ 14 ≤ r) → T1 r p = T r p) : mo_rp D G S1 T1 p lv ar tr cm := by
  unfold mo_rp mo_tk at h ⊢
  rw [hS 2 (by omega) (by omega), hS 5 (by omega) (by omega), hS 6 (by omega) (by omega), hT 2 (by omega) (by omega), hT 5 (by omega) (by omega), hT 6 (by omega) (by omega), hT 14 (by omega) (by omega), hT 15 (by omega) (by omega)]
  rcases h with h | ⟨hl, h | h | h | h | h | h⟩
  · exact Or.inl h
  · exact Or.inr ⟨hl, Or.inl h⟩
  · exact Or.inr ⟨hl, Or.inr (Or.inl h)⟩
  · obtain ⟨s1, ⟨k, a1, a2, a3, a4⟩, s2⟩ := h
    have hne : (D 11 k).toInt.toNat ≠ w := fun e => by rw [e] at a4; omega
    exact Or.inr ⟨hl, Or.inr (Or.inr (Or.inl ⟨s1, ⟨k, a1, a2, by rw [h10 _ hne]; exact a3, by rw [h11b _ hne]; exact a4⟩, s2⟩))⟩
  · exact Or.inr ⟨hl, Or.inr (Or.inr (Or.inr (Or.inl h)))⟩
  · exact Or.inr ⟨hl, Or.inr (Or.inr (Or.inr (Or.inr (Or.inl h))))⟩
  · exact Or.inr ⟨hl, Or.inr (Or.inr (Or.inr (Or.inr (Or.inr h))))⟩
theorem mo_ok_4 {D S T S1 T1 : Nat → Nat → Int32} {p : Nat} {bw : Int} (h : mo_ok D S T p bw) (hS : ∀ r, r < 4 → S1 r p = S r p) (h4 : S1 4 p = T1 4 p) (hT : ∀ r, r < 4 → T1 r p = T r p) (h16 : T1 16 p = T 16 p) : mo_ok D S1 T1 p bw := by
  obtain ⟨o0, o1, o3, o4, o16, b1, b3, b6⟩ := h
  refine ⟨by rw [hS 0 (by omega), hT 0 (by omega)]; exact o0, by rw [hS 1 (by omega), hT 1 (by omega)]; exact o1, by rw [hS 3 (by omega), hT 3 (by omega)]; exact o3, h4, by rw [h16, hS 3 (by omega)]; exact o16, by rw [hS 1 (by omega)]; exact b1, by rw [hS 3 (by omega)]; exact b3, b6⟩
theorem mo_set {D : Nat → Nat → Int32} {G : Nat → Int} {S T : Nat → Nat → Int32} {np nw t : Nat} {m bw n : Int} {held : Int32} (hR : mo_R D) (hG : mo_GR G) (hm : 0 ≤ m ∧ m ≤ 839) (ht : t < mo_nt D) (hrn : mo_rn D G t) (hwt : 0 ≤ (D 11 t).toInt) (hw : mo_w D t < nw) (hh : 0 ≤ held.toInt ∧ held.toInt ≤ 2000) (hK : ∀ p, p < np → mo_ok D S T p bw ∧ (mo_rp D G S T p (m + 1) (m + 1) m (m + 1) ∨ mo_bd D S T t p (m + 1))) (hW : mo_Wr S T nw m) (hL : ∀ k, k < mo_nt D → S 12 k = T 12 k) (h13 : S 13 0 = T 13 0) (h11 : (S 11 (mo_w D t)).toInt = -1) : mo_P D G np nw (mo_nt D) m bw (mo_xo D G np t m n held S) (mo_mo D G np t m n held T) := by
  have hcv := mo_cv_b hR hG hrn.2 hm hh
  have xr : ∀ r, r ≠ 4 → r ≠ 10 → r ≠ 11 → r ≠ 12 → r ≠ 14 → ∀ i, mo_xo D G np t m n held S r i = S r i := by
    intro r a b c d e i
    unfold mo_xo
    rw [mo_fo_xr, if_neg (fun w => a w.1), mo_mk_row e, mo_se_rw c, mo_se_rw b, mo_se_rw d]
  have mr : ∀ r, r ≠ 4 → r ≠ 10 → r ≠ 11 → r ≠ 12 → ∀ i, mo_mo D G np t m n held T r i = T r i := by
    intro r a b c d i
    unfold mo_mo
    rw [mo_fo_mr, if_neg (fun w => a w.1), mo_se_rw c, mo_se_rw b, mo_se_rw d]
  have x10 : ∀ v, mo_xo D G np t m n held S 10 v = if v = mo_w D t then D 13 t else S 10 v := by
    intro v
    unfold mo_xo
    rw [mo_fo_xr, if_neg (fun w => absurd w.1 (by decide)), mo_mk_row (by decide), mo_se_rw (by decide), mo_se_at, mo_se_rw (by decide)]
    by_cases q : v = mo_w D t
    · rw [if_pos ⟨rfl, q⟩, if_pos q]
    · rw [if_neg (fun w => q w.2), if_neg q]
  have x11 : ∀ v, mo_xo D G np t m n held S 11 v = if v = mo_w D t then mo_cv D G t m held else S 11 v := by
    intro v
    unfold mo_xo
    rw [mo_fo_xr, if_neg (fun w => absurd w.1 (by decide)), mo_mk_row (by decide), mo_se_at, mo_se_rw (by decide), mo_se_rw (by decide)]
    by_cases q : v = mo_w D t
    · rw [if_pos ⟨rfl, q⟩, if_pos q]
    · rw [if_neg (fun w => q w.2), if_neg q]
  have m10 : ∀ v, mo_mo D G np t m n held T 10 v = if v = mo_w D t then D 13 t else T 10 v := by
    intro v
    unfold mo_mo
    rw [mo_fo_mr, if_neg (fun w => absurd w.1 (by decide)), mo_se_rw (by decide), mo_se_at, mo_se_rw (by decide)]
    by_cases q : v = mo_w D t
    · rw [if_pos ⟨rfl, q⟩, if_pos q]
    · rw [if_neg (fun w => q w.2), if_neg q]
  have m11 : ∀ v, mo_mo D G np t m n held T 11 v = if v = mo_w D t then mo_cv D G t m held else T 11 v := by
    intro v
    unfold mo_mo
    rw [mo_fo_mr, if_neg (fun w => absurd w.1 (by decide)), mo_se_at, mo_se_rw (by decide), mo_se_rw (by decide)]
    by_cases q : v = mo_w D t
    · rw [if_pos ⟨rfl, q⟩, if_pos q]
    · rw [if_neg (fun w => q w.2), if_neg q]
  have x4 : ∀ i, mo_xo D G np t m n held S 4 i = if i < np ∧ (S 6 i).toInt = (D 11 t).toInt then S 4 i + 1 else S 4 i := by
    intro i
    unfold mo_xo
    rw [mo_fo_xr]
    have e : ∀ r, r < 7 → mo_mk (mo_se (mo_se (mo_se S 12 t (Int32.ofInt n)) 10 (mo_w D t) (D 13 t)) 11 (mo_w D t) (mo_cv D G t m held)) (mo_cv D G t m held) r = S r := by
      intro r hr
      rw [mo_mk_row (by omega), mo_se_rw (by omega), mo_se_rw (by omega), mo_se_rw (by omega)]
    rw [e 6 (by decide), e 4 (by decide)]
    by_cases q : i < np ∧ (S 6 i).toInt = (D 11 t).toInt
    · rw [if_pos ⟨rfl, q⟩, if_pos q]
    · rw [if_neg (fun w => q w.2), if_neg q]
  have m4 : ∀ i, mo_mo D G np t m n held T 4 i = if i < np ∧ ((T 6 i).toInt = 3 ∧ (T 5 i).toInt = (t : Int)) then T 4 i + 1 else T 4 i := by
    intro i
    unfold mo_mo
    rw [mo_fo_mr]
    have e : ∀ r, r < 7 → mo_se (mo_se (mo_se T 12 t (Int32.ofInt n)) 10 (mo_w D t) (D 13 t)) 11 (mo_w D t) (mo_cv D G t m held) r = T r := by
      intro r hr
      rw [mo_se_rw (by omega), mo_se_rw (by omega), mo_se_rw (by omega)]
    rw [e 6 (by decide), e 5 (by decide), e 4 (by decide)]
    by_cases q : i < np ∧ ((T 6 i).toInt = 3 ∧ (T 5 i).toInt = (t : Int))
    · rw [if_pos ⟨rfl, q⟩, if_pos q]
    · rw [if_neg (fun w => q w.2), if_neg q]
  refine ⟨fun p hp => ?_, fun v hv => ⟨fun r a b => ?_, ?_, ?_⟩, fun k hk => ?_, ?_⟩
  · obtain ⟨hok, h⟩ := hK p hp
    rcases h with h | h
    · have hn := mo_nbd hm.1 hwt h11 h
      refine ⟨mo_ok_4 hok (fun r hr => xr r (by omega) (by omega) (by omega) (by omega) (by omega) p) ?_ (fun r hr => mr r (by omega) (by omega) (by omega) (by omega) p) (mr 16 (by decide) (by decide) (by decide) (by decide) p), mo_rp_w hm.1 rfl h11 h (fun r a b => xr r b (by omega) (by omega) (by omega) (by omega) p) (fun v hv => by rw [x10, if_neg hv]) (fun v hv => by rw [x11, if_neg hv]) (fun r a b => mr r a (by omega) (by omega) (by omega) p)⟩
      rw [x4, m4, if_neg (fun w => hn.1 w.2), if_neg (fun w => hn.2 w.2)]
      exact hok.2.2.2.1
    · obtain ⟨b1, b2, b3, b4, b5, b6, b7, b8⟩ := h
      refine ⟨mo_ok_4 hok (fun r hr => xr r (by omega) (by omega) (by omega) (by omega) (by omega) p) ?_ (fun r hr => mr r (by omega) (by omega) (by omega) (by omega) p) (mr 16 (by decide) (by decide) (by decide) (by decide) p), Or.inr ⟨b8, Or.inr (Or.inr (Or.inl ⟨?_, ⟨t, ⟨?_, ht, hrn⟩, ?_, ?_, ?_⟩, ?_, ?_, ?_⟩))⟩⟩
      · rw [x4, m4, if_pos ⟨hp, by rw [b3]⟩, if_pos ⟨hp, b1, b2⟩, hok.2.2.2.1]
      · rw [mr 6 (by decide) (by decide) (by decide) (by decide)]; exact b1
      · rw [mr 5 (by decide) (by decide) (by decide) (by decide)]; exact b2
      · rw [xr 6 (by decide) (by decide) (by decide) (by decide) (by decide)]; exact b3
      · rw [x10]; exact if_pos rfl
      · rw [x11]
        have e : (if (D 11 t).toInt.toNat = mo_w D t then mo_cv D G t m held else S 11 (D 11 t).toInt.toNat) = mo_cv D G t m held := if_pos rfl
        rw [e]; exact hcv.1
      · rw [xr 5 (by decide) (by decide) (by decide) (by decide) (by decide)]; exact b4
      · rw [xr 2 (by decide) (by decide) (by decide) (by decide) (by decide)]; exact b5
      · rw [mr 2 (by decide) (by decide) (by decide) (by decide)]; exact b6
  · have h9 := (hW v hv).1
    by_cases e10 : r = 10
    · subst e10
      rw [x10, m10, h9 10 (by decide) (by decide)]
    · by_cases e11 : r = 11
      · subst e11
        rw [x11, m11, h9 11 (by decide) (by decide)]
      · rw [xr r (by omega) e10 e11 (by omega) (by omega), mr r (by omega) e10 e11 (by omega)]
        exact h9 r a b
  · rw [xr 9 (by decide) (by decide) (by decide) (by decide) (by decide)]
    exact (hW v hv).2.1
  · have e14 : ∀ i, mo_xo D G np t m n held S 14 i = mo_mk (mo_se (mo_se (mo_se S 12 t (Int32.ofInt n)) 10 (mo_w D t) (D 13 t)) 11 (mo_w D t) (mo_cv D G t m held)) (mo_cv D G t m held) 14 i := by
      intro i
      unfold mo_xo
      rw [mo_fo_xr, if_neg (fun w => absurd w.1 (by decide))]
    rw [x11]
    by_cases q : v = mo_w D t
    · rw [if_pos q]
      refine Or.inr ⟨hcv.1, hcv.2, fun h8 => ?_⟩
      rw [e14]
      exact mo_mk_on (by omega) h8
    · rw [if_neg q]
      rcases (hW v hv).2.2 with w | ⟨w1, w2, w3⟩
      · exact Or.inl w
      · refine Or.inr ⟨w1, w2, fun h8 => ?_⟩
        rw [e14]
        refine mo_mk_up ?_
        rw [mo_se_rw (by decide), mo_se_rw (by decide), mo_se_rw (by decide)]
        exact w3 h8
  · have e12 : ∀ i, mo_xo D G np t m n held S 12 i = if i = t then Int32.ofInt n else S 12 i := by
      intro i
      unfold mo_xo
      rw [mo_fo_xr, if_neg (fun w => absurd w.1 (by decide)), mo_mk_row (by decide), mo_se_rw (by decide), mo_se_rw (by decide), mo_se_at]
      by_cases q : i = t
      · rw [if_pos ⟨rfl, q⟩, if_pos q]
      · rw [if_neg (fun w => q w.2), if_neg q]
    have e12m : ∀ i, mo_mo D G np t m n held T 12 i = if i = t then Int32.ofInt n else T 12 i := by
      intro i
      unfold mo_mo
      rw [mo_fo_mr, if_neg (fun w => absurd w.1 (by decide)), mo_se_rw (by decide), mo_se_rw (by decide), mo_se_at]
      by_cases q : i = t
      · rw [if_pos ⟨rfl, q⟩, if_pos q]
      · rw [if_neg (fun w => q w.2), if_neg q]
    rw [e12, e12m, hL k hk]
  · rw [xr 13 (by decide) (by decide) (by decide) (by decide) (by decide), mr 13 (by decide) (by decide) (by decide) (by decide)]
    exact h13
theorem mo_gon {D : Nat → Nat → Int32} {G : Nat → Int} {S T : Nat → Nat → Int32} {np nw t : Nat} {m bw : Int} (hm : 0 ≤ m ∧ m ≤ 839) (h14 : (D 14 t).toInt = m) (ht : t < mo_nt D) (hnt : (mo_nt D : Int) ≤ 80) (hrn : mo_rn D G t) (hwt : 0 ≤ (D 11 t).toInt) (hw : mo_w D t < nw) (hK : ∀ p, p < np → mo_ok D S T p bw ∧ (mo_rp D G S T p (m + 1) (m + 1) m (m + 1) ∨ mo_bd D S T t p (m + 1))) (hW : mo_Wr S T nw m) (hL : ∀ k, k < mo_nt D → S 12 k = T 12 k) (h13 : S 13 0 = T 13 0) (h11 : (S 11 (mo_w D t)).toInt = -1) : mo_P D G np nw (mo_nt D) m bw (mo_fo (mo_xq1 D t) (mo_se (mo_se S 8 (mo_w D t) (S 8 (mo_w D t) + 1)) 9 (mo_w D t) 1) np) (mo_fo (mo_mq1 t) (mo_se (mo_se T 8 (mo_w D t) (T 8 (mo_w D t) + 1)) 9 (mo_w D t) 1) np) := by
  have n1 : ((-1) : Int32).toInt = -1 := by decide
  have z2 : (2 : Int32).toInt = 2 := by decide
  have z1 : (1 : Int32).toInt = 1 := by decide
  have ht9 : (Int32.ofInt (t : Int)).toInt = (t : Int) := mo_i32 (by omega) (by omega)
  have e6 : ∀ r i, r ≠ 8 → r ≠ 9 → mo_se (mo_se S 8 (mo_w D t) (S 8 (mo_w D t) + 1)) 9 (mo_w D t) 1 r i = S r i := by
    intro r i a b
    rw [mo_se_rw b, mo_se_rw a]
  have f6 : ∀ r i, r ≠ 8 → r ≠ 9 → mo_se (mo_se T 8 (mo_w D t) (T 8 (mo_w D t) + 1)) 9 (mo_w D t) 1 r i = T r i := by
    intro r i a b
    rw [mo_se_rw b, mo_se_rw a]
  have xr : ∀ r, r ≠ 5 → r ≠ 6 → ∀ i, mo_fo (mo_xq1 D t) (mo_se (mo_se S 8 (mo_w D t) (S 8 (mo_w D t) + 1)) 9 (mo_w D t) 1) np r i = mo_se (mo_se S 8 (mo_w D t) (S 8 (mo_w D t) + 1)) 9 (mo_w D t) 1 r i := by
    intro r a b i
    rw [mo_fo_xq]
    split <;> first | rfl | rw [if_neg a, if_neg b]
  have mr : ∀ r, r ≠ 6 → ∀ i, mo_fo (mo_mq1 t) (mo_se (mo_se T 8 (mo_w D t) (T 8 (mo_w D t) + 1)) 9 (mo_w D t) 1) np r i = mo_se (mo_se T 8 (mo_w D t) (T 8 (mo_w D t) + 1)) 9 (mo_w D t) 1 r i := by
    intro r a i
    rw [mo_fo_mq, if_neg (fun w => a w.1)]
  refine ⟨fun p hp => ?_, fun v hv => ⟨fun r a b => ?_, ?_, ?_⟩, fun k hk => ?_, ?_⟩
  · obtain ⟨hok, h⟩ := hK p hp
    have hok2 : mo_ok D (mo_fo (mo_xq1 D t) (mo_se (mo_se S 8 (mo_w D t) (S 8 (mo_w D t) + 1)) 9 (mo_w D t) 1) np) (mo_fo (mo_mq1 t) (mo_se (mo_se T 8 (mo_w D t) (T 8 (mo_w D t) + 1)) 9 (mo_w D t) 1) np) p bw := mo_ok_cg hok (fun r hr => by rw [xr r (by omega) (by omega), e6 r p (by omega) (by omega)]) (fun r hr => by rw [mr r (by omega), f6 r p (by omega) (by omega)]) (by rw [mr 16 (by decide), f6 16 p (by decide) (by decide)])
    refine ⟨hok2, ?_⟩
    rcases h with h | h
    · have hn := mo_nbd hm.1 hwt h11 h
      refine mo_rp_w hm.1 rfl h11 h (fun r a b => ?_) (fun v hv => ?_) (fun v hv => ?_) (fun r a b => ?_)
      · rw [mo_fo_xq, e6 6 p (by decide) (by decide), if_neg (fun w => hn.1 w.2), e6 r p (by omega) (by omega)]
      · rw [xr 10 (by decide) (by decide), e6 10 v (by decide) (by decide)]
      · rw [xr 11 (by decide) (by decide), e6 11 v (by decide) (by decide)]
      · rw [mo_fo_mq, f6 6 p (by decide) (by decide), f6 5 p (by decide) (by decide), if_neg (fun w => hn.2 w.2.2), f6 r p (by omega) (by omega)]
    · obtain ⟨b1, b2, b3, b4, b5, b6, b7, b8⟩ := h
      have hx : ∀ r, r < 8 → mo_fo (mo_xq1 D t) (mo_se (mo_se S 8 (mo_w D t) (S 8 (mo_w D t) + 1)) 9 (mo_w D t) 1) np r p = (if r = 5 then Int32.ofInt (t : Int) else if r = 6 then -1 else S r p) := by
        intro r hr
        rw [mo_fo_xq, e6 6 p (by decide) (by decide), if_pos ⟨hp, by rw [b3]⟩, e6 r p (by omega) (by omega)]
      have hy : mo_fo (mo_mq1 t) (mo_se (mo_se T 8 (mo_w D t) (T 8 (mo_w D t) + 1)) 9 (mo_w D t) 1) np 6 p = 2 := by
        rw [mo_fo_mq, f6 6 p (by decide) (by decide), f6 5 p (by decide) (by decide), if_pos ⟨rfl, hp, b1, b2⟩]
      refine Or.inr ⟨b8, Or.inr (Or.inl ⟨by rw [hy]; exact z2, ⟨t, ⟨?_, ht, hrn⟩, ?_, ?_, by omega⟩, ?_, ?_, ?_⟩)⟩
      · rw [mr 5 (by decide), f6 5 p (by decide) (by decide)]; exact b2
      · rw [hx 5 (by decide), if_pos rfl, mr 5 (by decide), f6 5 p (by decide) (by decide)]
        exact Int32.toInt_inj.mp (ht9.trans b2.symm)
      · rw [mr 14 (by decide), f6 14 p (by decide) (by decide)]; exact b7
      · rw [hx 6 (by decide), if_neg (by decide), if_pos rfl]; exact n1
      · rw [hx 2 (by decide), if_neg (by decide), if_neg (by decide)]; exact b5
      · rw [mr 2 (by decide), f6 2 p (by decide) (by decide)]; exact b6
  · have h9 := (hW v hv).1
    rw [xr r (by omega) (by omega), mr r (by omega), mo_se_at, mo_se_at, mo_se_at, mo_se_at, h9 r a b]
    have h8 := (hW _ hw).1 8 (by decide) (by decide)
    rw [h8]
  · rw [xr 9 (by decide) (by decide), mo_se_at]
    by_cases q : v = mo_w D t
    · rw [if_pos ⟨rfl, q⟩]; exact Or.inr z1
    · rw [if_neg (fun w => q w.2), mo_se_rw (by decide)]; exact (hW v hv).2.1
  · rw [xr 11 (by decide) (by decide), e6 11 v (by decide) (by decide)]
    rcases (hW v hv).2.2 with w | ⟨w1, w2, w3⟩
    · exact Or.inl w
    · exact Or.inr ⟨w1, w2, fun h8 => by rw [xr 14 (by decide) (by decide), e6 14 _ (by decide) (by decide)]; exact w3 h8⟩
  · rw [xr 12 (by decide) (by decide), e6 12 k (by decide) (by decide), mr 12 (by decide), f6 12 k (by decide) (by decide)]
    exact hL k hk
  · rw [xr 13 (by decide) (by decide), e6 13 0 (by decide) (by decide), mr 13 (by decide), f6 13 0 (by decide) (by decide)]
    exact h13
theorem mo_send_sim {D : Nat → Nat → Int32} {G : Nat → Int} {A : Nat → Nat → Int → Int → Int32} {S T : Nat → Nat → Int32} {np nw t : Nat} {m bw : Int} (hR : mo_R D) (hG : mo_GR G) (hA : ∀ n ti, 0 ≤ (A t 3 n ti).toInt ∧ (A t 3 n ti).toInt ≤ 2000) (hm : 0 ≤ m ∧ m ≤ 839) (h14 : (D 14 t).toInt = m) (ht : t < mo_nt D) (hnt : (mo_nt D : Int) ≤ 80) (hgt : mo_gt D t) (hwt : 0 ≤ (D 11 t).toInt) (hw : mo_w D t < nw) (hP : mo_P D G np nw (mo_nt D) m bw S T) : mo_P D G np nw (mo_nt D) m bw (mo_xsn D G A np t m S) (mo_mlv D G A np t m T) := by
  obtain ⟨p1, p2, p3, p4⟩ := hP
  have w8 := (p2 _ hw).1 8 (by decide) (by decide)
  have w9 := (p2 _ hw).1 9 (by decide) (by decide)
  have w10 := (p2 _ hw).1 10 (by decide) (by decide)
  have w11 := (p2 _ hw).1 11 (by decide) (by decide)
  have hno : mo_no D G A t S ↔ mo_no D G A t T := by
    unfold mo_no mo_rdy
    rw [w8, w9, w10, w11, p4]
  unfold mo_xsn mo_mlv
  by_cases c : mo_no D G A t S
  · rw [mo_ii_y c, mo_ii_y (hno.mp c)]
    refine ⟨fun p hp => ⟨mo_ok_cg (p1 p hp).1 (fun r hr => congrFun (mo_se_rw (by omega)) p) (fun r hr => congrFun (mo_se_rw (by omega)) p) (congrFun (mo_se_rw (by decide)) p), ?_⟩, fun v hv => ?_, fun k hk => ?_, ?_⟩
    · have h9 := (p1 p hp).2
      unfold mo_rp mo_tk at h9 ⊢
      rw [mo_se_rw (r1 := 2) (by decide), mo_se_rw (r1 := 5) (by decide), mo_se_rw (r1 := 6) (by decide), mo_se_rw (r1 := 10) (by decide), mo_se_rw (r1 := 11) (by decide), mo_se_rw (r1 := 2) (by decide), mo_se_rw (r1 := 5) (by decide), mo_se_rw (r1 := 6) (by decide), mo_se_rw (r1 := 14) (by decide), mo_se_rw (r1 := 15) (by decide)]
      exact h9
    · have h9 := p2 v hv
      refine ⟨fun r a b => by rw [mo_se_rw (by omega), mo_se_rw (by omega)]; exact h9.1 r a b, ?_, ?_⟩
      · rw [mo_se_rw (by decide)]; exact h9.2.1
      · rw [mo_se_rw (r1 := 11) (by decide), mo_se_rw (r1 := 14) (by decide)]; exact h9.2.2
    · rw [mo_se_at, mo_se_at, p3 k hk]
    · rw [mo_se_rw (by decide), mo_se_rw (by decide)]; exact p4
  · rw [mo_ii_n c, mo_ii_n (fun w => c (hno.mpr w))]
    have hrdy : mo_rdy D G S t := Classical.byContradiction (fun w => c (Or.inl w))
    have hrn : mo_rn D G t := ⟨hgt, hrdy.2.2.2⟩
    rw [← w8, ← p4]
    have hb : ∀ q, (D 3 q).toInt ≤ 719 ∧ 0 ≤ (D 3 q).toInt := fun q => ⟨(hR.2.2.2.2.2.1 q).2, (hR.2.2.2.2.2.1 q).1⟩
    have hK0 : mo_K D G np nw t m bw (mo_se (mo_se S 12 t (-2)) 13 0 (S 13 0 - A t 5 0 (S 8 (mo_w D t)).toInt)) (mo_se (mo_se T 12 t (-2)) 13 0 (S 13 0 - A t 5 0 (S 8 (mo_w D t)).toInt)) (mo_se (mo_se S 12 t (-2)) 13 0 (S 13 0 - A t 5 0 (S 8 (mo_w D t)).toInt)) (mo_se (mo_se T 12 t (-2)) 13 0 (S 13 0 - A t 5 0 (S 8 (mo_w D t)).toInt)) := by
      refine ⟨fun p hp => ⟨mo_ok_cg (p1 p hp).1 (fun r hr => by rw [mo_se_rw (by omega), mo_se_rw (by omega)]) (fun r hr => by rw [mo_se_rw (by omega), mo_se_rw (by omega)]) (by rw [mo_se_rw (by decide), mo_se_rw (by decide)]), Or.inl ?_⟩, fun v hv => ?_, ?_, fun r _ _ => rfl, fun r _ _ => rfl⟩
      · have h9 := (p1 p hp).2
        unfold mo_rp mo_tk at h9 ⊢
        rw [mo_se_rw (r1 := 2) (by decide), mo_se_rw (r1 := 2) (by decide), mo_se_rw (r1 := 5) (by decide), mo_se_rw (r1 := 5) (by decide), mo_se_rw (r1 := 6) (by decide), mo_se_rw (r1 := 6) (by decide), mo_se_rw (r1 := 10) (by decide), mo_se_rw (r1 := 10) (by decide), mo_se_rw (r1 := 11) (by decide), mo_se_rw (r1 := 11) (by decide), mo_se_rw (r1 := 2) (by decide), mo_se_rw (r1 := 2) (by decide), mo_se_rw (r1 := 5) (by decide), mo_se_rw (r1 := 5) (by decide), mo_se_rw (r1 := 6) (by decide), mo_se_rw (r1 := 6) (by decide), mo_se_rw (r1 := 14) (by decide), mo_se_rw (r1 := 14) (by decide), mo_se_rw (r1 := 15) (by decide), mo_se_rw (r1 := 15) (by decide)]
        exact h9
      · rw [mo_se_rw (by decide), mo_se_rw (by decide), mo_se_rw (by decide), mo_se_rw (by decide)]
        exact (p2 v hv).1 7 (by decide) (by decide)
      · rw [mo_se_pp, mo_se_pp]
    have hbo := mo_board (fare := A t 2 0 (S 8 (mo_w D t)).toInt) (seats := mo_seats D t) hb hw h14 hK0
    generalize mo_xs D t (A t 2 0 (S 8 (mo_w D t)).toInt) np (mo_se (mo_se S 12 t (-2)) 13 0 (S 13 0 - A t 5 0 (S 8 (mo_w D t)).toInt)) (mo_seats D t) = S3 at hbo ⊢
    generalize mo_mbo D t (A t 2 0 (S 8 (mo_w D t)).toInt) (mo_seats D t : Int) np (mo_se (mo_se T 12 t (-2)) 13 0 (S 13 0 - A t 5 0 (S 8 (mo_w D t)).toInt), 0) 720 = X3 at hbo ⊢
    obtain ⟨⟨k1, k2, k3, k4, k5⟩, hn⟩ := hbo
    rw [hn]
    generalize mo_xn D t (A t 2 0 (S 8 (mo_w D t)).toInt) np (mo_se (mo_se S 12 t (-2)) 13 0 (S 13 0 - A t 5 0 (S 8 (mo_w D t)).toInt)) (mo_seats D t) = n
    have s8 : ∀ r i, 8 ≤ r → r ≠ 12 → r ≠ 13 → S3 r i = S r i := by
      intro r i a b c
      rw [k4 r a c, mo_se_rw c, mo_se_rw b]
    have t8 : ∀ r i, 8 ≤ r → r ≤ 11 → X3.1 r i = T r i := by
      intro r i a b
      rw [k5 r a (by omega), mo_se_rw (by omega), mo_se_rw (by omega)]
    have hW3 : mo_Wr S3 X3.1 nw m := by
      intro v hv
      have h9 := p2 v hv
      refine ⟨fun r a b => ?_, ?_, ?_⟩
      · by_cases e : r = 7
        · rw [e]; exact k2 v hv
        · rw [s8 r v (by omega) (by omega) (by omega), t8 r v (by omega) b]; exact h9.1 r a b
      · rw [s8 9 v (by decide) (by decide) (by decide)]; exact h9.2.1
      · rw [s8 11 v (by decide) (by decide) (by decide), s8 14 _ (by decide) (by decide) (by decide)]; exact h9.2.2
    have hL3 : ∀ k, k < mo_nt D → S3 12 k = X3.1 12 k := by
      intro k hk
      rw [k4 12 (by decide) (by decide), k5 12 (by decide) (by decide), mo_se_rw (r := 13) (r1 := 12) (by decide), mo_se_rw (r := 13) (r1 := 12) (by decide), mo_se_at, mo_se_at, p3 k hk]
    have h11 : (S3 11 (mo_w D t)).toInt = -1 := by rw [s8 11 _ (by decide) (by decide) (by decide)]; exact hrdy.1
    have e8 : X3.1 8 (mo_w D t) = S3 8 (mo_w D t) := (hW3 _ hw).1 8 (by decide) (by decide) |>.symm
    have epay : mo_pay D X3.1 (mo_w D t) = mo_pay D S3 (mo_w D t) := by
      unfold mo_pay
      rw [k2 _ hw, k3]
    unfold mo_xg mo_mg2
    rw [e8, epay]
    by_cases c1 : (A t 1 n (S3 8 (mo_w D t)).toInt).toInt = 0
    · rw [mo_ii_y c1, mo_ii_y c1]
      exact mo_set hR hG hm ht hrn hwt hw ⟨by decide, by decide⟩ k1 hW3 hL3 k3 h11
    · rw [mo_ii_n c1, mo_ii_n c1]
      by_cases c2 : (A t 4 n (S3 8 (mo_w D t)).toInt).toInt ≤ (mo_pay D S3 (mo_w D t)).toInt
      · rw [mo_ii_y c2, mo_ii_y c2]
        refine mo_set hR hG hm ht hrn hwt hw (hA n _) ?_ ?_ ?_ ?_ ?_
        · intro p hp
          have x7 : ∀ r, r ≠ 7 → r ≠ 8 → r ≠ 13 → mo_xp D (mo_w D t) (A t 4 n (S3 8 (mo_w D t)).toInt) (mo_se S3 8 (mo_w D t) (S3 8 (mo_w D t) + 1)) r = S3 r := by
            intro r a b c
            unfold mo_xp
            split
            · rw [mo_se_rw a, mo_se_rw b]
            · rw [mo_se_rw c, mo_se_rw b]
          have y7 : ∀ r, r ≠ 7 → r ≠ 8 → r ≠ 13 → mo_xp D (mo_w D t) (A t 4 n (S3 8 (mo_w D t)).toInt) (mo_se X3.1 8 (mo_w D t) (S3 8 (mo_w D t) + 1)) r = X3.1 r := by
            intro r a b c
            unfold mo_xp
            split
            · rw [mo_se_rw a, mo_se_rw b]
            · rw [mo_se_rw c, mo_se_rw b]
          refine ⟨mo_ok_cg (k1 p hp).1 (fun r hr => by rw [x7 r (by omega) (by omega) (by omega)]) (fun r hr => by rw [y7 r (by omega) (by omega) (by omega)]) (by rw [y7 16 (by decide) (by decide) (by decide)]), (k1 p hp).2.elim (fun h => Or.inl ?_) (fun h => Or.inr ?_)⟩
          · unfold mo_rp mo_tk at h ⊢
            rw [x7 2 (by decide) (by decide) (by decide), x7 5 (by decide) (by decide) (by decide), x7 6 (by decide) (by decide) (by decide), x7 10 (by decide) (by decide) (by decide), x7 11 (by decide) (by decide) (by decide), y7 2 (by decide) (by decide) (by decide), y7 5 (by decide) (by decide) (by decide), y7 6 (by decide) (by decide) (by decide), y7 14 (by decide) (by decide) (by decide), y7 15 (by decide) (by decide) (by decide)]
            exact h
          · unfold mo_bd at h ⊢
            rw [x7 2 (by decide) (by decide) (by decide), x7 5 (by decide) (by decide) (by decide), x7 6 (by decide) (by decide) (by decide), y7 2 (by decide) (by decide) (by decide), y7 5 (by decide) (by decide) (by decide), y7 6 (by decide) (by decide) (by decide), y7 14 (by decide) (by decide) (by decide)]
            exact h
        · intro v hv
          have h9 := hW3 v hv
          unfold mo_xp
          by_cases tx : (D 7 (mo_w D t)).toInt = 2
          · rw [if_pos tx, if_pos tx]
            refine ⟨fun r a b => ?_, ?_, ?_⟩
            · simp only [mo_se_at]
              rw [k2 _ hw, h9.1 r a b]
            · rw [mo_se_rw (by decide), mo_se_rw (by decide)]; exact h9.2.1
            · rw [mo_se_rw (r1 := 11) (by decide), mo_se_rw (r1 := 11) (by decide), mo_se_rw (r1 := 14) (by decide), mo_se_rw (r1 := 14) (by decide)]; exact h9.2.2
          · rw [if_neg tx, if_neg tx]
            refine ⟨fun r a b => ?_, ?_, ?_⟩
            · rw [mo_se_rw (by omega), mo_se_rw (r := 13) (by omega), mo_se_at, mo_se_at, h9.1 r a b]
            · rw [mo_se_rw (by decide), mo_se_rw (by decide)]; exact h9.2.1
            · rw [mo_se_rw (r1 := 11) (by decide), mo_se_rw (r1 := 11) (by decide), mo_se_rw (r1 := 14) (by decide), mo_se_rw (r1 := 14) (by decide)]; exact h9.2.2
        · intro k hk
          unfold mo_xp
          split
          · rw [mo_se_rw (by decide), mo_se_rw (by decide), mo_se_rw (by decide), mo_se_rw (by decide)]; exact hL3 k hk
          · rw [mo_se_rw (by decide), mo_se_rw (by decide), mo_se_rw (by decide), mo_se_rw (by decide)]; exact hL3 k hk
        · unfold mo_xp
          split
          · rw [mo_se_rw (by decide), mo_se_rw (by decide), mo_se_rw (by decide), mo_se_rw (by decide)]; exact k3
          · rw [mo_se_pp, mo_se_pp, mo_se_rw (by decide), mo_se_rw (by decide), k3]
        · unfold mo_xp
          split
          · rw [mo_se_rw (by decide), mo_se_rw (by decide)]; exact h11
          · rw [mo_se_rw (by decide), mo_se_rw (by decide)]; exact h11
      · rw [mo_ii_n c2, mo_ii_n c2]
        have hgo := mo_gon (S := S3) (T := X3.1) hm h14 ht hnt hrn hwt hw k1 hW3 hL3 k3 h11
        rw [e8] at hgo
        exact hgo
noncomputable def mo_xt1 (D : Nat → Nat → Int32) (G : Nat → Int) (A : Nat → Nat → Int → Int → Int32) (np : Nat) (m : Int) (S : Nat → Nat → Int32) (t : Nat) : Nat → Nat → Int32 := mo_ii ((D 14 t).toInt = m ∧ mo_gt D t) (mo_xsn D G A np t m S) S
noncomputable def mo_mt1 (D : Nat → Nat → Int32) (G : Nat → Int) (A : Nat → Nat → Int → Int → Int32) (np : Nat) (m : Int) (T : Nat → Nat → Int32) (t : Nat) : Nat → Nat → Int32 := mo_ii ((D 14 t).toInt = m ∧ mo_gt D t) (mo_mlv D G A np t m T) T
theorem mo_xs_14 {D : Nat → Nat → Int32} {t : Nat} {fare : Int32} {np : Nat} {S : Nat → Nat → Int32} : ∀ j, mo_xs D t fare np S j 14 = S 14 := by
  intro j
  induction j with
  | zero => rfl
  | succ j ih =>
    show (if mo_fi D (mo_xs D t fare np S j) t fare np = -1 then mo_xs D t fare np S j else mo_xb1 D t fare (mo_xs D t fare np S j) (mo_fi D (mo_xs D t fare np S j) t fare np).toNat) 14 = _
    split
    · exact ih
    · unfold mo_xb1
      rw [mo_ea_row (by decide) (by decide), mo_se_rw (by decide), mo_se_rw (by decide), mo_se_rw (by decide)]
      exact ih
theorem mo_xo_14 {D : Nat → Nat → Int32} {G : Nat → Int} {np t : Nat} {m n : Int} {held : Int32} {S : Nat → Nat → Int32} {i : Nat} (h : (S 14 i).toInt ≠ 0) : (mo_xo D G np t m n held S 14 i).toInt ≠ 0 := by
  unfold mo_xo
  rw [mo_fo_xr, if_neg (fun w => absurd w.1 (by decide))]
  refine mo_mk_up ?_
  rw [mo_se_rw (by decide), mo_se_rw (by decide), mo_se_rw (by decide)]
  exact h
theorem mo_xsn_14 {D : Nat → Nat → Int32} {G : Nat → Int} {A : Nat → Nat → Int → Int → Int32} {np t : Nat} {m : Int} {S : Nat → Nat → Int32} {i : Nat} (h : (S 14 i).toInt ≠ 0) : (mo_xsn D G A np t m S 14 i).toInt ≠ 0 := by
  unfold mo_xsn
  by_cases c : mo_no D G A t S
  · rw [mo_ii_y c, mo_se_rw (by decide)]; exact h
  · rw [mo_ii_n c]
    have h3 : (mo_xs D t (A t 2 0 (S 8 (mo_w D t)).toInt) np (mo_se (mo_se S 12 t (-2)) 13 0 (S 13 0 - A t 5 0 (S 8 (mo_w D t)).toInt)) (mo_seats D t) 14 i).toInt ≠ 0 := by
      rw [mo_xs_14, mo_se_rw (by decide), mo_se_rw (by decide)]; exact h
    generalize mo_xs D t (A t 2 0 (S 8 (mo_w D t)).toInt) np (mo_se (mo_se S 12 t (-2)) 13 0 (S 13 0 - A t 5 0 (S 8 (mo_w D t)).toInt)) (mo_seats D t) = S3 at h3 ⊢
    generalize mo_xn D t (A t 2 0 (S 8 (mo_w D t)).toInt) np (mo_se (mo_se S 12 t (-2)) 13 0 (S 13 0 - A t 5 0 (S 8 (mo_w D t)).toInt)) (mo_seats D t) = n
    unfold mo_xg
    by_cases c1 : (A t 1 n (S3 8 (mo_w D t)).toInt).toInt = 0
    · rw [mo_ii_y c1]; exact mo_xo_14 h3
    · rw [mo_ii_n c1]
      by_cases c2 : (A t 4 n (S3 8 (mo_w D t)).toInt).toInt ≤ (mo_pay D S3 (mo_w D t)).toInt
      · rw [mo_ii_y c2]
        refine mo_xo_14 ?_
        unfold mo_xp
        split
        · rw [mo_se_rw (by decide), mo_se_rw (by decide)]; exact h3
        · rw [mo_se_rw (by decide), mo_se_rw (by decide)]; exact h3
      · rw [mo_ii_n c2, mo_fo_xq]
        split
        · rw [if_neg (by decide), if_neg (by decide), mo_se_rw (by decide), mo_se_rw (by decide)]; exact h3
        · rw [mo_se_rw (by decide), mo_se_rw (by decide)]; exact h3
def mo_Bz (D S : Nat → Nat → Int32) (np : Nat) : Prop := (∀ p, p < np → (S 14 (D 2 p).toInt.toNat).toInt ≠ 0) ∧ (∀ k, k < mo_nt D → mo_gt D k → (S 14 (D 14 k).toInt.toNat).toInt ≠ 0)
def mo_HA (D : Nat → Nat → Int32) (A : Nat → Nat → Int → Int → Int32) : Prop := ∀ t n ti, 0 ≤ (A t 3 n ti).toInt ∧ (A t 3 n ti).toInt ≤ 2000
theorem mo_tf {D : Nat → Nat → Int32} {G : Nat → Int} {A : Nat → Nat → Int → Int → Int32} {S T : Nat → Nat → Int32} {np nw : Nat} {m bw : Int} (hR : mo_R D) (hG : mo_GR G) (hA : mo_HA D A) (hm : 0 ≤ m ∧ m ≤ 839) (hnt : (mo_nt D : Int) ≤ 80) (hwh : mo_wh D) (hnw : (D 19 1).toInt = (nw : Int)) (hP : mo_P D G np nw (mo_nt D) m bw S T) (hB : mo_Bz D S np) : ∀ n, n ≤ mo_nt D → mo_P D G np nw (mo_nt D) m bw (mo_fo (mo_xt1 D G A np m) S n) (mo_fo (mo_mt1 D G A np m) T n) ∧ mo_Bz D (mo_fo (mo_xt1 D G A np m) S n) np := by
  intro n
  induction n with
  | zero => exact fun _ => ⟨hP, hB⟩
  | succ n ih =>
    intro hn
    obtain ⟨i1, i2⟩ := ih (by omega)
    show mo_P D G np nw (mo_nt D) m bw (mo_xt1 D G A np m (mo_fo (mo_xt1 D G A np m) S n) n) (mo_mt1 D G A np m (mo_fo (mo_mt1 D G A np m) T n) n) ∧ mo_Bz D (mo_xt1 D G A np m (mo_fo (mo_xt1 D G A np m) S n) n) np
    unfold mo_xt1 mo_mt1
    by_cases c : (D 14 n).toInt = m ∧ mo_gt D n
    · rw [mo_ii_y c, mo_ii_y c]
      have hw9 := hwh n (by omega)
      refine ⟨mo_send_sim hR hG (hA n) hm c.1 (by omega) hnt c.2 hw9.1 (by unfold mo_w; omega) i1, fun p hp => mo_xsn_14 (i2.1 p hp), fun k hk hg => mo_xsn_14 (i2.2 k hk hg)⟩
    · rw [mo_ii_n c, mo_ii_n c]
      exact ⟨i1, i2⟩
def mo_Q (D : Nat → Nat → Int32) (G : Nat → Int) (np nw : Nat) (m bw : Int) (S T : Nat → Nat → Int32) : Prop := (∀ p, p < np → mo_ok D S T p bw ∧ mo_rp D G S T p m m m m) ∧ (∀ w, w < nw → (∀ r, 7 ≤ r → r ≤ 11 → S r w = T r w) ∧ ((S 9 w).toInt = 0 ∨ (S 9 w).toInt = 1) ∧ ((S 11 w).toInt = -1 ∨ (m ≤ (S 11 w).toInt ∧ (S 11 w).toInt ≤ 5000 ∧ ((S 11 w).toInt < 840 → (S 14 (S 11 w).toInt.toNat).toInt ≠ 0)))) ∧ (∀ k, k < mo_nt D → S 12 k = T 12 k) ∧ S 13 0 = T 13 0 ∧ mo_Bz D S np
noncomputable def mo_xph (D : Nat → Nat → Int32) (G : Nat → Int) (A : Nat → Nat → Int → Int → Int32) (np nw : Nat) (m : Int) (S : Nat → Nat → Int32) : Nat → Nat → Int32 := mo_fo (mo_xa1 D G m) (mo_fo (mo_xt1 D G A np m) (mo_fo (mo_xh1 D G m) (mo_fo (mo_xl2 m) (mo_fo (mo_xl1 D G m) S np) nw) np) (mo_nt D)) np
noncomputable def mo_mph (D : Nat → Nat → Int32) (G : Nat → Int) (A : Nat → Nat → Int → Int → Int32) (np nw : Nat) (m : Int) (T : Nat → Nat → Int32) : Nat → Nat → Int32 := mo_fo (mo_ma1 D G m) (mo_fo (mo_mt1 D G A np m) (mo_fo (mo_mh1 D G m) (mo_fo (mo_ml1 D G m) (mo_fo (mo_xl2 m) T nw) np) np) (mo_nt D)) np
theorem mo_ph {D : Nat → Nat → Int32} {G : Nat → Int} {A : Nat → Nat → Int → Int → Int32} {S T : Nat → Nat → Int32} {np nw : Nat} {m bw : Int} (hR : mo_R D) (hG : mo_GR G) (hA : mo_HA D A) (hm : 0 ≤ m ∧ m ≤ 839) (hb : bw ≤ 90000000) (hnt : (mo_nt D : Int) ≤ 80) (hwh : mo_wh D) (hnw : (D 19 1).toInt = (nw : Int)) (hQ : mo_Q D G np nw m bw S T) : mo_Q D G np nw (m + 1) (bw + 3267) (mo_xph D G A np nw m S) (mo_mph D G A np nw m T) := by
  obtain ⟨q1, q2, q3, q4, q5⟩ := hQ
  have wlt : ∀ k, k < mo_nt D → (D 11 k).toInt.toNat < nw := fun k hk => by have := hwh k hk; omega
  have tc : ∀ r i, mo_fo (mo_xl2 m) T nw r i = if r = 11 ∧ i < nw ∧ (T 11 i).toInt = m then -1 else T r i := mo_fo_xl nw
  have tcr : ∀ r i, r ≠ 11 → mo_fo (mo_xl2 m) T nw r i = T r i := fun r i a => by rw [tc, if_neg (fun w => a w.1)]
  have n1 : ((-1) : Int32).toInt = -1 := by decide
  -- wheels come
  have h0 : ∀ k, k < mo_nt D → m ≤ (S 11 (D 11 k).toInt.toNat).toInt → ((mo_fo (mo_xl2 m) T nw 11 (D 11 k).toInt.toNat).toInt = -1 ↔ (S 11 (D 11 k).toInt.toNat).toInt = m) := by
    intro k hk hge
    have e := (q2 _ (wlt k hk)).1 11 (by decide) (by decide)
    rw [tc]
    by_cases c : (T 11 (D 11 k).toInt.toNat).toInt = m
    · rw [if_pos ⟨rfl, wlt k hk, c⟩]
      exact ⟨fun _ => by rw [e]; exact c, fun _ => n1⟩
    · rw [if_neg (fun w => c w.2.2)]
      rw [e] at hge ⊢
      exact ⟨fun w => by omega, fun w => absurd w c⟩
  obtain ⟨a1, a2, _⟩ := mo_fold (mo_wf G m (S0 := S) (T0 := mo_fo (mo_xl2 m) T nw) (np := np) (bw := bw) hR hG hm (by omega) hnt hwh h0) (I := mo_kp S (mo_fo (mo_xl2 m) T nw)) (B := fun S T p => mo_ok D S T p bw ∧ mo_rp D G S T p m m m m) (A := fun S T p => mo_ok D S T p (bw + 1089) ∧ mo_rp D G S T p m m m (m + 1)) (S := S) (T := mo_fo (mo_xl2 m) T nw) ⟨fun _ _ => rfl, fun _ _ => rfl⟩ (fun p hp => by
    obtain ⟨ho, hr⟩ := q1 p hp
    refine ⟨mo_ok_cg ho (fun r _ => rfl) (fun r hr => tcr r p (by omega)) (tcr 16 p (by decide)), ?_⟩
    unfold mo_rp mo_tk at hr ⊢
    rw [tcr 2 p (by decide), tcr 5 p (by decide), tcr 6 p (by decide), tcr 14 p (by decide), tcr 15 p (by decide)]
    exact hr) np (Nat.le_refl _)
  generalize e1 : mo_fo (mo_xl1 D G m) S np = S1 at a1 a2
  generalize f1 : mo_fo (mo_ml1 D G m) (mo_fo (mo_xl2 m) T nw) np = T1 at a1 a2
  have sc : ∀ r i, mo_fo (mo_xl2 m) S1 nw r i = if r = 11 ∧ i < nw ∧ (S1 11 i).toInt = m then -1 else S1 r i := mo_fo_xl nw
  have scr : ∀ r i, r ≠ 11 → mo_fo (mo_xl2 m) S1 nw r i = S1 r i := fun r i a => by rw [sc, if_neg (fun w => a w.1)]
  -- those who leave home
  obtain ⟨b1, b2, _⟩ := mo_fold (mo_hf G m (S0 := mo_fo (mo_xl2 m) S1 nw) (T0 := T1) (np := np) (bw := bw + 1089) hR hG hm (by omega) hnt) (I := mo_kp (mo_fo (mo_xl2 m) S1 nw) T1) (B := fun S T p => mo_ok D S T p (bw + 1089) ∧ mo_rp D G S T p m m m (m + 1)) (A := fun S T p => mo_ok D S T p (bw + 1089 + 1089) ∧ mo_rp D G S T p (m + 1) (m + 1) m (m + 1)) (S := mo_fo (mo_xl2 m) S1 nw) (T := T1) ⟨fun _ _ => rfl, fun _ _ => rfl⟩ (fun p hp => by
    obtain ⟨ho, hr⟩ := a2 p hp
    refine ⟨mo_ok_cg ho (fun r hr => scr r p (by omega)) (fun r _ => rfl) rfl, ?_⟩
    unfold mo_rp mo_tk at hr ⊢
    have e10 : mo_fo (mo_xl2 m) S1 nw 10 = S1 10 := funext fun i => scr 10 i (by decide)
    rw [scr 2 p (by decide), scr 5 p (by decide), scr 6 p (by decide), e10]
    rcases hr with h | ⟨hl, h | h | h | h | h | h⟩
    · exact Or.inl h
    · exact Or.inr ⟨hl, Or.inl h⟩
    · exact Or.inr ⟨hl, Or.inr (Or.inl h)⟩
    · obtain ⟨s1, ⟨k, k1, k2, k3, k4⟩, s2⟩ := h
      refine Or.inr ⟨hl, Or.inr (Or.inr (Or.inl ⟨s1, ⟨k, k1, k2, k3, ?_⟩, s2⟩))⟩
      rw [sc, if_neg (fun w => by have := w.2.2; omega)]
      exact k4
    · exact Or.inr ⟨hl, Or.inr (Or.inr (Or.inr (Or.inl h)))⟩
    · exact Or.inr ⟨hl, Or.inr (Or.inr (Or.inr (Or.inr (Or.inl h))))⟩
    · exact Or.inr ⟨hl, Or.inr (Or.inr (Or.inr (Or.inr (Or.inr h))))⟩) np (Nat.le_refl _)
  generalize e2 : mo_fo (mo_xh1 D G m) (mo_fo (mo_xl2 m) S1 nw) np = S3 at b1 b2
  generalize f2 : mo_fo (mo_mh1 D G m) T1 np = T3 at b1 b2
  have s3 : ∀ r i, 7 ≤ r → S3 r i = if r = 11 ∧ i < nw ∧ (S 11 i).toInt = m then -1 else S r i := by
    intro r i a
    rw [b1.1 r a, sc, a1.1 11 (by decide), a1.1 r a]
  have t3 : ∀ r i, 7 ≤ r → r ≤ 13 → T3 r i = if r = 11 ∧ i < nw ∧ (T 11 i).toInt = m then -1 else T r i := by
    intro r i a b
    rw [b1.2 r ⟨a, b⟩, a1.2 r ⟨a, b⟩, tc]
  -- trips
  have hP : mo_P D G np nw (mo_nt D) m (bw + 1089 + 1089) S3 T3 := by
    refine ⟨b2, fun v hv => ?_, fun k hk => ?_, ?_⟩
    · have h9 := q2 v hv
      refine ⟨fun r a b => ?_, ?_, ?_⟩
      · rw [s3 r v a, t3 r v a (by omega), h9.1 11 (by decide) (by decide), h9.1 r a b]
      · rw [s3 9 v (by decide), if_neg (fun w => absurd w.1 (by decide))]; exact h9.2.1
      · rw [s3 11 v (by decide)]
        by_cases c : (S 11 v).toInt = m
        · rw [if_pos ⟨rfl, hv, c⟩]; exact Or.inl n1
        · rw [if_neg (fun w => c w.2.2)]
          rcases h9.2.2 with w | ⟨w1, w2, w3⟩
          · exact Or.inl w
          · exact Or.inr ⟨by omega, w2, fun h8 => by rw [s3 14 _ (by decide), if_neg (fun w => absurd w.1 (by decide))]; exact w3 h8⟩
    · rw [s3 12 k (by decide), t3 12 k (by decide) (by decide), if_neg (fun w => absurd w.1 (by decide)), if_neg (fun w => absurd w.1 (by decide))]
      exact q3 k hk
    · rw [s3 13 0 (by decide), t3 13 0 (by decide) (by decide), if_neg (fun w => absurd w.1 (by decide)), if_neg (fun w => absurd w.1 (by decide))]
      exact q4
  have hB : mo_Bz D S3 np := by
    have e14 : ∀ i, S3 14 i = S 14 i := fun i => by rw [s3 14 i (by decide), if_neg (fun w => absurd w.1 (by decide))]
    exact ⟨fun p hp => by rw [e14]; exact q5.1 p hp, fun k hk hg => by rw [e14]; exact q5.2 k hk hg⟩
  obtain ⟨hP4, hB4⟩ := mo_tf (A := A) hR hG hA hm hnt hwh hnw hP hB (mo_nt D) (Nat.le_refl _)
  generalize e4 : mo_fo (mo_xt1 D G A np m) S3 (mo_nt D) = S4 at hP4 hB4
  generalize f4 : mo_fo (mo_mt1 D G A np m) T3 (mo_nt D) = T4 at hP4
  -- once more
  obtain ⟨c1, c2, _⟩ := mo_fold (mo_af G m (S0 := S4) (T0 := T4) (np := np) (bw := bw + 1089 + 1089) hR hG hm (by omega) hnt) (I := mo_kp S4 T4) (B := fun S T p => mo_ok D S T p (bw + 1089 + 1089) ∧ mo_rp D G S T p (m + 1) (m + 1) m (m + 1)) (A := fun S T p => mo_ok D S T p (bw + 1089 + 1089 + 1089) ∧ mo_rp D G S T p (m + 1) (m + 1) (m + 1) (m + 1)) (S := S4) (T := T4) ⟨fun _ _ => rfl, fun _ _ => rfl⟩ hP4.1 np (Nat.le_refl _)
  unfold mo_xph mo_mph
  rw [e1, f1, e2, f2, e4, f4]
  obtain ⟨_, p2, p3, p4⟩ := hP4
  refine ⟨fun p hp => ⟨mo_ok_mono (c2 p hp).1 (by omega), (c2 p hp).2⟩, fun v hv => ?_, fun k hk => ?_, ?_, ?_⟩
  · rw [c1.1 9 (by decide), c1.1 11 (by decide), c1.1 14 (by decide)]
    exact ⟨fun r a b => by rw [c1.1 r a, c1.2 r ⟨a, by omega⟩]; exact (p2 v hv).1 r a b, (p2 v hv).2⟩
  · rw [c1.1 12 (by decide), c1.2 12 ⟨by decide, by decide⟩]; exact p3 k hk
  · rw [c1.1 13 (by decide), c1.2 13 ⟨by decide, by decide⟩]; exact p4
  · unfold mo_Bz
    rw [c1.1 14 (by decide)]
    exact hB4
theorem mo_fo_id {f : (Nat → Nat → Int32) → Nat → (Nat → Nat → Int32)} {S : Nat → Nat → Int32} : ∀ n, (∀ i, i < n → f S i = S) → mo_fo f S n = S := by
  intro n
  induction n with
  | zero => exact fun _ => rfl
  | succ n ih =>
    intro h
    show f (mo_fo f S n) n = S
    rw [ih (fun i hi => h i (by omega)), h n (Nat.lt_succ_self n)]
theorem mo_idle {D : Nat → Nat → Int32} {G : Nat → Int} {A : Nat → Nat → Int → Int → Int32} {S T : Nat → Nat → Int32} {np nw : Nat} {m bw : Int} (hm : 0 ≤ m ∧ m ≤ 839) (hwh : mo_wh D) (hnw : (D 19 1).toInt = (nw : Int)) (hQ : mo_Q D G np nw m bw S T) (hz : (S 14 m.toNat).toInt = 0) : mo_xph D G A np nw m S = S := by
  obtain ⟨q1, q2, q3, q4, q5⟩ := hQ
  have wlt : ∀ k, k < mo_nt D → (D 11 k).toInt.toNat < nw := fun k hk => by have := hwh k hk; omega
  have nw9 : ∀ v, v < nw → ¬ (S 11 v).toInt = m := by
    intro v hv e
    rcases (q2 v hv).2.2 with w | ⟨w1, w2, w3⟩
    · omega
    · have := w3 (by omega)
      rw [e] at this
      exact this hz
  have i1 : mo_fo (mo_xl1 D G m) S np = S := mo_fo_id np (fun p hp => by
    unfold mo_xl1
    rw [if_neg]
    rintro ⟨w1, w2⟩
    rcases (q1 p hp).2 with h | ⟨hl, h | h | h | h | h | h⟩
    · exact w1 h.2.2.1
    · exact w1 h.2.2.1
    · exact w1 h.2.2.1
    · obtain ⟨_, ⟨k, k1, k2, _⟩, _⟩ := h
      rw [k2] at w2
      exact nw9 _ (wlt k k1.2.1) w2
    · exact w1 h.2.2.1
    · exact w1 h.2.2.1
    · exact w1 h.2.2.1)
  have i2 : mo_fo (mo_xl2 m) S nw = S := mo_fo_id nw (fun v hv => by
    unfold mo_xl2
    rw [if_neg (nw9 v hv)])
  have i3 : mo_fo (mo_xh1 D G m) S np = S := mo_fo_id np (fun p hp => by
    unfold mo_xh1
    rw [if_neg (fun w => q5.1 p hp (by rw [w]; exact hz))])
  have i4 : mo_fo (mo_xt1 D G A np m) S (mo_nt D) = S := mo_fo_id _ (fun k hk => by
    unfold mo_xt1
    rw [mo_ii_n (fun w => q5.2 k hk w.2 (by rw [w.1]; exact hz))])
  have i5 : mo_fo (mo_xa1 D G m) S np = S := mo_fo_id np (fun p hp => by
    unfold mo_xa1
    rw [if_neg]
    rintro ⟨w1, w2⟩
    have bad : ∀ k, mo_tk D G S T p k → S 5 p = T 5 p → False := by
      intro k k1 k2
      rw [k2, show (T 5 p).toInt.toNat = k from by have := k1.1; omega] at w2
      exact q5.2 k k1.2.1 k1.2.2.1 (by rw [w2]; exact hz)
    rcases (q1 p hp).2 with h | ⟨hl, h | h | h | h | h | h⟩
    · exact w1 h.2.1
    · obtain ⟨_, ⟨k, k1, k2, _⟩, _⟩ := h
      exact bad k k1 k2
    · obtain ⟨_, ⟨k, k1, k2, _⟩, _⟩ := h
      exact bad k k1 k2
    · exact w1 h.2.2.1
    · exact w1 h.2.1
    · exact w1 h.2.1
    · exact w1 h.2.1)
  unfold mo_xph
  rw [i1, i2, i3, i4, i5]
noncomputable def mo_xm (D : Nat → Nat → Int32) (G : Nat → Int) (A : Nat → Nat → Int → Int → Int32) (np nw : Nat) (m : Nat) (S : Nat → Nat → Int32) : Nat → Nat → Int32 := if (S 14 m).toInt = 0 then S else mo_xph D G A np nw (m : Int) S
noncomputable def mo_xd (D : Nat → Nat → Int32) (G : Nat → Int) (A : Nat → Nat → Int → Int → Int32) (np nw : Nat) (S : Nat → Nat → Int32) : Nat → (Nat → Nat → Int32)
  | 0 => S
  | n + 1 => mo_xm D G A np nw n (mo_xd D G A np nw S n)
noncomputable def mo_md (D : Nat → Nat → Int32) (G : Nat → Int) (A : Nat → Nat → Int → Int → Int32) (np nw : Nat) (T : Nat → Nat → Int32) : Nat → (Nat → Nat → Int32)
  | 0 => T
  | n + 1 => mo_mph D G A np nw (n : Int) (mo_md D G A np nw T n)
theorem mo_day {D : Nat → Nat → Int32} {G : Nat → Int} {A : Nat → Nat → Int → Int → Int32} {S T : Nat → Nat → Int32} {np nw : Nat} (hR : mo_R D) (hG : mo_GR G) (hA : mo_HA D A) (hnt : (mo_nt D : Int) ≤ 80) (hwh : mo_wh D) (hnw : (D 19 1).toInt = (nw : Int)) (hQ : mo_Q D G np nw 0 0 S T) : ∀ n : Nat, n ≤ 840 → mo_Q D G np nw (n : Int) (3267 * (n : Int)) (mo_xd D G A np nw S n) (mo_md D G A np nw T n) := by
  intro n
  induction n with
  | zero => exact fun _ => hQ
  | succ n ih =>
    intro hn
    have h := ih (by omega)
    have hm : 0 ≤ (n : Int) ∧ (n : Int) ≤ 839 := by omega
    have hp := mo_ph (A := A) hR hG hA hm (by omega) hnt hwh hnw h
    rw [show ((n + 1 : Nat) : Int) = (n : Int) + 1 from by omega, show 3267 * ((n : Int) + 1) = 3267 * (n : Int) + 3267 from by omega]
    show mo_Q D G np nw ((n : Int) + 1) (3267 * (n : Int) + 3267) (mo_xm D G A np nw n (mo_xd D G A np nw S n)) (mo_mph D G A np nw (n : Int) (mo_md D G A np nw T n))
    unfold mo_xm
    by_cases c : (mo_xd D G A np nw S n 14 n).toInt = 0
    · rw [if_pos c]
      have e := mo_idle (A := A) hm hwh hnw h (by rw [Int.toNat_natCast]; exact c)
      rw [e] at hp
      exact hp
    · rw [if_neg c]
      exact hp
theorem mo_end {D : Nat → Nat → Int32} {G : Nat → Int} {S T : Nat → Nat → Int32} {np nw : Nat} {bw : Int} (h : mo_Q D G np nw 840 bw S T) {p : Nat} (hp : p < np) : S 0 p = T 0 p ∧ S 1 p = T 1 p ∧ S 2 p = T 2 p ∧ S 3 p = T 3 p ∧ S 4 p = T 4 p ∧ T 16 p = D 6 p + S 3 p := by
  obtain ⟨⟨o0, o1, o3, o4, o16, _⟩, hr⟩ := h.1 p hp
  refine ⟨o0, o1, ?_, o3, o4, o16⟩
  rcases hr with h | ⟨hl, h | h | h | h | h | h⟩
  · exact Int32.toInt_inj.mp (h.2.2.2.1.trans h.2.2.2.2.1.symm)
  · exact Int32.toInt_inj.mp (h.2.2.2.1.trans h.2.2.2.2.symm)
  · exact Int32.toInt_inj.mp (h.2.2.2.1.trans h.2.2.2.2.symm)
  · exact Int32.toInt_inj.mp (h.2.2.2.1.trans h.2.2.2.2.symm)
  · obtain ⟨s1, s2, s3, s4, s5, s6⟩ := h
    rw [if_neg (by omega)] at s6
    exact Int32.toInt_inj.mp (s6.trans s4.symm)
  · exact h.2.2.2
  · exact Int32.toInt_inj.mp (h.2.2.2.1.trans h.2.2.2.2.symm)
def mx_rn (fv : Nat → Int32) (ar : Nat → Nat → Int32) : Int32 := if (fv 5).toInt = 0 then 0 else if (fv 7).toInt < (fv 5).toInt then ar 3 (fv 7).toInt.toNat else 9
def mx_D (fv : Nat → Int32) (ar : Nat → Nat → Int32) : Nat → Nat → Int32 := fun r => match r with
  | 0 => ar 6
  | 1 => ar 7
  | 2 => ar 9
  | 3 => ar 10
  | 4 => ar 11
  | 5 => ar 14
  | 6 => ar 19
  | 7 => ar 20
  | 8 => ar 21
  | 9 => ar 22
  | 10 => ar 23
  | 11 => ar 28
  | 12 => ar 29
  | 13 => ar 30
  | 14 => ar 31
  | 15 => ar 32
  | 16 => ar 33
  | 17 => ar 34
  | 18 => ar 2
  | 19 => fun i => match i with
    | 0 => fv 10
    | 1 => fv 11
    | 2 => fv 12
    | 3 => fv 7
    | 4 => mx_rn fv ar
    | 5 => fv 22
    | _ => 0
  | _ => fun _ => 0
def mx_G (ar : Nat → Nat → Int32) : Nat → Int := fun i => (ar 5 i).toInt
def mx_S (fv : Nat → Int32) (ar : Nat → Nat → Int32) : Nat → Nat → Int32 := fun r => match r with
  | 0 => ar 44
  | 1 => ar 45
  | 2 => ar 46
  | 3 => ar 47
  | 4 => ar 48
  | 5 => ar 49
  | 6 => ar 50
  | 7 => ar 51
  | 8 => ar 52
  | 9 => ar 53
  | 10 => ar 54
  | 11 => ar 55
  | 12 => ar 56
  | 13 => fun i => if i = 0 then fv 23 else 0
  | 14 => ar 57
  | _ => fun _ => 0
def mo_R2 (D : Nat → Nat → Int32) : Prop := (∀ i, 0 ≤ (D 17 i).toInt ∧ (D 17 i).toInt ≤ 199) ∧ (∀ i, 0 ≤ (D 5 i).toInt ∧ (D 5 i).toInt ≤ 9)
def mx_R (fv : Nat → Int32) (ar : Nat → Nat → Int32) : Prop := mo_R (mx_D fv ar) ∧ mo_GR (mx_G ar) ∧ mo_R2 (mx_D fv ar)
def mo_rp0 (D : Nat → Nat → Int32) (pu sh : Nat → Int32) (S : Nat → Nat → Int32) (p : Nat) : Nat → Nat → Int32 := mo_mk (mo_se (mo_se (mo_se (mo_se (mo_se (mo_se (mo_se S 0 p (pu p)) 1 p (sh p)) 2 p (-1)) 3 p 0) 4 p 0) 5 p (-1)) 6 p (-1)) (D 2 p)
def mo_rw0 (D : Nat → Nat → Int32) (co : Nat → Int32) (S : Nat → Nat → Int32) (w : Nat) : Nat → Nat → Int32 := mo_se (mo_se (mo_se (mo_se (mo_se S 7 w (co w)) 8 w 0) 9 w 0) 10 w (D 8 w)) 11 w (-1)
noncomputable def mo_rt0 (D : Nat → Nat → Int32) (S : Nat → Nat → Int32) (t : Nat) : Nat → Nat → Int32 := mo_ii (mo_gt D t) (mo_mk (mo_se S 12 t (-1)) (D 14 t)) (mo_se S 12 t (-1))
def mo_ot (D S : Nat → Nat → Int32) : Nat → Int
  | 0 => 0
  | n + 1 => if (S 2 n).toInt ≠ -1 ∧ (S 2 n).toInt ≤ (D 3 n).toInt then mo_ot D S n + 1 else mo_ot D S n
def mo_A (D : Nat → Nat → Int32) (W : List (Int × Int × List (Nat × Nat × Int))) (t what : Nat) (n ti : Int) : Int32 := Int32.ofInt (cd_av (cd_fc (D 7 (D 11 t).toInt.toNat).toInt (D 10 (D 11 t).toInt.toNat).toInt (D 9 (D 11 t).toInt.toNat).toInt (D 19 4).toInt (D 14 t).toInt (D 19 3).toInt (D 12 t).toInt (D 13 t).toInt (cd_ri (what : Int) n) ti) (what : Int) (decide ((D 7 (D 11 t).toInt.toNat).toInt = 2)) W)
def mo_late (c b : Int32) : Int32 := if 0 < ((if c.toInt = -1 then 840 else c) - b).toInt then (if c.toInt = -1 then 840 else c) - b else 0
def mo_wage (dk wg lt : Int32) : Int32 := if 0 < (wg - dk * (lt / 10)).toInt then wg - dk * (lt / 10) else 0
def mo_pur (pu pay : Int32) : Int32 := if 100000 < (pu + pay).toInt then 100000 else pu + pay
def mx_sp (ar a1 : Nat → Nat → Int32) (dk : Int32) (n : Nat) : Prop := ∀ i : Nat, (a1 12 i = if i < n then ar 45 i else ar 12 i) ∧ (a1 13 i = if i < n then mo_pur (ar 44 i) (mo_wage dk (ar 8 i) (mo_late (ar 46 i) (ar 10 i))) else ar 13 i) ∧ (a1 15 i = if i < n then ar 46 i else ar 15 i) ∧ (a1 16 i = if i < n then mo_late (ar 46 i) (ar 10 i) else ar 16 i) ∧ (a1 17 i = if i < n then ar 47 i else ar 17 i) ∧ (a1 18 i = if i < n then ar 48 i else ar 18 i) ∧ (a1 19 i = if i < n then ar 19 i + ar 47 i else ar 19 i)
def mx_c1 (x y z : Nat → Int32) (n : Nat) : Prop := ∀ i : Nat, z i = if i < n then x i else y i
def mo_dkv (f : Nat → Int) (W : List (Int × Int × List (Nat × Nat × Int))) : Int32 := Int32.ofInt (cd_fv f 6 W)
noncomputable def mo_st (D : Nat → Nat → Int32) (ar : Nat → Nat → Int32) (np nw : Nat) (S : Nat → Nat → Int32) : Nat → Nat → Int32 := mo_fo (mo_rt0 D) (mo_fo (mo_rw0 D (ar 24)) (mo_fo (mo_rp0 D (ar 13) (ar 12)) S np) nw) (mo_nt D)
def mm_rn (fv : Nat → Int32) (ar : Nat → Nat → Int32) : Int32 := if (fv 7).toInt = 0 then 0 else if (fv 3).toInt < (fv 7).toInt then ar 5 (fv 3).toInt.toNat else 9
def mm_D (w9 : Nat → Int32) (fv : Nat → Int32) (ar : Nat → Nat → Int32) : Nat → Nat → Int32 := fun r => match r with
  | 0 => ar 9
  | 1 => ar 10
  | 2 => ar 12
  | 3 => ar 13
  | 4 => ar 14
  | 5 => ar 17
  | 6 => w9
  | 7 => ar 20
  | 8 => ar 21
  | 9 => ar 22
  | 10 => ar 23
  | 11 => ar 25
  | 12 => ar 26
  | 13 => ar 27
  | 14 => ar 28
  | 15 => ar 29
  | 16 => ar 30
  | 17 => ar 31
  | 18 => ar 19
  | 19 => fun i => match i with
    | 0 => fv 32
    | 1 => fv 34
    | 2 => fv 35
    | 3 => fv 3
    | 4 => mm_rn fv ar
    | 5 => fv 84
    | _ => 0
  | _ => fun _ => 0
def mm_T (fv : Nat → Int32) (ar : Nat → Nat → Int32) : Nat → Nat → Int32 := fun r => match r with
  | 0 => ar 16
  | 1 => ar 15
  | 2 => ar 72
  | 3 => ar 74
  | 4 => ar 75
  | 5 => ar 71
  | 6 => ar 68
  | 7 => ar 24
  | 8 => ar 78
  | 9 => ar 79
  | 10 => ar 76
  | 11 => ar 77
  | 12 => ar 80
  | 13 => fun i => if i = 0 then fv 36 else 0
  | 14 => ar 69
  | 15 => ar 70
  | 16 => ar 18
  | _ => fun _ => 0
theorem mm_nin {N L : List Nat} (h : L.all (fun k => !N.contains k) = true) {k : Nat} (hk : k ∈ L) : N.contains k = false := by
  have h3 := List.all_eq_true.mp h k hk
  cases h4 : N.contains k with
  | false => rfl
  | true => rw [h4] at h3; cases h3
def mm_R (G : Nat → Int) (fv : Nat → Int32) (ar : Nat → Nat → Int32) : Prop := mo_R (mm_D (fun _ => 0) fv ar) ∧ mo_GR G ∧ mo_R2 (mm_D (fun _ => 0) fv ar)
def mm_W (fv : Nat → Int32) (ar : Nat → Nat → Int32) : List (Int × Int × List (Nat × Nat × Int)) := if (cd_nw (fun i => (ar 49 (i - 1)).toInt) (fv 3).toInt ((fv 58).toInt.toNat)).1 = 0 then [] else cd_LM ar ((cd_nw (fun i => (ar 49 (i - 1)).toInt) (fv 3).toInt ((fv 58).toInt.toNat)).1 - 1)
def mm_L (fv : Nat → Int32) (ar : Nat → Nat → Int32) : Prop := (∀ b : Nat, (b : Int) < (fv 58).toInt → ∀ l ∈ cd_LM ar b, cd_gd l ∧ (l.1 = 1 → l.2.1 = 0 ∨ l.2.1 = 1)) ∧ ∀ i : Nat, (i : Int) < (fv 58).toInt → 0 ≤ (ar 49 i).toInt
theorem cd_fv_in {f : Nat → Int} {k : Int} {P : Int → Prop} (h0 : P 0) : ∀ W : List (Int × Int × List (Nat × Nat × Int)), (∀ l ∈ W, l.1 = k → P l.2.1) → P (cd_fv f k W)
  | [], _ => h0
  | x :: r, h => by
    show P (if x.1 = k ∧ cd_ho f x.2.2 = true then x.2.1 else cd_fv f k r)
    by_cases q : x.1 = k ∧ cd_ho f x.2.2 = true
    · rw [if_pos q]; exact h x (List.mem_cons_self ..) q.1
    · rw [if_neg q]; exact cd_fv_in h0 r (fun l hl => h l (List.mem_cons_of_mem _ hl))
def mm_w0 (D T : Nat → Nat → Int32) (w : Nat) : Nat → Nat → Int32 := mo_se (mo_se (mo_se (mo_se T 10 w (D 8 w)) 11 w (-1)) 8 w 0) 9 w 0
def mm_p0 (D T : Nat → Nat → Int32) (p : Nat) : Nat → Nat → Int32 := mo_se (mo_se (mo_se (mo_se (mo_se T 6 p 0) 14 p (D 0 p)) 2 p (-1)) 3 p 0) 4 p 0
def mm_k0 (T : Nat → Nat → Int32) (k : Nat) : Nat → Nat → Int32 := mo_se T 12 k (-1)
def mm_Ts (D T : Nat → Nat → Int32) (np nw nt : Nat) : Nat → Nat → Int32 := mo_fo mm_k0 (mo_fo (mm_p0 D) (mo_fo (mm_w0 D) T nw) np) nt
def mm_dk (fv : Nat → Int32) (ar : Nat → Nat → Int32) : Int32 := if (cd_nw (fun i => (ar 49 (i - 1)).toInt) (fv 3).toInt ((fv 58).toInt.toNat)).1 = 0 then 0 else ar 48 ((cd_nw (fun i => (ar 49 (i - 1)).toInt) (fv 3).toInt ((fv 58).toInt.toNat)).1 - 1)
def mm_cp (a0 b c : Nat → Int32) (n : Nat) : Prop := ∀ j : Nat, c j = if j < n then b j else a0 j
def mo_oi (np nw nt : Nat) (r i : Nat) : Prop := ((r ≤ 6 ∨ 14 ≤ r) ∧ np ≤ i) ∨ (7 ≤ r ∧ r ≤ 11 ∧ nw ≤ i) ∨ (r = 12 ∧ nt ≤ i) ∨ (r = 13 ∧ 1 ≤ i)
def mo_sm (np nw nt : Nat) (T X : Nat → Nat → Int32) : Prop := ∀ r i, mo_oi np nw nt r i → X r i = T r i
theorem mo_sm_rf (np nw nt : Nat) (T : Nat → Nat → Int32) : mo_sm np nw nt T T := fun _ _ _ => rfl
theorem mo_sm_tr {np nw nt : Nat} {T X Y : Nat → Nat → Int32} (h : mo_sm np nw nt T X) (h2 : mo_sm np nw nt X Y) : mo_sm np nw nt T Y := fun r i w => (h2 r i w).trans (h r i w)
theorem mo_sm_s {np nw nt : Nat} {T X : Nat → Nat → Int32} {r i : Nat} {v : Int32} (h : mo_sm np nw nt T X) (hn : ¬ mo_oi np nw nt r i) : mo_sm np nw nt T (mo_se X r i v) := fun r1 i1 w => by
  rw [mo_se_at, if_neg (fun q => hn (by rw [← q.1, ← q.2]; exact w))]
  exact h r1 i1 w
theorem mo_sm_fo {np nw nt : Nat} {f : (Nat → Nat → Int32) → Nat → (Nat → Nat → Int32)} {T : Nat → Nat → Int32} : ∀ n, (∀ X k, k < n → mo_sm np nw nt X (f X k)) → mo_sm np nw nt T (mo_fo f T n)
  | 0, _ => mo_sm_rf _ _ _ _
  | n + 1, h => mo_sm_tr (mo_sm_fo n (fun X k hk => h X k (by omega))) (h _ n (Nat.lt_succ_self n))
theorem mo_sm_ii {np nw nt : Nat} {c : Prop} {T X Y : Nat → Nat → Int32} (hx : mo_sm np nw nt T X) (hy : mo_sm np nw nt T Y) : mo_sm np nw nt T (mo_ii c X Y) := by
  by_cases q : c
  · rw [mo_ii_y q]; exact hx
  · rw [mo_ii_n q]; exact hy
theorem mo_sm_ar {np nw nt : Nat} {T : Nat → Nat → Int32} {p : Nat} {m : Int} (hp : p < np) : mo_sm np nw nt T (mo_ar T p m) := by
  unfold mo_ar
  split
  · exact mo_sm_s (mo_sm_rf _ _ _ _) (by unfold mo_oi; omega)
  · exact mo_sm_s (mo_sm_s (mo_sm_rf _ _ _ _) (by unfold mo_oi; omega)) (by unfold mo_oi; omega)
theorem mo_sm_so {np nw nt : Nat} {D : Nat → Nat → Int32} {G : Nat → Int} {T : Nat → Nat → Int32} {p b : Nat} {how t : Int32} {m : Int} (hp : p < np) : mo_sm np nw nt T (mo_so D G T p b how t m) := by
  have h0 : mo_sm np nw nt T (mo_ms0r D G T p b how t m) := by
    unfold mo_ms0r
    exact mo_sm_s (mo_sm_s (mo_sm_s (mo_sm_s (mo_sm_s (mo_sm_s (mo_sm_s (mo_sm_rf _ _ _ _) (by unfold mo_oi; omega)) (by unfold mo_oi; omega)) (by unfold mo_oi; omega)) (by unfold mo_oi; omega)) (by unfold mo_oi; omega)) (by unfold mo_oi; omega)) (by unfold mo_oi; omega)
  unfold mo_so
  split
  · exact mo_sm_tr h0 (mo_sm_ar hp)
  · exact h0
theorem mo_sm_mc {np nw nt : Nat} {D : Nat → Nat → Int32} {G : Nat → Int} {T : Nat → Nat → Int32} {p : Nat} {m na : Int} (hp : p < np) : mo_sm np nw nt T (mo_mc D G T p m na) := by
  unfold mo_mc mo_mg
  split
  · exact mo_sm_so hp
  · split
    · exact mo_sm_so hp
    · exact mo_sm_s (mo_sm_rf _ _ _ _) (by unfold mo_oi; omega)
theorem mo_sm_ml1 {np nw nt : Nat} {D : Nat → Nat → Int32} {G : Nat → Int} {T : Nat → Nat → Int32} {p : Nat} {m : Int} (hp : p < np) : mo_sm np nw nt T (mo_ml1 D G m T p) := by
  unfold mo_ml1
  split
  · exact mo_sm_tr (mo_sm_s (mo_sm_rf _ _ _ _) (by unfold mo_oi; omega)) (mo_sm_mc hp)
  · exact mo_sm_rf _ _ _ _
theorem mo_sm_mh1 {np nw nt : Nat} {D : Nat → Nat → Int32} {G : Nat → Int} {T : Nat → Nat → Int32} {p : Nat} {m : Int} (hp : p < np) : mo_sm np nw nt T (mo_mh1 D G m T p) := by
  unfold mo_mh1
  split
  · exact mo_sm_mc hp
  · split
    · exact mo_sm_ar hp
    · exact mo_sm_rf _ _ _ _
theorem mo_sm_ma1 {np nw nt : Nat} {D : Nat → Nat → Int32} {G : Nat → Int} {T : Nat → Nat → Int32} {p : Nat} {m : Int} (hp : p < np) : mo_sm np nw nt T (mo_ma1 D G m T p) := by
  unfold mo_ma1
  split
  · exact mo_sm_mc hp
  · exact mo_sm_rf _ _ _ _
theorem mo_sm_xl2 {np nw nt : Nat} {T : Nat → Nat → Int32} {w : Nat} {m : Int} (hw : w < nw) : mo_sm np nw nt T (mo_xl2 m T w) := by
  unfold mo_xl2
  split
  · exact mo_sm_s (mo_sm_rf _ _ _ _) (by unfold mo_oi; omega)
  · exact mo_sm_rf _ _ _ _
theorem mo_sm_ea {np nw nt : Nat} {D T X : Nat → Nat → Int32} {w : Nat} {fare : Int32} (hw : w < nw) (h : mo_sm np nw nt T X) : mo_sm np nw nt T (mo_ea D X w fare) := by
  unfold mo_ea
  split
  · exact mo_sm_s h (by unfold mo_oi; omega)
  · exact mo_sm_s h (by unfold mo_oi; omega)
theorem mo_sm_mbp {np nw nt : Nat} {D : Nat → Nat → Int32} {t : Nat} {fare : Int32} {seats : Int} {m9 : Nat} {x : (Nat → Nat → Int32) × Int} {p : Nat} (hw : mo_w D t < nw) (hp : p < np) : mo_sm np nw nt x.1 (mo_mbp D t fare seats m9 x p).1 := by
  unfold mo_mbp
  split
  · show mo_sm np nw nt x.1 (mo_mb1 D t fare x.1 p)
    unfold mo_mb1
    exact mo_sm_s (mo_sm_ea hw (mo_sm_s (mo_sm_rf _ _ _ _) (by unfold mo_oi; omega))) (by unfold mo_oi; omega)
  · exact mo_sm_rf _ _ _ _
theorem mo_sm_mbi {np nw nt : Nat} {D : Nat → Nat → Int32} {t : Nat} {fare : Int32} {seats : Int} {m9 : Nat} {x : (Nat → Nat → Int32) × Int} (hw : mo_w D t < nw) : ∀ n, n ≤ np → mo_sm np nw nt x.1 (mo_mbi D t fare seats m9 x n).1
  | 0, _ => mo_sm_rf _ _ _ _
  | n + 1, h => mo_sm_tr (mo_sm_mbi hw n (by omega)) (mo_sm_mbp hw (by omega))
theorem mo_sm_mbo {np nw nt : Nat} {D : Nat → Nat → Int32} {t : Nat} {fare : Int32} {seats : Int} {x : (Nat → Nat → Int32) × Int} (hw : mo_w D t < nw) : ∀ n, mo_sm np nw nt x.1 (mo_mbo D t fare seats np x n).1
  | 0 => mo_sm_rf _ _ _ _
  | n + 1 => mo_sm_tr (mo_sm_mbo hw n) (mo_sm_mbi hw np (Nat.le_refl _))
theorem mo_sm_mo {np nw nt : Nat} {D : Nat → Nat → Int32} {G : Nat → Int} {t : Nat} {m riders : Int} {held : Int32} {T X : Nat → Nat → Int32} (hw : mo_w D t < nw) (ht : t < nt) (h : mo_sm np nw nt T X) : mo_sm np nw nt T (mo_mo D G np t m riders held X) := by
  unfold mo_mo
  refine mo_sm_tr (mo_sm_s (mo_sm_s (mo_sm_s h (by unfold mo_oi; omega)) (by unfold mo_oi; omega)) (by unfold mo_oi; omega)) (mo_sm_fo np (fun Y k hk => ?_))
  unfold mo_mr1
  split
  · exact mo_sm_s (mo_sm_rf _ _ _ _) (by unfold mo_oi; omega)
  · exact mo_sm_rf _ _ _ _
theorem mo_sm_xp {np nw nt : Nat} {D T X : Nat → Nat → Int32} {w : Nat} {fine : Int32} (hw : w < nw) (h : mo_sm np nw nt T X) : mo_sm np nw nt T (mo_xp D w fine X) := by
  unfold mo_xp
  split
  · exact mo_sm_s h (by unfold mo_oi; omega)
  · exact mo_sm_s h (by unfold mo_oi; omega)
theorem mo_sm_mlv {np nw nt : Nat} {D : Nat → Nat → Int32} {G : Nat → Int} {A : Nat → Nat → Int → Int → Int32} {t : Nat} {m : Int} {T : Nat → Nat → Int32} (hw : mo_w D t < nw) (ht : t < nt) : mo_sm np nw nt T (mo_mlv D G A np t m T) := by
  have h2 : mo_sm np nw nt T (mo_se (mo_se T 12 t (-2)) 13 0 (T 13 0 - A t 5 0 (T 8 (mo_w D t)).toInt)) := mo_sm_s (mo_sm_s (mo_sm_rf _ _ _ _) (by unfold mo_oi; omega)) (by unfold mo_oi; omega)
  unfold mo_mlv
  refine mo_sm_ii (mo_sm_s (mo_sm_rf _ _ _ _) (by unfold mo_oi; omega)) ?_
  refine mo_sm_tr (mo_sm_tr h2 (mo_sm_mbo (x := (mo_se (mo_se T 12 t (-2)) 13 0 (T 13 0 - A t 5 0 (T 8 (mo_w D t)).toInt), 0)) (fare := A t 2 0 (T 8 (mo_w D t)).toInt) (seats := ((mo_seats D t : Nat) : Int)) hw 720)) ?_
  unfold mo_mg2
  refine mo_sm_ii (mo_sm_mo hw ht (mo_sm_rf _ _ _ _)) (mo_sm_ii (mo_sm_mo hw ht (mo_sm_xp hw (mo_sm_s (mo_sm_rf _ _ _ _) (by unfold mo_oi; omega)))) ?_)
  refine mo_sm_tr (mo_sm_s (mo_sm_s (mo_sm_rf _ _ _ _) (by unfold mo_oi; omega)) (by unfold mo_oi; omega)) (mo_sm_fo np (fun Y k hk => ?_))
  unfold mo_mq1
  split
  · exact mo_sm_s (mo_sm_rf _ _ _ _) (by unfold mo_oi; omega)
  · exact mo_sm_rf _ _ _ _
theorem mo_sm_mt1 {np nw nt : Nat} {D : Nat → Nat → Int32} {G : Nat → Int} {A : Nat → Nat → Int → Int → Int32} {t : Nat} {m : Int} {T : Nat → Nat → Int32} (hw : mo_w D t < nw) (ht : t < nt) : mo_sm np nw nt T (mo_mt1 D G A np m T t) := by
  unfold mo_mt1
  exact mo_sm_ii (mo_sm_mlv hw ht) (mo_sm_rf _ _ _ _)
theorem mo_sm_mph {np nw : Nat} {D : Nat → Nat → Int32} {G : Nat → Int} {A : Nat → Nat → Int → Int → Int32} {m : Int} {T : Nat → Nat → Int32} (hw : ∀ t, t < mo_nt D → mo_w D t < nw) : mo_sm np nw (mo_nt D) T (mo_mph D G A np nw m T) := by
  unfold mo_mph
  exact mo_sm_tr (mo_sm_tr (mo_sm_tr (mo_sm_tr (mo_sm_fo nw (fun X k hk => mo_sm_xl2 hk)) (mo_sm_fo np (fun X k hk => mo_sm_ml1 hk))) (mo_sm_fo np (fun X k hk => mo_sm_mh1 hk))) (mo_sm_fo (mo_nt D) (fun X k hk => mo_sm_mt1 (hw k hk) hk))) (mo_sm_fo np (fun X k hk => mo_sm_ma1 hk))
theorem mo_sm_md {np nw : Nat} {D : Nat → Nat → Int32} {G : Nat → Int} {A : Nat → Nat → Int → Int → Int32} {T : Nat → Nat → Int32} (hw : ∀ t, t < mo_nt D → mo_w D t < nw) : ∀ n, mo_sm np nw (mo_nt D) T (mo_md D G A np nw T n)
  | 0 => mo_sm_rf _ _ _ _
  | n + 1 => mo_sm_tr (mo_sm_md hw n) (mo_sm_mph hw)
theorem mo_sm_Ts {np nw nt : Nat} {D T : Nat → Nat → Int32} : mo_sm np nw nt T (mm_Ts D T np nw nt) := by
  unfold mm_Ts
  refine mo_sm_tr (mo_sm_tr (mo_sm_fo nw (fun X k hk => ?_)) (mo_sm_fo np (fun X k hk => ?_))) (mo_sm_fo nt (fun X k hk => ?_))
  · exact mo_sm_s (mo_sm_s (mo_sm_s (mo_sm_s (mo_sm_rf _ _ _ _) (by unfold mo_oi; omega)) (by unfold mo_oi; omega)) (by unfold mo_oi; omega)) (by unfold mo_oi; omega)
  · exact mo_sm_s (mo_sm_s (mo_sm_s (mo_sm_s (mo_sm_s (mo_sm_rf _ _ _ _) (by unfold mo_oi; omega)) (by unfold mo_oi; omega)) (by unfold mo_oi; omega)) (by unfold mo_oi; omega)) (by unfold mo_oi; omega)
  · exact mo_sm_s (mo_sm_rf _ _ _ _) (by unfold mo_oi; omega)
theorem mo_fo_ne {f : (Nat → Nat → Int32) → Nat → (Nat → Nat → Int32)} {P : Nat → Prop} (hne : ∀ X k r i, P r → i ≠ k → f X k r i = X r i) {T : Nat → Nat → Int32} {r : Nat} (hr : P r) : ∀ n i, n ≤ i → mo_fo f T n r i = T r i
  | 0, _, _ => rfl
  | n + 1, i, h => by
    show f (mo_fo f T n) n r i = T r i
    rw [hne _ n r i hr (by omega)]; exact mo_fo_ne hne hr n i (by omega)
theorem mo_fo_at {f : (Nat → Nat → Int32) → Nat → (Nat → Nat → Int32)} {P : Nat → Prop} (hne : ∀ X k r i, P r → i ≠ k → f X k r i = X r i) {T : Nat → Nat → Int32} {r : Nat} (hr : P r) : ∀ n i, i < n → mo_fo f T n r i = f (mo_fo f T i) i r i
  | 0, _, h => absurd h (Nat.not_lt_zero _)
  | n + 1, i, h => by
    show f (mo_fo f T n) n r i = _
    by_cases q : i = n
    · rw [q]
    · rw [hne _ n r i hr q]; exact mo_fo_at hne hr n i (by omega)
theorem mo_fo_row {f : (Nat → Nat → Int32) → Nat → (Nat → Nat → Int32)} {T : Nat → Nat → Int32} {r : Nat} (h : ∀ X k, f X k r = X r) : ∀ n, mo_fo f T n r = T r
  | 0 => rfl
  | n + 1 => (h _ n).trans (mo_fo_row h n)
theorem mo_fo_keep {f : (Nat → Nat → Int32) → Nat → (Nat → Nat → Int32)} {Q : (Nat → Nat → Int32) → Prop} (h : ∀ X k, Q X → Q (f X k)) {T : Nat → Nat → Int32} (h0 : Q T) : ∀ n, Q (mo_fo f T n)
  | 0 => h0
  | n + 1 => h _ n (mo_fo_keep h h0 n)
theorem mo_fo_get {f : (Nat → Nat → Int32) → Nat → (Nat → Nat → Int32)} {Q : (Nat → Nat → Int32) → Prop} (h : ∀ X k, Q X → Q (f X k)) {T : Nat → Nat → Int32} {i : Nat} (hi : ∀ X, Q (f X i)) : ∀ n, i < n → Q (mo_fo f T n)
  | 0, w => absurd w (Nat.not_lt_zero _)
  | n + 1, w => by
    show Q (f (mo_fo f T n) n)
    by_cases q : i = n
    · rw [← q]; exact hi _
    · exact h _ n (mo_fo_get h hi n (by omega))
theorem mm_Ts_p {D T : Nat → Nat → Int32} {np nw nt p r : Nat} (hp : p < np) (hr : r ≤ 6 ∨ 14 ≤ r) : mm_Ts D T np nw nt r p = if r = 6 then 0 else if r = 14 then D 0 p else if r = 2 then -1 else if r = 3 then 0 else if r = 4 then 0 else T r p := by
  have e1 : mm_Ts D T np nw nt r = mo_fo (mm_p0 D) (mo_fo (mm_w0 D) T nw) np r := mo_fo_row (fun X k => by unfold mm_k0; rw [mo_se_rw (by omega)]) nt
  have e2 : mo_fo (mm_w0 D) T nw r = T r := mo_fo_row (fun X k => by unfold mm_w0; rw [mo_se_rw (by omega), mo_se_rw (by omega), mo_se_rw (by omega), mo_se_rw (by omega)]) nw
  have hne : ∀ X k r i, True → i ≠ k → mm_p0 D X k r i = X r i := fun X k r i _ h => by unfold mm_p0; rw [mo_se_ne h, mo_se_ne h, mo_se_ne h, mo_se_ne h, mo_se_ne h]
  rw [e1, mo_fo_at (P := fun _ => True) hne trivial np p hp]
  have e3 : mo_fo (mm_p0 D) (mo_fo (mm_w0 D) T nw) p r p = T r p := by
    rw [mo_fo_ne (P := fun _ => True) hne trivial p p (Nat.le_refl _), e2]
  unfold mm_p0
  rw [mo_se_at, mo_se_at, mo_se_at, mo_se_at, mo_se_at]
  by_cases h6 : r = 6
  · subst h6; simp
  · by_cases h14 : r = 14
    · subst h14; simp
    · by_cases h2 : r = 2
      · subst h2; simp
      · by_cases h3 : r = 3
        · subst h3; simp
        · by_cases h4 : r = 4
          · subst h4; simp
          · rw [if_neg (fun w => h4 w.1), if_neg (fun w => h3 w.1), if_neg (fun w => h2 w.1), if_neg (fun w => h14 w.1), if_neg (fun w => h6 w.1), if_neg h6, if_neg h14, if_neg h2, if_neg h3, if_neg h4]
            exact e3
theorem mm_Ts_w {D T : Nat → Nat → Int32} {np nw nt w r : Nat} (hw : w < nw) (hr : 7 ≤ r ∧ r ≤ 11) : mm_Ts D T np nw nt r w = if r = 10 then D 8 w else if r = 11 then -1 else if r = 8 then 0 else if r = 9 then 0 else T r w := by
  have e1 : mm_Ts D T np nw nt r = mo_fo (mm_p0 D) (mo_fo (mm_w0 D) T nw) np r := mo_fo_row (fun X k => by unfold mm_k0; rw [mo_se_rw (by omega)]) nt
  have e2 : mo_fo (mm_p0 D) (mo_fo (mm_w0 D) T nw) np r = mo_fo (mm_w0 D) T nw r := mo_fo_row (fun X k => by unfold mm_p0; rw [mo_se_rw (by omega), mo_se_rw (by omega), mo_se_rw (by omega), mo_se_rw (by omega), mo_se_rw (by omega)]) np
  have hne : ∀ X k r i, True → i ≠ k → mm_w0 D X k r i = X r i := fun X k r i _ h => by unfold mm_w0; rw [mo_se_ne h, mo_se_ne h, mo_se_ne h, mo_se_ne h]
  rw [e1, e2, mo_fo_at (P := fun _ => True) hne trivial nw w hw]
  have e3 : mo_fo (mm_w0 D) T w r w = T r w := mo_fo_ne (P := fun _ => True) hne trivial w w (Nat.le_refl _)
  unfold mm_w0
  rw [mo_se_at, mo_se_at, mo_se_at, mo_se_at]
  by_cases h10 : r = 10
  · subst h10; simp
  · by_cases h11 : r = 11
    · subst h11; simp
    · by_cases h8 : r = 8
      · subst h8; simp
      · by_cases h9 : r = 9
        · subst h9; simp
        · rw [if_neg (fun w => h9 w.1), if_neg (fun w => h8 w.1), if_neg (fun w => h11 w.1), if_neg (fun w => h10 w.1), if_neg h10, if_neg h11, if_neg h8, if_neg h9]
          exact e3
theorem mm_Ts_k {D T : Nat → Nat → Int32} {np nw nt k : Nat} (hk : k < nt) : mm_Ts D T np nw nt 12 k = -1 := by
  have hne : ∀ X k r i, True → i ≠ k → mm_k0 X k r i = X r i := fun X k r i _ h => by unfold mm_k0; rw [mo_se_ne h]
  unfold mm_Ts
  rw [mo_fo_at (P := fun _ => True) hne trivial nt k hk]
  unfold mm_k0
  exact mo_se_pp
theorem mm_Ts_13 {D T : Nat → Nat → Int32} {np nw nt : Nat} : mm_Ts D T np nw nt 13 = T 13 := by
  unfold mm_Ts
  rw [mo_fo_row (fun X k => by unfold mm_k0; rw [mo_se_rw (by decide)]) nt, mo_fo_row (fun X k => by unfold mm_p0; rw [mo_se_rw (by decide), mo_se_rw (by decide), mo_se_rw (by decide), mo_se_rw (by decide), mo_se_rw (by decide)]) np, mo_fo_row (fun X k => by unfold mm_w0; rw [mo_se_rw (by decide), mo_se_rw (by decide), mo_se_rw (by decide), mo_se_rw (by decide)]) nw]
theorem mo_rt0_row {D X : Nat → Nat → Int32} {k r : Nat} (h12 : r ≠ 12) (h14 : r ≠ 14) : mo_rt0 D X k r = X r := by
  unfold mo_rt0
  by_cases q : mo_gt D k
  · rw [mo_ii_y q, mo_mk_row h14, mo_se_rw h12]
  · rw [mo_ii_n q, mo_se_rw h12]
theorem mo_st_p {D ar S : Nat → Nat → Int32} {np nw p r : Nat} (hp : p < np) (hr : r ≤ 6) : mo_st D ar np nw S r p = if r = 0 then ar 13 p else if r = 1 then ar 12 p else if r = 2 then -1 else if r = 3 then 0 else if r = 4 then 0 else if r = 5 then -1 else -1 := by
  have e1 : mo_st D ar np nw S r = mo_fo (mo_rw0 D (ar 24)) (mo_fo (mo_rp0 D (ar 13) (ar 12)) S np) nw r := mo_fo_row (fun X k => mo_rt0_row (by omega) (by omega)) _
  have e2 : mo_fo (mo_rw0 D (ar 24)) (mo_fo (mo_rp0 D (ar 13) (ar 12)) S np) nw r = mo_fo (mo_rp0 D (ar 13) (ar 12)) S np r := mo_fo_row (fun X k => by unfold mo_rw0; rw [mo_se_rw (by omega), mo_se_rw (by omega), mo_se_rw (by omega), mo_se_rw (by omega), mo_se_rw (by omega)]) nw
  have hne : ∀ X k r i, r ≠ 14 → i ≠ k → mo_rp0 D (ar 13) (ar 12) X k r i = X r i := fun X k r i h4 h => by unfold mo_rp0; rw [mo_mk_row h4, mo_se_ne h, mo_se_ne h, mo_se_ne h, mo_se_ne h, mo_se_ne h, mo_se_ne h, mo_se_ne h]
  rw [e1, e2, mo_fo_at (P := fun r => r ≠ 14) hne (by omega) np p hp]
  unfold mo_rp0
  rw [mo_mk_row (by omega), mo_se_at, mo_se_at, mo_se_at, mo_se_at, mo_se_at, mo_se_at, mo_se_at]
  have h : r = 0 ∨ r = 1 ∨ r = 2 ∨ r = 3 ∨ r = 4 ∨ r = 5 ∨ r = 6 := by omega
  rcases h with h | h | h | h | h | h | h <;> subst h <;> simp
theorem mo_st_w {D ar S : Nat → Nat → Int32} {np nw w r : Nat} (hw : w < nw) (hr : 7 ≤ r ∧ r ≤ 11) : mo_st D ar np nw S r w = if r = 7 then ar 24 w else if r = 8 then 0 else if r = 9 then 0 else if r = 10 then D 8 w else -1 := by
  have e1 : mo_st D ar np nw S r = mo_fo (mo_rw0 D (ar 24)) (mo_fo (mo_rp0 D (ar 13) (ar 12)) S np) nw r := mo_fo_row (fun X k => mo_rt0_row (by omega) (by omega)) _
  have hne : ∀ X k r i, True → i ≠ k → mo_rw0 D (ar 24) X k r i = X r i := fun X k r i _ h => by unfold mo_rw0; rw [mo_se_ne h, mo_se_ne h, mo_se_ne h, mo_se_ne h, mo_se_ne h]
  rw [e1, mo_fo_at (P := fun _ => True) hne trivial nw w hw]
  unfold mo_rw0
  rw [mo_se_at, mo_se_at, mo_se_at, mo_se_at, mo_se_at]
  have h : r = 7 ∨ r = 8 ∨ r = 9 ∨ r = 10 ∨ r = 11 := by omega
  rcases h with h | h | h | h | h <;> subst h <;> simp
theorem mo_st_k {D ar S : Nat → Nat → Int32} {np nw k : Nat} (hk : k < mo_nt D) : mo_st D ar np nw S 12 k = -1 := by
  have hne : ∀ X k r i, r = 12 → i ≠ k → mo_rt0 D X k r i = X r i := fun X k r i h4 h => by
    subst h4
    unfold mo_rt0
    by_cases q : mo_gt D k
    · rw [mo_ii_y q, mo_mk_row (by decide), mo_se_ne h]
    · rw [mo_ii_n q, mo_se_ne h]
  unfold mo_st
  rw [mo_fo_at (P := fun r => r = 12) hne rfl _ k hk]
  unfold mo_rt0
  by_cases q : mo_gt D k
  · rw [mo_ii_y q, mo_mk_row (by decide)]; exact mo_se_pp
  · rw [mo_ii_n q]; exact mo_se_pp
theorem mo_st_13 {D ar S : Nat → Nat → Int32} {np nw : Nat} : mo_st D ar np nw S 13 = S 13 := by
  unfold mo_st
  rw [mo_fo_row (fun X k => mo_rt0_row (by decide) (by decide)), mo_fo_row (fun X k => by unfold mo_rw0; rw [mo_se_rw (by decide), mo_se_rw (by decide), mo_se_rw (by decide), mo_se_rw (by decide), mo_se_rw (by decide)]) nw, mo_fo_row (fun X k => by unfold mo_rp0; rw [mo_mk_row (by decide), mo_se_rw (by decide), mo_se_rw (by decide), mo_se_rw (by decide), mo_se_rw (by decide), mo_se_rw (by decide), mo_se_rw (by decide), mo_se_rw (by decide)]) np]
theorem mo_st_bz {D ar S : Nat → Nat → Int32} {np nw : Nat} (hR : mo_R D) (hL : ∀ p, p < np → 0 ≤ (D 2 p).toInt ∧ (D 2 p).toInt < 840) : mo_Bz D (mo_st D ar np nw S) np := by
  have k1 : ∀ i X k, (X 14 i).toInt ≠ 0 → (mo_rt0 D X k 14 i).toInt ≠ 0 := fun i X k h => by
    unfold mo_rt0
    by_cases q : mo_gt D k
    · rw [mo_ii_y q]; exact mo_mk_up (by rw [mo_se_rw (by decide)]; exact h)
    · rw [mo_ii_n q, mo_se_rw (by decide)]; exact h
  have k2 : ∀ i X k, (X 14 i).toInt ≠ 0 → (mo_rw0 D (ar 24) X k 14 i).toInt ≠ 0 := fun i X k h => by
    unfold mo_rw0
    rw [mo_se_rw (by decide), mo_se_rw (by decide), mo_se_rw (by decide), mo_se_rw (by decide), mo_se_rw (by decide)]; exact h
  have k3 : ∀ i X k, (X 14 i).toInt ≠ 0 → (mo_rp0 D (ar 13) (ar 12) X k 14 i).toInt ≠ 0 := fun i X k h => by
    unfold mo_rp0
    exact mo_mk_up (by rw [mo_se_rw (by decide), mo_se_rw (by decide), mo_se_rw (by decide), mo_se_rw (by decide), mo_se_rw (by decide), mo_se_rw (by decide), mo_se_rw (by decide)]; exact h)
  refine ⟨fun p hp => ?_, fun k hk hg => ?_⟩
  · unfold mo_st
    refine mo_fo_keep (Q := fun X => (X 14 (D 2 p).toInt.toNat).toInt ≠ 0) (k1 _) (mo_fo_keep (Q := fun X => (X 14 (D 2 p).toInt.toNat).toInt ≠ 0) (k2 _) (mo_fo_get (Q := fun X => (X 14 (D 2 p).toInt.toNat).toInt ≠ 0) (k3 _) (i := p) (fun X => ?_) np hp) nw) _
    unfold mo_rp0
    exact mo_mk_on (hL p hp).1 (hL p hp).2
  · unfold mo_st
    have h9 := hR.2.2.1 k
    refine mo_fo_get (Q := fun X => (X 14 (D 14 k).toInt.toNat).toInt ≠ 0) (k1 _) (i := k) (fun X => ?_) _ hk
    unfold mo_rt0
    rw [mo_ii_y hg]
    exact mo_mk_on h9.1 (by omega)
theorem mo_Q0 {D ar S T : Nat → Nat → Int32} {G : Nat → Int} {np nw : Nat} (hR : mo_R D) (hL : ∀ p, p < np → 0 ≤ (D 2 p).toInt ∧ (D 2 p).toInt < 840) (hP : ∀ p, p < np → ar 13 p = T 0 p ∧ ar 12 p = T 1 p ∧ T 16 p = D 6 p ∧ (0 ≤ (T 1 p).toInt ∧ (T 1 p).toInt ≤ 9) ∧ (0 ≤ (D 6 p).toInt ∧ (D 6 p).toInt ≤ 1000000000)) (hW : ∀ w, w < nw → ar 24 w = T 7 w) (hF : S 13 0 = T 13 0) : mo_Q D G np nw 0 0 (mo_st D ar np nw S) (mm_Ts D T np nw (mo_nt D)) := by
  refine ⟨fun p hp => ⟨?_, Or.inl ?_⟩, fun w hw => ⟨fun r h7 h11 => ?_, Or.inl ?_, Or.inl ?_⟩, fun k hk => ?_, ?_, mo_st_bz hR hL⟩
  · obtain ⟨a0, a1, a2, a3, a4⟩ := hP p hp
    have s0 := mo_st_p (D := D) (ar := ar) (S := S) (nw := nw) (r := 0) hp (by decide)
    have s1 := mo_st_p (D := D) (ar := ar) (S := S) (nw := nw) (r := 1) hp (by decide)
    have s3 := mo_st_p (D := D) (ar := ar) (S := S) (nw := nw) (r := 3) hp (by decide)
    have s4 := mo_st_p (D := D) (ar := ar) (S := S) (nw := nw) (r := 4) hp (by decide)
    have t0 := mm_Ts_p (D := D) (T := T) (nw := nw) (nt := mo_nt D) (r := 0) hp (by decide)
    have t1 := mm_Ts_p (D := D) (T := T) (nw := nw) (nt := mo_nt D) (r := 1) hp (by decide)
    have t3 := mm_Ts_p (D := D) (T := T) (nw := nw) (nt := mo_nt D) (r := 3) hp (by decide)
    have t4 := mm_Ts_p (D := D) (T := T) (nw := nw) (nt := mo_nt D) (r := 4) hp (by decide)
    have t16 := mm_Ts_p (D := D) (T := T) (nw := nw) (nt := mo_nt D) (r := 16) hp (by decide)
    simp at s0 s1 s3 s4 t0 t1 t3 t4 t16
    unfold mo_ok
    rw [s0, s1, s3, s4, t0, t1, t3, t4, t16]
    have z : (0 : Int32).toInt = 0 := by decide
    refine ⟨a0, a1, rfl, rfl, ?_, ?_, ?_, a4⟩
    · rw [a2]; exact (Int32.add_zero _).symm
    · rw [a1]; exact a3
    · omega
  · have s5 := mo_st_p (D := D) (ar := ar) (S := S) (nw := nw) (r := 5) hp (by decide)
    have s6 := mo_st_p (D := D) (ar := ar) (S := S) (nw := nw) (r := 6) hp (by decide)
    have s2 := mo_st_p (D := D) (ar := ar) (S := S) (nw := nw) (r := 2) hp (by decide)
    have t6 := mm_Ts_p (D := D) (T := T) (nw := nw) (nt := mo_nt D) (r := 6) hp (by decide)
    have t2 := mm_Ts_p (D := D) (T := T) (nw := nw) (nt := mo_nt D) (r := 2) hp (by decide)
    have t14 := mm_Ts_p (D := D) (T := T) (nw := nw) (nt := mo_nt D) (r := 14) hp (by decide)
    simp at s2 s5 s6 t2 t6 t14
    rw [s2, s5, s6, t2, t6, t14]
    exact ⟨by decide, by decide, by decide, by decide, by decide, rfl, (hL p hp).1⟩
  · have s := mo_st_w (D := D) (ar := ar) (S := S) (np := np) hw ⟨h7, h11⟩
    have t := mm_Ts_w (D := D) (T := T) (np := np) (nt := mo_nt D) hw ⟨h7, h11⟩
    rw [s, t]
    have h : r = 7 ∨ r = 8 ∨ r = 9 ∨ r = 10 ∨ r = 11 := by omega
    rcases h with h | h | h | h | h <;> subst h <;> simp
    exact hW w hw
  · have s := mo_st_w (D := D) (ar := ar) (S := S) (np := np) (r := 9) hw (by decide)
    rw [s, if_neg (by decide), if_neg (by decide), if_pos rfl]; decide
  · have s := mo_st_w (D := D) (ar := ar) (S := S) (np := np) (r := 11) hw (by decide)
    rw [s, if_neg (by decide), if_neg (by decide), if_neg (by decide), if_neg (by decide)]; decide
  · rw [mo_st_k hk, mm_Ts_k hk]
  · rw [mo_st_13, mm_Ts_13]; exact hF
theorem mo_all {D ar S T : Nat → Nat → Int32} {G : Nat → Int} {A : Nat → Nat → Int → Int → Int32} {np nw : Nat} (hR : mo_R D) (hG : mo_GR G) (hA : mo_HA D A) (hnt : (mo_nt D : Int) ≤ 80) (hwh : mo_wh D) (hnw : (D 19 1).toInt = (nw : Int)) (hL : ∀ p, p < np → 0 ≤ (D 2 p).toInt ∧ (D 2 p).toInt < 840) (hP : ∀ p, p < np → ar 13 p = T 0 p ∧ ar 12 p = T 1 p ∧ T 16 p = D 6 p ∧ (0 ≤ (T 1 p).toInt ∧ (T 1 p).toInt ≤ 9) ∧ (0 ≤ (D 6 p).toInt ∧ (D 6 p).toInt ≤ 1000000000)) (hW : ∀ w, w < nw → ar 24 w = T 7 w) (hF : S 13 0 = T 13 0) {SE TE : Nat → Nat → Int32} (hS : SE = mo_xd D G A np nw (mo_st D ar np nw S) 840) (hT : TE = mo_md D G A np nw (mm_Ts D T np nw (mo_nt D)) 840) : (∀ p, p < np → SE 0 p = TE 0 p ∧ SE 1 p = TE 1 p ∧ SE 2 p = TE 2 p ∧ SE 3 p = TE 3 p ∧ SE 4 p = TE 4 p ∧ TE 16 p = D 6 p + SE 3 p) ∧ (∀ w, w < nw → ∀ r, 7 ≤ r → r ≤ 11 → SE r w = TE r w) ∧ (∀ k, k < mo_nt D → SE 12 k = TE 12 k) ∧ SE 13 0 = TE 13 0 ∧ mo_ot D SE np = mo_ot D TE np ∧ mo_sm np nw (mo_nt D) T TE ∧ (∀ p, p < np → (0 ≤ (TE 1 p).toInt ∧ (TE 1 p).toInt ≤ 9) ∧ 0 ≤ (SE 3 p).toInt ∧ (SE 3 p).toInt ≤ 2744280) := by
  have hQ := mo_day (A := A) hR hG hA hnt hwh hnw (mo_Q0 (G := G) hR hL hP hW hF) 840 (Nat.le_refl _)
  rw [show mo_xd D G A np nw (mo_st D ar np nw S) 840 = SE from hS.symm, show mo_md D G A np nw (mm_Ts D T np nw (mo_nt D)) 840 = TE from hT.symm] at hQ
  have hw : ∀ t, t < mo_nt D → mo_w D t < nw := fun t ht => by have := hwh t ht; unfold mo_w; omega
  have he : ∀ p, p < np → SE 0 p = TE 0 p ∧ SE 1 p = TE 1 p ∧ SE 2 p = TE 2 p ∧ SE 3 p = TE 3 p ∧ SE 4 p = TE 4 p ∧ TE 16 p = D 6 p + SE 3 p := fun p hp => mo_end hQ hp
  refine ⟨he, fun w hw r h7 h11 => (hQ.2.1 w hw).1 r h7 h11, hQ.2.2.1, hQ.2.2.2.1, ?_, ?_, fun p hp => ?_⟩
  · have key : ∀ n, n ≤ np → mo_ot D SE n = mo_ot D TE n := by
      intro n
      induction n with
      | zero => intro _; rfl
      | succ n ih =>
        intro hn
        show (if (SE 2 n).toInt ≠ -1 ∧ (SE 2 n).toInt ≤ (D 3 n).toInt then mo_ot D SE n + 1 else mo_ot D SE n) = (if (TE 2 n).toInt ≠ -1 ∧ (TE 2 n).toInt ≤ (D 3 n).toInt then mo_ot D TE n + 1 else mo_ot D TE n)
        rw [(he n (by omega)).2.2.1, ih (by omega)]
    exact key np (Nat.le_refl _)
  · rw [hT]; exact mo_sm_tr mo_sm_Ts (mo_sm_md hw 840)
  · have h9 := (hQ.1 p hp).1
    unfold mo_ok at h9
    obtain ⟨_, a1, _, _, _, a5, a6, _⟩ := h9
    rw [a1] at a5
    exact ⟨a5, a6.1, by omega⟩
def wt_rv (r : Int32) (g1 g : Nat → Int32) (n : Int32) (x : Int) : Prop := (r.toInt < 0 ∧ g1 = g) ∨ (0 ≤ r.toInt ∧ ∃ v : Int32, v.toInt = x ∧ g1 = upd g n.toInt.toNat v)
theorem wt_rv_det {r : Int32} {g1 g2 g : Nat → Int32} {n : Int32} {x : Int} (h1 : wt_rv r g1 g n x) (h2 : wt_rv r g2 g n x) : g1 = g2 := by
  rcases h1 with ⟨a9, b9⟩ | ⟨a9, v9, c9, b9⟩ <;> rcases h2 with ⟨a8, b8⟩ | ⟨a8, v8, c8, b8⟩
  · exact b9.trans b8.symm
  · omega
  · omega
  · rw [b9, b8, Int32.toInt_inj.mp (c9.trans c8.symm)]
def ps_give (r f1 fx v : Int32) : Prop := (r = -1 ∧ f1 = fx ∧ (v.toInt < 1 ∨ 100000 < v.toInt)) ∨ (r = f1 ∧ f1 = mo_cut (fx + v) ∧ ¬ (v.toInt < 1 ∨ 100000 < v.toInt))
theorem ps_give_det {r r2 f1 g1 fx v : Int32} (h1 : ps_give r f1 fx v) (h2 : ps_give r2 g1 fx v) : r = r2 ∧ f1 = g1 := by
  rcases h1 with ⟨a9, b9, c9⟩ | ⟨a9, b9, c9⟩ <;> rcases h2 with ⟨a8, b8, c8⟩ | ⟨a8, b8, c8⟩
  · exact ⟨a9.trans a8.symm, b9.trans b8.symm⟩
  · exact absurd c9 c8
  · exact absurd c8 c9
  · exact ⟨by rw [a9, a8, b9, b8], b9.trans b8.symm⟩
def mo_w4 (c : Int) (v0 v1 v2 v3 : Int32) : Int32 := if c = 0 then v0 else if c = 1 then v1 else if c = 2 then v2 else if c = 3 then v3 else -1
def mo_c8 (c : Int) (v0 v1 v2 v3 v4 v5 v6 v7 : Int32) : Int32 := if c = 0 then v0 else if c = 1 then v1 else if c = 2 then v2 else if c = 3 then v3 else if c = 4 then v4 else if c = 5 then v5 else if c = 6 then v6 else if c = 7 then v7 else -1
def mo_o7 (c : Int) (v0 v1 v2 v3 v4 v5 v6 : Int32) : Int32 := if c = 0 then v0 else if c = 1 then v1 else if c = 2 then v2 else if c = 3 then v3 else if c = 4 then v4 else if c = 5 then v5 else v6
def cd_vl (l : Int × Int × List (Nat × Nat × Int)) : Prop := (l.1 = 1 → l.2.1 = 0 ∨ l.2.1 = 1) ∧ (l.1 = 3 → 0 ≤ l.2.1 ∧ l.2.1 ≤ 2000) ∧ (l.1 = 6 → l.2.2 = [])
theorem rd_ln_ok {T : Nat → Nat} {N : Nat → Int} {p o ln : Nat} {dk : Bool} (h : (rd_ln T N p o ln dk).1 = 0) : T p < 7 ∧ ¬ (T p = 6 ∧ dk = true) ∧ (T p < 2 ∨ (T (p + 1) = 29 ∧ N (p + 1) ≤ 2000)) := by
  unfold rd_ln at h
  by_cases h1 : ¬ T p < 7
  · rw [if_pos h1] at h; cases h
  rw [if_neg h1] at h
  by_cases h2 : 16 ≤ ln ∨ (T p = 6 ∧ dk = true)
  · rw [if_pos h2] at h; cases h
  rw [if_neg h2] at h
  refine ⟨by omega, fun w => h2 (Or.inr w), ?_⟩
  by_cases h3 : T p < 2
  · exact Or.inl h3
  rw [if_neg h3] at h
  by_cases h4 : T (p + 1) = 29 ∧ 2000 < N (p + 1)
  · rw [if_pos h4] at h; cases h
  rw [if_neg h4] at h
  by_cases h5 : ¬ T (p + 1) = 29
  · rw [if_pos h5] at h; cases h
  · exact Or.inr (by omega)
theorem cd_line_vl {T : Nat → Nat} {N : Nat → Int} {p o ln : Nat} {dk : Bool} (hN : ∀ q, T q = 29 → 0 ≤ N q) (h : (rd_ln T N p o ln dk).1 = 0) : cd_vl (cd_line T N p) := by
  obtain ⟨h1, _, h3⟩ := rd_ln_ok h
  refine ⟨fun w => ?_, fun w => ?_, fun w => ?_⟩
  · have w1 : (T p : Int) = 1 := w
    show cd_v0 T N p = 0 ∨ cd_v0 T N p = 1
    unfold cd_v0
    rw [if_pos (by omega)]
    split
    · exact Or.inl rfl
    · exact Or.inr rfl
  · have w1 : (T p : Int) = 3 := w
    show 0 ≤ cd_v0 T N p ∧ cd_v0 T N p ≤ 2000
    unfold cd_v0
    rw [if_neg (by omega)]
    rcases h3 with h3 | h3
    · omega
    · exact ⟨hN _ h3.1, h3.2⟩
  · have w1 : (T p : Int) = 6 := w
    show cd_c0 T N (T p) (cd_q0 T p) = []
    unfold cd_c0
    exact if_neg (fun z => z.1 (by omega))
theorem cd_tt_vl {T : Nat → Nat} {N : Nat → Int} (hN : ∀ q, T q = 29 → 0 ≤ N q) : ∀ f p o ln dk, ∀ l ∈ cd_tt T N f p o ln dk, cd_vl l := by
  intro f
  induction f with
  | zero => intro p o ln dk l hl; exact absurd hl List.not_mem_nil
  | succ f ih =>
    intro p o ln dk l hl
    have e : cd_tt T N (f + 1) p o ln dk = if T p = 30 then [] else if (rd_ln T N p o ln dk).1 = 0 then cd_line T N p :: cd_tt T N f (rd_ln T N p o ln dk).2.1 (rd_ln T N p o ln dk).2.2 (ln + 1) (dk || decide (T p = 6)) else [] := rfl
    rw [e] at hl
    by_cases h1 : T p = 30
    · rw [if_pos h1] at hl; exact absurd hl List.not_mem_nil
    rw [if_neg h1] at hl
    by_cases h2 : (rd_ln T N p o ln dk).1 = 0
    · rw [if_pos h2] at hl
      rcases List.mem_cons.mp hl with w | w
      · rw [w]; exact cd_line_vl hN h2
      · exact ih _ _ _ _ l w
    · rw [if_neg h2] at hl; exact absurd hl List.not_mem_nil
theorem cd_txt_vl {T : Nat → Nat} {N : Nat → Int} (hN : ∀ q, T q = 29 → 0 ≤ N q) : ∀ l ∈ cd_txt T N, cd_vl l := cd_tt_vl hN 400 0 0 0 false
theorem cd_tt_6 {T : Nat → Nat} {N : Nat → Int} : ∀ f p o ln, ∀ l ∈ cd_tt T N f p o ln true, ¬ l.1 = 6 := by
  intro f
  induction f with
  | zero => intro p o ln l hl; exact absurd hl List.not_mem_nil
  | succ f ih =>
    intro p o ln l hl
    have e : cd_tt T N (f + 1) p o ln true = if T p = 30 then [] else if (rd_ln T N p o ln true).1 = 0 then cd_line T N p :: cd_tt T N f (rd_ln T N p o ln true).2.1 (rd_ln T N p o ln true).2.2 (ln + 1) (true || decide (T p = 6)) else [] := rfl
    rw [e] at hl
    by_cases h1 : T p = 30
    · rw [if_pos h1] at hl; exact absurd hl List.not_mem_nil
    rw [if_neg h1] at hl
    by_cases h2 : (rd_ln T N p o ln true).1 = 0
    · rw [if_pos h2] at hl
      rcases List.mem_cons.mp hl with w | w
      · have h3 := (rd_ln_ok h2).2.1
        rw [w]
        intro z
        have z1 : (T p : Int) = 6 := z
        exact h3 ⟨by omega, rfl⟩
      · rw [Bool.true_or] at w
        exact ih _ _ _ l w
    · rw [if_neg h2] at hl; exact absurd hl List.not_mem_nil
theorem cd_no6 {F : Nat → Int} : ∀ (W : List (Int × Int × List (Nat × Nat × Int))) (d : Int), (∀ l ∈ W, ¬ l.1 = 6) → W.foldl (fun d x => cd_dx x.1 x.2.1 d) d = d ∧ cd_fv F 6 W = 0
  | [], _, _ => ⟨rfl, rfl⟩
  | x :: r, d, h => by
    have hx : ¬ x.1 = 6 := h x (List.mem_cons_self ..)
    have ih := cd_no6 (F := F) r d (fun l hl => h l (List.mem_cons_of_mem _ hl))
    refine ⟨?_, ?_⟩
    · show r.foldl (fun d x => cd_dx x.1 x.2.1 d) (cd_dx x.1 x.2.1 d) = d
      rw [show cd_dx x.1 x.2.1 d = d from by unfold cd_dx; rw [if_neg hx]]
      exact ih.1
    · show (if x.1 = 6 ∧ cd_ho F x.2.2 = true then x.2.1 else cd_fv F 6 r) = 0
      rw [if_neg (fun w => hx w.1)]; exact ih.2
theorem cd_tt_dk {T : Nat → Nat} {N : Nat → Int} {F : Nat → Int} : ∀ f p o ln dk, cd_fv F 6 (cd_tt T N f p o ln dk) = (cd_tt T N f p o ln dk).foldl (fun d x => cd_dx x.1 x.2.1 d) 0 := by
  intro f
  induction f with
  | zero => intro p o ln dk; rfl
  | succ f ih =>
    intro p o ln dk
    have e : cd_tt T N (f + 1) p o ln dk = if T p = 30 then [] else if (rd_ln T N p o ln dk).1 = 0 then cd_line T N p :: cd_tt T N f (rd_ln T N p o ln dk).2.1 (rd_ln T N p o ln dk).2.2 (ln + 1) (dk || decide (T p = 6)) else [] := rfl
    rw [e]
    by_cases h1 : T p = 30
    · rw [if_pos h1]; rfl
    rw [if_neg h1]
    by_cases h2 : (rd_ln T N p o ln dk).1 = 0
    · rw [if_pos h2]
      show (if (cd_line T N p).1 = 6 ∧ cd_ho F (cd_line T N p).2.2 = true then (cd_line T N p).2.1 else cd_fv F 6 (cd_tt T N f (rd_ln T N p o ln dk).2.1 (rd_ln T N p o ln dk).2.2 (ln + 1) (dk || decide (T p = 6)))) = (cd_tt T N f (rd_ln T N p o ln dk).2.1 (rd_ln T N p o ln dk).2.2 (ln + 1) (dk || decide (T p = 6))).foldl (fun d x => cd_dx x.1 x.2.1 d) (cd_dx (cd_line T N p).1 (cd_line T N p).2.1 0)
      by_cases h6 : T p = 6
      · have k6 : (cd_line T N p).1 = 6 := by show (T p : Int) = 6; omega
        have kc : (cd_line T N p).2.2 = [] := by
          show cd_c0 T N (T p) (cd_q0 T p) = []
          unfold cd_c0
          exact if_neg (fun z => z.1 h6)
        rw [if_pos ⟨k6, by rw [kc]; rfl⟩, show (dk || decide (T p = 6)) = true from by rw [decide_eq_true h6, Bool.or_true], (cd_no6 (F := F) _ _ (cd_tt_6 f _ _ _)).1]
        unfold cd_dx; rw [if_pos k6]
      · have k6 : ¬ (cd_line T N p).1 = 6 := by intro z; have z1 : (T p : Int) = 6 := z; omega
        rw [if_neg (fun w => k6 w.1), show cd_dx (cd_line T N p).1 (cd_line T N p).2.1 0 = 0 from by unfold cd_dx; rw [if_neg k6]]
        exact ih _ _ _ _
    · rw [if_neg h2]; rfl
theorem cd_txt_dk {T : Nat → Nat} {N : Nat → Int} (F : Nat → Int) : cd_fv F 6 (cd_txt T N) = cd_dk (cd_txt T N) := cd_tt_dk 400 0 0 0 false
theorem mo_A3 {W : List (Int × Int × List (Nat × Nat × Int))} (h : ∀ l ∈ W, cd_vl l) (D : Nat → Nat → Int32) (t : Nat) (n ti : Int) : 0 ≤ (mo_A D W t 3 n ti).toInt ∧ (mo_A D W t 3 n ti).toInt ≤ 2000 := by
  have key : ∀ F tx, 0 ≤ cd_av F 3 tx W ∧ cd_av F 3 tx W ≤ 2000 := by
    intro F tx
    unfold cd_av
    by_cases q : cd_al F 3 tx W = -1
    · rw [if_pos q]; unfold cd_pl; simp
    · rw [if_neg q]
      exact cd_fv_in (P := fun z => 0 ≤ z ∧ z ≤ 2000) ⟨Int.le_refl _, by decide⟩ _ (fun l hl => (h l hl).2.1)
  have h9 := key (cd_fc (D 7 (D 11 t).toInt.toNat).toInt (D 10 (D 11 t).toInt.toNat).toInt (D 9 (D 11 t).toInt.toNat).toInt (D 19 4).toInt (D 14 t).toInt (D 19 3).toInt (D 12 t).toInt (D 13 t).toInt (cd_ri ((3 : Nat) : Int) n) ti) (decide ((D 7 (D 11 t).toInt.toNat).toInt = 2))
  have e : (mo_A D W t 3 n ti).toInt = cd_av (cd_fc (D 7 (D 11 t).toInt.toNat).toInt (D 10 (D 11 t).toInt.toNat).toInt (D 9 (D 11 t).toInt.toNat).toInt (D 19 4).toInt (D 14 t).toInt (D 19 3).toInt (D 12 t).toInt (D 13 t).toInt (cd_ri ((3 : Nat) : Int) n) ti) 3 (decide ((D 7 (D 11 t).toInt.toNat).toInt = 2)) W := by
    unfold mo_A
    exact mo_i32 (by show -2147483648 ≤ cd_av _ 3 _ W; omega) (by show cd_av _ 3 _ W ≤ 2147483647; omega)
  rw [e]; exact h9
theorem rd_nb_nn (b : Nat → Int) (a : Nat) : ∀ m, 0 ≤ rd_nb b a m
  | 0 => Int.le_refl _
  | m + 1 => by
    have h := rd_nb_nn b a m
    show 0 ≤ rd_nb b a m * 10 + (if rd_d (b (a + m)) = true then b (a + m) - 48 else 0)
    by_cases q : rd_d (b (a + m)) = true
    · rw [if_pos q]
      unfold rd_d at q
      have q2 := of_decide_eq_true q
      omega
    · rw [if_neg q]; omega
theorem rd_N_nn (b : Nat → Int) (n k : Nat) : 0 ≤ rd_N b n k := rd_nb_nn _ _ _
theorem mx_D_20 {f : Nat → Int32} {a : Nat → Nat → Int32} {j : Nat} (h : 20 ≤ j) : mx_D f a j = fun _ => 0 := by
  unfold mx_D
  split <;> first
    | omega
    | rfl
theorem mm_D_20 {w : Nat → Int32} {f : Nat → Int32} {a : Nat → Nat → Int32} {j : Nat} (h : 20 ≤ j) : mm_D w f a j = fun _ => 0 := by
  unfold mm_D
  split <;> first
    | omega
    | rfl
theorem mx_D_6 {f : Nat → Int32} {a : Nat → Nat → Int32} (k : Nat) : mx_D f a 19 (k + 6) = 0 := rfl
theorem mm_D_6 {w : Nat → Int32} {f : Nat → Int32} {a : Nat → Nat → Int32} (k : Nat) : mm_D w f a 19 (k + 6) = 0 := rfl
theorem mo_D_eq {f gf : Nat → Int32} {a g : Nat → Nat → Int32} (h0 : a 6 = g 9) (h1 : a 7 = g 10) (h2 : a 9 = g 12) (h3 : a 10 = g 13) (h4 : a 11 = g 14) (h5 : a 14 = g 17) (h7 : a 20 = g 20) (h8 : a 21 = g 21) (h9 : a 22 = g 22) (h10 : a 23 = g 23) (h11 : a 28 = g 25) (h12 : a 29 = g 26) (h13 : a 30 = g 27) (h14 : a 31 = g 28) (h15 : a 32 = g 29) (h16 : a 33 = g 30) (h17 : a 34 = g 31) (h18 : a 2 = g 19) (h6 : a 19 = g 18) (e10 : f 10 = gf 32) (e11 : f 11 = gf 34) (e12 : f 12 = gf 35) (e7 : f 7 = gf 3) (e22 : f 22 = gf 84) (e5 : f 5 = gf 7) (h3_ : a 3 = g 5) : mx_D f a = mm_D (g 18) gf g := by
  have ern : mx_rn f a = mm_rn gf g := by unfold mx_rn mm_rn; rw [e5, e7, h3_]
  have e19 : ∀ i, mx_D f a 19 i = mm_D (g 18) gf g 19 i := fun i => match i with
    | 0 => e10
    | 1 => e11
    | 2 => e12
    | 3 => e7
    | 4 => ern
    | 5 => e22
    | n + 6 => (mx_D_6 n).trans (mm_D_6 n).symm
  funext r
  exact match r with
    | 0 => h0
    | 1 => h1
    | 2 => h2
    | 3 => h3
    | 4 => h4
    | 5 => h5
    | 6 => h6
    | 7 => h7
    | 8 => h8
    | 9 => h9
    | 10 => h10
    | 11 => h11
    | 12 => h12
    | 13 => h13
    | 14 => h14
    | 15 => h15
    | 16 => h16
    | 17 => h17
    | 18 => h18
    | 19 => funext e19
    | n + 20 => (mx_D_20 (by omega)).trans (mm_D_20 (by omega)).symm
theorem mo_mor {np nw nt : Nat} {D T SE TE : Nat → Nat → Int32} {aL ux gr gu : Nat → Nat → Int32} {dx dm : Int32} (hsp : mx_sp aL ux dx np) (c24 : mx_c1 (aL 51) (aL 24) (ux 24) nw) (c25 : mx_c1 (aL 52) (aL 25) (ux 25) nw) (c26 : mx_c1 (aL 53) (aL 26) (ux 26) nw) (c27 : mx_c1 (aL 54) (aL 27) (ux 27) nw) (c35 : mx_c1 (aL 56) (aL 35) (ux 35) nt)
  (s0 : aL 44 = SE 0) (s1 : aL 45 = SE 1) (s2 : aL 46 = SE 2) (s3 : aL 47 = SE 3) (s4 : aL 48 = SE 4) (s7 : aL 51 = SE 7) (s8 : aL 52 = SE 8) (s9 : aL 53 = SE 9) (s10 : aL 54 = SE 10) (s12 : aL 56 = SE 12)
  (hg1 : gu 15 = TE 1 ∧ gu 72 = TE 2 ∧ gu 74 = TE 3 ∧ gu 75 = TE 4 ∧ gu 18 = TE 16 ∧ gu 24 = TE 7 ∧ gu 78 = TE 8 ∧ gu 79 = TE 9 ∧ gu 76 = TE 10) (hg2 : ∀ i : Nat, gu 73 i = (if i < np then mo_late (TE 2 i) (gr 13 i) else gr 73 i) ∧ gu 16 i = (if i < np then mo_pur (TE 0 i) (mo_wage dm (gr 11 i) (mo_late (TE 2 i) (gr 13 i))) else TE 0 i)) (hcp : mm_cp (gr 81) (TE 12) (gu 81) nt) (hd : dx = dm)
  (hT : T 0 = gr 16 ∧ T 1 = gr 15 ∧ T 2 = gr 72 ∧ T 3 = gr 74 ∧ T 4 = gr 75 ∧ T 16 = gr 18 ∧ T 7 = gr 24 ∧ T 8 = gr 78 ∧ T 9 = gr 79 ∧ T 10 = gr 76) (h6 : D 6 = aL 19)
  (l12 : aL 12 = gr 15) (l13 : aL 13 = gr 16) (l15 : aL 15 = gr 72) (l16 : aL 16 = gr 73) (l17 : aL 17 = gr 74) (l18 : aL 18 = gr 75) (l19 : aL 19 = gr 18) (l24 : aL 24 = gr 24) (l25 : aL 25 = gr 78) (l26 : aL 26 = gr 79) (l27 : aL 27 = gr 76) (l35 : aL 35 = gr 81) (l8 : aL 8 = gr 11) (l10 : aL 10 = gr 13)
  (hp : ∀ p, p < np → SE 0 p = TE 0 p ∧ SE 1 p = TE 1 p ∧ SE 2 p = TE 2 p ∧ SE 3 p = TE 3 p ∧ SE 4 p = TE 4 p ∧ TE 16 p = D 6 p + SE 3 p) (hw : ∀ w, w < nw → ∀ r, 7 ≤ r → r ≤ 11 → SE r w = TE r w) (hk : ∀ k, k < nt → SE 12 k = TE 12 k) (hsm : mo_sm np nw nt T TE) :
  ux 12 = gu 15 ∧ ux 13 = gu 16 ∧ ux 15 = gu 72 ∧ ux 16 = gu 73 ∧ ux 17 = gu 74 ∧ ux 18 = gu 75 ∧ ux 19 = gu 18 ∧ ux 24 = gu 24 ∧ ux 25 = gu 78 ∧ ux 26 = gu 79 ∧ ux 27 = gu 76 ∧ ux 35 = gu 81 := by
  obtain ⟨g15, g72, g74, g75, g18, g24, g78, g79, g76⟩ := hg1
  obtain ⟨t0, t1, t2, t3, t4, t16, t7, t8, t9, t10⟩ := hT
  have out : ∀ r i, (r ≤ 6 ∨ 14 ≤ r) → np ≤ i → TE r i = T r i := fun r i h1 h2 => hsm r i (Or.inl ⟨h1, h2⟩)
  have outw : ∀ r i, 7 ≤ r → r ≤ 11 → nw ≤ i → TE r i = T r i := fun r i h1 h2 h3 => hsm r i (Or.inr (Or.inl ⟨h1, h2, h3⟩))
  refine ⟨?_, ?_, ?_, ?_, ?_, ?_, ?_, ?_, ?_, ?_, ?_, ?_⟩
  · funext i
    rw [(hsp i).1, g15]
    by_cases q : i < np
    · rw [if_pos q, s1]; exact (hp i q).2.1
    · rw [if_neg q, out 1 i (by decide) (by omega), t1, l12]
  · funext i
    rw [(hsp i).2.1, (hg2 i).2]
    by_cases q : i < np
    · rw [if_pos q, if_pos q, s0, s2, l8, l10, hd, (hp i q).1, (hp i q).2.2.1]
    · rw [if_neg q, if_neg q, out 0 i (by decide) (by omega), t0, l13]
  · funext i
    rw [(hsp i).2.2.1, g72]
    by_cases q : i < np
    · rw [if_pos q, s2]; exact (hp i q).2.2.1
    · rw [if_neg q, out 2 i (by decide) (by omega), t2, l15]
  · funext i
    rw [(hsp i).2.2.2.1, (hg2 i).1]
    by_cases q : i < np
    · rw [if_pos q, if_pos q, s2, l10, (hp i q).2.2.1]
    · rw [if_neg q, if_neg q, l16]
  · funext i
    rw [(hsp i).2.2.2.2.1, g74]
    by_cases q : i < np
    · rw [if_pos q, s3]; exact (hp i q).2.2.2.1
    · rw [if_neg q, out 3 i (by decide) (by omega), t3, l17]
  · funext i
    rw [(hsp i).2.2.2.2.2.1, g75]
    by_cases q : i < np
    · rw [if_pos q, s4]; exact (hp i q).2.2.2.2.1
    · rw [if_neg q, out 4 i (by decide) (by omega), t4, l18]
  · funext i
    rw [(hsp i).2.2.2.2.2.2, g18]
    by_cases q : i < np
    · rw [if_pos q, s3, (hp i q).2.2.2.2.2, h6]
    · rw [if_neg q, out 16 i (by decide) (by omega), t16, l19]
  · funext i
    rw [c24 i, g24]
    by_cases q : i < nw
    · rw [if_pos q, s7]; exact hw i q 7 (by decide) (by decide)
    · rw [if_neg q, outw 7 i (by decide) (by decide) (by omega), t7, l24]
  · funext i
    rw [c25 i, g78]
    by_cases q : i < nw
    · rw [if_pos q, s8]; exact hw i q 8 (by decide) (by decide)
    · rw [if_neg q, outw 8 i (by decide) (by decide) (by omega), t8, l25]
  · funext i
    rw [c26 i, g79]
    by_cases q : i < nw
    · rw [if_pos q, s9]; exact hw i q 9 (by decide) (by decide)
    · rw [if_neg q, outw 9 i (by decide) (by decide) (by omega), t9, l26]
  · funext i
    rw [c27 i, g76]
    by_cases q : i < nw
    · rw [if_pos q, s10]; exact hw i q 10 (by decide) (by decide)
    · rw [if_neg q, outw 10 i (by decide) (by decide) (by omega), t10, l27]
  · funext i
    rw [c35 i, hcp i]
    by_cases q : i < nt
    · rw [if_pos q, if_pos q, s12]; exact hk i q
    · rw [if_neg q, if_neg q, l35]
def cd_up (D : Nat → Int32 × List (Int × Int × List (Nat × Nat × Int))) (n n1 : Int) (x : Int32 × List (Int × Int × List (Nat × Nat × Int))) (i : Nat) : Int32 × List (Int × Int × List (Nat × Nat × Int)) := if n1 = n + 1 ∧ i = n.toNat then x else D i
def cd_DX (gfr : Nat → Int32) (gln : Nat → Nat) (glr : Nat → Nat → Nat → Int32) (n : Int) (D : Nat → Int32 × List (Int × Int × List (Nat × Nat × Int))) : Prop := gln 0 = 0 ∧ ∀ i : Nat, (i : Int) < n → gfr (i + 1) = (D i).1 ∧ cd_Wf (cd_gX (glr (i + 1))) (gln (i + 1)) 0 = (D i).2 ∧ (∀ l ∈ (D i).2, cd_gd l) ∧ 0 ≤ (D i).1.toInt
def cd_DMM (a : Nat → Nat → Int32) (n : Int) (D : Nat → Int32 × List (Int × Int × List (Nat × Nat × Int))) : Prop := ∀ i : Nat, (i : Int) < n → a 49 i = (D i).1 ∧ cd_LM a i = (D i).2 ∧ (a 48 i).toInt = cd_dk (D i).2
theorem cd_DX_up {n n1 : Int} {gfr gfr9 : Nat → Int32} {gln gln9 : Nat → Nat} {glr glr9 : Nat → Nat → Nat → Int32} {a : Int32} {T : List (Int × Int × List (Nat × Nat × Int))} {D : Nat → Int32 × List (Int × Int × List (Nat × Nat × Int))} (hb : cd_bX n n1 gfr gfr9 gln gln9 glr glr9 a T) (h0 : 0 ≤ n) (ha : n1 = n + 1 → 0 ≤ a.toInt) (hd : cd_DX gfr gln glr n D) : cd_DX gfr9 gln9 glr9 n1 (cd_up D n n1 (a, T)) := by
  obtain ⟨hold, hnew⟩ := hb
  refine ⟨by rw [(hold 0 (by omega)).2.1]; exact hd.1, fun i hi => ?_⟩
  unfold cd_up
  by_cases q : n1 = n + 1 ∧ i = n.toNat
  · rw [if_pos q]
    rcases hnew with w | ⟨w1, w2, w3, w4⟩
    · exfalso; omega
    · have e : n1.toNat = i + 1 := by omega
      rw [e] at w2 w3
      exact ⟨w2, w3, w4, ha w1⟩
  · rw [if_neg q]
    have hi2 : (i : Int) < n := by
      rcases hnew with w | ⟨w1, w2, w3, w4⟩
      · omega
      · omega
    have ho := hold (i + 1) (by omega)
    have hh := hd.2 i hi2
    rw [ho.1, ho.2.1, ho.2.2]
    exact hh
theorem cd_DMM_up {n n1 : Int} {a a1 : Nat → Nat → Int32} {d : Int32} {T : List (Int × Int × List (Nat × Nat × Int))} {D : Nat → Int32 × List (Int × Int × List (Nat × Nat × Int))} (hb : cd_bM n n1 a a1 d T) (h0 : 0 ≤ n) (hd : cd_DMM a n D) : cd_DMM a1 n1 (cd_up D n n1 (d, T)) := by
  obtain ⟨hold, hnew⟩ := hb
  intro i hi
  unfold cd_up
  by_cases q : n1 = n + 1 ∧ i = n.toNat
  · rw [if_pos q]
    rcases hnew with w | ⟨w1, w2, w3, w4⟩
    · exfalso; omega
    · rw [← q.2] at w2 w3 w4
      exact ⟨w4, w2, w3⟩
  · rw [if_neg q]
    have hi2 : (i : Int) < n := by
      rcases hnew with w | ⟨w1, w2, w3, w4⟩
      · omega
      · omega
    have ho := hold i hi2
    have hh := hd i hi2
    rw [ho.1, ho.2.1, ho.2.2]
    exact hh
theorem cd_DMM_fr {a a1 : Nat → Nat → Int32} {n : Int} {D : Nat → Int32 × List (Int × Int × List (Nat × Nat × Int))} (h47 : a1 47 = a 47) (h48 : a1 48 = a 48) (h49 : a1 49 = a 49) (h50 : a1 50 = a 50) (h51 : a1 51 = a 51) (h52 : a1 52 = a 52) (h53 : a1 53 = a 53) (h54 : a1 54 = a 54) (h55 : a1 55 = a 55) (h56 : a1 56 = a 56) (h : cd_DMM a n D) : cd_DMM a1 n D := by
  intro i hi
  have e : cd_LM a1 i = cd_LM a i := by
    unfold cd_LM
    rw [h47]
    refine cd_Wf_eq _ _ (fun j _ _ => ?_)
    unfold cd_gM
    rw [h50, h51, h52, h53, h54, h55, h56]
  have hh := h i hi
  rw [h49, e, h48]
  exact hh
def cd_WD (D : Nat → Int32 × List (Int × Int × List (Nat × Nat × Int))) (td : Int) (n : Nat) : List (Int × Int × List (Nat × Nat × Int)) := if (cd_nw (fun i => (D (i - 1)).1.toInt) td n).1 = 0 then [] else (D ((cd_nw (fun i => (D (i - 1)).1.toInt) td n).1 - 1)).2
theorem cd_nw_eq {f g : Nat → Int} {td : Int} : ∀ n : Nat, (∀ i, i < n → f (i + 1) = g (i + 1)) → cd_nw f td n = cd_nw g td n := by
  intro n
  induction n with
  | zero => intro _; rfl
  | succ n ih =>
    intro h
    have e := ih (fun i hi => h i (by omega))
    have e1 := h n (by omega)
    show (if f (n + 1) ≤ td ∧ (cd_nw f td n).2 ≤ f (n + 1) then (n + 1, f (n + 1)) else cd_nw f td n) = (if g (n + 1) ≤ td ∧ (cd_nw g td n).2 ≤ g (n + 1) then (n + 1, g (n + 1)) else cd_nw g td n)
    rw [e, e1]
theorem cd_WX {gfr : Nat → Int32} {gln : Nat → Nat} {glr : Nat → Nat → Nat → Int32} {n td : Int} {D : Nat → Int32 × List (Int × Int × List (Nat × Nat × Int))} (hd : cd_DX gfr gln glr n D) (h0 : 0 ≤ n) : cd_Wf (cd_gX (glr ((cd_nw (fun i => (gfr i).toInt) td (n.toNat)).1))) (gln ((cd_nw (fun i => (gfr i).toInt) td (n.toNat)).1)) 0 = cd_WD D td (n.toNat) := by
  have e : cd_nw (fun i => (gfr i).toInt) td n.toNat = cd_nw (fun i => (D (i - 1)).1.toInt) td n.toNat := cd_nw_eq _ (fun i hi => by
    show (gfr (i + 1)).toInt = (D (i + 1 - 1)).1.toInt
    rw [Nat.add_sub_cancel, (hd.2 i (by omega)).1])
  unfold cd_WD
  rw [e]
  have hle := cd_nw_le (fun i => (D (i - 1)).1.toInt) td n.toNat
  generalize (cd_nw (fun i => (D (i - 1)).1.toInt) td n.toNat).1 = z at hle ⊢
  cases z with
  | zero => rw [if_pos rfl, hd.1]; rfl
  | succ z => rw [if_neg (by omega), Nat.add_sub_cancel, (hd.2 z (by omega)).2.1]
theorem cd_WM {a : Nat → Nat → Int32} {n td : Int} {D : Nat → Int32 × List (Int × Int × List (Nat × Nat × Int))} (hd : cd_DMM a n D) (h0 : 0 ≤ n) : (if ((cd_nw (fun i => (a 49 (i - 1)).toInt) td (n.toNat)).1) = 0 then [] else cd_LM a (((cd_nw (fun i => (a 49 (i - 1)).toInt) td (n.toNat)).1) - 1)) = cd_WD D td (n.toNat) := by
  have e : cd_nw (fun i => (a 49 (i - 1)).toInt) td n.toNat = cd_nw (fun i => (D (i - 1)).1.toInt) td n.toNat := cd_nw_eq _ (fun i hi => by
    show (a 49 (i + 1 - 1)).toInt = (D (i + 1 - 1)).1.toInt
    rw [Nat.add_sub_cancel, (hd i (by omega)).1])
  unfold cd_WD
  rw [e]
  have hle := cd_nw_le (fun i => (D (i - 1)).1.toInt) td n.toNat
  generalize (cd_nw (fun i => (D (i - 1)).1.toInt) td n.toNat).1 = z at hle ⊢
  cases z with
  | zero => rw [if_pos rfl, if_pos rfl]
  | succ z => rw [if_neg (by omega), if_neg (by omega), Nat.add_sub_cancel, (hd z (by omega)).2.1]
theorem cd_DX_gds {gfr : Nat → Int32} {gln : Nat → Nat} {glr : Nat → Nat → Nat → Int32} {n : Int} {D : Nat → Int32 × List (Int × Int × List (Nat × Nat × Int))} (hd : cd_DX gfr gln glr n D) : ∀ i : Nat, (i : Int) ≤ n → ∀ j, j < gln i → cd_gd (cd_gX (glr i) j) := by
  intro i hi j hj
  cases i with
  | zero => rw [hd.1] at hj; omega
  | succ i =>
    have h := hd.2 i (by omega)
    exact h.2.2.1 _ (by rw [← h.2.1]; exact cd_Wf_mem0 _ 0 j (by omega) (by omega))
theorem cd_DM_gd {gfr : Nat → Int32} {gln : Nat → Nat} {glr : Nat → Nat → Nat → Int32} {n m : Int} {a : Nat → Nat → Int32} {D : Nat → Int32 × List (Int × Int × List (Nat × Nat × Int))} (hx : cd_DX gfr gln glr n D) (e : n = m) (hd : cd_DMM a m D) : ∀ b : Nat, (b : Int) < m → ∀ l ∈ cd_LM a b, cd_gd l := by
  intro b hb l hl
  rw [(hd b hb).2.1] at hl
  exact (hx.2 b (by omega)).2.2.1 l hl
theorem cd_DM_fd {gfr : Nat → Int32} {gln : Nat → Nat} {glr : Nat → Nat → Nat → Int32} {n m : Int} {a : Nat → Nat → Int32} {D : Nat → Int32 × List (Int × Int × List (Nat × Nat × Int))} (hx : cd_DX gfr gln glr n D) (e : n = m) (hd : cd_DMM a m D) : ∀ i : Nat, (i : Int) < m → 0 ≤ (a 49 i).toInt := by
  intro i hi
  rw [(hd i hi).1]
  exact (hx.2 i (by omega)).2.2.2
def cd_DV (n : Int) (D : Nat → Int32 × List (Int × Int × List (Nat × Nat × Int))) : Prop := ∀ i : Nat, (i : Int) < n → ∃ (b : Nat → Int) (k : Nat), (D i).2 = cd_txt (rd_T b k) (rd_N b k)
theorem cd_DV_up {n n1 : Int} {D : Nat → Int32 × List (Int × Int × List (Nat × Nat × Int))} {a : Int32} {b : Nat → Int} {k : Nat} (h : cd_DV n D) (hn : n1 = n ∨ n1 = n + 1) (h0 : 0 ≤ n) : cd_DV n1 (cd_up D n n1 (a, cd_txt (rd_T b k) (rd_N b k))) := by
  intro i hi
  unfold cd_up
  by_cases q : n1 = n + 1 ∧ i = n.toNat
  · rw [if_pos q]; exact ⟨b, k, rfl⟩
  · rw [if_neg q]; exact h i (by omega)
theorem cd_DV_vl {n : Int} {D : Nat → Int32 × List (Int × Int × List (Nat × Nat × Int))} (h : cd_DV n D) {i : Nat} (hi : (i : Int) < n) : ∀ l ∈ (D i).2, cd_vl l := by
  obtain ⟨b, k, e⟩ := h i hi
  rw [e]
  exact cd_txt_vl (fun q _ => rd_N_nn b k q)
theorem cd_DV_dk {n : Int} {D : Nat → Int32 × List (Int × Int × List (Nat × Nat × Int))} (h : cd_DV n D) {i : Nat} (hi : (i : Int) < n) (F : Nat → Int) : cd_fv F 6 (D i).2 = cd_dk (D i).2 := by
  obtain ⟨b, k, e⟩ := h i hi
  rw [e]
  exact cd_txt_dk F
theorem cd_DV_W {n td : Int} {D : Nat → Int32 × List (Int × Int × List (Nat × Nat × Int))} (h : cd_DV n D) (h0 : 0 ≤ n) : ∀ l ∈ cd_WD D td n.toNat, cd_vl l := by
  intro l hl
  unfold cd_WD at hl
  have hle := cd_nw_le (fun i => (D (i - 1)).1.toInt) td n.toNat
  by_cases q : (cd_nw (fun i => (D (i - 1)).1.toInt) td n.toNat).1 = 0
  · rw [if_pos q] at hl; exact absurd hl List.not_mem_nil
  · rw [if_neg q] at hl
    exact cd_DV_vl h (by omega) l hl
theorem cd_DV_HA {n td : Int} {D : Nat → Int32 × List (Int × Int × List (Nat × Nat × Int))} (h : cd_DV n D) (h0 : 0 ≤ n) (D1 : Nat → Nat → Int32) : mo_HA D1 (mo_A D1 (cd_WD D td n.toNat)) := fun t k ti => mo_A3 (cd_DV_W h h0) D1 t k ti
theorem cd_DV_hAs {gfr : Nat → Int32} {gln : Nat → Nat} {glr : Nat → Nat → Nat → Int32} {n : Int} {D : Nat → Int32 × List (Int × Int × List (Nat × Nat × Int))} (hx : cd_DX gfr gln glr n D) (hv : cd_DV n D) : ∀ i : Nat, (i : Int) ≤ n → ∀ (D1 : Nat → Nat → Int32) (t : Nat) (k ti : Int), 0 ≤ (mo_A D1 (cd_Wf (cd_gX (glr i)) (gln i) 0) t 3 k ti).toInt := by
  intro i hi D1 t k ti
  refine (mo_A3 ?_ D1 t k ti).1
  cases i with
  | zero =>
    rw [hx.1]
    intro l hl
    exact absurd hl List.not_mem_nil
  | succ i =>
    rw [(hx.2 i (by omega)).2.1]
    exact cd_DV_vl hv (by omega)
theorem cd_DV_L {gfr : Nat → Int32} {gln : Nat → Nat} {glr : Nat → Nat → Nat → Int32} {n : Int} {D : Nat → Int32 × List (Int × Int × List (Nat × Nat × Int))} {gv : Nat → Int32} {gr : Nat → Nat → Int32} (hx : cd_DX gfr gln glr n D) (e : n = (gv 58).toInt) (hd : cd_DMM gr (gv 58).toInt D) (hv : cd_DV n D) : mm_L gv gr := by
  refine ⟨fun b hb l hl => ⟨cd_DM_gd hx e hd b hb l hl, ?_⟩, cd_DM_fd hx e hd⟩
  rw [(hd b hb).2.1] at hl
  exact (cd_DV_vl hv (by omega) l hl).1
theorem cd_DV_dock {n : Int} {D : Nat → Int32 × List (Int × Int × List (Nat × Nat × Int))} {gv : Nat → Int32} {gr : Nat → Nat → Int32} (e : n = (gv 58).toInt) (h0 : 0 ≤ n) (hd : cd_DMM gr n D) (hv : cd_DV n D) (F : Nat → Int) : mo_dkv F (cd_WD D (gv 3).toInt n.toNat) = mm_dk gv gr := by
  have e1 : cd_nw (fun i => (gr 49 (i - 1)).toInt) (gv 3).toInt n.toNat = cd_nw (fun i => (D (i - 1)).1.toInt) (gv 3).toInt n.toNat := cd_nw_eq _ (fun i hi => by
    show (gr 49 (i + 1 - 1)).toInt = (D (i + 1 - 1)).1.toInt
    rw [Nat.add_sub_cancel, (hd i (by omega)).1])
  unfold mm_dk cd_WD mo_dkv
  rw [← e, e1]
  have hle := cd_nw_le (fun i => (D (i - 1)).1.toInt) (gv 3).toInt n.toNat
  generalize (cd_nw (fun i => (D (i - 1)).1.toInt) (gv 3).toInt n.toNat).1 = z at hle ⊢
  cases z with
  | zero => rw [if_pos rfl, if_pos rfl]; rfl
  | succ z =>
    rw [if_neg (by omega), if_neg (by omega), Nat.add_sub_cancel, cd_DV_dk hv (by omega) F, ← (hd z (by omega)).2.2]
    exact Int32.ofInt_toInt _
theorem cd_WM_m {gv : Nat → Int32} {gr : Nat → Nat → Int32} {D : Nat → Int32 × List (Int × Int × List (Nat × Nat × Int))} (hd : cd_DMM gr (gv 58).toInt D) (h0 : 0 ≤ (gv 58).toInt) : mm_W gv gr = cd_WD D (gv 3).toInt (gv 58).toInt.toNat := cd_WM hd h0
theorem rg_ru {r : Int32} {g1 g : Nat → Int32} {n x : Int32} {lo hi : Int} (h : ∀ i, lo ≤ (g i).toInt ∧ (g i).toInt ≤ hi) (hu : wt_ru r g1 g n x) (hx : 0 ≤ r.toInt → lo ≤ x.toInt ∧ x.toInt ≤ hi) : ∀ i, lo ≤ (g1 i).toInt ∧ (g1 i).toInt ≤ hi := by
  rcases hu with ⟨_, e⟩ | ⟨h0, e⟩
  · rw [e]; exact h
  · intro i
    rw [e]
    show lo ≤ ((if i = n.toInt.toNat then x else g i)).toInt ∧ ((if i = n.toInt.toNat then x else g i)).toInt ≤ hi
    by_cases q : i = n.toInt.toNat
    · rw [if_pos q]; exact hx h0
    · rw [if_neg q]; exact h i
theorem rg_rv {r : Int32} {g1 g : Nat → Int32} {n : Int32} {x lo hi : Int} (h : ∀ i, lo ≤ (g i).toInt ∧ (g i).toInt ≤ hi) (hu : wt_rv r g1 g n x) (hx : 0 ≤ r.toInt → lo ≤ x ∧ x ≤ hi) : ∀ i, lo ≤ (g1 i).toInt ∧ (g1 i).toInt ≤ hi := by
  rcases hu with ⟨_, e⟩ | ⟨h0, v, hv, e⟩
  · rw [e]; exact h
  · intro i
    rw [e]
    show lo ≤ ((if i = n.toInt.toNat then v else g i)).toInt ∧ ((if i = n.toInt.toNat then v else g i)).toInt ≤ hi
    by_cases q : i = n.toInt.toNat
    · rw [if_pos q, hv]; exact hx h0
    · rw [if_neg q]; exact h i
def mx_rg (fv : Nat → Int32) (ar : Nat → Nat → Int32) : Prop := (∀ i, 0 ≤ (ar 31 i).toInt ∧ (ar 31 i).toInt ≤ 719) ∧ (∀ i, 0 ≤ (ar 10 i).toInt ∧ (ar 10 i).toInt ≤ 719) ∧ (∀ i, 0 ≤ (ar 11 i).toInt ∧ (ar 11 i).toInt ≤ 99) ∧ (∀ i, 0 ≤ (ar 34 i).toInt ∧ (ar 34 i).toInt ≤ 199) ∧ (∀ i, 0 ≤ (ar 14 i).toInt ∧ (ar 14 i).toInt ≤ 9) ∧ (∀ i, 0 ≤ (ar 9 i).toInt ∧ (ar 9 i).toInt ≤ 600) ∧ (∀ i, 0 ≤ (ar 12 i).toInt ∧ (ar 12 i).toInt ≤ 9) ∧ (∀ i, 0 ≤ (ar 3 i).toInt ∧ (ar 3 i).toInt ≤ 9) ∧ ∀ k : Nat, (k : Int) < (fv 12).toInt → 0 ≤ (ar 28 k).toInt ∧ (ar 28 k).toInt < (fv 11).toInt
theorem mx_rg_fr {M N : List Nat} {f f1 : Nat → Int32} {a a1 : Nat → Nat → Int32} (h : mx_rg f a) (hf : fM M f f1) (ha : fA N a a1) (hM : ([11, 12] : List Nat).all (fun k => !M.contains k) = true) (hN : ([31, 10, 11, 34, 14, 9, 12, 3, 28] : List Nat).all (fun k => !N.contains k) = true) : mx_rg f1 a1 := by
  unfold mx_rg
  rw [hf 11 (mm_nin hM (by decide)), hf 12 (mm_nin hM (by decide)), ha 31 (mm_nin hN (by decide)), ha 10 (mm_nin hN (by decide)), ha 11 (mm_nin hN (by decide)), ha 34 (mm_nin hN (by decide)), ha 14 (mm_nin hN (by decide)), ha 9 (mm_nin hN (by decide)), ha 12 (mm_nin hN (by decide)), ha 3 (mm_nin hN (by decide)), ha 28 (mm_nin hN (by decide))]
  exact h
theorem mx_R_of {fv : Nat → Int32} {ar : Nat → Nat → Int32} (h : mx_rg fv ar) (h2 : ∀ i, 0 ≤ (ar 2 i).toInt ∧ (ar 2 i).toInt ≤ 11) (h6 : ∀ i, 0 ≤ (ar 6 i).toInt ∧ (ar 6 i).toInt ≤ 11) (h7 : ∀ i, 0 ≤ (ar 7 i).toInt ∧ (ar 7 i).toInt ≤ 11) (hG : mo_GR (mx_G ar)) : mx_R fv ar := by
  obtain ⟨a1, a2, a3, a4, a5, _, _, a8, _⟩ := h
  refine ⟨⟨h2, h7, a1, h6, a3, a2, ?_⟩, hG, a4, a5⟩
  show 0 ≤ (mx_rn fv ar).toInt ∧ (mx_rn fv ar).toInt ≤ 9
  unfold mx_rn
  split
  · decide
  · split
    · exact a8 _
    · decide
theorem mx_wh_of {fv : Nat → Int32} {ar : Nat → Nat → Int32} (h : mx_rg fv ar) : mo_wh (mx_D fv ar) := by
  intro k hk
  have hk2 : k < (fv 12).toInt.toNat := hk
  exact h.2.2.2.2.2.2.2.2 k (by omega)
theorem wt_cn_b (f : Nat → Nat) (v : Nat) : ∀ n, wt_cn f v n ≤ n
  | 0 => Nat.le_refl _
  | n + 1 => by
    have h := wt_cn_b f v n
    show wt_cn f v n + (if f n = v then 1 else 0) ≤ n + 1
    split <;> omega
theorem wt_S_GR {G : Nat → Int} {f : Nat → Nat} (h : wt_S G f) : mo_GR G := by
  intro i hi
  have h1 := h (i / 12) (i % 12) (by omega) (by omega)
  rw [show 12 * (i / 12) + i % 12 = i from by omega] at h1
  have hc := wt_cn_b f (f (i / 12)) 12
  by_cases q : f (i / 12) = f (i % 12)
  · have h2 := h1.1 q
    exact ⟨h2.1, Or.inl (by omega)⟩
  · have h2 := h1.2 q
    exact ⟨by omega, Or.inr h2⟩
set_option maxHeartbeats 4000000 in
set_option maxRecDepth 100000 in
theorem x_morningE (l : Launch) (dC : Nat → ClassId) (dI : Nat → Nat → Nat) (sz : Nat) (ob ad : Nat → Nat) (cA : Nat → ClassId) (hd : dX ob ad) (fv : Nat → Int32) (wd : xT) (ar : Nat → Nat → Int32) (hF_fv : rX fv) (hA_ar : rB ar) (gla : Nat → Nat) (gfr : Nat → Int32) (gra : Nat → Nat → Nat) (grc : Nat → Nat → ClassId) (gln gcn : Nat → Nat) (glr : Nat → Nat → Nat → Int32) (ce : ClassId) (ef : Nat → Option Nat) (hgds : ∀ i : Nat, (i : Int) ≤ (fv 30).toInt → ∀ j, j < gln i → cd_gd (cd_gX (glr i) j)) (hAs : ∀ i : Nat, (i : Int) ≤ (fv 30).toInt → ∀ (D : Nat → Nat → Int32) (t : Nat) (n ti : Int), 0 ≤ (mo_A D (cd_Wf (cd_gX (glr i)) (gln i) 0) t 3 n ti).toInt) (hp_mR : mx_R fv ar) (hp_f01 : mx_f01 ar) : Met l yX11_morning (.code yX11_morning cX11_morning 2 (some .int) :: lw_good) ({ frames := 9, cells := 0, slots := 0, locals := 213 }) (va_Pc [.ref (ob 0)] (fun U => prX dC dI ob ad cA fv wd ar sz U ∧ lsA dC dI ob ad gla gfr gra grc gln gcn glr ce ef (fv 30).toInt wd.2.2.2 sz U)) (va_Qi (fun (r : Int32) (u : xS) => rX u.1 ∧ rB u.2.2 ∧ fM [3, 6, 8, 22, 23, 24] fv u.1 ∧ fA [4, 12, 13, 15, 16, 17, 18, 19, 24, 25, 26, 27, 35, 44, 45, 46, 47, 48, 49, 50, 51, 52, 53, 54, 55, 56, 57, 58, 59, 60, 61, 62, 63, 64] ar u.2.2 ∧ (u.2.1.2.2.2 = wd.2.2.2) ∧ (u.2.1.2.1 = wd.2.1) ∧ (((fv 3).toInt = (fv 7).toInt ∧ r = -1 ∧ u.1 = fv ∧ u.2.2 = ar) ∨ (¬ ((fv 3).toInt = (fv 7).toInt) ∧ u.1 3 = fv 7 ∧ ∃ (fL : Nat → Int32) (aL : Nat → Nat → Int32) (S9 : Nat → Nat → Int32), fM [3, 6, 22, 23, 24] fv fL ∧ fA [4, 44, 45, 46, 47, 48, 49, 50, 51, 52, 53, 54, 55, 56, 57, 58, 59, 60, 61, 62, 63, 64] ar aL ∧ fL 22 = -1 ∧ S9 13 0 = fv 8 ∧ mx_S fL aL = mo_xd (mx_D fL aL) (mx_G ar) (mo_A (mx_D fL aL) (cd_Wf (cd_gX (glr ((cd_nw (fun i => (gfr i).toInt) (fv 7).toInt ((fv 30).toInt.toNat)).1))) (gln ((cd_nw (fun i => (gfr i).toInt) (fv 7).toInt ((fv 30).toInt.toNat)).1)) 0)) ((fv 10).toInt.toNat) ((fv 11).toInt.toNat) (mo_st (mx_D fL aL) ar ((fv 10).toInt.toNat) ((fv 11).toInt.toNat) S9) 840 ∧ r.toInt = mo_ot (mx_D fL aL) (mx_S fL aL) ((fv 10).toInt.toNat) ∧ mx_sp aL u.2.2 (mo_dkv (cd_f (aL 4)) (cd_Wf (cd_gX (glr ((cd_nw (fun i => (gfr i).toInt) (fv 7).toInt ((fv 30).toInt.toNat)).1))) (gln ((cd_nw (fun i => (gfr i).toInt) (fv 7).toInt ((fv 30).toInt.toNat)).1)) 0)) ((fv 10).toInt.toNat) ∧ mx_c1 (aL 51) (aL 24) (u.2.2 24) ((fv 11).toInt.toNat) ∧ mx_c1 (aL 52) (aL 25) (u.2.2 25) ((fv 11).toInt.toNat) ∧ mx_c1 (aL 53) (aL 26) (u.2.2 26) ((fv 11).toInt.toNat) ∧ mx_c1 (aL 54) (aL 27) (u.2.2 27) ((fv 11).toInt.toNat) ∧ mx_c1 (aL 56) (aL 35) (u.2.2 35) ((fv 12).toInt.toNat) ∧ u.1 8 = fL 23)) ∧ (mx_R u.1 u.2.2) ∧ (mx_f01 u.2.2) ∧ True) (enX dC dI ob ad cA) (aX ob ad sz)) 0 0 (aX ob ad sz) := by
  sorry
set_option maxHeartbeats 4000000 in
set_option maxRecDepth 100000 in
theorem x_triedE (l : Launch) (dC : Nat → ClassId) (dI : Nat → Nat → Nat) (sz : Nat) (ob ad : Nat → Nat) (cA : Nat → ClassId) (hd : dX ob ad) (fv : Nat → Int32) (wd : xT) (ar : Nat → Nat → Int32) (hF_fv : rX fv) (hA_ar : rB ar) (gla : Nat → Nat) (gfr : Nat → Int32) (gra : Nat → Nat → Nat) (grc : Nat → Nat → ClassId) (gln gcn : Nat → Nat) (glr : Nat → Nat → Nat → Int32) (ce : ClassId) (ef : Nat → Option Nat) (a : Int32) (hgds : ∀ i : Nat, (i : Int) ≤ (fv 30).toInt → ∀ j, j < gln i → cd_gd (cd_gX (glr i) j)) (hAs : ∀ i : Nat, (i : Int) ≤ (fv 30).toInt → ∀ (D : Nat → Nat → Int32) (t : Nat) (n ti : Int), 0 ≤ (mo_A D (cd_Wf (cd_gX (glr i)) (gln i) 0) t 3 n ti).toInt) (hp_mR : mx_R fv ar) (hp_f01 : mx_f01 ar) : Met l yX11_tried (.code yX11_tried cX11_tried 2 (some .int) :: lw_good) ({ frames := 9, cells := 0, slots := 0, locals := 213 }) (va_Pc [.ref (ob 0), .int a] (fun U => prX dC dI ob ad cA fv wd ar sz U ∧ lsA dC dI ob ad gla gfr gra grc gln gcn glr ce ef (fv 30).toInt wd.2.2.2 sz U)) (va_Qi (fun (r : Int32) (u : xS) => rX u.1 ∧ rB u.2.2 ∧ fM [6, 22, 23, 24] fv u.1 ∧ fA [4, 44, 45, 46, 47, 48, 49, 50, 51, 52, 53, 54, 55, 56, 57, 58, 59, 60, 61, 62, 63, 64] ar u.2.2 ∧ (u.2.1.2.2.2 = wd.2.2.2) ∧ (u.2.1.2.1 = wd.2.1) ∧ (((a.toInt < 0 ∨ (fv 11).toInt ≤ a.toInt ∨ (fv 3).toInt = (fv 7).toInt) ∧ r = -1 ∧ u.1 = fv ∧ u.2.2 = ar) ∨ (¬ (a.toInt < 0 ∨ (fv 11).toInt ≤ a.toInt ∨ (fv 3).toInt = (fv 7).toInt) ∧ u.1 22 = a ∧ r.toInt = mo_ot (mx_D u.1 u.2.2) (mx_S u.1 u.2.2) ((fv 10).toInt.toNat) ∧ ∃ S9 : Nat → Nat → Int32, S9 13 0 = fv 8 ∧ mx_S u.1 u.2.2 = mo_xd (mx_D u.1 u.2.2) (mx_G ar) (mo_A (mx_D u.1 u.2.2) (cd_Wf (cd_gX (glr ((cd_nw (fun i => (gfr i).toInt) (fv 7).toInt ((fv 30).toInt.toNat)).1))) (gln ((cd_nw (fun i => (gfr i).toInt) (fv 7).toInt ((fv 30).toInt.toNat)).1)) 0)) ((fv 10).toInt.toNat) ((fv 11).toInt.toNat) (mo_st (mx_D u.1 u.2.2) ar ((fv 10).toInt.toNat) ((fv 11).toInt.toNat) S9) 840)) ∧ (mx_R u.1 u.2.2) ∧ (mx_f01 u.2.2) ∧ True) (enX dC dI ob ad cA) (aX ob ad sz)) 0 0 (aX ob ad sz) := by
  sorry
set_option maxHeartbeats 4000000 in
set_option maxRecDepth 100000 in
theorem x_stopR (l : Launch) (dC : Nat → ClassId) (dI : Nat → Nat → Nat) (sz : Nat) (ob ad : Nat → Nat) (cA : Nat → ClassId) (hd : dX ob ad) (fv : Nat → Int32) (wd : xT) (ar : Nat → Nat → Int32) (hF_fv : rX fv) (hA_ar : rB ar) (v : Int32) : Met l yX11_stop (.code yX11_stop cX11_stop 2 (some .int) :: lw_good) ({ frames := 3, cells := 0, slots := 0, locals := 60 }) (va_Pc [.ref (ob 0), .int v] (prX dC dI ob ad cA fv wd ar sz)) (va_Qi (fun (r : Int32) (u : xS) => rX u.1 ∧ rB u.2.2 ∧ fM [4] fv u.1 ∧ fA [2] ar u.2.2 ∧ u.2.1.2 = wd.2 ∧ ((r = -1 ∧ u.1 4 = fv 4 ∧ (v.toInt < 0 ∨ 11 < v.toInt ∨ 8 ≤ (fv 4).toInt)) ∨ (r.toInt = (fv 4).toInt ∧ (u.1 4).toInt = (fv 4).toInt + 1 ∧ ¬ (v.toInt < 0 ∨ 11 < v.toInt ∨ 8 ≤ (fv 4).toInt))) ∧ (wt_ru r (u.2.2 2) (ar 2) (fv 4) v) ∧ True) (enX dC dI ob ad cA) (aX ob ad sz)) 0 0 (aX ob ad sz) := by
  sorry
set_option maxHeartbeats 4000000 in
set_option maxRecDepth 100000 in
theorem x_wheelS (l : Launch) (dC : Nat → ClassId) (dI : Nat → Nat → Nat) (sz : Nat) (ob ad : Nat → Nat) (cA : Nat → ClassId) (hd : dX ob ad) (fv : Nat → Int32) (wd : xT) (ar : Nat → Nat → Int32) (hF_fv : rX fv) (hA_ar : rB ar) (a : Int32) (b : Int32) (v : Int32) (d : Int32) : Met l yX11_wheel (.code yX11_wheel cX11_wheel 5 (some .int) :: lw_good) ({ frames := 3, cells := 0, slots := 0, locals := 64 }) (va_Pc [.ref (ob 0), .int a, .int b, .int v, .int d] (prX dC dI ob ad cA fv wd ar sz)) (va_Qi (fun (r : Int32) (u : xS) => rX u.1 ∧ rB u.2.2 ∧ fM [11] fv u.1 ∧ fA [20, 21, 22, 23, 27] ar u.2.2 ∧ u.2.1.2 = wd.2 ∧ (ps_wheel r (u.1 11) (fv 11) (fv 4) a b v d) ∧ (wt_ru r (u.2.2 20) (ar 20) (fv 11) a) ∧ (wt_ru r (u.2.2 21) (ar 21) (fv 11) b) ∧ (wt_ru r (u.2.2 22) (ar 22) (fv 11) v) ∧ (wt_ru r (u.2.2 23) (ar 23) (fv 11) d) ∧ (wt_ru r (u.2.2 27) (ar 27) (fv 11) b) ∧ True) (enX dC dI ob ad cA) (aX ob ad sz)) 0 0 (aX ob ad sz) := by
  sorry
set_option maxHeartbeats 4000000 in
set_option maxRecDepth 100000 in
theorem x_tripS (l : Launch) (dC : Nat → ClassId) (dI : Nat → Nat → Nat) (sz : Nat) (ob ad : Nat → Nat) (cA : Nat → ClassId) (hd : dX ob ad) (fv : Nat → Int32) (wd : xT) (ar : Nat → Nat → Int32) (hF_fv : rX fv) (hA_ar : rB ar) (a : Int32) (b : Int32) (v : Int32) (d : Int32) (f : Int32) (g : Int32) : Met l yX11_trip (.code yX11_trip cX11_trip 8 (some .int) :: lw_good) ({ frames := 3, cells := 0, slots := 0, locals := 64 }) (va_Pc [.ref (ob 0), .int a, .int b, .int v, .int d, .int f, .int g] (prX dC dI ob ad cA fv wd ar sz)) (va_Qi (fun (r : Int32) (u : xS) => rX u.1 ∧ rB u.2.2 ∧ fM [12] fv u.1 ∧ fA [28, 29, 30, 31, 32, 33, 34, 35] ar u.2.2 ∧ u.2.1.2 = wd.2 ∧ (ps_trip r (u.1 12) (fv 12) (fv 11) (fv 4) (fv 7) a b v d f g) ∧ (wt_ru r (u.2.2 28) (ar 28) (fv 12) a) ∧ (wt_ru r (u.2.2 29) (ar 29) (fv 12) b) ∧ (wt_ru r (u.2.2 30) (ar 30) (fv 12) v) ∧ (wt_ru r (u.2.2 31) (ar 31) (fv 12) d) ∧ (wt_ru r (u.2.2 32) (ar 32) (fv 12) f) ∧ (wt_ru r (u.2.2 33) (ar 33) (fv 12) g) ∧ (wt_ru r (u.2.2 34) (ar 34) (fv 12) (fv 7)) ∧ (wt_ru r (u.2.2 35) (ar 35) (fv 12) (-1)) ∧ True) (enX dC dI ob ad cA) (aX ob ad sz)) 0 0 (aX ob ad sz) := by
  sorry
set_option maxHeartbeats 4000000 in
set_option maxRecDepth 100000 in
theorem x_personR (l : Launch) (dC : Nat → ClassId) (dI : Nat → Nat → Nat) (sz : Nat) (ob ad : Nat → Nat) (cA : Nat → ClassId) (hd : dX ob ad) (fv : Nat → Int32) (wd : xT) (ar : Nat → Nat → Int32) (hF_fv : rX fv) (hA_ar : rB ar) (a : Int32) (b : Int32) (v : Int32) : Met l yX11_person (.code yX11_person cX11_person 5 (some .int) :: lw_good) ({ frames := 5, cells := 0, slots := 0, locals := 105 }) (va_Pc [.ref (ob 0), .int a, .int b, .int v] (prX dC dI ob ad cA fv wd ar sz)) (va_Qi (fun (r : Int32) (u : xS) => rX u.1 ∧ rB u.2.2 ∧ fM [0, 10] fv u.1 ∧ fA [6, 7, 8, 9, 10, 11, 12, 13, 14, 15] ar u.2.2 ∧ u.2.1.2 = wd.2 ∧ (wt_person r (u.1 10) (fv 10) (fv 0) (ar 1) a b v) ∧ ((u.1 0).toInt = 0) ∧ (wt_ru r (u.2.2 6) (ar 6) (fv 10) a) ∧ (wt_ru r (u.2.2 7) (ar 7) (fv 10) b) ∧ (wt_ru r (u.2.2 8) (ar 8) (fv 10) v) ∧ (wt_rv r (u.2.2 9) (ar 9) (fv 10) (wt_pr (ar 1) 0)) ∧ (wt_rv r (u.2.2 10) (ar 10) (fv 10) (wt_pr (ar 1) 1)) ∧ (wt_rv r (u.2.2 11) (ar 11) (fv 10) (wt_pr (ar 1) 2)) ∧ (wt_rv r (u.2.2 12) (ar 12) (fv 10) (wt_pr (ar 1) 3)) ∧ (wt_rv r (u.2.2 14) (ar 14) (fv 10) (wt_pr (ar 1) 5)) ∧ (wt_rv r (u.2.2 13) (ar 13) (fv 10) (10 * wt_pr (ar 1) 4)) ∧ (wt_ru r (u.2.2 15) (ar 15) (fv 10) (-1)) ∧ True) (enX dC dI ob ad cA) (aX ob ad sz)) 0 0 (aX ob ad sz) := by
  sorry
set_option maxHeartbeats 4000000 in
set_option maxRecDepth 100000 in
theorem x_giveE (l : Launch) (dC : Nat → ClassId) (dI : Nat → Nat → Nat) (sz : Nat) (ob ad : Nat → Nat) (cA : Nat → ClassId) (hd : dX ob ad) (fv : Nat → Int32) (wd : xT) (ar : Nat → Nat → Int32) (hF_fv : rX fv) (hA_ar : rB ar) (v : Int32) : Met l yX11_give (.code yX11_give cX11_give 2 (some .int) :: lw_good) ({ frames := 2, cells := 0, slots := 0, locals := 40 }) (va_Pc [.ref (ob 0), .int v] (prX dC dI ob ad cA fv wd ar sz)) (va_Qi (fun (r : Int32) (u : xS) => rX u.1 ∧ rB u.2.2 ∧ fM [8] fv u.1 ∧ fA [] ar u.2.2 ∧ u.2.1.2 = wd.2 ∧ (ps_give r (u.1 8) (fv 8) v) ∧ True) (enX dC dI ob ad cA) (aX ob ad sz)) 0 0 (aX ob ad sz) := by
  sorry
set_option maxHeartbeats 4000000 in
set_option maxRecDepth 100000 in
theorem x_wheeledE (l : Launch) (dC : Nat → ClassId) (dI : Nat → Nat → Nat) (sz : Nat) (ob ad : Nat → Nat) (cA : Nat → ClassId) (hd : dX ob ad) (fv : Nat → Int32) (wd : xT) (ar : Nat → Nat → Int32) (hF_fv : rX fv) (hA_ar : rB ar) (a : Int32) (b : Int32) : Met l yX11_wheeled (.code yX11_wheeled cX11_wheeled 3 (some .int) :: lw_good) ({ frames := 3, cells := 0, slots := 0, locals := 62 }) (va_Pc [.ref (ob 0), .int a, .int b] (prX dC dI ob ad cA fv wd ar sz)) (va_Qi (fun (r : Int32) (u : xS) => rX u.1 ∧ rB u.2.2 ∧ fM [] fv u.1 ∧ fA [] ar u.2.2 ∧ u.2.1.2 = wd.2 ∧ (((a.toInt < 0 ∨ (fv 11).toInt ≤ a.toInt) ∧ r = -1) ∨ (¬ (a.toInt < 0 ∨ (fv 11).toInt ≤ a.toInt) ∧ r = mo_w4 b.toInt (ar 25 (a.toInt.toNat)) (ar 26 (a.toInt.toNat)) (ar 24 (a.toInt.toNat)) (ar 27 (a.toInt.toNat)))) ∧ True) (enX dC dI ob ad cA) (aX ob ad sz)) 0 0 (aX ob ad sz) := by
  sorry
set_option maxHeartbeats 4000000 in
set_option maxRecDepth 100000 in
theorem x_rodeE (l : Launch) (dC : Nat → ClassId) (dI : Nat → Nat → Nat) (sz : Nat) (ob ad : Nat → Nat) (cA : Nat → ClassId) (hd : dX ob ad) (fv : Nat → Int32) (wd : xT) (ar : Nat → Nat → Int32) (hF_fv : rX fv) (hA_ar : rB ar) (a : Int32) : Met l yX11_rode (.code yX11_rode cX11_rode 2 (some .int) :: lw_good) ({ frames := 3, cells := 0, slots := 0, locals := 61 }) (va_Pc [.ref (ob 0), .int a] (prX dC dI ob ad cA fv wd ar sz)) (va_Qi (fun (r : Int32) (u : xS) => rX u.1 ∧ rB u.2.2 ∧ fM [] fv u.1 ∧ fA [] ar u.2.2 ∧ u.2.1.2 = wd.2 ∧ (((a.toInt < 0 ∨ (fv 12).toInt ≤ a.toInt) ∧ r = -1) ∨ (¬ (a.toInt < 0 ∨ (fv 12).toInt ≤ a.toInt) ∧ r = ar 35 (a.toInt.toNat))) ∧ True) (enX dC dI ob ad cA) (aX ob ad sz)) 0 0 (aX ob ad sz) := by
  sorry
set_option maxHeartbeats 4000000 in
set_option maxRecDepth 100000 in
theorem x_countE (l : Launch) (dC : Nat → ClassId) (dI : Nat → Nat → Nat) (sz : Nat) (ob ad : Nat → Nat) (cA : Nat → ClassId) (hd : dX ob ad) (fv : Nat → Int32) (wd : xT) (ar : Nat → Nat → Int32) (hF_fv : rX fv) (hA_ar : rB ar) (a : Int32) : Met l yX11_count (.code yX11_count cX11_count 2 (some .int) :: lw_good) ({ frames := 3, cells := 0, slots := 0, locals := 60 }) (va_Pc [.ref (ob 0), .int a] (prX dC dI ob ad cA fv wd ar sz)) (va_Qi (fun (r : Int32) (u : xS) => rX u.1 ∧ rB u.2.2 ∧ fM [] fv u.1 ∧ fA [] ar u.2.2 ∧ u.2.1.2 = wd.2 ∧ (r = mo_c8 a.toInt (fv 7) (fv 10) (fv 4) (fv 11) (fv 12) (fv 30) (fv 8) (fv 0)) ∧ True) (enX dC dI ob ad cA) (aX ob ad sz)) 0 0 (aX ob ad sz) := by
  sorry
set_option maxHeartbeats 4000000 in
set_option maxRecDepth 100000 in
theorem m_morningE (l : Launch) (dC : Nat → ClassId) (dI : Nat → Nat → Nat) (sz h : Nat) (ad : Nat → Nat) (cA : Nat → ClassId) (hd : dM h ad) (fv : Nat → Int32) (wd : Int64) (ar : Nat → Nat → Int32) (hF_fv : rF fv) (hA_ar : rA ar) (G9 : Nat → Int) (w9 : Nat → Int32) (hwh : mo_wh (mm_D w9 fv ar)) (hp_sW : sW ar) (hp_vM : vM fv ar) (hp_nR : mm_R G9 fv ar) (hp_nL : mm_L fv ar) (hp_mF : wt_fm G9 (fv 8) (ar 4)) : Met l yX12_morning (.code yX12_morning cX12_morning 2 (some .int) :: lw_good) ({ frames := 10, cells := 0, slots := 0, locals := 225 }) (va_Pc [.ref h] (prM dC dI h ad cA fv wd ar sz)) (va_Qi (fun (r : Int32) (u : mS) => rF u.1 ∧ rA u.2.2 ∧ fM [0, 8, 36, 66, 84, 85, 86, 87] fv u.1 ∧ fA [4, 15, 16, 18, 24, 64, 65, 68, 69, 70, 71, 72, 73, 74, 75, 76, 77, 78, 79, 80, 81, 82, 83] ar u.2.2 ∧ (((fv 86).toInt = (fv 3).toInt ∧ r = -1 ∧ u.2.2 = ar ∧ u.1 36 = fv 36 ∧ u.1 86 = fv 86) ∨ (¬ (fv 86).toInt = (fv 3).toInt ∧ u.1 86 = fv 3 ∧ (∀ r9 : Nat, r9 ≠ 0 → mm_T u.1 u.2.2 r9 = (mo_md (mm_D w9 (upd fv 84 (-1 : Int32)) ar) G9 (mo_A (mm_D w9 (upd fv 84 (-1 : Int32)) ar) (mm_W fv ar)) ((fv 32).toInt.toNat) ((fv 34).toInt.toNat) (mm_Ts (mm_D w9 (upd fv 84 (-1 : Int32)) ar) (mm_T fv ar) ((fv 32).toInt.toNat) ((fv 34).toInt.toNat) ((fv 35).toInt.toNat)) 840) r9) ∧ (∀ i9 : Nat, u.2.2 73 i9 = (if i9 < ((fv 32).toInt.toNat) then mo_late ((mo_md (mm_D w9 (upd fv 84 (-1 : Int32)) ar) G9 (mo_A (mm_D w9 (upd fv 84 (-1 : Int32)) ar) (mm_W fv ar)) ((fv 32).toInt.toNat) ((fv 34).toInt.toNat) (mm_Ts (mm_D w9 (upd fv 84 (-1 : Int32)) ar) (mm_T fv ar) ((fv 32).toInt.toNat) ((fv 34).toInt.toNat) ((fv 35).toInt.toNat)) 840) 2 i9) (ar 13 i9) else ar 73 i9) ∧ u.2.2 16 i9 = (if i9 < ((fv 32).toInt.toNat) then mo_pur ((mo_md (mm_D w9 (upd fv 84 (-1 : Int32)) ar) G9 (mo_A (mm_D w9 (upd fv 84 (-1 : Int32)) ar) (mm_W fv ar)) ((fv 32).toInt.toNat) ((fv 34).toInt.toNat) (mm_Ts (mm_D w9 (upd fv 84 (-1 : Int32)) ar) (mm_T fv ar) ((fv 32).toInt.toNat) ((fv 34).toInt.toNat) ((fv 35).toInt.toNat)) 840) 0 i9) (mo_wage (mm_dk fv ar) (ar 11 i9) (mo_late ((mo_md (mm_D w9 (upd fv 84 (-1 : Int32)) ar) G9 (mo_A (mm_D w9 (upd fv 84 (-1 : Int32)) ar) (mm_W fv ar)) ((fv 32).toInt.toNat) ((fv 34).toInt.toNat) (mm_Ts (mm_D w9 (upd fv 84 (-1 : Int32)) ar) (mm_T fv ar) ((fv 32).toInt.toNat) ((fv 34).toInt.toNat) ((fv 35).toInt.toNat)) 840) 2 i9) (ar 13 i9))) else (mo_md (mm_D w9 (upd fv 84 (-1 : Int32)) ar) G9 (mo_A (mm_D w9 (upd fv 84 (-1 : Int32)) ar) (mm_W fv ar)) ((fv 32).toInt.toNat) ((fv 34).toInt.toNat) (mm_Ts (mm_D w9 (upd fv 84 (-1 : Int32)) ar) (mm_T fv ar) ((fv 32).toInt.toNat) ((fv 34).toInt.toNat) ((fv 35).toInt.toNat)) 840) 0 i9)) ∧ mm_cp (ar 81) ((mo_md (mm_D w9 (upd fv 84 (-1 : Int32)) ar) G9 (mo_A (mm_D w9 (upd fv 84 (-1 : Int32)) ar) (mm_W fv ar)) ((fv 32).toInt.toNat) ((fv 34).toInt.toNat) (mm_Ts (mm_D w9 (upd fv 84 (-1 : Int32)) ar) (mm_T fv ar) ((fv 32).toInt.toNat) ((fv 34).toInt.toNat) ((fv 35).toInt.toNat)) 840) 12) (u.2.2 81) ((fv 35).toInt.toNat) ∧ r.toInt = mo_ot (mm_D w9 (upd fv 84 (-1 : Int32)) ar) (mo_md (mm_D w9 (upd fv 84 (-1 : Int32)) ar) G9 (mo_A (mm_D w9 (upd fv 84 (-1 : Int32)) ar) (mm_W fv ar)) ((fv 32).toInt.toNat) ((fv 34).toInt.toNat) (mm_Ts (mm_D w9 (upd fv 84 (-1 : Int32)) ar) (mm_T fv ar) ((fv 32).toInt.toNat) ((fv 34).toInt.toNat) ((fv 35).toInt.toNat)) 840) ((fv 32).toInt.toNat))) ∧ (sW u.2.2) ∧ (wt_fm G9 (u.1 8) (u.2.2 4)) ∧ True) (enM dC dI h ad cA) (aM h ad sz)) 0 0 (aM h ad sz) := by
  sorry
set_option maxHeartbeats 4000000 in
set_option maxRecDepth 100000 in
theorem m_triedE (l : Launch) (dC : Nat → ClassId) (dI : Nat → Nat → Nat) (sz h : Nat) (ad : Nat → Nat) (cA : Nat → ClassId) (hd : dM h ad) (fv : Nat → Int32) (wd : Int64) (ar : Nat → Nat → Int32) (hF_fv : rF fv) (hA_ar : rA ar) (G9 : Nat → Int) (w9 : Nat → Int32) (a : Int32) (hwh : mo_wh (mm_D w9 fv ar)) (hp_sW : sW ar) (hp_vM : vM fv ar) (hp_nR : mm_R G9 fv ar) (hp_nL : mm_L fv ar) (hp_mF : wt_fm G9 (fv 8) (ar 4)) : Met l yX12_tried (.code yX12_tried cX12_tried 4 (some .int) :: lw_good) ({ frames := 10, cells := 0, slots := 0, locals := 225 }) (va_Pc [.ref h, .int a] (prM dC dI h ad cA fv wd ar sz)) (va_Qi (fun (r : Int32) (u : mS) => rF u.1 ∧ rA u.2.2 ∧ fM [0, 8, 36, 66, 84, 85, 87, 89] fv u.1 ∧ fA [4, 15, 16, 18, 24, 64, 65, 68, 69, 70, 71, 72, 73, 74, 75, 76, 77, 78, 79, 80, 82, 83, 88] ar u.2.2 ∧ (((a.toInt < 0 ∨ (fv 34).toInt ≤ a.toInt ∨ (fv 86).toInt = (fv 3).toInt) ∧ r = -1 ∧ u.2.2 = ar ∧ u.1 36 = fv 36) ∨ (¬ (a.toInt < 0 ∨ (fv 34).toInt ≤ a.toInt ∨ (fv 86).toInt = (fv 3).toInt) ∧ r.toInt = mo_ot (mm_D w9 (upd fv 84 a) ar) (mo_md (mm_D w9 (upd fv 84 a) ar) G9 (mo_A (mm_D w9 (upd fv 84 a) ar) (mm_W fv ar)) ((fv 32).toInt.toNat) ((fv 34).toInt.toNat) (mm_Ts (mm_D w9 (upd fv 84 a) ar) (mm_T fv ar) ((fv 32).toInt.toNat) ((fv 34).toInt.toNat) ((fv 35).toInt.toNat)) 840) ((fv 32).toInt.toNat) ∧ u.1 36 = fv 36 ∧ (∀ i9 : Nat, u.2.2 15 i9 = if i9 < ((fv 32).toInt.toNat) then ar 15 i9 else (mo_md (mm_D w9 (upd fv 84 a) ar) G9 (mo_A (mm_D w9 (upd fv 84 a) ar) (mm_W fv ar)) ((fv 32).toInt.toNat) ((fv 34).toInt.toNat) (mm_Ts (mm_D w9 (upd fv 84 a) ar) (mm_T fv ar) ((fv 32).toInt.toNat) ((fv 34).toInt.toNat) ((fv 35).toInt.toNat)) 840) 1 i9) ∧ (∀ i9 : Nat, u.2.2 16 i9 = if i9 < ((fv 32).toInt.toNat) then ar 16 i9 else (mo_md (mm_D w9 (upd fv 84 a) ar) G9 (mo_A (mm_D w9 (upd fv 84 a) ar) (mm_W fv ar)) ((fv 32).toInt.toNat) ((fv 34).toInt.toNat) (mm_Ts (mm_D w9 (upd fv 84 a) ar) (mm_T fv ar) ((fv 32).toInt.toNat) ((fv 34).toInt.toNat) ((fv 35).toInt.toNat)) 840) 0 i9) ∧ (∀ i9 : Nat, u.2.2 18 i9 = if i9 < ((fv 32).toInt.toNat) then ar 18 i9 else (mo_md (mm_D w9 (upd fv 84 a) ar) G9 (mo_A (mm_D w9 (upd fv 84 a) ar) (mm_W fv ar)) ((fv 32).toInt.toNat) ((fv 34).toInt.toNat) (mm_Ts (mm_D w9 (upd fv 84 a) ar) (mm_T fv ar) ((fv 32).toInt.toNat) ((fv 34).toInt.toNat) ((fv 35).toInt.toNat)) 840) 16 i9) ∧ (∀ i9 : Nat, u.2.2 72 i9 = if i9 < ((fv 32).toInt.toNat) then ar 72 i9 else (mo_md (mm_D w9 (upd fv 84 a) ar) G9 (mo_A (mm_D w9 (upd fv 84 a) ar) (mm_W fv ar)) ((fv 32).toInt.toNat) ((fv 34).toInt.toNat) (mm_Ts (mm_D w9 (upd fv 84 a) ar) (mm_T fv ar) ((fv 32).toInt.toNat) ((fv 34).toInt.toNat) ((fv 35).toInt.toNat)) 840) 2 i9) ∧ (∀ i9 : Nat, u.2.2 73 i9 = if i9 < ((fv 32).toInt.toNat) then ar 73 i9 else ar 73 i9) ∧ (∀ i9 : Nat, u.2.2 74 i9 = if i9 < ((fv 32).toInt.toNat) then ar 74 i9 else (mo_md (mm_D w9 (upd fv 84 a) ar) G9 (mo_A (mm_D w9 (upd fv 84 a) ar) (mm_W fv ar)) ((fv 32).toInt.toNat) ((fv 34).toInt.toNat) (mm_Ts (mm_D w9 (upd fv 84 a) ar) (mm_T fv ar) ((fv 32).toInt.toNat) ((fv 34).toInt.toNat) ((fv 35).toInt.toNat)) 840) 3 i9) ∧ (∀ i9 : Nat, u.2.2 75 i9 = if i9 < ((fv 32).toInt.toNat) then ar 75 i9 else (mo_md (mm_D w9 (upd fv 84 a) ar) G9 (mo_A (mm_D w9 (upd fv 84 a) ar) (mm_W fv ar)) ((fv 32).toInt.toNat) ((fv 34).toInt.toNat) (mm_Ts (mm_D w9 (upd fv 84 a) ar) (mm_T fv ar) ((fv 32).toInt.toNat) ((fv 34).toInt.toNat) ((fv 35).toInt.toNat)) 840) 4 i9) ∧ (∀ i9 : Nat, u.2.2 24 i9 = if i9 < ((fv 34).toInt.toNat) then ar 24 i9 else (mo_md (mm_D w9 (upd fv 84 a) ar) G9 (mo_A (mm_D w9 (upd fv 84 a) ar) (mm_W fv ar)) ((fv 32).toInt.toNat) ((fv 34).toInt.toNat) (mm_Ts (mm_D w9 (upd fv 84 a) ar) (mm_T fv ar) ((fv 32).toInt.toNat) ((fv 34).toInt.toNat) ((fv 35).toInt.toNat)) 840) 7 i9) ∧ (∀ i9 : Nat, u.2.2 76 i9 = if i9 < ((fv 34).toInt.toNat) then ar 76 i9 else (mo_md (mm_D w9 (upd fv 84 a) ar) G9 (mo_A (mm_D w9 (upd fv 84 a) ar) (mm_W fv ar)) ((fv 32).toInt.toNat) ((fv 34).toInt.toNat) (mm_Ts (mm_D w9 (upd fv 84 a) ar) (mm_T fv ar) ((fv 32).toInt.toNat) ((fv 34).toInt.toNat) ((fv 35).toInt.toNat)) 840) 10 i9) ∧ (∀ i9 : Nat, u.2.2 78 i9 = if i9 < ((fv 34).toInt.toNat) then ar 78 i9 else (mo_md (mm_D w9 (upd fv 84 a) ar) G9 (mo_A (mm_D w9 (upd fv 84 a) ar) (mm_W fv ar)) ((fv 32).toInt.toNat) ((fv 34).toInt.toNat) (mm_Ts (mm_D w9 (upd fv 84 a) ar) (mm_T fv ar) ((fv 32).toInt.toNat) ((fv 34).toInt.toNat) ((fv 35).toInt.toNat)) 840) 8 i9) ∧ (∀ i9 : Nat, u.2.2 79 i9 = if i9 < ((fv 34).toInt.toNat) then ar 79 i9 else (mo_md (mm_D w9 (upd fv 84 a) ar) G9 (mo_A (mm_D w9 (upd fv 84 a) ar) (mm_W fv ar)) ((fv 32).toInt.toNat) ((fv 34).toInt.toNat) (mm_Ts (mm_D w9 (upd fv 84 a) ar) (mm_T fv ar) ((fv 32).toInt.toNat) ((fv 34).toInt.toNat) ((fv 35).toInt.toNat)) 840) 9 i9))) ∧ (sW u.2.2) ∧ (wt_fm G9 (u.1 8) (u.2.2 4)) ∧ True) (enM dC dI h ad cA) (aM h ad sz)) 0 0 (aM h ad sz) := by
  sorry
set_option maxHeartbeats 4000000 in
set_option maxRecDepth 100000 in
theorem m_stopR (l : Launch) (dC : Nat → ClassId) (dI : Nat → Nat → Nat) (sz h : Nat) (ad : Nat → Nat) (cA : Nat → ClassId) (hd : dM h ad) (fv : Nat → Int32) (wd : Int64) (ar : Nat → Nat → Int32) (hF_fv : rF fv) (hA_ar : rA ar) (v : Int32) : Met l yX12_stop (.code yX12_stop cX12_stop 2 (some .int) :: lw_good) ({ frames := 3, cells := 0, slots := 0, locals := 60 }) (va_Pc [.ref h, .int v] (prM dC dI h ad cA fv wd ar sz)) (va_Qi (fun (r : Int32) (u : mS) => rF u.1 ∧ rA u.2.2 ∧ fM [0, 33] fv u.1 ∧ fA [19] ar u.2.2 ∧ ((r = -1 ∧ u.1 33 = fv 33 ∧ (v.toInt < 0 ∨ 11 < v.toInt ∨ 8 ≤ (fv 33).toInt)) ∨ (r.toInt = (fv 33).toInt ∧ (u.1 33).toInt = (fv 33).toInt + 1 ∧ ¬ (v.toInt < 0 ∨ 11 < v.toInt ∨ 8 ≤ (fv 33).toInt))) ∧ (wt_ru r (u.2.2 19) (ar 19) (fv 33) v) ∧ True) (enM dC dI h ad cA) (aM h ad sz)) 0 0 (aM h ad sz) := by
  sorry
set_option maxHeartbeats 4000000 in
set_option maxRecDepth 100000 in
theorem m_wheelS (l : Launch) (dC : Nat → ClassId) (dI : Nat → Nat → Nat) (sz h : Nat) (ad : Nat → Nat) (cA : Nat → ClassId) (hd : dM h ad) (fv : Nat → Int32) (wd : Int64) (ar : Nat → Nat → Int32) (hF_fv : rF fv) (hA_ar : rA ar) (a : Int32) (b : Int32) (v : Int32) (d : Int32) : Met l yX12_wheel (.code yX12_wheel cX12_wheel 5 (some .int) :: lw_good) ({ frames := 3, cells := 0, slots := 0, locals := 62 }) (va_Pc [.ref h, .int a, .int b, .int v, .int d] (prM dC dI h ad cA fv wd ar sz)) (va_Qi (fun (r : Int32) (u : mS) => rF u.1 ∧ rA u.2.2 ∧ fM [0, 34] fv u.1 ∧ fA [20, 21, 22, 23, 76] ar u.2.2 ∧ (ps_wheel r (u.1 34) (fv 34) (fv 33) a b v d) ∧ (wt_ru r (u.2.2 20) (ar 20) (fv 34) a) ∧ (wt_ru r (u.2.2 22) (ar 22) (fv 34) v) ∧ (wt_ru r (u.2.2 23) (ar 23) (fv 34) d) ∧ (wt_ru r (u.2.2 21) (ar 21) (fv 34) b) ∧ (wt_ru r (u.2.2 76) (ar 76) (fv 34) b) ∧ True) (enM dC dI h ad cA) (aM h ad sz)) 0 0 (aM h ad sz) := by
  sorry
set_option maxHeartbeats 4000000 in
set_option maxRecDepth 100000 in
theorem m_tripS (l : Launch) (dC : Nat → ClassId) (dI : Nat → Nat → Nat) (sz h : Nat) (ad : Nat → Nat) (cA : Nat → ClassId) (hd : dM h ad) (fv : Nat → Int32) (wd : Int64) (ar : Nat → Nat → Int32) (hF_fv : rF fv) (hA_ar : rA ar) (a : Int32) (b : Int32) (v : Int32) (d : Int32) (f : Int32) (g : Int32) : Met l yX12_trip (.code yX12_trip cX12_trip 7 (some .int) :: lw_good) ({ frames := 3, cells := 0, slots := 0, locals := 62 }) (va_Pc [.ref h, .int a, .int b, .int v, .int d, .int f, .int g] (prM dC dI h ad cA fv wd ar sz)) (va_Qi (fun (r : Int32) (u : mS) => rF u.1 ∧ rA u.2.2 ∧ fM [0, 35] fv u.1 ∧ fA [25, 26, 27, 28, 29, 30, 31, 81] ar u.2.2 ∧ (ps_trip r (u.1 35) (fv 35) (fv 34) (fv 33) (fv 3) a b v d f g) ∧ (wt_ru r (u.2.2 25) (ar 25) (fv 35) a) ∧ (wt_ru r (u.2.2 26) (ar 26) (fv 35) b) ∧ (wt_ru r (u.2.2 27) (ar 27) (fv 35) v) ∧ (wt_ru r (u.2.2 28) (ar 28) (fv 35) d) ∧ (wt_ru r (u.2.2 29) (ar 29) (fv 35) f) ∧ (wt_ru r (u.2.2 30) (ar 30) (fv 35) g) ∧ (wt_ru r (u.2.2 31) (ar 31) (fv 35) (fv 3)) ∧ (wt_ru r (u.2.2 81) (ar 81) (fv 35) (-1)) ∧ True) (enM dC dI h ad cA) (aM h ad sz)) 0 0 (aM h ad sz) := by
  sorry
set_option maxHeartbeats 4000000 in
set_option maxRecDepth 100000 in
theorem m_personR (l : Launch) (dC : Nat → ClassId) (dI : Nat → Nat → Nat) (sz h : Nat) (ad : Nat → Nat) (cA : Nat → ClassId) (hd : dM h ad) (fv : Nat → Int32) (wd : Int64) (ar : Nat → Nat → Int32) (hF_fv : rF fv) (hA_ar : rA ar) (a : Int32) (b : Int32) (v : Int32) : Met l yX12_person (.code yX12_person cX12_person 5 (some .int) :: lw_good) ({ frames := 3, cells := 0, slots := 0, locals := 62 }) (va_Pc [.ref h, .int a, .int b, .int v] (prM dC dI h ad cA fv wd ar sz)) (va_Qi (fun (r : Int32) (u : mS) => rF u.1 ∧ rA u.2.2 ∧ fM [0, 2, 32] fv u.1 ∧ fA [9, 10, 11, 12, 13, 14, 15, 16, 17, 72] ar u.2.2 ∧ (wt_person r (u.1 32) (fv 32) (fv 2) (ar 1) a b v) ∧ ((u.1 2).toInt = 0) ∧ (wt_ru r (u.2.2 9) (ar 9) (fv 32) a) ∧ (wt_ru r (u.2.2 10) (ar 10) (fv 32) b) ∧ (wt_ru r (u.2.2 11) (ar 11) (fv 32) v) ∧ (wt_rv r (u.2.2 12) (ar 12) (fv 32) (wt_pr (ar 1) 0)) ∧ (wt_rv r (u.2.2 13) (ar 13) (fv 32) (wt_pr (ar 1) 1)) ∧ (wt_rv r (u.2.2 14) (ar 14) (fv 32) (wt_pr (ar 1) 2)) ∧ (wt_rv r (u.2.2 15) (ar 15) (fv 32) (wt_pr (ar 1) 3)) ∧ (wt_rv r (u.2.2 17) (ar 17) (fv 32) (wt_pr (ar 1) 5)) ∧ (wt_rv r (u.2.2 16) (ar 16) (fv 32) (10 * wt_pr (ar 1) 4)) ∧ (wt_ru r (u.2.2 72) (ar 72) (fv 32) (-1)) ∧ True) (enM dC dI h ad cA) (aM h ad sz)) 0 0 (aM h ad sz) := by
  sorry
set_option maxHeartbeats 4000000 in
set_option maxRecDepth 100000 in
theorem m_giveE (l : Launch) (dC : Nat → ClassId) (dI : Nat → Nat → Nat) (sz h : Nat) (ad : Nat → Nat) (cA : Nat → ClassId) (hd : dM h ad) (fv : Nat → Int32) (wd : Int64) (ar : Nat → Nat → Int32) (hF_fv : rF fv) (hA_ar : rA ar) (v : Int32) : Met l yX12_give (.code yX12_give cX12_give 2 (some .int) :: lw_good) ({ frames := 3, cells := 0, slots := 0, locals := 62 }) (va_Pc [.ref h, .int v] (prM dC dI h ad cA fv wd ar sz)) (va_Qi (fun (r : Int32) (u : mS) => rF u.1 ∧ rA u.2.2 ∧ fM [0, 36] fv u.1 ∧ fA [] ar u.2.2 ∧ (ps_give r (u.1 36) (fv 36) v) ∧ True) (enM dC dI h ad cA) (aM h ad sz)) 0 0 (aM h ad sz) := by
  sorry
set_option maxHeartbeats 4000000 in
set_option maxRecDepth 100000 in
theorem m_rodeE (l : Launch) (dC : Nat → ClassId) (dI : Nat → Nat → Nat) (sz h : Nat) (ad : Nat → Nat) (cA : Nat → ClassId) (hd : dM h ad) (fv : Nat → Int32) (wd : Int64) (ar : Nat → Nat → Int32) (hF_fv : rF fv) (hA_ar : rA ar) (a : Int32) : Met l yX12_rode (.code yX12_rode cX12_rode 2 (some .int) :: lw_good) ({ frames := 3, cells := 0, slots := 0, locals := 62 }) (va_Pc [.ref h, .int a] (prM dC dI h ad cA fv wd ar sz)) (va_Qi (fun (r : Int32) (u : mS) => rF u.1 ∧ rA u.2.2 ∧ fM [0] fv u.1 ∧ fA [] ar u.2.2 ∧ (((a.toInt < 0 ∨ (fv 35).toInt ≤ a.toInt) ∧ r = -1) ∨ (¬ (a.toInt < 0 ∨ (fv 35).toInt ≤ a.toInt) ∧ r = ar 81 (a.toInt.toNat))) ∧ True) (enM dC dI h ad cA) (aM h ad sz)) 0 0 (aM h ad sz) := by
  sorry
set_option maxHeartbeats 4000000 in
set_option maxRecDepth 100000 in
theorem m_wheeledE (l : Launch) (dC : Nat → ClassId) (dI : Nat → Nat → Nat) (sz h : Nat) (ad : Nat → Nat) (cA : Nat → ClassId) (hd : dM h ad) (fv : Nat → Int32) (wd : Int64) (ar : Nat → Nat → Int32) (hF_fv : rF fv) (hA_ar : rA ar) (a : Int32) (b : Int32) : Met l yX12_wheeled (.code yX12_wheeled cX12_wheeled 3 (some .int) :: lw_good) ({ frames := 3, cells := 0, slots := 0, locals := 61 }) (va_Pc [.ref h, .int a, .int b] (prM dC dI h ad cA fv wd ar sz)) (va_Qi (fun (r : Int32) (u : mS) => rF u.1 ∧ rA u.2.2 ∧ fM [0] fv u.1 ∧ fA [] ar u.2.2 ∧ (((a.toInt < 0 ∨ (fv 34).toInt ≤ a.toInt) ∧ r = -1) ∨ (¬ (a.toInt < 0 ∨ (fv 34).toInt ≤ a.toInt) ∧ r = mo_w4 b.toInt (ar 78 (a.toInt.toNat)) (ar 79 (a.toInt.toNat)) (ar 24 (a.toInt.toNat)) (ar 76 (a.toInt.toNat)))) ∧ True) (enM dC dI h ad cA) (aM h ad sz)) 0 0 (aM h ad sz) := by
  sorry
set_option maxHeartbeats 4000000 in
set_option maxRecDepth 100000 in
theorem m_countE (l : Launch) (dC : Nat → ClassId) (dI : Nat → Nat → Nat) (sz h : Nat) (ad : Nat → Nat) (cA : Nat → ClassId) (hd : dM h ad) (fv : Nat → Int32) (wd : Int64) (ar : Nat → Nat → Int32) (hF_fv : rF fv) (hA_ar : rA ar) (a : Int32) : Met l yX12_count (.code yX12_count cX12_count 2 (some .int) :: lw_good) ({ frames := 2, cells := 0, slots := 0, locals := 40 }) (va_Pc [.ref h, .int a] (prM dC dI h ad cA fv wd ar sz)) (va_Qi (fun (r : Int32) (u : mS) => rF u.1 ∧ rA u.2.2 ∧ fM [0] fv u.1 ∧ fA [] ar u.2.2 ∧ (r = mo_c8 a.toInt (fv 3) (fv 32) (fv 33) (fv 34) (fv 35) (fv 58) (fv 36) (fv 2)) ∧ True) (enM dC dI h ad cA) (aM h ad sz)) 0 0 (aM h ad sz) := by
  sorry
set_option maxHeartbeats 4000000 in
set_option maxRecDepth 100000 in
theorem m_ofE (l : Launch) (dC : Nat → ClassId) (dI : Nat → Nat → Nat) (sz h : Nat) (ad : Nat → Nat) (cA : Nat → ClassId) (hd : dM h ad) (fv : Nat → Int32) (wd : Int64) (ar : Nat → Nat → Int32) (hF_fv : rF fv) (hA_ar : rA ar) (a : Int32) (b : Int32) : Met l yX12_of (.code yX12_of cX12_of 3 (some .int) :: lw_good) ({ frames := 3, cells := 0, slots := 0, locals := 62 }) (va_Pc [.ref h, .int a, .int b] (prM dC dI h ad cA fv wd ar sz)) (va_Qi (fun (r : Int32) (u : mS) => rF u.1 ∧ rA u.2.2 ∧ fM [0] fv u.1 ∧ fA [] ar u.2.2 ∧ (((a.toInt < 0 ∨ (fv 32).toInt ≤ a.toInt ∨ b.toInt < 0 ∨ 6 < b.toInt) ∧ u.1 0 = 1) ∨ (¬ (a.toInt < 0 ∨ (fv 32).toInt ≤ a.toInt ∨ b.toInt < 0 ∨ 6 < b.toInt) ∧ u.1 0 = 0 ∧ r = mo_o7 b.toInt (ar 72 (a.toInt.toNat)) (ar 73 (a.toInt.toNat)) (ar 74 (a.toInt.toNat)) (ar 75 (a.toInt.toNat)) (ar 16 (a.toInt.toNat)) (ar 15 (a.toInt.toNat)) (ar 18 (a.toInt.toNat)))) ∧ True) (enM dC dI h ad cA) (aM h ad sz)) 0 0 (aM h ad sz) := by
  sorry
def tkS : List Nat := [131, 139, 142, 145, 148, 151, 154, 157, 160, 163, 166, 169, 172, 175, 178, 181, 184, 187, 190, 193, 196, 199, 202, 205, 208, 211, 214, 217, 220, 223, 223, 223]
def tkX : List (List Int32) := [[99, 97, 114, 114, 121], [115, 116, 111, 112], [102, 97, 114, 101], [104, 111, 108, 100], [102, 105, 110, 101], [103, 97, 115], [100, 111, 99, 107], [99, 97, 114], [119, 97, 103, 111, 110], [116, 97, 120, 105], [105, 110, 115, 117, 114, 101, 100], [114, 105, 100, 101, 114, 115], [115, 101, 97, 116, 115], [114, 97, 105, 110], [109, 105, 110, 117, 116, 101], [100, 97, 121], [102, 114, 111, 109], [116, 111], [116, 105, 109, 101, 115], [60], [61], [62], [110, 111, 116], [105, 102], [97, 110, 100], [111, 114], [59], [40], [41], [], [], []]
set_option maxRecDepth 100000 in
theorem g_ex_ : ∀ i, i < 32 → (flatC (Jvm.Cond.and given_1 narrow_1))[([107, 112, 117, 122, 127, 132, 65, 137, 142, 147, 152, 157, 162, 167, 172, 177, 182, 187, 192, 197, 202, 207, 70, 75, 90, 95, 100, 80, 85, 8, 60, 13] : List Nat).getD i 0]? = some (Cond.exactly (.static RX6 (tkN.getD i "") "LWalkingTown$Token;") RX6) := by decide +kernel
theorem g_ex : ∀ i, i < 32 → (Cond.exactly (.static RX6 (tkN.getD i "") "LWalkingTown$Token;") RX6) ∈ flatC (Jvm.Cond.and given_1 narrow_1) := fun i hi => List.mem_of_getElem? (g_ex_ i hi)
set_option maxRecDepth 100000 in
theorem g_or_ : ∀ i, i < 32 → (flatC (Jvm.Cond.and given_1 narrow_1))[([108, 113, 118, 123, 128, 133, 66, 138, 143, 148, 153, 158, 163, 168, 173, 178, 183, 188, 193, 198, 203, 208, 71, 76, 91, 96, 101, 81, 86, 9, 61, 14] : List Nat).getD i 0]? = some (Cond.eq (.field (.static RX6 (tkN.getD i "") "LWalkingTown$Token;") "java/lang/Enum" "ordinal" "I") (.int (Int32.ofNat i))) := by decide +kernel
theorem g_or : ∀ i, i < 32 → (Cond.eq (.field (.static RX6 (tkN.getD i "") "LWalkingTown$Token;") "java/lang/Enum" "ordinal" "I") (.int (Int32.ofNat i))) ∈ flatC (Jvm.Cond.and given_1 narrow_1) := fun i hi => List.mem_of_getElem? (g_or_ i hi)
set_option maxRecDepth 100000 in
theorem g_fr_ : ∀ i, i < 32 → (flatC (Jvm.Cond.and given_1 narrow_1))[([110, 115, 120, 125, 130, 135, 68, 140, 145, 150, 155, 160, 165, 170, 175, 180, 185, 190, 195, 200, 205, 210, 73, 78, 93, 98, 103, 83, 88, 11, 63, 16] : List Nat).getD i 0]? = some (Cond.eq (.field (.static RX6 (tkN.getD i "") "LWalkingTown$Token;") tkrole.1 tkrole.2.1 tkrole.2.2.1) (.int (tkrole.2.2.2.getD i 0))) := by decide +kernel
theorem g_fr : ∀ i, i < 32 → (Cond.eq (.field (.static RX6 (tkN.getD i "") "LWalkingTown$Token;") tkrole.1 tkrole.2.1 tkrole.2.2.1) (.int (tkrole.2.2.2.getD i 0))) ∈ flatC (Jvm.Cond.and given_1 narrow_1) := fun i hi => List.mem_of_getElem? (g_fr_ i hi)
set_option maxRecDepth 100000 in
theorem g_fc_ : ∀ i, i < 32 → (flatC (Jvm.Cond.and given_1 narrow_1))[([111, 116, 121, 126, 131, 136, 69, 141, 146, 151, 156, 161, 166, 171, 176, 181, 186, 191, 196, 201, 206, 211, 74, 79, 94, 99, 104, 84, 89, 12, 64, 17] : List Nat).getD i 0]? = some (Cond.eq (.field (.static RX6 (tkN.getD i "") "LWalkingTown$Token;") tkcode.1 tkcode.2.1 tkcode.2.2.1) (.int (tkcode.2.2.2.getD i 0))) := by decide +kernel
theorem g_fc : ∀ i, i < 32 → (Cond.eq (.field (.static RX6 (tkN.getD i "") "LWalkingTown$Token;") tkcode.1 tkcode.2.1 tkcode.2.2.1) (.int (tkcode.2.2.2.getD i 0))) ∈ flatC (Jvm.Cond.and given_1 narrow_1) := fun i hi => List.mem_of_getElem? (g_fc_ i hi)
theorem g_f : ∀ q ∈ tkF, ∀ i, i < 32 → (Cond.eq (.field (.static RX6 (tkN.getD i "") "LWalkingTown$Token;") q.1 q.2.1 q.2.2.1) (.int (q.2.2.2.getD i 0))) ∈ flatC (Jvm.Cond.and given_1 narrow_1) := by
  intro q hq i hi
  rcases List.mem_cons.mp hq with rfl | hq
  · exact g_fr i hi
  · rcases List.mem_cons.mp hq with rfl | hq
    · exact g_fc i hi
    · cases hq
set_option maxRecDepth 100000 in
theorem g_tx_ : ∀ i, i < 32 → (flatC (Jvm.Cond.and given_1 narrow_1))[([109, 114, 119, 124, 129, 134, 67, 139, 144, 149, 154, 159, 164, 169, 174, 179, 184, 189, 194, 199, 204, 209, 72, 77, 92, 97, 102, 82, 87, 10, 62, 15] : List Nat).getD i 0]? = some (Cond.eq (.field (.static RX6 (tkN.getD i "") "LWalkingTown$Token;") RX6 "text" "Ljava/lang/String;") (.string RX6 (tkS.getD i 0))) := by decide +kernel
theorem g_tx : ∀ i, i < 32 → (Cond.eq (.field (.static RX6 (tkN.getD i "") "LWalkingTown$Token;") RX6 "text" "Ljava/lang/String;") (.string RX6 (tkS.getD i 0))) ∈ flatC (Jvm.Cond.and given_1 narrow_1) := fun i hi => List.mem_of_getElem? (g_tx_ i hi)
set_option maxRecDepth 100000 in
theorem g_sx_ : ∀ i, i < 32 → (flatC (Jvm.Cond.and given_1 narrow_1))[([323, 332, 340, 348, 356, 364, 274, 371, 378, 387, 395, 406, 416, 425, 433, 443, 450, 458, 464, 473, 478, 483, 282, 289, 305, 312, 318, 295, 300, 270, 270, 270] : List Nat).getD i 0]? = some (Cond.exactly (.string RX6 (tkS.getD i 0)) "java/lang/String") := by decide +kernel
theorem g_sx : ∀ i, i < 32 → (Cond.exactly (.string RX6 (tkS.getD i 0)) "java/lang/String") ∈ flatC (Jvm.Cond.and given_1 narrow_1) := fun i hi => List.mem_of_getElem? (g_sx_ i hi)
set_option maxRecDepth 100000 in
theorem g_co_ : ∀ i, i < 32 → (flatC (Jvm.Cond.and given_1 narrow_1))[([324, 333, 341, 349, 357, 365, 275, 372, 379, 388, 396, 407, 417, 426, 434, 444, 451, 459, 465, 474, 479, 484, 283, 290, 306, 313, 319, 296, 301, 271, 271, 271] : List Nat).getD i 0]? = some (Cond.eq (.field (.string RX6 (tkS.getD i 0)) "java/lang/String" "coder" "B") (.int 0)) := by decide +kernel
theorem g_co : ∀ i, i < 32 → (Cond.eq (.field (.string RX6 (tkS.getD i 0)) "java/lang/String" "coder" "B") (.int 0)) ∈ flatC (Jvm.Cond.and given_1 narrow_1) := fun i hi => List.mem_of_getElem? (g_co_ i hi)
set_option maxRecDepth 100000 in
theorem g_va_ : ∀ i, i < 32 → (flatC (Jvm.Cond.and given_1 narrow_1))[([325, 334, 342, 350, 358, 366, 276, 373, 380, 389, 397, 408, 418, 427, 435, 445, 452, 460, 466, 475, 480, 485, 284, 291, 307, 314, 320, 297, 302, 272, 272, 272] : List Nat).getD i 0]? = some (Cond.arrayOf (.field (.string RX6 (tkS.getD i 0)) "java/lang/String" "value" "[B") .byte) := by decide +kernel
theorem g_va : ∀ i, i < 32 → (Cond.arrayOf (.field (.string RX6 (tkS.getD i 0)) "java/lang/String" "value" "[B") .byte) ∈ flatC (Jvm.Cond.and given_1 narrow_1) := fun i hi => List.mem_of_getElem? (g_va_ i hi)
set_option maxRecDepth 100000 in
theorem g_ln_ : ∀ i, i < 32 → (flatC (Jvm.Cond.and given_1 narrow_1))[([326, 335, 343, 351, 359, 367, 277, 374, 381, 390, 398, 409, 419, 428, 436, 446, 453, 461, 467, 476, 481, 486, 285, 292, 308, 315, 321, 298, 303, 273, 273, 273] : List Nat).getD i 0]? = some (Cond.eq (.length (.field (.string RX6 (tkS.getD i 0)) "java/lang/String" "value" "[B")) (.int (Int32.ofNat (tkX.getD i []).length))) := by decide +kernel
theorem g_ln : ∀ i, i < 32 → (Cond.eq (.length (.field (.string RX6 (tkS.getD i 0)) "java/lang/String" "value" "[B")) (.int (Int32.ofNat (tkX.getD i []).length))) ∈ flatC (Jvm.Cond.and given_1 narrow_1) := fun i hi => List.mem_of_getElem? (g_ln_ i hi)
def gE : List (List Nat) := [[327, 328, 329, 330, 331], [336, 337, 338, 339], [344, 345, 346, 347], [352, 353, 354, 355], [360, 361, 362, 363], [368, 369, 370], [278, 279, 280, 281], [375, 376, 377], [382, 383, 384, 385, 386], [391, 392, 393, 394], [399, 400, 401, 402, 403, 404, 405], [410, 411, 412, 413, 414, 415], [420, 421, 422, 423, 424], [429, 430, 431, 432], [437, 438, 439, 440, 441, 442], [447, 448, 449], [454, 455, 456, 457], [462, 463], [468, 469, 470, 471, 472], [477], [482], [487], [286, 287, 288], [293, 294], [309, 310, 311], [316, 317], [322], [299], [304], [], [], []]
set_option maxRecDepth 100000 in
theorem g_el_0 : ∀ i, i < 4 → ∀ k, k < (tkX.getD (i + 0) []).length → (flatC (Jvm.Cond.and given_1 narrow_1))[(gE.getD (i + 0) []).getD k 0]? = some (Cond.eq (.elem (.field (.string RX6 (tkS.getD (i + 0) 0)) "java/lang/String" "value" "[B") (.int (Int32.ofNat k))) (.int ((tkX.getD (i + 0) []).getD k 0))) := by decide +kernel
set_option maxRecDepth 100000 in
theorem g_el_4 : ∀ i, i < 4 → ∀ k, k < (tkX.getD (i + 4) []).length → (flatC (Jvm.Cond.and given_1 narrow_1))[(gE.getD (i + 4) []).getD k 0]? = some (Cond.eq (.elem (.field (.string RX6 (tkS.getD (i + 4) 0)) "java/lang/String" "value" "[B") (.int (Int32.ofNat k))) (.int ((tkX.getD (i + 4) []).getD k 0))) := by decide +kernel
set_option maxRecDepth 100000 in
theorem g_el_8 : ∀ i, i < 4 → ∀ k, k < (tkX.getD (i + 8) []).length → (flatC (Jvm.Cond.and given_1 narrow_1))[(gE.getD (i + 8) []).getD k 0]? = some (Cond.eq (.elem (.field (.string RX6 (tkS.getD (i + 8) 0)) "java/lang/String" "value" "[B") (.int (Int32.ofNat k))) (.int ((tkX.getD (i + 8) []).getD k 0))) := by decide +kernel
set_option maxRecDepth 100000 in
theorem g_el_12 : ∀ i, i < 4 → ∀ k, k < (tkX.getD (i + 12) []).length → (flatC (Jvm.Cond.and given_1 narrow_1))[(gE.getD (i + 12) []).getD k 0]? = some (Cond.eq (.elem (.field (.string RX6 (tkS.getD (i + 12) 0)) "java/lang/String" "value" "[B") (.int (Int32.ofNat k))) (.int ((tkX.getD (i + 12) []).getD k 0))) := by decide +kernel
set_option maxRecDepth 100000 in
theorem g_el_16 : ∀ i, i < 4 → ∀ k, k < (tkX.getD (i + 16) []).length → (flatC (Jvm.Cond.and given_1 narrow_1))[(gE.getD (i + 16) []).getD k 0]? = some (Cond.eq (.elem (.field (.string RX6 (tkS.getD (i + 16) 0)) "java/lang/String" "value" "[B") (.int (Int32.ofNat k))) (.int ((tkX.getD (i + 16) []).getD k 0))) := by decide +kernel
set_option maxRecDepth 100000 in
theorem g_el_20 : ∀ i, i < 4 → ∀ k, k < (tkX.getD (i + 20) []).length → (flatC (Jvm.Cond.and given_1 narrow_1))[(gE.getD (i + 20) []).getD k 0]? = some (Cond.eq (.elem (.field (.string RX6 (tkS.getD (i + 20) 0)) "java/lang/String" "value" "[B") (.int (Int32.ofNat k))) (.int ((tkX.getD (i + 20) []).getD k 0))) := by decide +kernel
set_option maxRecDepth 100000 in
theorem g_el_24 : ∀ i, i < 4 → ∀ k, k < (tkX.getD (i + 24) []).length → (flatC (Jvm.Cond.and given_1 narrow_1))[(gE.getD (i + 24) []).getD k 0]? = some (Cond.eq (.elem (.field (.string RX6 (tkS.getD (i + 24) 0)) "java/lang/String" "value" "[B") (.int (Int32.ofNat k))) (.int ((tkX.getD (i + 24) []).getD k 0))) := by decide +kernel
set_option maxRecDepth 100000 in
theorem g_el_28 : ∀ i, i < 4 → ∀ k, k < (tkX.getD (i + 28) []).length → (flatC (Jvm.Cond.and given_1 narrow_1))[(gE.getD (i + 28) []).getD k 0]? = some (Cond.eq (.elem (.field (.string RX6 (tkS.getD (i + 28) 0)) "java/lang/String" "value" "[B") (.int (Int32.ofNat k))) (.int ((tkX.getD (i + 28) []).getD k 0))) := by decide +kernel
theorem g_el : ∀ i, i < 32 → ∀ k, k < (tkX.getD i []).length → (Cond.eq (.elem (.field (.string RX6 (tkS.getD i 0)) "java/lang/String" "value" "[B") (.int (Int32.ofNat k))) (.int ((tkX.getD i []).getD k 0))) ∈ flatC (Jvm.Cond.and given_1 narrow_1) := by
  intro i hi k hk
  refine List.mem_of_getElem? (i := (gE.getD i []).getD k 0) ?_
  by_cases q0 : i < 4
  · obtain ⟨j, hj9⟩ : ∃ j, j + 0 = i := ⟨i - 0, by omega⟩
    subst hj9
    exact g_el_0 j (by omega) k hk
  by_cases q4 : i < 8
  · obtain ⟨j, hj9⟩ : ∃ j, j + 4 = i := ⟨i - 4, by omega⟩
    subst hj9
    exact g_el_4 j (by omega) k hk
  by_cases q8 : i < 12
  · obtain ⟨j, hj9⟩ : ∃ j, j + 8 = i := ⟨i - 8, by omega⟩
    subst hj9
    exact g_el_8 j (by omega) k hk
  by_cases q12 : i < 16
  · obtain ⟨j, hj9⟩ : ∃ j, j + 12 = i := ⟨i - 12, by omega⟩
    subst hj9
    exact g_el_12 j (by omega) k hk
  by_cases q16 : i < 20
  · obtain ⟨j, hj9⟩ : ∃ j, j + 16 = i := ⟨i - 16, by omega⟩
    subst hj9
    exact g_el_16 j (by omega) k hk
  by_cases q20 : i < 24
  · obtain ⟨j, hj9⟩ : ∃ j, j + 20 = i := ⟨i - 20, by omega⟩
    subst hj9
    exact g_el_20 j (by omega) k hk
  by_cases q24 : i < 28
  · obtain ⟨j, hj9⟩ : ∃ j, j + 24 = i := ⟨i - 24, by omega⟩
    subst hj9
    exact g_el_24 j (by omega) k hk
  by_cases q28 : i < 32
  · obtain ⟨j, hj9⟩ : ∃ j, j + 28 = i := ⟨i - 28, by omega⟩
    subst hj9
    exact g_el_28 j (by omega) k hk
  omega
set_option maxRecDepth 100000 in
theorem g_ta_ : (flatC (Jvm.Cond.and given_1 narrow_1))[20]? = some (Cond.arrayOf (.static "WalkingTown$Reader" "TOKENS" "[LWalkingTown$Token;") (.object "WalkingTown$Token")) := by decide +kernel
theorem g_ta : (Cond.arrayOf (.static "WalkingTown$Reader" "TOKENS" "[LWalkingTown$Token;") (.object "WalkingTown$Token")) ∈ flatC (Jvm.Cond.and given_1 narrow_1) := List.mem_of_getElem? g_ta_
set_option maxRecDepth 100000 in
theorem g_tl_ : (flatC (Jvm.Cond.and given_1 narrow_1))[21]? = some (Cond.eq (.length (.static "WalkingTown$Reader" "TOKENS" "[LWalkingTown$Token;")) (.int (Int32.ofNat 32))) := by decide +kernel
theorem g_tl : (Cond.eq (.length (.static "WalkingTown$Reader" "TOKENS" "[LWalkingTown$Token;")) (.int (Int32.ofNat 32))) ∈ flatC (Jvm.Cond.and given_1 narrow_1) := List.mem_of_getElem? g_tl_
set_option maxRecDepth 100000 in
theorem g_te_ : ∀ i, i < 32 → (flatC (Jvm.Cond.and given_1 narrow_1))[([23, 24, 25, 26, 27, 28, 29, 30, 31, 32, 33, 34, 35, 36, 37, 38, 39, 40, 41, 42, 43, 44, 45, 46, 47, 48, 49, 50, 51, 52, 53, 54] : List Nat).getD i 0]? = some (Cond.eq (.elem (.static "WalkingTown$Reader" "TOKENS" "[LWalkingTown$Token;") (.int (Int32.ofNat i))) (.static RX6 (tkN.getD i "") "LWalkingTown$Token;")) := by decide +kernel
theorem g_te : ∀ i, i < 32 → (Cond.eq (.elem (.static "WalkingTown$Reader" "TOKENS" "[LWalkingTown$Token;") (.int (Int32.ofNat i))) (.static RX6 (tkN.getD i "") "LWalkingTown$Token;")) ∈ flatC (Jvm.Cond.and given_1 narrow_1) := fun i hi => List.mem_of_getElem? (g_te_ i hi)
set_option maxRecDepth 100000 in
theorem g_cs_ : (flatC (Jvm.Cond.and given_1 narrow_1))[55]? = some (Cond.eq (.static "java/lang/String" "COMPACT_STRINGS" "Z") (.int 1)) := by decide +kernel
theorem g_cs : (Cond.eq (.static "java/lang/String" "COMPACT_STRINGS" "Z") (.int 1)) ∈ flatC (Jvm.Cond.and given_1 narrow_1) := List.mem_of_getElem? g_cs_
set_option maxRecDepth 100000 in
theorem g_si_ : (flatC (Jvm.Cond.and given_1 narrow_1))[56]? = some (Cond.isRef (.static "jdk/internal/util/Preconditions" "SIOOBE_FORMATTER" "Ljava/util/function/BiFunction;")) := by decide +kernel
theorem g_si : (Cond.isRef (.static "jdk/internal/util/Preconditions" "SIOOBE_FORMATTER" "Ljava/util/function/BiFunction;")) ∈ flatC (Jvm.Cond.and given_1 narrow_1) := List.mem_of_getElem? g_si_
theorem t_ls : ∀ i, i < 32 → (Cond.laysStatic RX6 (tkN.getD i "") "LWalkingTown$Token;") ∈ lw_tbl := fun i hi => match i, hi with
  | 0, _ => lwT9 (List.mem_of_getElem? (i := 69) rfl)
  | 1, _ => lwT9 (List.mem_of_getElem? (i := 70) rfl)
  | 2, _ => lwT9 (List.mem_of_getElem? (i := 71) rfl)
  | 3, _ => lwT9 (List.mem_of_getElem? (i := 72) rfl)
  | 4, _ => lwT9 (List.mem_of_getElem? (i := 73) rfl)
  | 5, _ => lwT9 (List.mem_of_getElem? (i := 74) rfl)
  | 6, _ => lwT4 (List.mem_of_getElem? (i := 115) rfl)
  | 7, _ => lwT9 (List.mem_of_getElem? (i := 75) rfl)
  | 8, _ => lwT9 (List.mem_of_getElem? (i := 76) rfl)
  | 9, _ => lwT9 (List.mem_of_getElem? (i := 77) rfl)
  | 10, _ => lwT9 (List.mem_of_getElem? (i := 78) rfl)
  | 11, _ => lwT9 (List.mem_of_getElem? (i := 79) rfl)
  | 12, _ => lwT9 (List.mem_of_getElem? (i := 80) rfl)
  | 13, _ => lwT9 (List.mem_of_getElem? (i := 81) rfl)
  | 14, _ => lwT9 (List.mem_of_getElem? (i := 82) rfl)
  | 15, _ => lwT9 (List.mem_of_getElem? (i := 83) rfl)
  | 16, _ => lwT9 (List.mem_of_getElem? (i := 84) rfl)
  | 17, _ => lwT9 (List.mem_of_getElem? (i := 85) rfl)
  | 18, _ => lwT9 (List.mem_of_getElem? (i := 86) rfl)
  | 19, _ => lwT9 (List.mem_of_getElem? (i := 87) rfl)
  | 20, _ => lwT9 (List.mem_of_getElem? (i := 88) rfl)
  | 21, _ => lwT9 (List.mem_of_getElem? (i := 89) rfl)
  | 22, _ => lwT4 (List.mem_of_getElem? (i := 125) rfl)
  | 23, _ => lwT4 (List.mem_of_getElem? (i := 135) rfl)
  | 24, _ => lwT4 (List.mem_of_getElem? (i := 161) rfl)
  | 25, _ => lwT4 (List.mem_of_getElem? (i := 163) rfl)
  | 26, _ => lwT4 (List.mem_of_getElem? (i := 165) rfl)
  | 27, _ => lwT4 (List.mem_of_getElem? (i := 149) rfl)
  | 28, _ => lwT4 (List.mem_of_getElem? (i := 155) rfl)
  | 29, _ => lwT4 (List.mem_of_getElem? (i := 34) rfl)
  | 30, _ => lwT4 (List.mem_of_getElem? (i := 101) rfl)
  | 31, _ => lwT4 (List.mem_of_getElem? (i := 36) rfl)
  | n + 32, h => absurd h (by omega)
theorem t_lt : (.laysStatic "WalkingTown$Reader" "TOKENS" "[LWalkingTown$Token;" : Cond) ∈ lw_tbl := lwT4 (List.mem_of_getElem? (i := 41) rfl)
theorem tq_lc : (.laysStatic "java/lang/String" "COMPACT_STRINGS" "Z" : Cond) ∈ lw_tbl := lwT4 (List.mem_of_getElem? (i := 51) rfl)
theorem t_lp : (.laysStatic "jdk/internal/util/Preconditions" "SIOOBE_FORMATTER" "Ljava/util/function/BiFunction;" : Cond) ∈ lw_tbl := lwT4 (List.mem_of_getElem? (i := 70) rfl)
theorem t_i6 : (.initialized RX6 : Cond) ∈ lw_tbl := lwT1 (List.mem_of_getElem? (i := 18) rfl)
theorem t_i3 : (.initialized "WalkingTown$Reader" : Cond) ∈ lw_tbl := lwT1 (List.mem_of_getElem? (i := 11) rfl)
theorem t_is : (.initialized "java/lang/String" : Cond) ∈ lw_tbl := lwT1 (List.mem_of_getElem? (i := 19) rfl)
theorem t_ip : (.initialized "jdk/internal/util/Preconditions" : Cond) ∈ lw_tbl := lwT1 (List.mem_of_getElem? (i := 21) rfl)
theorem my_o32 : ∀ i, i < 32 → ∀ j, j < 32 → i ≠ j → Int32.ofNat i ≠ Int32.ofNat j := by decide +kernel
theorem my_x8 : ∀ i, i < 32 → (tkX.getD i []).length ≤ 8 := by decide +kernel
theorem my_exref {args : Array Value} {s : State} {tm : Term} {nm : String} (h : (Cond.exactly tm nm).before args s = true) : ∃ t : Nat, tm.eval args s none [] s = some (.ref t) := by
  cases hv : tm.eval args s none [] s with
  | none => simp [Cond.before, Cond.holds, Cond.value, hv] at h
  | some w =>
    cases w with
    | ref t => exact ⟨t, rfl⟩
    | _ =>
      simp only [Cond.before, Cond.holds, Cond.value, hv] at h
      cases hf : s.vm.findClass nm <;> simp [hf] at h
theorem my_leneq {args : Array Value} {s : State} {tm : Term} {z : Int32} (h : (Cond.eq (.length tm) (.int z)).before args s = true) : (Term.length tm).eval args s none [] s = some (.int z) := va_eqt h
theorem my_eqr {args : Array Value} {s : State} {t u : Term} {a : Nat} (h : (Cond.eq t u).before args s = true) (hu : u.eval args s none [] s = some (.ref a)) : t.eval args s none [] s = some (.ref a) := by
  cases hv : t.eval args s none [] s with
  | none => simp [Cond.before, Cond.holds, Cond.value, hv] at h
  | some w =>
    simp only [Cond.before, Cond.holds, Cond.value, hv, hu] at h
    cases w <;> simp_all
theorem my_hd {args : Array Value} {s : State} {t1 t2 : Term} {nm o n d : String} {n1 n2 : Int32} (h1 : (Cond.exactly t1 nm).before args s = true) (h2 : (Cond.exactly t2 nm).before args s = true) (o1 : (Cond.eq (.field t1 o n d) (.int n1)).before args s = true) (o2 : (Cond.eq (.field t2 o n d) (.int n2)).before args s = true) (hne : n1 ≠ n2) : (Cond.not (.eq t1 t2)).before args s = true := by
  obtain ⟨a, e1⟩ := my_exref h1
  obtain ⟨b, e2⟩ := my_exref h2
  have v1 := va_eqt o1
  have v2 := va_eqt o2
  have hab : a ≠ b := by
    intro e
    subst e
    rw [va_fe e1] at v1
    rw [va_fe e2, v1] at v2
    cases v2
    exact hne rfl
  simp [Cond.before, Cond.holds, Cond.value, e1, e2, hab]
theorem my_OF {args : Array Value} {s : State} {t : Term} {a : Nat} {o n d : String} {v : Value} {A : Nat → Prop} (ht : t.eval args s none [] s = some (.ref a)) (hv : (Term.field t o n d).eval args s none [] s = some v) (hA : ∀ a : Nat, a < s.heap.size → ¬ A a) : va_OF o n d v a A s s.heap := by
  cases hfo : s.fieldFound? o n d with
  | none =>
    rw [va_fe ht] at hv
    simp [State.fieldOf?, State.fieldNamed?, hfo] at hv
  | some x =>
    obtain ⟨cf, k, fi, f⟩ := x
    obtain ⟨g1, cell, g2, g3, -, -, g6⟩ := Term.field_spec hfo ht hv
    exact ⟨cf, k, fi, f, cell, hfo, g1, g2, g3, g6, hA _ (Array.getElem?_eq_some_iff.mp g2).1⟩
set_option maxRecDepth 100000 in
theorem my_hx9 : rd_hx (fun i => (tkX.getD i []).length) (fun i j => (tkX.getD i []).getD j 0) := by
  unfold rd_hx
  decide +kernel
theorem st_tok {args : Array Value} {s : State} {A : Nat → Prop} (hts0 : ∀ w ∈ lw_tbl, w.before args s = true) (hgv : (Jvm.Cond.and given_1 narrow_1).before args s = true) (hA : ∀ a : Nat, a < s.heap.size → ¬ A a) : ∃ (tA tkK tkV tkL : Nat → Nat) (tkB : Nat → Nat → Int32) (tkT : Nat), va_En RX6 "LWalkingTown$Token;" tkN tkF tA A s s.heap ∧ va_Z "WalkingTown$Reader" "TOKENS" "[LWalkingTown$Token;" (.ref tkT) A s s.heap ∧ va_T (.object "WalkingTown$Token") tkT 32 (fun j => .ref (tA j)) A s s.heap ∧ (∀ j, j < 32 → va_OF "WalkingTown$Token" "text" "Ljava/lang/String;" (.ref (tkK j)) (tA j) A s s.heap ∧ stA (tkK j) (tkV j) (tkL j) (tkB j) A s) ∧ rd_hx tkL tkB := by
  have hfl := flat_of_before _ hgv
  have h32 : tkN.length = 32 := by decide
  obtain ⟨tA, hE, hev⟩ := va_Enof2 (E := RX6) (d := "LWalkingTown$Token;") (nm := tkN) (F := tkF) (A := A) (fun i hi => hts0 _ (t_ls i (h32 ▸ hi))) (hts0 _ t_i6) (fun i hi => hfl _ (g_ex i (h32 ▸ hi))) (fun q hq i hi => hfl _ (g_f q hq i (h32 ▸ hi))) (fun i j hi hj hij => Or.inl (my_hd (hfl _ (g_ex i (h32 ▸ hi))) (hfl _ (g_ex j (h32 ▸ hj))) (hfl _ (g_or i (h32 ▸ hi))) (hfl _ (g_or j (h32 ▸ hj))) (my_o32 i (h32 ▸ hi) j (h32 ▸ hj) hij))) hA
  have hev : ∀ i, i < 32 → (Term.static RX6 (tkN.getD i "") "LWalkingTown$Token;").eval args s none [] s = some (.ref (tA i)) := fun i hi => hev i (by rw [h32]; exact hi)
  obtain ⟨tkT, hevT, hT⟩ := va_Tof (N := 32) (f := fun j => .ref (tA j)) (A := A) (by decide) (hfl _ g_ta) (va_eqt (hfl _ g_tl)) (fun j hj => my_eqr (hfl _ (g_te j hj)) (hev j hj)) hA
  have h0 : ∀ i : Nat, ∃ k : Nat, i < 32 → (Term.string RX6 (tkS.getD i 0)).eval args s none [] s = some (.ref k) := by
    intro i
    by_cases hi : i < 32
    · obtain ⟨k, hk⟩ := my_exref (hfl _ (g_sx i hi)); exact ⟨k, fun _ => hk⟩
    · exact ⟨0, fun h => absurd h hi⟩
  obtain ⟨tkK, hK⟩ := Classical.axiomOfChoice h0
  have h1 : ∀ i : Nat, ∃ v : Nat, i < 32 → (Term.field (.string RX6 (tkS.getD i 0)) "java/lang/String" "value" "[B").eval args s none [] s = some (.ref v) ∧ va_T .byte v (tkX.getD i []).length (fun j => .int ((tkX.getD i []).getD j 0)) A s s.heap := by
    intro i
    by_cases hi : i < 32
    · obtain ⟨v, hv, hw⟩ := va_Tof (N := (tkX.getD i []).length) (f := fun j => .int ((tkX.getD i []).getD j 0)) (A := A) (by have := my_x8 i hi; omega) (hfl _ (g_va i hi)) (va_eqt (hfl _ (g_ln i hi))) (fun j hj => va_eqt (hfl _ (g_el i hi j hj))) hA
      exact ⟨v, fun _ => ⟨hv, hw⟩⟩
    · exact ⟨0, fun h => absurd h hi⟩
  obtain ⟨tkV, hV⟩ := Classical.axiomOfChoice h1
  refine ⟨tA, tkK, tkV, fun i => (tkX.getD i []).length, fun i j => (tkX.getD i []).getD j 0, tkT, hE, va_Zref (hts0 _ t_lt) (hts0 _ t_i3) hevT hA, hT, fun j hj => ⟨my_OF (hev j hj) (my_eqr (hfl _ (g_tx j hj)) (hK j hj)) hA, ⟨va_Oof (hfl _ (g_sx j hj)) (hK j hj) hA, my_OF (hK j hj) (va_eqt (hfl _ (g_co j hj))) hA, my_OF (hK j hj) (hV j hj).1 hA, (hV j hj).2, va_Zof (hts0 _ tq_lc) (hts0 _ t_is) (va_eqt (hfl _ g_cs)) hA, va_Zqof (hts0 _ t_lp) (hts0 _ t_ip) (hfl _ g_si) hA⟩, my_x8 j hj⟩, my_hx9⟩

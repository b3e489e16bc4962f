def wt_cn (f : Nat → Nat) (c : Nat) : Nat → Nat
  | 0 => 0
  | n + 1 => wt_cn f c n + (if f n = c then 1 else 0)
theorem wt_cn_s (f : Nat → Nat) (c n : Nat) : wt_cn f c (n + 1) = wt_cn f c n + (if f n = c then 1 else 0) := rfl
theorem wt_cn_le (f : Nat → Nat) (c : Nat) : ∀ n, wt_cn f c n ≤ n := by
  intro n
  induction n with
  | zero => exact Nat.le_refl _
  | succ n ih =>
    rw [wt_cn_s]
    by_cases h : f n = c
    · rw [if_pos h]; omega
    · rw [if_neg h]; omega
theorem wt_cn_pos (f : Nat → Nat) (z : Nat) : ∀ n, z < n → 1 ≤ wt_cn f (f z) n := by
  intro n
  induction n with
  | zero => intro h; omega
  | succ n ih =>
    intro h
    rw [wt_cn_s]
    by_cases h1 : z = n
    · subst h1; rw [if_pos rfl]; omega
    · have := ih (by omega); omega
def wt_un (f : Nat → Nat) (a b : Nat) : Nat → Nat := fun z => if f z = f b then f a else f z
theorem wt_cn_join (f : Nat → Nat) (a b : Nat) (h : f a ≠ f b) : ∀ n, wt_cn (wt_un f a b) (f a) n = wt_cn f (f a) n + wt_cn f (f b) n := by
  intro n
  induction n with
  | zero => rfl
  | succ n ih =>
    rw [wt_cn_s, wt_cn_s, wt_cn_s, ih]
    have hu : wt_un f a b n = if f n = f b then f a else f n := rfl
    rw [hu]
    by_cases h1 : f n = f b
    · have h2 : ¬ f n = f a := fun q => h (q.symm.trans h1)
      rw [if_pos h1, if_pos rfl, if_neg h2, if_pos h1]; omega
    · rw [if_neg h1, if_neg h1]; omega
theorem wt_cn_up (f : Nat → Nat) (a b c : Nat) (h : c ≠ f b) : ∀ n, wt_cn f c n ≤ wt_cn (wt_un f a b) c n := by
  intro n
  induction n with
  | zero => exact Nat.le_refl _
  | succ n ih =>
    rw [wt_cn_s, wt_cn_s]
    have hu : wt_un f a b n = if f n = f b then f a else f n := rfl
    rw [hu]
    by_cases h1 : f n = f b
    · have h2 : ¬ f n = c := fun q => h (q.symm.trans h1)
      rw [if_neg h2]; omega
    · rw [if_neg h1]; omega
theorem wt_un_same (f : Nat → Nat) (a b : Nat) (h : f a = f b) : wt_un f a b = f := by
  funext z
  show (if f z = f b then f a else f z) = f z
  by_cases h1 : f z = f b
  · rw [if_pos h1, h, h1]
  · rw [if_neg h1]
theorem wt_cn_more (f : Nat → Nat) (a b x : Nat) (n : Nat) : wt_cn f (f x) n ≤ wt_cn (wt_un f a b) (wt_un f a b x) n := by
  by_cases h : f a = f b
  · rw [wt_un_same f a b h]; exact Nat.le_refl _
  · have hu : wt_un f a b x = if f x = f b then f a else f x := rfl
    rw [hu]
    by_cases h1 : f x = f b
    · rw [if_pos h1, wt_cn_join f a b h, h1]; omega
    · rw [if_neg h1]; exact wt_cn_up f a b (f x) h1 n
def wt_S (d : Nat → Int) (f : Nat → Nat) : Prop := ∀ x y : Nat, x < 12 → y < 12 → (f x = f y → 0 ≤ d (12 * x + y) ∧ d (12 * x + y) ≤ 99 * ((wt_cn f (f x) 12 : Nat) : Int) - 99) ∧ (f x ≠ f y → d (12 * x + y) = 10000000)
def wt_mn (p q : Int) : Int := if p < q then p else q
theorem wt_mn_cases (p q : Int) : (p < q ∧ wt_mn p q = p) ∨ (q ≤ p ∧ wt_mn p q = q) := by
  unfold wt_mn
  by_cases h : p < q
  · exact Or.inl ⟨h, if_pos h⟩
  · exact Or.inr ⟨by omega, if_neg h⟩
def wt_cd (d : Nat → Int) (a b : Nat) (len : Int) (n : Nat) : Int := wt_mn (d (12 * (n / 12) + a) + len + d (12 * b + n % 12)) (d (12 * (n / 12) + b) + len + d (12 * a + n % 12))
def wt_L (a b : Nat) (len : Int) (d : Nat → Int) : Nat → Nat → Int
  | 0 => d
  | n + 1 => fun i => if i = n then wt_mn (wt_cd (wt_L a b len d n) a b len n) (wt_L a b len d n n) else wt_L a b len d n i
theorem wt_L_at (a b : Nat) (len : Int) (d : Nat → Int) (n : Nat) : wt_L a b len d (n + 1) n = wt_mn (wt_cd (wt_L a b len d n) a b len n) (wt_L a b len d n n) := by
  show (if n = n then _ else _) = _
  rw [if_pos rfl]
theorem wt_L_ne (a b : Nat) (len : Int) (d : Nat → Int) (n i : Nat) (h : i ≠ n) : wt_L a b len d (n + 1) i = wt_L a b len d n i := by
  show (if i = n then _ else _) = _
  rw [if_neg h]
theorem wt_Lg {a b : Nat} {len : Int} {d : Nat → Int} {g g1 : Nat → Int32} {n : Nat} {x : Int32} (h : (fun i => (g i).toInt) = wt_L a b len d n) (e : g1 = upd g n x) (hv : x.toInt = wt_mn (wt_cd (fun i => (g i).toInt) a b len n) (g n).toInt) : (fun i => (g1 i).toInt) = wt_L a b len d (n + 1) := by
  funext i
  by_cases hi : i = n
  · subst hi
    rw [wt_L_at, ← h, ← hv, e]
    show (if i = i then x else g i).toInt = x.toInt
    rw [if_pos rfl]
  · rw [wt_L_ne a b len d n i hi, ← h, e]
    show (if i = n then x else g i).toInt = (g i).toInt
    rw [if_neg hi]
theorem wt_Lk {a b : Nat} {len : Int} {d : Nat → Int} {g : Nat → Int32} {n : Nat} (h : (fun i => (g i).toInt) = wt_L a b len d n) (hv : (g n).toInt = wt_mn (wt_cd (fun i => (g i).toInt) a b len n) (g n).toInt) : (fun i => (g i).toInt) = wt_L a b len d (n + 1) := by
  funext i
  by_cases hi : i = n
  · subst hi
    rw [wt_L_at, ← h]; exact hv
  · rw [wt_L_ne a b len d n i hi, ← h]
def wt_K (d : Nat → Int) (f : Nat → Nat) (a b n : Nat) (c : Nat → Int) : Prop := ∀ x y : Nat, x < 12 → y < 12 → (0 ≤ c (12 * x + y)) ∧ c (12 * x + y) ≤ d (12 * x + y) ∧ (n ≤ 12 * x + y → c (12 * x + y) = d (12 * x + y)) ∧ (wt_un f a b x ≠ wt_un f a b y → c (12 * x + y) = 10000000) ∧ (12 * x + y < n → wt_un f a b x = wt_un f a b y → c (12 * x + y) ≤ 99 * ((wt_cn (wt_un f a b) (wt_un f a b x) 12 : Nat) : Int) - 99)
theorem wt_S0 {d : Nat → Int} {f : Nat → Nat} (h : wt_S d f) {x y : Nat} (hx : x < 12) (hy : y < 12) : 0 ≤ d (12 * x + y) ∧ d (12 * x + y) ≤ 10000000 := by
  by_cases e : f x = f y
  · have h1 := (h x y hx hy).1 e
    have h2 := wt_cn_le f (f x) 12
    omega
  · have h1 := (h x y hx hy).2 e
    omega
theorem wt_un_inj {f : Nat → Nat} {a b x y : Nat} (h : f x = f y) : wt_un f a b x = wt_un f a b y := by
  show (if f x = f b then f a else f x) = (if f y = f b then f a else f y)
  rw [h]
theorem wt_K0 {d : Nat → Int} {f : Nat → Nat} (h : wt_S d f) (a b : Nat) : wt_K d f a b 0 d := by
  intro x y hx hy
  refine ⟨(wt_S0 h hx hy).1, Int.le_refl _, fun _ => rfl, fun q => (h x y hx hy).2 (fun e => q (wt_un_inj e)), fun w => by omega⟩
theorem wt_un_ab (f : Nat → Nat) (a b : Nat) : wt_un f a b a = wt_un f a b b := by
  show (if f a = f b then f a else f a) = (if f b = f b then f a else f b)
  rw [if_pos (rfl : f b = f b)]
  by_cases h : f a = f b
  · rw [if_pos h]
  · rw [if_neg h]
theorem wt_un_two {f : Nat → Nat} {a b x y : Nat} (h : wt_un f a b x = wt_un f a b y) (hn : f x ≠ f y) : f a ≠ f b ∧ ((f x = f a ∧ f y = f b) ∨ (f x = f b ∧ f y = f a)) := by
  have h1 : (if f x = f b then f a else f x) = (if f y = f b then f a else f y) := h
  by_cases q1 : f x = f b
  · by_cases q2 : f y = f b
    · exact absurd (q1.trans q2.symm) hn
    · rw [if_pos q1, if_neg q2] at h1
      exact ⟨fun w => q2 (h1.symm.trans w), Or.inr ⟨q1, h1.symm⟩⟩
  · by_cases q2 : f y = f b
    · rw [if_neg q1, if_pos q2] at h1
      exact ⟨fun w => q1 (h1.trans w), Or.inl ⟨h1, q2⟩⟩
    · rw [if_neg q1, if_neg q2] at h1
      exact absurd h1 hn
theorem wt_Kn {d : Nat → Int} {f : Nat → Nat} (h : wt_S d f) {a b : Nat} (ha : a < 12) (hb : b < 12) {len : Int} (h1 : 1 ≤ len) (h2 : len ≤ 99) : ∀ n, n ≤ 144 → wt_K d f a b n (wt_L a b len d n) := by
  intro n
  induction n with
  | zero => intro _; exact wt_K0 h a b
  | succ n ih =>
    intro hn
    have K := ih (by omega)
    obtain ⟨c, hc⟩ : ∃ c : Nat → Int, c = wt_L a b len d n := ⟨_, rfl⟩
    rw [← hc] at K
    have hX : n / 12 < 12 := by omega
    have hY : n % 12 < 12 := by omega
    have hXY : 12 * (n / 12) + n % 12 = n := by omega
    have k0 := K (n / 12) (n % 12) hX hY
    rw [hXY] at k0
    have k1 := K (n / 12) a hX ha
    have k2 := K b (n % 12) hb hY
    have k3 := K (n / 12) b hX hb
    have k4 := K a (n % 12) ha hY
    have hcd : wt_cd c a b len n = wt_mn (c (12 * (n / 12) + a) + len + c (12 * b + n % 12)) (c (12 * (n / 12) + b) + len + c (12 * a + n % 12)) := rfl
    have hab := wt_un_ab f a b
    obtain ⟨v, hv⟩ : ∃ v : Int, v = wt_mn (wt_cd c a b len n) (c n) := ⟨_, rfl⟩
    have hle : v ≤ c n ∧ v ≤ c (12 * (n / 12) + a) + len + c (12 * b + n % 12) ∧ v ≤ c (12 * (n / 12) + b) + len + c (12 * a + n % 12) ∧ 0 ≤ v ∧ (v = c n ∨ v = c (12 * (n / 12) + a) + len + c (12 * b + n % 12) ∨ v = c (12 * (n / 12) + b) + len + c (12 * a + n % 12)) := by
      have m1 := wt_mn_cases (c (12 * (n / 12) + a) + len + c (12 * b + n % 12)) (c (12 * (n / 12) + b) + len + c (12 * a + n % 12))
      rw [← hcd] at m1
      have m2 := wt_mn_cases (wt_cd c a b len n) (c n)
      rw [← hv] at m2
      have z1 := k1.1
      have z2 := k2.1
      have z3 := k3.1
      have z4 := k4.1
      have z0 := k0.1
      omega
    have hnew : ∀ x y : Nat, x < 12 → y < 12 → 12 * x + y = n → x = n / 12 ∧ y = n % 12 := by
      intro x y hx hy e
      omega
    intro x y hx hy
    by_cases e : 12 * x + y = n
    · obtain ⟨rfl, rfl⟩ := hnew x y hx hy e
      rw [e, wt_L_at, ← hc, ← hv]
      have hcn : c n = d n := k0.2.2.1 (Nat.le_refl n)
      refine ⟨hle.2.2.2.1, by omega, fun w => by omega, fun q => ?_, fun _ q => ?_⟩
      · -- not joined
        have z0 := k0.2.2.2.1 q
        have p1 : 10000000 ≤ c (12 * (n / 12) + a) + len + c (12 * b + n % 12) := by
          by_cases w : wt_un f a b (n / 12) = wt_un f a b a
          · have w2 : wt_un f a b b ≠ wt_un f a b (n % 12) := fun z => q (w.trans (hab.trans z))
            have z1 := k2.2.2.2.1 w2
            have z2 := k1.1
            omega
          · have z1 := k1.2.2.2.1 w
            have z2 := k2.1
            omega
        have p2 : 10000000 ≤ c (12 * (n / 12) + b) + len + c (12 * a + n % 12) := by
          by_cases w : wt_un f a b (n / 12) = wt_un f a b b
          · have w2 : wt_un f a b a ≠ wt_un f a b (n % 12) := fun z => q (w.trans (hab.symm.trans z))
            have z1 := k4.2.2.2.1 w2
            have z2 := k3.1
            omega
          · have z1 := k3.2.2.2.1 w
            have z2 := k4.1
            omega
        omega
      · by_cases s : f (n / 12) = f (n % 12)
        · have z1 := ((h (n / 12) (n % 12) hX hY).1 s).2
          rw [hXY] at z1
          have z2 := wt_cn_more f a b (n / 12) 12
          omega
        · obtain ⟨hne, t⟩ := wt_un_two q s
          have hJ := wt_cn_join f a b hne 12
          rcases t with ⟨t1, t2⟩ | ⟨t1, t2⟩
          · have hu : wt_un f a b (n / 12) = f a := by
              show (if f (n / 12) = f b then f a else f (n / 12)) = f a
              rw [if_neg (fun w => hne (t1.symm.trans w)), t1]
            rw [hu, hJ]
            have z1 := ((h (n / 12) a hX ha).1 t1).2
            have z2 := ((h b (n % 12) hb hY).1 t2.symm).2
            rw [t1] at z1
            have z3 := k1.2.1
            have z4 := k2.2.1
            omega
          · have hu : wt_un f a b (n / 12) = f a := by
              show (if f (n / 12) = f b then f a else f (n / 12)) = f a
              rw [if_pos t1]
            rw [hu, hJ]
            have z1 := ((h (n / 12) b hX hb).1 t1).2
            have z2 := ((h a (n % 12) ha hY).1 t2.symm).2
            rw [t1] at z1
            have z3 := k3.2.1
            have z4 := k4.2.1
            omega
    · rw [wt_L_ne a b len d n _ e, ← hc]
      have k := K x y hx hy
      exact ⟨k.1, k.2.1, fun w => k.2.2.1 (by omega), k.2.2.2.1, fun w q => k.2.2.2.2 (by omega) q⟩
theorem wt_Sn {d : Nat → Int} {f : Nat → Nat} (h : wt_S d f) {a b : Nat} (ha : a < 12) (hb : b < 12) {len : Int} (h1 : 1 ≤ len) (h2 : len ≤ 99) : wt_S (wt_L a b len d 144) (wt_un f a b) := by
  have K := wt_Kn h ha hb h1 h2 144 (Nat.le_refl _)
  intro x y hx hy
  have k := K x y hx hy
  exact ⟨fun q => ⟨k.1, k.2.2.2.2 (by omega) q⟩, k.2.2.2.1⟩
def wt_rl (x m : Int) : Prop := (x ≤ 1089 ∧ m = x) ∨ (x = 10000000 ∧ m = 100000)
theorem wt_Kfin {d : Nat → Int} {f : Nat → Nat} (h : wt_S d f) {a b n : Nat} {c : Nat → Int} (K : wt_K d f a b n c) {x y : Nat} (hx : x < 12) (hy : y < 12) : 0 ≤ c (12 * x + y) ∧ (c (12 * x + y) ≤ 1089 ∨ c (12 * x + y) = 10000000) := by
  have k := K x y hx hy
  refine ⟨k.1, ?_⟩
  have z1 := wt_cn_le (wt_un f a b) (wt_un f a b x) 12
  have z2 := wt_cn_le f (f x) 12
  by_cases q : wt_un f a b x = wt_un f a b y
  · by_cases w : 12 * x + y < n
    · have := k.2.2.2.2 w q; omega
    · have e := k.2.2.1 (by omega)
      by_cases s : f x = f y
      · have := (h x y hx hy).1 s; omega
      · have := (h x y hx hy).2 s; omega
  · have := k.2.2.2.1 q; omega
theorem wt_R1 {A1 A2 A3 A4 B1 B2 B3 B4 len : Int} (h1 : 1 ≤ len) (h2 : len ≤ 99) (z1 : 0 ≤ A1) (z2 : 0 ≤ A2) (z3 : 0 ≤ A3) (z4 : 0 ≤ A4) (r1 : wt_rl A1 B1) (r2 : wt_rl A2 B2) (r3 : wt_rl A3 B3) (r4 : wt_rl A4 B4) : (wt_mn (A1 + len + A2) (A3 + len + A4) < 5000 ∧ wt_mn (B1 + len + B2) (B3 + len + B4) = wt_mn (A1 + len + A2) (A3 + len + A4) ∧ 0 ≤ wt_mn (A1 + len + A2) (A3 + len + A4)) ∨ (10000000 ≤ wt_mn (A1 + len + A2) (A3 + len + A4) ∧ 100000 ≤ wt_mn (B1 + len + B2) (B3 + len + B4)) := by
  have m1 := wt_mn_cases (A1 + len + A2) (A3 + len + A4)
  have m2 := wt_mn_cases (B1 + len + B2) (B3 + len + B4)
  unfold wt_rl at r1 r2 r3 r4
  omega
theorem wt_R2 {P Q A0 B0 : Int} (p : (P < 5000 ∧ Q = P ∧ 0 ≤ P) ∨ (10000000 ≤ P ∧ 100000 ≤ Q)) (r0 : wt_rl A0 B0) (k9 : 0 ≤ wt_mn P A0 ∧ (wt_mn P A0 ≤ 1089 ∨ wt_mn P A0 = 10000000)) : wt_rl (wt_mn P A0) (wt_mn Q B0) := by
  have m3 := wt_mn_cases P A0
  have m4 := wt_mn_cases Q B0
  unfold wt_rl at r0 ⊢
  omega
theorem wt_Rn {d m : Nat → Int} {f : Nat → Nat} (h : wt_S d f) {a b : Nat} (ha : a < 12) (hb : b < 12) {len : Int} (h1 : 1 ≤ len) (h2 : len ≤ 99) (hr : ∀ i, i < 144 → wt_rl (d i) (m i)) : ∀ n, n ≤ 144 → ∀ i, i < 144 → wt_rl (wt_L a b len d n i) (wt_L a b len m n i) := by
  intro n
  induction n with
  | zero => intro _ i hi; exact hr i hi
  | succ n ih =>
    intro hn i hi
    have R := ih (by omega)
    by_cases e : i = n
    · subst e
      have K := wt_Kn h ha hb h1 h2 i (by omega)
      have hX : i / 12 < 12 := by omega
      have hY : i % 12 < 12 := by omega
      have k9 := wt_Kfin h (wt_Kn h ha hb h1 h2 (i + 1) (by omega)) hX hY
      rw [show 12 * (i / 12) + i % 12 = i from by omega] at k9
      rw [wt_L_at] at k9
      rw [wt_L_at, wt_L_at]
      exact wt_R2 (wt_R1 h1 h2 (wt_Kfin h K hX ha).1 (wt_Kfin h K hb hY).1 (wt_Kfin h K hX hb).1 (wt_Kfin h K ha hY).1 (R (12 * (i / 12) + a) (by omega)) (R (12 * b + i % 12) (by omega)) (R (12 * (i / 12) + b) (by omega)) (R (12 * a + i % 12) (by omega))) (R i hi) k9
    · rw [wt_L_ne a b len d n i e, wt_L_ne a b len m n i e]
      exact R i hi
def wt_i0 (i : Nat) : Int := if i / 12 = i % 12 then 0 else 10000000
def wt_m0 (i : Nat) : Int := if i % 13 = 0 then 0 else 100000
theorem wt_rl0 : ∀ i, i < 144 → wt_rl (wt_i0 i) (wt_m0 i) := by
  have h : ∀ i : Fin 144, (wt_i0 i.val ≤ 1089 ∧ wt_m0 i.val = wt_i0 i.val) ∨ (wt_i0 i.val = 10000000 ∧ wt_m0 i.val = 100000) := by decide +kernel
  exact fun i hi => h ⟨i, hi⟩
theorem wt_S00 : wt_S wt_i0 (fun z => z) := by
  intro x y hx hy
  have hc := wt_cn_pos (fun z => z) x 12 hx
  have hd : (12 * x + y) / 12 = x := by omega
  have hm : (12 * x + y) % 12 = y := by omega
  constructor
  · intro q
    have q1 : x = y := q
    have e : wt_i0 (12 * x + y) = 0 := by
      unfold wt_i0
      rw [hd, hm, if_pos q1]
    rw [e]
    show (0 : Int) ≤ 0 ∧ (0 : Int) ≤ 99 * ((wt_cn (fun z => z) x 12 : Nat) : Int) - 99
    have hc : 1 ≤ wt_cn (fun z => z) x 12 := hc
    exact ⟨by omega, by omega⟩
  · intro q
    have q1 : ¬ x = y := q
    unfold wt_i0
    rw [hd, hm, if_neg q1]
theorem wt_mnI {v x y : Int32} (e : v = if y < x then y else x) : v.toInt = wt_mn y.toInt x.toInt := by
  subst e
  unfold wt_mn
  by_cases q : y < x
  · rw [if_pos q, if_pos (Int32.lt_iff_toInt_lt.mp q)]
  · rw [if_neg q, if_neg (fun w => q (Int32.lt_iff_toInt_lt.mpr w))]
theorem wt_mn_comm (p q : Int) : wt_mn p q = wt_mn q p := by
  have h1 := wt_mn_cases p q
  have h2 := wt_mn_cases q p
  omega
theorem wt_dv {v i : Int32} (e : v = i / 12) (h : 0 ≤ i.toInt ∧ i.toInt ≤ 143) : v.toInt = i.toInt / 12 ∧ 0 ≤ v.toInt ∧ v.toInt ≤ 11 := by
  have t : ∀ n : Fin 144, ((nI n.val) / 12).toInt = (n.val : Int) / 12 := by decide +kernel
  have hi : i = nI i.toInt.toNat := Int32.toInt_inj.mp (by rw [nI_toInt (by omega)]; omega)
  have t1 := t ⟨i.toInt.toNat, by omega⟩
  rw [← hi, ← e] at t1
  have t2 : ((⟨i.toInt.toNat, by omega⟩ : Fin 144).val : Int) = i.toInt := by
    show ((i.toInt.toNat : Nat) : Int) = i.toInt
    omega
  rw [t2] at t1
  omega
theorem wt_rm {v i : Int32} (e : v = i - i / 12 * 12) (h : 0 ≤ i.toInt ∧ i.toInt ≤ 143) : v.toInt = i.toInt % 12 ∧ 0 ≤ v.toInt ∧ v.toInt ≤ 11 := by
  have t : ∀ n : Fin 144, (nI n.val - nI n.val / 12 * 12).toInt = (n.val : Int) % 12 := by decide +kernel
  have hi : i = nI i.toInt.toNat := Int32.toInt_inj.mp (by rw [nI_toInt (by omega)]; omega)
  have t1 := t ⟨i.toInt.toNat, by omega⟩
  rw [← hi, ← e] at t1
  have t2 : ((⟨i.toInt.toNat, by omega⟩ : Fin 144).val : Int) = i.toInt := by
    show ((i.toInt.toNat : Nat) : Int) = i.toInt
    omega
  rw [t2] at t1
  omega
theorem wt_r13 {v i : Int32} (e : v = i - i / 13 * 13) (h : 0 ≤ i.toInt ∧ i.toInt ≤ 143) : v.toInt = i.toInt % 13 ∧ 0 ≤ v.toInt ∧ v.toInt ≤ 12 := by
  have t : ∀ n : Fin 144, (nI n.val - nI n.val / 13 * 13).toInt = (n.val : Int) % 13 := by decide +kernel
  have hi : i = nI i.toInt.toNat := Int32.toInt_inj.mp (by rw [nI_toInt (by omega)]; omega)
  have t1 := t ⟨i.toInt.toNat, by omega⟩
  rw [← hi, ← e] at t1
  have t2 : ((⟨i.toInt.toNat, by omega⟩ : Fin 144).val : Int) = i.toInt := by
    show ((i.toInt.toNat : Nat) : Int) = i.toInt
    omega
  rw [t2] at t1
  omega
def wt_cI (n : Nat) (f : Nat → Int32) : Prop := (∀ j, j < n → (f j).toInt = wt_i0 j) ∧ ∀ j, 0 ≤ (f j).toInt ∧ (f j).toInt ≤ 10000000
theorem wt_cI0 : wt_cI 0 (fun _ => 0) := ⟨fun j hj => absurd hj (Nat.not_lt_zero j), fun j => by show 0 ≤ (0 : Int32).toInt ∧ (0 : Int32).toInt ≤ 10000000; decide⟩
theorem wt_i0_r (n : Nat) : 0 ≤ wt_i0 n ∧ wt_i0 n ≤ 10000000 := by
  unfold wt_i0
  by_cases h : n / 12 = n % 12
  · rw [if_pos h]; omega
  · rw [if_neg h]; omega
theorem wt_cIs {f : Nat → Int32} {n k : Nat} {x : Int32} (h : wt_cI n f) (hk : k = n) (hx : x.toInt = wt_i0 n) : wt_cI (n + 1) (upd f k x) := by
  subst hk
  refine ⟨fun j hj => ?_, fun j => ?_⟩
  · show (if j = k then x else f j).toInt = wt_i0 j
    by_cases q : j = k
    · rw [if_pos q, q]; exact hx
    · rw [if_neg q]; exact h.1 j (by omega)
  · show 0 ≤ (if j = k then x else f j).toInt ∧ (if j = k then x else f j).toInt ≤ 10000000
    by_cases q : j = k
    · rw [if_pos q, hx]; exact wt_i0_r k
    · rw [if_neg q]; exact h.2 j
theorem wt_cIq {x v4 v5 : Int32} {i : Nat} {f f1 : Nat → Int32} (hxi : x = nI i) (hi : i < 144) (h : wt_cI i f) (e4 : v4 = x / 12) (e5 : v5 = x - x / 12 * 12) (c : ¬ v4 = v5) (e : f1 = upd f x.toNatClampNeg 10000000) : wt_cI (i + 1) f1 := by
  have hx : x.toInt = (i : Int) := by rw [hxi]; exact nI_toInt (by omega)
  have h4 := wt_dv e4 ⟨by omega, by omega⟩
  have h5 := wt_rm e5 ⟨by omega, by omega⟩
  rw [e]
  refine wt_cIs h (by show x.toInt.toNat = i; omega) ?_
  unfold wt_i0
  rw [if_neg (fun q => c (Int32.toInt_inj.mp (by omega)))]
  decide
theorem wt_cIp {x v4 v5 : Int32} {i : Nat} {f f1 : Nat → Int32} (hxi : x = nI i) (hi : i < 144) (h : wt_cI i f) (e4 : v4 = x / 12) (e5 : v5 = x - x / 12 * 12) (c : v4 = v5) (e : f1 = upd f x.toNatClampNeg 0) : wt_cI (i + 1) f1 := by
  have hx : x.toInt = (i : Int) := by rw [hxi]; exact nI_toInt (by omega)
  have h4 := wt_dv e4 ⟨by omega, by omega⟩
  have h5 := wt_rm e5 ⟨by omega, by omega⟩
  have hc := congrArg Int32.toInt c
  rw [e]
  refine wt_cIs h (by show x.toInt.toNat = i; omega) ?_
  unfold wt_i0
  rw [if_pos (by omega)]
  decide
theorem wt_cIe {x : Int32} {i : Nat} (hxi : x = nI i) (hi : i ≤ 144) (c : 144 ≤ x) : i = 144 := by
  have hx : x.toInt = (i : Int) := by rw [hxi]; exact nI_toInt (by omega)
  have hc := Int32.le_iff_toInt_le.mp c
  have z : (144 : Int32).toInt = 144 := by decide
  omega
def wt_fm (G : Nat → Int) (ms : Int32) (g : Nat → Int32) : Prop := (ms.toInt = 0 ∧ ∀ i, i < 144 → G i = wt_i0 i) ∨ (ms.toInt = 1 ∧ ∀ i, i < 144 → wt_rl (G i) (g i).toInt)
theorem wt_fm_eq {G : Nat → Int} {m m1 : Int32} {g g1 : Nat → Int32} (h : wt_fm G m g) (e1 : m1 = m) (e2 : g1 = g) : wt_fm G m1 g1 := by rw [e1, e2]; exact h
theorem wt_mS {g g1 : Nat → Int32} {n : Nat} {x : Int32} (h : ∀ j, j < n → (g j).toInt = wt_m0 j) (e : g1 = upd g n x) (hx : x.toInt = wt_m0 n) : ∀ j, j < n + 1 → (g1 j).toInt = wt_m0 j := by
  subst e
  intro j hj
  show (if j = n then x else g j).toInt = wt_m0 j
  by_cases q : j = n
  · rw [if_pos q, q]; exact hx
  · rw [if_neg q]; exact h j (by omega)
theorem wt_bg {G : Nat → Int} {ms : Int32} {g g1 : Nat → Int32} (h : wt_fm G ms g) (h0 : ms.toInt = 0) (hq : ∀ j, j < 144 → (g1 j).toInt = wt_m0 j) : ∀ i, i < 144 → wt_rl (G i) (g1 i).toInt := by
  intro i hi
  rcases h with ⟨_, hG⟩ | ⟨h1, _⟩
  · rw [hG i hi, hq i hi]; exact wt_rl0 i hi
  · omega
theorem wt_bk {G : Nat → Int} {ms : Int32} {g : Nat → Int32} (h : wt_fm G ms g) (h0 : ¬ ms.toInt = 0) : ms.toInt = 1 ∧ ∀ i, i < 144 → wt_rl (G i) (g i).toInt := by
  rcases h with ⟨h1, _⟩ | h1
  · exact absurd h1 h0
  · exact h1
def wt_bt (r a b : Int32) (g : Nat → Int32) : Prop := ((a.toInt < 0 ∨ 11 < a.toInt ∨ b.toInt < 0 ∨ 11 < b.toInt) ∧ r.toInt = 10000000) ∨ (¬ (a.toInt < 0 ∨ 11 < a.toInt ∨ b.toInt < 0 ∨ 11 < b.toInt) ∧ r = g (12 * a.toInt.toNat + b.toInt.toNat))
theorem wt_btv {r a b : Int32} {g : Nat → Int32} (h : wt_bt r a b g) (h1 : 0 ≤ a.toInt ∧ a.toInt ≤ 11) (h2 : 0 ≤ b.toInt ∧ b.toInt ≤ 11) : r = g (12 * a.toInt.toNat + b.toInt.toNat) := by
  rcases h with ⟨h3, _⟩ | ⟨_, h4⟩
  · omega
  · exact h4
def wt_far (r a b : Int32) (G : Nat → Int) : Prop := ((a.toInt < 0 ∨ 11 < a.toInt ∨ b.toInt < 0 ∨ 11 < b.toInt) ∧ r = -1) ∨ (¬ (a.toInt < 0 ∨ 11 < a.toInt ∨ b.toInt < 0 ∨ 11 < b.toInt) ∧ ((G (12 * a.toInt.toNat + b.toInt.toNat) < 10000000 ∧ r.toInt = G (12 * a.toInt.toNat + b.toInt.toNat)) ∨ (10000000 ≤ G (12 * a.toInt.toNat + b.toInt.toNat) ∧ r = -2)))
def wt_sx (r : Int32) (g1 g : Nat → Int32) (a b v : Int32) : Prop := (r = 0 ∧ g1 = g) ∨ (r = 1 ∧ (fun i => (g1 i).toInt) = wt_L a.toInt.toNat b.toInt.toNat v.toInt (fun i => (g i).toInt) 144)
def wt_sm (r : Int32) (G : Nat → Int) (ms : Int32) (g : Nat → Int32) (a b v : Int32) : Prop := (r = 0 ∧ wt_fm G ms g) ∨ (r = 1 ∧ ms.toInt = 1 ∧ ∃ g0 : Nat → Int32, (∀ i, i < 144 → wt_rl (G i) (g0 i).toInt) ∧ (fun i => (g i).toInt) = wt_L a.toInt.toNat b.toInt.toNat v.toInt (fun i => (g0 i).toInt) 144)
theorem wt_street {r r2 a b v ms : Int32} {g1 g gm : Nat → Int32} (hp : r = 1 → 0 ≤ a.toInt ∧ a.toInt ≤ 11 ∧ 0 ≤ b.toInt ∧ b.toInt ≤ 11 ∧ 1 ≤ v.toInt ∧ v.toInt ≤ 99) (hx : wt_sx r g1 g a b v) (hm : wt_sm r2 (fun i => (g i).toInt) ms gm a b v) (e : r = r2) (hS : ∃ f, wt_S (fun i => (g i).toInt) f) : wt_fm (fun i => (g1 i).toInt) ms gm ∧ ∃ f, wt_S (fun i => (g1 i).toInt) f := by
  subst e
  obtain ⟨f, hS⟩ := hS
  rcases hx with ⟨h1, h2⟩ | ⟨h1, h2⟩ <;> rcases hm with ⟨k1, k2⟩ | ⟨k1, k2, g0, k3, k4⟩
  · rw [h2]; exact ⟨k2, f, hS⟩
  · exact absurd (h1.symm.trans k1) (by decide)
  · exact absurd (h1.symm.trans k1) (by decide)
  · have p := hp h1
    have ha : a.toInt.toNat < 12 := by omega
    have hb : b.toInt.toNat < 12 := by omega
    refine ⟨Or.inr ⟨k2, fun i hi => ?_⟩, wt_un f a.toInt.toNat b.toInt.toNat, ?_⟩
    · show wt_rl ((fun i => (g1 i).toInt) i) ((fun i => (gm i).toInt) i)
      rw [h2, k4]
      exact wt_Rn hS ha hb p.2.2.2.2.1 p.2.2.2.2.2 k3 144 (Nat.le_refl _) i hi
    · rw [h2]; exact wt_Sn hS ha hb p.2.2.2.2.1 p.2.2.2.2.2
theorem mF_fr {M N : List Nat} {fv fv1 : Nat → Int32} {ar ar1 : Nat → Nat → Int32} {G9 : Nat → Int} (h : wt_fm G9 (fv 8) (ar 4)) (f : fM M fv fv1) (a : fA N ar ar1) (h0 : M.contains 8 = false) (h1 : N.contains 4 = false) : wt_fm G9 (fv1 8) (ar1 4) := wt_fm_eq h (f 8 h0) (a 4 h1)

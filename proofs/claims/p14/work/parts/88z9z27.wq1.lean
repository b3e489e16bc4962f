def mo_oi (np nw nt : Nat) (r i : Nat) : Prop := ((r ≤ 6 ∨ 14 ≤ r) ∧ np ≤ i) ∨ (7 ≤ r ∧ r ≤ 11 ∧ nw ≤ i) ∨ (r = 12 ∧ nt ≤ i) ∨ (r = 13 ∧ 1 ≤ i)
def mo_sm (np nw nt : Nat) (T X : Nat → Nat → Int32) : Prop := ∀ r i, mo_oi np nw nt r i → X r i = T r i
theorem mo_sm_rf (np nw nt : Nat) (T : Nat → Nat → Int32) : mo_sm np nw nt T T := fun _ _ _ => rfl
theorem mo_sm_tr {np nw nt : Nat} {T X Y : Nat → Nat → Int32} (h : mo_sm np nw nt T X) (h2 : mo_sm np nw nt X Y) : mo_sm np nw nt T Y := fun r i w => (h2 r i w).trans (h r i w)
theorem mo_sm_s {np nw nt : Nat} {T X : Nat → Nat → Int32} {r i : Nat} {v : Int32} (h : mo_sm np nw nt T X) (hn : ¬ mo_oi np nw nt r i) : mo_sm np nw nt T (mo_se X r i v) := fun r1 i1 w => by
  rw [mo_se_at, if_neg (fun q => hn (by rw [← q.1, ← q.2]; exact w))]
  exact h r1 i1 w
theorem mo_sm_fo {np nw nt : Nat} {f : (Nat → Nat → Int32) → Nat → (Nat → Nat → Int32)} {T : Nat → Nat → Int32} : ∀ n, (∀ X k, k < n → mo_sm np nw nt X (f X k)) → mo_sm np nw nt T (mo_fo f T n)
  | 0, _ => mo_sm_rf _ _ _ _
  | n + 1, h => mo_sm_tr (mo_sm_fo n (fun X k hk => h X k (by omega))) (h _ n (Nat.lt_succ_self n))
theorem mo_sm_ii {np nw nt : Nat} {c : Prop} {T X Y : Nat → Nat → Int32} (hx : mo_sm np nw nt T X) (hy : mo_sm np nw nt T Y) : mo_sm np nw nt T (mo_ii c X Y) := by
  by_cases q : c
  · rw [mo_ii_y q]; exact hx
  · rw [mo_ii_n q]; exact hy
theorem mo_sm_ar {np nw nt : Nat} {T : Nat → Nat → Int32} {p : Nat} {m : Int} (hp : p < np) : mo_sm np nw nt T (mo_ar T p m) := by
  unfold mo_ar
  split
  · exact mo_sm_s (mo_sm_rf _ _ _ _) (by unfold mo_oi; omega)
  · exact mo_sm_s (mo_sm_s (mo_sm_rf _ _ _ _) (by unfold mo_oi; omega)) (by unfold mo_oi; omega)
theorem mo_sm_so {np nw nt : Nat} {D : Nat → Nat → Int32} {G : Nat → Int} {T : Nat → Nat → Int32} {p b : Nat} {how t : Int32} {m : Int} (hp : p < np) : mo_sm np nw nt T (mo_so D G T p b how t m) := by
  have h0 : mo_sm np nw nt T (mo_ms0r D G T p b how t m) := by
    unfold mo_ms0r
    exact mo_sm_s (mo_sm_s (mo_sm_s (mo_sm_s (mo_sm_s (mo_sm_s (mo_sm_s (mo_sm_rf _ _ _ _) (by unfold mo_oi; omega)) (by unfold mo_oi; omega)) (by unfold mo_oi; omega)) (by unfold mo_oi; omega)) (by unfold mo_oi; omega)) (by unfold mo_oi; omega)) (by unfold mo_oi; omega)
  unfold mo_so
  split
  · exact mo_sm_tr h0 (mo_sm_ar hp)
  · exact h0
theorem mo_sm_mc {np nw nt : Nat} {D : Nat → Nat → Int32} {G : Nat → Int} {T : Nat → Nat → Int32} {p : Nat} {m na : Int} (hp : p < np) : mo_sm np nw nt T (mo_mc D G T p m na) := by
  unfold mo_mc mo_mg
  split
  · exact mo_sm_so hp
  · split
    · exact mo_sm_so hp
    · exact mo_sm_s (mo_sm_rf _ _ _ _) (by unfold mo_oi; omega)
theorem mo_sm_ml1 {np nw nt : Nat} {D : Nat → Nat → Int32} {G : Nat → Int} {T : Nat → Nat → Int32} {p : Nat} {m : Int} (hp : p < np) : mo_sm np nw nt T (mo_ml1 D G m T p) := by
  unfold mo_ml1
  split
  · exact mo_sm_tr (mo_sm_s (mo_sm_rf _ _ _ _) (by unfold mo_oi; omega)) (mo_sm_mc hp)
  · exact mo_sm_rf _ _ _ _
theorem mo_sm_mh1 {np nw nt : Nat} {D : Nat → Nat → Int32} {G : Nat → Int} {T : Nat → Nat → Int32} {p : Nat} {m : Int} (hp : p < np) : mo_sm np nw nt T (mo_mh1 D G m T p) := by
  unfold mo_mh1
  split
  · exact mo_sm_mc hp
  · split
    · exact mo_sm_ar hp
    · exact mo_sm_rf _ _ _ _
theorem mo_sm_ma1 {np nw nt : Nat} {D : Nat → Nat → Int32} {G : Nat → Int} {T : Nat → Nat → Int32} {p : Nat} {m : Int} (hp : p < np) : mo_sm np nw nt T (mo_ma1 D G m T p) := by
  unfold mo_ma1
  split
  · exact mo_sm_mc hp
  · exact mo_sm_rf _ _ _ _
theorem mo_sm_xl2 {np nw nt : Nat} {T : Nat → Nat → Int32} {w : Nat} {m : Int} (hw : w < nw) : mo_sm np nw nt T (mo_xl2 m T w) := by
  unfold mo_xl2
  split
  · exact mo_sm_s (mo_sm_rf _ _ _ _) (by unfold mo_oi; omega)
  · exact mo_sm_rf _ _ _ _
theorem mo_sm_ea {np nw nt : Nat} {D T X : Nat → Nat → Int32} {w : Nat} {fare : Int32} (hw : w < nw) (h : mo_sm np nw nt T X) : mo_sm np nw nt T (mo_ea D X w fare) := by
  unfold mo_ea
  split
  · exact mo_sm_s h (by unfold mo_oi; omega)
  · exact mo_sm_s h (by unfold mo_oi; omega)
theorem mo_sm_mbp {np nw nt : Nat} {D : Nat → Nat → Int32} {t : Nat} {fare : Int32} {seats : Int} {m9 : Nat} {x : (Nat → Nat → Int32) × Int} {p : Nat} (hw : mo_w D t < nw) (hp : p < np) : mo_sm np nw nt x.1 (mo_mbp D t fare seats m9 x p).1 := by
  unfold mo_mbp
  split
  · show mo_sm np nw nt x.1 (mo_mb1 D t fare x.1 p)
    unfold mo_mb1
    exact mo_sm_s (mo_sm_ea hw (mo_sm_s (mo_sm_rf _ _ _ _) (by unfold mo_oi; omega))) (by unfold mo_oi; omega)
  · exact mo_sm_rf _ _ _ _
theorem mo_sm_mbi {np nw nt : Nat} {D : Nat → Nat → Int32} {t : Nat} {fare : Int32} {seats : Int} {m9 : Nat} {x : (Nat → Nat → Int32) × Int} (hw : mo_w D t < nw) : ∀ n, n ≤ np → mo_sm np nw nt x.1 (mo_mbi D t fare seats m9 x n).1
  | 0, _ => mo_sm_rf _ _ _ _
  | n + 1, h => mo_sm_tr (mo_sm_mbi hw n (by omega)) (mo_sm_mbp hw (by omega))
theorem mo_sm_mbo {np nw nt : Nat} {D : Nat → Nat → Int32} {t : Nat} {fare : Int32} {seats : Int} {x : (Nat → Nat → Int32) × Int} (hw : mo_w D t < nw) : ∀ n, mo_sm np nw nt x.1 (mo_mbo D t fare seats np x n).1
  | 0 => mo_sm_rf _ _ _ _
  | n + 1 => mo_sm_tr (mo_sm_mbo hw n) (mo_sm_mbi hw np (Nat.le_refl _))
theorem mo_sm_mo {np nw nt : Nat} {D : Nat → Nat → Int32} {G : Nat → Int} {t : Nat} {m riders : Int} {held : Int32} {T X : Nat → Nat → Int32} (hw : mo_w D t < nw) (ht : t < nt) (h : mo_sm np nw nt T X) : mo_sm np nw nt T (mo_mo D G np t m riders held X) := by
  unfold mo_mo
  refine mo_sm_tr (mo_sm_s (mo_sm_s (mo_sm_s h (by unfold mo_oi; omega)) (by unfold mo_oi; omega)) (by unfold mo_oi; omega)) (mo_sm_fo np (fun Y k hk => ?_))
  unfold mo_mr1
  split
  · exact mo_sm_s (mo_sm_rf _ _ _ _) (by unfold mo_oi; omega)
  · exact mo_sm_rf _ _ _ _
theorem mo_sm_xp {np nw nt : Nat} {D T X : Nat → Nat → Int32} {w : Nat} {fine : Int32} (hw : w < nw) (h : mo_sm np nw nt T X) : mo_sm np nw nt T (mo_xp D w fine X) := by
  unfold mo_xp
  split
  · exact mo_sm_s h (by unfold mo_oi; omega)
  · exact mo_sm_s h (by unfold mo_oi; omega)
theorem mo_sm_mlv {np nw nt : Nat} {D : Nat → Nat → Int32} {G : Nat → Int} {A : Nat → Nat → Int → Int → Int32} {t : Nat} {m : Int} {T : Nat → Nat → Int32} (hw : mo_w D t < nw) (ht : t < nt) : mo_sm np nw nt T (mo_mlv D G A np t m T) := by
  have h2 : mo_sm np nw nt T (mo_se (mo_se T 12 t (-2)) 13 0 (T 13 0 - A t 5 0 (T 8 (mo_w D t)).toInt)) := mo_sm_s (mo_sm_s (mo_sm_rf _ _ _ _) (by unfold mo_oi; omega)) (by unfold mo_oi; omega)
  unfold mo_mlv
  refine mo_sm_ii (mo_sm_s (mo_sm_rf _ _ _ _) (by unfold mo_oi; omega)) ?_
  refine mo_sm_tr (mo_sm_tr h2 (mo_sm_mbo (x := (mo_se (mo_se T 12 t (-2)) 13 0 (T 13 0 - A t 5 0 (T 8 (mo_w D t)).toInt), 0)) (fare := A t 2 0 (T 8 (mo_w D t)).toInt) (seats := ((mo_seats D t : Nat) : Int)) hw 720)) ?_
  unfold mo_mg2
  refine mo_sm_ii (mo_sm_mo hw ht (mo_sm_rf _ _ _ _)) (mo_sm_ii (mo_sm_mo hw ht (mo_sm_xp hw (mo_sm_s (mo_sm_rf _ _ _ _) (by unfold mo_oi; omega)))) ?_)
  refine mo_sm_tr (mo_sm_s (mo_sm_s (mo_sm_rf _ _ _ _) (by unfold mo_oi; omega)) (by unfold mo_oi; omega)) (mo_sm_fo np (fun Y k hk => ?_))
  unfold mo_mq1
  split
  · exact mo_sm_s (mo_sm_rf _ _ _ _) (by unfold mo_oi; omega)
  · exact mo_sm_rf _ _ _ _
theorem mo_sm_mt1 {np nw nt : Nat} {D : Nat → Nat → Int32} {G : Nat → Int} {A : Nat → Nat → Int → Int → Int32} {t : Nat} {m : Int} {T : Nat → Nat → Int32} (hw : mo_w D t < nw) (ht : t < nt) : mo_sm np nw nt T (mo_mt1 D G A np m T t) := by
  unfold mo_mt1
  exact mo_sm_ii (mo_sm_mlv hw ht) (mo_sm_rf _ _ _ _)
theorem mo_sm_mph {np nw : Nat} {D : Nat → Nat → Int32} {G : Nat → Int} {A : Nat → Nat → Int → Int → Int32} {m : Int} {T : Nat → Nat → Int32} (hw : ∀ t, t < mo_nt D → mo_w D t < nw) : mo_sm np nw (mo_nt D) T (mo_mph D G A np nw m T) := by
  unfold mo_mph
  exact mo_sm_tr (mo_sm_tr (mo_sm_tr (mo_sm_tr (mo_sm_fo nw (fun X k hk => mo_sm_xl2 hk)) (mo_sm_fo np (fun X k hk => mo_sm_ml1 hk))) (mo_sm_fo np (fun X k hk => mo_sm_mh1 hk))) (mo_sm_fo (mo_nt D) (fun X k hk => mo_sm_mt1 (hw k hk) hk))) (mo_sm_fo np (fun X k hk => mo_sm_ma1 hk))
theorem mo_sm_md {np nw : Nat} {D : Nat → Nat → Int32} {G : Nat → Int} {A : Nat → Nat → Int → Int → Int32} {T : Nat → Nat → Int32} (hw : ∀ t, t < mo_nt D → mo_w D t < nw) : ∀ n, mo_sm np nw (mo_nt D) T (mo_md D G A np nw T n)
  | 0 => mo_sm_rf _ _ _ _
  | n + 1 => mo_sm_tr (mo_sm_md hw n) (mo_sm_mph hw)
theorem mo_sm_Ts {np nw nt : Nat} {D T : Nat → Nat → Int32} : mo_sm np nw nt T (mm_Ts D T np nw nt) := by
  unfold mm_Ts
  refine mo_sm_tr (mo_sm_tr (mo_sm_fo nw (fun X k hk => ?_)) (mo_sm_fo np (fun X k hk => ?_))) (mo_sm_fo nt (fun X k hk => ?_))
  · exact mo_sm_s (mo_sm_s (mo_sm_s (mo_sm_s (mo_sm_rf _ _ _ _) (by unfold mo_oi; omega)) (by unfold mo_oi; omega)) (by unfold mo_oi; omega)) (by unfold mo_oi; omega)
  · exact mo_sm_s (mo_sm_s (mo_sm_s (mo_sm_s (mo_sm_s (mo_sm_rf _ _ _ _) (by unfold mo_oi; omega)) (by unfold mo_oi; omega)) (by unfold mo_oi; omega)) (by unfold mo_oi; omega)) (by unfold mo_oi; omega)
  · exact mo_sm_s (mo_sm_rf _ _ _ _) (by unfold mo_oi; omega)
theorem mo_fo_ne {f : (Nat → Nat → Int32) → Nat → (Nat → Nat → Int32)} {P : Nat → Prop} (hne : ∀ X k r i, P r → i ≠ k → f X k r i = X r i) {T : Nat → Nat → Int32} {r : Nat} (hr : P r) : ∀ n i, n ≤ i → mo_fo f T n r i = T r i
  | 0, _, _ => rfl
  | n + 1, i, h => by
    show f (mo_fo f T n) n r i = T r i
    rw [hne _ n r i hr (by omega)]; exact mo_fo_ne hne hr n i (by omega)
theorem mo_fo_at {f : (Nat → Nat → Int32) → Nat → (Nat → Nat → Int32)} {P : Nat → Prop} (hne : ∀ X k r i, P r → i ≠ k → f X k r i = X r i) {T : Nat → Nat → Int32} {r : Nat} (hr : P r) : ∀ n i, i < n → mo_fo f T n r i = f (mo_fo f T i) i r i
  | 0, _, h => absurd h (Nat.not_lt_zero _)
  | n + 1, i, h => by
    show f (mo_fo f T n) n r i = _
    by_cases q : i = n
    · rw [q]
    · rw [hne _ n r i hr q]; exact mo_fo_at hne hr n i (by omega)

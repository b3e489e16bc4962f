theorem dL_law_0 : decode cL_law 0 = .ok (.new 8, 3) := by decide +kernel
theorem dL_law_3 : decode cL_law 3 = .ok (.dup, 1) := by decide +kernel
theorem dL_law_4 : decode cL_law 4 = .ok (.invokespecial 15, 3) := by decide +kernel
theorem dL_law_7 : decode cL_law 7 = .ok (.astore_n 1, 1) := by decide +kernel
theorem dL_law_8 : decode cL_law 8 = .ok (.new 16, 3) := by decide +kernel
theorem dL_law_11 : decode cL_law 11 = .ok (.dup, 1) := by decide +kernel
theorem dL_law_12 : decode cL_law 12 = .ok (.invokespecial 18, 3) := by decide +kernel
theorem dL_law_15 : decode cL_law 15 = .ok (.astore_n 2, 1) := by decide +kernel
theorem dL_law_16 : decode cL_law 16 = .ok (.iconst 1, 1) := by decide +kernel
theorem dL_law_17 : decode cL_law 17 = .ok (.newarray .long, 2) := by decide +kernel
theorem dL_law_19 : decode cL_law 19 = .ok (.astore_n 3, 1) := by decide +kernel
theorem dL_law_20 : decode cL_law 20 = .ok (.iconst 0, 1) := by decide +kernel
theorem dL_law_21 : decode cL_law 21 = .ok (.istore 4, 2) := by decide +kernel
theorem dL_law_23 : decode cL_law 23 = .ok (.iload 4, 2) := by decide +kernel
theorem dL_law_25 : decode cL_law 25 = .ok (.aload_n 0, 1) := by decide +kernel
theorem dL_law_26 : decode cL_law 26 = .ok (.arraylength, 1) := by decide +kernel
theorem dL_law_27 : decode cL_law 27 = .ok (.bipush 7, 2) := by decide +kernel
theorem dL_law_29 : decode cL_law 29 = .ok (.isub, 1) := by decide +kernel
theorem dL_law_30 : decode cL_law 30 = .ok (.if_icmp .gt 990, 3) := by decide +kernel
theorem dL_law_33 : decode cL_law 33 = .ok (.aload_n 0, 1) := by decide +kernel
theorem dL_law_34 : decode cL_law 34 = .ok (.iload 4, 2) := by decide +kernel
theorem dL_law_36 : decode cL_law 36 = .ok (.iaload, 1) := by decide +kernel
theorem dL_law_37 : decode cL_law 37 = .ok (.bipush 31, 2) := by decide +kernel
theorem dL_law_39 : decode cL_law 39 = .ok (.iand, 1) := by decide +kernel
theorem dL_law_40 : decode cL_law 40 = .ok (.tableswitch 974 0 24 #[116, 189, 214, 239, 288, 325, 374, 399, 460, 497, 584, 597, 622, 647, 672, 685, 746, 759, 772, 812, 837, 874, 899, 924, 949], 116) := by decide +kernel
theorem dL_law_1014 : decode cL_law 1014 = .ok (.iinc 4 7, 3) := by decide +kernel
theorem dL_law_1017 : decode cL_law 1017 = .ok (.goto (-994), 3) := by decide +kernel
theorem dL_law_1020 : decode cL_law 1020 = .ok (.iconst 1, 1) := by decide +kernel
theorem dL_law_1021 : decode cL_law 1021 = .ok (.ireturn, 1) := by decide +kernel
theorem my_sw25 (x : Int32) : x.toInt < 0 ∨ 24 < x.toInt ∨ x = 0 ∨ x = 1 ∨ x = 2 ∨ x = 3 ∨ x = 4 ∨ x = 5 ∨ x = 6 ∨ x = 7 ∨ x = 8 ∨ x = 9 ∨ x = 10 ∨ x = 11 ∨ x = 12 ∨ x = 13 ∨ x = 14 ∨ x = 15 ∨ x = 16 ∨ x = 17 ∨ x = 18 ∨ x = 19 ∨ x = 20 ∨ x = 21 ∨ x = 22 ∨ x = 23 ∨ x = 24 := by
  by_cases h : x.toInt < 0
  · exact Or.inl h
  · by_cases h2 : 24 < x.toInt
    · exact Or.inr (Or.inl h2)
    · refine Or.inr (Or.inr ?_)
      have e : ∀ n : Int32, x = n ↔ x.toInt = n.toInt := fun n => ⟨fun q => by rw [q], fun q => Int32.toInt_inj.mp q⟩
      simp only [e]
      have z : (0 : Int32).toInt = 0 ∧ (1 : Int32).toInt = 1 ∧ (2 : Int32).toInt = 2 ∧ (3 : Int32).toInt = 3 ∧ (4 : Int32).toInt = 4 ∧ (5 : Int32).toInt = 5 ∧ (6 : Int32).toInt = 6 ∧ (7 : Int32).toInt = 7 ∧ (8 : Int32).toInt = 8 ∧ (9 : Int32).toInt = 9 ∧ (10 : Int32).toInt = 10 ∧ (11 : Int32).toInt = 11 ∧ (12 : Int32).toInt = 12 ∧ (13 : Int32).toInt = 13 ∧ (14 : Int32).toInt = 14 ∧ (15 : Int32).toInt = 15 ∧ (16 : Int32).toInt = 16 ∧ (17 : Int32).toInt = 17 ∧ (18 : Int32).toInt = 18 ∧ (19 : Int32).toInt = 19 ∧ (20 : Int32).toInt = 20 ∧ (21 : Int32).toInt = 21 ∧ (22 : Int32).toInt = 22 ∧ (23 : Int32).toInt = 23 ∧ (24 : Int32).toInt = 24 := by decide
      omega
theorem gv_0 {args : Array Value} {s : State} (h : (Jvm.Cond.and given_1 narrow_1).before args s = true) : (Cond.arrayOf (.static "java/util/ArrayList" "DEFAULTCAPACITY_EMPTY_ELEMENTDATA" "[Ljava/lang/Object;") (.object "java/lang/Object")).before args s = true := flat_of_before _ h _ (by decide +kernel)
theorem gv_1 {args : Array Value} {s : State} (h : (Jvm.Cond.and given_1 narrow_1).before args s = true) : (Cond.eq (.length (.static "java/util/ArrayList" "DEFAULTCAPACITY_EMPTY_ELEMENTDATA" "[Ljava/lang/Object;")) (.int 0)).before args s = true := flat_of_before _ h _ (by decide +kernel)
theorem gv_2 {args : Array Value} {s : State} (h : (Jvm.Cond.and given_1 narrow_1).before args s = true) : (Cond.isRef (.static Bundle.tN "UNASSIGNED_STACK" Bundle.steD)).before args s = true := flat_of_before _ h _ (by decide +kernel)
theorem gv_3 {args : Array Value} {s : State} (h : (Jvm.Cond.and given_1 narrow_1).before args s = true) : (Cond.isRef (.static Bundle.tN "SUPPRESSED_SENTINEL" Bundle.listD)).before args s = true := flat_of_before _ h _ (by decide +kernel)
theorem gv_4 {args : Array Value} {s : State} (h : (Jvm.Cond.and given_1 narrow_1).before args s = true) : (Cond.exactly (.string "WalkingTown" 209) "java/lang/String").before args s = true := flat_of_before _ h _ (by decide +kernel)
set_option maxHeartbeats 4000000 in
set_option maxRecDepth 100000 in
theorem law_loop {p : Program} {e : Env} {s : State} {m : MethodId} {below : List Frame} {meth : Method} {c : Code} (l : Launch) {b L : Nat} {xs : Nat → Int32} (hL : L ≤ 3584) (hl0 : l.stackTraces = false) (C0 : lw_At p s m meth c b L xs) {A : Nat → Prop} (hAe : A = fun q => s.heap.size ≤ q) {dC : Nat → ClassId} {dI : Nat → Nat → Nat} {ob ad : Nat → Nat} {cA : Nat → ClassId} {h : Nat} {adm : Nat → Nat} {cAm : Nat → ClassId} {yO : Nat} {kO : ClassId} {tA : Nat → Nat} {tD : Nat} {tkK tkV tkL : Nat → Nat} {tkB : Nat → Nat → Int32} {tkT sN : Nat} (hs : iSep s ob ad h adm yO) (hKX : va_K (dC, dI) vwCl (tyX cA) s) (hKM : va_K (dC, dI) vwCl (tyM cAm) s) (hKO : va_K (dC, dI) vwCl [(kO, .long)] s) (hst : iSt s A tA tkK tkV tkL tkB tkT sN tD) : ∀ (n t : Nat) (H : Heap) (locs : List Loc) (td : Nat → Int32) (i : Int32) (ls : Array Slot), 513 ≤ n + t → t ≤ 512 → i.toInt = ((7 * t : Nat) : Int) → inV s dC dI ob ad cA h adm cAm yO kO tA tD td td H → va_S A s.heap H locs → lv_has ls 7 [(0, .ref b), (1, .ref (ob 0)), (2, .ref h), (3, .ref yO), (4, .int i)] → W p l e room_1 s m #[Value.ref b] below meth c H locs (200 + 9 * t) (20000 + 371 * t) (lw_Z below #[Value.ref b] s) (F0 m 23 ls []) := by
  obtain ⟨hx, hb, hr, hml, hown, hts0, hX, hbl, hlocks, hgv⟩ := id C0
  have hb : c.code = cL_law := hb
  have hown : s.vm.findClass RL = some m.cls := hown
  have hts : ∀ w ∈ (.initialized RL :: lw_good : List Cond), w.before #[Value.ref b] s = true := fun w h => (List.mem_cons.mp h).elim (fun q => by rw [q]; exact hts0 _ (lwgT kw_1_0)) (fun q => hts0 w (lwgT q))
  have hA : ∀ q : Nat, s.heap.size ≤ q → A q := fun q h => by rw [hAe]; exact h
  have hbA : ¬ A b := by rw [hAe]; exact Nat.not_le.mpr hbl
  intro n
  induction n with
  | zero => intro t H locs td i ls h1 h2; exfalso; omega
  | succ n ih =>
    intro t H locs td i ls hf ht hi hI hS hl
    refine lv_iload hx hb dL_law_23 (lv_at hl 4 rfl) ?_
    refine lv_aload_n hx hb dL_law_25 rfl (lv_at hl 0 rfl) ?_
    refine va_slen hx hb hX hbl hbA hS dL_law_26 ?_
    refine lv_bipush (v := 7) hx hb dL_law_27 (by decide) ?_
    refine lv_isub hx hb dL_law_29 ?_
    refine lv_topi (fun v ev => ?_)
    have hnL : (Int32.ofNat L).toInt = (L : Int) := nI_toInt (by omega)
    have hv := iv_subc (a := 0) (b := 3584) (k := 7) ev ⟨by omega, by omega⟩ (by decide) (by decide) (by decide)
    refine lv_icmp_gt (tgt := 1020) hx hb dL_law_30 (by decide) (fun cq => ?_) (fun cq => ?_)
    · refine lv_iconst (v := 1) hx hb dL_law_1020 (by decide) ?_
      refine va_forget (fun q hq => by have h9 := hS.2.2 q hq; rw [hAe] at h9; exact h9) ?_
      refine W.widen (k := 741096) (n := 6872816) (by omega) (by omega) ?_
      exact lw_ret hx hb hr hlocks dL_law_1021
    · have hle := Int32.le_iff_toInt_le.mp (Int32.not_lt.mp cq)
      have hJ : 7 * t + 7 ≤ L := by omega
      have ht1 : t + 1 ≤ 512 := by omega
      have kk : ∀ (H : Heap) (locs : List Loc) (td : Nat → Int32) (ls : Array Slot), inV s dC dI ob ad cA h adm cAm yO kO tA tD td td H → va_S A s.heap H locs → lv_has ls 7 [(0, .ref b), (1, .ref (ob 0)), (2, .ref h), (3, .ref yO), (4, .int i)] → W p l e room_1 s m #[Value.ref b] below meth c H locs (200 + 9 * t + 9) (20000 + 371 * t + 371) (lw_Z below #[Value.ref b] s) (F0 m 1014 ls []) := by
        intro H locs td ls hI hS hl
        obtain ⟨i1, ei1⟩ : ∃ z : Int32, z = i + 7 := ⟨_, rfl⟩
        have h1 := iv_addc (a := 0) (b := 3584) (k := 7) ei1 ⟨by omega, by omega⟩ (by decide) (by decide) (by decide)
        refine lv_iinc (v := i1) (lv' := [(4, .int i1), (0, .ref b), (1, .ref (ob 0)), (2, .ref h), (3, .ref yO)]) hx hb dL_law_1014 hl (k := 4) rfl (by rw [ei1]; rfl) (by decide) rfl (fun ls hl => ?_)
        refine lv_goto (tgt := 23) hx hb dL_law_1017 (by decide) ?_
        refine W.widen (k := 200 + 9 * (t + 1)) (n := 20000 + 371 * (t + 1)) (by omega) (by omega) ?_
        exact ih (t + 1) H locs td i1 ls (by omega) ht1 (by omega) hI hS (lv_sub hl [1, 2, 3, 4, 0] rfl)
      refine lv_aload_n hx hb dL_law_33 rfl (lv_at hl 0 rfl) ?_
      refine lv_iload hx hb dL_law_34 (lv_at hl 4 rfl) ?_
      refine va_sld hx hb hX hbl hbA hS (vp_in_iff.mpr ⟨by omega, by omega⟩) dL_law_36 ?_
      refine lv_topi (fun v0 ev0 => ?_)
      refine lv_bipush (v := 31) hx hb dL_law_37 (by decide) ?_
      refine lv_iand hx hb dL_law_39 ?_
      refine lv_topi (fun x ex => ?_)
      rcases my_sw25 x with w | w | w | w | w | w | w | w | w | w | w | w | w | w | w | w | w | w | w | w | w | w | w | w | w | w | w
      · refine lv_tableOut (tgt := 1014) hx hb dL_law_40 (Or.inl w) (by decide) ?_
        refine W.widen (k := 200 + 9 * t + 9) (n := 20000 + 371 * t + 371) (by omega) (by omega) ?_
        exact kk H locs td ls hI hS hl
      · refine lv_tableOut (tgt := 1014) hx hb dL_law_40 (Or.inr w) (by decide) ?_
        refine W.widen (k := 200 + 9 * t + 9) (n := 20000 + 371 * t + 371) (by omega) (by omega) ?_
        exact kk H locs td ls hI hS hl
      · refine lv_tableIn (off := 116) (tgt := 156) hx hb dL_law_40 (by rw [w]; decide) (by rw [w]; decide) (by rw [w]; rfl) (by decide) ?_
        exact law_0 l hL hl0 C0 hAe hs hKX hKM hKO hst H locs td hI hS i (7 * t) hi hJ _ _ (by omega) (by omega) ls hl kk
      · refine lv_tableIn (off := 189) (tgt := 229) hx hb dL_law_40 (by rw [w]; decide) (by rw [w]; decide) (by rw [w]; rfl) (by decide) ?_
        exact law_1 l hL hl0 C0 hAe hs hKX hKM hKO hst H locs td hI hS i (7 * t) hi hJ _ _ (by omega) (by omega) ls hl kk
      · refine lv_tableIn (off := 214) (tgt := 254) hx hb dL_law_40 (by rw [w]; decide) (by rw [w]; decide) (by rw [w]; rfl) (by decide) ?_
        exact law_2 l hL hl0 C0 hAe hs hKX hKM hKO hst H locs td hI hS i (7 * t) hi hJ _ _ (by omega) (by omega) ls hl kk
      · refine lv_tableIn (off := 239) (tgt := 279) hx hb dL_law_40 (by rw [w]; decide) (by rw [w]; decide) (by rw [w]; rfl) (by decide) ?_
        exact law_3 l hL hl0 C0 hAe hs hKX hKM hKO hst H locs td hI hS i (7 * t) hi hJ _ _ (by omega) (by omega) ls hl kk
      · refine lv_tableIn (off := 288) (tgt := 328) hx hb dL_law_40 (by rw [w]; decide) (by rw [w]; decide) (by rw [w]; rfl) (by decide) ?_
        exact law_4 l hL hl0 C0 hAe hs hKX hKM hKO hst H locs td hI hS i (7 * t) hi hJ _ _ (by omega) (by omega) ls hl kk
      · refine lv_tableIn (off := 325) (tgt := 365) hx hb dL_law_40 (by rw [w]; decide) (by rw [w]; decide) (by rw [w]; rfl) (by decide) ?_
        exact law_5 l hL hl0 C0 hAe hs hKX hKM hKO hst H locs td hI hS i (7 * t) hi hJ _ _ (by omega) (by omega) ls hl kk
      · refine lv_tableIn (off := 374) (tgt := 414) hx hb dL_law_40 (by rw [w]; decide) (by rw [w]; decide) (by rw [w]; rfl) (by decide) ?_
        exact law_6 l hL hl0 C0 hAe hs hKX hKM hKO hst H locs td hI hS i (7 * t) hi hJ _ _ (by omega) (by omega) ls hl kk
      · refine lv_tableIn (off := 399) (tgt := 439) hx hb dL_law_40 (by rw [w]; decide) (by rw [w]; decide) (by rw [w]; rfl) (by decide) ?_
        exact law_7 l hL hl0 C0 hAe hs hKX hKM hKO hst H locs td hI hS i (7 * t) hi hJ _ _ (by omega) (by omega) ls hl kk
      · refine lv_tableIn (off := 460) (tgt := 500) hx hb dL_law_40 (by rw [w]; decide) (by rw [w]; decide) (by rw [w]; rfl) (by decide) ?_
        exact law_8 l hL hl0 C0 hAe hs hKX hKM hKO hst H locs td hI hS i (7 * t) hi hJ _ _ (by omega) (by omega) ls hl kk
      · refine lv_tableIn (off := 497) (tgt := 537) hx hb dL_law_40 (by rw [w]; decide) (by rw [w]; decide) (by rw [w]; rfl) (by decide) ?_
        exact law_9 l hL hl0 C0 hAe hs hKX hKM hKO hst H locs td hI hS i (7 * t) hi hJ _ _ (by omega) (by omega) ls hl kk
      · refine lv_tableIn (off := 584) (tgt := 624) hx hb dL_law_40 (by rw [w]; decide) (by rw [w]; decide) (by rw [w]; rfl) (by decide) ?_
        exact law_10 l hL hl0 C0 hAe hs hKX hKM hKO hst H locs td hI hS i (7 * t) hi hJ _ _ (by omega) (by omega) ls hl kk
      · refine lv_tableIn (off := 597) (tgt := 637) hx hb dL_law_40 (by rw [w]; decide) (by rw [w]; decide) (by rw [w]; rfl) (by decide) ?_
        exact law_11 l hL hl0 C0 hAe hs hKX hKM hKO hst H locs td hI hS i (7 * t) hi hJ _ _ (by omega) (by omega) ls hl kk
      · refine lv_tableIn (off := 622) (tgt := 662) hx hb dL_law_40 (by rw [w]; decide) (by rw [w]; decide) (by rw [w]; rfl) (by decide) ?_
        exact law_12 l hL hl0 C0 hAe hs hKX hKM hKO hst H locs td hI hS i (7 * t) hi hJ _ _ (by omega) (by omega) ls hl kk
      · refine lv_tableIn (off := 647) (tgt := 687) hx hb dL_law_40 (by rw [w]; decide) (by rw [w]; decide) (by rw [w]; rfl) (by decide) ?_
        exact law_13 l hL hl0 C0 hAe hs hKX hKM hKO hst H locs td hI hS i (7 * t) hi hJ _ _ (by omega) (by omega) ls hl kk
      · refine lv_tableIn (off := 672) (tgt := 712) hx hb dL_law_40 (by rw [w]; decide) (by rw [w]; decide) (by rw [w]; rfl) (by decide) ?_
        exact law_14 l hL hl0 C0 hAe hs hKX hKM hKO hst H locs td hI hS i (7 * t) hi hJ _ _ (by omega) (by omega) ls hl kk
      · refine lv_tableIn (off := 685) (tgt := 725) hx hb dL_law_40 (by rw [w]; decide) (by rw [w]; decide) (by rw [w]; rfl) (by decide) ?_
        exact law_15 l hL hl0 C0 hAe hs hKX hKM hKO hst H locs td hI hS i (7 * t) hi hJ _ _ (by omega) (by omega) ls hl kk
      · refine lv_tableIn (off := 746) (tgt := 786) hx hb dL_law_40 (by rw [w]; decide) (by rw [w]; decide) (by rw [w]; rfl) (by decide) ?_
        exact law_16 l hL hl0 C0 hAe hs hKX hKM hKO hst H locs td hI hS i (7 * t) hi hJ _ _ (by omega) (by omega) ls hl kk
      · refine lv_tableIn (off := 759) (tgt := 799) hx hb dL_law_40 (by rw [w]; decide) (by rw [w]; decide) (by rw [w]; rfl) (by decide) ?_
        exact law_17 l hL hl0 C0 hAe hs hKX hKM hKO hst H locs td hI hS i (7 * t) hi hJ _ _ (by omega) (by omega) ls hl kk
      · refine lv_tableIn (off := 772) (tgt := 812) hx hb dL_law_40 (by rw [w]; decide) (by rw [w]; decide) (by rw [w]; rfl) (by decide) ?_
        exact law_18 l hL hl0 C0 hAe hs hKX hKM hKO hst H locs td hI hS i (7 * t) hi hJ _ _ (by omega) (by omega) ls hl kk
      · refine lv_tableIn (off := 812) (tgt := 852) hx hb dL_law_40 (by rw [w]; decide) (by rw [w]; decide) (by rw [w]; rfl) (by decide) ?_
        exact law_19 l hL hl0 C0 hAe hs hKX hKM hKO hst H locs td hI hS i (7 * t) hi hJ _ _ (by omega) (by omega) ls hl kk
      · refine lv_tableIn (off := 837) (tgt := 877) hx hb dL_law_40 (by rw [w]; decide) (by rw [w]; decide) (by rw [w]; rfl) (by decide) ?_
        exact law_20 l hL hl0 C0 hAe hs hKX hKM hKO hst H locs td hI hS i (7 * t) hi hJ _ _ (by omega) (by omega) ls hl kk
      · refine lv_tableIn (off := 874) (tgt := 914) hx hb dL_law_40 (by rw [w]; decide) (by rw [w]; decide) (by rw [w]; rfl) (by decide) ?_
        exact law_21 l hL hl0 C0 hAe hs hKX hKM hKO hst H locs td hI hS i (7 * t) hi hJ _ _ (by omega) (by omega) ls hl kk
      · refine lv_tableIn (off := 899) (tgt := 939) hx hb dL_law_40 (by rw [w]; decide) (by rw [w]; decide) (by rw [w]; rfl) (by decide) ?_
        exact law_22 l hL hl0 C0 hAe hs hKX hKM hKO hst H locs td hI hS i (7 * t) hi hJ _ _ (by omega) (by omega) ls hl kk
      · refine lv_tableIn (off := 924) (tgt := 964) hx hb dL_law_40 (by rw [w]; decide) (by rw [w]; decide) (by rw [w]; rfl) (by decide) ?_
        exact law_23 l hL hl0 C0 hAe hs hKX hKM hKO hst H locs td hI hS i (7 * t) hi hJ _ _ (by omega) (by omega) ls hl kk
      · refine lv_tableIn (off := 949) (tgt := 989) hx hb dL_law_40 (by rw [w]; decide) (by rw [w]; decide) (by rw [w]; rfl) (by decide) ?_
        exact law_24 l hL hl0 C0 hAe hs hKX hKM hKO hst H locs td hI hS i (7 * t) hi hJ _ _ (by omega) (by omega) ls hl kk
set_option maxHeartbeats 8000000 in
set_option maxRecDepth 100000 in
theorem whole_start {p : Program} {e : Env} {s : State} {m : MethodId} {below : List Frame} {meth : Method} {c : Code} (l : Launch) {b L : Nat} {xs : Nat → Int32} (hL : L ≤ 3584) (hl0 : l.stackTraces = false) (C0 : lw_At p s m meth c b L xs) : W p l e room_1 s m #[Value.ref b] below meth c s.heap [] 0 0 (lw_Z below #[Value.ref b] s) (entryFrame m ([Value.ref b] : List Value).toArray 7) := by
  obtain ⟨A, hAe⟩ : ∃ A : Nat → Prop, A = fun q => s.heap.size ≤ q := ⟨_, rfl⟩
  obtain ⟨hx, hb, hr, hml, hown, hts0, hX, hbl, hlocks, hgv⟩ := id C0
  have hb : c.code = cL_law := hb
  have hown : s.vm.findClass RL = some m.cls := hown
  have hts : ∀ w ∈ (.initialized RL :: lw_good : List Cond), w.before #[Value.ref b] s = true := fun w h => (List.mem_cons.mp h).elim (fun q => by rw [q]; exact hts0 _ (lwgT kw_1_0)) (fun q => hts0 w (lwgT q))
  have hA : ∀ q : Nat, s.heap.size ≤ q → A q := fun q h => by rw [hAe]; exact h
  have hbA : ¬ A b := by rw [hAe]; exact Nat.not_le.mpr hbl
  have hnA : ∀ a : Nat, a < s.heap.size → ¬ A a := fun a h => by rw [hAe]; exact Nat.not_le.mpr h
  obtain ⟨c0, iS0, hKn0⟩ := u_known (C := RJx4a65c) (T := TJx4a65c) (N := 3) (n := 3) hts iCJx4a65c (hts (.instantiable RJx4a65c 3) (List.mem_cons_of_mem _ kw_1_235))
  obtain ⟨c1, iS1, hKn1⟩ := u_known (C := RX0) (T := TX0) (N := 7) (n := 7) hts iCX0 (hts (.instantiable RX0 7) (List.mem_cons_of_mem _ kw_2_21))
  obtain ⟨c2, iS2, hKn2⟩ := u_known (C := RX1) (T := TX1) (N := 19) (n := 19) hts iCX1 (hts (.instantiable RX1 19) (List.mem_cons_of_mem _ kw_2_182))
  obtain ⟨c3, iS3, hKn3⟩ := u_known (C := RX2) (T := TX2) (N := 15) (n := 15) hts iCX2 (hts (.instantiable RX2 15) (List.mem_cons_of_mem _ kw_1_62))
  obtain ⟨c4, iS4, hKn4⟩ := u_known (C := RX3) (T := TX3) (N := 12) (n := 12) hts iCX3 (hts (.instantiable RX3 12) (List.mem_cons_of_mem _ kw_2_132))
  obtain ⟨c5, iS5, hKn5⟩ := u_known (C := RX4) (T := TX4) (N := 2) (n := 2) hts iCX4 (hts (.instantiable RX4 2) (List.mem_cons_of_mem _ kw_1_47))
  obtain ⟨c6, iS6, hKn6⟩ := u_known (C := RX5) (T := TX5) (N := 14) (n := 14) hts iCX5 (hts (.instantiable RX5 14) (List.mem_cons_of_mem _ kw_3_40))
  obtain ⟨c7, iS7, hKn7⟩ := u_known (C := RX7) (T := TX7) (N := 14) (n := 14) hts iCX7 (hts (.instantiable RX7 14) (List.mem_cons_of_mem _ kw_1_41))
  obtain ⟨c8, iS8, hKn8⟩ := u_known (C := RX8) (T := TX8) (N := 9) (n := 9) hts iCX8 (hts (.instantiable RX8 9) (List.mem_cons_of_mem _ kw_1_183))
  obtain ⟨c9, iS9, hKn9⟩ := u_known (C := RX9) (T := TX9) (N := 9) (n := 9) hts iCX9 (hts (.instantiable RX9 9) (List.mem_cons_of_mem _ kw_2_188))
  obtain ⟨c10, iS10, hKn10⟩ := u_known (C := RX10) (T := TX10) (N := 9) (n := 9) hts iCX10 (hts (.instantiable RX10 9) (List.mem_cons_of_mem _ kw_1_135))
  obtain ⟨c11, iS11, hKn11⟩ := u_known (C := RX11) (T := TX11) (N := 9) (n := 9) hts iCX11 (hts (.instantiable RX11 9) (List.mem_cons_of_mem _ kw_1_33))
  obtain ⟨c12, iS12, hKn12⟩ := u_known (C := RX12) (T := TX12) (N := 96) (n := 96) hts iCX12 (hts (.instantiable RX12 96) (List.mem_cons_of_mem _ kw_6_147))
  obtain ⟨dC, dI, hKc⟩ : ∃ (dC : Nat → ClassId) (dI : Nat → Nat → Nat), ∀ (k : Nat) (q : vw_C), vwCl[k]? = some q → u_Kn s q.1 q.2.1 q.2.2 (dC k) (dI k) := by
    refine ⟨fun k => match k with | 0 => c0 | 1 => c1 | 2 => c2 | 3 => c3 | 4 => c4 | 5 => c5 | 6 => c6 | 7 => c7 | 8 => c8 | 9 => c9 | 10 => c10 | 11 => c11 | _ => c12, fun k => match k with | 0 => iS0 | 1 => iS1 | 2 => iS2 | 3 => iS3 | 4 => iS4 | 5 => iS5 | 6 => iS6 | 7 => iS7 | 8 => iS8 | 9 => iS9 | 10 => iS10 | 11 => iS11 | _ => iS12, ?_⟩
    intro k q hq
    match k, hq with
    | 0, hq => cases hq; exact hKn0
    | 1, hq => cases hq; exact hKn1
    | 2, hq => cases hq; exact hKn2
    | 3, hq => cases hq; exact hKn3
    | 4, hq => cases hq; exact hKn4
    | 5, hq => cases hq; exact hKn5
    | 6, hq => cases hq; exact hKn6
    | 7, hq => cases hq; exact hKn7
    | 8, hq => cases hq; exact hKn8
    | 9, hq => cases hq; exact hKn9
    | 10, hq => cases hq; exact hKn10
    | 11, hq => cases hq; exact hKn11
    | 12, hq => cases hq; exact hKn12
    | k + 13, hq => simp [vwCl] at hq
  obtain ⟨tA, tkK, tkV, tkL, tkB, tkT, hs1, hs2, hs3, hs4⟩ := st_tok (A := A) hts0 hgv hnA
  have hAO_T : va_AO RX6 s := va_AO.of (hts0 (.arrayOver (.object RX6)) (lwT2 (List.mem_of_getElem? (i := 138) rfl)))
  have hAO_O : va_AO "java/lang/Object" s := va_AO.of (hts0 (.arrayOver (.object "java/lang/Object")) (lwT4 (List.mem_of_getElem? (i := 223) rfl)))
  have hN_L : va_Nw (.castable RX0 "java/lang/Object") s := va_Nw.of rfl (hts0 (.castable RX0 "java/lang/Object") (lwT9 (List.mem_of_getElem? (i := 45) rfl)))
  have harr9 : (Cond.arrayOf (.static "java/util/ArrayList" "DEFAULTCAPACITY_EMPTY_ELEMENTDATA" "[Ljava/lang/Object;") (.object "java/lang/Object")).before #[Value.ref b] s = true := (gv_0 hgv)
  have hlen9 : (Cond.eq (.length (.static "java/util/ArrayList" "DEFAULTCAPACITY_EMPTY_ELEMENTDATA" "[Ljava/lang/Object;")) (.int 0)).before #[Value.ref b] s = true := (gv_1 hgv)
  obtain ⟨tD, hev9, hT_D⟩ := va_Tof (N := 0) (f := fun _ => .null) (A := A) (by decide) harr9 (my_leneq hlen9) (fun j hj => absurd hj (Nat.not_lt_zero j)) hnA
  have hZ_dce := va_Zref (A := A) (hts0 (.laysStatic "java/util/ArrayList" "DEFAULTCAPACITY_EMPTY_ELEMENTDATA" "[Ljava/lang/Object;") (lwT2 (List.mem_of_getElem? (i := 7) rfl))) (hts (.initialized RJx4a65c) (List.mem_cons_of_mem _ kw_1_9)) hev9 hnA
  have hZ_U : vx_Zq Bundle.tN "UNASSIGNED_STACK" Bundle.steD A s s.heap := vx_Zqof (hts0 (.laysStatic Bundle.tN "UNASSIGNED_STACK" Bundle.steD) (lwT6 (List.mem_of_getElem? (i := 103) rfl))) (hts0 (.initialized Bundle.tN) (lwT1 (List.mem_of_getElem? (i := 27) rfl))) (gv_2 hgv) hnA
  have hZ_N : vx_Zq Bundle.tN "SUPPRESSED_SENTINEL" Bundle.listD A s s.heap := vx_Zqof (hts0 (.laysStatic Bundle.tN "SUPPRESSED_SENTINEL" Bundle.listD) (lwT6 (List.mem_of_getElem? (i := 105) rfl))) (hts0 (.initialized Bundle.tN) (lwT1 (List.mem_of_getElem? (i := 27) rfl))) (gv_3 hgv) hnA
  have hexN : (Cond.exactly (.string "WalkingTown" 209) "java/lang/String").before #[Value.ref b] s = true := (gv_4 hgv)
  obtain ⟨sN, hevN⟩ := my_exref hexN
  have hR_N : vk_R RX11 209 "no such person, or nothing such is told" sN s := vk_R.of (hts0 (.stringRef RX11 209 "no such person, or nothing such is told") (lwT6 (List.mem_of_getElem? (i := 115) rfl))) hevN
  have hN_N : va_Nw (.castable ne_N ne_N) s := va_Nw.of rfl (hts0 (.castable ne_N ne_N) (lwT6 (List.mem_of_getElem? (i := 78) rfl)))
  have hN_d0 : va_Nw (.declares (Bundle.initS "java/lang/RuntimeException")) s := va_Nw.of rfl (hts0 (.declares (Bundle.initS "java/lang/RuntimeException")) (lwT6 (List.mem_of_getElem? (i := 80) rfl)))
  have hN_d1 : va_Nw (.declares (Bundle.initS "java/lang/Exception")) s := va_Nw.of rfl (hts0 (.declares (Bundle.initS "java/lang/Exception")) (lwT6 (List.mem_of_getElem? (i := 82) rfl)))
  have hN_d2 : va_Nw (.declares (Bundle.initS "java/lang/Throwable")) s := va_Nw.of rfl (hts0 (.declares (Bundle.initS "java/lang/Throwable")) (lwT6 (List.mem_of_getElem? (i := 84) rfl)))
  have hst : iSt s A tA tkK tkV tkL tkB tkT sN tD := ⟨hs1, hs2, hs3, hs4, hZ_dce, hT_D, hAO_O, hN_L, hZ_U, hZ_N, hR_N, hN_N, hN_d0, hN_d1, hN_d2⟩
  have hS : va_S A s.heap s.heap [] := va_S.rf
  have hK : va_K (dC, dI) vwCl [] s := ⟨hKc, fun k q h => by simp at h⟩
  have hP : va_P (dC, dI) vwCl [] s.heap := fun k q h => by simp at h
  have hD : va_D A [] := ⟨fun i j p q h => by simp at h, fun k q h => by simp at h⟩
  have hl := lv_entry ([.ref b]) (n := 7) (Nat.le_of_ble_eq_true rfl)
  rw [lg_entry_eq]
  generalize (lg_sl ([.ref b]) ++ List.replicate (7 - (lg_sl ([.ref b])).length) Slot.unset).toArray = ls at hl ⊢
  have hl : lv_has ls 7 [(0, .ref b)] := hl
  refine va_new (ci := 11) (fs := [.null, .int 0, .null, .null, .null, .null, .int 0, .int 0, .int 0]) (C := RX11) (T := TX11) (N := 9) hx hb hts iCX11 tyX11 tyX11_ok hown (hts (.classLink RL 8 RX11) (List.mem_cons_of_mem _ kw_1_32)) (hts (.instantiable RX11 9) (List.mem_cons_of_mem _ kw_1_33)) (hts (.initialized RX11) (List.mem_cons_of_mem _ kw_1_1)) hK hP hD hS hA rfl (my_dfX11) (Nat.le_of_ble_eq_true rfl) (Nat.le_of_ble_eq_true rfl) dL_law_0 (fun q_1 H hP hD hS => ?_)
  have hP : va_P (dC, dI) vwCl [(q_1, .inr (11, [.null, .int 0, .null, .null, .null, .null, .int 0, .int 0, .int 0]))] H := hP
  have hD : va_D A [(q_1, .inr (11, [.null, .int 0, .null, .null, .null, .null, .int 0, .int 0, .int 0]))] := hD
  refine W.widen (k := 1) (n := 9) (Nat.le_of_ble_eq_true rfl) (Nat.le_of_ble_eq_true rfl) ?_
  refine lv_dup hx hb dL_law_3 rfl ?_
  have hFc := va_free (wc := [(q_1, .inr (11, [.null, .int 0, .null, .null, .null, .null, .int 0, .int 0, .int 0]))]) hD hS hA [0] rfl
  refine va_callv (va_runI (As := []) (rest := [.ref q_1]) ⟨hx, hb, hml, hown, hts⟩ (x_WT_init l dC dI H.size tD q_1) (cwI 0 hts (gG kw_1_36) rfl rfl rfl (hts (.initialized RX11) (List.mem_cons_of_mem _ kw_1_1)) (hts (.methodLink RL 15 yX11_init) (List.mem_cons_of_mem _ kw_1_34)) (hts (.instanceMethod yX11_init) (List.mem_cons_of_mem _ kw_1_35)) rfl (by decide +kernel) ⟨Nat.le_of_ble_eq_true rfl, Nat.le_of_ble_eq_true rfl⟩) ⟨fun a U g mk q => by obtain ⟨q0, q1, qP, qK, qD, qZ0, qZ1⟩ := q; exact ⟨q0, q1, qP, va_K.moved (u := U) (U := U.calling g mk a) (Vm.Alike.refl U.vm) qK, qD, qZ0.moved (u := U) (U := U.calling g mk a) (Vm.Alike.refl U.vm), va_AO.moved (u := U) (U := U.calling g mk a) (Vm.Alike.refl U.vm) qZ1⟩, fun U hU hW => ⟨rfl, by rw [hU], by rw [hU]; exact hP, va_K.moved hW.alike hK, hD.weaken (fun _ _ _ _ => trivial), by rw [hU]; exact ((hZ_dce.kept hS.2.1).narrow hFc).moved hW.alike, va_AO.moved hW.alike hAO_T⟩⟩ rfl rfl hl.1 rfl (lv_room (Nat.le_of_ble_eq_true rfl)) dL_law_4 ⟨Nat.le_of_ble_eq_true rfl, Nat.le_of_ble_eq_true rfl⟩) hS (fun q _ h => hFc q h) hFc (fun u t H1 locs ht hvm hw hB hz1 hk1 hS => ?_)
  obtain ⟨ob, ad, cA, fL, nr, nk, e0, hP1, hK1, hD1⟩ := hB
  rw [ht] at hP1
  have hK := va_K.moved hvm.symm hK1
  have hP : va_P (dC, dI) vwCl (wsX ob ad cA fvX0 (wdX0 ob tD) (arX0 fL) ++ lwC (ob 12) 0 nr nk 0 0 (fun _ _ => 0)) H1 := hP1
  have hD : va_D A (wsX ob ad cA fvX0 (wdX0 ob tD) (arX0 fL) ++ lwC (ob 12) 0 nr nk 0 0 (fun _ _ => 0)) := hD1.weaken (fun k q hk w => hFc q.1 w)
  clear hP1 hK1 hD1 hFc hk1
  refine my_tr e0.symm ?_
  refine W.widen (k := 93) (n := 6033) (Nat.le_of_ble_eq_true rfl) (Nat.le_of_ble_eq_true rfl) ?_
  refine lv_astore_n (lv' := [(1, .ref (ob 0)), (0, .ref b)]) hx hb dL_law_7 rfl hl (by decide) rfl (fun ls hl => ?_)
  refine va_new (ci := 12) (fs := [.int 0, .null, .int 0, .int 0, .null, .null, .int 0, .int 0, .int 0, .null, .null, .null, .null, .null, .null, .null, .null, .null, .null, .null, .null, .null, .null, .null, .null, .null, .null, .null, .null, .null, .null, .null, .int 0, .int 0, .int 0, .int 0, .int 0, .int 0, .int 0, .int 0, .int 0, .int 0, .int 0, .int 0, .int 0, .int 0, .long 0, .null, .null, .null, .null, .null, .null, .null, .null, .null, .null, .null, .int 0, .int 0, .int 0, .int 0, .int 0, .int 0, .null, .null, .int 0, .int 0, .null, .null, .null, .null, .null, .null, .null, .null, .null, .null, .null, .null, .null, .null, .null, .null, .int 0, .int 0, .int 0, .int 0, .null, .int 0, .null, .null, .null, .null, .null, .int 0]) (C := RX12) (T := TX12) (N := 96) hx hb hts iCX12 tyX12 tyX12_ok hown (hts (.classLink RL 16 RX12) (List.mem_cons_of_mem _ kw_6_146)) (hts (.instantiable RX12 96) (List.mem_cons_of_mem _ kw_6_147)) (hts (.initialized RX12) (List.mem_cons_of_mem _ kw_1_15)) hK hP hD hS hA rfl (my_dfX12) (Nat.le_of_ble_eq_true rfl) (Nat.le_of_ble_eq_true rfl) dL_law_8 (fun q_2 H hP hD hS => ?_)
  have hP : va_P (dC, dI) vwCl ((wsX ob ad cA fvX0 (wdX0 ob tD) (arX0 fL) ++ lwC (ob 12) 0 nr nk 0 0 (fun _ _ => 0)) ++ [(q_2, .inr (12, [.int 0, .null, .int 0, .int 0, .null, .null, .int 0, .int 0, .int 0, .null, .null, .null, .null, .null, .null, .null, .null, .null, .null, .null, .null, .null, .null, .null, .null, .null, .null, .null, .null, .null, .null, .null, .int 0, .int 0, .int 0, .int 0, .int 0, .int 0, .int 0, .int 0, .int 0, .int 0, .int 0, .int 0, .int 0, .int 0, .long 0, .null, .null, .null, .null, .null, .null, .null, .null, .null, .null, .null, .int 0, .int 0, .int 0, .int 0, .int 0, .int 0, .null, .null, .int 0, .int 0, .null, .null, .null, .null, .null, .null, .null, .null, .null, .null, .null, .null, .null, .null, .null, .null, .int 0, .int 0, .int 0, .int 0, .null, .int 0, .null, .null, .null, .null, .null, .int 0]))]) H := hP
  have hD : va_D A ((wsX ob ad cA fvX0 (wdX0 ob tD) (arX0 fL) ++ lwC (ob 12) 0 nr nk 0 0 (fun _ _ => 0)) ++ [(q_2, .inr (12, [.int 0, .null, .int 0, .int 0, .null, .null, .int 0, .int 0, .int 0, .null, .null, .null, .null, .null, .null, .null, .null, .null, .null, .null, .null, .null, .null, .null, .null, .null, .null, .null, .null, .null, .null, .null, .int 0, .int 0, .int 0, .int 0, .int 0, .int 0, .int 0, .int 0, .int 0, .int 0, .int 0, .int 0, .int 0, .int 0, .long 0, .null, .null, .null, .null, .null, .null, .null, .null, .null, .null, .null, .int 0, .int 0, .int 0, .int 0, .int 0, .int 0, .null, .null, .int 0, .int 0, .null, .null, .null, .null, .null, .null, .null, .null, .null, .null, .null, .null, .null, .null, .null, .null, .int 0, .int 0, .int 0, .int 0, .null, .int 0, .null, .null, .null, .null, .null, .int 0]))]) := hD
  refine W.widen (k := 94) (n := 6129) (Nat.le_of_ble_eq_true rfl) (Nat.le_of_ble_eq_true rfl) ?_
  refine lv_dup hx hb dL_law_11 rfl ?_
  have hPc : va_P (dC, dI) vwCl [(q_2, .inr (12, [.int 0, .null, .int 0, .int 0, .null, .null, .int 0, .int 0, .int 0, .null, .null, .null, .null, .null, .null, .null, .null, .null, .null, .null, .null, .null, .null, .null, .null, .null, .null, .null, .null, .null, .null, .null, .int 0, .int 0, .int 0, .int 0, .int 0, .int 0, .int 0, .int 0, .int 0, .int 0, .int 0, .int 0, .int 0, .int 0, .long 0, .null, .null, .null, .null, .null, .null, .null, .null, .null, .null, .null, .int 0, .int 0, .int 0, .int 0, .int 0, .int 0, .null, .null, .int 0, .int 0, .null, .null, .null, .null, .null, .null, .null, .null, .null, .null, .null, .null, .null, .null, .null, .null, .int 0, .int 0, .int 0, .int 0, .null, .int 0, .null, .null, .null, .null, .null, .int 0]))] H := my_right hP
  have hDc : va_D A [(q_2, .inr (12, [.int 0, .null, .int 0, .int 0, .null, .null, .int 0, .int 0, .int 0, .null, .null, .null, .null, .null, .null, .null, .null, .null, .null, .null, .null, .null, .null, .null, .null, .null, .null, .null, .null, .null, .null, .null, .int 0, .int 0, .int 0, .int 0, .int 0, .int 0, .int 0, .int 0, .int 0, .int 0, .int 0, .int 0, .int 0, .int 0, .long 0, .null, .null, .null, .null, .null, .null, .null, .null, .null, .null, .null, .int 0, .int 0, .int 0, .int 0, .int 0, .int 0, .null, .null, .int 0, .int 0, .null, .null, .null, .null, .null, .null, .null, .null, .null, .null, .null, .null, .null, .null, .null, .null, .int 0, .int 0, .int 0, .int 0, .null, .int 0, .null, .null, .null, .null, .null, .int 0]))] := my_Dright hD
  have hK0 : va_K (dC, dI) vwCl [] s := ⟨hKc, fun k q h => by simp at h⟩
  have hFc := va_free (wc := [(q_2, .inr (12, [.int 0, .null, .int 0, .int 0, .null, .null, .int 0, .int 0, .int 0, .null, .null, .null, .null, .null, .null, .null, .null, .null, .null, .null, .null, .null, .null, .null, .null, .null, .null, .null, .null, .null, .null, .null, .int 0, .int 0, .int 0, .int 0, .int 0, .int 0, .int 0, .int 0, .int 0, .int 0, .int 0, .int 0, .int 0, .int 0, .long 0, .null, .null, .null, .null, .null, .null, .null, .null, .null, .null, .null, .int 0, .int 0, .int 0, .int 0, .int 0, .int 0, .null, .null, .int 0, .int 0, .null, .null, .null, .null, .null, .null, .null, .null, .null, .null, .null, .null, .null, .null, .null, .null, .int 0, .int 0, .int 0, .int 0, .null, .int 0, .null, .null, .null, .null, .null, .int 0]))]) hDc hS hA [0] rfl
  have hap := my_apart hD
  refine va_callv (va_runI (As := []) (rest := [.ref q_2]) ⟨hx, hb, hml, hown, hts⟩ (m_init l dC dI H.size q_2) (cwI 0 hts (gG kw_6_150) rfl rfl rfl (hts (.initialized RX12) (List.mem_cons_of_mem _ kw_1_15)) (hts (.methodLink RL 18 yX12_init) (List.mem_cons_of_mem _ kw_6_148)) (hts (.instanceMethod yX12_init) (List.mem_cons_of_mem _ kw_6_149)) rfl (by decide +kernel) ⟨Nat.le_of_ble_eq_true rfl, Nat.le_of_ble_eq_true rfl⟩) ⟨fun a U g mk q => by obtain ⟨q0, q1, qP, qK, qD⟩ := q; exact ⟨q0, q1, qP, va_K.moved (u := U) (U := U.calling g mk a) (Vm.Alike.refl U.vm) qK, qD⟩, fun U hU hW => ⟨rfl, by rw [hU], by rw [hU]; exact hPc, va_K.moved hW.alike hK0, hDc.weaken (fun _ _ _ _ => trivial)⟩⟩ rfl rfl hl.1 rfl (lv_room (Nat.le_of_ble_eq_true rfl)) dL_law_12 ⟨Nat.le_of_ble_eq_true rfl, Nat.le_of_ble_eq_true rfl⟩) hS (fun q _ h => hFc q h) hFc (fun u t H1 locs ht hvm hw hB hz1 hk1 hS => ?_)
  obtain ⟨adm, cAm, hP2, hK2, hD2⟩ := hB
  rw [ht] at hP2
  have hK2 := va_K.moved hvm.symm hK2
  have hnA1 : ∀ (k : Nat) (q : Nat × va_E), (wsX ob ad cA fvX0 (wdX0 ob tD) (arX0 fL) ++ lwC (ob 12) 0 nr nk 0 0 (fun _ _ => 0))[k]? = some q → ¬ va_A [(q_2, .inr (12, [.int 0, .null, .int 0, .int 0, .null, .null, .int 0, .int 0, .int 0, .null, .null, .null, .null, .null, .null, .null, .null, .null, .null, .null, .null, .null, .null, .null, .null, .null, .null, .null, .null, .null, .null, .null, .int 0, .int 0, .int 0, .int 0, .int 0, .int 0, .int 0, .int 0, .int 0, .int 0, .int 0, .int 0, .int 0, .int 0, .long 0, .null, .null, .null, .null, .null, .null, .null, .null, .null, .null, .null, .int 0, .int 0, .int 0, .int 0, .int 0, .int 0, .null, .null, .int 0, .int 0, .null, .null, .null, .null, .null, .null, .null, .null, .null, .null, .null, .null, .null, .null, .null, .null, .int 0, .int 0, .int 0, .int 0, .null, .int 0, .null, .null, .null, .null, .null, .int 0]))] H.size q.1 := fun k q hk w => w.elim (fun ⟨j, e9, hj⟩ => hap k j q _ hk hj rfl) (fun w => absurd ((my_left hP) k q hk).lt (Nat.not_lt.mpr w))
  have hPk : va_P (dC, dI) vwCl (wsX ob ad cA fvX0 (wdX0 ob tD) (arX0 fL) ++ lwC (ob 12) 0 nr nk 0 0 (fun _ _ => 0)) H1 := (my_left hP).kept (fun k q hk => hk1 q.1 ((my_left hP) k q hk).lt (hnA1 k q hk))
  have hDk : va_D A ((wsX ob ad cA fvX0 (wdX0 ob tD) (arX0 fL) ++ lwC (ob 12) 0 nr nk 0 0 (fun _ _ => 0)) ++ wsM q_2 adm cAm fvM0 0 (fun _ _ => 0)) := va_D.app (my_Dleft hD) (hD2.weaken (fun k q hk w => hFc q.1 w)) (fun i j p q hi hj e9 => hnA1 i p hi (by rw [e9]; exact hD2.2 j q hj))
  have hP := va_P.app hPk hP2
  have hK := va_K.app hK hK2
  have hD := hDk
  clear hPk hDk hnA1 hP2 hK2 hD2 hFc hk1 hap hPc hDc
  refine W.widen (k := 155) (n := 14193) (Nat.le_of_ble_eq_true rfl) (Nat.le_of_ble_eq_true rfl) ?_
  refine lv_astore_n (lv' := [(2, .ref q_2), (1, .ref (ob 0)), (0, .ref b)]) hx hb dL_law_15 rfl hl (by decide) rfl (fun ls hl => ?_)
  refine lv_iconst (v := 1) hx hb dL_law_16 (by decide) ?_
  refine va_newa (atype := .long) (N' := 1) (a0 := (1, .inr (.inl (fun _ => 0)))) hx hb (hts (.arrayClass .long) (List.mem_cons_of_mem _ kw_3_90)) (ty := .long) rfl hK hP hD hS hA (fun _ => rfl) (by decide) (by decide) (by decide) (Nat.le_of_ble_eq_true rfl) (Nat.le_of_ble_eq_true rfl) dL_law_17 (fun yO kO H hK hP hD hS => ?_)
  refine W.widen (k := 200) (n := 20000) (Nat.le_of_ble_eq_true rfl) (Nat.le_of_ble_eq_true rfl) ?_
  refine lv_astore_n (lv' := [(3, .ref yO), (2, .ref q_2), (1, .ref (ob 0)), (0, .ref b)]) hx hb dL_law_19 rfl hl (by decide) rfl (fun ls hl => ?_)
  refine lv_iconst (v := 0) hx hb dL_law_20 (by decide) ?_
  refine lv_istore (lv' := [(4, .int 0), (3, .ref yO), (2, .ref q_2), (1, .ref (ob 0)), (0, .ref b)]) hx hb dL_law_21 hl (by decide) rfl (fun ls hl => ?_)
  obtain ⟨hsp, hI, hKX, hKM, hKO⟩ := lw_fresh (s := s) (tA := tA) hP (by subst hAe; exact hD) hK
  exact law_loop l hL hl0 C0 hAe hsp hKX hKM hKO hst 513 0 _ _ (fun _ => 0) 0 ls (by omega) (by omega) (by decide) hI hS (lv_sub hl [4, 3, 2, 1, 0] rfl)

set_option maxRecDepth 20000 in
theorem sTE {p : Program} {l : Launch} {e : Env} {R : Room} {s : State} {m : MethodId} {args : Array Value} {below : List Frame} {meth : Method} {c : Code} {H : Heap} {locs : List Loc} {cells slots : Nat} {Q : State → Prop} {cc : ByteArray} {pc : Nat} {ls : Array Slot} {rest : List Value} {dC : Nat → ClassId} {dI : Nat → Nat → Nat} {ob ad : Nat → Nat} {cA : Nat → ClassId} {fv : Nat → Int32} {wd : xT} {ar : Nat → Nat → Int32}  (hx : p.tables.exec = Jvm.exec) (hb : c.code = cc) (hK : va_K (dC, dI) vwCl (tyX cA) s) (hP : va_P (dC, dI) vwCl (wsX ob ad cA fv wd ar) H) (hS : va_S (aX ob ad s.heap.size) s.heap H locs) (hd : dX ob ad) {tA : Nat → Nat} (hE : tkA ob ad tA s.heap.size s) {j : Nat} (hj : j < 32) {i : Int32} (hi : vp_in i 301) (d : decode cc pc = .ok (.aastore, 1)) (kk : ∀ (H : Heap) (locs : List Loc) (wd1 : xT), wd1 = (wd.1, va_up wd.2.1 i.toNatClampNeg (some (tA j)), wd.2.2) → va_P (dC, dI) vwCl (wsX ob ad cA fv wd1 ar) H → va_S (aX ob ad s.heap.size) s.heap H locs → W p l e R s m args below meth c H locs cells slots Q (F0 m (pc + 1) ls rest)) : W p l e R s m args below meth c H locs cells slots Q (F0 m pc ls (.ref (tA j) :: .int i :: .ref (ad 74) :: rest)) := va_astqM hx hb hK hP (wsX_D hd s.heap.size cA fv wd ar) hS 85 73 rfl rfl (my_anyE hE hj hS) hi d (fun H locs hP _ hS => kk H locs (wd.1, va_up wd.2.1 i.toNatClampNeg (some (tA j)), wd.2.2) rfl hP hS)
def rd_ar (tA : Nat → Nat) (b : Nat → Int) (n c : Nat) (f : Nat → Option Nat) (s m : Nat → Int32) : Prop := ∀ k, k < c → f k = some (tA (rd_T b n k)) ∧ (s k).toInt = (rd_S b n k : Nat) ∧ (m k).toInt = rd_N b n k
theorem rd_ar_s {tA : Nat → Nat} {b : Nat → Int} {n c j : Nat} {f f1 : Nat → Option Nat} {s s1 m m1 : Nat → Int32} {x y : Int32} (h : rd_ar tA b n c f s m) (e1 : f1 = va_up f c (some (tA j))) (e2 : s1 = upd s c x) (e3 : m1 = upd m c y) (hj : j = rd_T b n c) (hx : x.toInt = (rd_S b n c : Nat)) (hy : y.toInt = rd_N b n c) : rd_ar tA b n (c + 1) f1 s1 m1 := by
  subst e1; subst e2; subst e3; subst hj
  intro k hk
  by_cases q : k = c
  · subst q
    refine ⟨by simp [va_up], ?_, ?_⟩
    · show (if k = k then x else s k).toInt = _
      rw [if_pos rfl]; exact hx
    · show (if k = k then y else m k).toInt = _
      rw [if_pos rfl]; exact hy
  · have h1 := h k (by omega)
    refine ⟨by simp [va_up, q]; exact h1.1, ?_, ?_⟩
    · show (if k = c then x else s k).toInt = _
      rw [if_neg q]; exact h1.2.1
    · show (if k = c then y else m k).toInt = _
      rw [if_neg q]; exact h1.2.2
set_option maxHeartbeats 4000000 in
set_option maxRecDepth 100000 in
theorem x_addTokenC (l : Launch) (dC : Nat → ClassId) (dI : Nat → Nat → Nat) (sz : Nat) (ob ad : Nat → Nat) (cA : Nat → ClassId) (hd : dX ob ad) (fv : Nat → Int32) (wd : xT) (ar : Nat → Nat → Int32) (hF_fv : rX fv) (hA_ar : rB ar) (tA : Nat → Nat) (hto : tO tA wd.2.1) (jj : Nat) (ljj : jj < 32) (a : Int32) (b : Int32) (hc : (fv 13).toInt ≤ 300) : Met l yX3_addToken (.code yX3_addToken cX3_addToken 4 none :: lw_good) ({ frames := 2, cells := 0, slots := 0, locals := 40 }) (va_Pc [.ref (ob 6), .ref (tA jj), .int a, .int b] (fun U => prX dC dI ob ad cA fv wd ar sz U ∧ tkA ob ad tA sz U)) (va_Qv (fun (u : xS) => rX u.1 ∧ rB u.2.2 ∧ fM [13] fv u.1 ∧ fA [36, 37] ar u.2.2 ∧ (tO tA u.2.1.2.1) ∧ (u.2.1.2.2 = wd.2.2) ∧ (u.2.1.2.1 = va_up wd.2.1 ((fv 13).toInt.toNat) (some (tA jj))) ∧ (u.2.2 36 = upd (ar 36) ((fv 13).toInt.toNat) a) ∧ (u.2.2 37 = upd (ar 37) ((fv 13).toInt.toNat) b) ∧ ((u.1 13).toInt = (fv 13).toInt + 1) ∧ True) (enX dC dI ob ad cA) (aX ob ad sz)) 0 0 (aX ob ad sz) := by
  refine Met.ofW (cc := cX3_addToken) (maxL := 4) (ret := none) (by decide) rfl ?_
  intro p e s m args below meth c s₁ B hml hv
  obtain ⟨rfl, ⟨hsz, hP, hK⟩, hE⟩ := hv
  have hx := B.exec
  have hb := B.bytes
  have hr := B.returns
  have hts := atoms_spec (ws := (.code yX3_addToken cX3_addToken 4 none :: lw_good)) B.pre
  have htg : ∀ w ∈ lw_good, w.before _ s = true := fun w hw => hts w (List.mem_cons_of_mem _ hw)
  have hown : s.vm.findClass RX3 = some m.cls := findClass_of_methodNamed B.named
  have hlocks := B.notSynchronized
  subst hsz
  have hS : va_S (aX ob ad s.heap.size) s.heap s.heap [] := va_S.rf
  have hl := lv_entry ([.ref (ob 6), .ref (tA jj), .int a, .int b]) (n := 4) (Nat.le_of_ble_eq_true rfl)
  rw [lg_entry_eq]
  generalize (lg_sl ([.ref (ob 6), .ref (tA jj), .int a, .int b]) ++ List.replicate (4 - (lg_sl ([.ref (ob 6), .ref (tA jj), .int a, .int b])).length) Slot.unset).toArray = ls at hl ⊢
  have hl : lv_has ls 4 [(0, .ref (ob 6)), (1, .ref (tA jj)), (2, .int a), (3, .int b)] := hl
  have i_1 : 0 ≤ (fv 13).toInt ∧ (fv 13).toInt ≤ 300 := ⟨(hF_fv 13).1, hc⟩
  refine lv_aload_n hx hb dX3_addToken_0 rfl (lv_at hl 0 rfl) ?_
  refine gX_X3_98 hx hb htg hown hK hP dX3_addToken_1 ?_
  refine lv_aload_n hx hb dX3_addToken_4 rfl (lv_at hl 0 rfl) ?_
  refine gX_X3_11 hx hb htg hown hK hP dX3_addToken_5 ?_
  refine nX_74 hx hb hK hP dX3_addToken_8 ?_
  refine lv_icmp_ge (tgt := 52) hx hb dX3_addToken_9 (by decide) (fun c_2 => ?_) (fun c_2 => ?_)
  · skip
    exact absurd True.intro (by have h7 := (⟨by decide, by decide⟩ : (301 : Int) ≤ (301 : Int32).toInt ∧ (301 : Int32).toInt ≤ 301); have h8 := i_1; have h9 := Int32.le_iff_toInt_le.mp c_2; exfalso; omega)
  · skip
    refine lv_aload_n hx hb dX3_addToken_12 rfl (lv_at hl 0 rfl) ?_
    refine gX_X3_11 hx hb htg hown hK hP dX3_addToken_13 ?_
    refine lv_aload_n hx hb dX3_addToken_16 rfl (lv_at hl 0 rfl) ?_
    refine gX_X3_98 hx hb htg hown hK hP dX3_addToken_17 ?_
    refine lv_aload_n hx hb dX3_addToken_20 rfl (lv_at hl 1 rfl) ?_
    refine sTE hx hb hK hP hS hd hE ljj (iv_in i_1 (by decide) (by decide)) dX3_addToken_21 (fun H locs wd_3 ewd_3 hP hS => ?_)
    refine lv_aload_n hx hb dX3_addToken_22 rfl (lv_at hl 0 rfl) ?_
    refine gX_X3_15 hx hb htg hown hK hP dX3_addToken_23 ?_
    refine lv_aload_n hx hb dX3_addToken_26 rfl (lv_at hl 0 rfl) ?_
    refine gX_X3_98 hx hb htg hown hK hP dX3_addToken_27 ?_
    refine lv_iload_n hx hb dX3_addToken_30 rfl (lv_at hl 2 rfl) ?_
    refine sX_36 hx hb hK hP hS hd (iv_in i_1 (by decide) (by decide)) dX3_addToken_31 (fun H locs ar_4 ear_4 hP hS => ?_)
    have hA_ar_4 : rB ar_4 := rB_put hA_ar ear_4 (iv_any _)
    refine lv_aload_n hx hb dX3_addToken_32 rfl (lv_at hl 0 rfl) ?_
    refine gX_X3_19 hx hb htg hown hK hP dX3_addToken_33 ?_
    refine lv_aload_n hx hb dX3_addToken_36 rfl (lv_at hl 0 rfl) ?_
    refine gX_X3_98 hx hb htg hown hK hP dX3_addToken_37 ?_
    refine lv_iload_n hx hb dX3_addToken_40 rfl (lv_at hl 3 rfl) ?_
    refine sX_37 hx hb hK hP hS hd (iv_in i_1 (by decide) (by decide)) dX3_addToken_41 (fun H locs ar_5 ear_5 hP hS => ?_)
    have hA_ar_5 : rB ar_5 := rB_put hA_ar_4 ear_5 (iv_any _)
    refine lv_aload_n hx hb dX3_addToken_42 rfl (lv_at hl 0 rfl) ?_
    refine lv_dup hx hb dX3_addToken_43 rfl ?_
    refine gX_X3_98 hx hb htg hown hK hP dX3_addToken_44 ?_
    refine lv_iconst (v := 1) hx hb dX3_addToken_47 (by decide) ?_
    refine lv_iadd hx hb dX3_addToken_48 ?_
    refine lv_topi (fun v_6 ev_6 => ?_)
    have t_7 : v_6.toInt = (fv 13).toInt + 1 ∧ 1 ≤ v_6.toInt ∧ v_6.toInt ≤ 301 := iv_addc ev_6 i_1 (by decide) (by decide) (by decide)
    refine pX_X3_98 hx hb htg hown hK hP hS hd dX3_addToken_49 (fun H locs fv_9 efv_9 hP hS => ?_)
    have hF_fv_9 : rX fv_9 := rX_put hF_fv efv_9 (iv_w t_7.2 (by decide) (by decide))
    have z_10 : (fv_9 13).toInt = v_6.toInt := congrArg Int32.toInt ((congrFun efv_9 13))
    have z_11 : 0 ≤ (fv_9 13).toInt ∧ (fv_9 13).toInt ≤ 301 := hF_fv_9 13
    exact W.vret hx hb hr (fun t ht hW => ⟨⟨(fv_9, wd_3, ar_5), rfl, ⟨hF_fv_9, hA_ar_5, (fM_put (fM_rf [13] _) efv_9 (by decide)), (fA_put (fA_put (fA_rf [36, 37] _) ear_4 (by decide)) ear_5 (by decide)), (show tO tA wd_3.2.1 from by rw [ewd_3]; exact tO_up hto ljj), (show wd_3.2.2 = wd.2.2 from by rw [ewd_3]), (show wd_3.2.1 = va_up wd.2.1 ((fv 13).toInt.toNat) (some (tA jj)) from by rw [ewd_3]; rfl), (show ar_5 36 = upd (ar 36) ((fv 13).toInt.toNat) a from by rw [ear_5, ear_4]; rfl), (show ar_5 37 = upd (ar 37) ((fv 13).toInt.toNat) b from by rw [ear_5, ear_4]; rfl), (show (fv_9 13).toInt = (fv 13).toInt + 1 from by omega), trivial⟩, ⟨by rw [ht]; exact hP, va_K.moved hW.alike hK⟩⟩, hS.F ht⟩) hS.2.2 dX3_addToken_52
set_option maxHeartbeats 4000000 in
set_option maxRecDepth 100000 in
theorem x_splitC (l : Launch) (dC : Nat → ClassId) (dI : Nat → Nat → Nat) (sz : Nat) (ob ad : Nat → Nat) (cA : Nat → ClassId) (hd : dX ob ad) (fv : Nat → Int32) (wd : xT) (ar : Nat → Nat → Int32) (hF_fv : rX fv) (hA_ar : rB ar) (tkK tkV tkL : Nat → Nat) (tkB : Nat → Nat → Int32) (tkT : Nat) (tA : Nat → Nat) (hto : tO tA wd.2.1) (sz_ : Int32) (h_sz_ : 0 ≤ sz_.toInt ∧ sz_.toInt ≤ 340) (hhx : rd_hx tkL tkB) : Met l yX3_split (.code yX3_split cX3_split 6 none :: lw_good) ({ frames := 9, cells := 0, slots := 0, locals := 198 }) (va_Pc [.ref (ob 6), .ref (ad 1), .int sz_] (fun U => prX dC dI ob ad cA fv wd ar sz U ∧ tkA ob ad tA sz U ∧ txA ob ad tA tkK tkV tkL tkB tkT sz U)) (va_Qv (fun (u : xS) => rX u.1 ∧ rB u.2.2 ∧ fM [13] fv u.1 ∧ fA [36, 37] ar u.2.2 ∧ (tO tA u.2.1.2.1) ∧ (u.2.1.2.2 = wd.2.2) ∧ (∃ c : Nat, c ≤ 300 ∧ (u.1 13).toInt = (c : Int) + 1 ∧ rd_lim sz_.toInt.toNat ≤ rd_st (rd_b (ar 1)) sz_.toInt.toNat c ∧ (∀ k : Nat, k < c → rd_st (rd_b (ar 1)) sz_.toInt.toNat k < rd_lim sz_.toInt.toNat) ∧ rd_ar tA (rd_b (ar 1)) sz_.toInt.toNat (c + 1) u.2.1.2.1 (u.2.2 36) (u.2.2 37)) ∧ True) (enX dC dI ob ad cA) (aX ob ad sz)) 0 0 (aX ob ad sz) := by
  refine Met.ofW (cc := cX3_split) (maxL := 6) (ret := none) (by decide) rfl ?_
  intro p e s m args below meth c s₁ B hml hv
  obtain ⟨rfl, ⟨hsz, hP, hK⟩, hE, hX⟩ := hv
  have hx := B.exec
  have hb := B.bytes
  have hr := B.returns
  have hts := atoms_spec (ws := (.code yX3_split cX3_split 6 none :: lw_good)) B.pre
  have htg : ∀ w ∈ lw_good, w.before _ s = true := fun w hw => hts w (List.mem_cons_of_mem _ hw)
  have hown : s.vm.findClass RX3 = some m.cls := findClass_of_methodNamed B.named
  have hlocks := B.notSynchronized
  subst hsz
  have hS : va_S (aX ob ad s.heap.size) s.heap s.heap [] := va_S.rf
  have hl := lv_entry ([.ref (ob 6), .ref (ad 1), .int sz_]) (n := 6) (Nat.le_of_ble_eq_true rfl)
  rw [lg_entry_eq]
  generalize (lg_sl ([.ref (ob 6), .ref (ad 1), .int sz_]) ++ List.replicate (6 - (lg_sl ([.ref (ob 6), .ref (ad 1), .int sz_])).length) Slot.unset).toArray = ls at hl ⊢
  have hl : lv_has ls 6 [(0, .ref (ob 6)), (1, .ref (ad 1)), (2, .int sz_)] := hl
  refine lv_iload_n hx hb dX3_split_0 rfl (lv_at hl 2 rfl) ?_
  refine lv_sipush (v := 300) hx hb dX3_split_1 (by decide) ?_
  refine va_mmin hx hb (hml.trans hl.1.symm) hown (htg (.methodLink RX3 92 Lib.Math.min.name) kw_4_17) (htg (.static Lib.Math.min.name) kw_3_151) (htg (.initialized RJ9) kw_1_16) (htg (.code Lib.Math.min.name Lib.Math.min.code 2 (some .int)) kw_3_152) (Nat.le_of_ble_eq_true rfl) (Nat.le_of_ble_eq_true rfl) (Nat.le_of_ble_eq_true rfl) (Nat.le_of_ble_eq_true rfl) dX3_split_4 ?_
  refine lv_topi (fun v_1 ev_1 => ?_)
  have i_2 : 0 ≤ v_1.toInt ∧ v_1.toInt ≤ 300 := ix_min ev_1 h_sz_ (⟨by decide, by decide⟩ : (300 : Int) ≤ (300 : Int32).toInt ∧ (300 : Int32).toInt ≤ 300) (by decide) (by decide)
  have hlm := rd_limI ev_1 (by omega)
  refine lv_istore_n (lv' := [(3, .int v_1), (0, .ref (ob 6)), (1, .ref (ad 1)), (2, .int sz_)]) hx hb dX3_split_7 rfl hl (by decide) rfl (fun ls hl => ?_)
  refine lv_iconst (v := 0) hx hb dX3_split_8 (by decide) ?_
  refine lv_istore (lv' := [(4, .int 0), (3, .int v_1), (0, .ref (ob 6)), (1, .ref (ad 1)), (2, .int sz_)]) hx hb dX3_split_9 hl (by decide) rfl (fun ls hl => ?_)
  refine lv_aload_n hx hb dX3_split_11 rfl (lv_at hl 2 rfl) ?_
  refine lv_iconst (v := 0) hx hb dX3_split_12 (by decide) ?_
  refine pX_X3_98 hx hb htg hown hK hP hS hd dX3_split_13 (fun H locs fv_3 efv_3 hP hS => ?_)
  have hF_fv_3 : rX fv_3 := rX_put hF_fv efv_3 (iv_w (⟨by decide, by decide⟩ : (0 : Int) ≤ (0 : Int32).toInt ∧ (0 : Int32).toInt ≤ 0) (by decide) (by decide))
  refine my_cut (P := fun R9 a9 Q9 => ∀ (n_16 : Nat) (x_4 : Int32) (fv_5 : Nat → Int32) (ar_7 : Nat → Nat → Int32) (wd_9 : xT) (H : Heap) (locs : List Loc) (ls : Array Slot), 340 - x_4.toInt < (n_16 : Int) → (0 ≤ x_4.toInt ∧ x_4.toInt ≤ 340) → rX fv_5 → fM [13] fv_3 fv_5 → rB ar_7 → fA [36, 37] ar ar_7 → tO tA wd_9.2.1 → wd_9.2.2 = wd.2.2 → (rd_s (rd_b (ar 1)) (rd_lim sz_.toInt.toNat) x_4.toInt.toNat = rd_st (rd_b (ar 1)) sz_.toInt.toNat ((fv_5 13).toInt.toNat)) → (rd_ar tA (rd_b (ar 1)) sz_.toInt.toNat ((fv_5 13).toInt.toNat) wd_9.2.1 (ar_7 36) (ar_7 37)) → ((fv_5 13).toInt ≤ x_4.toInt ∧ (fv_5 13).toInt ≤ 300) → (∀ k, k < (fv_5 13).toInt.toNat → rd_st (rd_b (ar 1)) sz_.toInt.toNat k < rd_lim sz_.toInt.toNat) → va_P (dC, dI) vwCl (wsX ob ad cA fv_5 wd_9 ar_7) H → va_S (aX ob ad s.heap.size) s.heap H locs → lv_has ls 6 [(0, .ref (ob 6)), (1, .ref (ad 1)), (2, .int sz_), (3, .int v_1), (4, .int x_4)] → W p l e R9 s m a9 below meth c H locs 0 0 Q9 (F0 m 16 ls [])) ?_ (fun hj_18 => ?_)
  · intro n_16
    induction n_16 with
    | zero => intro x_4 fv_5 ar_7 wd_9 H locs ls fu_17 i_x_4 hF_fv_5 fr_6 hA_ar_7 fa_8 to_10 tq_11 q_12 q_13 q_14 q_15; exfalso; omega
    | succ n_16 ih_16 =>
      intro x_4 fv_5 ar_7 wd_9 H locs ls fu_17 i_x_4 hF_fv_5 fr_6 hA_ar_7 fa_8 to_10 tq_11 q_12 q_13 q_14 q_15 hP hS hl
      refine lv_iload hx hb dX3_split_16 (lv_at hl 4 rfl) ?_
      refine lv_iload_n hx hb dX3_split_18 rfl (lv_at hl 3 rfl) ?_
      refine lv_icmp_ge (tgt := 91) hx hb dX3_split_19 (by decide) (fun c_19 => ?_) (fun c_19 => ?_)
      · skip
        have k_20 := Int32.le_iff_toInt_le.mp c_19
        refine lv_aload_n hx hb dX3_split_91 rfl (lv_at hl 0 rfl) ?_
        refine lv_iload_n hx hb dX3_split_92 rfl (lv_at hl 2 rfl) ?_
        refine lv_sipush (v := 300) hx hb dX3_split_93 (by decide) ?_
        refine lv_icmp_le (tgt := 105) hx hb dX3_split_96 (by decide) (fun c_95 => ?_) (fun c_95 => ?_)
        · skip
          have i_96 : 0 ≤ sz_.toInt ∧ sz_.toInt ≤ 300 := iv_le1 h_sz_ (⟨by decide, by decide⟩ : (300 : Int) ≤ (300 : Int32).toInt ∧ (300 : Int32).toInt ≤ 300) c_95
          refine va_gets hx hb (hE.1 30 (by decide)).1 hS hown (htg (.fieldLink RX3 62 "WalkingTown$Token" "END" "LWalkingTown$Token;") kw_4_100) (fun _ h9 => h9) dX3_split_105 ?_
          refine lv_iload_n hx hb dX3_split_108 rfl (lv_at hl 3 rfl) ?_
          refine lv_iconst (v := 0) hx hb dX3_split_109 (by decide) ?_
          have z_97 : 0 ≤ (fv_5 13).toInt ∧ (fv_5 13).toInt ≤ 301 := hF_fv_5 13
          have z_98 : 0 ≤ (fv_5 13).toInt ∧ (fv_5 13).toInt ≤ 301 := hF_fv_5 13
          refine va_callv (va_runV (As := [.ref (tA 30), .int v_1, .int 0]) (rest := []) ⟨hx, hb, hml, hown, hts⟩ (x_addTokenC l dC dI H.size ob ad cA hd fv_5 wd_9 ar_7 hF_fv_5 hA_ar_7 tA to_10 (30) (by decide) v_1 0 (by omega)) (cwV 3 hts (gV kw_4_96 kw_4_98 kw_p_3 kw_1_11 kw_4_99) rfl rfl rfl (by decide +kernel) ⟨Nat.le_of_ble_eq_true rfl, Nat.le_of_ble_eq_true rfl⟩) ⟨fun a U g mk q => ⟨q.1, ⟨q.2.1.1, q.2.1.2.1, va_K.moved (u := U) (U := U.calling g mk a) (Vm.Alike.refl U.vm) q.2.1.2.2⟩, tk_mv (U := U.calling g mk a) rfl (Vm.Alike.refl U.vm) q.2.2⟩, va_recv hK hP (ci := 4) (q0 := 6) rfl rfl, fun U hU hW => ⟨rfl, ⟨by rw [hU], by rw [hU]; exact hP, va_K.moved hW.alike hK⟩, tk_pass hE hS hU hW.alike⟩⟩ rfl rfl hl.1 rfl (lv_room (Nat.le_of_ble_eq_true rfl)) dX3_split_110 ⟨Nat.le_of_ble_eq_true rfl, Nat.le_of_ble_eq_true rfl⟩) hS (fun q _ h9 => aX_up hS q h9) (aX_up hS) (fun u t H1 locs ht _ hw hB _ hk1 hS => ?_)
          obtain ⟨fv_106, wd_107, ar_108⟩ := u
          obtain ⟨hF_fv_106, hA_ar_108, fr_109, fa_110, p_100, p_101, p_102, p_103, p_104, p_105, -⟩ := hw
          have hP : va_P (dC, dI) vwCl (wsX ob ad cA fv_106 wd_107 ar_108) H1 := by have h9 := hB.1; rw [ht] at h9; exact h9
          have fr_109 : fM [13] fv_5 fv_106 := fr_109
          have fa_110 : fA [36, 37] ar_7 ar_108 := fa_110
          have p_100 : tO tA wd_107.2.1 := p_100
          have p_101 : wd_107.2.2 = wd_9.2.2 := p_101
          have p_102 : wd_107.2.1 = va_up wd_9.2.1 ((fv_5 13).toInt.toNat) (some (tA 30)) := p_102
          have p_103 : ar_108 36 = upd (ar_7 36) ((fv_5 13).toInt.toNat) v_1 := p_103
          have p_104 : ar_108 37 = upd (ar_7 37) ((fv_5 13).toInt.toNat) (0 : Int32) := p_104
          have p_105 : (fv_106 13).toInt = (fv_5 13).toInt + 1 := p_105
          generalize H1 = H at hP hS ⊢
          have g_112 : wd_107.2.1 = va_up wd_9.2.1 ((fv_5 13).toInt.toNat) (some (tA 30)) := by have h9 := p_102; exact h9
          have g_113 : ar_108 36 = upd (ar_7 36) ((fv_5 13).toInt.toNat) v_1 := by have h9 := p_103; exact h9
          have g_114 : ar_108 37 = upd (ar_7 37) ((fv_5 13).toInt.toNat) (0 : Int32) := by have h9 := p_104; exact h9
          have g_115 : (fv_106 13).toInt = (fv_5 13).toInt + 1 := by have h9 := p_105; exact h9
          exact W.vret hx hb hr (fun t ht hW => ⟨⟨(fv_106, wd_107, ar_108), rfl, ⟨hF_fv_106, hA_ar_108, (fM_call (fM_call (fM_put (fM_rf [13] _) efv_3 (by decide)) fr_6 (by decide)) fr_109 (by decide)), (fA_call (fA_call (fA_rf [36, 37] _) fa_8 (by decide)) fa_110 (by decide)), (show tO tA wd_107.2.1 from p_100), (show wd_107.2.2 = wd.2.2 from (p_101.trans tq_11)), (show ∃ c : Nat, c ≤ 300 ∧ (fv_106 13).toInt = (c : Int) + 1 ∧ rd_lim sz_.toInt.toNat ≤ rd_st (rd_b (ar 1)) sz_.toInt.toNat c ∧ (∀ k : Nat, k < c → rd_st (rd_b (ar 1)) sz_.toInt.toNat k < rd_lim sz_.toInt.toNat) ∧ rd_ar tA (rd_b (ar 1)) sz_.toInt.toNat (c + 1) wd_107.2.1 (ar_108 36) (ar_108 37) from by have hst8 : rd_lim sz_.toInt.toNat ≤ rd_st (rd_b (ar 1)) sz_.toInt.toNat ((fv_5 13).toInt.toNat) := (by rw [← q_12]; exact Nat.le_trans (by omega) (rd_s_le _ _ _)); have hc8 : (fv_5 13).toInt.toNat ≤ 300 := (by omega); exact ⟨(fv_5 13).toInt.toNat, hc8, by omega, hst8, q_15, rd_ar_s q_13 g_112 g_113 g_114 (by rw [rd_T_e hst8 (by omega)]) (by rw [rd_S_e hst8]; omega) (by rw [rd_N_e hst8]; decide)⟩), trivial⟩, ⟨by rw [ht]; exact hP, va_K.moved hW.alike hK⟩⟩, hS.F ht⟩) hS.2.2 dX3_split_113
        · skip
          have i_116 : 301 ≤ sz_.toInt ∧ sz_.toInt ≤ 340 := iv_lt2 (⟨by decide, by decide⟩ : (300 : Int) ≤ (300 : Int32).toInt ∧ (300 : Int32).toInt ≤ 300) h_sz_ (Int32.not_le.mp c_95)
          refine va_gets hx hb (hE.1 31 (by decide)).1 hS hown (htg (.fieldLink RX3 119 "WalkingTown$Token" "WRONG" "LWalkingTown$Token;") kw_4_35) (fun _ h9 => h9) dX3_split_99 ?_
          refine lv_goto (tgt := 108) hx hb dX3_split_102 (by decide) ?_
          refine lv_iload_n hx hb dX3_split_108 rfl (lv_at hl 3 rfl) ?_
          refine lv_iconst (v := 0) hx hb dX3_split_109 (by decide) ?_
          have z_117 : 0 ≤ (fv_5 13).toInt ∧ (fv_5 13).toInt ≤ 301 := hF_fv_5 13
          have z_118 : 0 ≤ (fv_5 13).toInt ∧ (fv_5 13).toInt ≤ 301 := hF_fv_5 13
          refine va_callv (va_runV (As := [.ref (tA 31), .int v_1, .int 0]) (rest := []) ⟨hx, hb, hml, hown, hts⟩ (x_addTokenC l dC dI H.size ob ad cA hd fv_5 wd_9 ar_7 hF_fv_5 hA_ar_7 tA to_10 (31) (by decide) v_1 0 (by omega)) (cwV 3 hts (gV kw_4_96 kw_4_98 kw_p_3 kw_1_11 kw_4_99) rfl rfl rfl (by decide +kernel) ⟨Nat.le_of_ble_eq_true rfl, Nat.le_of_ble_eq_true rfl⟩) ⟨fun a U g mk q => ⟨q.1, ⟨q.2.1.1, q.2.1.2.1, va_K.moved (u := U) (U := U.calling g mk a) (Vm.Alike.refl U.vm) q.2.1.2.2⟩, tk_mv (U := U.calling g mk a) rfl (Vm.Alike.refl U.vm) q.2.2⟩, va_recv hK hP (ci := 4) (q0 := 6) rfl rfl, fun U hU hW => ⟨rfl, ⟨by rw [hU], by rw [hU]; exact hP, va_K.moved hW.alike hK⟩, tk_pass hE hS hU hW.alike⟩⟩ rfl rfl hl.1 rfl (lv_room (Nat.le_of_ble_eq_true rfl)) dX3_split_110 ⟨Nat.le_of_ble_eq_true rfl, Nat.le_of_ble_eq_true rfl⟩) hS (fun q _ h9 => aX_up hS q h9) (aX_up hS) (fun u t H1 locs ht _ hw hB _ hk1 hS => ?_)
          obtain ⟨fv_126, wd_127, ar_128⟩ := u
          obtain ⟨hF_fv_126, hA_ar_128, fr_129, fa_130, p_120, p_121, p_122, p_123, p_124, p_125, -⟩ := hw
          have hP : va_P (dC, dI) vwCl (wsX ob ad cA fv_126 wd_127 ar_128) H1 := by have h9 := hB.1; rw [ht] at h9; exact h9
          have fr_129 : fM [13] fv_5 fv_126 := fr_129
          have fa_130 : fA [36, 37] ar_7 ar_128 := fa_130
          have p_120 : tO tA wd_127.2.1 := p_120
          have p_121 : wd_127.2.2 = wd_9.2.2 := p_121
          have p_122 : wd_127.2.1 = va_up wd_9.2.1 ((fv_5 13).toInt.toNat) (some (tA 31)) := p_122
          have p_123 : ar_128 36 = upd (ar_7 36) ((fv_5 13).toInt.toNat) v_1 := p_123
          have p_124 : ar_128 37 = upd (ar_7 37) ((fv_5 13).toInt.toNat) (0 : Int32) := p_124
          have p_125 : (fv_126 13).toInt = (fv_5 13).toInt + 1 := p_125
          generalize H1 = H at hP hS ⊢
          have g_132 : wd_127.2.1 = va_up wd_9.2.1 ((fv_5 13).toInt.toNat) (some (tA 31)) := by have h9 := p_122; exact h9
          have g_133 : ar_128 36 = upd (ar_7 36) ((fv_5 13).toInt.toNat) v_1 := by have h9 := p_123; exact h9
          have g_134 : ar_128 37 = upd (ar_7 37) ((fv_5 13).toInt.toNat) (0 : Int32) := by have h9 := p_124; exact h9
          have g_135 : (fv_126 13).toInt = (fv_5 13).toInt + 1 := by have h9 := p_125; exact h9
          exact W.vret hx hb hr (fun t ht hW => ⟨⟨(fv_126, wd_127, ar_128), rfl, ⟨hF_fv_126, hA_ar_128, (fM_call (fM_call (fM_put (fM_rf [13] _) efv_3 (by decide)) fr_6 (by decide)) fr_129 (by decide)), (fA_call (fA_call (fA_rf [36, 37] _) fa_8 (by decide)) fa_130 (by decide)), (show tO tA wd_127.2.1 from p_120), (show wd_127.2.2 = wd.2.2 from (p_121.trans tq_11)), (show ∃ c : Nat, c ≤ 300 ∧ (fv_126 13).toInt = (c : Int) + 1 ∧ rd_lim sz_.toInt.toNat ≤ rd_st (rd_b (ar 1)) sz_.toInt.toNat c ∧ (∀ k : Nat, k < c → rd_st (rd_b (ar 1)) sz_.toInt.toNat k < rd_lim sz_.toInt.toNat) ∧ rd_ar tA (rd_b (ar 1)) sz_.toInt.toNat (c + 1) wd_127.2.1 (ar_128 36) (ar_128 37) from by have hst8 : rd_lim sz_.toInt.toNat ≤ rd_st (rd_b (ar 1)) sz_.toInt.toNat ((fv_5 13).toInt.toNat) := (by rw [← q_12]; exact Nat.le_trans (by omega) (rd_s_le _ _ _)); have hc8 : (fv_5 13).toInt.toNat ≤ 300 := (by omega); exact ⟨(fv_5 13).toInt.toNat, hc8, by omega, hst8, q_15, rd_ar_s q_13 g_132 g_133 g_134 (by rw [rd_T_w hst8 (by omega)]) (by rw [rd_S_e hst8]; omega) (by rw [rd_N_e hst8]; decide)⟩), trivial⟩, ⟨by rw [ht]; exact hP, va_K.moved hW.alike hK⟩⟩, hS.F ht⟩) hS.2.2 dX3_split_113
      · skip
        have i_21 : 0 ≤ x_4.toInt ∧ x_4.toInt ≤ 299 := iv_lt1 i_x_4 i_2 (Int32.not_le.mp c_19)
        have i_22 : 1 ≤ v_1.toInt ∧ v_1.toInt ≤ 300 := iv_lt2 i_x_4 i_2 (Int32.not_le.mp c_19)
        have k_23 := Int32.lt_iff_toInt_lt.mp (Int32.not_le.mp c_19)
        refine lv_aload_n hx hb dX3_split_22 rfl (lv_at hl 1 rfl) ?_
        refine lv_iload hx hb dX3_split_23 (lv_at hl 4 rfl) ?_
        refine lX_1 hx hb hK hP (iv_in i_21 (by decide) (by decide)) dX3_split_25 (fun v_24 ev_24 => ?_)
        have i_25 : 0 ≤ v_24.toInt ∧ v_24.toInt ≤ 255 := ev_24 ▸ hA_ar_7 1 _
        refine lv_bipush (v := 32) hx hb dX3_split_26 (by decide) ?_
        refine lv_icmp_eq (tgt := 40) hx hb dX3_split_28 (by decide) (fun c_26 => ?_) (fun c_26 => ?_)
        · skip
          have i_27 : 32 ≤ v_24.toInt ∧ v_24.toInt ≤ 32 := iv_eq1 (⟨by decide, by decide⟩ : (32 : Int) ≤ (32 : Int32).toInt ∧ (32 : Int32).toInt ≤ 32) c_26
          obtain ⟨v_29, ev_29⟩ : ∃ z : Int32, z = x_4 + 1 := ⟨_, rfl⟩
          refine lv_iinc (v := v_29) (lv' := [(4, .int v_29), (0, .ref (ob 6)), (1, .ref (ad 1)), (2, .int sz_), (3, .int v_1)]) hx hb dX3_split_40 hl (k := 4) rfl (by rw [ev_29]; rfl) (by decide) rfl (fun ls hl => ?_)
          have t_30 : v_29.toInt = x_4.toInt + 1 ∧ 1 ≤ v_29.toInt ∧ v_29.toInt ≤ 300 := iv_addc ev_29 i_21 (by decide) (by decide) (by decide)
          refine lv_goto (tgt := 16) hx hb dX3_split_43 (by decide) ?_
          have z_136 : 0 ≤ (fv_5 13).toInt ∧ (fv_5 13).toInt ≤ 301 := hF_fv_5 13
          exact ih_16 v_29 fv_5 ar_7 wd_9 _ _ ls (by omega) (iv_w t_30.2 (by decide) (by decide)) hF_fv_5 (fM_call (fM_rf [13] _) fr_6 (by decide)) hA_ar_7 (fA_call (fA_rf [36, 37] _) fa_8 (by decide)) to_10 tq_11 (by have h9 := rd_s1 (b := (rd_b (ar 1))) (n := rd_lim sz_.toInt.toNat) (p := x_4.toInt.toNat) (by omega) (Or.inl ((show rd_b (ar 1) (x_4.toInt.toNat) = v_24.toInt from by show (ar 1 (x_4.toInt.toNat)).toInt = _; rw [ev_24, show ar_7 1 = ar 1 from ((fA_call (fA_rf [36, 37] _) fa_8 (by decide)) 1 rfl)]; rfl).trans (by omega))); rw [show v_29.toInt.toNat = x_4.toInt.toNat + 1 from (by omega), ← h9]; exact q_12) q_13 (by omega) q_15 hP hS (lv_sub hl [1, 2, 3, 4, 0] rfl)
        · skip
          have k_32 : ¬ v_24.toInt = 32 := fun q => c_26 (Int32.toInt_inj.mp q)
          refine lv_aload_n hx hb dX3_split_31 rfl (lv_at hl 1 rfl) ?_
          refine lv_iload hx hb dX3_split_32 (lv_at hl 4 rfl) ?_
          refine lX_1 hx hb hK hP (iv_in i_21 (by decide) (by decide)) dX3_split_34 (fun v_33 ev_33 => ?_)
          obtain rfl : v_24 = v_33 := ev_24.trans ev_33.symm
          refine lv_bipush (v := 10) hx hb dX3_split_35 (by decide) ?_
          refine lv_icmp_ne (tgt := 46) hx hb dX3_split_37 (by decide) (fun c_34 => ?_) (fun c_34 => ?_)
          · skip
            have k_35 : ¬ v_24.toInt = 10 := fun q => c_34 (Int32.toInt_inj.mp q)
            refine lv_iload hx hb dX3_split_46 (lv_at hl 4 rfl) ?_
            refine lv_iconst (v := 1) hx hb dX3_split_48 (by decide) ?_
            refine lv_iadd hx hb dX3_split_49 ?_
            refine lv_topi (fun v_36 ev_36 => ?_)
            have t_37 : v_36.toInt = x_4.toInt + 1 ∧ 1 ≤ v_36.toInt ∧ v_36.toInt ≤ 300 := iv_addc ev_36 i_21 (by decide) (by decide) (by decide)
            refine lv_aload_n hx hb dX3_split_50 rfl (lv_at hl 1 rfl) ?_
            refine lv_iload hx hb dX3_split_51 (lv_at hl 4 rfl) ?_
            refine lv_iload_n hx hb dX3_split_53 rfl (lv_at hl 2 rfl) ?_
            refine va_calli (va_runS (As := [.ref (ad 1), .int x_4, .int sz_]) (rest := [.int v_36]) ⟨hx, hb, hml, hown, hts⟩ (x_endOfWordC l dC dI H.size ob ad cA hd fv_5 wd_9 ar_7 hF_fv_5 hA_ar_7 x_4 sz_ (iv_w i_21 (by decide) (by decide)) h_sz_) (va_cwS 3 hts (gS kw_4_18 kw_4_19 kw_1_11 kw_4_20) rfl rfl rfl (by decide +kernel) ⟨Nat.le_of_ble_eq_true rfl, Nat.le_of_ble_eq_true rfl⟩) ⟨fun a U g mk q => ⟨q.1, q.2.1, q.2.2.1, va_K.moved (u := U) (U := U.calling g mk a) (Vm.Alike.refl U.vm) q.2.2.2⟩, fun U hU hW => ⟨rfl, by rw [hU], by rw [hU]; exact hP, va_K.moved hW.alike hK⟩⟩ rfl rfl hl.1 rfl (lv_room (Nat.le_of_ble_eq_true rfl)) dX3_split_54 ⟨Nat.le_of_ble_eq_true rfl, Nat.le_of_ble_eq_true rfl⟩) hS (fun q _ h9 => aX_up hS q h9) (aX_up hS) (fun r_39 u t H1 locs ht _ hw hB _ hk1 hS => ?_)
            obtain ⟨fv_42, wd_43, ar_44⟩ := u
            obtain ⟨hF_fv_42, hA_ar_44, fr_45, fa_46, wf_47, p_40, p_41, -⟩ := hw
            have wf_47 : wd_43.2 = wd_9.2 := wf_47
            have hP : va_P (dC, dI) vwCl (wsX ob ad cA fv_42 wd_43 ar_44) H1 := by have h9 := hB.1; rw [ht] at h9; exact h9
            have fr_45 : fM [] fv_5 fv_42 := fr_45
            have fa_46 : fA [] ar_7 ar_44 := fa_46
            have p_41 : r_39.toInt.toNat = rd_w (rd_b (ar_7 1)) sz_.toInt.toNat x_4.toInt.toNat := p_41
            generalize H1 = H at hP hS ⊢
            have k_48 : r_39.toInt.toNat = rd_w (rd_b (ar 1)) sz_.toInt.toNat x_4.toInt.toNat := by have h9 := p_41; rw [show ar_7 1 = ar 1 from ((fA_call (fA_rf [36, 37] _) fa_8 (by decide)) 1 rfl)] at h9; exact h9
            refine va_mmax hx hb (hml.trans hl.1.symm) hown (htg (.methodLink RX3 105 Lib.Math.max.name) kw_4_27) (htg (.static Lib.Math.max.name) kw_4_28) (htg (.initialized RJ9) kw_1_16) (htg (.code Lib.Math.max.name Lib.Math.max.code 2 (some .int)) kw_4_29) (Nat.le_of_ble_eq_true rfl) (Nat.le_of_ble_eq_true rfl) (Nat.le_of_ble_eq_true rfl) (Nat.le_of_ble_eq_true rfl) dX3_split_57 ?_
            refine lv_topi (fun v_49 ev_49 => ?_)
            have i_50 : 1 ≤ v_49.toInt ∧ v_49.toInt ≤ 340 := ix_max ev_49 t_37.2 p_40 (by decide) (by decide)
            have k_51 := ix_maxl ev_49
            have hst9 : rd_st (rd_b (ar 1)) sz_.toInt.toNat ((fv_5 13).toInt.toNat) = x_4.toInt.toNat := by have h9 := rd_s0 (b := (rd_b (ar 1))) (n := rd_lim sz_.toInt.toNat) (p := x_4.toInt.toNat) (fun w => by have hb9 := (show rd_b (ar 1) (x_4.toInt.toNat) = v_24.toInt from by show (ar 1 (x_4.toInt.toNat)).toInt = _; rw [ev_24, show ar_7 1 = ar 1 from ((fA_call (fA_rf [36, 37] _) fa_8 (by decide)) 1 rfl)]; rfl); have hw9 := w.2; rw [hb9] at hw9; omega); rw [h9] at q_12; exact q_12.symm
            have hlt9 : rd_st (rd_b (ar 1)) sz_.toInt.toNat ((fv_5 13).toInt.toNat) < rd_lim sz_.toInt.toNat := by rw [hst9]; omega
            have hen9 : rd_en (rd_b (ar 1)) sz_.toInt.toNat ((fv_5 13).toInt.toNat + 1) = v_49.toInt.toNat := by rw [rd_en_at hlt9, hst9]; have h9 := rd_mxI ev_49 (by omega) (by omega); rw [h9]; have h8 := k_48; rw [h8]; rw [show v_36.toInt.toNat = x_4.toInt.toNat + 1 from (by omega)]
            refine lv_istore (lv' := [(5, .int v_49), (0, .ref (ob 6)), (1, .ref (ad 1)), (2, .int sz_), (3, .int v_1), (4, .int x_4)]) hx hb dX3_split_60 hl (by decide) rfl (fun ls hl => ?_)
            refine lv_aload_n hx hb dX3_split_62 rfl (lv_at hl 1 rfl) ?_
            refine lv_aload_n hx hb dX3_split_63 rfl (lv_at hl 2 rfl) ?_
            refine lv_iload hx hb dX3_split_64 (lv_at hl 5 rfl) ?_
            refine lv_iload hx hb dX3_split_66 (lv_at hl 0 rfl) ?_
            refine va_callr (va_runS (As := [.ref (ad 1), .int x_4, .int v_49]) (rest := [.ref (ob 6)]) ⟨hx, hb, hml, hown, hts⟩ (x_classifyC l dC dI H.size ob ad cA hd fv_42 wd_43 ar_44 hF_fv_42 hA_ar_44 tkK tkV tkL tkB tkT tA (tO_w to_10 wf_47) x_4 v_49 i_21 (iv_w i_50 (by decide) (by decide)) hhx (by omega)) (va_cwS 3 hts (gS kw_4_30 kw_4_31 kw_1_11 kw_4_32) rfl rfl rfl (by decide +kernel) ⟨Nat.le_of_ble_eq_true rfl, Nat.le_of_ble_eq_true rfl⟩) ⟨fun a U g mk q => ⟨q.1, ⟨q.2.1.1, q.2.1.2.1, va_K.moved (u := U) (U := U.calling g mk a) (Vm.Alike.refl U.vm) q.2.1.2.2⟩, tk_mv (U := U.calling g mk a) rfl (Vm.Alike.refl U.vm) q.2.2.1, tx_mv (U := U.calling g mk a) rfl (Vm.Alike.refl U.vm) q.2.2.2⟩, fun U hU hW => ⟨rfl, ⟨by rw [hU], by rw [hU]; exact hP, va_K.moved hW.alike hK⟩, tk_pass hE hS hU hW.alike, tx_pass hX hS hU hW.alike⟩⟩ rfl rfl hl.1 rfl (lv_room (Nat.le_of_ble_eq_true rfl)) dX3_split_68 ⟨Nat.le_of_ble_eq_true rfl, Nat.le_of_ble_eq_true rfl⟩) hS (fun q _ h9 => aX_up hS q h9) (aX_up hS) (fun u r_52 t H1 locs ht _ hw hB _ hk1 hS => ?_)
            obtain ⟨fv_53, wd_54, ar_55⟩ := u
            obtain ⟨hF_fv_53, hA_ar_55, fr_56, fa_57, wf_58, -⟩ := hw
            have wf_58 : wd_54.2 = wd_43.2 := wf_58
            have hP : va_P (dC, dI) vwCl (wsX ob ad cA fv_53 wd_54 ar_55) H1 := by have h9 := hB.1.1; rw [ht] at h9; exact h9
            have fr_56 : fM [] fv_42 fv_53 := fr_56
            have fa_57 : fA [] ar_44 ar_55 := fa_57
            generalize H1 = H at hP hS ⊢
            obtain ⟨j_59, lj_59, rj_59, zj_59⟩ := hB.2
            subst rj_59
            have yj_59 : j_59 = rd_cl (rd_b (ar 1)) x_4.toInt.toNat (v_49.toInt.toNat - x_4.toInt.toNat) := by have h9 := zj_59; rw [show ar_44 1 = ar 1 from ((fA_call (fA_call (fA_rf [36, 37] _) fa_8 (by decide)) fa_46 (by decide)) 1 rfl)] at h9; exact h9
            refine lv_iload hx hb dX3_split_71 (lv_at hl 5 rfl) ?_
            refine lv_aload_n hx hb dX3_split_73 rfl (lv_at hl 2 rfl) ?_
            refine lv_iload hx hb dX3_split_74 (lv_at hl 5 rfl) ?_
            refine lv_iload hx hb dX3_split_76 (lv_at hl 0 rfl) ?_
            refine va_calli (va_runS (As := [.ref (ad 1), .int x_4, .int v_49]) (rest := [.int x_4, .ref (tA j_59), .ref (ob 6)]) ⟨hx, hb, hml, hown, hts⟩ (x_numberAtC l dC dI H.size ob ad cA hd fv_53 wd_54 ar_55 hF_fv_53 hA_ar_55 x_4 v_49 (iv_w i_21 (by decide) (by decide)) (iv_w i_50 (by decide) (by decide)) (by omega)) (va_cwS 3 hts (gS kw_4_93 kw_4_94 kw_1_11 kw_4_95) rfl rfl rfl (by decide +kernel) ⟨Nat.le_of_ble_eq_true rfl, Nat.le_of_ble_eq_true rfl⟩) ⟨fun a U g mk q => ⟨q.1, q.2.1, q.2.2.1, va_K.moved (u := U) (U := U.calling g mk a) (Vm.Alike.refl U.vm) q.2.2.2⟩, fun U hU hW => ⟨rfl, by rw [hU], by rw [hU]; exact hP, va_K.moved hW.alike hK⟩⟩ rfl rfl hl.1 rfl (lv_room (Nat.le_of_ble_eq_true rfl)) dX3_split_78 ⟨Nat.le_of_ble_eq_true rfl, Nat.le_of_ble_eq_true rfl⟩) hS (fun q _ h9 => aX_up hS q h9) (aX_up hS) (fun r_60 u t H1 locs ht _ hw hB _ hk1 hS => ?_)
            obtain ⟨fv_62, wd_63, ar_64⟩ := u
            obtain ⟨hF_fv_62, hA_ar_64, fr_65, fa_66, wf_67, p_61, -⟩ := hw
            have wf_67 : wd_63.2 = wd_54.2 := wf_67
            have hP : va_P (dC, dI) vwCl (wsX ob ad cA fv_62 wd_63 ar_64) H1 := by have h9 := hB.1; rw [ht] at h9; exact h9
            have fr_65 : fM [] fv_53 fv_62 := fr_65
            have fa_66 : fA [] ar_55 ar_64 := fa_66
            have p_61 : r_60.toInt = rd_nb (rd_b (ar_55 1)) x_4.toInt.toNat (if v_49.toInt.toNat - x_4.toInt.toNat < 4 then v_49.toInt.toNat - x_4.toInt.toNat else 4) := p_61
            generalize H1 = H at hP hS ⊢
            have k_68 : r_60.toInt = rd_nb (rd_b (ar 1)) x_4.toInt.toNat (if v_49.toInt.toNat - x_4.toInt.toNat < 4 then v_49.toInt.toNat - x_4.toInt.toNat else 4) := by have h9 := p_61; rw [show ar_55 1 = ar 1 from ((fA_call (fA_call (fA_call (fA_rf [36, 37] _) fa_8 (by decide)) fa_46 (by decide)) fa_57 (by decide)) 1 rfl)] at h9; exact h9
            have z_69 : (fv_62 13).toInt = (fv_5 13).toInt := congrArg Int32.toInt ((fr_65 13 rfl).trans ((fr_56 13 rfl).trans ((fr_45 13 rfl))))
            have z_70 : 0 ≤ (fv_62 13).toInt ∧ (fv_62 13).toInt ≤ 301 := hF_fv_62 13
            have z_71 : (fv_62 13).toInt = (fv_5 13).toInt := congrArg Int32.toInt ((fr_65 13 rfl).trans ((fr_56 13 rfl).trans ((fr_45 13 rfl))))
            have z_72 : 0 ≤ (fv_62 13).toInt ∧ (fv_62 13).toInt ≤ 301 := hF_fv_62 13
            refine va_callv (va_runV (As := [.ref (tA j_59), .int x_4, .int r_60]) (rest := []) ⟨hx, hb, hml, hown, hts⟩ (x_addTokenC l dC dI H.size ob ad cA hd fv_62 wd_63 ar_64 hF_fv_62 hA_ar_64 tA (tO_w to_10 (wf_67.trans (wf_58.trans wf_47))) (j_59) lj_59 x_4 r_60 (by omega)) (cwV 3 hts (gV kw_4_96 kw_4_98 kw_p_3 kw_1_11 kw_4_99) rfl rfl rfl (by decide +kernel) ⟨Nat.le_of_ble_eq_true rfl, Nat.le_of_ble_eq_true rfl⟩) ⟨fun a U g mk q => ⟨q.1, ⟨q.2.1.1, q.2.1.2.1, va_K.moved (u := U) (U := U.calling g mk a) (Vm.Alike.refl U.vm) q.2.1.2.2⟩, tk_mv (U := U.calling g mk a) rfl (Vm.Alike.refl U.vm) q.2.2⟩, va_recv hK hP (ci := 4) (q0 := 6) rfl rfl, fun U hU hW => ⟨rfl, ⟨by rw [hU], by rw [hU]; exact hP, va_K.moved hW.alike hK⟩, tk_pass hE hS hU hW.alike⟩⟩ rfl rfl hl.1 rfl (lv_room (Nat.le_of_ble_eq_true rfl)) dX3_split_81 ⟨Nat.le_of_ble_eq_true rfl, Nat.le_of_ble_eq_true rfl⟩) hS (fun q _ h9 => aX_up hS q h9) (aX_up hS) (fun u t H1 locs ht _ hw hB _ hk1 hS => ?_)
            obtain ⟨fv_80, wd_81, ar_82⟩ := u
            obtain ⟨hF_fv_80, hA_ar_82, fr_83, fa_84, p_74, p_75, p_76, p_77, p_78, p_79, -⟩ := hw
            have hP : va_P (dC, dI) vwCl (wsX ob ad cA fv_80 wd_81 ar_82) H1 := by have h9 := hB.1; rw [ht] at h9; exact h9
            have fr_83 : fM [13] fv_62 fv_80 := fr_83
            have fa_84 : fA [36, 37] ar_64 ar_82 := fa_84
            have p_74 : tO tA wd_81.2.1 := p_74
            have p_75 : wd_81.2.2 = wd_63.2.2 := p_75
            have p_76 : wd_81.2.1 = va_up wd_63.2.1 ((fv_62 13).toInt.toNat) (some (tA j_59)) := p_76
            have p_77 : ar_82 36 = upd (ar_64 36) ((fv_62 13).toInt.toNat) x_4 := p_77
            have p_78 : ar_82 37 = upd (ar_64 37) ((fv_62 13).toInt.toNat) r_60 := p_78
            have p_79 : (fv_80 13).toInt = (fv_62 13).toInt + 1 := p_79
            generalize H1 = H at hP hS ⊢
            have g_86 : wd_81.2.1 = va_up wd_9.2.1 ((fv_5 13).toInt.toNat) (some (tA j_59)) := by have h9 := p_76; rw [show wd_63.2.1 = wd_9.2.1 from congrArg (fun z => z.1) (wf_67.trans (wf_58.trans wf_47)), show fv_62 13 = fv_5 13 from ((fM_call (fM_call (fM_call (fM_rf [] _) fr_45 (by decide)) fr_56 (by decide)) fr_65 (by decide)) 13 rfl)] at h9; exact h9
            have g_87 : ar_82 36 = upd (ar_7 36) ((fv_5 13).toInt.toNat) x_4 := by have h9 := p_77; rw [show ar_64 36 = ar_7 36 from ((fA_call (fA_call (fA_call (fA_rf [] _) fa_46 (by decide)) fa_57 (by decide)) fa_66 (by decide)) 36 rfl), show fv_62 13 = fv_5 13 from ((fM_call (fM_call (fM_call (fM_rf [] _) fr_45 (by decide)) fr_56 (by decide)) fr_65 (by decide)) 13 rfl)] at h9; exact h9
            have g_88 : ar_82 37 = upd (ar_7 37) ((fv_5 13).toInt.toNat) r_60 := by have h9 := p_78; rw [show ar_64 37 = ar_7 37 from ((fA_call (fA_call (fA_call (fA_rf [] _) fa_46 (by decide)) fa_57 (by decide)) fa_66 (by decide)) 37 rfl), show fv_62 13 = fv_5 13 from ((fM_call (fM_call (fM_call (fM_rf [] _) fr_45 (by decide)) fr_56 (by decide)) fr_65 (by decide)) 13 rfl)] at h9; exact h9
            have g_89 : (fv_80 13).toInt = (fv_5 13).toInt + 1 := by have h9 := p_79; rw [show fv_62 13 = fv_5 13 from ((fM_call (fM_call (fM_call (fM_rf [] _) fr_45 (by decide)) fr_56 (by decide)) fr_65 (by decide)) 13 rfl)] at h9; exact h9
            refine lv_iload hx hb dX3_split_84 (lv_at hl 0 rfl) ?_
            refine lv_istore (lv' := [(4, .int v_49), (5, .int v_49), (0, .ref (ob 6)), (1, .ref (ad 1)), (2, .int sz_), (3, .int v_1)]) hx hb dX3_split_86 hl (by decide) rfl (fun ls hl => ?_)
            refine lv_goto (tgt := 16) hx hb dX3_split_88 (by decide) ?_
            have z_137 : 0 ≤ (fv_80 13).toInt ∧ (fv_80 13).toInt ≤ 301 := hF_fv_80 13
            exact ih_16 v_49 fv_80 ar_82 wd_81 _ _ ls (by omega) (iv_w i_50 (by decide) (by decide)) hF_fv_80 (fM_call (fM_call (fM_call (fM_call (fM_call (fM_rf [13] _) fr_6 (by decide)) fr_45 (by decide)) fr_56 (by decide)) fr_65 (by decide)) fr_83 (by decide)) hA_ar_82 (fA_call (fA_call (fA_call (fA_call (fA_call (fA_rf [36, 37] _) fa_8 (by decide)) fa_46 (by decide)) fa_57 (by decide)) fa_66 (by decide)) fa_84 (by decide)) p_74 (p_75.trans ((congrArg (fun z => z.2) (wf_67.trans (wf_58.trans wf_47))).trans tq_11)) (by rw [show (fv_80 13).toInt.toNat = (fv_5 13).toInt.toNat + 1 from (by omega)]; show _ = rd_s (rd_b (ar 1)) (rd_lim sz_.toInt.toNat) (rd_en (rd_b (ar 1)) sz_.toInt.toNat ((fv_5 13).toInt.toNat + 1)); rw [hen9]) (by rw [show (fv_80 13).toInt.toNat = (fv_5 13).toInt.toNat + 1 from (by omega)]; exact rd_ar_s q_13 g_86 g_87 g_88 (by rw [rd_T_at hlt9, hst9, hen9]; exact yj_59) (by rw [rd_S_at hlt9, hst9]; omega) (by unfold rd_N; rw [hst9, hen9]; exact k_68)) (by omega) (fun k hk => by by_cases h9 : k < (fv_5 13).toInt.toNat; exact q_15 k h9; have h8 : k = (fv_5 13).toInt.toNat := (by omega); rw [h8]; exact hlt9) hP hS (lv_sub hl [2, 3, 4, 5, 0] rfl)
          · skip
            have i_90 : 10 ≤ v_24.toInt ∧ v_24.toInt ≤ 10 := iv_eq1 (⟨by decide, by decide⟩ : (10 : Int) ≤ (10 : Int32).toInt ∧ (10 : Int32).toInt ≤ 10) c_34
            obtain ⟨v_92, ev_92⟩ : ∃ z : Int32, z = x_4 + 1 := ⟨_, rfl⟩
            refine lv_iinc (v := v_92) (lv' := [(4, .int v_92), (0, .ref (ob 6)), (1, .ref (ad 1)), (2, .int sz_), (3, .int v_1)]) hx hb dX3_split_40 hl (k := 4) rfl (by rw [ev_92]; rfl) (by decide) rfl (fun ls hl => ?_)
            have t_93 : v_92.toInt = x_4.toInt + 1 ∧ 1 ≤ v_92.toInt ∧ v_92.toInt ≤ 300 := iv_addc ev_92 i_21 (by decide) (by decide) (by decide)
            refine lv_goto (tgt := 16) hx hb dX3_split_43 (by decide) ?_
            have z_138 : 0 ≤ (fv_5 13).toInt ∧ (fv_5 13).toInt ≤ 301 := hF_fv_5 13
            exact ih_16 v_92 fv_5 ar_7 wd_9 _ _ ls (by omega) (iv_w t_93.2 (by decide) (by decide)) hF_fv_5 (fM_call (fM_rf [13] _) fr_6 (by decide)) hA_ar_7 (fA_call (fA_rf [36, 37] _) fa_8 (by decide)) to_10 tq_11 (by have h9 := rd_s1 (b := (rd_b (ar 1))) (n := rd_lim sz_.toInt.toNat) (p := x_4.toInt.toNat) (by omega) (Or.inr ((show rd_b (ar 1) (x_4.toInt.toNat) = v_24.toInt from by show (ar 1 (x_4.toInt.toNat)).toInt = _; rw [ev_24, show ar_7 1 = ar 1 from ((fA_call (fA_rf [36, 37] _) fa_8 (by decide)) 1 rfl)]; rfl).trans (by omega))); rw [show v_92.toInt.toNat = x_4.toInt.toNat + 1 from (by omega), ← h9]; exact q_12) q_13 (by omega) q_15 hP hS (lv_sub hl [1, 2, 3, 4, 0] rfl)
  · skip
    have z_139 : (0 : Int32).toInt = 0 := by decide
    have z_140 : (fv_3 13).toInt = (0 : Int32).toInt := congrArg Int32.toInt ((congrFun efv_3 13))
    have z_141 : (0 : Int32).toInt = 0 := by decide
    have z_142 : 0 ≤ (fv_3 13).toInt ∧ (fv_3 13).toInt ≤ 301 := hF_fv_3 13
    exact hj_18 341 0 fv_3 ar wd _ _ ls (by first | decide | omega) (iv_w (⟨by decide, by decide⟩ : (0 : Int) ≤ (0 : Int32).toInt ∧ (0 : Int32).toInt ≤ 0) (by decide) (by decide)) hF_fv_3 (fM_rf [13] _) hA_ar (fA_rf [36, 37] _) hto rfl (by rw [show (fv_3 13).toInt.toNat = 0 from (by rw [show fv_3 13 = 0 from (congrFun efv_3 13)]; decide), show (0 : Int32).toInt.toNat = 0 from (by decide)]; rfl) (fun k hk => absurd hk (by rw [show (fv_3 13).toInt.toNat = 0 from (by rw [show fv_3 13 = 0 from (congrFun efv_3 13)]; decide)]; exact Nat.not_lt_zero k)) (by omega) (fun k hk => absurd hk (by rw [show (fv_3 13).toInt.toNat = 0 from (by rw [show fv_3 13 = 0 from (congrFun efv_3 13)]; decide)]; exact Nat.not_lt_zero k)) hP hS (lv_sub hl [2, 3, 4, 1, 0] rfl)

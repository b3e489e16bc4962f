theorem dX12_emit_0 : decode cX12_emit 0 = .ok (.sipush 1200, 3) := by decide +kernel
theorem dX12_emit_3 : decode cX12_emit 3 = .ok (.aload_n 0, 1) := by decide +kernel
theorem dX12_emit_4 : decode cX12_emit 4 = .ok (.getfield 337, 3) := by decide +kernel
theorem dX12_emit_7 : decode cX12_emit 7 = .ok (.iadd, 1) := by decide +kernel
theorem dX12_emit_8 : decode cX12_emit 8 = .ok (.istore 4, 2) := by decide +kernel
theorem dX12_emit_10 : decode cX12_emit 10 = .ok (.aload_n 0, 1) := by decide +kernel
theorem dX12_emit_11 : decode cX12_emit 11 = .ok (.getfield 109, 3) := by decide +kernel
theorem dX12_emit_14 : decode cX12_emit 14 = .ok (.iload 4, 2) := by decide +kernel
theorem dX12_emit_16 : decode cX12_emit 16 = .ok (.iload_n 1, 1) := by decide +kernel
theorem dX12_emit_17 : decode cX12_emit 17 = .ok (.iastore, 1) := by decide +kernel
theorem dX12_emit_18 : decode cX12_emit 18 = .ok (.aload_n 0, 1) := by decide +kernel
theorem dX12_emit_19 : decode cX12_emit 19 = .ok (.getfield 112, 3) := by decide +kernel
theorem dX12_emit_22 : decode cX12_emit 22 = .ok (.iload 4, 2) := by decide +kernel
theorem dX12_emit_24 : decode cX12_emit 24 = .ok (.iload_n 2, 1) := by decide +kernel
theorem dX12_emit_25 : decode cX12_emit 25 = .ok (.iastore, 1) := by decide +kernel
theorem dX12_emit_26 : decode cX12_emit 26 = .ok (.aload_n 0, 1) := by decide +kernel
theorem dX12_emit_27 : decode cX12_emit 27 = .ok (.getfield 115, 3) := by decide +kernel
theorem dX12_emit_30 : decode cX12_emit 30 = .ok (.iload 4, 2) := by decide +kernel
theorem dX12_emit_32 : decode cX12_emit 32 = .ok (.iload_n 3, 1) := by decide +kernel
theorem dX12_emit_33 : decode cX12_emit 33 = .ok (.iastore, 1) := by decide +kernel
theorem dX12_emit_34 : decode cX12_emit 34 = .ok (.aload_n 0, 1) := by decide +kernel
theorem dX12_emit_35 : decode cX12_emit 35 = .ok (.dup, 1) := by decide +kernel
theorem dX12_emit_36 : decode cX12_emit 36 = .ok (.getfield 337, 3) := by decide +kernel
theorem dX12_emit_39 : decode cX12_emit 39 = .ok (.iconst 1, 1) := by decide +kernel
theorem dX12_emit_40 : decode cX12_emit 40 = .ok (.iadd, 1) := by decide +kernel
theorem dX12_emit_41 : decode cX12_emit 41 = .ok (.putfield 337, 3) := by decide +kernel
theorem dX12_emit_44 : decode cX12_emit 44 = .ok (.return_, 1) := by decide +kernel
theorem dX12_isOpen_0 : decode cX12_isOpen 0 = .ok (.iconst 0, 1) := by decide +kernel
theorem dX12_isOpen_1 : decode cX12_isOpen 1 = .ok (.istore_n 1, 1) := by decide +kernel
theorem dX12_isOpen_2 : decode cX12_isOpen 2 = .ok (.iload_n 1, 1) := by decide +kernel
theorem dX12_isOpen_3 : decode cX12_isOpen 3 = .ok (.aload_n 0, 1) := by decide +kernel
theorem dX12_isOpen_4 : decode cX12_isOpen 4 = .ok (.getfield 340, 3) := by decide +kernel
theorem dX12_isOpen_7 : decode cX12_isOpen 7 = .ok (.if_icmp .ge 22, 3) := by decide +kernel
theorem dX12_isOpen_10 : decode cX12_isOpen 10 = .ok (.aload_n 0, 1) := by decide +kernel
theorem dX12_isOpen_11 : decode cX12_isOpen 11 = .ok (.getfield 118, 3) := by decide +kernel
theorem dX12_isOpen_14 : decode cX12_isOpen 14 = .ok (.iload_n 1, 1) := by decide +kernel
theorem dX12_isOpen_15 : decode cX12_isOpen 15 = .ok (.iaload, 1) := by decide +kernel
theorem dX12_isOpen_16 : decode cX12_isOpen 16 = .ok (.bipush 15, 2) := by decide +kernel
theorem dX12_isOpen_18 : decode cX12_isOpen 18 = .ok (.if_icmp .ne 5, 3) := by decide +kernel
theorem dX12_isOpen_21 : decode cX12_isOpen 21 = .ok (.iconst 1, 1) := by decide +kernel
theorem dX12_isOpen_22 : decode cX12_isOpen 22 = .ok (.ireturn, 1) := by decide +kernel
theorem dX12_isOpen_23 : decode cX12_isOpen 23 = .ok (.iinc 1 1, 3) := by decide +kernel
theorem dX12_isOpen_26 : decode cX12_isOpen 26 = .ok (.goto (-24), 3) := by decide +kernel
theorem dX12_isOpen_29 : decode cX12_isOpen 29 = .ok (.iconst 0, 1) := by decide +kernel
theorem dX12_isOpen_30 : decode cX12_isOpen 30 = .ok (.ireturn, 1) := by decide +kernel
theorem vM_54 {fv : Nat → Int32} {ar ar1 : Nat → Nat → Int32} {n : Nat} {x : Int32} (h : vM fv ar) (hr : rA ar) (e : ar1 = upM ar 54 (upd (ar 54) n x)) (hn : 120 * (fv 58).toInt ≤ (n : Int)) : vM fv ar1 := by
  subst e
  intro b k hb hk
  have h2 : (0 : Int) ≤ (ar 53 (16 * b + k)).toInt ∧ (ar 53 (16 * b + k)).toInt ≤ 120 := hr 53 _
  show vP (upd (ar 54) n x) (120 * b + (ar 52 (16 * b + k)).toInt.toNat) (120 * b + (ar 53 (16 * b + k)).toInt.toNat)
  exact vP_K (h b k hb hk) (fun i hi => up_ne (by omega))
theorem vM_52 {fv : Nat → Int32} {ar ar1 : Nat → Nat → Int32} {n : Nat} {x : Int32} (h : vM fv ar) (hr : rA ar) (e : ar1 = upM ar 52 (upd (ar 52) n x)) (hn : 16 * (fv 58).toInt ≤ (n : Int)) : vM fv ar1 := by
  subst e
  intro b k hb hk
  have h2 : (0 : Int) ≤ (ar 47 b).toInt ∧ (ar 47 b).toInt ≤ 16 := hr 47 _
  have hk2 : (k : Int) < (ar 47 b).toInt := hk
  show vP (ar 54) (120 * b + (upd (ar 52) n x (16 * b + k)).toInt.toNat) _
  rw [up_ne (by omega)]
  exact h b k hb hk
theorem vM_53 {fv : Nat → Int32} {ar ar1 : Nat → Nat → Int32} {n : Nat} {x : Int32} (h : vM fv ar) (hr : rA ar) (e : ar1 = upM ar 53 (upd (ar 53) n x)) (hn : 16 * (fv 58).toInt ≤ (n : Int)) : vM fv ar1 := by
  subst e
  intro b k hb hk
  have h2 : (0 : Int) ≤ (ar 47 b).toInt ∧ (ar 47 b).toInt ≤ 16 := hr 47 _
  have hk2 : (k : Int) < (ar 47 b).toInt := hk
  show vP (ar 54) _ (120 * b + (upd (ar 53) n x (16 * b + k)).toInt.toNat)
  rw [up_ne (by omega)]
  exact h b k hb hk
theorem vM_47 {fv : Nat → Int32} {ar ar1 : Nat → Nat → Int32} {n : Nat} {x : Int32} (h : vM fv ar) (hr : rA ar) (e : ar1 = upM ar 47 (upd (ar 47) n x)) (hn : (fv 58).toInt ≤ (n : Int)) : vM fv ar1 := by
  subst e
  intro b k hb hk
  have hk2 : (k : Int) < (upd (ar 47) n x b).toInt := hk
  rw [up_ne (by omega)] at hk2
  exact h b k hb hk2
theorem cX_fr {M N : List Nat} {FF : Nat} {g0 : Nat → Int32} {e : Int} {f f1 : Nat → Int32} {a a1 : Nat → Nat → Int32} (h : cX FF g0 e (f 60).toInt (f 61).toInt (f 62).toInt (f 63).toInt (a 54) (a 57)) (hf : fM M f f1) (ha : fA N a a1) (h0 : M.contains 60 = false) (h1 : M.contains 61 = false) (h2 : M.contains 62 = false) (h3 : M.contains 63 = false) (h4 : N.contains 54 = false) (h5 : N.contains 57 = false) : cX FF g0 e (f1 60).toInt (f1 61).toInt (f1 62).toInt (f1 63).toInt (a1 54) (a1 57) := by
  rw [hf 60 h0, hf 61 h1, hf 62 h2, hf 63 h3, ha 54 h4, ha 57 h5]; exact h
def rL (fv : Nat → Int32) (ar : Nat → Nat → Int32) : Prop := ∀ k : Nat, (k : Int) < (fv 59).toInt → (ar 53 (160 + k)).toInt ≤ (fv 60).toInt ∧ vP (ar 54) (1200 + (ar 52 (160 + k)).toInt.toNat) (1200 + (ar 53 (160 + k)).toInt.toNat)
theorem rL_fr {M N : List Nat} {f f1 : Nat → Int32} {a a1 : Nat → Nat → Int32} (h : rL f a) (hf : fM M f f1) (ha : fA N a a1) (h0 : M.contains 59 = false) (h1 : M.contains 60 = false) (h2 : N.contains 52 = false) (h3 : N.contains 53 = false) (h4 : N.contains 54 = false) : rL f1 a1 := by
  intro k; rw [hf 59 h0, hf 60 h1, ha 52 h2, ha 53 h3, ha 54 h4]; exact h k

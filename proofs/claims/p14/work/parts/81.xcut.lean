theorem dJx4a65c_add_72be8_0 : decode cJx4a65c_add_72be8 0 = .ok (.iload_n 3, 1) := by decide +kernel
theorem dJx4a65c_add_72be8_1 : decode cJx4a65c_add_72be8 1 = .ok (.aload_n 2, 1) := by decide +kernel
theorem dJx4a65c_add_72be8_2 : decode cJx4a65c_add_72be8 2 = .ok (.arraylength, 1) := by decide +kernel
theorem dJx4a65c_add_72be8_3 : decode cJx4a65c_add_72be8 3 = .ok (.if_icmp .ne 8, 3) := by decide +kernel
theorem dJx4a65c_add_72be8_6 : decode cJx4a65c_add_72be8 6 = .ok (.aload_n 0, 1) := by decide +kernel
theorem dJx4a65c_add_72be8_7 : decode cJx4a65c_add_72be8 7 = .ok (.invokevirtual 129, 3) := by decide +kernel
theorem dJx4a65c_add_72be8_10 : decode cJx4a65c_add_72be8 10 = .ok (.astore_n 2, 1) := by decide +kernel
theorem dJx4a65c_add_72be8_11 : decode cJx4a65c_add_72be8 11 = .ok (.aload_n 2, 1) := by decide +kernel
theorem dJx4a65c_add_72be8_12 : decode cJx4a65c_add_72be8 12 = .ok (.iload_n 3, 1) := by decide +kernel
theorem dJx4a65c_add_72be8_13 : decode cJx4a65c_add_72be8 13 = .ok (.aload_n 1, 1) := by decide +kernel
theorem dJx4a65c_add_72be8_14 : decode cJx4a65c_add_72be8 14 = .ok (.aastore, 1) := by decide +kernel
theorem dJx4a65c_add_72be8_15 : decode cJx4a65c_add_72be8 15 = .ok (.aload_n 0, 1) := by decide +kernel
theorem dJx4a65c_add_72be8_16 : decode cJx4a65c_add_72be8 16 = .ok (.iload_n 3, 1) := by decide +kernel
theorem dJx4a65c_add_72be8_17 : decode cJx4a65c_add_72be8 17 = .ok (.iconst 1, 1) := by decide +kernel
theorem dJx4a65c_add_72be8_18 : decode cJx4a65c_add_72be8 18 = .ok (.iadd, 1) := by decide +kernel
theorem dJx4a65c_add_72be8_19 : decode cJx4a65c_add_72be8 19 = .ok (.putfield 48, 3) := by decide +kernel
theorem dJx4a65c_add_72be8_22 : decode cJx4a65c_add_72be8 22 = .ok (.return_, 1) := by decide +kernel
theorem dJx4a65c_add_9ea2d_0 : decode cJx4a65c_add_9ea2d 0 = .ok (.aload_n 0, 1) := by decide +kernel
theorem dJx4a65c_add_9ea2d_1 : decode cJx4a65c_add_9ea2d 1 = .ok (.dup, 1) := by decide +kernel
theorem dJx4a65c_add_9ea2d_2 : decode cJx4a65c_add_9ea2d 2 = .ok (.getfield 63, 3) := by decide +kernel
theorem dJx4a65c_add_9ea2d_5 : decode cJx4a65c_add_9ea2d 5 = .ok (.iconst 1, 1) := by decide +kernel
theorem dJx4a65c_add_9ea2d_6 : decode cJx4a65c_add_9ea2d 6 = .ok (.iadd, 1) := by decide +kernel
theorem dJx4a65c_add_9ea2d_7 : decode cJx4a65c_add_9ea2d 7 = .ok (.putfield 63, 3) := by decide +kernel
theorem dJx4a65c_add_9ea2d_10 : decode cJx4a65c_add_9ea2d 10 = .ok (.aload_n 0, 1) := by decide +kernel
theorem dJx4a65c_add_9ea2d_11 : decode cJx4a65c_add_9ea2d 11 = .ok (.aload_n 1, 1) := by decide +kernel
theorem dJx4a65c_add_9ea2d_12 : decode cJx4a65c_add_9ea2d 12 = .ok (.aload_n 0, 1) := by decide +kernel
theorem dJx4a65c_add_9ea2d_13 : decode cJx4a65c_add_9ea2d 13 = .ok (.getfield 9, 3) := by decide +kernel
theorem dJx4a65c_add_9ea2d_16 : decode cJx4a65c_add_9ea2d 16 = .ok (.aload_n 0, 1) := by decide +kernel
theorem dJx4a65c_add_9ea2d_17 : decode cJx4a65c_add_9ea2d 17 = .ok (.getfield 48, 3) := by decide +kernel
theorem dJx4a65c_add_9ea2d_20 : decode cJx4a65c_add_9ea2d 20 = .ok (.invokevirtual 131, 3) := by decide +kernel
theorem dJx4a65c_add_9ea2d_23 : decode cJx4a65c_add_9ea2d 23 = .ok (.iconst 1, 1) := by decide +kernel
theorem dJx4a65c_add_9ea2d_24 : decode cJx4a65c_add_9ea2d 24 = .ok (.ireturn, 1) := by decide +kernel
theorem dJx4a65c_grow_92f84_0 : decode cJx4a65c_grow_92f84 0 = .ok (.aload_n 0, 1) := by decide +kernel
theorem dJx4a65c_grow_92f84_1 : decode cJx4a65c_grow_92f84 1 = .ok (.getfield 9, 3) := by decide +kernel
theorem dJx4a65c_grow_92f84_4 : decode cJx4a65c_grow_92f84 4 = .ok (.arraylength, 1) := by decide +kernel
theorem dJx4a65c_grow_92f84_5 : decode cJx4a65c_grow_92f84 5 = .ok (.istore_n 2, 1) := by decide +kernel
theorem dJx4a65c_grow_92f84_6 : decode cJx4a65c_grow_92f84 6 = .ok (.iload_n 2, 1) := by decide +kernel
theorem dJx4a65c_grow_92f84_7 : decode cJx4a65c_grow_92f84 7 = .ok (.ifCond .gt 13, 3) := by decide +kernel
theorem dJx4a65c_grow_92f84_10 : decode cJx4a65c_grow_92f84 10 = .ok (.aload_n 0, 1) := by decide +kernel
theorem dJx4a65c_grow_92f84_11 : decode cJx4a65c_grow_92f84 11 = .ok (.getfield 9, 3) := by decide +kernel
theorem dJx4a65c_grow_92f84_14 : decode cJx4a65c_grow_92f84 14 = .ok (.getstatic 39, 3) := by decide +kernel
theorem dJx4a65c_grow_92f84_17 : decode cJx4a65c_grow_92f84 17 = .ok (.if_acmp .eq 28, 3) := by decide +kernel
theorem dJx4a65c_grow_92f84_45 : decode cJx4a65c_grow_92f84 45 = .ok (.aload_n 0, 1) := by decide +kernel
theorem dJx4a65c_grow_92f84_46 : decode cJx4a65c_grow_92f84 46 = .ok (.bipush 10, 2) := by decide +kernel
theorem dJx4a65c_grow_92f84_48 : decode cJx4a65c_grow_92f84 48 = .ok (.iload_n 1, 1) := by decide +kernel
theorem dJx4a65c_grow_92f84_49 : decode cJx4a65c_grow_92f84 49 = .ok (.invokestatic 79, 3) := by decide +kernel
theorem dJx4a65c_grow_92f84_52 : decode cJx4a65c_grow_92f84 52 = .ok (.anewarray 7, 3) := by decide +kernel
theorem dJx4a65c_grow_92f84_55 : decode cJx4a65c_grow_92f84 55 = .ok (.dup_x1, 1) := by decide +kernel
theorem dJx4a65c_grow_92f84_56 : decode cJx4a65c_grow_92f84 56 = .ok (.putfield 9, 3) := by decide +kernel
theorem dJx4a65c_grow_92f84_59 : decode cJx4a65c_grow_92f84 59 = .ok (.areturn, 1) := by decide +kernel
theorem dJx4a65c_grow_d5877_0 : decode cJx4a65c_grow_d5877 0 = .ok (.aload_n 0, 1) := by decide +kernel
theorem dJx4a65c_grow_d5877_1 : decode cJx4a65c_grow_d5877 1 = .ok (.aload_n 0, 1) := by decide +kernel
theorem dJx4a65c_grow_d5877_2 : decode cJx4a65c_grow_d5877 2 = .ok (.getfield 48, 3) := by decide +kernel
theorem dJx4a65c_grow_d5877_5 : decode cJx4a65c_grow_d5877 5 = .ok (.iconst 1, 1) := by decide +kernel
theorem dJx4a65c_grow_d5877_6 : decode cJx4a65c_grow_d5877 6 = .ok (.iadd, 1) := by decide +kernel
theorem dJx4a65c_grow_d5877_7 : decode cJx4a65c_grow_d5877 7 = .ok (.invokevirtual 69, 3) := by decide +kernel
theorem dJx4a65c_grow_d5877_10 : decode cJx4a65c_grow_d5877 10 = .ok (.areturn, 1) := by decide +kernel
theorem dX3_cutOut_0 : decode cX3_cutOut 0 = .ok (.new 22, 3) := by decide +kernel
theorem dX3_cutOut_3 : decode cX3_cutOut 3 = .ok (.dup, 1) := by decide +kernel
theorem dX3_cutOut_4 : decode cX3_cutOut 4 = .ok (.iload_n 1, 1) := by decide +kernel
theorem dX3_cutOut_5 : decode cX3_cutOut 5 = .ok (.aload_n 0, 1) := by decide +kernel
theorem dX3_cutOut_6 : decode cX3_cutOut 6 = .ok (.getfield 31, 3) := by decide +kernel
theorem dX3_cutOut_9 : decode cX3_cutOut 9 = .ok (.aload_n 0, 1) := by decide +kernel
theorem dX3_cutOut_10 : decode cX3_cutOut 10 = .ok (.getfield 35, 3) := by decide +kernel
theorem dX3_cutOut_13 : decode cX3_cutOut 13 = .ok (.invokespecial 24, 3) := by decide +kernel
theorem dX3_cutOut_16 : decode cX3_cutOut 16 = .ok (.astore_n 2, 1) := by decide +kernel
theorem dX3_cutOut_17 : decode cX3_cutOut 17 = .ok (.aload_n 0, 1) := by decide +kernel
theorem dX3_cutOut_18 : decode cX3_cutOut 18 = .ok (.getfield 27, 3) := by decide +kernel
theorem dX3_cutOut_21 : decode cX3_cutOut 21 = .ok (.getfield 70, 3) := by decide +kernel
theorem dX3_cutOut_24 : decode cX3_cutOut 24 = .ok (.iconst 0, 1) := by decide +kernel
theorem dX3_cutOut_25 : decode cX3_cutOut 25 = .ok (.aload_n 2, 1) := by decide +kernel
theorem dX3_cutOut_26 : decode cX3_cutOut 26 = .ok (.getfield 70, 3) := by decide +kernel
theorem dX3_cutOut_29 : decode cX3_cutOut 29 = .ok (.iconst 0, 1) := by decide +kernel
theorem dX3_cutOut_30 : decode cX3_cutOut 30 = .ok (.aload_n 0, 1) := by decide +kernel
theorem dX3_cutOut_31 : decode cX3_cutOut 31 = .ok (.getfield 31, 3) := by decide +kernel
theorem dX3_cutOut_34 : decode cX3_cutOut 34 = .ok (.invokestatic 73, 3) := by decide +kernel
theorem dX3_cutOut_37 : decode cX3_cutOut 37 = .ok (.aload_n 0, 1) := by decide +kernel
theorem dX3_cutOut_38 : decode cX3_cutOut 38 = .ok (.getfield 27, 3) := by decide +kernel
theorem dX3_cutOut_41 : decode cX3_cutOut 41 = .ok (.getfield 79, 3) := by decide +kernel
theorem dX3_cutOut_44 : decode cX3_cutOut 44 = .ok (.iconst 0, 1) := by decide +kernel
theorem dX3_cutOut_45 : decode cX3_cutOut 45 = .ok (.aload_n 2, 1) := by decide +kernel
theorem dX3_cutOut_46 : decode cX3_cutOut 46 = .ok (.getfield 79, 3) := by decide +kernel
theorem dX3_cutOut_49 : decode cX3_cutOut 49 = .ok (.iconst 0, 1) := by decide +kernel
theorem dX3_cutOut_50 : decode cX3_cutOut 50 = .ok (.aload_n 0, 1) := by decide +kernel
theorem dX3_cutOut_51 : decode cX3_cutOut 51 = .ok (.getfield 31, 3) := by decide +kernel
theorem dX3_cutOut_54 : decode cX3_cutOut 54 = .ok (.invokestatic 73, 3) := by decide +kernel
theorem dX3_cutOut_57 : decode cX3_cutOut 57 = .ok (.aload_n 0, 1) := by decide +kernel
theorem dX3_cutOut_58 : decode cX3_cutOut 58 = .ok (.getfield 27, 3) := by decide +kernel
theorem dX3_cutOut_61 : decode cX3_cutOut 61 = .ok (.getfield 82, 3) := by decide +kernel
theorem dX3_cutOut_64 : decode cX3_cutOut 64 = .ok (.iconst 0, 1) := by decide +kernel
theorem dX3_cutOut_65 : decode cX3_cutOut 65 = .ok (.aload_n 2, 1) := by decide +kernel
theorem dX3_cutOut_66 : decode cX3_cutOut 66 = .ok (.getfield 82, 3) := by decide +kernel
theorem dX3_cutOut_69 : decode cX3_cutOut 69 = .ok (.iconst 0, 1) := by decide +kernel
theorem dX3_cutOut_70 : decode cX3_cutOut 70 = .ok (.aload_n 0, 1) := by decide +kernel
theorem dX3_cutOut_71 : decode cX3_cutOut 71 = .ok (.getfield 31, 3) := by decide +kernel
theorem dX3_cutOut_74 : decode cX3_cutOut 74 = .ok (.invokestatic 73, 3) := by decide +kernel
theorem dX3_cutOut_77 : decode cX3_cutOut 77 = .ok (.aload_n 0, 1) := by decide +kernel
theorem dX3_cutOut_78 : decode cX3_cutOut 78 = .ok (.getfield 27, 3) := by decide +kernel
theorem dX3_cutOut_81 : decode cX3_cutOut 81 = .ok (.getfield 85, 3) := by decide +kernel
theorem dX3_cutOut_84 : decode cX3_cutOut 84 = .ok (.iconst 0, 1) := by decide +kernel
theorem dX3_cutOut_85 : decode cX3_cutOut 85 = .ok (.aload_n 2, 1) := by decide +kernel
theorem dX3_cutOut_86 : decode cX3_cutOut 86 = .ok (.getfield 85, 3) := by decide +kernel
theorem dX3_cutOut_89 : decode cX3_cutOut 89 = .ok (.iconst 0, 1) := by decide +kernel
theorem dX3_cutOut_90 : decode cX3_cutOut 90 = .ok (.aload_n 0, 1) := by decide +kernel
theorem dX3_cutOut_91 : decode cX3_cutOut 91 = .ok (.getfield 35, 3) := by decide +kernel
theorem dX3_cutOut_94 : decode cX3_cutOut 94 = .ok (.invokestatic 73, 3) := by decide +kernel
theorem dX3_cutOut_97 : decode cX3_cutOut 97 = .ok (.aload_n 0, 1) := by decide +kernel
theorem dX3_cutOut_98 : decode cX3_cutOut 98 = .ok (.getfield 27, 3) := by decide +kernel
theorem dX3_cutOut_101 : decode cX3_cutOut 101 = .ok (.getfield 88, 3) := by decide +kernel
theorem dX3_cutOut_104 : decode cX3_cutOut 104 = .ok (.iconst 0, 1) := by decide +kernel
theorem dX3_cutOut_105 : decode cX3_cutOut 105 = .ok (.aload_n 2, 1) := by decide +kernel
theorem dX3_cutOut_106 : decode cX3_cutOut 106 = .ok (.getfield 88, 3) := by decide +kernel
theorem dX3_cutOut_109 : decode cX3_cutOut 109 = .ok (.iconst 0, 1) := by decide +kernel
theorem dX3_cutOut_110 : decode cX3_cutOut 110 = .ok (.aload_n 0, 1) := by decide +kernel
theorem dX3_cutOut_111 : decode cX3_cutOut 111 = .ok (.getfield 35, 3) := by decide +kernel
theorem dX3_cutOut_114 : decode cX3_cutOut 114 = .ok (.invokestatic 73, 3) := by decide +kernel
theorem dX3_cutOut_117 : decode cX3_cutOut 117 = .ok (.aload_n 0, 1) := by decide +kernel
theorem dX3_cutOut_118 : decode cX3_cutOut 118 = .ok (.getfield 27, 3) := by decide +kernel
theorem dX3_cutOut_121 : decode cX3_cutOut 121 = .ok (.getfield 91, 3) := by decide +kernel
theorem dX3_cutOut_124 : decode cX3_cutOut 124 = .ok (.iconst 0, 1) := by decide +kernel
theorem dX3_cutOut_125 : decode cX3_cutOut 125 = .ok (.aload_n 2, 1) := by decide +kernel
theorem dX3_cutOut_126 : decode cX3_cutOut 126 = .ok (.getfield 91, 3) := by decide +kernel
theorem dX3_cutOut_129 : decode cX3_cutOut 129 = .ok (.iconst 0, 1) := by decide +kernel
theorem dX3_cutOut_130 : decode cX3_cutOut 130 = .ok (.aload_n 0, 1) := by decide +kernel
theorem dX3_cutOut_131 : decode cX3_cutOut 131 = .ok (.getfield 35, 3) := by decide +kernel
theorem dX3_cutOut_134 : decode cX3_cutOut 134 = .ok (.invokestatic 73, 3) := by decide +kernel
theorem dX3_cutOut_137 : decode cX3_cutOut 137 = .ok (.aload_n 2, 1) := by decide +kernel
theorem dX3_cutOut_138 : decode cX3_cutOut 138 = .ok (.areturn, 1) := by decide +kernel
theorem my_cpy {f : Nat → Int32} {ln : Int32} {LN : Nat} (h : ln.toNatClampNeg = LN) (i : Nat) : (i < LN → va_cpy f (fun _ => 0) (0 : Int32).toNatClampNeg (0 : Int32).toNatClampNeg ln.toNatClampNeg i = f i) ∧ (¬ i < LN → va_cpy f (fun _ => 0) (0 : Int32).toNatClampNeg (0 : Int32).toNatClampNeg ln.toNatClampNeg i = 0) := by
  have z : (0 : Int32).toNatClampNeg = 0 := by decide
  unfold va_cpy
  rw [z, h]
  refine ⟨fun q => ?_, fun q => ?_⟩
  · rw [if_pos ⟨Nat.zero_le _, by omega⟩]; congr 1; omega
  · rw [if_neg (by omega)]
set_option maxHeartbeats 4000000 in
set_option maxRecDepth 100000 in
theorem x_cutOut (l : Launch) (dC : Nat → ClassId) (dI : Nat → Nat → Nat) (sz : Nat) (xR : Nat) (fr : Int32) (ln : Int32) (cn : Int32) (LN : Nat) (CN : Nat) (xD : Nat) (u0 : Value) (u1 : Value) (u2 : Value) (u3 : Value) (u4 : Value) (u5 : Value) (u6 : Value) (u7 : Value) (u8 : Value) (u9 : Value) (d1 : Nat) (c1 : ClassId) (f1 : Nat → Int32) (d2 : Nat) (c2 : ClassId) (f2 : Nat → Int32) (d3 : Nat) (c3 : ClassId) (f3 : Nat → Int32) (d4 : Nat) (c4 : ClassId) (f4 : Nat → Int32) (d5 : Nat) (c5 : ClassId) (f5 : Nat → Int32) (d6 : Nat) (c6 : ClassId) (f6 : Nat → Int32) (hl1 : ¬ ln < 0) (hl2 : ln.toNatClampNeg = LN) (hl3 : LN ≤ 16) (hc1 : ¬ cn < 0) (hc2 : cn.toNatClampNeg = CN) (hc3 : CN ≤ 100) : Met l yX3_cutOut (.code yX3_cutOut cX3_cutOut 3 (some (.object "WalkingTown$Law")) :: lw_good) ({ frames := 4, cells := 7, slots := 355, locals := 150 }) (va_Pc [.ref xR, .int fr] (fun U => U.heap.size = sz ∧ va_P (dC, dI) vwCl [(xR, .inr (4, [u1, u2, u3, u4, u5, .ref xD, .int ln, .int cn, u6, u7, u8, u9])), (xD, .inr (1, [u0, .ref d1, .ref d2, .ref d3, .ref d4, .ref d5, .ref d6])), (d1, .inl (c1, 16, .inl f1)), (d2, .inl (c2, 16, .inl f2)), (d3, .inl (c3, 16, .inl f3)), (d4, .inl (c4, 100, .inl f4)), (d5, .inl (c5, 100, .inl f5)), (d6, .inl (c6, 100, .inl f6))] U.heap ∧ va_K (dC, dI) vwCl [(c1, .int), (c2, .int), (c3, .int), (c4, .int), (c5, .int), (c6, .int)] U ∧ va_D (fun _ => True) [(xR, .inr (4, [u1, u2, u3, u4, u5, .ref xD, .int ln, .int cn, u6, u7, u8, u9])), (xD, .inr (1, [u0, .ref d1, .ref d2, .ref d3, .ref d4, .ref d5, .ref d6])), (d1, .inl (c1, 16, .inl f1)), (d2, .inl (c2, 16, .inl f2)), (d3, .inl (c3, 16, .inl f3)), (d4, .inl (c4, 100, .inl f4)), (d5, .inl (c5, 100, .inl f5)), (d6, .inl (c6, 100, .inl f6))])) (va_Qr (fun (_ : Unit) => True) (fun (_ : Unit) (ra : Nat) (t : State) => ∃ (n1 : Nat), ∃ (k1 : ClassId), ∃ (g1 : Nat → Int32), ∃ (n2 : Nat), ∃ (k2 : ClassId), ∃ (g2 : Nat → Int32), ∃ (n3 : Nat), ∃ (k3 : ClassId), ∃ (g3 : Nat → Int32), ∃ (n4 : Nat), ∃ (k4 : ClassId), ∃ (g4 : Nat → Int32), ∃ (n5 : Nat), ∃ (k5 : ClassId), ∃ (g5 : Nat → Int32), ∃ (n6 : Nat), ∃ (k6 : ClassId), ∃ (g6 : Nat → Int32), (∀ i : Nat, (i < LN → g1 i = f1 i) ∧ (¬ i < LN → g1 i = 0)) ∧ (∀ i : Nat, (i < LN → g2 i = f2 i) ∧ (¬ i < LN → g2 i = 0)) ∧ (∀ i : Nat, (i < LN → g3 i = f3 i) ∧ (¬ i < LN → g3 i = 0)) ∧ (∀ i : Nat, (i < CN → g4 i = f4 i) ∧ (¬ i < CN → g4 i = 0)) ∧ (∀ i : Nat, (i < CN → g5 i = f5 i) ∧ (¬ i < CN → g5 i = 0)) ∧ (∀ i : Nat, (i < CN → g6 i = f6 i) ∧ (¬ i < CN → g6 i = 0)) ∧ va_P (dC, dI) vwCl [(xR, .inr (4, [u1, u2, u3, u4, u5, .ref xD, .int ln, .int cn, u6, u7, u8, u9])), (xD, .inr (1, [u0, .ref d1, .ref d2, .ref d3, .ref d4, .ref d5, .ref d6])), (d1, .inl (c1, 16, .inl f1)), (d2, .inl (c2, 16, .inl f2)), (d3, .inl (c3, 16, .inl f3)), (d4, .inl (c4, 100, .inl f4)), (d5, .inl (c5, 100, .inl f5)), (d6, .inl (c6, 100, .inl f6)), (ra, .inr (1, [.int fr, .ref n1, .ref n2, .ref n3, .ref n4, .ref n5, .ref n6])), (n1, .inl (k1, LN, .inl g1)), (n2, .inl (k2, LN, .inl g2)), (n3, .inl (k3, LN, .inl g3)), (n4, .inl (k4, CN, .inl g4)), (n5, .inl (k5, CN, .inl g5)), (n6, .inl (k6, CN, .inl g6))] t.heap ∧ va_K (dC, dI) vwCl [(c1, .int), (c2, .int), (c3, .int), (c4, .int), (c5, .int), (c6, .int), (k1, .int), (k2, .int), (k3, .int), (k4, .int), (k5, .int), (k6, .int)] t ∧ va_D (va_A [(xR, .inr (4, [u1, u2, u3, u4, u5, .ref xD, .int ln, .int cn, u6, u7, u8, u9])), (xD, .inr (1, [u0, .ref d1, .ref d2, .ref d3, .ref d4, .ref d5, .ref d6])), (d1, .inl (c1, 16, .inl f1)), (d2, .inl (c2, 16, .inl f2)), (d3, .inl (c3, 16, .inl f3)), (d4, .inl (c4, 100, .inl f4)), (d5, .inl (c5, 100, .inl f5)), (d6, .inl (c6, 100, .inl f6))] sz) [(xR, .inr (4, [u1, u2, u3, u4, u5, .ref xD, .int ln, .int cn, u6, u7, u8, u9])), (xD, .inr (1, [u0, .ref d1, .ref d2, .ref d3, .ref d4, .ref d5, .ref d6])), (d1, .inl (c1, 16, .inl f1)), (d2, .inl (c2, 16, .inl f2)), (d3, .inl (c3, 16, .inl f3)), (d4, .inl (c4, 100, .inl f4)), (d5, .inl (c5, 100, .inl f5)), (d6, .inl (c6, 100, .inl f6)), (ra, .inr (1, [.int fr, .ref n1, .ref n2, .ref n3, .ref n4, .ref n5, .ref n6])), (n1, .inl (k1, LN, .inl g1)), (n2, .inl (k2, LN, .inl g2)), (n3, .inl (k3, LN, .inl g3)), (n4, .inl (k4, CN, .inl g4)), (n5, .inl (k5, CN, .inl g5)), (n6, .inl (k6, CN, .inl g6))]) (va_A [(xR, .inr (4, [u1, u2, u3, u4, u5, .ref xD, .int ln, .int cn, u6, u7, u8, u9])), (xD, .inr (1, [u0, .ref d1, .ref d2, .ref d3, .ref d4, .ref d5, .ref d6])), (d1, .inl (c1, 16, .inl f1)), (d2, .inl (c2, 16, .inl f2)), (d3, .inl (c3, 16, .inl f3)), (d4, .inl (c4, 100, .inl f4)), (d5, .inl (c5, 100, .inl f5)), (d6, .inl (c6, 100, .inl f6))] sz)) 7 355 (va_A [(xR, .inr (4, [u1, u2, u3, u4, u5, .ref xD, .int ln, .int cn, u6, u7, u8, u9])), (xD, .inr (1, [u0, .ref d1, .ref d2, .ref d3, .ref d4, .ref d5, .ref d6])), (d1, .inl (c1, 16, .inl f1)), (d2, .inl (c2, 16, .inl f2)), (d3, .inl (c3, 16, .inl f3)), (d4, .inl (c4, 100, .inl f4)), (d5, .inl (c5, 100, .inl f5)), (d6, .inl (c6, 100, .inl f6))] sz) := by
  refine Met.ofW (cc := cX3_cutOut) (maxL := 3) (ret := (some (.object "WalkingTown$Law"))) (by decide) rfl ?_
  intro p e s m args below meth c s₁ B hml hv
  obtain ⟨rfl, hsz, hP, hK, hD0⟩ := hv
  have hx := B.exec
  have hb := B.bytes
  have hr := B.returns
  have hts := atoms_spec (ws := (.code yX3_cutOut cX3_cutOut 3 (some (.object "WalkingTown$Law")) :: lw_good)) B.pre
  have hown : s.vm.findClass RX3 = some m.cls := findClass_of_methodNamed B.named
  have hlocks := B.notSynchronized
  subst hsz
  have hD := hD0.self (sz := s.heap.size)
  generalize hAe : va_A [(xR, .inr (4, [u1, u2, u3, u4, u5, .ref xD, .int ln, .int cn, u6, u7, u8, u9])), (xD, .inr (1, [u0, .ref d1, .ref d2, .ref d3, .ref d4, .ref d5, .ref d6])), (d1, .inl (c1, 16, .inl f1)), (d2, .inl (c2, 16, .inl f2)), (d3, .inl (c3, 16, .inl f3)), (d4, .inl (c4, 100, .inl f4)), (d5, .inl (c5, 100, .inl f5)), (d6, .inl (c6, 100, .inl f6))] s.heap.size = A at hD ⊢
  have hA : ∀ q : Nat, s.heap.size ≤ q → A q := fun q h => by rw [← hAe]; exact Or.inr h
  have hS : va_S A s.heap s.heap [] := va_S.rf
  have hP : va_P (dC, dI) vwCl [(xR, .inr (4, [u1, u2, u3, u4, u5, .ref xD, .int ln, .int cn, u6, u7, u8, u9])), (xD, .inr (1, [u0, .ref d1, .ref d2, .ref d3, .ref d4, .ref d5, .ref d6])), (d1, .inl (c1, 16, .inl f1)), (d2, .inl (c2, 16, .inl f2)), (d3, .inl (c3, 16, .inl f3)), (d4, .inl (c4, 100, .inl f4)), (d5, .inl (c5, 100, .inl f5)), (d6, .inl (c6, 100, .inl f6))] s.heap := hP
  have hl := lv_entry ([.ref xR, .int fr]) (n := 3) (Nat.le_of_ble_eq_true rfl)
  rw [lg_entry_eq]
  generalize (lg_sl ([.ref xR, .int fr]) ++ List.replicate (3 - (lg_sl ([.ref xR, .int fr])).length) Slot.unset).toArray = ls at hl ⊢
  have hl : lv_has ls 3 [(0, .ref xR), (1, .int fr)] := hl
  refine va_new (ci := 1) (fs := [.int 0, .null, .null, .null, .null, .null, .null]) (C := RX0) (T := TX0) (N := 7) hx hb hts iCX0 tyX0 tyX0_ok hown (hts (.classLink RX3 22 RX0) (List.mem_cons_of_mem _ kw_2_139)) (hts (.instantiable RX0 7) (List.mem_cons_of_mem _ kw_2_21)) (hts (.initialized RX0) (List.mem_cons_of_mem _ kw_1_10)) hK hP hD hS hA rfl (my_dfX0) (Nat.le_of_ble_eq_true rfl) (Nat.le_of_ble_eq_true rfl) dX3_cutOut_0 (fun q_1 H hP hD hS => ?_)
  have hP : va_P (dC, dI) vwCl [(xR, .inr (4, [u1, u2, u3, u4, u5, .ref xD, .int ln, .int cn, u6, u7, u8, u9])), (xD, .inr (1, [u0, .ref d1, .ref d2, .ref d3, .ref d4, .ref d5, .ref d6])), (d1, .inl (c1, 16, .inl f1)), (d2, .inl (c2, 16, .inl f2)), (d3, .inl (c3, 16, .inl f3)), (d4, .inl (c4, 100, .inl f4)), (d5, .inl (c5, 100, .inl f5)), (d6, .inl (c6, 100, .inl f6)), (q_1, .inr (1, [.int 0, .null, .null, .null, .null, .null, .null]))] H := hP
  have hD : va_D A [(xR, .inr (4, [u1, u2, u3, u4, u5, .ref xD, .int ln, .int cn, u6, u7, u8, u9])), (xD, .inr (1, [u0, .ref d1, .ref d2, .ref d3, .ref d4, .ref d5, .ref d6])), (d1, .inl (c1, 16, .inl f1)), (d2, .inl (c2, 16, .inl f2)), (d3, .inl (c3, 16, .inl f3)), (d4, .inl (c4, 100, .inl f4)), (d5, .inl (c5, 100, .inl f5)), (d6, .inl (c6, 100, .inl f6)), (q_1, .inr (1, [.int 0, .null, .null, .null, .null, .null, .null]))] := hD
  refine W.widen (k := 1) (n := 7) (Nat.le_of_ble_eq_true rfl) (Nat.le_of_ble_eq_true rfl) ?_
  refine lv_dup hx hb dX3_cutOut_3 rfl ?_
  refine lv_iload_n hx hb dX3_cutOut_4 rfl (lv_at hl 1 rfl) ?_
  refine lv_aload_n hx hb dX3_cutOut_5 rfl (lv_at hl 0 rfl) ?_
  refine va_get (D := (dC, dI)) (ci := 4) (v := .int ln) (C := RX3) (T := TX3) (N := 12) hx hb hts iCX3 hown hK hP 0 rfl rfl 6 (by decide) (hts (.fieldLink RX3 31 "WalkingTown$Reader" "lines" "I") (List.mem_cons_of_mem _ kw_2_147)) (fun _ h9 => h9) rfl dX3_cutOut_6 ?_
  refine lv_aload_n hx hb dX3_cutOut_9 rfl (lv_at hl 0 rfl) ?_
  refine va_get (D := (dC, dI)) (ci := 4) (v := .int cn) (C := RX3) (T := TX3) (N := 12) hx hb hts iCX3 hown hK hP 0 rfl rfl 7 (by decide) (hts (.fieldLink RX3 35 "WalkingTown$Reader" "codes" "I") (List.mem_cons_of_mem _ kw_2_149)) (fun _ h9 => h9) rfl dX3_cutOut_10 ?_
  have hPc := hP.sub (ws' := [(q_1, .inr (1, [.int 0, .null, .null, .null, .null, .null, .null]))]) [8] rfl
  have hDc := hD.sub (ws' := [(q_1, .inr (1, [.int 0, .null, .null, .null, .null, .null, .null]))]) [8] (by decide) rfl
  have hKc := hK.sub (tys' := []) [] rfl
  have hFc := va_free (wc := [(q_1, .inr (1, [.int 0, .null, .null, .null, .null, .null, .null]))]) hD hS hA [8] rfl
  refine va_callv (va_runI (As := [.int fr, .int ln, .int cn]) (rest := [.ref q_1]) ⟨hx, hb, hml, hown, hts⟩ (x_Law_init l dC dI H.size q_1 fr ln cn LN CN hl1 hl2 hl3 hc1 hc2 hc3) (cwI 3 hts (gG kw_2_24) rfl rfl rfl (hts (.initialized RX0) (List.mem_cons_of_mem _ kw_1_10)) (hts (.methodLink RX3 24 yX0_init) (List.mem_cons_of_mem _ kw_2_140)) (hts (.instanceMethod yX0_init) (List.mem_cons_of_mem _ kw_2_23)) rfl (by decide +kernel) ⟨Nat.le_of_ble_eq_true rfl, Nat.le_of_ble_eq_true rfl⟩) ⟨fun a U g mk q => by obtain ⟨q0, q1, qP, qK, qD⟩ := q; exact ⟨q0, q1, qP, va_K.moved (u := U) (U := U.calling g mk a) (Vm.Alike.refl U.vm) qK, qD⟩, fun U hU hW => ⟨rfl, by rw [hU], by rw [hU]; exact hPc, va_K.moved hW.alike hKc, hDc.weaken (fun _ _ _ _ => trivial)⟩⟩ rfl rfl hl.1 rfl (lv_room (Nat.le_of_ble_eq_true rfl)) dX3_cutOut_13 ⟨Nat.le_of_ble_eq_true rfl, Nat.le_of_ble_eq_true rfl⟩) hS (fun q _ h => hFc q h) hFc (fun u t H1 locs ht hvm hw hB hz1 hk1 hS => ?_)
  obtain ⟨a_kinds_3, k_kinds_4, a_values_5, k_values_6, a_ends_7, k_ends_8, a_acts_9, k_acts_10, a_asked_11, k_asked_12, a_numbers_13, k_numbers_14, hP1, hK1, hD1⟩ := hB
  rw [ht] at hP1
  have hK1 := va_K.moved hvm.symm hK1
  obtain ⟨hP, hD⟩ := va_join (wr := [(xR, .inr (4, [u1, u2, u3, u4, u5, .ref xD, .int ln, .int cn, u6, u7, u8, u9])), (xD, .inr (1, [u0, .ref d1, .ref d2, .ref d3, .ref d4, .ref d5, .ref d6])), (d1, .inl (c1, 16, .inl f1)), (d2, .inl (c2, 16, .inl f2)), (d3, .inl (c3, 16, .inl f3)), (d4, .inl (c4, 100, .inl f4)), (d5, .inl (c5, 100, .inl f5)), (d6, .inl (c6, 100, .inl f6))]) (w1 := [(q_1, .inr (1, [.int fr, .ref a_kinds_3, .ref a_values_5, .ref a_ends_7, .ref a_acts_9, .ref a_asked_11, .ref a_numbers_13])), (a_kinds_3, .inl (k_kinds_4, LN, .inl (fun _ => 0))), (a_values_5, .inl (k_values_6, LN, .inl (fun _ => 0))), (a_ends_7, .inl (k_ends_8, LN, .inl (fun _ => 0))), (a_acts_9, .inl (k_acts_10, CN, .inl (fun _ => 0))), (a_asked_11, .inl (k_asked_12, CN, .inl (fun _ => 0))), (a_numbers_13, .inl (k_numbers_14, CN, .inl (fun _ => 0)))]) hP hD [8] [0, 1, 2, 3, 4, 5, 6, 7] rfl rfl (by decide) (by decide) hk1 hFc hP1 hD1
  have hK := (hK.sub (tys' := [(c1, .int), (c2, .int), (c3, .int), (c4, .int), (c5, .int), (c6, .int)]) [0, 1, 2, 3, 4, 5] rfl).app hK1
  generalize H1 = H at hP hS ⊢
  have hP : va_P (dC, dI) vwCl [(xR, .inr (4, [u1, u2, u3, u4, u5, .ref xD, .int ln, .int cn, u6, u7, u8, u9])), (xD, .inr (1, [u0, .ref d1, .ref d2, .ref d3, .ref d4, .ref d5, .ref d6])), (d1, .inl (c1, 16, .inl f1)), (d2, .inl (c2, 16, .inl f2)), (d3, .inl (c3, 16, .inl f3)), (d4, .inl (c4, 100, .inl f4)), (d5, .inl (c5, 100, .inl f5)), (d6, .inl (c6, 100, .inl f6)), (q_1, .inr (1, [.int fr, .ref a_kinds_3, .ref a_values_5, .ref a_ends_7, .ref a_acts_9, .ref a_asked_11, .ref a_numbers_13])), (a_kinds_3, .inl (k_kinds_4, LN, .inl (fun _ => 0))), (a_values_5, .inl (k_values_6, LN, .inl (fun _ => 0))), (a_ends_7, .inl (k_ends_8, LN, .inl (fun _ => 0))), (a_acts_9, .inl (k_acts_10, CN, .inl (fun _ => 0))), (a_asked_11, .inl (k_asked_12, CN, .inl (fun _ => 0))), (a_numbers_13, .inl (k_numbers_14, CN, .inl (fun _ => 0)))] H := hP
  have hD : va_D A [(xR, .inr (4, [u1, u2, u3, u4, u5, .ref xD, .int ln, .int cn, u6, u7, u8, u9])), (xD, .inr (1, [u0, .ref d1, .ref d2, .ref d3, .ref d4, .ref d5, .ref d6])), (d1, .inl (c1, 16, .inl f1)), (d2, .inl (c2, 16, .inl f2)), (d3, .inl (c3, 16, .inl f3)), (d4, .inl (c4, 100, .inl f4)), (d5, .inl (c5, 100, .inl f5)), (d6, .inl (c6, 100, .inl f6)), (q_1, .inr (1, [.int fr, .ref a_kinds_3, .ref a_values_5, .ref a_ends_7, .ref a_acts_9, .ref a_asked_11, .ref a_numbers_13])), (a_kinds_3, .inl (k_kinds_4, LN, .inl (fun _ => 0))), (a_values_5, .inl (k_values_6, LN, .inl (fun _ => 0))), (a_ends_7, .inl (k_ends_8, LN, .inl (fun _ => 0))), (a_acts_9, .inl (k_acts_10, CN, .inl (fun _ => 0))), (a_asked_11, .inl (k_asked_12, CN, .inl (fun _ => 0))), (a_numbers_13, .inl (k_numbers_14, CN, .inl (fun _ => 0)))] := hD
  have hK : va_K (dC, dI) vwCl [(c1, .int), (c2, .int), (c3, .int), (c4, .int), (c5, .int), (c6, .int), (k_kinds_4, .int), (k_values_6, .int), (k_ends_8, .int), (k_acts_10, .int), (k_asked_12, .int), (k_numbers_14, .int)] s := hK
  refine W.widen (k := 7) (n := 355) (Nat.le_of_ble_eq_true rfl) (Nat.le_of_ble_eq_true rfl) ?_
  refine lv_astore_n (lv' := [(2, .ref q_1), (0, .ref xR), (1, .int fr)]) hx hb dX3_cutOut_16 rfl hl (by decide) rfl (fun ls hl => ?_)
  refine lv_aload_n hx hb dX3_cutOut_17 rfl (lv_at hl 1 rfl) ?_
  refine va_get (D := (dC, dI)) (ci := 4) (v := .ref xD) (C := RX3) (T := TX3) (N := 12) hx hb hts iCX3 hown hK hP 0 rfl rfl 5 (by decide) (hts (.fieldLink RX3 27 "WalkingTown$Reader" "draft" "LWalkingTown$Law;") (List.mem_cons_of_mem _ kw_2_146)) (fun _ h9 => h9) rfl dX3_cutOut_18 ?_
  refine va_get (D := (dC, dI)) (ci := 1) (v := .ref d1) (C := RX0) (T := TX0) (N := 7) hx hb hts iCX0 hown hK hP 1 rfl rfl 1 (by decide) (hts (.fieldLink RX3 70 "WalkingTown$Law" "kinds" "[I") (List.mem_cons_of_mem _ kw_2_29)) (fun _ h9 => h9) rfl dX3_cutOut_21 ?_
  refine lv_iconst (v := 0) hx hb dX3_cutOut_24 (by decide) ?_
  refine lv_aload_n hx hb dX3_cutOut_25 rfl (lv_at hl 0 rfl) ?_
  refine va_get (D := (dC, dI)) (ci := 1) (v := .ref a_kinds_3) (C := RX0) (T := TX0) (N := 7) hx hb hts iCX0 hown hK hP 8 rfl rfl 1 (by decide) (hts (.fieldLink RX3 70 "WalkingTown$Law" "kinds" "[I") (List.mem_cons_of_mem _ kw_2_29)) (fun _ h9 => h9) rfl dX3_cutOut_26 ?_
  refine lv_iconst (v := 0) hx hb dX3_cutOut_29 (by decide) ?_
  refine lv_aload_n hx hb dX3_cutOut_30 rfl (lv_at hl 1 rfl) ?_
  refine va_get (D := (dC, dI)) (ci := 4) (v := .int ln) (C := RX3) (T := TX3) (N := 12) hx hb hts iCX3 hown hK hP 0 rfl rfl 6 (by decide) (hts (.fieldLink RX3 31 "WalkingTown$Reader" "lines" "I") (List.mem_cons_of_mem _ kw_2_147)) (fun _ h9 => h9) rfl dX3_cutOut_31 ?_
  refine va_copyi (sp := 0) (dp := 0) (n := ln) hx hb (hml.trans hl.1.symm) hown (hts (.methodLink RX3 73 arraycopyName) (List.mem_cons_of_mem _ kw_4_170)) (hts (.native arraycopyName) (List.mem_cons_of_mem _ kw_4_172)) (hts (.static arraycopyName) (List.mem_cons_of_mem _ kw_4_171)) (hts (.initialized "java/lang/System") (List.mem_cons_of_mem _ kw_1_23)) hK hP hD hS 2 9 0 6 rfl rfl rfl rfl rfl (by decide) (by decide) hl1 (by have z : (0 : Int32).toNatClampNeg = 0 := (by decide); rw [z, hl2]; omega) (by have z : (0 : Int32).toNatClampNeg = 0 := (by decide); rw [z, hl2]; omega) (fun i hi => rfl) (Nat.le_of_ble_eq_true rfl) (by decide) dX3_cutOut_34 (fun H locs hP hD hS => ?_)
  have hP : va_P (dC, dI) vwCl [(xR, .inr (4, [u1, u2, u3, u4, u5, .ref xD, .int ln, .int cn, u6, u7, u8, u9])), (xD, .inr (1, [u0, .ref d1, .ref d2, .ref d3, .ref d4, .ref d5, .ref d6])), (d1, .inl (c1, 16, .inl f1)), (d2, .inl (c2, 16, .inl f2)), (d3, .inl (c3, 16, .inl f3)), (d4, .inl (c4, 100, .inl f4)), (d5, .inl (c5, 100, .inl f5)), (d6, .inl (c6, 100, .inl f6)), (q_1, .inr (1, [.int fr, .ref a_kinds_3, .ref a_values_5, .ref a_ends_7, .ref a_acts_9, .ref a_asked_11, .ref a_numbers_13])), (a_kinds_3, .inl (k_kinds_4, LN, .inl (va_cpy f1 (fun _ => 0) (0 : Int32).toNatClampNeg (0 : Int32).toNatClampNeg ln.toNatClampNeg))), (a_values_5, .inl (k_values_6, LN, .inl (fun _ => 0))), (a_ends_7, .inl (k_ends_8, LN, .inl (fun _ => 0))), (a_acts_9, .inl (k_acts_10, CN, .inl (fun _ => 0))), (a_asked_11, .inl (k_asked_12, CN, .inl (fun _ => 0))), (a_numbers_13, .inl (k_numbers_14, CN, .inl (fun _ => 0)))] H := hP
  have hD : va_D A [(xR, .inr (4, [u1, u2, u3, u4, u5, .ref xD, .int ln, .int cn, u6, u7, u8, u9])), (xD, .inr (1, [u0, .ref d1, .ref d2, .ref d3, .ref d4, .ref d5, .ref d6])), (d1, .inl (c1, 16, .inl f1)), (d2, .inl (c2, 16, .inl f2)), (d3, .inl (c3, 16, .inl f3)), (d4, .inl (c4, 100, .inl f4)), (d5, .inl (c5, 100, .inl f5)), (d6, .inl (c6, 100, .inl f6)), (q_1, .inr (1, [.int fr, .ref a_kinds_3, .ref a_values_5, .ref a_ends_7, .ref a_acts_9, .ref a_asked_11, .ref a_numbers_13])), (a_kinds_3, .inl (k_kinds_4, LN, .inl (va_cpy f1 (fun _ => 0) (0 : Int32).toNatClampNeg (0 : Int32).toNatClampNeg ln.toNatClampNeg))), (a_values_5, .inl (k_values_6, LN, .inl (fun _ => 0))), (a_ends_7, .inl (k_ends_8, LN, .inl (fun _ => 0))), (a_acts_9, .inl (k_acts_10, CN, .inl (fun _ => 0))), (a_asked_11, .inl (k_asked_12, CN, .inl (fun _ => 0))), (a_numbers_13, .inl (k_numbers_14, CN, .inl (fun _ => 0)))] := hD
  refine lv_aload_n hx hb dX3_cutOut_37 rfl (lv_at hl 1 rfl) ?_
  refine va_get (D := (dC, dI)) (ci := 4) (v := .ref xD) (C := RX3) (T := TX3) (N := 12) hx hb hts iCX3 hown hK hP 0 rfl rfl 5 (by decide) (hts (.fieldLink RX3 27 "WalkingTown$Reader" "draft" "LWalkingTown$Law;") (List.mem_cons_of_mem _ kw_2_146)) (fun _ h9 => h9) rfl dX3_cutOut_38 ?_
  refine va_get (D := (dC, dI)) (ci := 1) (v := .ref d2) (C := RX0) (T := TX0) (N := 7) hx hb hts iCX0 hown hK hP 1 rfl rfl 2 (by decide) (hts (.fieldLink RX3 79 "WalkingTown$Law" "values" "[I") (List.mem_cons_of_mem _ kw_2_31)) (fun _ h9 => h9) rfl dX3_cutOut_41 ?_
  refine lv_iconst (v := 0) hx hb dX3_cutOut_44 (by decide) ?_
  refine lv_aload_n hx hb dX3_cutOut_45 rfl (lv_at hl 0 rfl) ?_
  refine va_get (D := (dC, dI)) (ci := 1) (v := .ref a_values_5) (C := RX0) (T := TX0) (N := 7) hx hb hts iCX0 hown hK hP 8 rfl rfl 2 (by decide) (hts (.fieldLink RX3 79 "WalkingTown$Law" "values" "[I") (List.mem_cons_of_mem _ kw_2_31)) (fun _ h9 => h9) rfl dX3_cutOut_46 ?_
  refine lv_iconst (v := 0) hx hb dX3_cutOut_49 (by decide) ?_
  refine lv_aload_n hx hb dX3_cutOut_50 rfl (lv_at hl 1 rfl) ?_
  refine va_get (D := (dC, dI)) (ci := 4) (v := .int ln) (C := RX3) (T := TX3) (N := 12) hx hb hts iCX3 hown hK hP 0 rfl rfl 6 (by decide) (hts (.fieldLink RX3 31 "WalkingTown$Reader" "lines" "I") (List.mem_cons_of_mem _ kw_2_147)) (fun _ h9 => h9) rfl dX3_cutOut_51 ?_
  refine va_copyi (sp := 0) (dp := 0) (n := ln) hx hb (hml.trans hl.1.symm) hown (hts (.methodLink RX3 73 arraycopyName) (List.mem_cons_of_mem _ kw_4_170)) (hts (.native arraycopyName) (List.mem_cons_of_mem _ kw_4_172)) (hts (.static arraycopyName) (List.mem_cons_of_mem _ kw_4_171)) (hts (.initialized "java/lang/System") (List.mem_cons_of_mem _ kw_1_23)) hK hP hD hS 3 10 1 7 rfl rfl rfl rfl rfl (by decide) (by decide) hl1 (by have z : (0 : Int32).toNatClampNeg = 0 := (by decide); rw [z, hl2]; omega) (by have z : (0 : Int32).toNatClampNeg = 0 := (by decide); rw [z, hl2]; omega) (fun i hi => rfl) (Nat.le_of_ble_eq_true rfl) (by decide) dX3_cutOut_54 (fun H locs hP hD hS => ?_)
  have hP : va_P (dC, dI) vwCl [(xR, .inr (4, [u1, u2, u3, u4, u5, .ref xD, .int ln, .int cn, u6, u7, u8, u9])), (xD, .inr (1, [u0, .ref d1, .ref d2, .ref d3, .ref d4, .ref d5, .ref d6])), (d1, .inl (c1, 16, .inl f1)), (d2, .inl (c2, 16, .inl f2)), (d3, .inl (c3, 16, .inl f3)), (d4, .inl (c4, 100, .inl f4)), (d5, .inl (c5, 100, .inl f5)), (d6, .inl (c6, 100, .inl f6)), (q_1, .inr (1, [.int fr, .ref a_kinds_3, .ref a_values_5, .ref a_ends_7, .ref a_acts_9, .ref a_asked_11, .ref a_numbers_13])), (a_kinds_3, .inl (k_kinds_4, LN, .inl (va_cpy f1 (fun _ => 0) (0 : Int32).toNatClampNeg (0 : Int32).toNatClampNeg ln.toNatClampNeg))), (a_values_5, .inl (k_values_6, LN, .inl (va_cpy f2 (fun _ => 0) (0 : Int32).toNatClampNeg (0 : Int32).toNatClampNeg ln.toNatClampNeg))), (a_ends_7, .inl (k_ends_8, LN, .inl (fun _ => 0))), (a_acts_9, .inl (k_acts_10, CN, .inl (fun _ => 0))), (a_asked_11, .inl (k_asked_12, CN, .inl (fun _ => 0))), (a_numbers_13, .inl (k_numbers_14, CN, .inl (fun _ => 0)))] H := hP
  have hD : va_D A [(xR, .inr (4, [u1, u2, u3, u4, u5, .ref xD, .int ln, .int cn, u6, u7, u8, u9])), (xD, .inr (1, [u0, .ref d1, .ref d2, .ref d3, .ref d4, .ref d5, .ref d6])), (d1, .inl (c1, 16, .inl f1)), (d2, .inl (c2, 16, .inl f2)), (d3, .inl (c3, 16, .inl f3)), (d4, .inl (c4, 100, .inl f4)), (d5, .inl (c5, 100, .inl f5)), (d6, .inl (c6, 100, .inl f6)), (q_1, .inr (1, [.int fr, .ref a_kinds_3, .ref a_values_5, .ref a_ends_7, .ref a_acts_9, .ref a_asked_11, .ref a_numbers_13])), (a_kinds_3, .inl (k_kinds_4, LN, .inl (va_cpy f1 (fun _ => 0) (0 : Int32).toNatClampNeg (0 : Int32).toNatClampNeg ln.toNatClampNeg))), (a_values_5, .inl (k_values_6, LN, .inl (va_cpy f2 (fun _ => 0) (0 : Int32).toNatClampNeg (0 : Int32).toNatClampNeg ln.toNatClampNeg))), (a_ends_7, .inl (k_ends_8, LN, .inl (fun _ => 0))), (a_acts_9, .inl (k_acts_10, CN, .inl (fun _ => 0))), (a_asked_11, .inl (k_asked_12, CN, .inl (fun _ => 0))), (a_numbers_13, .inl (k_numbers_14, CN, .inl (fun _ => 0)))] := hD
  refine lv_aload_n hx hb dX3_cutOut_57 rfl (lv_at hl 1 rfl) ?_
  refine va_get (D := (dC, dI)) (ci := 4) (v := .ref xD) (C := RX3) (T := TX3) (N := 12) hx hb hts iCX3 hown hK hP 0 rfl rfl 5 (by decide) (hts (.fieldLink RX3 27 "WalkingTown$Reader" "draft" "LWalkingTown$Law;") (List.mem_cons_of_mem _ kw_2_146)) (fun _ h9 => h9) rfl dX3_cutOut_58 ?_
  refine va_get (D := (dC, dI)) (ci := 1) (v := .ref d3) (C := RX0) (T := TX0) (N := 7) hx hb hts iCX0 hown hK hP 1 rfl rfl 3 (by decide) (hts (.fieldLink RX3 82 "WalkingTown$Law" "ends" "[I") (List.mem_cons_of_mem _ kw_2_35)) (fun _ h9 => h9) rfl dX3_cutOut_61 ?_
  refine lv_iconst (v := 0) hx hb dX3_cutOut_64 (by decide) ?_
  refine lv_aload_n hx hb dX3_cutOut_65 rfl (lv_at hl 0 rfl) ?_
  refine va_get (D := (dC, dI)) (ci := 1) (v := .ref a_ends_7) (C := RX0) (T := TX0) (N := 7) hx hb hts iCX0 hown hK hP 8 rfl rfl 3 (by decide) (hts (.fieldLink RX3 82 "WalkingTown$Law" "ends" "[I") (List.mem_cons_of_mem _ kw_2_35)) (fun _ h9 => h9) rfl dX3_cutOut_66 ?_
  refine lv_iconst (v := 0) hx hb dX3_cutOut_69 (by decide) ?_
  refine lv_aload_n hx hb dX3_cutOut_70 rfl (lv_at hl 1 rfl) ?_
  refine va_get (D := (dC, dI)) (ci := 4) (v := .int ln) (C := RX3) (T := TX3) (N := 12) hx hb hts iCX3 hown hK hP 0 rfl rfl 6 (by decide) (hts (.fieldLink RX3 31 "WalkingTown$Reader" "lines" "I") (List.mem_cons_of_mem _ kw_2_147)) (fun _ h9 => h9) rfl dX3_cutOut_71 ?_
  refine va_copyi (sp := 0) (dp := 0) (n := ln) hx hb (hml.trans hl.1.symm) hown (hts (.methodLink RX3 73 arraycopyName) (List.mem_cons_of_mem _ kw_4_170)) (hts (.native arraycopyName) (List.mem_cons_of_mem _ kw_4_172)) (hts (.static arraycopyName) (List.mem_cons_of_mem _ kw_4_171)) (hts (.initialized "java/lang/System") (List.mem_cons_of_mem _ kw_1_23)) hK hP hD hS 4 11 2 8 rfl rfl rfl rfl rfl (by decide) (by decide) hl1 (by have z : (0 : Int32).toNatClampNeg = 0 := (by decide); rw [z, hl2]; omega) (by have z : (0 : Int32).toNatClampNeg = 0 := (by decide); rw [z, hl2]; omega) (fun i hi => rfl) (Nat.le_of_ble_eq_true rfl) (by decide) dX3_cutOut_74 (fun H locs hP hD hS => ?_)
  have hP : va_P (dC, dI) vwCl [(xR, .inr (4, [u1, u2, u3, u4, u5, .ref xD, .int ln, .int cn, u6, u7, u8, u9])), (xD, .inr (1, [u0, .ref d1, .ref d2, .ref d3, .ref d4, .ref d5, .ref d6])), (d1, .inl (c1, 16, .inl f1)), (d2, .inl (c2, 16, .inl f2)), (d3, .inl (c3, 16, .inl f3)), (d4, .inl (c4, 100, .inl f4)), (d5, .inl (c5, 100, .inl f5)), (d6, .inl (c6, 100, .inl f6)), (q_1, .inr (1, [.int fr, .ref a_kinds_3, .ref a_values_5, .ref a_ends_7, .ref a_acts_9, .ref a_asked_11, .ref a_numbers_13])), (a_kinds_3, .inl (k_kinds_4, LN, .inl (va_cpy f1 (fun _ => 0) (0 : Int32).toNatClampNeg (0 : Int32).toNatClampNeg ln.toNatClampNeg))), (a_values_5, .inl (k_values_6, LN, .inl (va_cpy f2 (fun _ => 0) (0 : Int32).toNatClampNeg (0 : Int32).toNatClampNeg ln.toNatClampNeg))), (a_ends_7, .inl (k_ends_8, LN, .inl (va_cpy f3 (fun _ => 0) (0 : Int32).toNatClampNeg (0 : Int32).toNatClampNeg ln.toNatClampNeg))), (a_acts_9, .inl (k_acts_10, CN, .inl (fun _ => 0))), (a_asked_11, .inl (k_asked_12, CN, .inl (fun _ => 0))), (a_numbers_13, .inl (k_numbers_14, CN, .inl (fun _ => 0)))] H := hP
  have hD : va_D A [(xR, .inr (4, [u1, u2, u3, u4, u5, .ref xD, .int ln, .int cn, u6, u7, u8, u9])), (xD, .inr (1, [u0, .ref d1, .ref d2, .ref d3, .ref d4, .ref d5, .ref d6])), (d1, .inl (c1, 16, .inl f1)), (d2, .inl (c2, 16, .inl f2)), (d3, .inl (c3, 16, .inl f3)), (d4, .inl (c4, 100, .inl f4)), (d5, .inl (c5, 100, .inl f5)), (d6, .inl (c6, 100, .inl f6)), (q_1, .inr (1, [.int fr, .ref a_kinds_3, .ref a_values_5, .ref a_ends_7, .ref a_acts_9, .ref a_asked_11, .ref a_numbers_13])), (a_kinds_3, .inl (k_kinds_4, LN, .inl (va_cpy f1 (fun _ => 0) (0 : Int32).toNatClampNeg (0 : Int32).toNatClampNeg ln.toNatClampNeg))), (a_values_5, .inl (k_values_6, LN, .inl (va_cpy f2 (fun _ => 0) (0 : Int32).toNatClampNeg (0 : Int32).toNatClampNeg ln.toNatClampNeg))), (a_ends_7, .inl (k_ends_8, LN, .inl (va_cpy f3 (fun _ => 0) (0 : Int32).toNatClampNeg (0 : Int32).toNatClampNeg ln.toNatClampNeg))), (a_acts_9, .inl (k_acts_10, CN, .inl (fun _ => 0))), (a_asked_11, .inl (k_asked_12, CN, .inl (fun _ => 0))), (a_numbers_13, .inl (k_numbers_14, CN, .inl (fun _ => 0)))] := hD
  refine lv_aload_n hx hb dX3_cutOut_77 rfl (lv_at hl 1 rfl) ?_
  refine va_get (D := (dC, dI)) (ci := 4) (v := .ref xD) (C := RX3) (T := TX3) (N := 12) hx hb hts iCX3 hown hK hP 0 rfl rfl 5 (by decide) (hts (.fieldLink RX3 27 "WalkingTown$Reader" "draft" "LWalkingTown$Law;") (List.mem_cons_of_mem _ kw_2_146)) (fun _ h9 => h9) rfl dX3_cutOut_78 ?_
  refine va_get (D := (dC, dI)) (ci := 1) (v := .ref d4) (C := RX0) (T := TX0) (N := 7) hx hb hts iCX0 hown hK hP 1 rfl rfl 4 (by decide) (hts (.fieldLink RX3 85 "WalkingTown$Law" "acts" "[I") (List.mem_cons_of_mem _ kw_2_37)) (fun _ h9 => h9) rfl dX3_cutOut_81 ?_
  refine lv_iconst (v := 0) hx hb dX3_cutOut_84 (by decide) ?_
  refine lv_aload_n hx hb dX3_cutOut_85 rfl (lv_at hl 0 rfl) ?_
  refine va_get (D := (dC, dI)) (ci := 1) (v := .ref a_acts_9) (C := RX0) (T := TX0) (N := 7) hx hb hts iCX0 hown hK hP 8 rfl rfl 4 (by decide) (hts (.fieldLink RX3 85 "WalkingTown$Law" "acts" "[I") (List.mem_cons_of_mem _ kw_2_37)) (fun _ h9 => h9) rfl dX3_cutOut_86 ?_
  refine lv_iconst (v := 0) hx hb dX3_cutOut_89 (by decide) ?_
  refine lv_aload_n hx hb dX3_cutOut_90 rfl (lv_at hl 1 rfl) ?_
  refine va_get (D := (dC, dI)) (ci := 4) (v := .int cn) (C := RX3) (T := TX3) (N := 12) hx hb hts iCX3 hown hK hP 0 rfl rfl 7 (by decide) (hts (.fieldLink RX3 35 "WalkingTown$Reader" "codes" "I") (List.mem_cons_of_mem _ kw_2_149)) (fun _ h9 => h9) rfl dX3_cutOut_91 ?_
  refine va_copyi (sp := 0) (dp := 0) (n := cn) hx hb (hml.trans hl.1.symm) hown (hts (.methodLink RX3 73 arraycopyName) (List.mem_cons_of_mem _ kw_4_170)) (hts (.native arraycopyName) (List.mem_cons_of_mem _ kw_4_172)) (hts (.static arraycopyName) (List.mem_cons_of_mem _ kw_4_171)) (hts (.initialized "java/lang/System") (List.mem_cons_of_mem _ kw_1_23)) hK hP hD hS 5 12 3 9 rfl rfl rfl rfl rfl (by decide) (by decide) hc1 (by have z : (0 : Int32).toNatClampNeg = 0 := (by decide); rw [z, hc2]; omega) (by have z : (0 : Int32).toNatClampNeg = 0 := (by decide); rw [z, hc2]; omega) (fun i hi => rfl) (Nat.le_of_ble_eq_true rfl) (by decide) dX3_cutOut_94 (fun H locs hP hD hS => ?_)
  have hP : va_P (dC, dI) vwCl [(xR, .inr (4, [u1, u2, u3, u4, u5, .ref xD, .int ln, .int cn, u6, u7, u8, u9])), (xD, .inr (1, [u0, .ref d1, .ref d2, .ref d3, .ref d4, .ref d5, .ref d6])), (d1, .inl (c1, 16, .inl f1)), (d2, .inl (c2, 16, .inl f2)), (d3, .inl (c3, 16, .inl f3)), (d4, .inl (c4, 100, .inl f4)), (d5, .inl (c5, 100, .inl f5)), (d6, .inl (c6, 100, .inl f6)), (q_1, .inr (1, [.int fr, .ref a_kinds_3, .ref a_values_5, .ref a_ends_7, .ref a_acts_9, .ref a_asked_11, .ref a_numbers_13])), (a_kinds_3, .inl (k_kinds_4, LN, .inl (va_cpy f1 (fun _ => 0) (0 : Int32).toNatClampNeg (0 : Int32).toNatClampNeg ln.toNatClampNeg))), (a_values_5, .inl (k_values_6, LN, .inl (va_cpy f2 (fun _ => 0) (0 : Int32).toNatClampNeg (0 : Int32).toNatClampNeg ln.toNatClampNeg))), (a_ends_7, .inl (k_ends_8, LN, .inl (va_cpy f3 (fun _ => 0) (0 : Int32).toNatClampNeg (0 : Int32).toNatClampNeg ln.toNatClampNeg))), (a_acts_9, .inl (k_acts_10, CN, .inl (va_cpy f4 (fun _ => 0) (0 : Int32).toNatClampNeg (0 : Int32).toNatClampNeg cn.toNatClampNeg))), (a_asked_11, .inl (k_asked_12, CN, .inl (fun _ => 0))), (a_numbers_13, .inl (k_numbers_14, CN, .inl (fun _ => 0)))] H := hP
  have hD : va_D A [(xR, .inr (4, [u1, u2, u3, u4, u5, .ref xD, .int ln, .int cn, u6, u7, u8, u9])), (xD, .inr (1, [u0, .ref d1, .ref d2, .ref d3, .ref d4, .ref d5, .ref d6])), (d1, .inl (c1, 16, .inl f1)), (d2, .inl (c2, 16, .inl f2)), (d3, .inl (c3, 16, .inl f3)), (d4, .inl (c4, 100, .inl f4)), (d5, .inl (c5, 100, .inl f5)), (d6, .inl (c6, 100, .inl f6)), (q_1, .inr (1, [.int fr, .ref a_kinds_3, .ref a_values_5, .ref a_ends_7, .ref a_acts_9, .ref a_asked_11, .ref a_numbers_13])), (a_kinds_3, .inl (k_kinds_4, LN, .inl (va_cpy f1 (fun _ => 0) (0 : Int32).toNatClampNeg (0 : Int32).toNatClampNeg ln.toNatClampNeg))), (a_values_5, .inl (k_values_6, LN, .inl (va_cpy f2 (fun _ => 0) (0 : Int32).toNatClampNeg (0 : Int32).toNatClampNeg ln.toNatClampNeg))), (a_ends_7, .inl (k_ends_8, LN, .inl (va_cpy f3 (fun _ => 0) (0 : Int32).toNatClampNeg (0 : Int32).toNatClampNeg ln.toNatClampNeg))), (a_acts_9, .inl (k_acts_10, CN, .inl (va_cpy f4 (fun _ => 0) (0 : Int32).toNatClampNeg (0 : Int32).toNatClampNeg cn.toNatClampNeg))), (a_asked_11, .inl (k_asked_12, CN, .inl (fun _ => 0))), (a_numbers_13, .inl (k_numbers_14, CN, .inl (fun _ => 0)))] := hD
  refine lv_aload_n hx hb dX3_cutOut_97 rfl (lv_at hl 1 rfl) ?_
  refine va_get (D := (dC, dI)) (ci := 4) (v := .ref xD) (C := RX3) (T := TX3) (N := 12) hx hb hts iCX3 hown hK hP 0 rfl rfl 5 (by decide) (hts (.fieldLink RX3 27 "WalkingTown$Reader" "draft" "LWalkingTown$Law;") (List.mem_cons_of_mem _ kw_2_146)) (fun _ h9 => h9) rfl dX3_cutOut_98 ?_
  refine va_get (D := (dC, dI)) (ci := 1) (v := .ref d5) (C := RX0) (T := TX0) (N := 7) hx hb hts iCX0 hown hK hP 1 rfl rfl 5 (by decide) (hts (.fieldLink RX3 88 "WalkingTown$Law" "asked" "[I") (List.mem_cons_of_mem _ kw_2_39)) (fun _ h9 => h9) rfl dX3_cutOut_101 ?_
  refine lv_iconst (v := 0) hx hb dX3_cutOut_104 (by decide) ?_
  refine lv_aload_n hx hb dX3_cutOut_105 rfl (lv_at hl 0 rfl) ?_
  refine va_get (D := (dC, dI)) (ci := 1) (v := .ref a_asked_11) (C := RX0) (T := TX0) (N := 7) hx hb hts iCX0 hown hK hP 8 rfl rfl 5 (by decide) (hts (.fieldLink RX3 88 "WalkingTown$Law" "asked" "[I") (List.mem_cons_of_mem _ kw_2_39)) (fun _ h9 => h9) rfl dX3_cutOut_106 ?_
  refine lv_iconst (v := 0) hx hb dX3_cutOut_109 (by decide) ?_
  refine lv_aload_n hx hb dX3_cutOut_110 rfl (lv_at hl 1 rfl) ?_
  refine va_get (D := (dC, dI)) (ci := 4) (v := .int cn) (C := RX3) (T := TX3) (N := 12) hx hb hts iCX3 hown hK hP 0 rfl rfl 7 (by decide) (hts (.fieldLink RX3 35 "WalkingTown$Reader" "codes" "I") (List.mem_cons_of_mem _ kw_2_149)) (fun _ h9 => h9) rfl dX3_cutOut_111 ?_
  refine va_copyi (sp := 0) (dp := 0) (n := cn) hx hb (hml.trans hl.1.symm) hown (hts (.methodLink RX3 73 arraycopyName) (List.mem_cons_of_mem _ kw_4_170)) (hts (.native arraycopyName) (List.mem_cons_of_mem _ kw_4_172)) (hts (.static arraycopyName) (List.mem_cons_of_mem _ kw_4_171)) (hts (.initialized "java/lang/System") (List.mem_cons_of_mem _ kw_1_23)) hK hP hD hS 6 13 4 10 rfl rfl rfl rfl rfl (by decide) (by decide) hc1 (by have z : (0 : Int32).toNatClampNeg = 0 := (by decide); rw [z, hc2]; omega) (by have z : (0 : Int32).toNatClampNeg = 0 := (by decide); rw [z, hc2]; omega) (fun i hi => rfl) (Nat.le_of_ble_eq_true rfl) (by decide) dX3_cutOut_114 (fun H locs hP hD hS => ?_)
  have hP : va_P (dC, dI) vwCl [(xR, .inr (4, [u1, u2, u3, u4, u5, .ref xD, .int ln, .int cn, u6, u7, u8, u9])), (xD, .inr (1, [u0, .ref d1, .ref d2, .ref d3, .ref d4, .ref d5, .ref d6])), (d1, .inl (c1, 16, .inl f1)), (d2, .inl (c2, 16, .inl f2)), (d3, .inl (c3, 16, .inl f3)), (d4, .inl (c4, 100, .inl f4)), (d5, .inl (c5, 100, .inl f5)), (d6, .inl (c6, 100, .inl f6)), (q_1, .inr (1, [.int fr, .ref a_kinds_3, .ref a_values_5, .ref a_ends_7, .ref a_acts_9, .ref a_asked_11, .ref a_numbers_13])), (a_kinds_3, .inl (k_kinds_4, LN, .inl (va_cpy f1 (fun _ => 0) (0 : Int32).toNatClampNeg (0 : Int32).toNatClampNeg ln.toNatClampNeg))), (a_values_5, .inl (k_values_6, LN, .inl (va_cpy f2 (fun _ => 0) (0 : Int32).toNatClampNeg (0 : Int32).toNatClampNeg ln.toNatClampNeg))), (a_ends_7, .inl (k_ends_8, LN, .inl (va_cpy f3 (fun _ => 0) (0 : Int32).toNatClampNeg (0 : Int32).toNatClampNeg ln.toNatClampNeg))), (a_acts_9, .inl (k_acts_10, CN, .inl (va_cpy f4 (fun _ => 0) (0 : Int32).toNatClampNeg (0 : Int32).toNatClampNeg cn.toNatClampNeg))), (a_asked_11, .inl (k_asked_12, CN, .inl (va_cpy f5 (fun _ => 0) (0 : Int32).toNatClampNeg (0 : Int32).toNatClampNeg cn.toNatClampNeg))), (a_numbers_13, .inl (k_numbers_14, CN, .inl (fun _ => 0)))] H := hP
  have hD : va_D A [(xR, .inr (4, [u1, u2, u3, u4, u5, .ref xD, .int ln, .int cn, u6, u7, u8, u9])), (xD, .inr (1, [u0, .ref d1, .ref d2, .ref d3, .ref d4, .ref d5, .ref d6])), (d1, .inl (c1, 16, .inl f1)), (d2, .inl (c2, 16, .inl f2)), (d3, .inl (c3, 16, .inl f3)), (d4, .inl (c4, 100, .inl f4)), (d5, .inl (c5, 100, .inl f5)), (d6, .inl (c6, 100, .inl f6)), (q_1, .inr (1, [.int fr, .ref a_kinds_3, .ref a_values_5, .ref a_ends_7, .ref a_acts_9, .ref a_asked_11, .ref a_numbers_13])), (a_kinds_3, .inl (k_kinds_4, LN, .inl (va_cpy f1 (fun _ => 0) (0 : Int32).toNatClampNeg (0 : Int32).toNatClampNeg ln.toNatClampNeg))), (a_values_5, .inl (k_values_6, LN, .inl (va_cpy f2 (fun _ => 0) (0 : Int32).toNatClampNeg (0 : Int32).toNatClampNeg ln.toNatClampNeg))), (a_ends_7, .inl (k_ends_8, LN, .inl (va_cpy f3 (fun _ => 0) (0 : Int32).toNatClampNeg (0 : Int32).toNatClampNeg ln.toNatClampNeg))), (a_acts_9, .inl (k_acts_10, CN, .inl (va_cpy f4 (fun _ => 0) (0 : Int32).toNatClampNeg (0 : Int32).toNatClampNeg cn.toNatClampNeg))), (a_asked_11, .inl (k_asked_12, CN, .inl (va_cpy f5 (fun _ => 0) (0 : Int32).toNatClampNeg (0 : Int32).toNatClampNeg cn.toNatClampNeg))), (a_numbers_13, .inl (k_numbers_14, CN, .inl (fun _ => 0)))] := hD
  refine lv_aload_n hx hb dX3_cutOut_117 rfl (lv_at hl 1 rfl) ?_
  refine va_get (D := (dC, dI)) (ci := 4) (v := .ref xD) (C := RX3) (T := TX3) (N := 12) hx hb hts iCX3 hown hK hP 0 rfl rfl 5 (by decide) (hts (.fieldLink RX3 27 "WalkingTown$Reader" "draft" "LWalkingTown$Law;") (List.mem_cons_of_mem _ kw_2_146)) (fun _ h9 => h9) rfl dX3_cutOut_118 ?_
  refine va_get (D := (dC, dI)) (ci := 1) (v := .ref d6) (C := RX0) (T := TX0) (N := 7) hx hb hts iCX0 hown hK hP 1 rfl rfl 6 (by decide) (hts (.fieldLink RX3 91 "WalkingTown$Law" "numbers" "[I") (List.mem_cons_of_mem _ kw_2_41)) (fun _ h9 => h9) rfl dX3_cutOut_121 ?_
  refine lv_iconst (v := 0) hx hb dX3_cutOut_124 (by decide) ?_
  refine lv_aload_n hx hb dX3_cutOut_125 rfl (lv_at hl 0 rfl) ?_
  refine va_get (D := (dC, dI)) (ci := 1) (v := .ref a_numbers_13) (C := RX0) (T := TX0) (N := 7) hx hb hts iCX0 hown hK hP 8 rfl rfl 6 (by decide) (hts (.fieldLink RX3 91 "WalkingTown$Law" "numbers" "[I") (List.mem_cons_of_mem _ kw_2_41)) (fun _ h9 => h9) rfl dX3_cutOut_126 ?_
  refine lv_iconst (v := 0) hx hb dX3_cutOut_129 (by decide) ?_
  refine lv_aload_n hx hb dX3_cutOut_130 rfl (lv_at hl 1 rfl) ?_
  refine va_get (D := (dC, dI)) (ci := 4) (v := .int cn) (C := RX3) (T := TX3) (N := 12) hx hb hts iCX3 hown hK hP 0 rfl rfl 7 (by decide) (hts (.fieldLink RX3 35 "WalkingTown$Reader" "codes" "I") (List.mem_cons_of_mem _ kw_2_149)) (fun _ h9 => h9) rfl dX3_cutOut_131 ?_
  refine va_copyi (sp := 0) (dp := 0) (n := cn) hx hb (hml.trans hl.1.symm) hown (hts (.methodLink RX3 73 arraycopyName) (List.mem_cons_of_mem _ kw_4_170)) (hts (.native arraycopyName) (List.mem_cons_of_mem _ kw_4_172)) (hts (.static arraycopyName) (List.mem_cons_of_mem _ kw_4_171)) (hts (.initialized "java/lang/System") (List.mem_cons_of_mem _ kw_1_23)) hK hP hD hS 7 14 5 11 rfl rfl rfl rfl rfl (by decide) (by decide) hc1 (by have z : (0 : Int32).toNatClampNeg = 0 := (by decide); rw [z, hc2]; omega) (by have z : (0 : Int32).toNatClampNeg = 0 := (by decide); rw [z, hc2]; omega) (fun i hi => rfl) (Nat.le_of_ble_eq_true rfl) (by decide) dX3_cutOut_134 (fun H locs hP hD hS => ?_)
  have hP : va_P (dC, dI) vwCl [(xR, .inr (4, [u1, u2, u3, u4, u5, .ref xD, .int ln, .int cn, u6, u7, u8, u9])), (xD, .inr (1, [u0, .ref d1, .ref d2, .ref d3, .ref d4, .ref d5, .ref d6])), (d1, .inl (c1, 16, .inl f1)), (d2, .inl (c2, 16, .inl f2)), (d3, .inl (c3, 16, .inl f3)), (d4, .inl (c4, 100, .inl f4)), (d5, .inl (c5, 100, .inl f5)), (d6, .inl (c6, 100, .inl f6)), (q_1, .inr (1, [.int fr, .ref a_kinds_3, .ref a_values_5, .ref a_ends_7, .ref a_acts_9, .ref a_asked_11, .ref a_numbers_13])), (a_kinds_3, .inl (k_kinds_4, LN, .inl (va_cpy f1 (fun _ => 0) (0 : Int32).toNatClampNeg (0 : Int32).toNatClampNeg ln.toNatClampNeg))), (a_values_5, .inl (k_values_6, LN, .inl (va_cpy f2 (fun _ => 0) (0 : Int32).toNatClampNeg (0 : Int32).toNatClampNeg ln.toNatClampNeg))), (a_ends_7, .inl (k_ends_8, LN, .inl (va_cpy f3 (fun _ => 0) (0 : Int32).toNatClampNeg (0 : Int32).toNatClampNeg ln.toNatClampNeg))), (a_acts_9, .inl (k_acts_10, CN, .inl (va_cpy f4 (fun _ => 0) (0 : Int32).toNatClampNeg (0 : Int32).toNatClampNeg cn.toNatClampNeg))), (a_asked_11, .inl (k_asked_12, CN, .inl (va_cpy f5 (fun _ => 0) (0 : Int32).toNatClampNeg (0 : Int32).toNatClampNeg cn.toNatClampNeg))), (a_numbers_13, .inl (k_numbers_14, CN, .inl (va_cpy f6 (fun _ => 0) (0 : Int32).toNatClampNeg (0 : Int32).toNatClampNeg cn.toNatClampNeg)))] H := hP
  have hD : va_D A [(xR, .inr (4, [u1, u2, u3, u4, u5, .ref xD, .int ln, .int cn, u6, u7, u8, u9])), (xD, .inr (1, [u0, .ref d1, .ref d2, .ref d3, .ref d4, .ref d5, .ref d6])), (d1, .inl (c1, 16, .inl f1)), (d2, .inl (c2, 16, .inl f2)), (d3, .inl (c3, 16, .inl f3)), (d4, .inl (c4, 100, .inl f4)), (d5, .inl (c5, 100, .inl f5)), (d6, .inl (c6, 100, .inl f6)), (q_1, .inr (1, [.int fr, .ref a_kinds_3, .ref a_values_5, .ref a_ends_7, .ref a_acts_9, .ref a_asked_11, .ref a_numbers_13])), (a_kinds_3, .inl (k_kinds_4, LN, .inl (va_cpy f1 (fun _ => 0) (0 : Int32).toNatClampNeg (0 : Int32).toNatClampNeg ln.toNatClampNeg))), (a_values_5, .inl (k_values_6, LN, .inl (va_cpy f2 (fun _ => 0) (0 : Int32).toNatClampNeg (0 : Int32).toNatClampNeg ln.toNatClampNeg))), (a_ends_7, .inl (k_ends_8, LN, .inl (va_cpy f3 (fun _ => 0) (0 : Int32).toNatClampNeg (0 : Int32).toNatClampNeg ln.toNatClampNeg))), (a_acts_9, .inl (k_acts_10, CN, .inl (va_cpy f4 (fun _ => 0) (0 : Int32).toNatClampNeg (0 : Int32).toNatClampNeg cn.toNatClampNeg))), (a_asked_11, .inl (k_asked_12, CN, .inl (va_cpy f5 (fun _ => 0) (0 : Int32).toNatClampNeg (0 : Int32).toNatClampNeg cn.toNatClampNeg))), (a_numbers_13, .inl (k_numbers_14, CN, .inl (va_cpy f6 (fun _ => 0) (0 : Int32).toNatClampNeg (0 : Int32).toNatClampNeg cn.toNatClampNeg)))] := hD
  refine lv_aload_n hx hb dX3_cutOut_137 rfl (lv_at hl 0 rfl) ?_
  have hP9 := hP.sub (ws' := [(xR, .inr (4, [u1, u2, u3, u4, u5, .ref xD, .int ln, .int cn, u6, u7, u8, u9])), (xD, .inr (1, [u0, .ref d1, .ref d2, .ref d3, .ref d4, .ref d5, .ref d6])), (d1, .inl (c1, 16, .inl f1)), (d2, .inl (c2, 16, .inl f2)), (d3, .inl (c3, 16, .inl f3)), (d4, .inl (c4, 100, .inl f4)), (d5, .inl (c5, 100, .inl f5)), (d6, .inl (c6, 100, .inl f6)), (q_1, .inr (1, [.int fr, .ref a_kinds_3, .ref a_values_5, .ref a_ends_7, .ref a_acts_9, .ref a_asked_11, .ref a_numbers_13])), (a_kinds_3, .inl (k_kinds_4, LN, .inl (va_cpy f1 (fun _ => 0) (0 : Int32).toNatClampNeg (0 : Int32).toNatClampNeg ln.toNatClampNeg))), (a_values_5, .inl (k_values_6, LN, .inl (va_cpy f2 (fun _ => 0) (0 : Int32).toNatClampNeg (0 : Int32).toNatClampNeg ln.toNatClampNeg))), (a_ends_7, .inl (k_ends_8, LN, .inl (va_cpy f3 (fun _ => 0) (0 : Int32).toNatClampNeg (0 : Int32).toNatClampNeg ln.toNatClampNeg))), (a_acts_9, .inl (k_acts_10, CN, .inl (va_cpy f4 (fun _ => 0) (0 : Int32).toNatClampNeg (0 : Int32).toNatClampNeg cn.toNatClampNeg))), (a_asked_11, .inl (k_asked_12, CN, .inl (va_cpy f5 (fun _ => 0) (0 : Int32).toNatClampNeg (0 : Int32).toNatClampNeg cn.toNatClampNeg))), (a_numbers_13, .inl (k_numbers_14, CN, .inl (va_cpy f6 (fun _ => 0) (0 : Int32).toNatClampNeg (0 : Int32).toNatClampNeg cn.toNatClampNeg)))]) [0, 1, 2, 3, 4, 5, 6, 7, 8, 9, 10, 11, 12, 13, 14] rfl
  have hD9 := hD.sub (ws' := [(xR, .inr (4, [u1, u2, u3, u4, u5, .ref xD, .int ln, .int cn, u6, u7, u8, u9])), (xD, .inr (1, [u0, .ref d1, .ref d2, .ref d3, .ref d4, .ref d5, .ref d6])), (d1, .inl (c1, 16, .inl f1)), (d2, .inl (c2, 16, .inl f2)), (d3, .inl (c3, 16, .inl f3)), (d4, .inl (c4, 100, .inl f4)), (d5, .inl (c5, 100, .inl f5)), (d6, .inl (c6, 100, .inl f6)), (q_1, .inr (1, [.int fr, .ref a_kinds_3, .ref a_values_5, .ref a_ends_7, .ref a_acts_9, .ref a_asked_11, .ref a_numbers_13])), (a_kinds_3, .inl (k_kinds_4, LN, .inl (va_cpy f1 (fun _ => 0) (0 : Int32).toNatClampNeg (0 : Int32).toNatClampNeg ln.toNatClampNeg))), (a_values_5, .inl (k_values_6, LN, .inl (va_cpy f2 (fun _ => 0) (0 : Int32).toNatClampNeg (0 : Int32).toNatClampNeg ln.toNatClampNeg))), (a_ends_7, .inl (k_ends_8, LN, .inl (va_cpy f3 (fun _ => 0) (0 : Int32).toNatClampNeg (0 : Int32).toNatClampNeg ln.toNatClampNeg))), (a_acts_9, .inl (k_acts_10, CN, .inl (va_cpy f4 (fun _ => 0) (0 : Int32).toNatClampNeg (0 : Int32).toNatClampNeg cn.toNatClampNeg))), (a_asked_11, .inl (k_asked_12, CN, .inl (va_cpy f5 (fun _ => 0) (0 : Int32).toNatClampNeg (0 : Int32).toNatClampNeg cn.toNatClampNeg))), (a_numbers_13, .inl (k_numbers_14, CN, .inl (va_cpy f6 (fun _ => 0) (0 : Int32).toNatClampNeg (0 : Int32).toNatClampNeg cn.toNatClampNeg)))]) [0, 1, 2, 3, 4, 5, 6, 7, 8, 9, 10, 11, 12, 13, 14] (by decide) rfl
  have hK9 := hK.sub (tys' := [(c1, .int), (c2, .int), (c3, .int), (c4, .int), (c5, .int), (c6, .int), (k_kinds_4, .int), (k_values_6, .int), (k_ends_8, .int), (k_acts_10, .int), (k_asked_12, .int), (k_numbers_14, .int)]) [0, 1, 2, 3, 4, 5, 6, 7, 8, 9, 10, 11] rfl
  refine W.widen (k := 7) (n := 355) (Nat.le_of_ble_eq_true rfl) (Nat.le_of_ble_eq_true rfl) ?_
  exact W.aret (v := .ref q_1) hx hb hr (Or.inl ⟨_, rfl⟩) (Or.inr ⟨_, rfl⟩) (fun t ht hW => ⟨⟨(), q_1, rfl, trivial, ⟨a_kinds_3, k_kinds_4, (va_cpy f1 (fun _ => 0) (0 : Int32).toNatClampNeg (0 : Int32).toNatClampNeg ln.toNatClampNeg), a_values_5, k_values_6, (va_cpy f2 (fun _ => 0) (0 : Int32).toNatClampNeg (0 : Int32).toNatClampNeg ln.toNatClampNeg), a_ends_7, k_ends_8, (va_cpy f3 (fun _ => 0) (0 : Int32).toNatClampNeg (0 : Int32).toNatClampNeg ln.toNatClampNeg), a_acts_9, k_acts_10, (va_cpy f4 (fun _ => 0) (0 : Int32).toNatClampNeg (0 : Int32).toNatClampNeg cn.toNatClampNeg), a_asked_11, k_asked_12, (va_cpy f5 (fun _ => 0) (0 : Int32).toNatClampNeg (0 : Int32).toNatClampNeg cn.toNatClampNeg), a_numbers_13, k_numbers_14, (va_cpy f6 (fun _ => 0) (0 : Int32).toNatClampNeg (0 : Int32).toNatClampNeg cn.toNatClampNeg), (my_cpy hl2), (my_cpy hl2), (my_cpy hl2), (my_cpy hc2), (my_cpy hc2), (my_cpy hc2), by rw [ht]; exact hP9, va_K.moved hW.alike hK9, hD9⟩⟩, hS.F ht⟩) hS.2.2 dX3_cutOut_138
set_option maxHeartbeats 4000000 in
set_option maxRecDepth 100000 in
theorem x_grow1 (l : Launch) (dC : Nat → ClassId) (dI : Nat → Nat → Nat) (sz : Nat) (tD : Nat) (h0 : Nat) (mc : Int32) : Met l yJx4a65c_grow_92f84 (.code yJx4a65c_grow_92f84 cJx4a65c_grow_92f84 4 (some (.array (.object "java/lang/Object"))) :: lw_good) ({ frames := 2, cells := 1, slots := 10, locals := 60 }) (va_Pc [.ref h0, .int 1] (fun U => U.heap.size = sz ∧ va_P (dC, dI) vwCl [(h0, .inr (0, [.int mc, .ref tD, .int 0]))] U.heap ∧ va_K (dC, dI) vwCl [] U ∧ va_D (fun _ => True) [(h0, .inr (0, [.int mc, .ref tD, .int 0]))] ∧ va_Z "java/util/ArrayList" "DEFAULTCAPACITY_EMPTY_ELEMENTDATA" "[Ljava/lang/Object;" (.ref tD) (va_A [(h0, .inr (0, [.int mc, .ref tD, .int 0]))] sz) U U.heap ∧ va_T (.object "java/lang/Object") tD 0 (fun _ => .null) (va_A [(h0, .inr (0, [.int mc, .ref tD, .int 0]))] sz) U U.heap ∧ va_AO "java/lang/Object" U)) (va_Qr (fun (_ : Unit) => True) (fun (_ : Unit) (ra : Nat) (t : State) => ∃ (kg : ClassId), va_P (dC, dI) vwCl [(h0, .inr (0, [.int mc, .ref ra, .int 0])), (ra, .inl (kg, 10, .inr (.inr (.inr (.inr (fun _ => none))))))] t.heap ∧ va_K (dC, dI) vwCl [(kg, .object "java/lang/Object")] t ∧ va_D (va_A [(h0, .inr (0, [.int mc, .ref tD, .int 0]))] sz) [(h0, .inr (0, [.int mc, .ref ra, .int 0])), (ra, .inl (kg, 10, .inr (.inr (.inr (.inr (fun _ => none))))))]) (va_A [(h0, .inr (0, [.int mc, .ref tD, .int 0]))] sz)) 1 10 (va_A [(h0, .inr (0, [.int mc, .ref tD, .int 0]))] sz) := by
  refine Met.ofW (cc := cJx4a65c_grow_92f84) (maxL := 4) (ret := (some (.array (.object "java/lang/Object")))) (by decide) rfl ?_
  intro p e s m args below meth c s₁ B hml hv
  obtain ⟨rfl, hsz, hP, hK, hD0, hZ_dce, hT_D, hAO_O⟩ := hv
  have hx := B.exec
  have hb := B.bytes
  have hr := B.returns
  have hts := atoms_spec (ws := (.code yJx4a65c_grow_92f84 cJx4a65c_grow_92f84 4 (some (.array (.object "java/lang/Object"))) :: lw_good)) B.pre
  have hown : s.vm.findClass RJx4a65c = some m.cls := findClass_of_methodNamed B.named
  have hlocks := B.notSynchronized
  subst hsz
  have hD := hD0.self (sz := s.heap.size)
  generalize hAe : va_A [(h0, .inr (0, [.int mc, .ref tD, .int 0]))] s.heap.size = A at hD ⊢ hZ_dce hT_D
  have hA : ∀ q : Nat, s.heap.size ≤ q → A q := fun q h => by rw [← hAe]; exact Or.inr h
  have hS : va_S A s.heap s.heap [] := va_S.rf
  have hP : va_P (dC, dI) vwCl [(h0, .inr (0, [.int mc, .ref tD, .int 0]))] s.heap := hP
  have hl := lv_entry ([.ref h0, .int 1]) (n := 4) (Nat.le_of_ble_eq_true rfl)
  rw [lg_entry_eq]
  generalize (lg_sl ([.ref h0, .int 1]) ++ List.replicate (4 - (lg_sl ([.ref h0, .int 1])).length) Slot.unset).toArray = ls at hl ⊢
  have hl : lv_has ls 4 [(0, .ref h0), (1, .int 1)] := hl
  refine lv_aload_n hx hb dJx4a65c_grow_92f84_0 rfl (lv_at hl 0 rfl) ?_
  refine va_get (D := (dC, dI)) (ci := 0) (v := .ref tD) (C := RJx4a65c) (T := TJx4a65c) (N := 3) hx hb hts iCJx4a65c hown hK hP 0 rfl rfl 1 (by decide) (hts (.fieldLink RJx4a65c 9 "java/util/ArrayList" "elementData" "[Ljava/lang/Object;") (List.mem_cons_of_mem _ kw_2_8)) (fun _ h9 => h9) rfl dJx4a65c_grow_92f84_1 ?_
  refine va_tlen hx hb hT_D hS (v := 0) rfl dJx4a65c_grow_92f84_4 ?_
  refine lv_istore_n (lv' := [(2, .int 0), (0, .ref h0), (1, .int 1)]) hx hb dJx4a65c_grow_92f84_5 rfl hl (by decide) rfl (fun ls hl => ?_)
  refine lv_iload_n hx hb dJx4a65c_grow_92f84_6 rfl (lv_at hl 0 rfl) ?_
  refine lv_if_gt (tgt := 20) hx hb dJx4a65c_grow_92f84_7 (by decide) (fun c_1 => ?_) (fun c_1 => ?_)
  · exact absurd c_1 (by decide)
  refine lv_aload_n hx hb dJx4a65c_grow_92f84_10 rfl (lv_at hl 1 rfl) ?_
  refine va_get (D := (dC, dI)) (ci := 0) (v := .ref tD) (C := RJx4a65c) (T := TJx4a65c) (N := 3) hx hb hts iCJx4a65c hown hK hP 0 rfl rfl 1 (by decide) (hts (.fieldLink RJx4a65c 9 "java/util/ArrayList" "elementData" "[Ljava/lang/Object;") (List.mem_cons_of_mem _ kw_2_8)) (fun _ h9 => h9) rfl dJx4a65c_grow_92f84_11 ?_
  refine va_gets hx hb hZ_dce hS hown (hts (.fieldLink RJx4a65c 39 "java/util/ArrayList" "DEFAULTCAPACITY_EMPTY_ELEMENTDATA" "[Ljava/lang/Object;") (List.mem_cons_of_mem _ kw_2_6)) (fun _ h9 => h9) dJx4a65c_grow_92f84_14 ?_
  refine lv_acmp_eq (rx := some tD) (ry := some tD) (tgt := 45) hx hb dJx4a65c_grow_92f84_17 (by decide) (fun _ => ?_) (fun h9 => absurd rfl h9)
  refine lv_aload_n hx hb dJx4a65c_grow_92f84_45 rfl (lv_at hl 1 rfl) ?_
  refine lv_bipush (v := 10) hx hb dJx4a65c_grow_92f84_46 (by decide) ?_
  refine lv_iload_n hx hb dJx4a65c_grow_92f84_48 rfl (lv_at hl 2 rfl) ?_
  refine va_mmax hx hb (hml.trans hl.1.symm) hown (hts (.methodLink RJx4a65c 79 Lib.Math.max.name) (List.mem_cons_of_mem _ kw_4_227)) (hts (.static Lib.Math.max.name) (List.mem_cons_of_mem _ kw_4_28)) (hts (.initialized RJ9) (List.mem_cons_of_mem _ kw_1_16)) (hts (.code Lib.Math.max.name Lib.Math.max.code 2 (some .int)) (List.mem_cons_of_mem _ kw_4_29)) (Nat.le_of_ble_eq_true rfl) (Nat.le_of_ble_eq_true rfl) (Nat.le_of_ble_eq_true rfl) (Nat.le_of_ble_eq_true rfl) dJx4a65c_grow_92f84_49 ?_
  refine my_ti (y := 10) (by decide) ?_
  refine va_newq (N' := 10) hx hb hown (hts (.classLink RJx4a65c 7 "java/lang/Object") (List.mem_cons_of_mem _ kw_4_228)) hAO_O hK hP hD hS hA (by decide) (by decide) (by decide) (Nat.le_of_ble_eq_true rfl) (Nat.le_of_ble_eq_true rfl) dJx4a65c_grow_92f84_52 (fun q_2 cA_2 H hK hP hD hS => ?_)
  have hP : va_P (dC, dI) vwCl [(h0, .inr (0, [.int mc, .ref tD, .int 0])), (q_2, .inl (cA_2, 10, .inr (.inr (.inr (.inr (fun _ => none))))))] H := hP
  have hD : va_D A [(h0, .inr (0, [.int mc, .ref tD, .int 0])), (q_2, .inl (cA_2, 10, .inr (.inr (.inr (.inr (fun _ => none))))))] := hD
  have hK : va_K (dC, dI) vwCl [(cA_2, .object "java/lang/Object")] s := hK
  refine W.widen (k := 1) (n := 10) (Nat.le_of_ble_eq_true rfl) (Nat.le_of_ble_eq_true rfl) ?_
  refine lv_dup_x1 hx hb dJx4a65c_grow_92f84_55 rfl rfl ?_
  refine va_put (D := (dC, dI)) (ci := 0) (v := .ref q_2) (ty := .array (.object "java/lang/Object")) (C := RJx4a65c) (T := TJx4a65c) (N := 3) hx hb hts iCJx4a65c tyJx4a65c tyJx4a65c_ok nmJx4a65c hown hK hP hD hS 0 rfl rfl 1 (by decide) (hts (.fieldLink RJx4a65c 9 "java/util/ArrayList" "elementData" "[Ljava/lang/Object;") (List.mem_cons_of_mem _ kw_2_8)) (fun _ h9 => h9) rfl (by decide +kernel) rfl rfl (Nat.le_of_ble_eq_true rfl) dJx4a65c_grow_92f84_56 (fun H locs hP hD hS => ?_)
  have hP : va_P (dC, dI) vwCl [(h0, .inr (0, [.int mc, .ref q_2, .int 0])), (q_2, .inl (cA_2, 10, .inr (.inr (.inr (.inr (fun _ => none))))))] H := hP
  have hD : va_D A [(h0, .inr (0, [.int mc, .ref q_2, .int 0])), (q_2, .inl (cA_2, 10, .inr (.inr (.inr (.inr (fun _ => none))))))] := hD
  have hP9 := hP.sub (ws' := [(h0, .inr (0, [.int mc, .ref q_2, .int 0])), (q_2, .inl (cA_2, 10, .inr (.inr (.inr (.inr (fun _ => none))))))]) [0, 1] rfl
  have hD9 := hD.sub (ws' := [(h0, .inr (0, [.int mc, .ref q_2, .int 0])), (q_2, .inl (cA_2, 10, .inr (.inr (.inr (.inr (fun _ => none))))))]) [0, 1] (by decide) rfl
  have hK9 := hK.sub (tys' := [(cA_2, .object "java/lang/Object")]) [0] rfl
  refine W.widen (k := 1) (n := 10) (Nat.le_of_ble_eq_true rfl) (Nat.le_of_ble_eq_true rfl) ?_
  exact W.aret (v := .ref q_2) hx hb hr (Or.inr ⟨_, rfl⟩) (Or.inr ⟨_, rfl⟩) (fun t ht hW => ⟨⟨(), q_2, rfl, trivial, ⟨cA_2, by rw [ht]; exact hP9, va_K.moved hW.alike hK9, hD9⟩⟩, hS.F ht⟩) hS.2.2 dJx4a65c_grow_92f84_59
set_option maxHeartbeats 4000000 in
set_option maxRecDepth 100000 in
theorem x_grow0 (l : Launch) (dC : Nat → ClassId) (dI : Nat → Nat → Nat) (sz : Nat) (tD : Nat) (h0 : Nat) (mc : Int32) : Met l yJx4a65c_grow_d5877 (.code yJx4a65c_grow_d5877 cJx4a65c_grow_d5877 1 (some (.array (.object "java/lang/Object"))) :: lw_good) ({ frames := 4, cells := 1, slots := 10, locals := 150 }) (va_Pc [.ref h0] (fun U => U.heap.size = sz ∧ va_P (dC, dI) vwCl [(h0, .inr (0, [.int mc, .ref tD, .int 0]))] U.heap ∧ va_K (dC, dI) vwCl [] U ∧ va_D (fun _ => True) [(h0, .inr (0, [.int mc, .ref tD, .int 0]))] ∧ va_Z "java/util/ArrayList" "DEFAULTCAPACITY_EMPTY_ELEMENTDATA" "[Ljava/lang/Object;" (.ref tD) (va_A [(h0, .inr (0, [.int mc, .ref tD, .int 0]))] sz) U U.heap ∧ va_T (.object "java/lang/Object") tD 0 (fun _ => .null) (va_A [(h0, .inr (0, [.int mc, .ref tD, .int 0]))] sz) U U.heap ∧ va_AO "java/lang/Object" U)) (va_Qr (fun (_ : Unit) => True) (fun (_ : Unit) (ra : Nat) (t : State) => ∃ (kg : ClassId), va_P (dC, dI) vwCl [(h0, .inr (0, [.int mc, .ref ra, .int 0])), (ra, .inl (kg, 10, .inr (.inr (.inr (.inr (fun _ => none))))))] t.heap ∧ va_K (dC, dI) vwCl [(kg, .object "java/lang/Object")] t ∧ va_D (va_A [(h0, .inr (0, [.int mc, .ref tD, .int 0]))] sz) [(h0, .inr (0, [.int mc, .ref ra, .int 0])), (ra, .inl (kg, 10, .inr (.inr (.inr (.inr (fun _ => none))))))]) (va_A [(h0, .inr (0, [.int mc, .ref tD, .int 0]))] sz)) 1 10 (va_A [(h0, .inr (0, [.int mc, .ref tD, .int 0]))] sz) := by
  refine Met.ofW (cc := cJx4a65c_grow_d5877) (maxL := 1) (ret := (some (.array (.object "java/lang/Object")))) (by decide) rfl ?_
  intro p e s m args below meth c s₁ B hml hv
  obtain ⟨rfl, hsz, hP, hK, hD0, hZ_dce, hT_D, hAO_O⟩ := hv
  have hx := B.exec
  have hb := B.bytes
  have hr := B.returns
  have hts := atoms_spec (ws := (.code yJx4a65c_grow_d5877 cJx4a65c_grow_d5877 1 (some (.array (.object "java/lang/Object"))) :: lw_good)) B.pre
  have hown : s.vm.findClass RJx4a65c = some m.cls := findClass_of_methodNamed B.named
  have hlocks := B.notSynchronized
  subst hsz
  have hD := hD0.self (sz := s.heap.size)
  generalize hAe : va_A [(h0, .inr (0, [.int mc, .ref tD, .int 0]))] s.heap.size = A at hD ⊢ hZ_dce hT_D
  have hA : ∀ q : Nat, s.heap.size ≤ q → A q := fun q h => by rw [← hAe]; exact Or.inr h
  have hS : va_S A s.heap s.heap [] := va_S.rf
  have hP : va_P (dC, dI) vwCl [(h0, .inr (0, [.int mc, .ref tD, .int 0]))] s.heap := hP
  have hl := lv_entry ([.ref h0]) (n := 1) (Nat.le_of_ble_eq_true rfl)
  rw [lg_entry_eq]
  generalize (lg_sl ([.ref h0]) ++ List.replicate (1 - (lg_sl ([.ref h0])).length) Slot.unset).toArray = ls at hl ⊢
  have hl : lv_has ls 1 [(0, .ref h0)] := hl
  refine lv_aload_n hx hb dJx4a65c_grow_d5877_0 rfl (lv_at hl 0 rfl) ?_
  refine lv_aload_n hx hb dJx4a65c_grow_d5877_1 rfl (lv_at hl 0 rfl) ?_
  refine va_get (D := (dC, dI)) (ci := 0) (v := .int 0) (C := RJx4a65c) (T := TJx4a65c) (N := 3) hx hb hts iCJx4a65c hown hK hP 0 rfl rfl 2 (by decide) (hts (.fieldLink RJx4a65c 48 "java/util/ArrayList" "size" "I") (List.mem_cons_of_mem _ kw_2_9)) (fun _ h9 => h9) rfl dJx4a65c_grow_d5877_2 ?_
  refine lv_iconst (v := 1) hx hb dJx4a65c_grow_d5877_5 (by decide) ?_
  refine lv_iadd hx hb dJx4a65c_grow_d5877_6 ?_
  refine my_ti (y := 1) (by decide) ?_
  have hPc := hP.sub (ws' := [(h0, .inr (0, [.int mc, .ref tD, .int 0]))]) [0] rfl
  have hDc := hD.sub (ws' := [(h0, .inr (0, [.int mc, .ref tD, .int 0]))]) [0] (by decide) rfl
  have hKc := hK.sub (tys' := []) [] rfl
  have hFc := va_free (wc := [(h0, .inr (0, [.int mc, .ref tD, .int 0]))]) hD hS hA [0] rfl
  refine va_callr (va_runV (As := [.int 1]) (rest := []) ⟨hx, hb, hml, hown, hts⟩ (x_grow1 l dC dI s.heap.size tD h0 mc) (cwV 1 hts (gV kw_4_185 kw_4_187 kw_p_18 kw_1_9 kw_4_188) rfl rfl rfl (by decide +kernel) ⟨Nat.le_of_ble_eq_true rfl, Nat.le_of_ble_eq_true rfl⟩) ⟨fun a U g mk q => by obtain ⟨q0, q1, qP, qK, qD, qZ0, qZ1, qZ2⟩ := q; exact ⟨q0, q1, qP, va_K.moved (u := U) (U := U.calling g mk a) (Vm.Alike.refl U.vm) qK, qD, qZ0.moved (u := U) (U := U.calling g mk a) (Vm.Alike.refl U.vm), qZ1.moved (u := U) (U := U.calling g mk a) (Vm.Alike.refl U.vm), va_AO.moved (u := U) (U := U.calling g mk a) (Vm.Alike.refl U.vm) qZ2⟩, va_recv hKc hPc (ci := 0) (q0 := 0) rfl rfl, fun U hU hW => ⟨rfl, by rw [hU], by rw [hU]; exact hPc, va_K.moved hW.alike hKc, hDc.weaken (fun _ _ _ _ => trivial), by rw [hU]; exact ((hZ_dce.kept hS.2.1).narrow hFc).moved hW.alike, by rw [hU]; exact ((hT_D.kept hS.2.1).narrow hFc).moved hW.alike, va_AO.moved hW.alike hAO_O⟩⟩ rfl rfl hl.1 rfl (lv_room (Nat.le_of_ble_eq_true rfl)) dJx4a65c_grow_d5877_7 ⟨Nat.le_of_ble_eq_true rfl, Nat.le_of_ble_eq_true rfl⟩) hS (fun q _ h => hFc q h) hFc (fun u r_1 t H1 locs ht hvm hw hB hz1 hk1 hS => ?_)
  obtain ⟨kg_2, hP1, hK1, hD1⟩ := hB
  rw [ht] at hP1
  have hK1 := va_K.moved hvm.symm hK1
  obtain ⟨hP, hD⟩ := va_join (wr := []) (w1 := [(h0, .inr (0, [.int mc, .ref r_1, .int 0])), (r_1, .inl (kg_2, 10, .inr (.inr (.inr (.inr (fun _ => none))))))]) hP hD [0] [] rfl rfl (by decide) (by decide) hk1 hFc hP1 hD1
  have hK := (hK.sub (tys' := []) [] rfl).app hK1
  generalize H1 = H at hP hS ⊢
  have hP : va_P (dC, dI) vwCl [(h0, .inr (0, [.int mc, .ref r_1, .int 0])), (r_1, .inl (kg_2, 10, .inr (.inr (.inr (.inr (fun _ => none))))))] H := hP
  have hD : va_D A [(h0, .inr (0, [.int mc, .ref r_1, .int 0])), (r_1, .inl (kg_2, 10, .inr (.inr (.inr (.inr (fun _ => none))))))] := hD
  have hK : va_K (dC, dI) vwCl [(kg_2, .object "java/lang/Object")] s := hK
  refine W.widen (k := 1) (n := 10) (Nat.le_of_ble_eq_true rfl) (Nat.le_of_ble_eq_true rfl) ?_
  have hP9 := hP.sub (ws' := [(h0, .inr (0, [.int mc, .ref r_1, .int 0])), (r_1, .inl (kg_2, 10, .inr (.inr (.inr (.inr (fun _ => none))))))]) [0, 1] rfl
  have hD9 := hD.sub (ws' := [(h0, .inr (0, [.int mc, .ref r_1, .int 0])), (r_1, .inl (kg_2, 10, .inr (.inr (.inr (.inr (fun _ => none))))))]) [0, 1] (by decide) rfl
  have hK9 := hK.sub (tys' := [(kg_2, .object "java/lang/Object")]) [0] rfl
  refine W.widen (k := 1) (n := 10) (Nat.le_of_ble_eq_true rfl) (Nat.le_of_ble_eq_true rfl) ?_
  exact W.aret (v := .ref r_1) hx hb hr (Or.inr ⟨_, rfl⟩) (Or.inr ⟨_, rfl⟩) (fun t ht hW => ⟨⟨(), r_1, rfl, trivial, ⟨kg_2, by rw [ht]; exact hP9, va_K.moved hW.alike hK9, hD9⟩⟩, hS.F ht⟩) hS.2.2 dJx4a65c_grow_d5877_10
set_option maxHeartbeats 4000000 in
set_option maxRecDepth 100000 in
theorem x_add2a (l : Launch) (dC : Nat → ClassId) (dI : Nat → Nat → Nat) (sz : Nat) (tD : Nat) (h0 : Nat) (mc : Int32) (lo : Nat) (v0 : Value) (v1 : Value) (v2 : Value) (v3 : Value) (v4 : Value) (v5 : Value) (v6 : Value) : Met l yJx4a65c_add_72be8 (.code yJx4a65c_add_72be8 cJx4a65c_add_72be8 4 none :: lw_good) ({ frames := 6, cells := 1, slots := 10, locals := 250 }) (va_Pc [.ref h0, .ref lo, .ref tD, .int 0] (fun U => U.heap.size = sz ∧ va_P (dC, dI) vwCl [(h0, .inr (0, [.int mc, .ref tD, .int 0])), (lo, .inr (1, [v0, v1, v2, v3, v4, v5, v6]))] U.heap ∧ va_K (dC, dI) vwCl [] U ∧ va_D (fun _ => True) [(h0, .inr (0, [.int mc, .ref tD, .int 0])), (lo, .inr (1, [v0, v1, v2, v3, v4, v5, v6]))] ∧ va_Z "java/util/ArrayList" "DEFAULTCAPACITY_EMPTY_ELEMENTDATA" "[Ljava/lang/Object;" (.ref tD) (va_A [(h0, .inr (0, [.int mc, .ref tD, .int 0])), (lo, .inr (1, [v0, v1, v2, v3, v4, v5, v6]))] sz) U U.heap ∧ va_T (.object "java/lang/Object") tD 0 (fun _ => .null) (va_A [(h0, .inr (0, [.int mc, .ref tD, .int 0])), (lo, .inr (1, [v0, v1, v2, v3, v4, v5, v6]))] sz) U U.heap ∧ va_AO "java/lang/Object" U ∧ va_Nw (.castable RX0 "java/lang/Object") U)) (va_Qv (fun (_ : Unit) => True) (fun (_ : Unit) (t : State) => ∃ (ga : Nat), ∃ (kg : ClassId), ∃ (ef : Nat → Option Nat), ef 0 = some lo ∧ va_P (dC, dI) vwCl [(h0, .inr (0, [.int mc, .ref ga, .int 1])), (lo, .inr (1, [v0, v1, v2, v3, v4, v5, v6])), (ga, .inl (kg, 10, .inr (.inr (.inr (.inr ef)))))] t.heap ∧ va_K (dC, dI) vwCl [(kg, .object "java/lang/Object")] t ∧ va_D (va_A [(h0, .inr (0, [.int mc, .ref tD, .int 0])), (lo, .inr (1, [v0, v1, v2, v3, v4, v5, v6]))] sz) [(h0, .inr (0, [.int mc, .ref ga, .int 1])), (lo, .inr (1, [v0, v1, v2, v3, v4, v5, v6])), (ga, .inl (kg, 10, .inr (.inr (.inr (.inr ef)))))]) (va_A [(h0, .inr (0, [.int mc, .ref tD, .int 0])), (lo, .inr (1, [v0, v1, v2, v3, v4, v5, v6]))] sz)) 1 10 (va_A [(h0, .inr (0, [.int mc, .ref tD, .int 0])), (lo, .inr (1, [v0, v1, v2, v3, v4, v5, v6]))] sz) := by
  refine Met.ofW (cc := cJx4a65c_add_72be8) (maxL := 4) (ret := none) (by decide) rfl ?_
  intro p e s m args below meth c s₁ B hml hv
  obtain ⟨rfl, hsz, hP, hK, hD0, hZ_dce, hT_D, hAO_O, hN_L⟩ := hv
  have hx := B.exec
  have hb := B.bytes
  have hr := B.returns
  have hts := atoms_spec (ws := (.code yJx4a65c_add_72be8 cJx4a65c_add_72be8 4 none :: lw_good)) B.pre
  have hown : s.vm.findClass RJx4a65c = some m.cls := findClass_of_methodNamed B.named
  have hlocks := B.notSynchronized
  subst hsz
  have hD := hD0.self (sz := s.heap.size)
  generalize hAe : va_A [(h0, .inr (0, [.int mc, .ref tD, .int 0])), (lo, .inr (1, [v0, v1, v2, v3, v4, v5, v6]))] s.heap.size = A at hD ⊢ hZ_dce hT_D
  have hA : ∀ q : Nat, s.heap.size ≤ q → A q := fun q h => by rw [← hAe]; exact Or.inr h
  have hS : va_S A s.heap s.heap [] := va_S.rf
  have hP : va_P (dC, dI) vwCl [(h0, .inr (0, [.int mc, .ref tD, .int 0])), (lo, .inr (1, [v0, v1, v2, v3, v4, v5, v6]))] s.heap := hP
  have hl := lv_entry ([.ref h0, .ref lo, .ref tD, .int 0]) (n := 4) (Nat.le_of_ble_eq_true rfl)
  rw [lg_entry_eq]
  generalize (lg_sl ([.ref h0, .ref lo, .ref tD, .int 0]) ++ List.replicate (4 - (lg_sl ([.ref h0, .ref lo, .ref tD, .int 0])).length) Slot.unset).toArray = ls at hl ⊢
  have hl : lv_has ls 4 [(0, .ref h0), (1, .ref lo), (2, .ref tD), (3, .int 0)] := hl
  refine lv_iload_n hx hb dJx4a65c_add_72be8_0 rfl (lv_at hl 3 rfl) ?_
  refine lv_aload_n hx hb dJx4a65c_add_72be8_1 rfl (lv_at hl 2 rfl) ?_
  refine va_tlen hx hb hT_D hS (v := 0) rfl dJx4a65c_add_72be8_2 ?_
  refine lv_icmp_ne (tgt := 11) hx hb dJx4a65c_add_72be8_3 (by decide) (fun c_1 => ?_) (fun c_1 => ?_)
  · exact (c_1 (by decide)).elim
  refine lv_aload_n hx hb dJx4a65c_add_72be8_6 rfl (lv_at hl 0 rfl) ?_
  have hPc := hP.sub (ws' := [(h0, .inr (0, [.int mc, .ref tD, .int 0]))]) [0] rfl
  have hDc := hD.sub (ws' := [(h0, .inr (0, [.int mc, .ref tD, .int 0]))]) [0] (by decide) rfl
  have hKc := hK.sub (tys' := []) [] rfl
  have hFc := va_free (wc := [(h0, .inr (0, [.int mc, .ref tD, .int 0]))]) hD hS hA [0] rfl
  refine va_callr (va_runV (As := []) (rest := []) ⟨hx, hb, hml, hown, hts⟩ (x_grow0 l dC dI s.heap.size tD h0 mc) (cwV 0 hts (gV kw_4_181 kw_4_183 kw_p_17 kw_1_9 kw_4_184) rfl rfl rfl (by decide +kernel) ⟨Nat.le_of_ble_eq_true rfl, Nat.le_of_ble_eq_true rfl⟩) ⟨fun a U g mk q => by obtain ⟨q0, q1, qP, qK, qD, qZ0, qZ1, qZ2⟩ := q; exact ⟨q0, q1, qP, va_K.moved (u := U) (U := U.calling g mk a) (Vm.Alike.refl U.vm) qK, qD, qZ0.moved (u := U) (U := U.calling g mk a) (Vm.Alike.refl U.vm), qZ1.moved (u := U) (U := U.calling g mk a) (Vm.Alike.refl U.vm), va_AO.moved (u := U) (U := U.calling g mk a) (Vm.Alike.refl U.vm) qZ2⟩, va_recv hKc hPc (ci := 0) (q0 := 0) rfl rfl, fun U hU hW => ⟨rfl, by rw [hU], by rw [hU]; exact hPc, va_K.moved hW.alike hKc, hDc.weaken (fun _ _ _ _ => trivial), by rw [hU]; exact ((hZ_dce.kept hS.2.1).narrow hFc).moved hW.alike, by rw [hU]; exact ((hT_D.kept hS.2.1).narrow hFc).moved hW.alike, va_AO.moved hW.alike hAO_O⟩⟩ rfl rfl hl.1 rfl (lv_room (Nat.le_of_ble_eq_true rfl)) dJx4a65c_add_72be8_7 ⟨Nat.le_of_ble_eq_true rfl, Nat.le_of_ble_eq_true rfl⟩) hS (fun q _ h => hFc q h) hFc (fun u r_2 t H1 locs ht hvm hw hB hz1 hk1 hS => ?_)
  obtain ⟨kg_3, hP1, hK1, hD1⟩ := hB
  rw [ht] at hP1
  have hK1 := va_K.moved hvm.symm hK1
  obtain ⟨hP, hD⟩ := va_join (wr := [(lo, .inr (1, [v0, v1, v2, v3, v4, v5, v6]))]) (w1 := [(h0, .inr (0, [.int mc, .ref r_2, .int 0])), (r_2, .inl (kg_3, 10, .inr (.inr (.inr (.inr (fun _ => none))))))]) hP hD [0] [1] rfl rfl (by decide) (by decide) hk1 hFc hP1 hD1
  have hK := (hK.sub (tys' := []) [] rfl).app hK1
  generalize H1 = H at hP hS ⊢
  have hP : va_P (dC, dI) vwCl [(lo, .inr (1, [v0, v1, v2, v3, v4, v5, v6])), (h0, .inr (0, [.int mc, .ref r_2, .int 0])), (r_2, .inl (kg_3, 10, .inr (.inr (.inr (.inr (fun _ => none))))))] H := hP
  have hD : va_D A [(lo, .inr (1, [v0, v1, v2, v3, v4, v5, v6])), (h0, .inr (0, [.int mc, .ref r_2, .int 0])), (r_2, .inl (kg_3, 10, .inr (.inr (.inr (.inr (fun _ => none))))))] := hD
  have hK : va_K (dC, dI) vwCl [(kg_3, .object "java/lang/Object")] s := hK
  refine W.widen (k := 1) (n := 10) (Nat.le_of_ble_eq_true rfl) (Nat.le_of_ble_eq_true rfl) ?_
  refine lv_astore_n (lv' := [(2, .ref r_2), (0, .ref h0), (1, .ref lo), (3, .int 0)]) hx hb dJx4a65c_add_72be8_10 rfl hl (by decide) rfl (fun ls hl => ?_)
  refine lv_aload_n hx hb dJx4a65c_add_72be8_11 rfl (lv_at hl 0 rfl) ?_
  refine lv_iload_n hx hb dJx4a65c_add_72be8_12 rfl (lv_at hl 3 rfl) ?_
  refine lv_aload_n hx hb dJx4a65c_add_72be8_13 rfl (lv_at hl 2 rfl) ?_
  refine va_astqO hx hb hK hP hD hS 2 0 0 1 rfl rfl hN_L rfl rfl (by unfold vp_in; decide) dJx4a65c_add_72be8_14 (fun H locs hP hD hS => ?_)
  have hP : va_P (dC, dI) vwCl [(lo, .inr (1, [v0, v1, v2, v3, v4, v5, v6])), (h0, .inr (0, [.int mc, .ref r_2, .int 0])), (r_2, .inl (kg_3, 10, .inr (.inr (.inr (.inr (va_up (fun _ => none) (0 : Int32).toNatClampNeg (some lo)))))))] H := hP
  have hD : va_D A [(lo, .inr (1, [v0, v1, v2, v3, v4, v5, v6])), (h0, .inr (0, [.int mc, .ref r_2, .int 0])), (r_2, .inl (kg_3, 10, .inr (.inr (.inr (.inr (va_up (fun _ => none) (0 : Int32).toNatClampNeg (some lo)))))))] := hD
  refine lv_aload_n hx hb dJx4a65c_add_72be8_15 rfl (lv_at hl 1 rfl) ?_
  refine lv_iload_n hx hb dJx4a65c_add_72be8_16 rfl (lv_at hl 3 rfl) ?_
  refine lv_iconst (v := 1) hx hb dJx4a65c_add_72be8_17 (by decide) ?_
  refine lv_iadd hx hb dJx4a65c_add_72be8_18 ?_
  refine my_ti (y := 1) (by decide) ?_
  refine va_put (D := (dC, dI)) (ci := 0) (v := .int 1) (ty := .int) (C := RJx4a65c) (T := TJx4a65c) (N := 3) hx hb hts iCJx4a65c tyJx4a65c tyJx4a65c_ok nmJx4a65c hown hK hP hD hS 1 rfl rfl 2 (by decide) (hts (.fieldLink RJx4a65c 48 "java/util/ArrayList" "size" "I") (List.mem_cons_of_mem _ kw_2_9)) (fun _ h9 => h9) rfl (by decide +kernel) rfl rfl (Nat.le_of_ble_eq_true rfl) dJx4a65c_add_72be8_19 (fun H locs hP hD hS => ?_)
  have hP : va_P (dC, dI) vwCl [(lo, .inr (1, [v0, v1, v2, v3, v4, v5, v6])), (h0, .inr (0, [.int mc, .ref r_2, .int 1])), (r_2, .inl (kg_3, 10, .inr (.inr (.inr (.inr (va_up (fun _ => none) (0 : Int32).toNatClampNeg (some lo)))))))] H := hP
  have hD : va_D A [(lo, .inr (1, [v0, v1, v2, v3, v4, v5, v6])), (h0, .inr (0, [.int mc, .ref r_2, .int 1])), (r_2, .inl (kg_3, 10, .inr (.inr (.inr (.inr (va_up (fun _ => none) (0 : Int32).toNatClampNeg (some lo)))))))] := hD
  have hP9 := hP.sub (ws' := [(h0, .inr (0, [.int mc, .ref r_2, .int 1])), (lo, .inr (1, [v0, v1, v2, v3, v4, v5, v6])), (r_2, .inl (kg_3, 10, .inr (.inr (.inr (.inr (va_up (fun _ => none) (0 : Int32).toNatClampNeg (some lo)))))))]) [1, 0, 2] rfl
  have hD9 := hD.sub (ws' := [(h0, .inr (0, [.int mc, .ref r_2, .int 1])), (lo, .inr (1, [v0, v1, v2, v3, v4, v5, v6])), (r_2, .inl (kg_3, 10, .inr (.inr (.inr (.inr (va_up (fun _ => none) (0 : Int32).toNatClampNeg (some lo)))))))]) [1, 0, 2] (by decide) rfl
  have hK9 := hK.sub (tys' := [(kg_3, .object "java/lang/Object")]) [0] rfl
  refine W.widen (k := 1) (n := 10) (Nat.le_of_ble_eq_true rfl) (Nat.le_of_ble_eq_true rfl) ?_
  exact W.vret hx hb hr (fun t ht hW => ⟨⟨(), rfl, trivial, ⟨r_2, kg_3, (va_up (fun _ => none) (0 : Int32).toNatClampNeg (some lo)), (by simp [va_up]), by rw [ht]; exact hP9, va_K.moved hW.alike hK9, hD9⟩⟩, hS.F ht⟩) hS.2.2 dJx4a65c_add_72be8_22
set_option maxHeartbeats 4000000 in
set_option maxRecDepth 100000 in
theorem x_adda (l : Launch) (dC : Nat → ClassId) (dI : Nat → Nat → Nat) (sz : Nat) (tD : Nat) (h0 : Nat) (mc : Int32) (lo : Nat) (v0 : Value) (v1 : Value) (v2 : Value) (v3 : Value) (v4 : Value) (v5 : Value) (v6 : Value) : Met l yJx4a65c_add_9ea2d (.code yJx4a65c_add_9ea2d cJx4a65c_add_9ea2d 2 (some .boolean) :: lw_good) ({ frames := 8, cells := 1, slots := 10, locals := 350 }) (va_Pc [.ref h0, .ref lo] (fun U => U.heap.size = sz ∧ va_P (dC, dI) vwCl [(h0, .inr (0, [.int mc, .ref tD, .int 0])), (lo, .inr (1, [v0, v1, v2, v3, v4, v5, v6]))] U.heap ∧ va_K (dC, dI) vwCl [] U ∧ va_D (fun _ => True) [(h0, .inr (0, [.int mc, .ref tD, .int 0])), (lo, .inr (1, [v0, v1, v2, v3, v4, v5, v6]))] ∧ va_Z "java/util/ArrayList" "DEFAULTCAPACITY_EMPTY_ELEMENTDATA" "[Ljava/lang/Object;" (.ref tD) (va_A [(h0, .inr (0, [.int mc, .ref tD, .int 0])), (lo, .inr (1, [v0, v1, v2, v3, v4, v5, v6]))] sz) U U.heap ∧ va_T (.object "java/lang/Object") tD 0 (fun _ => .null) (va_A [(h0, .inr (0, [.int mc, .ref tD, .int 0])), (lo, .inr (1, [v0, v1, v2, v3, v4, v5, v6]))] sz) U U.heap ∧ va_AO "java/lang/Object" U ∧ va_Nw (.castable RX0 "java/lang/Object") U)) (va_Qi (fun (r : Int32) (_ : Unit) => r = 1) (fun (_ : Unit) (t : State) => ∃ (mc1 : Int32), ∃ (ga : Nat), ∃ (kg : ClassId), ∃ (ef : Nat → Option Nat), ef 0 = some lo ∧ va_P (dC, dI) vwCl [(h0, .inr (0, [.int mc1, .ref ga, .int 1])), (lo, .inr (1, [v0, v1, v2, v3, v4, v5, v6])), (ga, .inl (kg, 10, .inr (.inr (.inr (.inr ef)))))] t.heap ∧ va_K (dC, dI) vwCl [(kg, .object "java/lang/Object")] t ∧ va_D (va_A [(h0, .inr (0, [.int mc, .ref tD, .int 0])), (lo, .inr (1, [v0, v1, v2, v3, v4, v5, v6]))] sz) [(h0, .inr (0, [.int mc1, .ref ga, .int 1])), (lo, .inr (1, [v0, v1, v2, v3, v4, v5, v6])), (ga, .inl (kg, 10, .inr (.inr (.inr (.inr ef)))))]) (va_A [(h0, .inr (0, [.int mc, .ref tD, .int 0])), (lo, .inr (1, [v0, v1, v2, v3, v4, v5, v6]))] sz)) 1 10 (va_A [(h0, .inr (0, [.int mc, .ref tD, .int 0])), (lo, .inr (1, [v0, v1, v2, v3, v4, v5, v6]))] sz) := by
  refine Met.ofW (cc := cJx4a65c_add_9ea2d) (maxL := 2) (ret := (some .boolean)) (by decide) rfl ?_
  intro p e s m args below meth c s₁ B hml hv
  obtain ⟨rfl, hsz, hP, hK, hD0, hZ_dce, hT_D, hAO_O, hN_L⟩ := hv
  have hx := B.exec
  have hb := B.bytes
  have hr := B.returns
  have hts := atoms_spec (ws := (.code yJx4a65c_add_9ea2d cJx4a65c_add_9ea2d 2 (some .boolean) :: lw_good)) B.pre
  have hown : s.vm.findClass RJx4a65c = some m.cls := findClass_of_methodNamed B.named
  have hlocks := B.notSynchronized
  subst hsz
  have hD := hD0.self (sz := s.heap.size)
  generalize hAe : va_A [(h0, .inr (0, [.int mc, .ref tD, .int 0])), (lo, .inr (1, [v0, v1, v2, v3, v4, v5, v6]))] s.heap.size = A at hD ⊢ hZ_dce hT_D
  have hA : ∀ q : Nat, s.heap.size ≤ q → A q := fun q h => by rw [← hAe]; exact Or.inr h
  have hS : va_S A s.heap s.heap [] := va_S.rf
  have hP : va_P (dC, dI) vwCl [(h0, .inr (0, [.int mc, .ref tD, .int 0])), (lo, .inr (1, [v0, v1, v2, v3, v4, v5, v6]))] s.heap := hP
  have hl := lv_entry ([.ref h0, .ref lo]) (n := 2) (Nat.le_of_ble_eq_true rfl)
  rw [lg_entry_eq]
  generalize (lg_sl ([.ref h0, .ref lo]) ++ List.replicate (2 - (lg_sl ([.ref h0, .ref lo])).length) Slot.unset).toArray = ls at hl ⊢
  have hl : lv_has ls 2 [(0, .ref h0), (1, .ref lo)] := hl
  refine lv_aload_n hx hb dJx4a65c_add_9ea2d_0 rfl (lv_at hl 0 rfl) ?_
  refine lv_dup hx hb dJx4a65c_add_9ea2d_1 rfl ?_
  refine va_get (D := (dC, dI)) (ci := 0) (v := .int mc) (C := RJx4a65c) (T := TJx4a65c) (N := 3) hx hb hts iCJx4a65c hown hK hP 0 rfl rfl 0 (by decide) (hts (.fieldLink RJx4a65c 63 "java/util/ArrayList" "modCount" "I") (List.mem_cons_of_mem _ kw_2_11)) (fun x9 h9 => u_same (hts (.sameField "java/util/ArrayList" "java/util/AbstractList" "modCount" "I") (List.mem_cons_of_mem _ kw_2_12)) x9 h9) rfl dJx4a65c_add_9ea2d_2 ?_
  refine lv_iconst (v := 1) hx hb dJx4a65c_add_9ea2d_5 (by decide) ?_
  refine lv_iadd hx hb dJx4a65c_add_9ea2d_6 ?_
  refine lv_topi (fun v_1 ev_1 => ?_)
  refine va_put (D := (dC, dI)) (ci := 0) (v := .int v_1) (ty := .int) (C := RJx4a65c) (T := TJx4a65c) (N := 3) hx hb hts iCJx4a65c tyJx4a65c tyJx4a65c_ok nmJx4a65c hown hK hP hD hS 0 rfl rfl 0 (by decide) (hts (.fieldLink RJx4a65c 63 "java/util/ArrayList" "modCount" "I") (List.mem_cons_of_mem _ kw_2_11)) (fun x9 h9 => u_same (hts (.sameField "java/util/ArrayList" "java/util/AbstractList" "modCount" "I") (List.mem_cons_of_mem _ kw_2_12)) x9 h9) rfl (by decide +kernel) rfl rfl (Nat.le_of_ble_eq_true rfl) dJx4a65c_add_9ea2d_7 (fun H locs hP hD hS => ?_)
  have hP : va_P (dC, dI) vwCl [(h0, .inr (0, [.int v_1, .ref tD, .int 0])), (lo, .inr (1, [v0, v1, v2, v3, v4, v5, v6]))] H := hP
  have hD : va_D A [(h0, .inr (0, [.int v_1, .ref tD, .int 0])), (lo, .inr (1, [v0, v1, v2, v3, v4, v5, v6]))] := hD
  refine lv_aload_n hx hb dJx4a65c_add_9ea2d_10 rfl (lv_at hl 0 rfl) ?_
  refine lv_aload_n hx hb dJx4a65c_add_9ea2d_11 rfl (lv_at hl 1 rfl) ?_
  refine lv_aload_n hx hb dJx4a65c_add_9ea2d_12 rfl (lv_at hl 0 rfl) ?_
  refine va_get (D := (dC, dI)) (ci := 0) (v := .ref tD) (C := RJx4a65c) (T := TJx4a65c) (N := 3) hx hb hts iCJx4a65c hown hK hP 0 rfl rfl 1 (by decide) (hts (.fieldLink RJx4a65c 9 "java/util/ArrayList" "elementData" "[Ljava/lang/Object;") (List.mem_cons_of_mem _ kw_2_8)) (fun _ h9 => h9) rfl dJx4a65c_add_9ea2d_13 ?_
  refine lv_aload_n hx hb dJx4a65c_add_9ea2d_16 rfl (lv_at hl 0 rfl) ?_
  refine va_get (D := (dC, dI)) (ci := 0) (v := .int 0) (C := RJx4a65c) (T := TJx4a65c) (N := 3) hx hb hts iCJx4a65c hown hK hP 0 rfl rfl 2 (by decide) (hts (.fieldLink RJx4a65c 48 "java/util/ArrayList" "size" "I") (List.mem_cons_of_mem _ kw_2_9)) (fun _ h9 => h9) rfl dJx4a65c_add_9ea2d_17 ?_
  have hPc := hP.sub (ws' := [(h0, .inr (0, [.int v_1, .ref tD, .int 0])), (lo, .inr (1, [v0, v1, v2, v3, v4, v5, v6]))]) [0, 1] rfl
  have hDc := hD.sub (ws' := [(h0, .inr (0, [.int v_1, .ref tD, .int 0])), (lo, .inr (1, [v0, v1, v2, v3, v4, v5, v6]))]) [0, 1] (by decide) rfl
  have hKc := hK.sub (tys' := []) [] rfl
  have hFc := va_free (wc := [(h0, .inr (0, [.int v_1, .ref tD, .int 0])), (lo, .inr (1, [v0, v1, v2, v3, v4, v5, v6]))]) hD hS hA [0, 1] rfl
  refine va_callv (va_runV (As := [.ref lo, .ref tD, .int 0]) (rest := []) ⟨hx, hb, hml, hown, hts⟩ (x_add2a l dC dI H.size tD h0 v_1 lo (v0 : Value) (v1 : Value) (v2 : Value) (v3 : Value) (v4 : Value) (v5 : Value) (v6 : Value)) (cwV 3 hts (gV kw_4_177 kw_4_179 kw_p_16 kw_1_9 kw_4_180) rfl rfl rfl (by decide +kernel) ⟨Nat.le_of_ble_eq_true rfl, Nat.le_of_ble_eq_true rfl⟩) ⟨fun a U g mk q => by obtain ⟨q0, q1, qP, qK, qD, qZ0, qZ1, qZ2, qZ3⟩ := q; exact ⟨q0, q1, qP, va_K.moved (u := U) (U := U.calling g mk a) (Vm.Alike.refl U.vm) qK, qD, qZ0.moved (u := U) (U := U.calling g mk a) (Vm.Alike.refl U.vm), qZ1.moved (u := U) (U := U.calling g mk a) (Vm.Alike.refl U.vm), va_AO.moved (u := U) (U := U.calling g mk a) (Vm.Alike.refl U.vm) qZ2, va_Nw.same (u := U) (U := U.calling g mk a) rfl rfl qZ3⟩, va_recv hKc hPc (ci := 0) (q0 := 0) rfl rfl, fun U hU hW => ⟨rfl, by rw [hU], by rw [hU]; exact hPc, va_K.moved hW.alike hKc, hDc.weaken (fun _ _ _ _ => trivial), by rw [hU]; exact ((hZ_dce.kept hS.2.1).narrow hFc).moved hW.alike, by rw [hU]; exact ((hT_D.kept hS.2.1).narrow hFc).moved hW.alike, va_AO.moved hW.alike hAO_O, va_Nw.warmC hW hN_L⟩⟩ rfl rfl hl.1 rfl (lv_room (Nat.le_of_ble_eq_true rfl)) dJx4a65c_add_9ea2d_20 ⟨Nat.le_of_ble_eq_true rfl, Nat.le_of_ble_eq_true rfl⟩) hS (fun q _ h => hFc q h) hFc (fun u t H1 locs ht hvm hw hB hz1 hk1 hS => ?_)
  obtain ⟨ga_3, kg_4, ef_5, g_6, hP1, hK1, hD1⟩ := hB
  rw [ht] at hP1
  have hK1 := va_K.moved hvm.symm hK1
  obtain ⟨hP, hD⟩ := va_join (wr := []) (w1 := [(h0, .inr (0, [.int v_1, .ref ga_3, .int 1])), (lo, .inr (1, [v0, v1, v2, v3, v4, v5, v6])), (ga_3, .inl (kg_4, 10, .inr (.inr (.inr (.inr ef_5)))))]) hP hD [0, 1] [] rfl rfl (by decide) (by decide) hk1 hFc hP1 hD1
  have hK := (hK.sub (tys' := []) [] rfl).app hK1
  generalize H1 = H at hP hS ⊢
  have hP : va_P (dC, dI) vwCl [(h0, .inr (0, [.int v_1, .ref ga_3, .int 1])), (lo, .inr (1, [v0, v1, v2, v3, v4, v5, v6])), (ga_3, .inl (kg_4, 10, .inr (.inr (.inr (.inr ef_5)))))] H := hP
  have hD : va_D A [(h0, .inr (0, [.int v_1, .ref ga_3, .int 1])), (lo, .inr (1, [v0, v1, v2, v3, v4, v5, v6])), (ga_3, .inl (kg_4, 10, .inr (.inr (.inr (.inr ef_5)))))] := hD
  have hK : va_K (dC, dI) vwCl [(kg_4, .object "java/lang/Object")] s := hK
  refine W.widen (k := 1) (n := 10) (Nat.le_of_ble_eq_true rfl) (Nat.le_of_ble_eq_true rfl) ?_
  refine lv_iconst (v := 1) hx hb dJx4a65c_add_9ea2d_23 (by decide) ?_
  have hP9 := hP.sub (ws' := [(h0, .inr (0, [.int v_1, .ref ga_3, .int 1])), (lo, .inr (1, [v0, v1, v2, v3, v4, v5, v6])), (ga_3, .inl (kg_4, 10, .inr (.inr (.inr (.inr ef_5)))))]) [0, 1, 2] rfl
  have hD9 := hD.sub (ws' := [(h0, .inr (0, [.int v_1, .ref ga_3, .int 1])), (lo, .inr (1, [v0, v1, v2, v3, v4, v5, v6])), (ga_3, .inl (kg_4, 10, .inr (.inr (.inr (.inr ef_5)))))]) [0, 1, 2] (by decide) rfl
  have hK9 := hK.sub (tys' := [(kg_4, .object "java/lang/Object")]) [0] rfl
  refine W.widen (k := 1) (n := 10) (Nat.le_of_ble_eq_true rfl) (Nat.le_of_ble_eq_true rfl) ?_
  exact W.zret (v := 1) hx hb hr (by decide) (fun t ht hW => ⟨⟨1, (), rfl, rfl, ⟨v_1, ga_3, kg_4, ef_5, g_6, by rw [ht]; exact hP9, va_K.moved hW.alike hK9, hD9⟩⟩, hS.F ht⟩) hS.2.2 dJx4a65c_add_9ea2d_24
set_option maxHeartbeats 4000000 in
set_option maxRecDepth 100000 in
theorem x_add2b (l : Launch) (dC : Nat → ClassId) (dI : Nat → Nat → Nat) (sz : Nat) (ga : Nat) (h0 : Nat) (mc : Int32) (nn : Int32) (kg : ClassId) (ef : Nat → Option Nat) (lo : Nat) (v0 : Value) (v1 : Value) (v2 : Value) (v3 : Value) (v4 : Value) (v5 : Value) (v6 : Value) (hne : ¬ nn = 10) (hin : vp_in nn 10) : Met l yJx4a65c_add_72be8 (.code yJx4a65c_add_72be8 cJx4a65c_add_72be8 4 none :: lw_good) ({ frames := 6, cells := 0, slots := 0, locals := 250 }) (va_Pc [.ref h0, .ref lo, .ref ga, .int nn] (fun U => U.heap.size = sz ∧ va_P (dC, dI) vwCl [(h0, .inr (0, [.int mc, .ref ga, .int nn])), (lo, .inr (1, [v0, v1, v2, v3, v4, v5, v6])), (ga, .inl (kg, 10, .inr (.inr (.inr (.inr ef)))))] U.heap ∧ va_K (dC, dI) vwCl [(kg, .object "java/lang/Object")] U ∧ va_D (fun _ => True) [(h0, .inr (0, [.int mc, .ref ga, .int nn])), (lo, .inr (1, [v0, v1, v2, v3, v4, v5, v6])), (ga, .inl (kg, 10, .inr (.inr (.inr (.inr ef)))))] ∧ va_Nw (.castable RX0 "java/lang/Object") U)) (va_Qv (fun (_ : Unit) => True) (fun (_ : Unit) (t : State) => ∃ (n1 : Int32), ∃ (e1 : Nat → Option Nat), n1 = nn + 1 ∧ e1 = va_up ef nn.toNatClampNeg (some lo) ∧ va_P (dC, dI) vwCl [(h0, .inr (0, [.int mc, .ref ga, .int n1])), (lo, .inr (1, [v0, v1, v2, v3, v4, v5, v6])), (ga, .inl (kg, 10, .inr (.inr (.inr (.inr e1)))))] t.heap ∧ va_K (dC, dI) vwCl [(kg, .object "java/lang/Object")] t ∧ va_D (va_A [(h0, .inr (0, [.int mc, .ref ga, .int nn])), (lo, .inr (1, [v0, v1, v2, v3, v4, v5, v6])), (ga, .inl (kg, 10, .inr (.inr (.inr (.inr ef)))))] sz) [(h0, .inr (0, [.int mc, .ref ga, .int n1])), (lo, .inr (1, [v0, v1, v2, v3, v4, v5, v6])), (ga, .inl (kg, 10, .inr (.inr (.inr (.inr e1)))))]) (va_A [(h0, .inr (0, [.int mc, .ref ga, .int nn])), (lo, .inr (1, [v0, v1, v2, v3, v4, v5, v6])), (ga, .inl (kg, 10, .inr (.inr (.inr (.inr ef)))))] sz)) 0 0 (va_A [(h0, .inr (0, [.int mc, .ref ga, .int nn])), (lo, .inr (1, [v0, v1, v2, v3, v4, v5, v6])), (ga, .inl (kg, 10, .inr (.inr (.inr (.inr ef)))))] sz) := by
  refine Met.ofW (cc := cJx4a65c_add_72be8) (maxL := 4) (ret := none) (by decide) rfl ?_
  intro p e s m args below meth c s₁ B hml hv
  obtain ⟨rfl, hsz, hP, hK, hD0, hN_L⟩ := hv
  have hx := B.exec
  have hb := B.bytes
  have hr := B.returns
  have hts := atoms_spec (ws := (.code yJx4a65c_add_72be8 cJx4a65c_add_72be8 4 none :: lw_good)) B.pre
  have hown : s.vm.findClass RJx4a65c = some m.cls := findClass_of_methodNamed B.named
  have hlocks := B.notSynchronized
  subst hsz
  have hD := hD0.self (sz := s.heap.size)
  generalize hAe : va_A [(h0, .inr (0, [.int mc, .ref ga, .int nn])), (lo, .inr (1, [v0, v1, v2, v3, v4, v5, v6])), (ga, .inl (kg, 10, .inr (.inr (.inr (.inr ef)))))] s.heap.size = A at hD ⊢
  have hA : ∀ q : Nat, s.heap.size ≤ q → A q := fun q h => by rw [← hAe]; exact Or.inr h
  have hS : va_S A s.heap s.heap [] := va_S.rf
  have hP : va_P (dC, dI) vwCl [(h0, .inr (0, [.int mc, .ref ga, .int nn])), (lo, .inr (1, [v0, v1, v2, v3, v4, v5, v6])), (ga, .inl (kg, 10, .inr (.inr (.inr (.inr ef)))))] s.heap := hP
  have hl := lv_entry ([.ref h0, .ref lo, .ref ga, .int nn]) (n := 4) (Nat.le_of_ble_eq_true rfl)
  rw [lg_entry_eq]
  generalize (lg_sl ([.ref h0, .ref lo, .ref ga, .int nn]) ++ List.replicate (4 - (lg_sl ([.ref h0, .ref lo, .ref ga, .int nn])).length) Slot.unset).toArray = ls at hl ⊢
  have hl : lv_has ls 4 [(0, .ref h0), (1, .ref lo), (2, .ref ga), (3, .int nn)] := hl
  refine lv_iload_n hx hb dJx4a65c_add_72be8_0 rfl (lv_at hl 3 rfl) ?_
  refine lv_aload_n hx hb dJx4a65c_add_72be8_1 rfl (lv_at hl 2 rfl) ?_
  refine va_alen hx hb hK hP 2 0 rfl rfl (v := 10) rfl dJx4a65c_add_72be8_2 ?_
  refine lv_icmp_ne (tgt := 11) hx hb dJx4a65c_add_72be8_3 (by decide) (fun c_1 => ?_) (fun c_1 => ?_)
  rotate_left
  · exact absurd c_1 (hne)
  refine lv_aload_n hx hb dJx4a65c_add_72be8_11 rfl (lv_at hl 2 rfl) ?_
  refine lv_iload_n hx hb dJx4a65c_add_72be8_12 rfl (lv_at hl 3 rfl) ?_
  refine lv_aload_n hx hb dJx4a65c_add_72be8_13 rfl (lv_at hl 1 rfl) ?_
  refine va_astqO hx hb hK hP hD hS 2 0 1 1 rfl rfl hN_L rfl rfl hin dJx4a65c_add_72be8_14 (fun H locs hP hD hS => ?_)
  have hP : va_P (dC, dI) vwCl [(h0, .inr (0, [.int mc, .ref ga, .int nn])), (lo, .inr (1, [v0, v1, v2, v3, v4, v5, v6])), (ga, .inl (kg, 10, .inr (.inr (.inr (.inr (va_up ef nn.toNatClampNeg (some lo)))))))] H := hP
  have hD : va_D A [(h0, .inr (0, [.int mc, .ref ga, .int nn])), (lo, .inr (1, [v0, v1, v2, v3, v4, v5, v6])), (ga, .inl (kg, 10, .inr (.inr (.inr (.inr (va_up ef nn.toNatClampNeg (some lo)))))))] := hD
  refine lv_aload_n hx hb dJx4a65c_add_72be8_15 rfl (lv_at hl 0 rfl) ?_
  refine lv_iload_n hx hb dJx4a65c_add_72be8_16 rfl (lv_at hl 3 rfl) ?_
  refine lv_iconst (v := 1) hx hb dJx4a65c_add_72be8_17 (by decide) ?_
  refine lv_iadd hx hb dJx4a65c_add_72be8_18 ?_
  refine lv_topi (fun v_2 ev_2 => ?_)
  refine va_put (D := (dC, dI)) (ci := 0) (v := .int v_2) (ty := .int) (C := RJx4a65c) (T := TJx4a65c) (N := 3) hx hb hts iCJx4a65c tyJx4a65c tyJx4a65c_ok nmJx4a65c hown hK hP hD hS 0 rfl rfl 2 (by decide) (hts (.fieldLink RJx4a65c 48 "java/util/ArrayList" "size" "I") (List.mem_cons_of_mem _ kw_2_9)) (fun _ h9 => h9) rfl (by decide +kernel) rfl rfl (Nat.le_of_ble_eq_true rfl) dJx4a65c_add_72be8_19 (fun H locs hP hD hS => ?_)
  have hP : va_P (dC, dI) vwCl [(h0, .inr (0, [.int mc, .ref ga, .int v_2])), (lo, .inr (1, [v0, v1, v2, v3, v4, v5, v6])), (ga, .inl (kg, 10, .inr (.inr (.inr (.inr (va_up ef nn.toNatClampNeg (some lo)))))))] H := hP
  have hD : va_D A [(h0, .inr (0, [.int mc, .ref ga, .int v_2])), (lo, .inr (1, [v0, v1, v2, v3, v4, v5, v6])), (ga, .inl (kg, 10, .inr (.inr (.inr (.inr (va_up ef nn.toNatClampNeg (some lo)))))))] := hD
  have hP9 := hP.sub (ws' := [(h0, .inr (0, [.int mc, .ref ga, .int v_2])), (lo, .inr (1, [v0, v1, v2, v3, v4, v5, v6])), (ga, .inl (kg, 10, .inr (.inr (.inr (.inr (va_up ef nn.toNatClampNeg (some lo)))))))]) [0, 1, 2] rfl
  have hD9 := hD.sub (ws' := [(h0, .inr (0, [.int mc, .ref ga, .int v_2])), (lo, .inr (1, [v0, v1, v2, v3, v4, v5, v6])), (ga, .inl (kg, 10, .inr (.inr (.inr (.inr (va_up ef nn.toNatClampNeg (some lo)))))))]) [0, 1, 2] (by decide) rfl
  have hK9 := hK.sub (tys' := [(kg, .object "java/lang/Object")]) [0] rfl
  refine W.widen (k := 0) (n := 0) (Nat.le_of_ble_eq_true rfl) (Nat.le_of_ble_eq_true rfl) ?_
  exact W.vret hx hb hr (fun t ht hW => ⟨⟨(), rfl, trivial, ⟨v_2, (va_up ef nn.toNatClampNeg (some lo)), ev_2, (by rfl), by rw [ht]; exact hP9, va_K.moved hW.alike hK9, hD9⟩⟩, hS.F ht⟩) hS.2.2 dJx4a65c_add_72be8_22
set_option maxHeartbeats 4000000 in
set_option maxRecDepth 100000 in
theorem x_addb (l : Launch) (dC : Nat → ClassId) (dI : Nat → Nat → Nat) (sz : Nat) (ga : Nat) (h0 : Nat) (mc : Int32) (nn : Int32) (kg : ClassId) (ef : Nat → Option Nat) (lo : Nat) (v0 : Value) (v1 : Value) (v2 : Value) (v3 : Value) (v4 : Value) (v5 : Value) (v6 : Value) (hne : ¬ nn = 10) (hin : vp_in nn 10) : Met l yJx4a65c_add_9ea2d (.code yJx4a65c_add_9ea2d cJx4a65c_add_9ea2d 2 (some .boolean) :: lw_good) ({ frames := 8, cells := 0, slots := 0, locals := 350 }) (va_Pc [.ref h0, .ref lo] (fun U => U.heap.size = sz ∧ va_P (dC, dI) vwCl [(h0, .inr (0, [.int mc, .ref ga, .int nn])), (lo, .inr (1, [v0, v1, v2, v3, v4, v5, v6])), (ga, .inl (kg, 10, .inr (.inr (.inr (.inr ef)))))] U.heap ∧ va_K (dC, dI) vwCl [(kg, .object "java/lang/Object")] U ∧ va_D (fun _ => True) [(h0, .inr (0, [.int mc, .ref ga, .int nn])), (lo, .inr (1, [v0, v1, v2, v3, v4, v5, v6])), (ga, .inl (kg, 10, .inr (.inr (.inr (.inr ef)))))] ∧ va_Nw (.castable RX0 "java/lang/Object") U)) (va_Qi (fun (r : Int32) (_ : Unit) => r = 1) (fun (_ : Unit) (t : State) => ∃ (mc1 : Int32), ∃ (n1 : Int32), ∃ (e1 : Nat → Option Nat), n1 = nn + 1 ∧ e1 = va_up ef nn.toNatClampNeg (some lo) ∧ va_P (dC, dI) vwCl [(h0, .inr (0, [.int mc1, .ref ga, .int n1])), (lo, .inr (1, [v0, v1, v2, v3, v4, v5, v6])), (ga, .inl (kg, 10, .inr (.inr (.inr (.inr e1)))))] t.heap ∧ va_K (dC, dI) vwCl [(kg, .object "java/lang/Object")] t ∧ va_D (va_A [(h0, .inr (0, [.int mc, .ref ga, .int nn])), (lo, .inr (1, [v0, v1, v2, v3, v4, v5, v6])), (ga, .inl (kg, 10, .inr (.inr (.inr (.inr ef)))))] sz) [(h0, .inr (0, [.int mc1, .ref ga, .int n1])), (lo, .inr (1, [v0, v1, v2, v3, v4, v5, v6])), (ga, .inl (kg, 10, .inr (.inr (.inr (.inr e1)))))]) (va_A [(h0, .inr (0, [.int mc, .ref ga, .int nn])), (lo, .inr (1, [v0, v1, v2, v3, v4, v5, v6])), (ga, .inl (kg, 10, .inr (.inr (.inr (.inr ef)))))] sz)) 0 0 (va_A [(h0, .inr (0, [.int mc, .ref ga, .int nn])), (lo, .inr (1, [v0, v1, v2, v3, v4, v5, v6])), (ga, .inl (kg, 10, .inr (.inr (.inr (.inr ef)))))] sz) := by
  refine Met.ofW (cc := cJx4a65c_add_9ea2d) (maxL := 2) (ret := (some .boolean)) (by decide) rfl ?_
  intro p e s m args below meth c s₁ B hml hv
  obtain ⟨rfl, hsz, hP, hK, hD0, hN_L⟩ := hv
  have hx := B.exec
  have hb := B.bytes
  have hr := B.returns
  have hts := atoms_spec (ws := (.code yJx4a65c_add_9ea2d cJx4a65c_add_9ea2d 2 (some .boolean) :: lw_good)) B.pre
  have hown : s.vm.findClass RJx4a65c = some m.cls := findClass_of_methodNamed B.named
  have hlocks := B.notSynchronized
  subst hsz
  have hD := hD0.self (sz := s.heap.size)
  generalize hAe : va_A [(h0, .inr (0, [.int mc, .ref ga, .int nn])), (lo, .inr (1, [v0, v1, v2, v3, v4, v5, v6])), (ga, .inl (kg, 10, .inr (.inr (.inr (.inr ef)))))] s.heap.size = A at hD ⊢
  have hA : ∀ q : Nat, s.heap.size ≤ q → A q := fun q h => by rw [← hAe]; exact Or.inr h
  have hS : va_S A s.heap s.heap [] := va_S.rf
  have hP : va_P (dC, dI) vwCl [(h0, .inr (0, [.int mc, .ref ga, .int nn])), (lo, .inr (1, [v0, v1, v2, v3, v4, v5, v6])), (ga, .inl (kg, 10, .inr (.inr (.inr (.inr ef)))))] s.heap := hP
  have hl := lv_entry ([.ref h0, .ref lo]) (n := 2) (Nat.le_of_ble_eq_true rfl)
  rw [lg_entry_eq]
  generalize (lg_sl ([.ref h0, .ref lo]) ++ List.replicate (2 - (lg_sl ([.ref h0, .ref lo])).length) Slot.unset).toArray = ls at hl ⊢
  have hl : lv_has ls 2 [(0, .ref h0), (1, .ref lo)] := hl
  refine lv_aload_n hx hb dJx4a65c_add_9ea2d_0 rfl (lv_at hl 0 rfl) ?_
  refine lv_dup hx hb dJx4a65c_add_9ea2d_1 rfl ?_
  refine va_get (D := (dC, dI)) (ci := 0) (v := .int mc) (C := RJx4a65c) (T := TJx4a65c) (N := 3) hx hb hts iCJx4a65c hown hK hP 0 rfl rfl 0 (by decide) (hts (.fieldLink RJx4a65c 63 "java/util/ArrayList" "modCount" "I") (List.mem_cons_of_mem _ kw_2_11)) (fun x9 h9 => u_same (hts (.sameField "java/util/ArrayList" "java/util/AbstractList" "modCount" "I") (List.mem_cons_of_mem _ kw_2_12)) x9 h9) rfl dJx4a65c_add_9ea2d_2 ?_
  refine lv_iconst (v := 1) hx hb dJx4a65c_add_9ea2d_5 (by decide) ?_
  refine lv_iadd hx hb dJx4a65c_add_9ea2d_6 ?_
  refine lv_topi (fun v_1 ev_1 => ?_)
  refine va_put (D := (dC, dI)) (ci := 0) (v := .int v_1) (ty := .int) (C := RJx4a65c) (T := TJx4a65c) (N := 3) hx hb hts iCJx4a65c tyJx4a65c tyJx4a65c_ok nmJx4a65c hown hK hP hD hS 0 rfl rfl 0 (by decide) (hts (.fieldLink RJx4a65c 63 "java/util/ArrayList" "modCount" "I") (List.mem_cons_of_mem _ kw_2_11)) (fun x9 h9 => u_same (hts (.sameField "java/util/ArrayList" "java/util/AbstractList" "modCount" "I") (List.mem_cons_of_mem _ kw_2_12)) x9 h9) rfl (by decide +kernel) rfl rfl (Nat.le_of_ble_eq_true rfl) dJx4a65c_add_9ea2d_7 (fun H locs hP hD hS => ?_)
  have hP : va_P (dC, dI) vwCl [(h0, .inr (0, [.int v_1, .ref ga, .int nn])), (lo, .inr (1, [v0, v1, v2, v3, v4, v5, v6])), (ga, .inl (kg, 10, .inr (.inr (.inr (.inr ef)))))] H := hP
  have hD : va_D A [(h0, .inr (0, [.int v_1, .ref ga, .int nn])), (lo, .inr (1, [v0, v1, v2, v3, v4, v5, v6])), (ga, .inl (kg, 10, .inr (.inr (.inr (.inr ef)))))] := hD
  refine lv_aload_n hx hb dJx4a65c_add_9ea2d_10 rfl (lv_at hl 0 rfl) ?_
  refine lv_aload_n hx hb dJx4a65c_add_9ea2d_11 rfl (lv_at hl 1 rfl) ?_
  refine lv_aload_n hx hb dJx4a65c_add_9ea2d_12 rfl (lv_at hl 0 rfl) ?_
  refine va_get (D := (dC, dI)) (ci := 0) (v := .ref ga) (C := RJx4a65c) (T := TJx4a65c) (N := 3) hx hb hts iCJx4a65c hown hK hP 0 rfl rfl 1 (by decide) (hts (.fieldLink RJx4a65c 9 "java/util/ArrayList" "elementData" "[Ljava/lang/Object;") (List.mem_cons_of_mem _ kw_2_8)) (fun _ h9 => h9) rfl dJx4a65c_add_9ea2d_13 ?_
  refine lv_aload_n hx hb dJx4a65c_add_9ea2d_16 rfl (lv_at hl 0 rfl) ?_
  refine va_get (D := (dC, dI)) (ci := 0) (v := .int nn) (C := RJx4a65c) (T := TJx4a65c) (N := 3) hx hb hts iCJx4a65c hown hK hP 0 rfl rfl 2 (by decide) (hts (.fieldLink RJx4a65c 48 "java/util/ArrayList" "size" "I") (List.mem_cons_of_mem _ kw_2_9)) (fun _ h9 => h9) rfl dJx4a65c_add_9ea2d_17 ?_
  have hPc := hP.sub (ws' := [(h0, .inr (0, [.int v_1, .ref ga, .int nn])), (lo, .inr (1, [v0, v1, v2, v3, v4, v5, v6])), (ga, .inl (kg, 10, .inr (.inr (.inr (.inr ef)))))]) [0, 1, 2] rfl
  have hDc := hD.sub (ws' := [(h0, .inr (0, [.int v_1, .ref ga, .int nn])), (lo, .inr (1, [v0, v1, v2, v3, v4, v5, v6])), (ga, .inl (kg, 10, .inr (.inr (.inr (.inr ef)))))]) [0, 1, 2] (by decide) rfl
  have hKc := hK.sub (tys' := [(kg, .object "java/lang/Object")]) [0] rfl
  have hFc := va_free (wc := [(h0, .inr (0, [.int v_1, .ref ga, .int nn])), (lo, .inr (1, [v0, v1, v2, v3, v4, v5, v6])), (ga, .inl (kg, 10, .inr (.inr (.inr (.inr ef)))))]) hD hS hA [0, 1, 2] rfl
  refine va_callv (va_runV (As := [.ref lo, .ref ga, .int nn]) (rest := []) ⟨hx, hb, hml, hown, hts⟩ (x_add2b l dC dI H.size ga h0 v_1 nn kg ef lo (v0 : Value) (v1 : Value) (v2 : Value) (v3 : Value) (v4 : Value) (v5 : Value) (v6 : Value) hne hin) (cwV 3 hts (gV kw_4_177 kw_4_179 kw_p_16 kw_1_9 kw_4_180) rfl rfl rfl (by decide +kernel) ⟨Nat.le_of_ble_eq_true rfl, Nat.le_of_ble_eq_true rfl⟩) ⟨fun a U g mk q => by obtain ⟨q0, q1, qP, qK, qD, qZ0⟩ := q; exact ⟨q0, q1, qP, va_K.moved (u := U) (U := U.calling g mk a) (Vm.Alike.refl U.vm) qK, qD, va_Nw.same (u := U) (U := U.calling g mk a) rfl rfl qZ0⟩, va_recv hKc hPc (ci := 0) (q0 := 0) rfl rfl, fun U hU hW => ⟨rfl, by rw [hU], by rw [hU]; exact hPc, va_K.moved hW.alike hKc, hDc.weaken (fun _ _ _ _ => trivial), va_Nw.warmC hW hN_L⟩⟩ rfl rfl hl.1 rfl (lv_room (Nat.le_of_ble_eq_true rfl)) dJx4a65c_add_9ea2d_20 ⟨Nat.le_of_ble_eq_true rfl, Nat.le_of_ble_eq_true rfl⟩) hS (fun q _ h => hFc q h) hFc (fun u t H1 locs ht hvm hw hB hz1 hk1 hS => ?_)
  obtain ⟨n_3, e_4, g_5, g_6, hP1, hK1, hD1⟩ := hB
  rw [ht] at hP1
  have hK1 := va_K.moved hvm.symm hK1
  obtain ⟨hP, hD⟩ := va_join (wr := []) (w1 := [(h0, .inr (0, [.int v_1, .ref ga, .int n_3])), (lo, .inr (1, [v0, v1, v2, v3, v4, v5, v6])), (ga, .inl (kg, 10, .inr (.inr (.inr (.inr e_4)))))]) hP hD [0, 1, 2] [] rfl rfl (by decide) (by decide) hk1 hFc hP1 hD1
  have hK := (hK.sub (tys' := []) [] rfl).app hK1
  generalize H1 = H at hP hS ⊢
  have hP : va_P (dC, dI) vwCl [(h0, .inr (0, [.int v_1, .ref ga, .int n_3])), (lo, .inr (1, [v0, v1, v2, v3, v4, v5, v6])), (ga, .inl (kg, 10, .inr (.inr (.inr (.inr e_4)))))] H := hP
  have hD : va_D A [(h0, .inr (0, [.int v_1, .ref ga, .int n_3])), (lo, .inr (1, [v0, v1, v2, v3, v4, v5, v6])), (ga, .inl (kg, 10, .inr (.inr (.inr (.inr e_4)))))] := hD
  have hK : va_K (dC, dI) vwCl [(kg, .object "java/lang/Object")] s := hK
  refine lv_iconst (v := 1) hx hb dJx4a65c_add_9ea2d_23 (by decide) ?_
  have hP9 := hP.sub (ws' := [(h0, .inr (0, [.int v_1, .ref ga, .int n_3])), (lo, .inr (1, [v0, v1, v2, v3, v4, v5, v6])), (ga, .inl (kg, 10, .inr (.inr (.inr (.inr e_4)))))]) [0, 1, 2] rfl
  have hD9 := hD.sub (ws' := [(h0, .inr (0, [.int v_1, .ref ga, .int n_3])), (lo, .inr (1, [v0, v1, v2, v3, v4, v5, v6])), (ga, .inl (kg, 10, .inr (.inr (.inr (.inr e_4)))))]) [0, 1, 2] (by decide) rfl
  have hK9 := hK.sub (tys' := [(kg, .object "java/lang/Object")]) [0] rfl
  refine W.widen (k := 0) (n := 0) (Nat.le_of_ble_eq_true rfl) (Nat.le_of_ble_eq_true rfl) ?_
  exact W.zret (v := 1) hx hb hr (by decide) (fun t ht hW => ⟨⟨1, (), rfl, rfl, ⟨v_1, n_3, e_4, g_5, g_6, by rw [ht]; exact hP9, va_K.moved hW.alike hK9, hD9⟩⟩, hS.F ht⟩) hS.2.2 dJx4a65c_add_9ea2d_24

theorem dX3_lookUp_0 : decode cX3_lookUp 0 = .ok (.getstatic 135, 3) := by decide +kernel
theorem dX3_lookUp_3 : decode cX3_lookUp 3 = .ok (.astore_n 3, 1) := by decide +kernel
theorem dX3_lookUp_4 : decode cX3_lookUp 4 = .ok (.aload_n 3, 1) := by decide +kernel
theorem dX3_lookUp_5 : decode cX3_lookUp 5 = .ok (.arraylength, 1) := by decide +kernel
theorem dX3_lookUp_6 : decode cX3_lookUp 6 = .ok (.istore 4, 2) := by decide +kernel
theorem dX3_lookUp_8 : decode cX3_lookUp 8 = .ok (.iconst 0, 1) := by decide +kernel
theorem dX3_lookUp_9 : decode cX3_lookUp 9 = .ok (.istore 5, 2) := by decide +kernel
theorem dX3_lookUp_11 : decode cX3_lookUp 11 = .ok (.iload 5, 2) := by decide +kernel
theorem dX3_lookUp_13 : decode cX3_lookUp 13 = .ok (.iload 4, 2) := by decide +kernel
theorem dX3_lookUp_15 : decode cX3_lookUp 15 = .ok (.if_icmp .ge 43, 3) := by decide +kernel
theorem dX3_lookUp_18 : decode cX3_lookUp 18 = .ok (.aload_n 3, 1) := by decide +kernel
theorem dX3_lookUp_19 : decode cX3_lookUp 19 = .ok (.iload 5, 2) := by decide +kernel
theorem dX3_lookUp_21 : decode cX3_lookUp 21 = .ok (.aaload, 1) := by decide +kernel
theorem dX3_lookUp_22 : decode cX3_lookUp 22 = .ok (.astore 6, 2) := by decide +kernel
theorem dX3_lookUp_24 : decode cX3_lookUp 24 = .ok (.aload 6, 2) := by decide +kernel
theorem dX3_lookUp_26 : decode cX3_lookUp 26 = .ok (.getfield 138, 3) := by decide +kernel
theorem dX3_lookUp_29 : decode cX3_lookUp 29 = .ok (.invokevirtual 142, 3) := by decide +kernel
theorem dX3_lookUp_32 : decode cX3_lookUp 32 = .ok (.iload_n 2, 1) := by decide +kernel
theorem dX3_lookUp_33 : decode cX3_lookUp 33 = .ok (.if_icmp .ne 19, 3) := by decide +kernel
theorem dX3_lookUp_36 : decode cX3_lookUp 36 = .ok (.aload 6, 2) := by decide +kernel
theorem dX3_lookUp_38 : decode cX3_lookUp 38 = .ok (.getfield 138, 3) := by decide +kernel
theorem dX3_lookUp_41 : decode cX3_lookUp 41 = .ok (.aload_n 0, 1) := by decide +kernel
theorem dX3_lookUp_42 : decode cX3_lookUp 42 = .ok (.iload_n 1, 1) := by decide +kernel
theorem dX3_lookUp_43 : decode cX3_lookUp 43 = .ok (.invokestatic 148, 3) := by decide +kernel
theorem dX3_lookUp_46 : decode cX3_lookUp 46 = .ok (.ifCond .eq 6, 3) := by decide +kernel
theorem dX3_lookUp_49 : decode cX3_lookUp 49 = .ok (.aload 6, 2) := by decide +kernel
theorem dX3_lookUp_51 : decode cX3_lookUp 51 = .ok (.areturn, 1) := by decide +kernel
theorem dX3_lookUp_52 : decode cX3_lookUp 52 = .ok (.iinc 5 1, 3) := by decide +kernel
theorem dX3_lookUp_55 : decode cX3_lookUp 55 = .ok (.goto (-44), 3) := by decide +kernel
theorem dX3_lookUp_58 : decode cX3_lookUp 58 = .ok (.getstatic 119, 3) := by decide +kernel
theorem dX3_lookUp_61 : decode cX3_lookUp 61 = .ok (.areturn, 1) := by decide +kernel
def txA (ob ad tA tkK tkV tkL : Nat → Nat) (tkB : Nat → Nat → Int32) (tkT sz : Nat) (U : State) : Prop := va_Z "WalkingTown$Reader" "TOKENS" "[LWalkingTown$Token;" (.ref tkT) (aX ob ad sz) U U.heap ∧ va_T (.object "WalkingTown$Token") tkT 32 (fun j => .ref (tA j)) (aX ob ad sz) U U.heap ∧ ∀ j, j < 32 → va_OF "WalkingTown$Token" "text" "Ljava/lang/String;" (.ref (tkK j)) (tA j) (aX ob ad sz) U U.heap ∧ stA (tkK j) (tkV j) (tkL j) (tkB j) (aX ob ad sz) U
theorem tx_mv {ob ad tA tkK tkV tkL : Nat → Nat} {tkB : Nat → Nat → Int32} {tkT sz : Nat} {u U : State} (hU : U.heap = u.heap) (hv : u.vm.Alike U.vm) (h : txA ob ad tA tkK tkV tkL tkB tkT sz u) : txA ob ad tA tkK tkV tkL tkB tkT sz U := by
  refine ⟨?_, ?_, fun j hj => ⟨?_, st_mv hU hv (h.2.2 j hj).2⟩⟩
  · rw [hU]; exact va_Z.moved hv h.1
  · rw [hU]; exact va_T.moved hv h.2.1
  · rw [hU]; exact va_OF.moved hv (h.2.2 j hj).1
theorem tx_pass {ob ad tA tkK tkV tkL : Nat → Nat} {tkB : Nat → Nat → Int32} {tkT : Nat} {s U : State} {H : Heap} {locs : List Loc} (h : txA ob ad tA tkK tkV tkL tkB tkT s.heap.size s) (hS : va_S (aX ob ad s.heap.size) s.heap H locs) (hU : U.heap = H) (hv : s.vm.Alike U.vm) : txA ob ad tA tkK tkV tkL tkB tkT H.size U := by
  refine ⟨?_, ?_, fun j hj => ⟨?_, st_pass (h.2.2 j hj).2 hS hU hv (aX_up hS)⟩⟩
  · rw [hU]; exact va_Z.moved hv ((h.1.kept hS.2.1).narrow (aX_up hS))
  · rw [hU]; exact va_T.moved hv ((h.2.1.kept hS.2.1).narrow (aX_up hS))
  · rw [hU]; exact va_OF.moved hv (((h.2.2 j hj).1.kept hS.2.1).narrow (aX_up hS))

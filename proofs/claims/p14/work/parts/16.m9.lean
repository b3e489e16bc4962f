theorem dX12_drop_0 : decode cX12_drop 0 = .ok (.aload_n 0, 1) := by decide +kernel
theorem dX12_drop_1 : decode cX12_drop 1 = .ok (.getfield 340, 3) := by decide +kernel
theorem dX12_drop_4 : decode cX12_drop 4 = .ok (.ifCond .le 50, 3) := by decide +kernel
theorem dX12_drop_7 : decode cX12_drop 7 = .ok (.aload_n 0, 1) := by decide +kernel
theorem dX12_drop_8 : decode cX12_drop 8 = .ok (.getfield 118, 3) := by decide +kernel
theorem dX12_drop_11 : decode cX12_drop 11 = .ok (.aload_n 0, 1) := by decide +kernel
theorem dX12_drop_12 : decode cX12_drop 12 = .ok (.getfield 340, 3) := by decide +kernel
theorem dX12_drop_15 : decode cX12_drop 15 = .ok (.iconst 1, 1) := by decide +kernel
theorem dX12_drop_16 : decode cX12_drop 16 = .ok (.isub, 1) := by decide +kernel
theorem dX12_drop_17 : decode cX12_drop 17 = .ok (.iaload, 1) := by decide +kernel
theorem dX12_drop_18 : decode cX12_drop 18 = .ok (.iload_n 1, 1) := by decide +kernel
theorem dX12_drop_19 : decode cX12_drop 19 = .ok (.iload_n 2, 1) := by decide +kernel
theorem dX12_drop_20 : decode cX12_drop 20 = .ok (.invokestatic 214, 3) := by decide +kernel
theorem dX12_drop_23 : decode cX12_drop 23 = .ok (.ifCond .eq 31, 3) := by decide +kernel
theorem dX12_drop_26 : decode cX12_drop 26 = .ok (.aload_n 0, 1) := by decide +kernel
theorem dX12_drop_27 : decode cX12_drop 27 = .ok (.dup, 1) := by decide +kernel
theorem dX12_drop_28 : decode cX12_drop 28 = .ok (.getfield 340, 3) := by decide +kernel
theorem dX12_drop_31 : decode cX12_drop 31 = .ok (.iconst 1, 1) := by decide +kernel
theorem dX12_drop_32 : decode cX12_drop 32 = .ok (.isub, 1) := by decide +kernel
theorem dX12_drop_33 : decode cX12_drop 33 = .ok (.putfield 340, 3) := by decide +kernel
theorem dX12_drop_36 : decode cX12_drop 36 = .ok (.aload_n 0, 1) := by decide +kernel
theorem dX12_drop_37 : decode cX12_drop 37 = .ok (.aload_n 0, 1) := by decide +kernel
theorem dX12_drop_38 : decode cX12_drop 38 = .ok (.getfield 118, 3) := by decide +kernel
theorem dX12_drop_41 : decode cX12_drop 41 = .ok (.aload_n 0, 1) := by decide +kernel
theorem dX12_drop_42 : decode cX12_drop 42 = .ok (.getfield 340, 3) := by decide +kernel
theorem dX12_drop_45 : decode cX12_drop 45 = .ok (.iaload, 1) := by decide +kernel
theorem dX12_drop_46 : decode cX12_drop 46 = .ok (.iconst 0, 1) := by decide +kernel
theorem dX12_drop_47 : decode cX12_drop 47 = .ok (.iconst 0, 1) := by decide +kernel
theorem dX12_drop_48 : decode cX12_drop 48 = .ok (.invokevirtual 343, 3) := by decide +kernel
theorem dX12_drop_51 : decode cX12_drop 51 = .ok (.goto (-51), 3) := by decide +kernel
theorem dX12_drop_54 : decode cX12_drop 54 = .ok (.return_, 1) := by decide +kernel
theorem dX12_dropNots_0 : decode cX12_dropNots 0 = .ok (.aload_n 0, 1) := by decide +kernel
theorem dX12_dropNots_1 : decode cX12_dropNots 1 = .ok (.getfield 340, 3) := by decide +kernel
theorem dX12_dropNots_4 : decode cX12_dropNots 4 = .ok (.ifCond .le 50, 3) := by decide +kernel
theorem dX12_dropNots_7 : decode cX12_dropNots 7 = .ok (.aload_n 0, 1) := by decide +kernel
theorem dX12_dropNots_8 : decode cX12_dropNots 8 = .ok (.getfield 118, 3) := by decide +kernel
theorem dX12_dropNots_11 : decode cX12_dropNots 11 = .ok (.aload_n 0, 1) := by decide +kernel
theorem dX12_dropNots_12 : decode cX12_dropNots 12 = .ok (.getfield 340, 3) := by decide +kernel
theorem dX12_dropNots_15 : decode cX12_dropNots 15 = .ok (.iconst 1, 1) := by decide +kernel
theorem dX12_dropNots_16 : decode cX12_dropNots 16 = .ok (.isub, 1) := by decide +kernel
theorem dX12_dropNots_17 : decode cX12_dropNots 17 = .ok (.iaload, 1) := by decide +kernel
theorem dX12_dropNots_18 : decode cX12_dropNots 18 = .ok (.bipush 12, 2) := by decide +kernel
theorem dX12_dropNots_20 : decode cX12_dropNots 20 = .ok (.if_icmp .ne 34, 3) := by decide +kernel
theorem dX12_dropNots_23 : decode cX12_dropNots 23 = .ok (.aload_n 0, 1) := by decide +kernel
theorem dX12_dropNots_24 : decode cX12_dropNots 24 = .ok (.dup, 1) := by decide +kernel
theorem dX12_dropNots_25 : decode cX12_dropNots 25 = .ok (.getfield 340, 3) := by decide +kernel
theorem dX12_dropNots_28 : decode cX12_dropNots 28 = .ok (.iconst 1, 1) := by decide +kernel
theorem dX12_dropNots_29 : decode cX12_dropNots 29 = .ok (.isub, 1) := by decide +kernel
theorem dX12_dropNots_30 : decode cX12_dropNots 30 = .ok (.putfield 340, 3) := by decide +kernel
theorem dX12_dropNots_33 : decode cX12_dropNots 33 = .ok (.aload_n 0, 1) := by decide +kernel
theorem dX12_dropNots_34 : decode cX12_dropNots 34 = .ok (.dup, 1) := by decide +kernel
theorem dX12_dropNots_35 : decode cX12_dropNots 35 = .ok (.getfield 363, 3) := by decide +kernel
theorem dX12_dropNots_38 : decode cX12_dropNots 38 = .ok (.iconst 1, 1) := by decide +kernel
theorem dX12_dropNots_39 : decode cX12_dropNots 39 = .ok (.isub, 1) := by decide +kernel
theorem dX12_dropNots_40 : decode cX12_dropNots 40 = .ok (.putfield 363, 3) := by decide +kernel
theorem dX12_dropNots_43 : decode cX12_dropNots 43 = .ok (.aload_n 0, 1) := by decide +kernel
theorem dX12_dropNots_44 : decode cX12_dropNots 44 = .ok (.bipush 12, 2) := by decide +kernel
theorem dX12_dropNots_46 : decode cX12_dropNots 46 = .ok (.iconst 0, 1) := by decide +kernel
theorem dX12_dropNots_47 : decode cX12_dropNots 47 = .ok (.iconst 0, 1) := by decide +kernel
theorem dX12_dropNots_48 : decode cX12_dropNots 48 = .ok (.invokevirtual 343, 3) := by decide +kernel
theorem dX12_dropNots_51 : decode cX12_dropNots 51 = .ok (.goto (-51), 3) := by decide +kernel
theorem dX12_dropNots_54 : decode cX12_dropNots 54 = .ok (.return_, 1) := by decide +kernel

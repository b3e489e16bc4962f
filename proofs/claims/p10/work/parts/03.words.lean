def lw_good : List Cond := lw_tbl.filter goodWord
theorem lwg {w : Cond} (h : w ∈ lw_tbl) (g : goodWord w = true) : w ∈ lw_good := List.mem_filter.mpr ⟨h, g⟩
theorem lwgT {w : Cond} (h : w ∈ lw_good) : w ∈ lw_tbl := (List.mem_filter.mp h).1
theorem lwgG {w : Cond} (h : w ∈ lw_good) : goodWord w = true := (List.mem_filter.mp h).2
theorem lwT1 {w : Cond} (h : w ∈ tables_1_1) : w ∈ lw_tbl := List.mem_append_right _ (List.mem_append_left _ h)
theorem lwT2 {w : Cond} (h : w ∈ tables_1_2) : w ∈ lw_tbl := List.mem_append_right _ (List.mem_append_right _ (List.mem_append_left _ h))
theorem lwT3 {w : Cond} (h : w ∈ tables_1_3) : w ∈ lw_tbl := List.mem_append_right _ (List.mem_append_right _ (List.mem_append_right _ (List.mem_append_left _ h)))
theorem lwT4 {w : Cond} (h : w ∈ tables_1_4) : w ∈ lw_tbl := List.mem_append_right _ (List.mem_append_right _ (List.mem_append_right _ (List.mem_append_right _ (List.mem_append_left _ h))))
theorem lwT5 {w : Cond} (h : w ∈ tables_1_5) : w ∈ lw_tbl := List.mem_append_right _ (List.mem_append_right _ (List.mem_append_right _ (List.mem_append_right _ (List.mem_append_right _ (List.mem_append_left _ h)))))
theorem lwT6 {w : Cond} (h : w ∈ tables_1_6) : w ∈ lw_tbl := List.mem_append_right _ (List.mem_append_right _ (List.mem_append_right _ (List.mem_append_right _ (List.mem_append_right _ (List.mem_append_right _ (List.mem_append_left _ h))))))
theorem lwT7 {w : Cond} (h : w ∈ tables_1_7) : w ∈ lw_tbl := List.mem_append_right _ (List.mem_append_right _ (List.mem_append_right _ (List.mem_append_right _ (List.mem_append_right _ (List.mem_append_right _ (List.mem_append_right _ (List.mem_append_left _ h)))))))
theorem lwT8 {w : Cond} (h : w ∈ tables_1_8) : w ∈ lw_tbl := List.mem_append_right _ (List.mem_append_right _ (List.mem_append_right _ (List.mem_append_right _ (List.mem_append_right _ (List.mem_append_right _ (List.mem_append_right _ (List.mem_append_right _ (List.mem_append_left _ h))))))))
theorem lwT9 {w : Cond} (h : w ∈ tables_1_9) : w ∈ lw_tbl := List.mem_append_right _ (List.mem_append_right _ (List.mem_append_right _ (List.mem_append_right _ (List.mem_append_right _ (List.mem_append_right _ (List.mem_append_right _ (List.mem_append_right _ (List.mem_append_right _ (h)))))))))
theorem lwS1 {q : MethodName × Nat} (h : q ∈ lw_privs_1) : q ∈ lw_privs := List.mem_append_left _ h
theorem lwP1 {w : Cond} (h : w ∈ lw_privs_1.map fun q => Cond.selects q.1.cls q.1 q.1) : w ∈ lw_tbl := List.mem_append_left _ (by obtain ⟨q, hq, rfl⟩ := List.mem_map.mp h; exact List.mem_map.mpr ⟨q, lwS1 hq, rfl⟩)
theorem lwS2 {q : MethodName × Nat} (h : q ∈ lw_privs_2) : q ∈ lw_privs := List.mem_append_right _ (List.mem_append_left _ h)
theorem lwP2 {w : Cond} (h : w ∈ lw_privs_2.map fun q => Cond.selects q.1.cls q.1 q.1) : w ∈ lw_tbl := List.mem_append_left _ (by obtain ⟨q, hq, rfl⟩ := List.mem_map.mp h; exact List.mem_map.mpr ⟨q, lwS2 hq, rfl⟩)
theorem lwS3 {q : MethodName × Nat} (h : q ∈ lw_privs_3) : q ∈ lw_privs := List.mem_append_right _ (List.mem_append_right _ (List.mem_append_left _ h))
theorem lwP3 {w : Cond} (h : w ∈ lw_privs_3.map fun q => Cond.selects q.1.cls q.1 q.1) : w ∈ lw_tbl := List.mem_append_left _ (by obtain ⟨q, hq, rfl⟩ := List.mem_map.mp h; exact List.mem_map.mpr ⟨q, lwS3 hq, rfl⟩)
theorem lwS4 {q : MethodName × Nat} (h : q ∈ lw_privs_4) : q ∈ lw_privs := List.mem_append_right _ (List.mem_append_right _ (List.mem_append_right _ (List.mem_append_left _ h)))
theorem lwP4 {w : Cond} (h : w ∈ lw_privs_4.map fun q => Cond.selects q.1.cls q.1 q.1) : w ∈ lw_tbl := List.mem_append_left _ (by obtain ⟨q, hq, rfl⟩ := List.mem_map.mp h; exact List.mem_map.mpr ⟨q, lwS4 hq, rfl⟩)
theorem lwS5 {q : MethodName × Nat} (h : q ∈ lw_privs_5) : q ∈ lw_privs := List.mem_append_right _ (List.mem_append_right _ (List.mem_append_right _ (List.mem_append_right _ (List.mem_append_left _ h))))
theorem lwP5 {w : Cond} (h : w ∈ lw_privs_5.map fun q => Cond.selects q.1.cls q.1 q.1) : w ∈ lw_tbl := List.mem_append_left _ (by obtain ⟨q, hq, rfl⟩ := List.mem_map.mp h; exact List.mem_map.mpr ⟨q, lwS5 hq, rfl⟩)
theorem lwS6 {q : MethodName × Nat} (h : q ∈ lw_privs_6) : q ∈ lw_privs := List.mem_append_right _ (List.mem_append_right _ (List.mem_append_right _ (List.mem_append_right _ (List.mem_append_right _ (List.mem_append_left _ h)))))
theorem lwP6 {w : Cond} (h : w ∈ lw_privs_6.map fun q => Cond.selects q.1.cls q.1 q.1) : w ∈ lw_tbl := List.mem_append_left _ (by obtain ⟨q, hq, rfl⟩ := List.mem_map.mp h; exact List.mem_map.mpr ⟨q, lwS6 hq, rfl⟩)
theorem lwS7 {q : MethodName × Nat} (h : q ∈ lw_privs_7) : q ∈ lw_privs := List.mem_append_right _ (List.mem_append_right _ (List.mem_append_right _ (List.mem_append_right _ (List.mem_append_right _ (List.mem_append_right _ (h))))))
theorem lwP7 {w : Cond} (h : w ∈ lw_privs_7.map fun q => Cond.selects q.1.cls q.1 q.1) : w ∈ lw_tbl := List.mem_append_left _ (by obtain ⟨q, hq, rfl⟩ := List.mem_map.mp h; exact List.mem_map.mpr ⟨q, lwS7 hq, rfl⟩)
theorem gG {a b : Cond} (h : b ∈ lw_good) : GoodIn (a :: lw_good) (b :: lw_good) := fun w hw => (List.mem_cons.mp hw).elim (fun q => q ▸ ⟨List.mem_cons_of_mem _ h, good_of_word (lwgG h)⟩) (fun q => ⟨List.mem_cons_of_mem _ q, good_of_word (lwgG q)⟩)
theorem gA {a : Cond} {l ws : List Cond} (hl : ∀ w ∈ l, w ∈ lw_good) (h : GoodIn (a :: lw_good) ws) : GoodIn (a :: lw_good) (l ++ ws) := fun w hw => (List.mem_append.mp hw).elim (fun q => ⟨List.mem_cons_of_mem _ (hl w q), good_of_word (lwgG (hl w q))⟩) (h w)
theorem gV {a b : Cond} {own : String} {idx : Nat} {C : String} {y : MethodName} (h1 : (.methodLink own idx y : Cond) ∈ lw_good) (h2 : (.instanceMethod y : Cond) ∈ lw_good) (h3 : (.selects C y y : Cond) ∈ lw_good) (h4 : (.initialized C : Cond) ∈ lw_good) (h5 : b ∈ lw_good) : GoodIn (a :: lw_good) (wsV own idx C y (b :: lw_good)) := gA (List.forall_mem_cons.mpr ⟨h1, List.forall_mem_cons.mpr ⟨h2, List.forall_mem_cons.mpr ⟨h3, List.forall_mem_cons.mpr ⟨h4, fun _ h => absurd h List.not_mem_nil⟩⟩⟩⟩) (gG h5)
theorem gS {a b : Cond} {own : String} {idx : Nat} {y : MethodName} (h1 : (.methodLink own idx y : Cond) ∈ lw_good) (h2 : (.static y : Cond) ∈ lw_good) (h4 : (.initialized y.cls : Cond) ∈ lw_good) (h5 : b ∈ lw_good) : GoodIn (a :: lw_good) (va_wsS own idx y (b :: lw_good)) := gA (List.forall_mem_cons.mpr ⟨h1, List.forall_mem_cons.mpr ⟨h2, List.forall_mem_cons.mpr ⟨h4, fun _ h => absurd h List.not_mem_nil⟩⟩⟩) (gG h5)
set_option maxRecDepth 20000 in
theorem kw_1_0 : (.initialized RL : Cond) ∈ lw_good := lwg (lwT1 (List.mem_of_getElem? (i := 0) rfl)) rfl
set_option maxRecDepth 20000 in
theorem kw_1_1 : (.initialized RX11 : Cond) ∈ lw_good := lwg (lwT1 (List.mem_of_getElem? (i := 1) rfl)) rfl
set_option maxRecDepth 20000 in
theorem kw_1_2 : (.initialized RX7 : Cond) ∈ lw_good := lwg (lwT1 (List.mem_of_getElem? (i := 2) rfl)) rfl
set_option maxRecDepth 20000 in
theorem kw_1_3 : (.initialized RX4 : Cond) ∈ lw_good := lwg (lwT1 (List.mem_of_getElem? (i := 3) rfl)) rfl
set_option maxRecDepth 20000 in
theorem kw_1_4 : (.initialized RX2 : Cond) ∈ lw_good := lwg (lwT1 (List.mem_of_getElem? (i := 4) rfl)) rfl
set_option maxRecDepth 20000 in
theorem kw_1_5 : (.initialized RX10 : Cond) ∈ lw_good := lwg (lwT1 (List.mem_of_getElem? (i := 5) rfl)) rfl
set_option maxRecDepth 20000 in
theorem kw_1_6 : (.initialized RX8 : Cond) ∈ lw_good := lwg (lwT1 (List.mem_of_getElem? (i := 6) rfl)) rfl
set_option maxRecDepth 20000 in
theorem kw_1_7 : (.initialized RJxa1e45 : Cond) ∈ lw_good := lwg (lwT1 (List.mem_of_getElem? (i := 7) rfl)) rfl
set_option maxRecDepth 20000 in
theorem kw_1_8 : (.initialized RJxc12de : Cond) ∈ lw_good := lwg (lwT1 (List.mem_of_getElem? (i := 8) rfl)) rfl
set_option maxRecDepth 20000 in
theorem kw_1_9 : (.initialized RJx4a65c : Cond) ∈ lw_good := lwg (lwT1 (List.mem_of_getElem? (i := 9) rfl)) rfl
set_option maxRecDepth 20000 in
theorem kw_1_10 : (.initialized RX0 : Cond) ∈ lw_good := lwg (lwT1 (List.mem_of_getElem? (i := 10) rfl)) rfl
set_option maxRecDepth 20000 in
theorem kw_1_11 : (.initialized RX3 : Cond) ∈ lw_good := lwg (lwT1 (List.mem_of_getElem? (i := 11) rfl)) rfl
set_option maxRecDepth 20000 in
theorem kw_1_12 : (.initialized RX1 : Cond) ∈ lw_good := lwg (lwT1 (List.mem_of_getElem? (i := 12) rfl)) rfl
set_option maxRecDepth 20000 in
theorem kw_1_13 : (.initialized RX9 : Cond) ∈ lw_good := lwg (lwT1 (List.mem_of_getElem? (i := 13) rfl)) rfl
set_option maxRecDepth 20000 in
theorem kw_1_14 : (.initialized RX5 : Cond) ∈ lw_good := lwg (lwT1 (List.mem_of_getElem? (i := 14) rfl)) rfl
set_option maxRecDepth 20000 in
theorem kw_1_15 : (.initialized RX12 : Cond) ∈ lw_good := lwg (lwT1 (List.mem_of_getElem? (i := 15) rfl)) rfl
set_option maxRecDepth 20000 in
theorem kw_1_16 : (.initialized RJ9 : Cond) ∈ lw_good := lwg (lwT1 (List.mem_of_getElem? (i := 16) rfl)) rfl
set_option maxRecDepth 20000 in
theorem kw_1_19 : (.initialized RJ0 : Cond) ∈ lw_good := lwg (lwT1 (List.mem_of_getElem? (i := 19) rfl)) rfl
set_option maxRecDepth 20000 in
theorem kw_1_20 : (.initialized RJ1 : Cond) ∈ lw_good := lwg (lwT1 (List.mem_of_getElem? (i := 20) rfl)) rfl
set_option maxRecDepth 20000 in
theorem kw_1_21 : (.initialized RJ3 : Cond) ∈ lw_good := lwg (lwT1 (List.mem_of_getElem? (i := 21) rfl)) rfl
set_option maxRecDepth 20000 in
theorem kw_1_23 : (.initialized RJ10 : Cond) ∈ lw_good := lwg (lwT1 (List.mem_of_getElem? (i := 23) rfl)) rfl
set_option maxRecDepth 20000 in
theorem kw_1_25 : (.initialized RJ7 : Cond) ∈ lw_good := lwg (lwT1 (List.mem_of_getElem? (i := 25) rfl)) rfl
set_option maxRecDepth 20000 in
theorem kw_1_26 : (.initialized RJ15 : Cond) ∈ lw_good := lwg (lwT1 (List.mem_of_getElem? (i := 26) rfl)) rfl
set_option maxRecDepth 20000 in
theorem kw_1_30 : (.initialized "java/util/NoSuchElementException" : Cond) ∈ lw_good := lwg (lwT1 (List.mem_of_getElem? (i := 30) rfl)) rfl
set_option maxRecDepth 20000 in
theorem kw_1_31 : (.initialized RJ13 : Cond) ∈ lw_good := lwg (lwT1 (List.mem_of_getElem? (i := 31) rfl)) rfl
set_option maxRecDepth 20000 in
theorem kw_1_32 : (.classLink RL 8 RX11 : Cond) ∈ lw_good := lwg (lwT1 (List.mem_of_getElem? (i := 32) rfl)) rfl
set_option maxRecDepth 20000 in
theorem kw_1_33 : (.instantiable RX11 9 : Cond) ∈ lw_good := lwg (lwT1 (List.mem_of_getElem? (i := 33) rfl)) rfl
set_option maxRecDepth 20000 in
theorem kw_1_34 : (.methodLink RL 15 yX11_init : Cond) ∈ lw_good := lwg (lwT1 (List.mem_of_getElem? (i := 34) rfl)) rfl
set_option maxRecDepth 20000 in
theorem kw_1_35 : (.instanceMethod yX11_init : Cond) ∈ lw_good := lwg (lwT1 (List.mem_of_getElem? (i := 35) rfl)) rfl
set_option maxRecDepth 20000 in
theorem kw_1_36 : (.code yX11_init cX11_init 1 none : Cond) ∈ lw_good := lwg (lwT1 (List.mem_of_getElem? (i := 36) rfl)) rfl
set_option maxRecDepth 20000 in
theorem kw_1_37 : (.methodLink RX11 1 objectInit : Cond) ∈ lw_good := lwg (lwT1 (List.mem_of_getElem? (i := 37) rfl)) rfl
set_option maxRecDepth 20000 in
theorem kw_1_38 : (.instanceMethod objectInit : Cond) ∈ lw_good := lwg (lwT1 (List.mem_of_getElem? (i := 38) rfl)) rfl
set_option maxRecDepth 20000 in
theorem kw_1_39 : (.code objectInit object_method_1_code 1 none : Cond) ∈ lw_good := lwg (lwT1 (List.mem_of_getElem? (i := 39) rfl)) rfl
set_option maxRecDepth 20000 in
theorem kw_1_40 : (.classLink RX11 13 RX7 : Cond) ∈ lw_good := lwg (lwT1 (List.mem_of_getElem? (i := 40) rfl)) rfl
set_option maxRecDepth 20000 in
theorem kw_1_41 : (.instantiable RX7 14 : Cond) ∈ lw_good := lwg (lwT1 (List.mem_of_getElem? (i := 41) rfl)) rfl
set_option maxRecDepth 20000 in
theorem kw_1_42 : (.methodLink RX11 15 yX7_init : Cond) ∈ lw_good := lwg (lwT1 (List.mem_of_getElem? (i := 42) rfl)) rfl
set_option maxRecDepth 20000 in
theorem kw_1_43 : (.instanceMethod yX7_init : Cond) ∈ lw_good := lwg (lwT1 (List.mem_of_getElem? (i := 43) rfl)) rfl
set_option maxRecDepth 20000 in
theorem kw_1_44 : (.code yX7_init cX7_init 1 none : Cond) ∈ lw_good := lwg (lwT1 (List.mem_of_getElem? (i := 44) rfl)) rfl
set_option maxRecDepth 20000 in
theorem kw_1_45 : (.methodLink RX7 3 objectInit : Cond) ∈ lw_good := lwg (lwT1 (List.mem_of_getElem? (i := 45) rfl)) rfl
set_option maxRecDepth 20000 in
theorem kw_1_46 : (.classLink RX7 9 RX4 : Cond) ∈ lw_good := lwg (lwT1 (List.mem_of_getElem? (i := 46) rfl)) rfl
set_option maxRecDepth 20000 in
theorem kw_1_47 : (.instantiable RX4 2 : Cond) ∈ lw_good := lwg (lwT1 (List.mem_of_getElem? (i := 47) rfl)) rfl
set_option maxRecDepth 20000 in
theorem kw_1_48 : (.methodLink RX7 11 yX4_init : Cond) ∈ lw_good := lwg (lwT1 (List.mem_of_getElem? (i := 48) rfl)) rfl
set_option maxRecDepth 20000 in
theorem kw_1_49 : (.instanceMethod yX4_init : Cond) ∈ lw_good := lwg (lwT1 (List.mem_of_getElem? (i := 49) rfl)) rfl
set_option maxRecDepth 20000 in
theorem kw_1_50 : (.code yX4_init cX4_init 2 none : Cond) ∈ lw_good := lwg (lwT1 (List.mem_of_getElem? (i := 50) rfl)) rfl
set_option maxRecDepth 20000 in
theorem kw_1_51 : (.methodLink RX4 1 objectInit : Cond) ∈ lw_good := lwg (lwT1 (List.mem_of_getElem? (i := 51) rfl)) rfl
set_option maxRecDepth 20000 in
theorem kw_1_52 : (.constant RX4 15 10000000 : Cond) ∈ lw_good := lwg (lwT1 (List.mem_of_getElem? (i := 52) rfl)) rfl
set_option maxRecDepth 20000 in
theorem kw_1_53 : (.fieldLink RX4 9 "WalkingTown$Roads" "least" "[I" : Cond) ∈ lw_good := lwg (lwT1 (List.mem_of_getElem? (i := 53) rfl)) rfl
set_option maxRecDepth 20000 in
theorem kw_1_54 : (.fieldLink RX4 16 "WalkingTown$Roads" "laid" "I" : Cond) ∈ lw_good := lwg (lwT1 (List.mem_of_getElem? (i := 54) rfl)) rfl
set_option maxRecDepth 20000 in
theorem kw_1_55 : (.laysFinal RX4 "WalkingTown$Roads" "least" "[I" : Cond) ∈ lw_good := lwg (lwT1 (List.mem_of_getElem? (i := 55) rfl)) rfl
set_option maxRecDepth 20000 in
theorem kw_1_57 : (.lays RX4 "WalkingTown$Roads" "laid" "I" : Cond) ∈ lw_good := lwg (lwT1 (List.mem_of_getElem? (i := 57) rfl)) rfl
set_option maxRecDepth 20000 in
theorem kw_1_60 : (.arrayClass .int : Cond) ∈ lw_good := lwg (lwT1 (List.mem_of_getElem? (i := 60) rfl)) rfl
set_option maxRecDepth 20000 in
theorem kw_1_61 : (.classLink RX7 18 RX2 : Cond) ∈ lw_good := lwg (lwT1 (List.mem_of_getElem? (i := 61) rfl)) rfl
set_option maxRecDepth 20000 in
theorem kw_1_62 : (.instantiable RX2 15 : Cond) ∈ lw_good := lwg (lwT1 (List.mem_of_getElem? (i := 62) rfl)) rfl
set_option maxRecDepth 20000 in
theorem kw_1_63 : (.methodLink RX7 20 yX2_init : Cond) ∈ lw_good := lwg (lwT1 (List.mem_of_getElem? (i := 63) rfl)) rfl
set_option maxRecDepth 20000 in
theorem kw_1_64 : (.instanceMethod yX2_init : Cond) ∈ lw_good := lwg (lwT1 (List.mem_of_getElem? (i := 64) rfl)) rfl
set_option maxRecDepth 20000 in
theorem kw_1_65 : (.code yX2_init cX2_init 1 none : Cond) ∈ lw_good := lwg (lwT1 (List.mem_of_getElem? (i := 65) rfl)) rfl
set_option maxRecDepth 20000 in
theorem kw_1_66 : (.methodLink RX2 3 objectInit : Cond) ∈ lw_good := lwg (lwT1 (List.mem_of_getElem? (i := 66) rfl)) rfl
set_option maxRecDepth 20000 in
theorem kw_1_67 : (.fieldLink RX2 54 "WalkingTown$People" "size" "I" : Cond) ∈ lw_good := lwg (lwT1 (List.mem_of_getElem? (i := 67) rfl)) rfl
set_option maxRecDepth 20000 in
theorem kw_1_68 : (.fieldLink RX1 133 "WalkingTown$People" "size" "I" : Cond) ∈ lw_good := lwg (lwT1 (List.mem_of_getElem? (i := 68) rfl)) rfl
set_option maxRecDepth 20000 in
theorem kw_1_69 : (.fieldLink RX5 89 "WalkingTown$People" "size" "I" : Cond) ∈ lw_good := lwg (lwT1 (List.mem_of_getElem? (i := 69) rfl)) rfl
set_option maxRecDepth 20000 in
theorem kw_1_70 : (.fieldLink RX11 236 "WalkingTown$People" "size" "I" : Cond) ∈ lw_good := lwg (lwT1 (List.mem_of_getElem? (i := 70) rfl)) rfl
set_option maxRecDepth 20000 in
theorem kw_1_71 : (.fieldLink RX2 11 "WalkingTown$People" "home" "[I" : Cond) ∈ lw_good := lwg (lwT1 (List.mem_of_getElem? (i := 71) rfl)) rfl
set_option maxRecDepth 20000 in
theorem kw_1_72 : (.fieldLink RX5 109 "WalkingTown$People" "home" "[I" : Cond) ∈ lw_good := lwg (lwT1 (List.mem_of_getElem? (i := 72) rfl)) rfl
set_option maxRecDepth 20000 in
theorem kw_1_73 : (.fieldLink RX1 186 "WalkingTown$People" "home" "[I" : Cond) ∈ lw_good := lwg (lwT1 (List.mem_of_getElem? (i := 73) rfl)) rfl
set_option maxRecDepth 20000 in
theorem kw_1_74 : (.fieldLink RX2 15 "WalkingTown$People" "work" "[I" : Cond) ∈ lw_good := lwg (lwT1 (List.mem_of_getElem? (i := 74) rfl)) rfl
set_option maxRecDepth 20000 in
theorem kw_1_75 : (.fieldLink RX9 116 "WalkingTown$People" "work" "[I" : Cond) ∈ lw_good := lwg (lwT1 (List.mem_of_getElem? (i := 75) rfl)) rfl
set_option maxRecDepth 20000 in
theorem kw_1_76 : (.fieldLink RX1 196 "WalkingTown$People" "work" "[I" : Cond) ∈ lw_good := lwg (lwT1 (List.mem_of_getElem? (i := 76) rfl)) rfl
set_option maxRecDepth 20000 in
theorem kw_1_77 : (.fieldLink RX2 18 "WalkingTown$People" "wage" "[I" : Cond) ∈ lw_good := lwg (lwT1 (List.mem_of_getElem? (i := 77) rfl)) rfl
set_option maxRecDepth 20000 in
theorem kw_1_78 : (.fieldLink RX1 298 "WalkingTown$People" "wage" "[I" : Cond) ∈ lw_good := lwg (lwT1 (List.mem_of_getElem? (i := 78) rfl)) rfl
set_option maxRecDepth 20000 in
theorem kw_1_79 : (.fieldLink RX2 21 "WalkingTown$People" "leaves" "[I" : Cond) ∈ lw_good := lwg (lwT1 (List.mem_of_getElem? (i := 79) rfl)) rfl
set_option maxRecDepth 20000 in
theorem kw_1_80 : (.fieldLink RX1 142 "WalkingTown$People" "leaves" "[I" : Cond) ∈ lw_good := lwg (lwT1 (List.mem_of_getElem? (i := 80) rfl)) rfl
set_option maxRecDepth 20000 in
theorem kw_1_81 : (.fieldLink RX2 24 "WalkingTown$People" "begins" "[I" : Cond) ∈ lw_good := lwg (lwT1 (List.mem_of_getElem? (i := 81) rfl)) rfl
set_option maxRecDepth 20000 in
theorem kw_1_82 : (.fieldLink RX1 259 "WalkingTown$People" "begins" "[I" : Cond) ∈ lw_good := lwg (lwT1 (List.mem_of_getElem? (i := 82) rfl)) rfl
set_option maxRecDepth 20000 in
theorem kw_1_83 : (.fieldLink RX2 27 "WalkingTown$People" "age" "[I" : Cond) ∈ lw_good := lwg (lwT1 (List.mem_of_getElem? (i := 83) rfl)) rfl
set_option maxRecDepth 20000 in
theorem kw_1_84 : (.fieldLink RX5 92 "WalkingTown$People" "age" "[I" : Cond) ∈ lw_good := lwg (lwT1 (List.mem_of_getElem? (i := 84) rfl)) rfl
set_option maxRecDepth 20000 in
theorem kw_1_85 : (.fieldLink RX9 95 "WalkingTown$People" "age" "[I" : Cond) ∈ lw_good := lwg (lwT1 (List.mem_of_getElem? (i := 85) rfl)) rfl
set_option maxRecDepth 20000 in
theorem kw_1_86 : (.fieldLink RX2 30 "WalkingTown$People" "shoes" "[I" : Cond) ∈ lw_good := lwg (lwT1 (List.mem_of_getElem? (i := 86) rfl)) rfl
set_option maxRecDepth 20000 in
theorem kw_1_87 : (.fieldLink RX1 137 "WalkingTown$People" "shoes" "[I" : Cond) ∈ lw_good := lwg (lwT1 (List.mem_of_getElem? (i := 87) rfl)) rfl
set_option maxRecDepth 20000 in
theorem kw_1_88 : (.fieldLink RX5 95 "WalkingTown$People" "shoes" "[I" : Cond) ∈ lw_good := lwg (lwT1 (List.mem_of_getElem? (i := 88) rfl)) rfl
set_option maxRecDepth 20000 in
theorem kw_1_89 : (.fieldLink RX2 33 "WalkingTown$People" "purse" "[I" : Cond) ∈ lw_good := lwg (lwT1 (List.mem_of_getElem? (i := 89) rfl)) rfl
set_option maxRecDepth 20000 in
theorem kw_1_90 : (.fieldLink RX1 136 "WalkingTown$People" "purse" "[I" : Cond) ∈ lw_good := lwg (lwT1 (List.mem_of_getElem? (i := 90) rfl)) rfl
set_option maxRecDepth 20000 in
theorem kw_1_91 : (.fieldLink RX2 36 "WalkingTown$People" "lag" "[I" : Cond) ∈ lw_good := lwg (lwT1 (List.mem_of_getElem? (i := 91) rfl)) rfl
set_option maxRecDepth 20000 in
theorem kw_1_92 : (.fieldLink RX9 140 "WalkingTown$People" "lag" "[I" : Cond) ∈ lw_good := lwg (lwT1 (List.mem_of_getElem? (i := 92) rfl)) rfl
set_option maxRecDepth 20000 in
theorem kw_1_93 : (.fieldLink RX2 39 "WalkingTown$People" "came" "[I" : Cond) ∈ lw_good := lwg (lwT1 (List.mem_of_getElem? (i := 93) rfl)) rfl
set_option maxRecDepth 20000 in
theorem kw_1_94 : (.fieldLink RX1 301 "WalkingTown$People" "came" "[I" : Cond) ∈ lw_good := lwg (lwT1 (List.mem_of_getElem? (i := 94) rfl)) rfl
set_option maxRecDepth 20000 in
theorem kw_1_95 : (.fieldLink RX2 42 "WalkingTown$People" "late" "[I" : Cond) ∈ lw_good := lwg (lwT1 (List.mem_of_getElem? (i := 95) rfl)) rfl
set_option maxRecDepth 20000 in
theorem kw_1_96 : (.fieldLink RX1 302 "WalkingTown$People" "late" "[I" : Cond) ∈ lw_good := lwg (lwT1 (List.mem_of_getElem? (i := 96) rfl)) rfl
set_option maxRecDepth 20000 in
theorem kw_1_97 : (.fieldLink RX2 45 "WalkingTown$People" "walked" "[I" : Cond) ∈ lw_good := lwg (lwT1 (List.mem_of_getElem? (i := 97) rfl)) rfl
set_option maxRecDepth 20000 in
theorem kw_1_98 : (.fieldLink RX1 305 "WalkingTown$People" "walked" "[I" : Cond) ∈ lw_good := lwg (lwT1 (List.mem_of_getElem? (i := 98) rfl)) rfl
set_option maxRecDepth 20000 in
theorem kw_1_99 : (.fieldLink RX2 48 "WalkingTown$People" "rides" "[I" : Cond) ∈ lw_good := lwg (lwT1 (List.mem_of_getElem? (i := 99) rfl)) rfl
set_option maxRecDepth 20000 in
theorem kw_1_100 : (.fieldLink RX1 306 "WalkingTown$People" "rides" "[I" : Cond) ∈ lw_good := lwg (lwT1 (List.mem_of_getElem? (i := 100) rfl)) rfl
set_option maxRecDepth 20000 in
theorem kw_1_101 : (.fieldLink RX2 51 "WalkingTown$People" "walkedEver" "[I" : Cond) ∈ lw_good := lwg (lwT1 (List.mem_of_getElem? (i := 101) rfl)) rfl
set_option maxRecDepth 20000 in
theorem kw_1_102 : (.fieldLink RX1 217 "WalkingTown$People" "walkedEver" "[I" : Cond) ∈ lw_good := lwg (lwT1 (List.mem_of_getElem? (i := 102) rfl)) rfl
set_option maxRecDepth 20000 in
theorem kw_1_103 : (.lays RX2 "WalkingTown$People" "size" "I" : Cond) ∈ lw_good := lwg (lwT1 (List.mem_of_getElem? (i := 103) rfl)) rfl
set_option maxRecDepth 20000 in
theorem kw_1_105 : (.laysFinal RX2 "WalkingTown$People" "home" "[I" : Cond) ∈ lw_good := lwg (lwT1 (List.mem_of_getElem? (i := 105) rfl)) rfl
set_option maxRecDepth 20000 in
theorem kw_1_107 : (.laysFinal RX2 "WalkingTown$People" "work" "[I" : Cond) ∈ lw_good := lwg (lwT1 (List.mem_of_getElem? (i := 107) rfl)) rfl
set_option maxRecDepth 20000 in
theorem kw_1_109 : (.laysFinal RX2 "WalkingTown$People" "wage" "[I" : Cond) ∈ lw_good := lwg (lwT1 (List.mem_of_getElem? (i := 109) rfl)) rfl
set_option maxRecDepth 20000 in
theorem kw_1_111 : (.laysFinal RX2 "WalkingTown$People" "leaves" "[I" : Cond) ∈ lw_good := lwg (lwT1 (List.mem_of_getElem? (i := 111) rfl)) rfl
set_option maxRecDepth 20000 in
theorem kw_1_113 : (.laysFinal RX2 "WalkingTown$People" "begins" "[I" : Cond) ∈ lw_good := lwg (lwT1 (List.mem_of_getElem? (i := 113) rfl)) rfl
set_option maxRecDepth 20000 in
theorem kw_1_115 : (.laysFinal RX2 "WalkingTown$People" "age" "[I" : Cond) ∈ lw_good := lwg (lwT1 (List.mem_of_getElem? (i := 115) rfl)) rfl
set_option maxRecDepth 20000 in
theorem kw_1_117 : (.laysFinal RX2 "WalkingTown$People" "shoes" "[I" : Cond) ∈ lw_good := lwg (lwT1 (List.mem_of_getElem? (i := 117) rfl)) rfl
set_option maxRecDepth 20000 in
theorem kw_1_119 : (.laysFinal RX2 "WalkingTown$People" "purse" "[I" : Cond) ∈ lw_good := lwg (lwT1 (List.mem_of_getElem? (i := 119) rfl)) rfl
set_option maxRecDepth 20000 in
theorem kw_1_121 : (.laysFinal RX2 "WalkingTown$People" "lag" "[I" : Cond) ∈ lw_good := lwg (lwT1 (List.mem_of_getElem? (i := 121) rfl)) rfl
set_option maxRecDepth 20000 in
theorem kw_1_123 : (.laysFinal RX2 "WalkingTown$People" "came" "[I" : Cond) ∈ lw_good := lwg (lwT1 (List.mem_of_getElem? (i := 123) rfl)) rfl
set_option maxRecDepth 20000 in
theorem kw_1_125 : (.laysFinal RX2 "WalkingTown$People" "late" "[I" : Cond) ∈ lw_good := lwg (lwT1 (List.mem_of_getElem? (i := 125) rfl)) rfl
set_option maxRecDepth 20000 in
theorem kw_1_127 : (.laysFinal RX2 "WalkingTown$People" "walked" "[I" : Cond) ∈ lw_good := lwg (lwT1 (List.mem_of_getElem? (i := 127) rfl)) rfl
set_option maxRecDepth 20000 in
theorem kw_1_129 : (.laysFinal RX2 "WalkingTown$People" "rides" "[I" : Cond) ∈ lw_good := lwg (lwT1 (List.mem_of_getElem? (i := 129) rfl)) rfl
set_option maxRecDepth 20000 in
theorem kw_1_131 : (.laysFinal RX2 "WalkingTown$People" "walkedEver" "[I" : Cond) ∈ lw_good := lwg (lwT1 (List.mem_of_getElem? (i := 131) rfl)) rfl
set_option maxRecDepth 20000 in
theorem kw_1_134 : (.classLink RX7 25 RX10 : Cond) ∈ lw_good := lwg (lwT1 (List.mem_of_getElem? (i := 134) rfl)) rfl
set_option maxRecDepth 20000 in
theorem kw_1_135 : (.instantiable RX10 9 : Cond) ∈ lw_good := lwg (lwT1 (List.mem_of_getElem? (i := 135) rfl)) rfl
set_option maxRecDepth 20000 in
theorem kw_1_136 : (.methodLink RX7 27 yX10_init : Cond) ∈ lw_good := lwg (lwT1 (List.mem_of_getElem? (i := 136) rfl)) rfl
set_option maxRecDepth 20000 in
theorem kw_1_137 : (.instanceMethod yX10_init : Cond) ∈ lw_good := lwg (lwT1 (List.mem_of_getElem? (i := 137) rfl)) rfl
set_option maxRecDepth 20000 in
theorem kw_1_138 : (.code yX10_init cX10_init 1 none : Cond) ∈ lw_good := lwg (lwT1 (List.mem_of_getElem? (i := 138) rfl)) rfl
set_option maxRecDepth 20000 in
theorem kw_1_139 : (.methodLink RX10 3 objectInit : Cond) ∈ lw_good := lwg (lwT1 (List.mem_of_getElem? (i := 139) rfl)) rfl
set_option maxRecDepth 20000 in
theorem kw_1_140 : (.fieldLink RX10 36 "WalkingTown$Wheels" "size" "I" : Cond) ∈ lw_good := lwg (lwT1 (List.mem_of_getElem? (i := 140) rfl)) rfl
set_option maxRecDepth 20000 in
theorem kw_1_141 : (.fieldLink RX1 152 "WalkingTown$Wheels" "size" "I" : Cond) ∈ lw_good := lwg (lwT1 (List.mem_of_getElem? (i := 141) rfl)) rfl
set_option maxRecDepth 20000 in
theorem kw_1_142 : (.fieldLink RX11 237 "WalkingTown$Wheels" "size" "I" : Cond) ∈ lw_good := lwg (lwT1 (List.mem_of_getElem? (i := 142) rfl)) rfl
set_option maxRecDepth 20000 in
theorem kw_1_143 : (.fieldLink RX10 11 "WalkingTown$Wheels" "kind" "[I" : Cond) ∈ lw_good := lwg (lwT1 (List.mem_of_getElem? (i := 143) rfl)) rfl
set_option maxRecDepth 20000 in
theorem kw_1_144 : (.fieldLink RX7 83 "WalkingTown$Wheels" "kind" "[I" : Cond) ∈ lw_good := lwg (lwT1 (List.mem_of_getElem? (i := 144) rfl)) rfl
set_option maxRecDepth 20000 in
theorem kw_1_145 : (.fieldLink RX1 262 "WalkingTown$Wheels" "kind" "[I" : Cond) ∈ lw_good := lwg (lwT1 (List.mem_of_getElem? (i := 145) rfl)) rfl
set_option maxRecDepth 20000 in
theorem kw_1_146 : (.fieldLink RX10 15 "WalkingTown$Wheels" "base" "[I" : Cond) ∈ lw_good := lwg (lwT1 (List.mem_of_getElem? (i := 146) rfl)) rfl
set_option maxRecDepth 20000 in
theorem kw_1_147 : (.fieldLink RX1 154 "WalkingTown$Wheels" "base" "[I" : Cond) ∈ lw_good := lwg (lwT1 (List.mem_of_getElem? (i := 147) rfl)) rfl
set_option maxRecDepth 20000 in
theorem kw_1_148 : (.fieldLink RX10 18 "WalkingTown$Wheels" "seats" "[I" : Cond) ∈ lw_good := lwg (lwT1 (List.mem_of_getElem? (i := 148) rfl)) rfl
set_option maxRecDepth 20000 in
theorem kw_1_149 : (.fieldLink RX5 69 "WalkingTown$Wheels" "seats" "[I" : Cond) ∈ lw_good := lwg (lwT1 (List.mem_of_getElem? (i := 149) rfl)) rfl
set_option maxRecDepth 20000 in
theorem kw_1_150 : (.fieldLink RX7 117 "WalkingTown$Wheels" "seats" "[I" : Cond) ∈ lw_good := lwg (lwT1 (List.mem_of_getElem? (i := 150) rfl)) rfl
set_option maxRecDepth 20000 in
theorem kw_1_151 : (.fieldLink RX1 250 "WalkingTown$Wheels" "seats" "[I" : Cond) ∈ lw_good := lwg (lwT1 (List.mem_of_getElem? (i := 151) rfl)) rfl
set_option maxRecDepth 20000 in
theorem kw_1_152 : (.fieldLink RX10 21 "WalkingTown$Wheels" "insured" "[I" : Cond) ∈ lw_good := lwg (lwT1 (List.mem_of_getElem? (i := 152) rfl)) rfl
set_option maxRecDepth 20000 in
theorem kw_1_153 : (.fieldLink RX7 114 "WalkingTown$Wheels" "insured" "[I" : Cond) ∈ lw_good := lwg (lwT1 (List.mem_of_getElem? (i := 153) rfl)) rfl
set_option maxRecDepth 20000 in
theorem kw_1_154 : (.fieldLink RX11 113 "WalkingTown$Wheels" "insured" "[I" : Cond) ∈ lw_good := lwg (lwT1 (List.mem_of_getElem? (i := 154) rfl)) rfl
set_option maxRecDepth 20000 in
theorem kw_1_155 : (.fieldLink RX10 24 "WalkingTown$Wheels" "coin" "[I" : Cond) ∈ lw_good := lwg (lwT1 (List.mem_of_getElem? (i := 155) rfl)) rfl
set_option maxRecDepth 20000 in
theorem kw_1_156 : (.fieldLink RX1 153 "WalkingTown$Wheels" "coin" "[I" : Cond) ∈ lw_good := lwg (lwT1 (List.mem_of_getElem? (i := 156) rfl)) rfl
set_option maxRecDepth 20000 in
theorem kw_1_157 : (.fieldLink RX10 27 "WalkingTown$Wheels" "stopped" "[I" : Cond) ∈ lw_good := lwg (lwT1 (List.mem_of_getElem? (i := 157) rfl)) rfl
set_option maxRecDepth 20000 in
theorem kw_1_158 : (.fieldLink RX1 294 "WalkingTown$Wheels" "stopped" "[I" : Cond) ∈ lw_good := lwg (lwT1 (List.mem_of_getElem? (i := 158) rfl)) rfl
set_option maxRecDepth 20000 in
theorem kw_1_159 : (.fieldLink RX10 30 "WalkingTown$Wheels" "gone" "[I" : Cond) ∈ lw_good := lwg (lwT1 (List.mem_of_getElem? (i := 159) rfl)) rfl
set_option maxRecDepth 20000 in
theorem kw_1_160 : (.fieldLink RX1 295 "WalkingTown$Wheels" "gone" "[I" : Cond) ∈ lw_good := lwg (lwT1 (List.mem_of_getElem? (i := 160) rfl)) rfl
set_option maxRecDepth 20000 in
theorem kw_1_161 : (.fieldLink RX10 33 "WalkingTown$Wheels" "at" "[I" : Cond) ∈ lw_good := lwg (lwT1 (List.mem_of_getElem? (i := 161) rfl)) rfl
set_option maxRecDepth 20000 in
theorem kw_1_162 : (.fieldLink RX1 296 "WalkingTown$Wheels" "at" "[I" : Cond) ∈ lw_good := lwg (lwT1 (List.mem_of_getElem? (i := 162) rfl)) rfl
set_option maxRecDepth 20000 in
theorem kw_1_163 : (.lays RX10 "WalkingTown$Wheels" "size" "I" : Cond) ∈ lw_good := lwg (lwT1 (List.mem_of_getElem? (i := 163) rfl)) rfl
set_option maxRecDepth 20000 in
theorem kw_1_165 : (.laysFinal RX10 "WalkingTown$Wheels" "kind" "[I" : Cond) ∈ lw_good := lwg (lwT1 (List.mem_of_getElem? (i := 165) rfl)) rfl
set_option maxRecDepth 20000 in
theorem kw_1_167 : (.laysFinal RX10 "WalkingTown$Wheels" "base" "[I" : Cond) ∈ lw_good := lwg (lwT1 (List.mem_of_getElem? (i := 167) rfl)) rfl
set_option maxRecDepth 20000 in
theorem kw_1_169 : (.laysFinal RX10 "WalkingTown$Wheels" "seats" "[I" : Cond) ∈ lw_good := lwg (lwT1 (List.mem_of_getElem? (i := 169) rfl)) rfl
set_option maxRecDepth 20000 in
theorem kw_1_171 : (.laysFinal RX10 "WalkingTown$Wheels" "insured" "[I" : Cond) ∈ lw_good := lwg (lwT1 (List.mem_of_getElem? (i := 171) rfl)) rfl
set_option maxRecDepth 20000 in
theorem kw_1_173 : (.laysFinal RX10 "WalkingTown$Wheels" "coin" "[I" : Cond) ∈ lw_good := lwg (lwT1 (List.mem_of_getElem? (i := 173) rfl)) rfl
set_option maxRecDepth 20000 in
theorem kw_1_175 : (.laysFinal RX10 "WalkingTown$Wheels" "stopped" "[I" : Cond) ∈ lw_good := lwg (lwT1 (List.mem_of_getElem? (i := 175) rfl)) rfl
set_option maxRecDepth 20000 in
theorem kw_1_177 : (.laysFinal RX10 "WalkingTown$Wheels" "gone" "[I" : Cond) ∈ lw_good := lwg (lwT1 (List.mem_of_getElem? (i := 177) rfl)) rfl
set_option maxRecDepth 20000 in
theorem kw_1_179 : (.laysFinal RX10 "WalkingTown$Wheels" "at" "[I" : Cond) ∈ lw_good := lwg (lwT1 (List.mem_of_getElem? (i := 179) rfl)) rfl
set_option maxRecDepth 20000 in
theorem kw_1_182 : (.classLink RX7 32 RX8 : Cond) ∈ lw_good := lwg (lwT1 (List.mem_of_getElem? (i := 182) rfl)) rfl
set_option maxRecDepth 20000 in
theorem kw_1_183 : (.instantiable RX8 9 : Cond) ∈ lw_good := lwg (lwT1 (List.mem_of_getElem? (i := 183) rfl)) rfl
set_option maxRecDepth 20000 in
theorem kw_1_184 : (.methodLink RX7 34 yX8_init : Cond) ∈ lw_good := lwg (lwT1 (List.mem_of_getElem? (i := 184) rfl)) rfl
set_option maxRecDepth 20000 in
theorem kw_1_185 : (.instanceMethod yX8_init : Cond) ∈ lw_good := lwg (lwT1 (List.mem_of_getElem? (i := 185) rfl)) rfl
set_option maxRecDepth 20000 in
theorem kw_1_186 : (.code yX8_init cX8_init 1 none : Cond) ∈ lw_good := lwg (lwT1 (List.mem_of_getElem? (i := 186) rfl)) rfl
set_option maxRecDepth 20000 in
theorem kw_1_187 : (.methodLink RX8 3 objectInit : Cond) ∈ lw_good := lwg (lwT1 (List.mem_of_getElem? (i := 187) rfl)) rfl
set_option maxRecDepth 20000 in
theorem kw_1_188 : (.fieldLink RX8 36 "WalkingTown$Trips" "size" "I" : Cond) ∈ lw_good := lwg (lwT1 (List.mem_of_getElem? (i := 188) rfl)) rfl
set_option maxRecDepth 20000 in
theorem kw_1_189 : (.fieldLink RX9 58 "WalkingTown$Trips" "size" "I" : Cond) ∈ lw_good := lwg (lwT1 (List.mem_of_getElem? (i := 189) rfl)) rfl
set_option maxRecDepth 20000 in
theorem kw_1_190 : (.fieldLink RX1 161 "WalkingTown$Trips" "size" "I" : Cond) ∈ lw_good := lwg (lwT1 (List.mem_of_getElem? (i := 190) rfl)) rfl
set_option maxRecDepth 20000 in
theorem kw_1_191 : (.fieldLink RX11 238 "WalkingTown$Trips" "size" "I" : Cond) ∈ lw_good := lwg (lwT1 (List.mem_of_getElem? (i := 191) rfl)) rfl
set_option maxRecDepth 20000 in
theorem kw_1_192 : (.fieldLink RX8 11 "WalkingTown$Trips" "wheel" "[I" : Cond) ∈ lw_good := lwg (lwT1 (List.mem_of_getElem? (i := 192) rfl)) rfl
set_option maxRecDepth 20000 in
theorem kw_1_193 : (.fieldLink RX9 63 "WalkingTown$Trips" "wheel" "[I" : Cond) ∈ lw_good := lwg (lwT1 (List.mem_of_getElem? (i := 193) rfl)) rfl
set_option maxRecDepth 20000 in
theorem kw_1_194 : (.fieldLink RX7 86 "WalkingTown$Trips" "wheel" "[I" : Cond) ∈ lw_good := lwg (lwT1 (List.mem_of_getElem? (i := 194) rfl)) rfl
set_option maxRecDepth 20000 in
theorem kw_1_195 : (.fieldLink RX1 176 "WalkingTown$Trips" "wheel" "[I" : Cond) ∈ lw_good := lwg (lwT1 (List.mem_of_getElem? (i := 195) rfl)) rfl
set_option maxRecDepth 20000 in
theorem kw_1_196 : (.fieldLink RX8 15 "WalkingTown$Trips" "from" "[I" : Cond) ∈ lw_good := lwg (lwT1 (List.mem_of_getElem? (i := 196) rfl)) rfl
set_option maxRecDepth 20000 in
theorem kw_1_197 : (.fieldLink RX9 81 "WalkingTown$Trips" "from" "[I" : Cond) ∈ lw_good := lwg (lwT1 (List.mem_of_getElem? (i := 197) rfl)) rfl
set_option maxRecDepth 20000 in
theorem kw_1_198 : (.fieldLink RX7 73 "WalkingTown$Trips" "from" "[I" : Cond) ∈ lw_good := lwg (lwT1 (List.mem_of_getElem? (i := 198) rfl)) rfl
set_option maxRecDepth 20000 in
theorem kw_1_199 : (.fieldLink RX1 189 "WalkingTown$Trips" "from" "[I" : Cond) ∈ lw_good := lwg (lwT1 (List.mem_of_getElem? (i := 199) rfl)) rfl
set_option maxRecDepth 20000 in
theorem kw_1_200 : (.fieldLink RX8 18 "WalkingTown$Trips" "to" "[I" : Cond) ∈ lw_good := lwg (lwT1 (List.mem_of_getElem? (i := 200) rfl)) rfl
set_option maxRecDepth 20000 in
theorem kw_1_201 : (.fieldLink RX9 88 "WalkingTown$Trips" "to" "[I" : Cond) ∈ lw_good := lwg (lwT1 (List.mem_of_getElem? (i := 201) rfl)) rfl
set_option maxRecDepth 20000 in
theorem kw_1_202 : (.fieldLink RX7 76 "WalkingTown$Trips" "to" "[I" : Cond) ∈ lw_good := lwg (lwT1 (List.mem_of_getElem? (i := 202) rfl)) rfl
set_option maxRecDepth 20000 in
theorem kw_1_203 : (.fieldLink RX1 272 "WalkingTown$Trips" "to" "[I" : Cond) ∈ lw_good := lwg (lwT1 (List.mem_of_getElem? (i := 203) rfl)) rfl
set_option maxRecDepth 20000 in
theorem kw_1_204 : (.fieldLink RX8 21 "WalkingTown$Trips" "minute" "[I" : Cond) ∈ lw_good := lwg (lwT1 (List.mem_of_getElem? (i := 204) rfl)) rfl
set_option maxRecDepth 20000 in
theorem kw_1_205 : (.fieldLink RX9 74 "WalkingTown$Trips" "minute" "[I" : Cond) ∈ lw_good := lwg (lwT1 (List.mem_of_getElem? (i := 205) rfl)) rfl
set_option maxRecDepth 20000 in
theorem kw_1_206 : (.fieldLink RX1 166 "WalkingTown$Trips" "minute" "[I" : Cond) ∈ lw_good := lwg (lwT1 (List.mem_of_getElem? (i := 206) rfl)) rfl
set_option maxRecDepth 20000 in
theorem kw_1_207 : (.fieldLink RX7 123 "WalkingTown$Trips" "minute" "[I" : Cond) ∈ lw_good := lwg (lwT1 (List.mem_of_getElem? (i := 207) rfl)) rfl
set_option maxRecDepth 20000 in
theorem kw_1_208 : (.fieldLink RX8 24 "WalkingTown$Trips" "first" "[I" : Cond) ∈ lw_good := lwg (lwT1 (List.mem_of_getElem? (i := 208) rfl)) rfl
set_option maxRecDepth 20000 in
theorem kw_1_209 : (.fieldLink RX8 27 "WalkingTown$Trips" "last" "[I" : Cond) ∈ lw_good := lwg (lwT1 (List.mem_of_getElem? (i := 209) rfl)) rfl
set_option maxRecDepth 20000 in
theorem kw_1_210 : (.fieldLink RX8 30 "WalkingTown$Trips" "toldOn" "[I" : Cond) ∈ lw_good := lwg (lwT1 (List.mem_of_getElem? (i := 210) rfl)) rfl
set_option maxRecDepth 20000 in
theorem kw_1_211 : (.fieldLink RX9 137 "WalkingTown$Trips" "toldOn" "[I" : Cond) ∈ lw_good := lwg (lwT1 (List.mem_of_getElem? (i := 211) rfl)) rfl
set_option maxRecDepth 20000 in
theorem kw_1_212 : (.fieldLink RX8 33 "WalkingTown$Trips" "left" "[I" : Cond) ∈ lw_good := lwg (lwT1 (List.mem_of_getElem? (i := 212) rfl)) rfl
set_option maxRecDepth 20000 in
theorem kw_1_213 : (.fieldLink RX1 297 "WalkingTown$Trips" "left" "[I" : Cond) ∈ lw_good := lwg (lwT1 (List.mem_of_getElem? (i := 213) rfl)) rfl
set_option maxRecDepth 20000 in
theorem kw_1_214 : (.fieldLink RX11 217 "WalkingTown$Trips" "left" "[I" : Cond) ∈ lw_good := lwg (lwT1 (List.mem_of_getElem? (i := 214) rfl)) rfl
set_option maxRecDepth 20000 in
theorem kw_1_215 : (.lays RX8 "WalkingTown$Trips" "size" "I" : Cond) ∈ lw_good := lwg (lwT1 (List.mem_of_getElem? (i := 215) rfl)) rfl
set_option maxRecDepth 20000 in
theorem kw_1_217 : (.laysFinal RX8 "WalkingTown$Trips" "wheel" "[I" : Cond) ∈ lw_good := lwg (lwT1 (List.mem_of_getElem? (i := 217) rfl)) rfl
set_option maxRecDepth 20000 in
theorem kw_1_219 : (.laysFinal RX8 "WalkingTown$Trips" "from" "[I" : Cond) ∈ lw_good := lwg (lwT1 (List.mem_of_getElem? (i := 219) rfl)) rfl
set_option maxRecDepth 20000 in
theorem kw_1_221 : (.laysFinal RX8 "WalkingTown$Trips" "to" "[I" : Cond) ∈ lw_good := lwg (lwT1 (List.mem_of_getElem? (i := 221) rfl)) rfl
set_option maxRecDepth 20000 in
theorem kw_1_223 : (.laysFinal RX8 "WalkingTown$Trips" "minute" "[I" : Cond) ∈ lw_good := lwg (lwT1 (List.mem_of_getElem? (i := 223) rfl)) rfl
set_option maxRecDepth 20000 in
theorem kw_1_225 : (.laysFinal RX8 "WalkingTown$Trips" "first" "[I" : Cond) ∈ lw_good := lwg (lwT1 (List.mem_of_getElem? (i := 225) rfl)) rfl
set_option maxRecDepth 20000 in
theorem kw_1_227 : (.laysFinal RX8 "WalkingTown$Trips" "last" "[I" : Cond) ∈ lw_good := lwg (lwT1 (List.mem_of_getElem? (i := 227) rfl)) rfl
set_option maxRecDepth 20000 in
theorem kw_1_229 : (.laysFinal RX8 "WalkingTown$Trips" "toldOn" "[I" : Cond) ∈ lw_good := lwg (lwT1 (List.mem_of_getElem? (i := 229) rfl)) rfl
set_option maxRecDepth 20000 in
theorem kw_1_231 : (.laysFinal RX8 "WalkingTown$Trips" "left" "[I" : Cond) ∈ lw_good := lwg (lwT1 (List.mem_of_getElem? (i := 231) rfl)) rfl
set_option maxRecDepth 20000 in
theorem kw_1_234 : (.classLink RX7 43 RJx4a65c : Cond) ∈ lw_good := lwg (lwT1 (List.mem_of_getElem? (i := 234) rfl)) rfl
set_option maxRecDepth 20000 in
theorem kw_1_235 : (.instantiable RJx4a65c 3 : Cond) ∈ lw_good := lwg (lwT1 (List.mem_of_getElem? (i := 235) rfl)) rfl
set_option maxRecDepth 20000 in
theorem kw_1_236 : (.methodLink RX7 45 yJx4a65c_init_da8c8 : Cond) ∈ lw_good := lwg (lwT1 (List.mem_of_getElem? (i := 236) rfl)) rfl
set_option maxRecDepth 20000 in
theorem kw_1_237 : (.instanceMethod yJx4a65c_init_da8c8 : Cond) ∈ lw_good := lwg (lwT1 (List.mem_of_getElem? (i := 237) rfl)) rfl
set_option maxRecDepth 20000 in
theorem kw_1_238 : (.code yJx4a65c_init_da8c8 cJx4a65c_init_da8c8 1 none : Cond) ∈ lw_good := lwg (lwT1 (List.mem_of_getElem? (i := 238) rfl)) rfl
set_option maxRecDepth 20000 in
theorem kw_1_239 : (.methodLink RJx4a65c 1 yJxc12de_init_da8c8 : Cond) ∈ lw_good := lwg (lwT1 (List.mem_of_getElem? (i := 239) rfl)) rfl
set_option maxRecDepth 20000 in
theorem kw_2_0 : (.instanceMethod yJxc12de_init_da8c8 : Cond) ∈ lw_good := lwg (lwT2 (List.mem_of_getElem? (i := 0) rfl)) rfl
set_option maxRecDepth 20000 in
theorem kw_2_1 : (.code yJxc12de_init_da8c8 cJxc12de_init_da8c8 1 none : Cond) ∈ lw_good := lwg (lwT2 (List.mem_of_getElem? (i := 1) rfl)) rfl
set_option maxRecDepth 20000 in
theorem kw_2_2 : (.methodLink RJxc12de 1 yJxa1e45_init_da8c8 : Cond) ∈ lw_good := lwg (lwT2 (List.mem_of_getElem? (i := 2) rfl)) rfl
set_option maxRecDepth 20000 in
theorem kw_2_3 : (.instanceMethod yJxa1e45_init_da8c8 : Cond) ∈ lw_good := lwg (lwT2 (List.mem_of_getElem? (i := 3) rfl)) rfl
set_option maxRecDepth 20000 in
theorem kw_2_4 : (.code yJxa1e45_init_da8c8 cJxa1e45_init_da8c8 1 none : Cond) ∈ lw_good := lwg (lwT2 (List.mem_of_getElem? (i := 4) rfl)) rfl
set_option maxRecDepth 20000 in
theorem kw_2_5 : (.methodLink RJxa1e45 1 objectInit : Cond) ∈ lw_good := lwg (lwT2 (List.mem_of_getElem? (i := 5) rfl)) rfl
set_option maxRecDepth 20000 in
theorem kw_2_6 : (.fieldLink RJx4a65c 39 "java/util/ArrayList" "DEFAULTCAPACITY_EMPTY_ELEMENTDATA" "[Ljava/lang/Object;" : Cond) ∈ lw_good := lwg (lwT2 (List.mem_of_getElem? (i := 6) rfl)) rfl
set_option maxRecDepth 20000 in
theorem kw_2_8 : (.fieldLink RJx4a65c 9 "java/util/ArrayList" "elementData" "[Ljava/lang/Object;" : Cond) ∈ lw_good := lwg (lwT2 (List.mem_of_getElem? (i := 8) rfl)) rfl
set_option maxRecDepth 20000 in
theorem kw_2_9 : (.fieldLink RJx4a65c 48 "java/util/ArrayList" "size" "I" : Cond) ∈ lw_good := lwg (lwT2 (List.mem_of_getElem? (i := 9) rfl)) rfl
set_option maxRecDepth 20000 in
theorem kw_2_10 : (.fieldLink RJxc12de 7 "java/util/AbstractList" "modCount" "I" : Cond) ∈ lw_good := lwg (lwT2 (List.mem_of_getElem? (i := 10) rfl)) rfl
set_option maxRecDepth 20000 in
theorem kw_2_11 : (.fieldLink RJx4a65c 63 "java/util/ArrayList" "modCount" "I" : Cond) ∈ lw_good := lwg (lwT2 (List.mem_of_getElem? (i := 11) rfl)) rfl
set_option maxRecDepth 20000 in
theorem kw_2_12 : (.sameField "java/util/ArrayList" "java/util/AbstractList" "modCount" "I" : Cond) ∈ lw_good := lwg (lwT2 (List.mem_of_getElem? (i := 12) rfl)) rfl
set_option maxRecDepth 20000 in
theorem kw_2_13 : (.lays RJx4a65c "java/util/ArrayList" "elementData" "[Ljava/lang/Object;" : Cond) ∈ lw_good := lwg (lwT2 (List.mem_of_getElem? (i := 13) rfl)) rfl
set_option maxRecDepth 20000 in
theorem kw_2_15 : (.lays RJx4a65c "java/util/ArrayList" "size" "I" : Cond) ∈ lw_good := lwg (lwT2 (List.mem_of_getElem? (i := 15) rfl)) rfl
set_option maxRecDepth 20000 in
theorem kw_2_17 : (.lays RJx4a65c "java/util/AbstractList" "modCount" "I" : Cond) ∈ lw_good := lwg (lwT2 (List.mem_of_getElem? (i := 17) rfl)) rfl
set_option maxRecDepth 20000 in
theorem kw_2_20 : (.classLink RX7 50 RX0 : Cond) ∈ lw_good := lwg (lwT2 (List.mem_of_getElem? (i := 20) rfl)) rfl
set_option maxRecDepth 20000 in
theorem kw_2_21 : (.instantiable RX0 7 : Cond) ∈ lw_good := lwg (lwT2 (List.mem_of_getElem? (i := 21) rfl)) rfl
set_option maxRecDepth 20000 in
theorem kw_2_22 : (.methodLink RX7 52 yX0_init : Cond) ∈ lw_good := lwg (lwT2 (List.mem_of_getElem? (i := 22) rfl)) rfl
set_option maxRecDepth 20000 in
theorem kw_2_23 : (.instanceMethod yX0_init : Cond) ∈ lw_good := lwg (lwT2 (List.mem_of_getElem? (i := 23) rfl)) rfl
set_option maxRecDepth 20000 in
theorem kw_2_24 : (.code yX0_init cX0_init 4 none : Cond) ∈ lw_good := lwg (lwT2 (List.mem_of_getElem? (i := 24) rfl)) rfl
set_option maxRecDepth 20000 in
theorem kw_2_25 : (.methodLink RX0 3 objectInit : Cond) ∈ lw_good := lwg (lwT2 (List.mem_of_getElem? (i := 25) rfl)) rfl
set_option maxRecDepth 20000 in
theorem kw_2_26 : (.fieldLink RX0 9 "WalkingTown$Law" "from" "I" : Cond) ∈ lw_good := lwg (lwT2 (List.mem_of_getElem? (i := 26) rfl)) rfl
set_option maxRecDepth 20000 in
theorem kw_2_27 : (.fieldLink RX7 109 "WalkingTown$Law" "from" "I" : Cond) ∈ lw_good := lwg (lwT2 (List.mem_of_getElem? (i := 27) rfl)) rfl
set_option maxRecDepth 20000 in
theorem kw_2_28 : (.fieldLink RX0 15 "WalkingTown$Law" "kinds" "[I" : Cond) ∈ lw_good := lwg (lwT2 (List.mem_of_getElem? (i := 28) rfl)) rfl
set_option maxRecDepth 20000 in
theorem kw_2_29 : (.fieldLink RX3 70 "WalkingTown$Law" "kinds" "[I" : Cond) ∈ lw_good := lwg (lwT2 (List.mem_of_getElem? (i := 29) rfl)) rfl
set_option maxRecDepth 20000 in
theorem kw_2_30 : (.fieldLink RX0 19 "WalkingTown$Law" "values" "[I" : Cond) ∈ lw_good := lwg (lwT2 (List.mem_of_getElem? (i := 30) rfl)) rfl
set_option maxRecDepth 20000 in
theorem kw_2_31 : (.fieldLink RX3 79 "WalkingTown$Law" "values" "[I" : Cond) ∈ lw_good := lwg (lwT2 (List.mem_of_getElem? (i := 31) rfl)) rfl
set_option maxRecDepth 20000 in
theorem kw_2_32 : (.fieldLink RX7 144 "WalkingTown$Law" "values" "[I" : Cond) ∈ lw_good := lwg (lwT2 (List.mem_of_getElem? (i := 32) rfl)) rfl
set_option maxRecDepth 20000 in
theorem kw_2_33 : (.fieldLink RX1 288 "WalkingTown$Law" "values" "[I" : Cond) ∈ lw_good := lwg (lwT2 (List.mem_of_getElem? (i := 33) rfl)) rfl
set_option maxRecDepth 20000 in
theorem kw_2_34 : (.fieldLink RX0 22 "WalkingTown$Law" "ends" "[I" : Cond) ∈ lw_good := lwg (lwT2 (List.mem_of_getElem? (i := 34) rfl)) rfl
set_option maxRecDepth 20000 in
theorem kw_2_35 : (.fieldLink RX3 82 "WalkingTown$Law" "ends" "[I" : Cond) ∈ lw_good := lwg (lwT2 (List.mem_of_getElem? (i := 35) rfl)) rfl
set_option maxRecDepth 20000 in
theorem kw_2_36 : (.fieldLink RX0 25 "WalkingTown$Law" "acts" "[I" : Cond) ∈ lw_good := lwg (lwT2 (List.mem_of_getElem? (i := 36) rfl)) rfl
set_option maxRecDepth 20000 in
theorem kw_2_37 : (.fieldLink RX3 85 "WalkingTown$Law" "acts" "[I" : Cond) ∈ lw_good := lwg (lwT2 (List.mem_of_getElem? (i := 37) rfl)) rfl
set_option maxRecDepth 20000 in
theorem kw_2_38 : (.fieldLink RX0 28 "WalkingTown$Law" "asked" "[I" : Cond) ∈ lw_good := lwg (lwT2 (List.mem_of_getElem? (i := 38) rfl)) rfl
set_option maxRecDepth 20000 in
theorem kw_2_39 : (.fieldLink RX3 88 "WalkingTown$Law" "asked" "[I" : Cond) ∈ lw_good := lwg (lwT2 (List.mem_of_getElem? (i := 39) rfl)) rfl
set_option maxRecDepth 20000 in
theorem kw_2_40 : (.fieldLink RX0 31 "WalkingTown$Law" "numbers" "[I" : Cond) ∈ lw_good := lwg (lwT2 (List.mem_of_getElem? (i := 40) rfl)) rfl
set_option maxRecDepth 20000 in
theorem kw_2_41 : (.fieldLink RX3 91 "WalkingTown$Law" "numbers" "[I" : Cond) ∈ lw_good := lwg (lwT2 (List.mem_of_getElem? (i := 41) rfl)) rfl
set_option maxRecDepth 20000 in
theorem kw_2_42 : (.laysFinal RX0 "WalkingTown$Law" "from" "I" : Cond) ∈ lw_good := lwg (lwT2 (List.mem_of_getElem? (i := 42) rfl)) rfl
set_option maxRecDepth 20000 in
theorem kw_2_44 : (.laysFinal RX0 "WalkingTown$Law" "kinds" "[I" : Cond) ∈ lw_good := lwg (lwT2 (List.mem_of_getElem? (i := 44) rfl)) rfl
set_option maxRecDepth 20000 in
theorem kw_2_46 : (.laysFinal RX0 "WalkingTown$Law" "values" "[I" : Cond) ∈ lw_good := lwg (lwT2 (List.mem_of_getElem? (i := 46) rfl)) rfl
set_option maxRecDepth 20000 in
theorem kw_2_48 : (.laysFinal RX0 "WalkingTown$Law" "ends" "[I" : Cond) ∈ lw_good := lwg (lwT2 (List.mem_of_getElem? (i := 48) rfl)) rfl
set_option maxRecDepth 20000 in
theorem kw_2_50 : (.laysFinal RX0 "WalkingTown$Law" "acts" "[I" : Cond) ∈ lw_good := lwg (lwT2 (List.mem_of_getElem? (i := 50) rfl)) rfl
set_option maxRecDepth 20000 in
theorem kw_2_52 : (.laysFinal RX0 "WalkingTown$Law" "asked" "[I" : Cond) ∈ lw_good := lwg (lwT2 (List.mem_of_getElem? (i := 52) rfl)) rfl
set_option maxRecDepth 20000 in
theorem kw_2_54 : (.laysFinal RX0 "WalkingTown$Law" "numbers" "[I" : Cond) ∈ lw_good := lwg (lwT2 (List.mem_of_getElem? (i := 54) rfl)) rfl
set_option maxRecDepth 20000 in
theorem kw_2_57 : (.fieldLink RX7 12 "WalkingTown$Town" "roads" "LWalkingTown$Roads;" : Cond) ∈ lw_good := lwg (lwT2 (List.mem_of_getElem? (i := 57) rfl)) rfl
set_option maxRecDepth 20000 in
theorem kw_2_58 : (.fieldLink RX5 105 "WalkingTown$Town" "roads" "LWalkingTown$Roads;" : Cond) ∈ lw_good := lwg (lwT2 (List.mem_of_getElem? (i := 58) rfl)) rfl
set_option maxRecDepth 20000 in
theorem kw_2_59 : (.fieldLink RX11 60 "WalkingTown$Town" "roads" "LWalkingTown$Roads;" : Cond) ∈ lw_good := lwg (lwT2 (List.mem_of_getElem? (i := 59) rfl)) rfl
set_option maxRecDepth 20000 in
theorem kw_2_60 : (.fieldLink RX9 101 "WalkingTown$Town" "roads" "LWalkingTown$Roads;" : Cond) ∈ lw_good := lwg (lwT2 (List.mem_of_getElem? (i := 60) rfl)) rfl
set_option maxRecDepth 20000 in
theorem kw_2_61 : (.fieldLink RX1 199 "WalkingTown$Town" "roads" "LWalkingTown$Roads;" : Cond) ∈ lw_good := lwg (lwT2 (List.mem_of_getElem? (i := 61) rfl)) rfl
set_option maxRecDepth 20000 in
theorem kw_2_62 : (.fieldLink RX7 21 "WalkingTown$Town" "people" "LWalkingTown$People;" : Cond) ∈ lw_good := lwg (lwT2 (List.mem_of_getElem? (i := 62) rfl)) rfl
set_option maxRecDepth 20000 in
theorem kw_2_63 : (.fieldLink RX1 129 "WalkingTown$Town" "people" "LWalkingTown$People;" : Cond) ∈ lw_good := lwg (lwT2 (List.mem_of_getElem? (i := 63) rfl)) rfl
set_option maxRecDepth 20000 in
theorem kw_2_64 : (.fieldLink RX5 85 "WalkingTown$Town" "people" "LWalkingTown$People;" : Cond) ∈ lw_good := lwg (lwT2 (List.mem_of_getElem? (i := 64) rfl)) rfl
set_option maxRecDepth 20000 in
theorem kw_2_65 : (.fieldLink RX9 91 "WalkingTown$Town" "people" "LWalkingTown$People;" : Cond) ∈ lw_good := lwg (lwT2 (List.mem_of_getElem? (i := 65) rfl)) rfl
set_option maxRecDepth 20000 in
theorem kw_2_66 : (.fieldLink RX11 79 "WalkingTown$Town" "people" "LWalkingTown$People;" : Cond) ∈ lw_good := lwg (lwT2 (List.mem_of_getElem? (i := 66) rfl)) rfl
set_option maxRecDepth 20000 in
theorem kw_2_67 : (.fieldLink RX7 28 "WalkingTown$Town" "wheels" "LWalkingTown$Wheels;" : Cond) ∈ lw_good := lwg (lwT2 (List.mem_of_getElem? (i := 67) rfl)) rfl
set_option maxRecDepth 20000 in
theorem kw_2_68 : (.fieldLink RX5 65 "WalkingTown$Town" "wheels" "LWalkingTown$Wheels;" : Cond) ∈ lw_good := lwg (lwT2 (List.mem_of_getElem? (i := 68) rfl)) rfl
set_option maxRecDepth 20000 in
theorem kw_2_69 : (.fieldLink RX1 148 "WalkingTown$Town" "wheels" "LWalkingTown$Wheels;" : Cond) ∈ lw_good := lwg (lwT2 (List.mem_of_getElem? (i := 69) rfl)) rfl
set_option maxRecDepth 20000 in
theorem kw_2_70 : (.fieldLink RX11 101 "WalkingTown$Town" "wheels" "LWalkingTown$Wheels;" : Cond) ∈ lw_good := lwg (lwT2 (List.mem_of_getElem? (i := 70) rfl)) rfl
set_option maxRecDepth 20000 in
theorem kw_2_71 : (.fieldLink RX7 35 "WalkingTown$Town" "trips" "LWalkingTown$Trips;" : Cond) ∈ lw_good := lwg (lwT2 (List.mem_of_getElem? (i := 71) rfl)) rfl
set_option maxRecDepth 20000 in
theorem kw_2_72 : (.fieldLink RX9 54 "WalkingTown$Town" "trips" "LWalkingTown$Trips;" : Cond) ∈ lw_good := lwg (lwT2 (List.mem_of_getElem? (i := 72) rfl)) rfl
set_option maxRecDepth 20000 in
theorem kw_2_73 : (.fieldLink RX1 157 "WalkingTown$Town" "trips" "LWalkingTown$Trips;" : Cond) ∈ lw_good := lwg (lwT2 (List.mem_of_getElem? (i := 73) rfl)) rfl
set_option maxRecDepth 20000 in
theorem kw_2_74 : (.fieldLink RX11 116 "WalkingTown$Town" "trips" "LWalkingTown$Trips;" : Cond) ∈ lw_good := lwg (lwT2 (List.mem_of_getElem? (i := 74) rfl)) rfl
set_option maxRecDepth 20000 in
theorem kw_2_75 : (.fieldLink RX7 39 "WalkingTown$Town" "corners" "[I" : Cond) ∈ lw_good := lwg (lwT2 (List.mem_of_getElem? (i := 75) rfl)) rfl
set_option maxRecDepth 20000 in
theorem kw_2_76 : (.fieldLink RX5 112 "WalkingTown$Town" "corners" "[I" : Cond) ∈ lw_good := lwg (lwT2 (List.mem_of_getElem? (i := 76) rfl)) rfl
set_option maxRecDepth 20000 in
theorem kw_2_77 : (.fieldLink RX9 131 "WalkingTown$Town" "corners" "[I" : Cond) ∈ lw_good := lwg (lwT2 (List.mem_of_getElem? (i := 77) rfl)) rfl
set_option maxRecDepth 20000 in
theorem kw_2_78 : (.fieldLink RX1 179 "WalkingTown$Town" "corners" "[I" : Cond) ∈ lw_good := lwg (lwT2 (List.mem_of_getElem? (i := 78) rfl)) rfl
set_option maxRecDepth 20000 in
theorem kw_2_79 : (.fieldLink RX11 92 "WalkingTown$Town" "corners" "[I" : Cond) ∈ lw_good := lwg (lwT2 (List.mem_of_getElem? (i := 79) rfl)) rfl
set_option maxRecDepth 20000 in
theorem kw_2_80 : (.fieldLink RX7 65 "WalkingTown$Town" "stops" "I" : Cond) ∈ lw_good := lwg (lwT2 (List.mem_of_getElem? (i := 80) rfl)) rfl
set_option maxRecDepth 20000 in
theorem kw_2_81 : (.fieldLink RX5 102 "WalkingTown$Town" "stops" "I" : Cond) ∈ lw_good := lwg (lwT2 (List.mem_of_getElem? (i := 81) rfl)) rfl
set_option maxRecDepth 20000 in
theorem kw_2_82 : (.fieldLink RX11 89 "WalkingTown$Town" "stops" "I" : Cond) ∈ lw_good := lwg (lwT2 (List.mem_of_getElem? (i := 82) rfl)) rfl
set_option maxRecDepth 20000 in
theorem kw_2_83 : (.fieldLink RX7 46 "WalkingTown$Town" "laws" "Ljava/util/ArrayList;" : Cond) ∈ lw_good := lwg (lwT2 (List.mem_of_getElem? (i := 83) rfl)) rfl
set_option maxRecDepth 20000 in
theorem kw_2_84 : (.fieldLink RX11 154 "WalkingTown$Town" "laws" "Ljava/util/ArrayList;" : Cond) ∈ lw_good := lwg (lwT2 (List.mem_of_getElem? (i := 84) rfl)) rfl
set_option maxRecDepth 20000 in
theorem kw_2_85 : (.fieldLink RX1 24 "WalkingTown$Town" "noLaw" "LWalkingTown$Law;" : Cond) ∈ lw_good := lwg (lwT2 (List.mem_of_getElem? (i := 85) rfl)) rfl
set_option maxRecDepth 20000 in
theorem kw_2_86 : (.fieldLink RX7 55 "WalkingTown$Town" "noLaw" "LWalkingTown$Law;" : Cond) ∈ lw_good := lwg (lwT2 (List.mem_of_getElem? (i := 86) rfl)) rfl
set_option maxRecDepth 20000 in
theorem kw_2_87 : (.fieldLink RX7 59 "WalkingTown$Town" "drops" "[I" : Cond) ∈ lw_good := lwg (lwT2 (List.mem_of_getElem? (i := 87) rfl)) rfl
set_option maxRecDepth 20000 in
theorem kw_2_88 : (.fieldLink RX11 134 "WalkingTown$Town" "drops" "[I" : Cond) ∈ lw_good := lwg (lwT2 (List.mem_of_getElem? (i := 88) rfl)) rfl
set_option maxRecDepth 20000 in
theorem kw_2_89 : (.fieldLink RX7 69 "WalkingTown$Town" "wetDays" "I" : Cond) ∈ lw_good := lwg (lwT2 (List.mem_of_getElem? (i := 89) rfl)) rfl
set_option maxRecDepth 20000 in
theorem kw_2_90 : (.fieldLink RX11 137 "WalkingTown$Town" "wetDays" "I" : Cond) ∈ lw_good := lwg (lwT2 (List.mem_of_getElem? (i := 90) rfl)) rfl
set_option maxRecDepth 20000 in
theorem kw_2_91 : (.fieldLink RX7 62 "WalkingTown$Town" "facts" "[I" : Cond) ∈ lw_good := lwg (lwT2 (List.mem_of_getElem? (i := 91) rfl)) rfl
set_option maxRecDepth 20000 in
theorem kw_2_92 : (.fieldLink RX1 281 "WalkingTown$Town" "facts" "[I" : Cond) ∈ lw_good := lwg (lwT2 (List.mem_of_getElem? (i := 92) rfl)) rfl
set_option maxRecDepth 20000 in
theorem kw_2_93 : (.fieldLink RX7 137 "WalkingTown$Town" "line" "I" : Cond) ∈ lw_good := lwg (lwT2 (List.mem_of_getElem? (i := 93) rfl)) rfl
set_option maxRecDepth 20000 in
theorem kw_2_94 : (.fieldLink RX11 197 "WalkingTown$Town" "line" "I" : Cond) ∈ lw_good := lwg (lwT2 (List.mem_of_getElem? (i := 94) rfl)) rfl
set_option maxRecDepth 20000 in
theorem kw_2_95 : (.fieldLink RX9 41 "WalkingTown$Town" "today" "I" : Cond) ∈ lw_good := lwg (lwT2 (List.mem_of_getElem? (i := 95) rfl)) rfl
set_option maxRecDepth 20000 in
theorem kw_2_96 : (.fieldLink RX5 72 "WalkingTown$Town" "today" "I" : Cond) ∈ lw_good := lwg (lwT2 (List.mem_of_getElem? (i := 96) rfl)) rfl
set_option maxRecDepth 20000 in
theorem kw_2_97 : (.fieldLink RX11 57 "WalkingTown$Town" "today" "I" : Cond) ∈ lw_good := lwg (lwT2 (List.mem_of_getElem? (i := 97) rfl)) rfl
set_option maxRecDepth 20000 in
theorem kw_2_98 : (.fieldLink RX1 169 "WalkingTown$Town" "today" "I" : Cond) ∈ lw_good := lwg (lwT2 (List.mem_of_getElem? (i := 98) rfl)) rfl
set_option maxRecDepth 20000 in
theorem kw_2_99 : (.fieldLink RX7 111 "WalkingTown$Town" "today" "I" : Cond) ∈ lw_good := lwg (lwT2 (List.mem_of_getElem? (i := 99) rfl)) rfl
set_option maxRecDepth 20000 in
theorem kw_2_100 : (.fieldLink RX1 90 "WalkingTown$Town" "fund" "I" : Cond) ∈ lw_good := lwg (lwT2 (List.mem_of_getElem? (i := 100) rfl)) rfl
set_option maxRecDepth 20000 in
theorem kw_2_101 : (.fieldLink RX11 145 "WalkingTown$Town" "fund" "I" : Cond) ∈ lw_good := lwg (lwT2 (List.mem_of_getElem? (i := 101) rfl)) rfl
set_option maxRecDepth 20000 in
theorem kw_2_102 : (.laysFinal RX7 "WalkingTown$Town" "roads" "LWalkingTown$Roads;" : Cond) ∈ lw_good := lwg (lwT2 (List.mem_of_getElem? (i := 102) rfl)) rfl
set_option maxRecDepth 20000 in
theorem kw_2_104 : (.laysFinal RX7 "WalkingTown$Town" "people" "LWalkingTown$People;" : Cond) ∈ lw_good := lwg (lwT2 (List.mem_of_getElem? (i := 104) rfl)) rfl
set_option maxRecDepth 20000 in
theorem kw_2_106 : (.laysFinal RX7 "WalkingTown$Town" "wheels" "LWalkingTown$Wheels;" : Cond) ∈ lw_good := lwg (lwT2 (List.mem_of_getElem? (i := 106) rfl)) rfl
set_option maxRecDepth 20000 in
theorem kw_2_108 : (.laysFinal RX7 "WalkingTown$Town" "trips" "LWalkingTown$Trips;" : Cond) ∈ lw_good := lwg (lwT2 (List.mem_of_getElem? (i := 108) rfl)) rfl
set_option maxRecDepth 20000 in
theorem kw_2_110 : (.laysFinal RX7 "WalkingTown$Town" "corners" "[I" : Cond) ∈ lw_good := lwg (lwT2 (List.mem_of_getElem? (i := 110) rfl)) rfl
set_option maxRecDepth 20000 in
theorem kw_2_112 : (.lays RX7 "WalkingTown$Town" "stops" "I" : Cond) ∈ lw_good := lwg (lwT2 (List.mem_of_getElem? (i := 112) rfl)) rfl
set_option maxRecDepth 20000 in
theorem kw_2_114 : (.laysFinal RX7 "WalkingTown$Town" "laws" "Ljava/util/ArrayList;" : Cond) ∈ lw_good := lwg (lwT2 (List.mem_of_getElem? (i := 114) rfl)) rfl
set_option maxRecDepth 20000 in
theorem kw_2_116 : (.laysFinal RX7 "WalkingTown$Town" "noLaw" "LWalkingTown$Law;" : Cond) ∈ lw_good := lwg (lwT2 (List.mem_of_getElem? (i := 116) rfl)) rfl
set_option maxRecDepth 20000 in
theorem kw_2_118 : (.laysFinal RX7 "WalkingTown$Town" "drops" "[I" : Cond) ∈ lw_good := lwg (lwT2 (List.mem_of_getElem? (i := 118) rfl)) rfl
set_option maxRecDepth 20000 in
theorem kw_2_120 : (.lays RX7 "WalkingTown$Town" "wetDays" "I" : Cond) ∈ lw_good := lwg (lwT2 (List.mem_of_getElem? (i := 120) rfl)) rfl
set_option maxRecDepth 20000 in
theorem kw_2_122 : (.laysFinal RX7 "WalkingTown$Town" "facts" "[I" : Cond) ∈ lw_good := lwg (lwT2 (List.mem_of_getElem? (i := 122) rfl)) rfl
set_option maxRecDepth 20000 in
theorem kw_2_124 : (.lays RX7 "WalkingTown$Town" "line" "I" : Cond) ∈ lw_good := lwg (lwT2 (List.mem_of_getElem? (i := 124) rfl)) rfl
set_option maxRecDepth 20000 in
theorem kw_2_126 : (.lays RX7 "WalkingTown$Town" "today" "I" : Cond) ∈ lw_good := lwg (lwT2 (List.mem_of_getElem? (i := 126) rfl)) rfl
set_option maxRecDepth 20000 in
theorem kw_2_128 : (.lays RX7 "WalkingTown$Town" "fund" "I" : Cond) ∈ lw_good := lwg (lwT2 (List.mem_of_getElem? (i := 128) rfl)) rfl
set_option maxRecDepth 20000 in
theorem kw_2_131 : (.classLink RX11 20 RX3 : Cond) ∈ lw_good := lwg (lwT2 (List.mem_of_getElem? (i := 131) rfl)) rfl
set_option maxRecDepth 20000 in
theorem kw_2_132 : (.instantiable RX3 12 : Cond) ∈ lw_good := lwg (lwT2 (List.mem_of_getElem? (i := 132) rfl)) rfl
set_option maxRecDepth 20000 in
theorem kw_2_133 : (.methodLink RX11 22 yX3_init : Cond) ∈ lw_good := lwg (lwT2 (List.mem_of_getElem? (i := 133) rfl)) rfl
set_option maxRecDepth 20000 in
theorem kw_2_134 : (.instanceMethod yX3_init : Cond) ∈ lw_good := lwg (lwT2 (List.mem_of_getElem? (i := 134) rfl)) rfl
set_option maxRecDepth 20000 in
theorem kw_2_135 : (.code yX3_init cX3_init 1 none : Cond) ∈ lw_good := lwg (lwT2 (List.mem_of_getElem? (i := 135) rfl)) rfl
set_option maxRecDepth 20000 in
theorem kw_2_136 : (.methodLink RX3 3 objectInit : Cond) ∈ lw_good := lwg (lwT2 (List.mem_of_getElem? (i := 136) rfl)) rfl
set_option maxRecDepth 20000 in
theorem kw_2_137 : (.classLink RX3 9 RX6 : Cond) ∈ lw_good := lwg (lwT2 (List.mem_of_getElem? (i := 137) rfl)) rfl
set_option maxRecDepth 20000 in
theorem kw_2_139 : (.classLink RX3 22 RX0 : Cond) ∈ lw_good := lwg (lwT2 (List.mem_of_getElem? (i := 139) rfl)) rfl
set_option maxRecDepth 20000 in
theorem kw_2_140 : (.methodLink RX3 24 yX0_init : Cond) ∈ lw_good := lwg (lwT2 (List.mem_of_getElem? (i := 140) rfl)) rfl
set_option maxRecDepth 20000 in
theorem kw_2_141 : (.fieldLink RX3 11 "WalkingTown$Reader" "tokens" "[LWalkingTown$Token;" : Cond) ∈ lw_good := lwg (lwT2 (List.mem_of_getElem? (i := 141) rfl)) rfl
set_option maxRecDepth 20000 in
theorem kw_2_142 : (.fieldLink RX3 15 "WalkingTown$Reader" "starts" "[I" : Cond) ∈ lw_good := lwg (lwT2 (List.mem_of_getElem? (i := 142) rfl)) rfl
set_option maxRecDepth 20000 in
theorem kw_2_143 : (.fieldLink RX3 19 "WalkingTown$Reader" "numbers" "[I" : Cond) ∈ lw_good := lwg (lwT2 (List.mem_of_getElem? (i := 143) rfl)) rfl
set_option maxRecDepth 20000 in
theorem kw_2_144 : (.fieldLink RX3 98 "WalkingTown$Reader" "tokenCount" "I" : Cond) ∈ lw_good := lwg (lwT2 (List.mem_of_getElem? (i := 144) rfl)) rfl
set_option maxRecDepth 20000 in
theorem kw_2_145 : (.fieldLink RX3 41 "WalkingTown$Reader" "place" "I" : Cond) ∈ lw_good := lwg (lwT2 (List.mem_of_getElem? (i := 145) rfl)) rfl
set_option maxRecDepth 20000 in
theorem kw_2_146 : (.fieldLink RX3 27 "WalkingTown$Reader" "draft" "LWalkingTown$Law;" : Cond) ∈ lw_good := lwg (lwT2 (List.mem_of_getElem? (i := 146) rfl)) rfl
set_option maxRecDepth 20000 in
theorem kw_2_147 : (.fieldLink RX3 31 "WalkingTown$Reader" "lines" "I" : Cond) ∈ lw_good := lwg (lwT2 (List.mem_of_getElem? (i := 147) rfl)) rfl
set_option maxRecDepth 20000 in
theorem kw_2_148 : (.fieldLink RX11 172 "WalkingTown$Reader" "lines" "I" : Cond) ∈ lw_good := lwg (lwT2 (List.mem_of_getElem? (i := 148) rfl)) rfl
set_option maxRecDepth 20000 in
theorem kw_2_149 : (.fieldLink RX3 35 "WalkingTown$Reader" "codes" "I" : Cond) ∈ lw_good := lwg (lwT2 (List.mem_of_getElem? (i := 149) rfl)) rfl
set_option maxRecDepth 20000 in
theorem kw_2_150 : (.fieldLink RX3 38 "WalkingTown$Reader" "ones" "I" : Cond) ∈ lw_good := lwg (lwT2 (List.mem_of_getElem? (i := 150) rfl)) rfl
set_option maxRecDepth 20000 in
theorem kw_2_151 : (.fieldLink RX3 44 "WalkingTown$Reader" "dockTold" "Z" : Cond) ∈ lw_good := lwg (lwT2 (List.mem_of_getElem? (i := 151) rfl)) rfl
set_option maxRecDepth 20000 in
theorem kw_2_152 : (.fieldLink RX3 48 "WalkingTown$Reader" "faultKind" "I" : Cond) ∈ lw_good := lwg (lwT2 (List.mem_of_getElem? (i := 152) rfl)) rfl
set_option maxRecDepth 20000 in
theorem kw_2_153 : (.fieldLink RX11 168 "WalkingTown$Reader" "faultKind" "I" : Cond) ∈ lw_good := lwg (lwT2 (List.mem_of_getElem? (i := 153) rfl)) rfl
set_option maxRecDepth 20000 in
theorem kw_2_154 : (.fieldLink RX3 51 "WalkingTown$Reader" "faultPlace" "I" : Cond) ∈ lw_good := lwg (lwT2 (List.mem_of_getElem? (i := 154) rfl)) rfl
set_option maxRecDepth 20000 in
theorem kw_2_155 : (.fieldLink RX11 175 "WalkingTown$Reader" "faultPlace" "I" : Cond) ∈ lw_good := lwg (lwT2 (List.mem_of_getElem? (i := 155) rfl)) rfl
set_option maxRecDepth 20000 in
theorem kw_2_156 : (.laysFinal RX3 "WalkingTown$Reader" "tokens" "[LWalkingTown$Token;" : Cond) ∈ lw_good := lwg (lwT2 (List.mem_of_getElem? (i := 156) rfl)) rfl
set_option maxRecDepth 20000 in
theorem kw_2_158 : (.laysFinal RX3 "WalkingTown$Reader" "starts" "[I" : Cond) ∈ lw_good := lwg (lwT2 (List.mem_of_getElem? (i := 158) rfl)) rfl
set_option maxRecDepth 20000 in
theorem kw_2_160 : (.laysFinal RX3 "WalkingTown$Reader" "numbers" "[I" : Cond) ∈ lw_good := lwg (lwT2 (List.mem_of_getElem? (i := 160) rfl)) rfl
set_option maxRecDepth 20000 in
theorem kw_2_162 : (.lays RX3 "WalkingTown$Reader" "tokenCount" "I" : Cond) ∈ lw_good := lwg (lwT2 (List.mem_of_getElem? (i := 162) rfl)) rfl
set_option maxRecDepth 20000 in
theorem kw_2_164 : (.lays RX3 "WalkingTown$Reader" "place" "I" : Cond) ∈ lw_good := lwg (lwT2 (List.mem_of_getElem? (i := 164) rfl)) rfl
set_option maxRecDepth 20000 in
theorem kw_2_166 : (.laysFinal RX3 "WalkingTown$Reader" "draft" "LWalkingTown$Law;" : Cond) ∈ lw_good := lwg (lwT2 (List.mem_of_getElem? (i := 166) rfl)) rfl
set_option maxRecDepth 20000 in
theorem kw_2_168 : (.lays RX3 "WalkingTown$Reader" "lines" "I" : Cond) ∈ lw_good := lwg (lwT2 (List.mem_of_getElem? (i := 168) rfl)) rfl
set_option maxRecDepth 20000 in
theorem kw_2_170 : (.lays RX3 "WalkingTown$Reader" "codes" "I" : Cond) ∈ lw_good := lwg (lwT2 (List.mem_of_getElem? (i := 170) rfl)) rfl
set_option maxRecDepth 20000 in
theorem kw_2_172 : (.lays RX3 "WalkingTown$Reader" "ones" "I" : Cond) ∈ lw_good := lwg (lwT2 (List.mem_of_getElem? (i := 172) rfl)) rfl
set_option maxRecDepth 20000 in
theorem kw_2_174 : (.lays RX3 "WalkingTown$Reader" "dockTold" "Z" : Cond) ∈ lw_good := lwg (lwT2 (List.mem_of_getElem? (i := 174) rfl)) rfl
set_option maxRecDepth 20000 in
theorem kw_2_176 : (.lays RX3 "WalkingTown$Reader" "faultKind" "I" : Cond) ∈ lw_good := lwg (lwT2 (List.mem_of_getElem? (i := 176) rfl)) rfl
set_option maxRecDepth 20000 in
theorem kw_2_178 : (.lays RX3 "WalkingTown$Reader" "faultPlace" "I" : Cond) ∈ lw_good := lwg (lwT2 (List.mem_of_getElem? (i := 178) rfl)) rfl
set_option maxRecDepth 20000 in
theorem kw_2_181 : (.classLink RX11 27 RX1 : Cond) ∈ lw_good := lwg (lwT2 (List.mem_of_getElem? (i := 181) rfl)) rfl
set_option maxRecDepth 20000 in
theorem kw_2_182 : (.instantiable RX1 19 : Cond) ∈ lw_good := lwg (lwT2 (List.mem_of_getElem? (i := 182) rfl)) rfl
set_option maxRecDepth 20000 in
theorem kw_2_183 : (.methodLink RX11 29 yX1_init : Cond) ∈ lw_good := lwg (lwT2 (List.mem_of_getElem? (i := 183) rfl)) rfl
set_option maxRecDepth 20000 in
theorem kw_2_184 : (.instanceMethod yX1_init : Cond) ∈ lw_good := lwg (lwT2 (List.mem_of_getElem? (i := 184) rfl)) rfl
set_option maxRecDepth 20000 in
theorem kw_2_185 : (.code yX1_init cX1_init 2 none : Cond) ∈ lw_good := lwg (lwT2 (List.mem_of_getElem? (i := 185) rfl)) rfl
set_option maxRecDepth 20000 in
theorem kw_2_186 : (.methodLink RX1 3 objectInit : Cond) ∈ lw_good := lwg (lwT2 (List.mem_of_getElem? (i := 186) rfl)) rfl
set_option maxRecDepth 20000 in
theorem kw_2_187 : (.classLink RX1 15 RX9 : Cond) ∈ lw_good := lwg (lwT2 (List.mem_of_getElem? (i := 187) rfl)) rfl
set_option maxRecDepth 20000 in
theorem kw_2_188 : (.instantiable RX9 9 : Cond) ∈ lw_good := lwg (lwT2 (List.mem_of_getElem? (i := 188) rfl)) rfl
set_option maxRecDepth 20000 in
theorem kw_2_189 : (.methodLink RX1 17 yX9_init : Cond) ∈ lw_good := lwg (lwT2 (List.mem_of_getElem? (i := 189) rfl)) rfl
set_option maxRecDepth 20000 in
theorem kw_2_190 : (.instanceMethod yX9_init : Cond) ∈ lw_good := lwg (lwT2 (List.mem_of_getElem? (i := 190) rfl)) rfl
set_option maxRecDepth 20000 in
theorem kw_2_191 : (.code yX9_init cX9_init 2 none : Cond) ∈ lw_good := lwg (lwT2 (List.mem_of_getElem? (i := 191) rfl)) rfl
set_option maxRecDepth 20000 in
theorem kw_2_192 : (.methodLink RX9 3 objectInit : Cond) ∈ lw_good := lwg (lwT2 (List.mem_of_getElem? (i := 192) rfl)) rfl
set_option maxRecDepth 20000 in
theorem kw_2_193 : (.fieldLink RX9 9 "WalkingTown$Ways" "town" "LWalkingTown$Town;" : Cond) ∈ lw_good := lwg (lwT2 (List.mem_of_getElem? (i := 193) rfl)) rfl
set_option maxRecDepth 20000 in
theorem kw_2_194 : (.fieldLink RX9 51 "WalkingTown$Ways" "size" "I" : Cond) ∈ lw_good := lwg (lwT2 (List.mem_of_getElem? (i := 194) rfl)) rfl
set_option maxRecDepth 20000 in
theorem kw_2_195 : (.fieldLink RX9 17 "WalkingTown$Ways" "trip" "[I" : Cond) ∈ lw_good := lwg (lwT2 (List.mem_of_getElem? (i := 195) rfl)) rfl
set_option maxRecDepth 20000 in
theorem kw_2_196 : (.fieldLink RX9 21 "WalkingTown$Ways" "comes" "[I" : Cond) ∈ lw_good := lwg (lwT2 (List.mem_of_getElem? (i := 196) rfl)) rfl
set_option maxRecDepth 20000 in
theorem kw_2_197 : (.fieldLink RX9 24 "WalkingTown$Ways" "laterHere" "[I" : Cond) ∈ lw_good := lwg (lwT2 (List.mem_of_getElem? (i := 197) rfl)) rfl
set_option maxRecDepth 20000 in
theorem kw_2_198 : (.fieldLink RX9 27 "WalkingTown$Ways" "onward" "[I" : Cond) ∈ lw_good := lwg (lwT2 (List.mem_of_getElem? (i := 198) rfl)) rfl
set_option maxRecDepth 20000 in
theorem kw_2_199 : (.fieldLink RX9 30 "WalkingTown$Ways" "atWork" "[I" : Cond) ∈ lw_good := lwg (lwT2 (List.mem_of_getElem? (i := 199) rfl)) rfl
set_option maxRecDepth 20000 in
theorem kw_2_200 : (.fieldLink RX9 33 "WalkingTown$Ways" "best" "[I" : Cond) ∈ lw_good := lwg (lwT2 (List.mem_of_getElem? (i := 200) rfl)) rfl
set_option maxRecDepth 20000 in
theorem kw_2_201 : (.fieldLink RX9 38 "WalkingTown$Ways" "pace" "[I" : Cond) ∈ lw_good := lwg (lwT2 (List.mem_of_getElem? (i := 201) rfl)) rfl
set_option maxRecDepth 20000 in
theorem kw_2_202 : (.laysFinal RX9 "WalkingTown$Ways" "town" "LWalkingTown$Town;" : Cond) ∈ lw_good := lwg (lwT2 (List.mem_of_getElem? (i := 202) rfl)) rfl
set_option maxRecDepth 20000 in
theorem kw_2_204 : (.lays RX9 "WalkingTown$Ways" "size" "I" : Cond) ∈ lw_good := lwg (lwT2 (List.mem_of_getElem? (i := 204) rfl)) rfl
set_option maxRecDepth 20000 in
theorem kw_2_206 : (.laysFinal RX9 "WalkingTown$Ways" "trip" "[I" : Cond) ∈ lw_good := lwg (lwT2 (List.mem_of_getElem? (i := 206) rfl)) rfl
set_option maxRecDepth 20000 in
theorem kw_2_208 : (.laysFinal RX9 "WalkingTown$Ways" "comes" "[I" : Cond) ∈ lw_good := lwg (lwT2 (List.mem_of_getElem? (i := 208) rfl)) rfl
set_option maxRecDepth 20000 in
theorem kw_2_210 : (.laysFinal RX9 "WalkingTown$Ways" "laterHere" "[I" : Cond) ∈ lw_good := lwg (lwT2 (List.mem_of_getElem? (i := 210) rfl)) rfl
set_option maxRecDepth 20000 in
theorem kw_2_212 : (.laysFinal RX9 "WalkingTown$Ways" "onward" "[I" : Cond) ∈ lw_good := lwg (lwT2 (List.mem_of_getElem? (i := 212) rfl)) rfl
set_option maxRecDepth 20000 in
theorem kw_2_214 : (.laysFinal RX9 "WalkingTown$Ways" "atWork" "[I" : Cond) ∈ lw_good := lwg (lwT2 (List.mem_of_getElem? (i := 214) rfl)) rfl
set_option maxRecDepth 20000 in
theorem kw_2_216 : (.laysFinal RX9 "WalkingTown$Ways" "best" "[I" : Cond) ∈ lw_good := lwg (lwT2 (List.mem_of_getElem? (i := 216) rfl)) rfl
set_option maxRecDepth 20000 in
theorem kw_2_218 : (.laysFinal RX9 "WalkingTown$Ways" "pace" "[I" : Cond) ∈ lw_good := lwg (lwT2 (List.mem_of_getElem? (i := 218) rfl)) rfl
set_option maxRecDepth 20000 in
theorem kw_2_221 : (.fieldLink RX1 9 "WalkingTown$Morning" "town" "LWalkingTown$Town;" : Cond) ∈ lw_good := lwg (lwT2 (List.mem_of_getElem? (i := 221) rfl)) rfl
set_option maxRecDepth 20000 in
theorem kw_2_222 : (.fieldLink RX1 20 "WalkingTown$Morning" "ways" "LWalkingTown$Ways;" : Cond) ∈ lw_good := lwg (lwT2 (List.mem_of_getElem? (i := 222) rfl)) rfl
set_option maxRecDepth 20000 in
theorem kw_2_223 : (.fieldLink RX1 30 "WalkingTown$Morning" "law" "LWalkingTown$Law;" : Cond) ∈ lw_good := lwg (lwT2 (List.mem_of_getElem? (i := 223) rfl)) rfl
set_option maxRecDepth 20000 in
theorem kw_2_224 : (.fieldLink RX1 82 "WalkingTown$Morning" "leftOut" "I" : Cond) ∈ lw_good := lwg (lwT2 (List.mem_of_getElem? (i := 224) rfl)) rfl
set_option maxRecDepth 20000 in
theorem kw_2_225 : (.fieldLink RX1 93 "WalkingTown$Morning" "fund" "I" : Cond) ∈ lw_good := lwg (lwT2 (List.mem_of_getElem? (i := 225) rfl)) rfl
set_option maxRecDepth 20000 in
theorem kw_2_226 : (.fieldLink RX1 35 "WalkingTown$Morning" "purse" "[I" : Cond) ∈ lw_good := lwg (lwT2 (List.mem_of_getElem? (i := 226) rfl)) rfl
set_option maxRecDepth 20000 in
theorem kw_2_227 : (.fieldLink RX1 39 "WalkingTown$Morning" "shoes" "[I" : Cond) ∈ lw_good := lwg (lwT2 (List.mem_of_getElem? (i := 227) rfl)) rfl
set_option maxRecDepth 20000 in
theorem kw_2_228 : (.fieldLink RX1 42 "WalkingTown$Morning" "came" "[I" : Cond) ∈ lw_good := lwg (lwT2 (List.mem_of_getElem? (i := 228) rfl)) rfl
set_option maxRecDepth 20000 in
theorem kw_2_229 : (.fieldLink RX1 45 "WalkingTown$Morning" "walked" "[I" : Cond) ∈ lw_good := lwg (lwT2 (List.mem_of_getElem? (i := 229) rfl)) rfl
set_option maxRecDepth 20000 in
theorem kw_2_230 : (.fieldLink RX1 48 "WalkingTown$Morning" "rides" "[I" : Cond) ∈ lw_good := lwg (lwT2 (List.mem_of_getElem? (i := 230) rfl)) rfl
set_option maxRecDepth 20000 in
theorem kw_2_231 : (.fieldLink RX1 51 "WalkingTown$Morning" "waitsFor" "[I" : Cond) ∈ lw_good := lwg (lwT2 (List.mem_of_getElem? (i := 231) rfl)) rfl
set_option maxRecDepth 20000 in
theorem kw_2_232 : (.fieldLink RX1 54 "WalkingTown$Morning" "inside" "[I" : Cond) ∈ lw_good := lwg (lwT2 (List.mem_of_getElem? (i := 232) rfl)) rfl
set_option maxRecDepth 20000 in
theorem kw_2_233 : (.fieldLink RX1 59 "WalkingTown$Morning" "coin" "[I" : Cond) ∈ lw_good := lwg (lwT2 (List.mem_of_getElem? (i := 233) rfl)) rfl
set_option maxRecDepth 20000 in
theorem kw_2_234 : (.fieldLink RX1 62 "WalkingTown$Morning" "stopped" "[I" : Cond) ∈ lw_good := lwg (lwT2 (List.mem_of_getElem? (i := 234) rfl)) rfl
set_option maxRecDepth 20000 in
theorem kw_2_235 : (.fieldLink RX1 65 "WalkingTown$Morning" "gone" "[I" : Cond) ∈ lw_good := lwg (lwT2 (List.mem_of_getElem? (i := 235) rfl)) rfl
set_option maxRecDepth 20000 in
theorem kw_2_236 : (.fieldLink RX1 68 "WalkingTown$Morning" "at" "[I" : Cond) ∈ lw_good := lwg (lwT2 (List.mem_of_getElem? (i := 236) rfl)) rfl
set_option maxRecDepth 20000 in
theorem kw_2_237 : (.fieldLink RX1 71 "WalkingTown$Morning" "comes" "[I" : Cond) ∈ lw_good := lwg (lwT2 (List.mem_of_getElem? (i := 237) rfl)) rfl
set_option maxRecDepth 20000 in
theorem kw_2_238 : (.fieldLink RX1 76 "WalkingTown$Morning" "left" "[I" : Cond) ∈ lw_good := lwg (lwT2 (List.mem_of_getElem? (i := 238) rfl)) rfl
set_option maxRecDepth 20000 in
theorem kw_2_239 : (.fieldLink RX1 79 "WalkingTown$Morning" "busy" "[I" : Cond) ∈ lw_good := lwg (lwT2 (List.mem_of_getElem? (i := 239) rfl)) rfl
set_option maxRecDepth 20000 in
theorem kw_3_0 : (.laysFinal RX1 "WalkingTown$Morning" "town" "LWalkingTown$Town;" : Cond) ∈ lw_good := lwg (lwT3 (List.mem_of_getElem? (i := 0) rfl)) rfl
set_option maxRecDepth 20000 in
theorem kw_3_2 : (.laysFinal RX1 "WalkingTown$Morning" "ways" "LWalkingTown$Ways;" : Cond) ∈ lw_good := lwg (lwT3 (List.mem_of_getElem? (i := 2) rfl)) rfl
set_option maxRecDepth 20000 in
theorem kw_3_4 : (.lays RX1 "WalkingTown$Morning" "law" "LWalkingTown$Law;" : Cond) ∈ lw_good := lwg (lwT3 (List.mem_of_getElem? (i := 4) rfl)) rfl
set_option maxRecDepth 20000 in
theorem kw_3_6 : (.lays RX1 "WalkingTown$Morning" "leftOut" "I" : Cond) ∈ lw_good := lwg (lwT3 (List.mem_of_getElem? (i := 6) rfl)) rfl
set_option maxRecDepth 20000 in
theorem kw_3_8 : (.lays RX1 "WalkingTown$Morning" "fund" "I" : Cond) ∈ lw_good := lwg (lwT3 (List.mem_of_getElem? (i := 8) rfl)) rfl
set_option maxRecDepth 20000 in
theorem kw_3_10 : (.laysFinal RX1 "WalkingTown$Morning" "purse" "[I" : Cond) ∈ lw_good := lwg (lwT3 (List.mem_of_getElem? (i := 10) rfl)) rfl
set_option maxRecDepth 20000 in
theorem kw_3_12 : (.laysFinal RX1 "WalkingTown$Morning" "shoes" "[I" : Cond) ∈ lw_good := lwg (lwT3 (List.mem_of_getElem? (i := 12) rfl)) rfl
set_option maxRecDepth 20000 in
theorem kw_3_14 : (.laysFinal RX1 "WalkingTown$Morning" "came" "[I" : Cond) ∈ lw_good := lwg (lwT3 (List.mem_of_getElem? (i := 14) rfl)) rfl
set_option maxRecDepth 20000 in
theorem kw_3_16 : (.laysFinal RX1 "WalkingTown$Morning" "walked" "[I" : Cond) ∈ lw_good := lwg (lwT3 (List.mem_of_getElem? (i := 16) rfl)) rfl
set_option maxRecDepth 20000 in
theorem kw_3_18 : (.laysFinal RX1 "WalkingTown$Morning" "rides" "[I" : Cond) ∈ lw_good := lwg (lwT3 (List.mem_of_getElem? (i := 18) rfl)) rfl
set_option maxRecDepth 20000 in
theorem kw_3_20 : (.laysFinal RX1 "WalkingTown$Morning" "waitsFor" "[I" : Cond) ∈ lw_good := lwg (lwT3 (List.mem_of_getElem? (i := 20) rfl)) rfl
set_option maxRecDepth 20000 in
theorem kw_3_22 : (.laysFinal RX1 "WalkingTown$Morning" "inside" "[I" : Cond) ∈ lw_good := lwg (lwT3 (List.mem_of_getElem? (i := 22) rfl)) rfl
set_option maxRecDepth 20000 in
theorem kw_3_24 : (.laysFinal RX1 "WalkingTown$Morning" "coin" "[I" : Cond) ∈ lw_good := lwg (lwT3 (List.mem_of_getElem? (i := 24) rfl)) rfl
set_option maxRecDepth 20000 in
theorem kw_3_26 : (.laysFinal RX1 "WalkingTown$Morning" "stopped" "[I" : Cond) ∈ lw_good := lwg (lwT3 (List.mem_of_getElem? (i := 26) rfl)) rfl
set_option maxRecDepth 20000 in
theorem kw_3_28 : (.laysFinal RX1 "WalkingTown$Morning" "gone" "[I" : Cond) ∈ lw_good := lwg (lwT3 (List.mem_of_getElem? (i := 28) rfl)) rfl
set_option maxRecDepth 20000 in
theorem kw_3_30 : (.laysFinal RX1 "WalkingTown$Morning" "at" "[I" : Cond) ∈ lw_good := lwg (lwT3 (List.mem_of_getElem? (i := 30) rfl)) rfl
set_option maxRecDepth 20000 in
theorem kw_3_32 : (.laysFinal RX1 "WalkingTown$Morning" "comes" "[I" : Cond) ∈ lw_good := lwg (lwT3 (List.mem_of_getElem? (i := 32) rfl)) rfl
set_option maxRecDepth 20000 in
theorem kw_3_34 : (.laysFinal RX1 "WalkingTown$Morning" "left" "[I" : Cond) ∈ lw_good := lwg (lwT3 (List.mem_of_getElem? (i := 34) rfl)) rfl
set_option maxRecDepth 20000 in
theorem kw_3_36 : (.laysFinal RX1 "WalkingTown$Morning" "busy" "[I" : Cond) ∈ lw_good := lwg (lwT3 (List.mem_of_getElem? (i := 36) rfl)) rfl
set_option maxRecDepth 20000 in
theorem kw_3_39 : (.classLink RX11 36 RX5 : Cond) ∈ lw_good := lwg (lwT3 (List.mem_of_getElem? (i := 39) rfl)) rfl
set_option maxRecDepth 20000 in
theorem kw_3_40 : (.instantiable RX5 14 : Cond) ∈ lw_good := lwg (lwT3 (List.mem_of_getElem? (i := 40) rfl)) rfl
set_option maxRecDepth 20000 in
theorem kw_3_41 : (.methodLink RX11 38 yX5_init : Cond) ∈ lw_good := lwg (lwT3 (List.mem_of_getElem? (i := 41) rfl)) rfl
set_option maxRecDepth 20000 in
theorem kw_3_42 : (.instanceMethod yX5_init : Cond) ∈ lw_good := lwg (lwT3 (List.mem_of_getElem? (i := 42) rfl)) rfl
set_option maxRecDepth 20000 in
theorem kw_3_43 : (.code yX5_init cX5_init 2 none : Cond) ∈ lw_good := lwg (lwT3 (List.mem_of_getElem? (i := 43) rfl)) rfl
set_option maxRecDepth 20000 in
theorem kw_3_44 : (.methodLink RX5 3 objectInit : Cond) ∈ lw_good := lwg (lwT3 (List.mem_of_getElem? (i := 44) rfl)) rfl
set_option maxRecDepth 20000 in
theorem kw_3_45 : (.fieldLink RX5 9 "WalkingTown$Seating" "town" "LWalkingTown$Town;" : Cond) ∈ lw_good := lwg (lwT3 (List.mem_of_getElem? (i := 45) rfl)) rfl
set_option maxRecDepth 20000 in
theorem kw_3_46 : (.fieldLink RX5 17 "WalkingTown$Seating" "reach" "[J" : Cond) ∈ lw_good := lwg (lwT3 (List.mem_of_getElem? (i := 46) rfl)) rfl
set_option maxRecDepth 20000 in
theorem kw_3_47 : (.fieldLink RX5 21 "WalkingTown$Seating" "kept" "[I" : Cond) ∈ lw_good := lwg (lwT3 (List.mem_of_getElem? (i := 47) rfl)) rfl
set_option maxRecDepth 20000 in
theorem kw_3_48 : (.fieldLink RX5 124 "WalkingTown$Seating" "keptCount" "I" : Cond) ∈ lw_good := lwg (lwT3 (List.mem_of_getElem? (i := 48) rfl)) rfl
set_option maxRecDepth 20000 in
theorem kw_3_49 : (.fieldLink RX5 25 "WalkingTown$Seating" "near" "[I" : Cond) ∈ lw_good := lwg (lwT3 (List.mem_of_getElem? (i := 49) rfl)) rfl
set_option maxRecDepth 20000 in
theorem kw_3_50 : (.fieldLink RX5 28 "WalkingTown$Seating" "seats" "[I" : Cond) ∈ lw_good := lwg (lwT3 (List.mem_of_getElem? (i := 50) rfl)) rfl
set_option maxRecDepth 20000 in
theorem kw_3_51 : (.fieldLink RX5 31 "WalkingTown$Seating" "seatsLeft" "[I" : Cond) ∈ lw_good := lwg (lwT3 (List.mem_of_getElem? (i := 51) rfl)) rfl
set_option maxRecDepth 20000 in
theorem kw_3_52 : (.fieldLink RX5 34 "WalkingTown$Seating" "stopsOf" "[I" : Cond) ∈ lw_good := lwg (lwT3 (List.mem_of_getElem? (i := 52) rfl)) rfl
set_option maxRecDepth 20000 in
theorem kw_3_53 : (.fieldLink RX5 37 "WalkingTown$Seating" "outside" "[I" : Cond) ∈ lw_good := lwg (lwT3 (List.mem_of_getElem? (i := 53) rfl)) rfl
set_option maxRecDepth 20000 in
theorem kw_3_54 : (.fieldLink RX5 40 "WalkingTown$Seating" "place" "[I" : Cond) ∈ lw_good := lwg (lwT3 (List.mem_of_getElem? (i := 54) rfl)) rfl
set_option maxRecDepth 20000 in
theorem kw_3_55 : (.fieldLink RX5 43 "WalkingTown$Seating" "found" "[I" : Cond) ∈ lw_good := lwg (lwT3 (List.mem_of_getElem? (i := 55) rfl)) rfl
set_option maxRecDepth 20000 in
theorem kw_3_56 : (.fieldLink RX11 233 "WalkingTown$Seating" "found" "[I" : Cond) ∈ lw_good := lwg (lwT3 (List.mem_of_getElem? (i := 56) rfl)) rfl
set_option maxRecDepth 20000 in
theorem kw_3_57 : (.fieldLink RX5 46 "WalkingTown$Seating" "size" "I" : Cond) ∈ lw_good := lwg (lwT3 (List.mem_of_getElem? (i := 57) rfl)) rfl
set_option maxRecDepth 20000 in
theorem kw_3_58 : (.fieldLink RX11 231 "WalkingTown$Seating" "size" "I" : Cond) ∈ lw_good := lwg (lwT3 (List.mem_of_getElem? (i := 58) rfl)) rfl
set_option maxRecDepth 20000 in
theorem kw_3_59 : (.fieldLink RX5 142 "WalkingTown$Seating" "people" "I" : Cond) ∈ lw_good := lwg (lwT3 (List.mem_of_getElem? (i := 59) rfl)) rfl
set_option maxRecDepth 20000 in
theorem kw_3_60 : (.fieldLink RX5 58 "WalkingTown$Seating" "best" "I" : Cond) ∈ lw_good := lwg (lwT3 (List.mem_of_getElem? (i := 60) rfl)) rfl
set_option maxRecDepth 20000 in
theorem kw_3_61 : (.laysFinal RX5 "WalkingTown$Seating" "town" "LWalkingTown$Town;" : Cond) ∈ lw_good := lwg (lwT3 (List.mem_of_getElem? (i := 61) rfl)) rfl
set_option maxRecDepth 20000 in
theorem kw_3_63 : (.laysFinal RX5 "WalkingTown$Seating" "reach" "[J" : Cond) ∈ lw_good := lwg (lwT3 (List.mem_of_getElem? (i := 63) rfl)) rfl
set_option maxRecDepth 20000 in
theorem kw_3_65 : (.laysFinal RX5 "WalkingTown$Seating" "kept" "[I" : Cond) ∈ lw_good := lwg (lwT3 (List.mem_of_getElem? (i := 65) rfl)) rfl
set_option maxRecDepth 20000 in
theorem kw_3_67 : (.lays RX5 "WalkingTown$Seating" "keptCount" "I" : Cond) ∈ lw_good := lwg (lwT3 (List.mem_of_getElem? (i := 67) rfl)) rfl
set_option maxRecDepth 20000 in
theorem kw_3_69 : (.laysFinal RX5 "WalkingTown$Seating" "near" "[I" : Cond) ∈ lw_good := lwg (lwT3 (List.mem_of_getElem? (i := 69) rfl)) rfl
set_option maxRecDepth 20000 in
theorem kw_3_71 : (.laysFinal RX5 "WalkingTown$Seating" "seats" "[I" : Cond) ∈ lw_good := lwg (lwT3 (List.mem_of_getElem? (i := 71) rfl)) rfl
set_option maxRecDepth 20000 in
theorem kw_3_73 : (.laysFinal RX5 "WalkingTown$Seating" "seatsLeft" "[I" : Cond) ∈ lw_good := lwg (lwT3 (List.mem_of_getElem? (i := 73) rfl)) rfl
set_option maxRecDepth 20000 in
theorem kw_3_75 : (.laysFinal RX5 "WalkingTown$Seating" "stopsOf" "[I" : Cond) ∈ lw_good := lwg (lwT3 (List.mem_of_getElem? (i := 75) rfl)) rfl
set_option maxRecDepth 20000 in
theorem kw_3_77 : (.laysFinal RX5 "WalkingTown$Seating" "outside" "[I" : Cond) ∈ lw_good := lwg (lwT3 (List.mem_of_getElem? (i := 77) rfl)) rfl
set_option maxRecDepth 20000 in
theorem kw_3_79 : (.laysFinal RX5 "WalkingTown$Seating" "place" "[I" : Cond) ∈ lw_good := lwg (lwT3 (List.mem_of_getElem? (i := 79) rfl)) rfl
set_option maxRecDepth 20000 in
theorem kw_3_81 : (.laysFinal RX5 "WalkingTown$Seating" "found" "[I" : Cond) ∈ lw_good := lwg (lwT3 (List.mem_of_getElem? (i := 81) rfl)) rfl
set_option maxRecDepth 20000 in
theorem kw_3_83 : (.lays RX5 "WalkingTown$Seating" "size" "I" : Cond) ∈ lw_good := lwg (lwT3 (List.mem_of_getElem? (i := 83) rfl)) rfl
set_option maxRecDepth 20000 in
theorem kw_3_85 : (.lays RX5 "WalkingTown$Seating" "people" "I" : Cond) ∈ lw_good := lwg (lwT3 (List.mem_of_getElem? (i := 85) rfl)) rfl
set_option maxRecDepth 20000 in
theorem kw_3_87 : (.lays RX5 "WalkingTown$Seating" "best" "I" : Cond) ∈ lw_good := lwg (lwT3 (List.mem_of_getElem? (i := 87) rfl)) rfl
set_option maxRecDepth 20000 in
theorem kw_3_90 : (.arrayClass .long : Cond) ∈ lw_good := lwg (lwT3 (List.mem_of_getElem? (i := 90) rfl)) rfl
set_option maxRecDepth 20000 in
theorem kw_3_91 : (.fieldLink RX11 9 "WalkingTown" "tape" "[I" : Cond) ∈ lw_good := lwg (lwT3 (List.mem_of_getElem? (i := 91) rfl)) rfl
set_option maxRecDepth 20000 in
theorem kw_3_92 : (.fieldLink RX11 50 "WalkingTown" "tapeSize" "I" : Cond) ∈ lw_good := lwg (lwT3 (List.mem_of_getElem? (i := 92) rfl)) rfl
set_option maxRecDepth 20000 in
theorem kw_3_93 : (.fieldLink RX11 16 "WalkingTown" "town" "LWalkingTown$Town;" : Cond) ∈ lw_good := lwg (lwT3 (List.mem_of_getElem? (i := 93) rfl)) rfl
set_option maxRecDepth 20000 in
theorem kw_3_94 : (.fieldLink RX11 23 "WalkingTown" "reader" "LWalkingTown$Reader;" : Cond) ∈ lw_good := lwg (lwT3 (List.mem_of_getElem? (i := 94) rfl)) rfl
set_option maxRecDepth 20000 in
theorem kw_3_95 : (.fieldLink RX11 32 "WalkingTown" "led" "LWalkingTown$Morning;" : Cond) ∈ lw_good := lwg (lwT3 (List.mem_of_getElem? (i := 95) rfl)) rfl
set_option maxRecDepth 20000 in
theorem kw_3_96 : (.fieldLink RX11 39 "WalkingTown" "seating" "LWalkingTown$Seating;" : Cond) ∈ lw_good := lwg (lwT3 (List.mem_of_getElem? (i := 96) rfl)) rfl
set_option maxRecDepth 20000 in
theorem kw_3_97 : (.fieldLink RX11 43 "WalkingTown" "toldLine" "I" : Cond) ∈ lw_good := lwg (lwT3 (List.mem_of_getElem? (i := 97) rfl)) rfl
set_option maxRecDepth 20000 in
theorem kw_3_98 : (.fieldLink RX11 171 "WalkingTown" "faultKind" "I" : Cond) ∈ lw_good := lwg (lwT3 (List.mem_of_getElem? (i := 98) rfl)) rfl
set_option maxRecDepth 20000 in
theorem kw_3_99 : (.fieldLink RX11 47 "WalkingTown" "ledDay" "I" : Cond) ∈ lw_good := lwg (lwT3 (List.mem_of_getElem? (i := 99) rfl)) rfl
set_option maxRecDepth 20000 in
theorem kw_3_100 : (.laysFinal RX11 "WalkingTown" "tape" "[I" : Cond) ∈ lw_good := lwg (lwT3 (List.mem_of_getElem? (i := 100) rfl)) rfl
set_option maxRecDepth 20000 in
theorem kw_3_102 : (.lays RX11 "WalkingTown" "tapeSize" "I" : Cond) ∈ lw_good := lwg (lwT3 (List.mem_of_getElem? (i := 102) rfl)) rfl
set_option maxRecDepth 20000 in
theorem kw_3_104 : (.laysFinal RX11 "WalkingTown" "town" "LWalkingTown$Town;" : Cond) ∈ lw_good := lwg (lwT3 (List.mem_of_getElem? (i := 104) rfl)) rfl
set_option maxRecDepth 20000 in
theorem kw_3_106 : (.laysFinal RX11 "WalkingTown" "reader" "LWalkingTown$Reader;" : Cond) ∈ lw_good := lwg (lwT3 (List.mem_of_getElem? (i := 106) rfl)) rfl
set_option maxRecDepth 20000 in
theorem kw_3_108 : (.laysFinal RX11 "WalkingTown" "led" "LWalkingTown$Morning;" : Cond) ∈ lw_good := lwg (lwT3 (List.mem_of_getElem? (i := 108) rfl)) rfl
set_option maxRecDepth 20000 in
theorem kw_3_110 : (.laysFinal RX11 "WalkingTown" "seating" "LWalkingTown$Seating;" : Cond) ∈ lw_good := lwg (lwT3 (List.mem_of_getElem? (i := 110) rfl)) rfl
set_option maxRecDepth 20000 in
theorem kw_3_112 : (.lays RX11 "WalkingTown" "toldLine" "I" : Cond) ∈ lw_good := lwg (lwT3 (List.mem_of_getElem? (i := 112) rfl)) rfl
set_option maxRecDepth 20000 in
theorem kw_3_114 : (.lays RX11 "WalkingTown" "faultKind" "I" : Cond) ∈ lw_good := lwg (lwT3 (List.mem_of_getElem? (i := 114) rfl)) rfl
set_option maxRecDepth 20000 in
theorem kw_3_116 : (.lays RX11 "WalkingTown" "ledDay" "I" : Cond) ∈ lw_good := lwg (lwT3 (List.mem_of_getElem? (i := 116) rfl)) rfl
set_option maxRecDepth 20000 in
theorem kw_3_119 : (.methodLink RL 19 yX11_feed : Cond) ∈ lw_good := lwg (lwT3 (List.mem_of_getElem? (i := 119) rfl)) rfl
set_option maxRecDepth 20000 in
theorem kw_3_120 : (.instanceMethod yX11_feed : Cond) ∈ lw_good := lwg (lwT3 (List.mem_of_getElem? (i := 120) rfl)) rfl
set_option maxRecDepth 20000 in
theorem kw_3_121 : (.selects RX11 yX11_feed yX11_feed : Cond) ∈ lw_good := lwg (lwT3 (List.mem_of_getElem? (i := 121) rfl)) rfl
set_option maxRecDepth 20000 in
theorem kw_3_122 : (.code yX11_feed cX11_feed 6 (some .int) : Cond) ∈ lw_good := lwg (lwT3 (List.mem_of_getElem? (i := 122) rfl)) rfl
set_option maxRecDepth 20000 in
theorem kw_3_123 : (.methodLink RX11 53 yX11_putOnTape : Cond) ∈ lw_good := lwg (lwT3 (List.mem_of_getElem? (i := 123) rfl)) rfl
set_option maxRecDepth 20000 in
theorem kw_3_125 : (.instanceMethod yX11_putOnTape : Cond) ∈ lw_good := lwg (lwT3 (List.mem_of_getElem? (i := 125) rfl)) rfl
set_option maxRecDepth 20000 in
theorem kw_3_126 : (.code yX11_putOnTape cX11_putOnTape 3 none : Cond) ∈ lw_good := lwg (lwT3 (List.mem_of_getElem? (i := 126) rfl)) rfl
set_option maxRecDepth 20000 in
theorem kw_3_127 : (.methodLink RL 24 yX11_end : Cond) ∈ lw_good := lwg (lwT3 (List.mem_of_getElem? (i := 127) rfl)) rfl
set_option maxRecDepth 20000 in
theorem kw_3_128 : (.instanceMethod yX11_end : Cond) ∈ lw_good := lwg (lwT3 (List.mem_of_getElem? (i := 128) rfl)) rfl
set_option maxRecDepth 20000 in
theorem kw_3_129 : (.selects RX11 yX11_end yX11_end : Cond) ∈ lw_good := lwg (lwT3 (List.mem_of_getElem? (i := 129) rfl)) rfl
set_option maxRecDepth 20000 in
theorem kw_3_130 : (.code yX11_end cX11_end 2 (some .boolean) : Cond) ∈ lw_good := lwg (lwT3 (List.mem_of_getElem? (i := 130) rfl)) rfl
set_option maxRecDepth 20000 in
theorem kw_3_131 : (.methodLink RL 29 yX11_next : Cond) ∈ lw_good := lwg (lwT3 (List.mem_of_getElem? (i := 131) rfl)) rfl
set_option maxRecDepth 20000 in
theorem kw_3_132 : (.instanceMethod yX11_next : Cond) ∈ lw_good := lwg (lwT3 (List.mem_of_getElem? (i := 132) rfl)) rfl
set_option maxRecDepth 20000 in
theorem kw_3_133 : (.selects RX11 yX11_next yX11_next : Cond) ∈ lw_good := lwg (lwT3 (List.mem_of_getElem? (i := 133) rfl)) rfl
set_option maxRecDepth 20000 in
theorem kw_3_134 : (.code yX11_next cX11_next 2 (some .int) : Cond) ∈ lw_good := lwg (lwT3 (List.mem_of_getElem? (i := 134) rfl)) rfl
set_option maxRecDepth 20000 in
theorem kw_3_135 : (.methodLink RL 34 yX11_street : Cond) ∈ lw_good := lwg (lwT3 (List.mem_of_getElem? (i := 135) rfl)) rfl
set_option maxRecDepth 20000 in
theorem kw_3_136 : (.instanceMethod yX11_street : Cond) ∈ lw_good := lwg (lwT3 (List.mem_of_getElem? (i := 136) rfl)) rfl
set_option maxRecDepth 20000 in
theorem kw_3_137 : (.selects RX11 yX11_street yX11_street : Cond) ∈ lw_good := lwg (lwT3 (List.mem_of_getElem? (i := 137) rfl)) rfl
set_option maxRecDepth 20000 in
theorem kw_3_138 : (.code yX11_street cX11_street 4 (some .boolean) : Cond) ∈ lw_good := lwg (lwT3 (List.mem_of_getElem? (i := 138) rfl)) rfl
set_option maxRecDepth 20000 in
theorem kw_3_139 : (.methodLink RX11 64 yX4_lay : Cond) ∈ lw_good := lwg (lwT3 (List.mem_of_getElem? (i := 139) rfl)) rfl
set_option maxRecDepth 20000 in
theorem kw_3_140 : (.instanceMethod yX4_lay : Cond) ∈ lw_good := lwg (lwT3 (List.mem_of_getElem? (i := 140) rfl)) rfl
set_option maxRecDepth 20000 in
theorem kw_3_141 : (.selects RX4 yX4_lay yX4_lay : Cond) ∈ lw_good := lwg (lwT3 (List.mem_of_getElem? (i := 141) rfl)) rfl
set_option maxRecDepth 20000 in
theorem kw_3_142 : (.code yX4_lay cX4_lay 9 (some .boolean) : Cond) ∈ lw_good := lwg (lwT3 (List.mem_of_getElem? (i := 142) rfl)) rfl
set_option maxRecDepth 20000 in
theorem kw_3_143 : (.methodLink RX4 20 yX4_isCorner : Cond) ∈ lw_good := lwg (lwT3 (List.mem_of_getElem? (i := 143) rfl)) rfl
set_option maxRecDepth 20000 in
theorem kw_3_144 : (.static yX4_isCorner : Cond) ∈ lw_good := lwg (lwT3 (List.mem_of_getElem? (i := 144) rfl)) rfl
set_option maxRecDepth 20000 in
theorem kw_3_145 : (.code yX4_isCorner cX4_isCorner 1 (some .boolean) : Cond) ∈ lw_good := lwg (lwT3 (List.mem_of_getElem? (i := 145) rfl)) rfl
set_option maxRecDepth 20000 in
theorem kw_3_146 : (.methodLink RX4 24 yX4_between : Cond) ∈ lw_good := lwg (lwT3 (List.mem_of_getElem? (i := 146) rfl)) rfl
set_option maxRecDepth 20000 in
theorem kw_3_147 : (.instanceMethod yX4_between : Cond) ∈ lw_good := lwg (lwT3 (List.mem_of_getElem? (i := 147) rfl)) rfl
set_option maxRecDepth 20000 in
theorem kw_3_148 : (.selects RX4 yX4_between yX4_between : Cond) ∈ lw_good := lwg (lwT3 (List.mem_of_getElem? (i := 148) rfl)) rfl
set_option maxRecDepth 20000 in
theorem kw_3_149 : (.code yX4_between cX4_between 3 (some .int) : Cond) ∈ lw_good := lwg (lwT3 (List.mem_of_getElem? (i := 149) rfl)) rfl
set_option maxRecDepth 20000 in
theorem kw_3_150 : (.methodLink RX4 28 Lib.Math.min.name : Cond) ∈ lw_good := lwg (lwT3 (List.mem_of_getElem? (i := 150) rfl)) rfl
set_option maxRecDepth 20000 in
theorem kw_3_151 : (.static Lib.Math.min.name : Cond) ∈ lw_good := lwg (lwT3 (List.mem_of_getElem? (i := 151) rfl)) rfl
set_option maxRecDepth 20000 in
theorem kw_3_152 : (.code Lib.Math.min.name cJ9_min_7cf53 2 (some .int) : Cond) ∈ lw_good := lwg (lwT3 (List.mem_of_getElem? (i := 152) rfl)) rfl
set_option maxRecDepth 20000 in
theorem kw_3_153 : (.methodLink RL 39 yX11_far : Cond) ∈ lw_good := lwg (lwT3 (List.mem_of_getElem? (i := 153) rfl)) rfl
set_option maxRecDepth 20000 in
theorem kw_3_154 : (.instanceMethod yX11_far : Cond) ∈ lw_good := lwg (lwT3 (List.mem_of_getElem? (i := 154) rfl)) rfl
set_option maxRecDepth 20000 in
theorem kw_3_155 : (.selects RX11 yX11_far yX11_far : Cond) ∈ lw_good := lwg (lwT3 (List.mem_of_getElem? (i := 155) rfl)) rfl
set_option maxRecDepth 20000 in
theorem kw_3_156 : (.code yX11_far cX11_far 4 (some .int) : Cond) ∈ lw_good := lwg (lwT3 (List.mem_of_getElem? (i := 156) rfl)) rfl
set_option maxRecDepth 20000 in
theorem kw_3_157 : (.methodLink RX11 70 yX4_isCorner : Cond) ∈ lw_good := lwg (lwT3 (List.mem_of_getElem? (i := 157) rfl)) rfl
set_option maxRecDepth 20000 in
theorem kw_3_158 : (.methodLink RX11 74 yX4_between : Cond) ∈ lw_good := lwg (lwT3 (List.mem_of_getElem? (i := 158) rfl)) rfl
set_option maxRecDepth 20000 in
theorem kw_3_159 : (.constant RX11 78 10000000 : Cond) ∈ lw_good := lwg (lwT3 (List.mem_of_getElem? (i := 159) rfl)) rfl
set_option maxRecDepth 20000 in
theorem kw_3_160 : (.methodLink RL 43 yX11_person : Cond) ∈ lw_good := lwg (lwT3 (List.mem_of_getElem? (i := 160) rfl)) rfl
set_option maxRecDepth 20000 in
theorem kw_3_161 : (.instanceMethod yX11_person : Cond) ∈ lw_good := lwg (lwT3 (List.mem_of_getElem? (i := 161) rfl)) rfl
set_option maxRecDepth 20000 in
theorem kw_3_162 : (.selects RX11 yX11_person yX11_person : Cond) ∈ lw_good := lwg (lwT3 (List.mem_of_getElem? (i := 162) rfl)) rfl
set_option maxRecDepth 20000 in
theorem kw_3_163 : (.code yX11_person cX11_person 5 (some .int) : Cond) ∈ lw_good := lwg (lwT3 (List.mem_of_getElem? (i := 163) rfl)) rfl
set_option maxRecDepth 20000 in
theorem kw_3_164 : (.methodLink RX11 83 yX2_join : Cond) ∈ lw_good := lwg (lwT3 (List.mem_of_getElem? (i := 164) rfl)) rfl
set_option maxRecDepth 20000 in
theorem kw_3_165 : (.instanceMethod yX2_join : Cond) ∈ lw_good := lwg (lwT3 (List.mem_of_getElem? (i := 165) rfl)) rfl
set_option maxRecDepth 20000 in
theorem kw_3_166 : (.selects RX2 yX2_join yX2_join : Cond) ∈ lw_good := lwg (lwT3 (List.mem_of_getElem? (i := 166) rfl)) rfl
set_option maxRecDepth 20000 in
theorem kw_3_167 : (.code yX2_join cX2_join 5 (some .int) : Cond) ∈ lw_good := lwg (lwT3 (List.mem_of_getElem? (i := 167) rfl)) rfl
set_option maxRecDepth 20000 in
theorem kw_3_168 : (.methodLink RX2 58 yX2_fits : Cond) ∈ lw_good := lwg (lwT3 (List.mem_of_getElem? (i := 168) rfl)) rfl
set_option maxRecDepth 20000 in
theorem kw_3_169 : (.static yX2_fits : Cond) ∈ lw_good := lwg (lwT3 (List.mem_of_getElem? (i := 169) rfl)) rfl
set_option maxRecDepth 20000 in
theorem kw_3_170 : (.code yX2_fits cX2_fits 1 (some .boolean) : Cond) ∈ lw_good := lwg (lwT3 (List.mem_of_getElem? (i := 170) rfl)) rfl
set_option maxRecDepth 20000 in
theorem kw_3_171 : (.methodLink RX2 62 yX2_pair : Cond) ∈ lw_good := lwg (lwT3 (List.mem_of_getElem? (i := 171) rfl)) rfl
set_option maxRecDepth 20000 in
theorem kw_3_172 : (.static yX2_pair : Cond) ∈ lw_good := lwg (lwT3 (List.mem_of_getElem? (i := 172) rfl)) rfl
set_option maxRecDepth 20000 in
theorem kw_3_173 : (.code yX2_pair cX2_pair 2 (some .int) : Cond) ∈ lw_good := lwg (lwT3 (List.mem_of_getElem? (i := 173) rfl)) rfl
set_option maxRecDepth 20000 in
theorem kw_3_174 : (.constant RX2 66 100000 : Cond) ∈ lw_good := lwg (lwT3 (List.mem_of_getElem? (i := 174) rfl)) rfl
set_option maxRecDepth 20000 in
theorem kw_3_175 : (.methodLink RL 48 yX11_stop : Cond) ∈ lw_good := lwg (lwT3 (List.mem_of_getElem? (i := 175) rfl)) rfl
set_option maxRecDepth 20000 in
theorem kw_3_176 : (.instanceMethod yX11_stop : Cond) ∈ lw_good := lwg (lwT3 (List.mem_of_getElem? (i := 176) rfl)) rfl
set_option maxRecDepth 20000 in
theorem kw_3_177 : (.selects RX11 yX11_stop yX11_stop : Cond) ∈ lw_good := lwg (lwT3 (List.mem_of_getElem? (i := 177) rfl)) rfl
set_option maxRecDepth 20000 in
theorem kw_3_178 : (.code yX11_stop cX11_stop 2 (some .int) : Cond) ∈ lw_good := lwg (lwT3 (List.mem_of_getElem? (i := 178) rfl)) rfl
set_option maxRecDepth 20000 in
theorem kw_3_179 : (.methodLink RL 52 yX11_wheel : Cond) ∈ lw_good := lwg (lwT3 (List.mem_of_getElem? (i := 179) rfl)) rfl
set_option maxRecDepth 20000 in
theorem kw_3_180 : (.instanceMethod yX11_wheel : Cond) ∈ lw_good := lwg (lwT3 (List.mem_of_getElem? (i := 180) rfl)) rfl
set_option maxRecDepth 20000 in
theorem kw_3_181 : (.selects RX11 yX11_wheel yX11_wheel : Cond) ∈ lw_good := lwg (lwT3 (List.mem_of_getElem? (i := 181) rfl)) rfl
set_option maxRecDepth 20000 in
theorem kw_3_182 : (.code yX11_wheel cX11_wheel 5 (some .int) : Cond) ∈ lw_good := lwg (lwT3 (List.mem_of_getElem? (i := 182) rfl)) rfl
set_option maxRecDepth 20000 in
theorem kw_3_183 : (.methodLink RX11 95 yX7_isStop : Cond) ∈ lw_good := lwg (lwT3 (List.mem_of_getElem? (i := 183) rfl)) rfl
set_option maxRecDepth 20000 in
theorem kw_3_184 : (.instanceMethod yX7_isStop : Cond) ∈ lw_good := lwg (lwT3 (List.mem_of_getElem? (i := 184) rfl)) rfl
set_option maxRecDepth 20000 in
theorem kw_3_185 : (.selects RX7 yX7_isStop yX7_isStop : Cond) ∈ lw_good := lwg (lwT3 (List.mem_of_getElem? (i := 185) rfl)) rfl
set_option maxRecDepth 20000 in
theorem kw_3_186 : (.code yX7_isStop cX7_isStop 2 (some .boolean) : Cond) ∈ lw_good := lwg (lwT3 (List.mem_of_getElem? (i := 186) rfl)) rfl
set_option maxRecDepth 20000 in
theorem kw_3_187 : (.methodLink RX11 98 yX11_isDayOrNever : Cond) ∈ lw_good := lwg (lwT3 (List.mem_of_getElem? (i := 187) rfl)) rfl
set_option maxRecDepth 20000 in
theorem kw_3_188 : (.static yX11_isDayOrNever : Cond) ∈ lw_good := lwg (lwT3 (List.mem_of_getElem? (i := 188) rfl)) rfl
set_option maxRecDepth 20000 in
theorem kw_3_189 : (.code yX11_isDayOrNever cX11_isDayOrNever 1 (some .boolean) : Cond) ∈ lw_good := lwg (lwT3 (List.mem_of_getElem? (i := 189) rfl)) rfl
set_option maxRecDepth 20000 in
theorem kw_3_190 : (.methodLink RX11 105 yX10_join : Cond) ∈ lw_good := lwg (lwT3 (List.mem_of_getElem? (i := 190) rfl)) rfl
set_option maxRecDepth 20000 in
theorem kw_3_191 : (.instanceMethod yX10_join : Cond) ∈ lw_good := lwg (lwT3 (List.mem_of_getElem? (i := 191) rfl)) rfl
set_option maxRecDepth 20000 in
theorem kw_3_192 : (.selects RX10 yX10_join yX10_join : Cond) ∈ lw_good := lwg (lwT3 (List.mem_of_getElem? (i := 192) rfl)) rfl
set_option maxRecDepth 20000 in
theorem kw_3_193 : (.code yX10_join cX10_join 5 (some .int) : Cond) ∈ lw_good := lwg (lwT3 (List.mem_of_getElem? (i := 193) rfl)) rfl
set_option maxRecDepth 20000 in
theorem kw_3_194 : (.methodLink RL 57 yX11_insure : Cond) ∈ lw_good := lwg (lwT3 (List.mem_of_getElem? (i := 194) rfl)) rfl
set_option maxRecDepth 20000 in
theorem kw_3_195 : (.instanceMethod yX11_insure : Cond) ∈ lw_good := lwg (lwT3 (List.mem_of_getElem? (i := 195) rfl)) rfl
set_option maxRecDepth 20000 in
theorem kw_3_196 : (.selects RX11 yX11_insure yX11_insure : Cond) ∈ lw_good := lwg (lwT3 (List.mem_of_getElem? (i := 196) rfl)) rfl
set_option maxRecDepth 20000 in
theorem kw_3_197 : (.code yX11_insure cX11_insure 3 (some .boolean) : Cond) ∈ lw_good := lwg (lwT3 (List.mem_of_getElem? (i := 197) rfl)) rfl
set_option maxRecDepth 20000 in
theorem kw_3_198 : (.methodLink RX11 110 yX10_has : Cond) ∈ lw_good := lwg (lwT3 (List.mem_of_getElem? (i := 198) rfl)) rfl
set_option maxRecDepth 20000 in
theorem kw_3_199 : (.instanceMethod yX10_has : Cond) ∈ lw_good := lwg (lwT3 (List.mem_of_getElem? (i := 199) rfl)) rfl
set_option maxRecDepth 20000 in
theorem kw_3_200 : (.selects RX10 yX10_has yX10_has : Cond) ∈ lw_good := lwg (lwT3 (List.mem_of_getElem? (i := 200) rfl)) rfl
set_option maxRecDepth 20000 in
theorem kw_3_201 : (.code yX10_has cX10_has 2 (some .boolean) : Cond) ∈ lw_good := lwg (lwT3 (List.mem_of_getElem? (i := 201) rfl)) rfl
set_option maxRecDepth 20000 in
theorem kw_3_202 : (.methodLink RL 62 yX11_trip : Cond) ∈ lw_good := lwg (lwT3 (List.mem_of_getElem? (i := 202) rfl)) rfl
set_option maxRecDepth 20000 in
theorem kw_3_203 : (.instanceMethod yX11_trip : Cond) ∈ lw_good := lwg (lwT3 (List.mem_of_getElem? (i := 203) rfl)) rfl
set_option maxRecDepth 20000 in
theorem kw_3_204 : (.selects RX11 yX11_trip yX11_trip : Cond) ∈ lw_good := lwg (lwT3 (List.mem_of_getElem? (i := 204) rfl)) rfl
set_option maxRecDepth 20000 in
theorem kw_3_205 : (.code yX11_trip cX11_trip 8 (some .int) : Cond) ∈ lw_good := lwg (lwT3 (List.mem_of_getElem? (i := 205) rfl)) rfl
set_option maxRecDepth 20000 in
theorem kw_3_206 : (.methodLink RX11 120 yX8_isFull : Cond) ∈ lw_good := lwg (lwT3 (List.mem_of_getElem? (i := 206) rfl)) rfl
set_option maxRecDepth 20000 in
theorem kw_3_207 : (.instanceMethod yX8_isFull : Cond) ∈ lw_good := lwg (lwT3 (List.mem_of_getElem? (i := 207) rfl)) rfl
set_option maxRecDepth 20000 in
theorem kw_3_208 : (.selects RX8 yX8_isFull yX8_isFull : Cond) ∈ lw_good := lwg (lwT3 (List.mem_of_getElem? (i := 208) rfl)) rfl
set_option maxRecDepth 20000 in
theorem kw_3_209 : (.code yX8_isFull cX8_isFull 1 (some .boolean) : Cond) ∈ lw_good := lwg (lwT3 (List.mem_of_getElem? (i := 209) rfl)) rfl
set_option maxRecDepth 20000 in
theorem kw_3_210 : (.methodLink RX11 126 yX8_join : Cond) ∈ lw_good := lwg (lwT3 (List.mem_of_getElem? (i := 210) rfl)) rfl
set_option maxRecDepth 20000 in
theorem kw_3_211 : (.instanceMethod yX8_join : Cond) ∈ lw_good := lwg (lwT3 (List.mem_of_getElem? (i := 211) rfl)) rfl
set_option maxRecDepth 20000 in
theorem kw_3_212 : (.selects RX8 yX8_join yX8_join : Cond) ∈ lw_good := lwg (lwT3 (List.mem_of_getElem? (i := 212) rfl)) rfl
set_option maxRecDepth 20000 in
theorem kw_3_213 : (.code yX8_join cX8_join 5 (some .int) : Cond) ∈ lw_good := lwg (lwT3 (List.mem_of_getElem? (i := 213) rfl)) rfl
set_option maxRecDepth 20000 in
theorem kw_3_214 : (.methodLink RX11 127 yX8_setDays : Cond) ∈ lw_good := lwg (lwT3 (List.mem_of_getElem? (i := 214) rfl)) rfl
set_option maxRecDepth 20000 in
theorem kw_3_215 : (.instanceMethod yX8_setDays : Cond) ∈ lw_good := lwg (lwT3 (List.mem_of_getElem? (i := 215) rfl)) rfl
set_option maxRecDepth 20000 in
theorem kw_3_216 : (.selects RX8 yX8_setDays yX8_setDays : Cond) ∈ lw_good := lwg (lwT3 (List.mem_of_getElem? (i := 216) rfl)) rfl
set_option maxRecDepth 20000 in
theorem kw_3_217 : (.code yX8_setDays cX8_setDays 5 none : Cond) ∈ lw_good := lwg (lwT3 (List.mem_of_getElem? (i := 217) rfl)) rfl
set_option maxRecDepth 20000 in
theorem kw_3_218 : (.methodLink RL 67 yX11_rain : Cond) ∈ lw_good := lwg (lwT3 (List.mem_of_getElem? (i := 218) rfl)) rfl
set_option maxRecDepth 20000 in
theorem kw_3_219 : (.instanceMethod yX11_rain : Cond) ∈ lw_good := lwg (lwT3 (List.mem_of_getElem? (i := 219) rfl)) rfl
set_option maxRecDepth 20000 in
theorem kw_3_220 : (.selects RX11 yX11_rain yX11_rain : Cond) ∈ lw_good := lwg (lwT3 (List.mem_of_getElem? (i := 220) rfl)) rfl
set_option maxRecDepth 20000 in
theorem kw_3_221 : (.code yX11_rain cX11_rain 4 (some .boolean) : Cond) ∈ lw_good := lwg (lwT3 (List.mem_of_getElem? (i := 221) rfl)) rfl
set_option maxRecDepth 20000 in
theorem kw_3_222 : (.methodLink RX11 131 yX11_tapeIsRain : Cond) ∈ lw_good := lwg (lwT3 (List.mem_of_getElem? (i := 222) rfl)) rfl
set_option maxRecDepth 20000 in
theorem kw_3_224 : (.instanceMethod yX11_tapeIsRain : Cond) ∈ lw_good := lwg (lwT3 (List.mem_of_getElem? (i := 224) rfl)) rfl
set_option maxRecDepth 20000 in
theorem kw_3_225 : (.code yX11_tapeIsRain cX11_tapeIsRain 2 (some .boolean) : Cond) ∈ lw_good := lwg (lwT3 (List.mem_of_getElem? (i := 225) rfl)) rfl
set_option maxRecDepth 20000 in
theorem kw_3_226 : (.methodLink RL 72 yX11_wet : Cond) ∈ lw_good := lwg (lwT3 (List.mem_of_getElem? (i := 226) rfl)) rfl
set_option maxRecDepth 20000 in
theorem kw_3_227 : (.instanceMethod yX11_wet : Cond) ∈ lw_good := lwg (lwT3 (List.mem_of_getElem? (i := 227) rfl)) rfl
set_option maxRecDepth 20000 in
theorem kw_3_228 : (.selects RX11 yX11_wet yX11_wet : Cond) ∈ lw_good := lwg (lwT3 (List.mem_of_getElem? (i := 228) rfl)) rfl
set_option maxRecDepth 20000 in
theorem kw_3_229 : (.code yX11_wet cX11_wet 2 (some .int) : Cond) ∈ lw_good := lwg (lwT3 (List.mem_of_getElem? (i := 229) rfl)) rfl
set_option maxRecDepth 20000 in
theorem kw_3_230 : (.methodLink RX11 140 yX7_rainOn : Cond) ∈ lw_good := lwg (lwT3 (List.mem_of_getElem? (i := 230) rfl)) rfl
set_option maxRecDepth 20000 in
theorem kw_3_231 : (.instanceMethod yX7_rainOn : Cond) ∈ lw_good := lwg (lwT3 (List.mem_of_getElem? (i := 231) rfl)) rfl
set_option maxRecDepth 20000 in
theorem kw_3_232 : (.selects RX7 yX7_rainOn yX7_rainOn : Cond) ∈ lw_good := lwg (lwT3 (List.mem_of_getElem? (i := 232) rfl)) rfl
set_option maxRecDepth 20000 in
theorem kw_3_233 : (.code yX7_rainOn cX7_rainOn 2 (some .int) : Cond) ∈ lw_good := lwg (lwT3 (List.mem_of_getElem? (i := 233) rfl)) rfl
set_option maxRecDepth 20000 in
theorem kw_3_234 : (.methodLink RL 76 yX11_give : Cond) ∈ lw_good := lwg (lwT3 (List.mem_of_getElem? (i := 234) rfl)) rfl
set_option maxRecDepth 20000 in
theorem kw_3_235 : (.instanceMethod yX11_give : Cond) ∈ lw_good := lwg (lwT3 (List.mem_of_getElem? (i := 235) rfl)) rfl
set_option maxRecDepth 20000 in
theorem kw_3_236 : (.selects RX11 yX11_give yX11_give : Cond) ∈ lw_good := lwg (lwT3 (List.mem_of_getElem? (i := 236) rfl)) rfl
set_option maxRecDepth 20000 in
theorem kw_3_237 : (.code yX11_give cX11_give 2 (some .int) : Cond) ∈ lw_good := lwg (lwT3 (List.mem_of_getElem? (i := 237) rfl)) rfl
set_option maxRecDepth 20000 in
theorem kw_3_238 : (.constant RX11 144 100000 : Cond) ∈ lw_good := lwg (lwT3 (List.mem_of_getElem? (i := 238) rfl)) rfl
set_option maxRecDepth 20000 in
theorem kw_3_239 : (.constant RX11 148 1000000 : Cond) ∈ lw_good := lwg (lwT3 (List.mem_of_getElem? (i := 239) rfl)) rfl
set_option maxRecDepth 20000 in
theorem kw_4_0 : (.methodLink RX11 149 Lib.Math.min.name : Cond) ∈ lw_good := lwg (lwT4 (List.mem_of_getElem? (i := 0) rfl)) rfl
set_option maxRecDepth 20000 in
theorem kw_4_1 : (.methodLink RL 80 yX11_bylaw : Cond) ∈ lw_good := lwg (lwT4 (List.mem_of_getElem? (i := 1) rfl)) rfl
set_option maxRecDepth 20000 in
theorem kw_4_2 : (.instanceMethod yX11_bylaw : Cond) ∈ lw_good := lwg (lwT4 (List.mem_of_getElem? (i := 2) rfl)) rfl
set_option maxRecDepth 20000 in
theorem kw_4_3 : (.selects RX11 yX11_bylaw yX11_bylaw : Cond) ∈ lw_good := lwg (lwT4 (List.mem_of_getElem? (i := 3) rfl)) rfl
set_option maxRecDepth 20000 in
theorem kw_4_4 : (.code yX11_bylaw cX11_bylaw 3 (some .int) : Cond) ∈ lw_good := lwg (lwT4 (List.mem_of_getElem? (i := 4) rfl)) rfl
set_option maxRecDepth 20000 in
theorem kw_4_5 : (.methodLink RX11 158 yJx4a65c_size_8abf5 : Cond) ∈ lw_good := lwg (lwT4 (List.mem_of_getElem? (i := 5) rfl)) rfl
set_option maxRecDepth 20000 in
theorem kw_4_6 : (.instanceMethod yJx4a65c_size_8abf5 : Cond) ∈ lw_good := lwg (lwT4 (List.mem_of_getElem? (i := 6) rfl)) rfl
set_option maxRecDepth 20000 in
theorem kw_4_7 : (.selects RJx4a65c yJx4a65c_size_8abf5 yJx4a65c_size_8abf5 : Cond) ∈ lw_good := lwg (lwT4 (List.mem_of_getElem? (i := 7) rfl)) rfl
set_option maxRecDepth 20000 in
theorem kw_4_8 : (.code yJx4a65c_size_8abf5 cJx4a65c_size_8abf5 1 (some .int) : Cond) ∈ lw_good := lwg (lwT4 (List.mem_of_getElem? (i := 8) rfl)) rfl
set_option maxRecDepth 20000 in
theorem kw_4_9 : (.methodLink RX11 164 yX3_read : Cond) ∈ lw_good := lwg (lwT4 (List.mem_of_getElem? (i := 9) rfl)) rfl
set_option maxRecDepth 20000 in
theorem kw_4_10 : (.instanceMethod yX3_read : Cond) ∈ lw_good := lwg (lwT4 (List.mem_of_getElem? (i := 10) rfl)) rfl
set_option maxRecDepth 20000 in
theorem kw_4_11 : (.selects RX3 yX3_read yX3_read : Cond) ∈ lw_good := lwg (lwT4 (List.mem_of_getElem? (i := 11) rfl)) rfl
set_option maxRecDepth 20000 in
theorem kw_4_12 : (.code yX3_read cX3_read 4 none : Cond) ∈ lw_good := lwg (lwT4 (List.mem_of_getElem? (i := 12) rfl)) rfl
set_option maxRecDepth 20000 in
theorem kw_4_13 : (.methodLink RX3 54 yX3_split : Cond) ∈ lw_good := lwg (lwT4 (List.mem_of_getElem? (i := 13) rfl)) rfl
set_option maxRecDepth 20000 in
theorem kw_4_15 : (.instanceMethod yX3_split : Cond) ∈ lw_good := lwg (lwT4 (List.mem_of_getElem? (i := 15) rfl)) rfl
set_option maxRecDepth 20000 in
theorem kw_4_16 : (.code yX3_split cX3_split 6 none : Cond) ∈ lw_good := lwg (lwT4 (List.mem_of_getElem? (i := 16) rfl)) rfl
set_option maxRecDepth 20000 in
theorem kw_4_17 : (.methodLink RX3 92 Lib.Math.min.name : Cond) ∈ lw_good := lwg (lwT4 (List.mem_of_getElem? (i := 17) rfl)) rfl
set_option maxRecDepth 20000 in
theorem kw_4_18 : (.methodLink RX3 101 yX3_endOfWord : Cond) ∈ lw_good := lwg (lwT4 (List.mem_of_getElem? (i := 18) rfl)) rfl
set_option maxRecDepth 20000 in
theorem kw_4_19 : (.static yX3_endOfWord : Cond) ∈ lw_good := lwg (lwT4 (List.mem_of_getElem? (i := 19) rfl)) rfl
set_option maxRecDepth 20000 in
theorem kw_4_20 : (.code yX3_endOfWord cX3_endOfWord 4 (some .int) : Cond) ∈ lw_good := lwg (lwT4 (List.mem_of_getElem? (i := 20) rfl)) rfl
set_option maxRecDepth 20000 in
theorem kw_4_21 : (.methodLink RX3 122 yX3_isLetter : Cond) ∈ lw_good := lwg (lwT4 (List.mem_of_getElem? (i := 21) rfl)) rfl
set_option maxRecDepth 20000 in
theorem kw_4_22 : (.static yX3_isLetter : Cond) ∈ lw_good := lwg (lwT4 (List.mem_of_getElem? (i := 22) rfl)) rfl
set_option maxRecDepth 20000 in
theorem kw_4_23 : (.code yX3_isLetter cX3_isLetter 1 (some .boolean) : Cond) ∈ lw_good := lwg (lwT4 (List.mem_of_getElem? (i := 23) rfl)) rfl
set_option maxRecDepth 20000 in
theorem kw_4_24 : (.methodLink RX3 126 yX3_isDigit : Cond) ∈ lw_good := lwg (lwT4 (List.mem_of_getElem? (i := 24) rfl)) rfl
set_option maxRecDepth 20000 in
theorem kw_4_25 : (.static yX3_isDigit : Cond) ∈ lw_good := lwg (lwT4 (List.mem_of_getElem? (i := 25) rfl)) rfl
set_option maxRecDepth 20000 in
theorem kw_4_26 : (.code yX3_isDigit cX3_isDigit 1 (some .boolean) : Cond) ∈ lw_good := lwg (lwT4 (List.mem_of_getElem? (i := 26) rfl)) rfl
set_option maxRecDepth 20000 in
theorem kw_4_27 : (.methodLink RX3 105 Lib.Math.max.name : Cond) ∈ lw_good := lwg (lwT4 (List.mem_of_getElem? (i := 27) rfl)) rfl
set_option maxRecDepth 20000 in
theorem kw_4_28 : (.static Lib.Math.max.name : Cond) ∈ lw_good := lwg (lwT4 (List.mem_of_getElem? (i := 28) rfl)) rfl
set_option maxRecDepth 20000 in
theorem kw_4_29 : (.code Lib.Math.max.name cJ9_max_7cf53 2 (some .int) : Cond) ∈ lw_good := lwg (lwT4 (List.mem_of_getElem? (i := 29) rfl)) rfl
set_option maxRecDepth 20000 in
theorem kw_4_30 : (.methodLink RX3 108 yX3_classify : Cond) ∈ lw_good := lwg (lwT4 (List.mem_of_getElem? (i := 30) rfl)) rfl
set_option maxRecDepth 20000 in
theorem kw_4_31 : (.static yX3_classify : Cond) ∈ lw_good := lwg (lwT4 (List.mem_of_getElem? (i := 31) rfl)) rfl
set_option maxRecDepth 20000 in
theorem kw_4_32 : (.code yX3_classify cX3_classify 5 (some (.object "WalkingTown$Token")) : Cond) ∈ lw_good := lwg (lwT4 (List.mem_of_getElem? (i := 32) rfl)) rfl
set_option maxRecDepth 20000 in
theorem kw_4_33 : (.fieldLink RX3 129 "WalkingTown$Token" "NUMBER" "LWalkingTown$Token;" : Cond) ∈ lw_good := lwg (lwT4 (List.mem_of_getElem? (i := 33) rfl)) rfl
set_option maxRecDepth 20000 in
theorem kw_4_35 : (.fieldLink RX3 119 "WalkingTown$Token" "WRONG" "LWalkingTown$Token;" : Cond) ∈ lw_good := lwg (lwT4 (List.mem_of_getElem? (i := 35) rfl)) rfl
set_option maxRecDepth 20000 in
theorem kw_4_37 : (.methodLink RX3 132 yX3_lookUp : Cond) ∈ lw_good := lwg (lwT4 (List.mem_of_getElem? (i := 37) rfl)) rfl
set_option maxRecDepth 20000 in
theorem kw_4_38 : (.static yX3_lookUp : Cond) ∈ lw_good := lwg (lwT4 (List.mem_of_getElem? (i := 38) rfl)) rfl
set_option maxRecDepth 20000 in
theorem kw_4_39 : (.code yX3_lookUp cX3_lookUp 7 (some (.object "WalkingTown$Token")) : Cond) ∈ lw_good := lwg (lwT4 (List.mem_of_getElem? (i := 39) rfl)) rfl
set_option maxRecDepth 20000 in
theorem kw_4_40 : (.fieldLink RX3 135 "WalkingTown$Reader" "TOKENS" "[LWalkingTown$Token;" : Cond) ∈ lw_good := lwg (lwT4 (List.mem_of_getElem? (i := 40) rfl)) rfl
set_option maxRecDepth 20000 in
theorem kw_4_42 : (.methodLink RX3 142 yJ0_length_8abf5 : Cond) ∈ lw_good := lwg (lwT4 (List.mem_of_getElem? (i := 42) rfl)) rfl
set_option maxRecDepth 20000 in
theorem kw_4_43 : (.instanceMethod yJ0_length_8abf5 : Cond) ∈ lw_good := lwg (lwT4 (List.mem_of_getElem? (i := 43) rfl)) rfl
set_option maxRecDepth 20000 in
theorem kw_4_44 : (.selects RJ0 yJ0_length_8abf5 yJ0_length_8abf5 : Cond) ∈ lw_good := lwg (lwT4 (List.mem_of_getElem? (i := 44) rfl)) rfl
set_option maxRecDepth 20000 in
theorem kw_4_45 : (.code yJ0_length_8abf5 cJ0_length_8abf5 1 (some .int) : Cond) ∈ lw_good := lwg (lwT4 (List.mem_of_getElem? (i := 45) rfl)) rfl
set_option maxRecDepth 20000 in
theorem kw_4_46 : (.methodLink RJ0 335 yJ0_coder_7d493 : Cond) ∈ lw_good := lwg (lwT4 (List.mem_of_getElem? (i := 46) rfl)) rfl
set_option maxRecDepth 20000 in
theorem kw_4_47 : (.instanceMethod yJ0_coder_7d493 : Cond) ∈ lw_good := lwg (lwT4 (List.mem_of_getElem? (i := 47) rfl)) rfl
set_option maxRecDepth 20000 in
theorem kw_4_48 : (.selects RJ0 yJ0_coder_7d493 yJ0_coder_7d493 : Cond) ∈ lw_good := lwg (lwT4 (List.mem_of_getElem? (i := 48) rfl)) rfl
set_option maxRecDepth 20000 in
theorem kw_4_49 : (.code yJ0_coder_7d493 cJ0_coder_7d493 1 (some .byte) : Cond) ∈ lw_good := lwg (lwT4 (List.mem_of_getElem? (i := 49) rfl)) rfl
set_option maxRecDepth 20000 in
theorem kw_4_50 : (.fieldLink RJ0 38 "java/lang/String" "COMPACT_STRINGS" "Z" : Cond) ∈ lw_good := lwg (lwT4 (List.mem_of_getElem? (i := 50) rfl)) rfl
set_option maxRecDepth 20000 in
theorem kw_4_52 : (.methodLink RX3 148 yX3_matches : Cond) ∈ lw_good := lwg (lwT4 (List.mem_of_getElem? (i := 52) rfl)) rfl
set_option maxRecDepth 20000 in
theorem kw_4_53 : (.static yX3_matches : Cond) ∈ lw_good := lwg (lwT4 (List.mem_of_getElem? (i := 53) rfl)) rfl
set_option maxRecDepth 20000 in
theorem kw_4_54 : (.code yX3_matches cX3_matches 4 (some .boolean) : Cond) ∈ lw_good := lwg (lwT4 (List.mem_of_getElem? (i := 54) rfl)) rfl
set_option maxRecDepth 20000 in
theorem kw_4_55 : (.methodLink RX3 152 yJ0_charAt_5068e : Cond) ∈ lw_good := lwg (lwT4 (List.mem_of_getElem? (i := 55) rfl)) rfl
set_option maxRecDepth 20000 in
theorem kw_4_56 : (.instanceMethod yJ0_charAt_5068e : Cond) ∈ lw_good := lwg (lwT4 (List.mem_of_getElem? (i := 56) rfl)) rfl
set_option maxRecDepth 20000 in
theorem kw_4_57 : (.selects RJ0 yJ0_charAt_5068e yJ0_charAt_5068e : Cond) ∈ lw_good := lwg (lwT4 (List.mem_of_getElem? (i := 57) rfl)) rfl
set_option maxRecDepth 20000 in
theorem kw_4_58 : (.code yJ0_charAt_5068e cJ0_charAt_5068e 2 (some .char) : Cond) ∈ lw_good := lwg (lwT4 (List.mem_of_getElem? (i := 58) rfl)) rfl
set_option maxRecDepth 20000 in
theorem kw_4_59 : (.methodLink RJ0 492 yJ0_isLatin1_aae02 : Cond) ∈ lw_good := lwg (lwT4 (List.mem_of_getElem? (i := 59) rfl)) rfl
set_option maxRecDepth 20000 in
theorem kw_4_60 : (.instanceMethod yJ0_isLatin1_aae02 : Cond) ∈ lw_good := lwg (lwT4 (List.mem_of_getElem? (i := 60) rfl)) rfl
set_option maxRecDepth 20000 in
theorem kw_4_61 : (.selects RJ0 yJ0_isLatin1_aae02 yJ0_isLatin1_aae02 : Cond) ∈ lw_good := lwg (lwT4 (List.mem_of_getElem? (i := 61) rfl)) rfl
set_option maxRecDepth 20000 in
theorem kw_4_62 : (.code yJ0_isLatin1_aae02 cJ0_isLatin1_aae02 1 (some .boolean) : Cond) ∈ lw_good := lwg (lwT4 (List.mem_of_getElem? (i := 62) rfl)) rfl
set_option maxRecDepth 20000 in
theorem kw_4_63 : (.methodLink RJ0 495 yJ1_charAt_3b067 : Cond) ∈ lw_good := lwg (lwT4 (List.mem_of_getElem? (i := 63) rfl)) rfl
set_option maxRecDepth 20000 in
theorem kw_4_64 : (.static yJ1_charAt_3b067 : Cond) ∈ lw_good := lwg (lwT4 (List.mem_of_getElem? (i := 64) rfl)) rfl
set_option maxRecDepth 20000 in
theorem kw_4_65 : (.code yJ1_charAt_3b067 cJ1_charAt_3b067 2 (some .char) : Cond) ∈ lw_good := lwg (lwT4 (List.mem_of_getElem? (i := 65) rfl)) rfl
set_option maxRecDepth 20000 in
theorem kw_4_66 : (.methodLink RJ1 9 yJ0_checkIndex_df160 : Cond) ∈ lw_good := lwg (lwT4 (List.mem_of_getElem? (i := 66) rfl)) rfl
set_option maxRecDepth 20000 in
theorem kw_4_67 : (.static yJ0_checkIndex_df160 : Cond) ∈ lw_good := lwg (lwT4 (List.mem_of_getElem? (i := 67) rfl)) rfl
set_option maxRecDepth 20000 in
theorem kw_4_68 : (.code yJ0_checkIndex_df160 cJ0_checkIndex_df160 2 none : Cond) ∈ lw_good := lwg (lwT4 (List.mem_of_getElem? (i := 68) rfl)) rfl
set_option maxRecDepth 20000 in
theorem kw_4_69 : (.fieldLink RJ0 1053 "jdk/internal/util/Preconditions" "SIOOBE_FORMATTER" "Ljava/util/function/BiFunction;" : Cond) ∈ lw_good := lwg (lwT4 (List.mem_of_getElem? (i := 69) rfl)) rfl
set_option maxRecDepth 20000 in
theorem kw_4_71 : (.methodLink RJ0 1059 yJ3_checkIndex_8e157 : Cond) ∈ lw_good := lwg (lwT4 (List.mem_of_getElem? (i := 71) rfl)) rfl
set_option maxRecDepth 20000 in
theorem kw_4_72 : (.static yJ3_checkIndex_8e157 : Cond) ∈ lw_good := lwg (lwT4 (List.mem_of_getElem? (i := 72) rfl)) rfl
set_option maxRecDepth 20000 in
theorem kw_4_73 : (.code yJ3_checkIndex_8e157 cJ3_checkIndex_8e157 3 (some .int) : Cond) ∈ lw_good := lwg (lwT4 (List.mem_of_getElem? (i := 73) rfl)) rfl
set_option maxRecDepth 20000 in
theorem kw_4_93 : (.methodLink RX3 112 yX3_numberAt : Cond) ∈ lw_good := lwg (lwT4 (List.mem_of_getElem? (i := 93) rfl)) rfl
set_option maxRecDepth 20000 in
theorem kw_4_94 : (.static yX3_numberAt : Cond) ∈ lw_good := lwg (lwT4 (List.mem_of_getElem? (i := 94) rfl)) rfl
set_option maxRecDepth 20000 in
theorem kw_4_95 : (.code yX3_numberAt cX3_numberAt 5 (some .int) : Cond) ∈ lw_good := lwg (lwT4 (List.mem_of_getElem? (i := 95) rfl)) rfl
set_option maxRecDepth 20000 in
theorem kw_4_96 : (.methodLink RX3 115 yX3_addToken : Cond) ∈ lw_good := lwg (lwT4 (List.mem_of_getElem? (i := 96) rfl)) rfl
set_option maxRecDepth 20000 in
theorem kw_4_98 : (.instanceMethod yX3_addToken : Cond) ∈ lw_good := lwg (lwT4 (List.mem_of_getElem? (i := 98) rfl)) rfl
set_option maxRecDepth 20000 in
theorem kw_4_99 : (.code yX3_addToken cX3_addToken 4 none : Cond) ∈ lw_good := lwg (lwT4 (List.mem_of_getElem? (i := 99) rfl)) rfl
set_option maxRecDepth 20000 in
theorem kw_4_100 : (.fieldLink RX3 62 "WalkingTown$Token" "END" "LWalkingTown$Token;" : Cond) ∈ lw_good := lwg (lwT4 (List.mem_of_getElem? (i := 100) rfl)) rfl
set_option maxRecDepth 20000 in
theorem kw_4_102 : (.methodLink RX3 58 yX3_token : Cond) ∈ lw_good := lwg (lwT4 (List.mem_of_getElem? (i := 102) rfl)) rfl
set_option maxRecDepth 20000 in
theorem kw_4_104 : (.instanceMethod yX3_token : Cond) ∈ lw_good := lwg (lwT4 (List.mem_of_getElem? (i := 104) rfl)) rfl
set_option maxRecDepth 20000 in
theorem kw_4_105 : (.code yX3_token cX3_token 2 (some (.object "WalkingTown$Token")) : Cond) ∈ lw_good := lwg (lwT4 (List.mem_of_getElem? (i := 105) rfl)) rfl
set_option maxRecDepth 20000 in
theorem kw_4_106 : (.methodLink RX3 66 yX3_readLine : Cond) ∈ lw_good := lwg (lwT4 (List.mem_of_getElem? (i := 106) rfl)) rfl
set_option maxRecDepth 20000 in
theorem kw_4_108 : (.instanceMethod yX3_readLine : Cond) ∈ lw_good := lwg (lwT4 (List.mem_of_getElem? (i := 108) rfl)) rfl
set_option maxRecDepth 20000 in
theorem kw_4_109 : (.code yX3_readLine cX3_readLine 2 (some .boolean) : Cond) ∈ lw_good := lwg (lwT4 (List.mem_of_getElem? (i := 109) rfl)) rfl
set_option maxRecDepth 20000 in
theorem kw_4_110 : (.methodLink RX3 156 yX3_fail : Cond) ∈ lw_good := lwg (lwT4 (List.mem_of_getElem? (i := 110) rfl)) rfl
set_option maxRecDepth 20000 in
theorem kw_4_112 : (.instanceMethod yX3_fail : Cond) ∈ lw_good := lwg (lwT4 (List.mem_of_getElem? (i := 112) rfl)) rfl
set_option maxRecDepth 20000 in
theorem kw_4_113 : (.code yX3_fail cX3_fail 2 (some .boolean) : Cond) ∈ lw_good := lwg (lwT4 (List.mem_of_getElem? (i := 113) rfl)) rfl
set_option maxRecDepth 20000 in
theorem kw_4_114 : (.fieldLink RX3 165 "WalkingTown$Token" "DOCK" "LWalkingTown$Token;" : Cond) ∈ lw_good := lwg (lwT4 (List.mem_of_getElem? (i := 114) rfl)) rfl
set_option maxRecDepth 20000 in
theorem kw_4_116 : (.methodLink RX3 159 yX3_step : Cond) ∈ lw_good := lwg (lwT4 (List.mem_of_getElem? (i := 116) rfl)) rfl
set_option maxRecDepth 20000 in
theorem kw_4_118 : (.instanceMethod yX3_step : Cond) ∈ lw_good := lwg (lwT4 (List.mem_of_getElem? (i := 118) rfl)) rfl
set_option maxRecDepth 20000 in
theorem kw_4_119 : (.code yX3_step cX3_step 1 none : Cond) ∈ lw_good := lwg (lwT4 (List.mem_of_getElem? (i := 119) rfl)) rfl
set_option maxRecDepth 20000 in
theorem kw_4_120 : (.methodLink RX3 171 yX3_readNot : Cond) ∈ lw_good := lwg (lwT4 (List.mem_of_getElem? (i := 120) rfl)) rfl
set_option maxRecDepth 20000 in
theorem kw_4_122 : (.instanceMethod yX3_readNot : Cond) ∈ lw_good := lwg (lwT4 (List.mem_of_getElem? (i := 122) rfl)) rfl
set_option maxRecDepth 20000 in
theorem kw_4_123 : (.code yX3_readNot cX3_readNot 2 (some .boolean) : Cond) ∈ lw_good := lwg (lwT4 (List.mem_of_getElem? (i := 123) rfl)) rfl
set_option maxRecDepth 20000 in
theorem kw_4_124 : (.fieldLink RX3 190 "WalkingTown$Token" "NOT" "LWalkingTown$Token;" : Cond) ∈ lw_good := lwg (lwT4 (List.mem_of_getElem? (i := 124) rfl)) rfl
set_option maxRecDepth 20000 in
theorem kw_4_126 : (.methodLink RX3 174 yX3_readValue : Cond) ∈ lw_good := lwg (lwT4 (List.mem_of_getElem? (i := 126) rfl)) rfl
set_option maxRecDepth 20000 in
theorem kw_4_128 : (.instanceMethod yX3_readValue : Cond) ∈ lw_good := lwg (lwT4 (List.mem_of_getElem? (i := 128) rfl)) rfl
set_option maxRecDepth 20000 in
theorem kw_4_129 : (.code yX3_readValue cX3_readValue 1 (some .boolean) : Cond) ∈ lw_good := lwg (lwT4 (List.mem_of_getElem? (i := 129) rfl)) rfl
set_option maxRecDepth 20000 in
theorem kw_4_130 : (.methodLink RX3 186 yX3_take : Cond) ∈ lw_good := lwg (lwT4 (List.mem_of_getElem? (i := 130) rfl)) rfl
set_option maxRecDepth 20000 in
theorem kw_4_132 : (.instanceMethod yX3_take : Cond) ∈ lw_good := lwg (lwT4 (List.mem_of_getElem? (i := 132) rfl)) rfl
set_option maxRecDepth 20000 in
theorem kw_4_133 : (.code yX3_take cX3_take 2 (some .boolean) : Cond) ∈ lw_good := lwg (lwT4 (List.mem_of_getElem? (i := 133) rfl)) rfl
set_option maxRecDepth 20000 in
theorem kw_4_134 : (.fieldLink RX3 177 "WalkingTown$Token" "IF" "LWalkingTown$Token;" : Cond) ∈ lw_good := lwg (lwT4 (List.mem_of_getElem? (i := 134) rfl)) rfl
set_option maxRecDepth 20000 in
theorem kw_4_136 : (.methodLink RX3 180 yX3_readCond : Cond) ∈ lw_good := lwg (lwT4 (List.mem_of_getElem? (i := 136) rfl)) rfl
set_option maxRecDepth 20000 in
theorem kw_4_138 : (.instanceMethod yX3_readCond : Cond) ∈ lw_good := lwg (lwT4 (List.mem_of_getElem? (i := 138) rfl)) rfl
set_option maxRecDepth 20000 in
theorem kw_4_139 : (.code yX3_readCond cX3_readCond 3 (some .boolean) : Cond) ∈ lw_good := lwg (lwT4 (List.mem_of_getElem? (i := 139) rfl)) rfl
set_option maxRecDepth 20000 in
theorem kw_4_140 : (.methodLink RX3 193 yX3_readAll : Cond) ∈ lw_good := lwg (lwT4 (List.mem_of_getElem? (i := 140) rfl)) rfl
set_option maxRecDepth 20000 in
theorem kw_4_142 : (.instanceMethod yX3_readAll : Cond) ∈ lw_good := lwg (lwT4 (List.mem_of_getElem? (i := 142) rfl)) rfl
set_option maxRecDepth 20000 in
theorem kw_4_143 : (.code yX3_readAll cX3_readAll 3 (some .boolean) : Cond) ∈ lw_good := lwg (lwT4 (List.mem_of_getElem? (i := 143) rfl)) rfl
set_option maxRecDepth 20000 in
theorem kw_4_144 : (.methodLink RX3 203 yX3_readOne : Cond) ∈ lw_good := lwg (lwT4 (List.mem_of_getElem? (i := 144) rfl)) rfl
set_option maxRecDepth 20000 in
theorem kw_4_146 : (.instanceMethod yX3_readOne : Cond) ∈ lw_good := lwg (lwT4 (List.mem_of_getElem? (i := 146) rfl)) rfl
set_option maxRecDepth 20000 in
theorem kw_4_147 : (.code yX3_readOne cX3_readOne 5 (some .boolean) : Cond) ∈ lw_good := lwg (lwT4 (List.mem_of_getElem? (i := 147) rfl)) rfl
set_option maxRecDepth 20000 in
theorem kw_4_148 : (.fieldLink RX3 209 "WalkingTown$Token" "OPEN" "LWalkingTown$Token;" : Cond) ∈ lw_good := lwg (lwT4 (List.mem_of_getElem? (i := 148) rfl)) rfl
set_option maxRecDepth 20000 in
theorem kw_4_150 : (.methodLink RX3 199 yX3_addCode : Cond) ∈ lw_good := lwg (lwT4 (List.mem_of_getElem? (i := 150) rfl)) rfl
set_option maxRecDepth 20000 in
theorem kw_4_152 : (.instanceMethod yX3_addCode : Cond) ∈ lw_good := lwg (lwT4 (List.mem_of_getElem? (i := 152) rfl)) rfl
set_option maxRecDepth 20000 in
theorem kw_4_153 : (.code yX3_addCode cX3_addCode 4 (some .boolean) : Cond) ∈ lw_good := lwg (lwT4 (List.mem_of_getElem? (i := 153) rfl)) rfl
set_option maxRecDepth 20000 in
theorem kw_4_154 : (.fieldLink RX3 212 "WalkingTown$Token" "CLOSE" "LWalkingTown$Token;" : Cond) ∈ lw_good := lwg (lwT4 (List.mem_of_getElem? (i := 154) rfl)) rfl
set_option maxRecDepth 20000 in
theorem kw_4_156 : (.methodLink RX3 215 yX3_readSign : Cond) ∈ lw_good := lwg (lwT4 (List.mem_of_getElem? (i := 156) rfl)) rfl
set_option maxRecDepth 20000 in
theorem kw_4_158 : (.instanceMethod yX3_readSign : Cond) ∈ lw_good := lwg (lwT4 (List.mem_of_getElem? (i := 158) rfl)) rfl
set_option maxRecDepth 20000 in
theorem kw_4_159 : (.code yX3_readSign cX3_readSign 3 (some .boolean) : Cond) ∈ lw_good := lwg (lwT4 (List.mem_of_getElem? (i := 159) rfl)) rfl
set_option maxRecDepth 20000 in
theorem kw_4_160 : (.fieldLink RX3 206 "WalkingTown$Token" "AND" "LWalkingTown$Token;" : Cond) ∈ lw_good := lwg (lwT4 (List.mem_of_getElem? (i := 160) rfl)) rfl
set_option maxRecDepth 20000 in
theorem kw_4_162 : (.fieldLink RX3 196 "WalkingTown$Token" "OR" "LWalkingTown$Token;" : Cond) ∈ lw_good := lwg (lwT4 (List.mem_of_getElem? (i := 162) rfl)) rfl
set_option maxRecDepth 20000 in
theorem kw_4_164 : (.fieldLink RX3 183 "WalkingTown$Token" "SEMICOLON" "LWalkingTown$Token;" : Cond) ∈ lw_good := lwg (lwT4 (List.mem_of_getElem? (i := 164) rfl)) rfl
set_option maxRecDepth 20000 in
theorem kw_4_166 : (.methodLink RX11 178 yX3_cutOut : Cond) ∈ lw_good := lwg (lwT4 (List.mem_of_getElem? (i := 166) rfl)) rfl
set_option maxRecDepth 20000 in
theorem kw_4_167 : (.instanceMethod yX3_cutOut : Cond) ∈ lw_good := lwg (lwT4 (List.mem_of_getElem? (i := 167) rfl)) rfl
set_option maxRecDepth 20000 in
theorem kw_4_168 : (.selects RX3 yX3_cutOut yX3_cutOut : Cond) ∈ lw_good := lwg (lwT4 (List.mem_of_getElem? (i := 168) rfl)) rfl
set_option maxRecDepth 20000 in
theorem kw_4_169 : (.code yX3_cutOut cX3_cutOut 3 (some (.object "WalkingTown$Law")) : Cond) ∈ lw_good := lwg (lwT4 (List.mem_of_getElem? (i := 169) rfl)) rfl
set_option maxRecDepth 20000 in
theorem kw_4_170 : (.methodLink RX3 73 ⟨"java/lang/System", "arraycopy", "(Ljava/lang/Object;ILjava/lang/Object;II)V"⟩ : Cond) ∈ lw_good := lwg (lwT4 (List.mem_of_getElem? (i := 170) rfl)) rfl
set_option maxRecDepth 20000 in
theorem kw_4_171 : (.static ⟨"java/lang/System", "arraycopy", "(Ljava/lang/Object;ILjava/lang/Object;II)V"⟩ : Cond) ∈ lw_good := lwg (lwT4 (List.mem_of_getElem? (i := 171) rfl)) rfl
set_option maxRecDepth 20000 in
theorem kw_4_172 : (.native ⟨"java/lang/System", "arraycopy", "(Ljava/lang/Object;ILjava/lang/Object;II)V"⟩ : Cond) ∈ lw_good := lwg (lwT4 (List.mem_of_getElem? (i := 172) rfl)) rfl
set_option maxRecDepth 20000 in
theorem kw_4_173 : (.methodLink RX11 182 yJx4a65c_add_9ea2d : Cond) ∈ lw_good := lwg (lwT4 (List.mem_of_getElem? (i := 173) rfl)) rfl
set_option maxRecDepth 20000 in
theorem kw_4_174 : (.instanceMethod yJx4a65c_add_9ea2d : Cond) ∈ lw_good := lwg (lwT4 (List.mem_of_getElem? (i := 174) rfl)) rfl
set_option maxRecDepth 20000 in
theorem kw_4_175 : (.selects RJx4a65c yJx4a65c_add_9ea2d yJx4a65c_add_9ea2d : Cond) ∈ lw_good := lwg (lwT4 (List.mem_of_getElem? (i := 175) rfl)) rfl
set_option maxRecDepth 20000 in
theorem kw_4_176 : (.code yJx4a65c_add_9ea2d cJx4a65c_add_9ea2d 2 (some .boolean) : Cond) ∈ lw_good := lwg (lwT4 (List.mem_of_getElem? (i := 176) rfl)) rfl
set_option maxRecDepth 20000 in
theorem kw_4_177 : (.methodLink RJx4a65c 131 yJx4a65c_add_72be8 : Cond) ∈ lw_good := lwg (lwT4 (List.mem_of_getElem? (i := 177) rfl)) rfl
set_option maxRecDepth 20000 in
theorem kw_4_179 : (.instanceMethod yJx4a65c_add_72be8 : Cond) ∈ lw_good := lwg (lwT4 (List.mem_of_getElem? (i := 179) rfl)) rfl
set_option maxRecDepth 20000 in
theorem kw_4_180 : (.code yJx4a65c_add_72be8 cJx4a65c_add_72be8 4 none : Cond) ∈ lw_good := lwg (lwT4 (List.mem_of_getElem? (i := 180) rfl)) rfl
set_option maxRecDepth 20000 in
theorem kw_4_181 : (.methodLink RJx4a65c 129 yJx4a65c_grow_d5877 : Cond) ∈ lw_good := lwg (lwT4 (List.mem_of_getElem? (i := 181) rfl)) rfl
set_option maxRecDepth 20000 in
theorem kw_4_183 : (.instanceMethod yJx4a65c_grow_d5877 : Cond) ∈ lw_good := lwg (lwT4 (List.mem_of_getElem? (i := 183) rfl)) rfl
set_option maxRecDepth 20000 in
theorem kw_4_184 : (.code yJx4a65c_grow_d5877 cJx4a65c_grow_d5877 1 (some (.array (.object "java/lang/Object"))) : Cond) ∈ lw_good := lwg (lwT4 (List.mem_of_getElem? (i := 184) rfl)) rfl
set_option maxRecDepth 20000 in
theorem kw_4_185 : (.methodLink RJx4a65c 69 yJx4a65c_grow_92f84 : Cond) ∈ lw_good := lwg (lwT4 (List.mem_of_getElem? (i := 185) rfl)) rfl
set_option maxRecDepth 20000 in
theorem kw_4_187 : (.instanceMethod yJx4a65c_grow_92f84 : Cond) ∈ lw_good := lwg (lwT4 (List.mem_of_getElem? (i := 187) rfl)) rfl
set_option maxRecDepth 20000 in
theorem kw_4_188 : (.code yJx4a65c_grow_92f84 cJx4a65c_grow_92f84 4 (some (.array (.object "java/lang/Object"))) : Cond) ∈ lw_good := lwg (lwT4 (List.mem_of_getElem? (i := 188) rfl)) rfl
set_option maxRecDepth 20000 in
theorem kw_4_227 : (.methodLink RJx4a65c 79 Lib.Math.max.name : Cond) ∈ lw_good := lwg (lwT4 (List.mem_of_getElem? (i := 227) rfl)) rfl
set_option maxRecDepth 20000 in
theorem kw_4_228 : (.classLink RJx4a65c 7 "java/lang/Object" : Cond) ∈ lw_good := lwg (lwT4 (List.mem_of_getElem? (i := 228) rfl)) rfl
set_option maxRecDepth 20000 in
theorem kw_4_229 : (.methodLink RL 84 yX11_fault : Cond) ∈ lw_good := lwg (lwT4 (List.mem_of_getElem? (i := 229) rfl)) rfl
set_option maxRecDepth 20000 in
theorem kw_4_230 : (.instanceMethod yX11_fault : Cond) ∈ lw_good := lwg (lwT4 (List.mem_of_getElem? (i := 230) rfl)) rfl
set_option maxRecDepth 20000 in
theorem kw_4_231 : (.selects RX11 yX11_fault yX11_fault : Cond) ∈ lw_good := lwg (lwT4 (List.mem_of_getElem? (i := 231) rfl)) rfl
set_option maxRecDepth 20000 in
theorem kw_4_232 : (.code yX11_fault cX11_fault 1 (some .int) : Cond) ∈ lw_good := lwg (lwT4 (List.mem_of_getElem? (i := 232) rfl)) rfl
set_option maxRecDepth 20000 in
theorem kw_4_233 : (.methodLink RL 89 yX11_told : Cond) ∈ lw_good := lwg (lwT4 (List.mem_of_getElem? (i := 233) rfl)) rfl
set_option maxRecDepth 20000 in
theorem kw_4_234 : (.instanceMethod yX11_told : Cond) ∈ lw_good := lwg (lwT4 (List.mem_of_getElem? (i := 234) rfl)) rfl
set_option maxRecDepth 20000 in
theorem kw_4_235 : (.selects RX11 yX11_told yX11_told : Cond) ∈ lw_good := lwg (lwT4 (List.mem_of_getElem? (i := 235) rfl)) rfl
set_option maxRecDepth 20000 in
theorem kw_4_236 : (.code yX11_told cX11_told 6 (some .int) : Cond) ∈ lw_good := lwg (lwT4 (List.mem_of_getElem? (i := 236) rfl)) rfl
set_option maxRecDepth 20000 in
theorem kw_4_237 : (.methodLink RX11 186 yX8_has : Cond) ∈ lw_good := lwg (lwT4 (List.mem_of_getElem? (i := 237) rfl)) rfl
set_option maxRecDepth 20000 in
theorem kw_4_238 : (.instanceMethod yX8_has : Cond) ∈ lw_good := lwg (lwT4 (List.mem_of_getElem? (i := 238) rfl)) rfl
set_option maxRecDepth 20000 in
theorem kw_4_239 : (.selects RX8 yX8_has yX8_has : Cond) ∈ lw_good := lwg (lwT4 (List.mem_of_getElem? (i := 239) rfl)) rfl
set_option maxRecDepth 20000 in
theorem kw_5_0 : (.code yX8_has cX8_has 2 (some .boolean) : Cond) ∈ lw_good := lwg (lwT5 (List.mem_of_getElem? (i := 0) rfl)) rfl
set_option maxRecDepth 20000 in
theorem kw_5_1 : (.methodLink RX11 189 yX7_lawToday : Cond) ∈ lw_good := lwg (lwT5 (List.mem_of_getElem? (i := 1) rfl)) rfl
set_option maxRecDepth 20000 in
theorem kw_5_2 : (.instanceMethod yX7_lawToday : Cond) ∈ lw_good := lwg (lwT5 (List.mem_of_getElem? (i := 2) rfl)) rfl
set_option maxRecDepth 20000 in
theorem kw_5_3 : (.selects RX7 yX7_lawToday yX7_lawToday : Cond) ∈ lw_good := lwg (lwT5 (List.mem_of_getElem? (i := 3) rfl)) rfl
set_option maxRecDepth 20000 in
theorem kw_5_4 : (.code yX7_lawToday cX7_lawToday 5 (some (.object "WalkingTown$Law")) : Cond) ∈ lw_good := lwg (lwT5 (List.mem_of_getElem? (i := 4) rfl)) rfl
set_option maxRecDepth 20000 in
theorem kw_5_5 : (.methodLink RX7 101 yJx4a65c_size_8abf5 : Cond) ∈ lw_good := lwg (lwT5 (List.mem_of_getElem? (i := 5) rfl)) rfl
set_option maxRecDepth 20000 in
theorem kw_5_6 : (.methodLink RX7 105 yJx4a65c_get_915e3 : Cond) ∈ lw_good := lwg (lwT5 (List.mem_of_getElem? (i := 6) rfl)) rfl
set_option maxRecDepth 20000 in
theorem kw_5_7 : (.instanceMethod yJx4a65c_get_915e3 : Cond) ∈ lw_good := lwg (lwT5 (List.mem_of_getElem? (i := 7) rfl)) rfl
set_option maxRecDepth 20000 in
theorem kw_5_8 : (.selects RJx4a65c yJx4a65c_get_915e3 yJx4a65c_get_915e3 : Cond) ∈ lw_good := lwg (lwT5 (List.mem_of_getElem? (i := 8) rfl)) rfl
set_option maxRecDepth 20000 in
theorem kw_5_9 : (.code yJx4a65c_get_915e3 cJx4a65c_get_915e3 2 (some (.object "java/lang/Object")) : Cond) ∈ lw_good := lwg (lwT5 (List.mem_of_getElem? (i := 9) rfl)) rfl
set_option maxRecDepth 20000 in
theorem kw_5_10 : (.methodLink RJx4a65c 118 yJ15_checkIndex_7cf53 : Cond) ∈ lw_good := lwg (lwT5 (List.mem_of_getElem? (i := 10) rfl)) rfl
set_option maxRecDepth 20000 in
theorem kw_5_11 : (.static yJ15_checkIndex_7cf53 : Cond) ∈ lw_good := lwg (lwT5 (List.mem_of_getElem? (i := 11) rfl)) rfl
set_option maxRecDepth 20000 in
theorem kw_5_12 : (.code yJ15_checkIndex_7cf53 cJ15_checkIndex_7cf53 2 (some .int) : Cond) ∈ lw_good := lwg (lwT5 (List.mem_of_getElem? (i := 12) rfl)) rfl
set_option maxRecDepth 20000 in
theorem kw_5_13 : (.methodLink RJ15 105 yJ3_checkIndex_8e157 : Cond) ∈ lw_good := lwg (lwT5 (List.mem_of_getElem? (i := 13) rfl)) rfl
set_option maxRecDepth 20000 in
theorem kw_5_14 : (.methodLink RJx4a65c 123 yJx4a65c_elementData_915e3 : Cond) ∈ lw_good := lwg (lwT5 (List.mem_of_getElem? (i := 14) rfl)) rfl
set_option maxRecDepth 20000 in
theorem kw_5_15 : (.instanceMethod yJx4a65c_elementData_915e3 : Cond) ∈ lw_good := lwg (lwT5 (List.mem_of_getElem? (i := 15) rfl)) rfl
set_option maxRecDepth 20000 in
theorem kw_5_16 : (.selects RJx4a65c yJx4a65c_elementData_915e3 yJx4a65c_elementData_915e3 : Cond) ∈ lw_good := lwg (lwT5 (List.mem_of_getElem? (i := 16) rfl)) rfl
set_option maxRecDepth 20000 in
theorem kw_5_17 : (.code yJx4a65c_elementData_915e3 cJx4a65c_elementData_915e3 2 (some (.object "java/lang/Object")) : Cond) ∈ lw_good := lwg (lwT5 (List.mem_of_getElem? (i := 17) rfl)) rfl
set_option maxRecDepth 20000 in
theorem kw_5_18 : (.methodLink RX11 193 yX7_ask : Cond) ∈ lw_good := lwg (lwT5 (List.mem_of_getElem? (i := 18) rfl)) rfl
set_option maxRecDepth 20000 in
theorem kw_5_19 : (.instanceMethod yX7_ask : Cond) ∈ lw_good := lwg (lwT5 (List.mem_of_getElem? (i := 19) rfl)) rfl
set_option maxRecDepth 20000 in
theorem kw_5_20 : (.selects RX7 yX7_ask yX7_ask : Cond) ∈ lw_good := lwg (lwT5 (List.mem_of_getElem? (i := 20) rfl)) rfl
set_option maxRecDepth 20000 in
theorem kw_5_21 : (.code yX7_ask cX7_ask 7 (some .int) : Cond) ∈ lw_good := lwg (lwT5 (List.mem_of_getElem? (i := 21) rfl)) rfl
set_option maxRecDepth 20000 in
theorem kw_5_22 : (.methodLink RX7 126 yX7_isAskedEmpty : Cond) ∈ lw_good := lwg (lwT5 (List.mem_of_getElem? (i := 22) rfl)) rfl
set_option maxRecDepth 20000 in
theorem kw_5_23 : (.static yX7_isAskedEmpty : Cond) ∈ lw_good := lwg (lwT5 (List.mem_of_getElem? (i := 23) rfl)) rfl
set_option maxRecDepth 20000 in
theorem kw_5_24 : (.code yX7_isAskedEmpty cX7_isAskedEmpty 1 (some .boolean) : Cond) ∈ lw_good := lwg (lwT5 (List.mem_of_getElem? (i := 24) rfl)) rfl
set_option maxRecDepth 20000 in
theorem kw_5_25 : (.methodLink RX7 130 yX7_setFacts : Cond) ∈ lw_good := lwg (lwT5 (List.mem_of_getElem? (i := 25) rfl)) rfl
set_option maxRecDepth 20000 in
theorem kw_5_27 : (.instanceMethod yX7_setFacts : Cond) ∈ lw_good := lwg (lwT5 (List.mem_of_getElem? (i := 27) rfl)) rfl
set_option maxRecDepth 20000 in
theorem kw_5_28 : (.code yX7_setFacts cX7_setFacts 5 none : Cond) ∈ lw_good := lwg (lwT5 (List.mem_of_getElem? (i := 28) rfl)) rfl
set_option maxRecDepth 20000 in
theorem kw_5_29 : (.methodLink RX7 120 yX7_rainOn : Cond) ∈ lw_good := lwg (lwT5 (List.mem_of_getElem? (i := 29) rfl)) rfl
set_option maxRecDepth 20000 in
theorem kw_5_30 : (.methodLink RX7 133 yX0_lineFor : Cond) ∈ lw_good := lwg (lwT5 (List.mem_of_getElem? (i := 30) rfl)) rfl
set_option maxRecDepth 20000 in
theorem kw_5_31 : (.instanceMethod yX0_lineFor : Cond) ∈ lw_good := lwg (lwT5 (List.mem_of_getElem? (i := 31) rfl)) rfl
set_option maxRecDepth 20000 in
theorem kw_5_32 : (.selects RX0 yX0_lineFor yX0_lineFor : Cond) ∈ lw_good := lwg (lwT5 (List.mem_of_getElem? (i := 32) rfl)) rfl
set_option maxRecDepth 20000 in
theorem kw_5_33 : (.code yX0_lineFor cX0_lineFor 4 (some .int) : Cond) ∈ lw_good := lwg (lwT5 (List.mem_of_getElem? (i := 33) rfl)) rfl
set_option maxRecDepth 20000 in
theorem kw_5_34 : (.methodLink RX0 34 yX0_holds : Cond) ∈ lw_good := lwg (lwT5 (List.mem_of_getElem? (i := 34) rfl)) rfl
set_option maxRecDepth 20000 in
theorem kw_5_36 : (.instanceMethod yX0_holds : Cond) ∈ lw_good := lwg (lwT5 (List.mem_of_getElem? (i := 36) rfl)) rfl
set_option maxRecDepth 20000 in
theorem kw_5_37 : (.code yX0_holds cX0_holds 7 (some .boolean) : Cond) ∈ lw_good := lwg (lwT5 (List.mem_of_getElem? (i := 37) rfl)) rfl
set_option maxRecDepth 20000 in
theorem kw_5_38 : (.methodLink RX7 140 yX7_plainValue : Cond) ∈ lw_good := lwg (lwT5 (List.mem_of_getElem? (i := 38) rfl)) rfl
set_option maxRecDepth 20000 in
theorem kw_5_39 : (.static yX7_plainValue : Cond) ∈ lw_good := lwg (lwT5 (List.mem_of_getElem? (i := 39) rfl)) rfl
set_option maxRecDepth 20000 in
theorem kw_5_40 : (.code yX7_plainValue cX7_plainValue 2 (some .int) : Cond) ∈ lw_good := lwg (lwT5 (List.mem_of_getElem? (i := 40) rfl)) rfl
set_option maxRecDepth 20000 in
theorem kw_5_41 : (.methodLink RL 93 yX11_why : Cond) ∈ lw_good := lwg (lwT5 (List.mem_of_getElem? (i := 41) rfl)) rfl
set_option maxRecDepth 20000 in
theorem kw_5_42 : (.instanceMethod yX11_why : Cond) ∈ lw_good := lwg (lwT5 (List.mem_of_getElem? (i := 42) rfl)) rfl
set_option maxRecDepth 20000 in
theorem kw_5_43 : (.selects RX11 yX11_why yX11_why : Cond) ∈ lw_good := lwg (lwT5 (List.mem_of_getElem? (i := 43) rfl)) rfl
set_option maxRecDepth 20000 in
theorem kw_5_44 : (.code yX11_why cX11_why 1 (some .int) : Cond) ∈ lw_good := lwg (lwT5 (List.mem_of_getElem? (i := 44) rfl)) rfl
set_option maxRecDepth 20000 in
theorem kw_5_45 : (.methodLink RL 97 yX11_morning : Cond) ∈ lw_good := lwg (lwT5 (List.mem_of_getElem? (i := 45) rfl)) rfl
set_option maxRecDepth 20000 in
theorem kw_5_46 : (.instanceMethod yX11_morning : Cond) ∈ lw_good := lwg (lwT5 (List.mem_of_getElem? (i := 46) rfl)) rfl
set_option maxRecDepth 20000 in
theorem kw_5_47 : (.selects RX11 yX11_morning yX11_morning : Cond) ∈ lw_good := lwg (lwT5 (List.mem_of_getElem? (i := 47) rfl)) rfl
set_option maxRecDepth 20000 in
theorem kw_5_48 : (.code yX11_morning cX11_morning 2 (some .int) : Cond) ∈ lw_good := lwg (lwT5 (List.mem_of_getElem? (i := 48) rfl)) rfl
set_option maxRecDepth 20000 in
theorem kw_5_49 : (.methodLink RX11 200 yX1_lead : Cond) ∈ lw_good := lwg (lwT5 (List.mem_of_getElem? (i := 49) rfl)) rfl
set_option maxRecDepth 20000 in
theorem kw_5_50 : (.instanceMethod yX1_lead : Cond) ∈ lw_good := lwg (lwT5 (List.mem_of_getElem? (i := 50) rfl)) rfl
set_option maxRecDepth 20000 in
theorem kw_5_51 : (.selects RX1 yX1_lead yX1_lead : Cond) ∈ lw_good := lwg (lwT5 (List.mem_of_getElem? (i := 51) rfl)) rfl
set_option maxRecDepth 20000 in
theorem kw_5_52 : (.code yX1_lead cX1_lead 3 (some .int) : Cond) ∈ lw_good := lwg (lwT5 (List.mem_of_getElem? (i := 52) rfl)) rfl
set_option maxRecDepth 20000 in
theorem kw_5_53 : (.methodLink RX1 86 yX7_lawToday : Cond) ∈ lw_good := lwg (lwT5 (List.mem_of_getElem? (i := 53) rfl)) rfl
set_option maxRecDepth 20000 in
theorem kw_5_54 : (.methodLink RX1 94 yJ7_fill_53178 : Cond) ∈ lw_good := lwg (lwT5 (List.mem_of_getElem? (i := 54) rfl)) rfl
set_option maxRecDepth 20000 in
theorem kw_5_55 : (.static yJ7_fill_53178 : Cond) ∈ lw_good := lwg (lwT5 (List.mem_of_getElem? (i := 55) rfl)) rfl
set_option maxRecDepth 20000 in
theorem kw_5_56 : (.code yJ7_fill_53178 cJ7_fill_53178 4 none : Cond) ∈ lw_good := lwg (lwT5 (List.mem_of_getElem? (i := 56) rfl)) rfl
set_option maxRecDepth 20000 in
theorem kw_5_57 : (.methodLink RX1 100 yX1_readyPeople : Cond) ∈ lw_good := lwg (lwT5 (List.mem_of_getElem? (i := 57) rfl)) rfl
set_option maxRecDepth 20000 in
theorem kw_5_59 : (.instanceMethod yX1_readyPeople : Cond) ∈ lw_good := lwg (lwT5 (List.mem_of_getElem? (i := 59) rfl)) rfl
set_option maxRecDepth 20000 in
theorem kw_5_60 : (.code yX1_readyPeople cX1_readyPeople 2 none : Cond) ∈ lw_good := lwg (lwT5 (List.mem_of_getElem? (i := 60) rfl)) rfl
set_option maxRecDepth 20000 in
theorem kw_5_61 : (.methodLink RX1 138 yX9_setPace : Cond) ∈ lw_good := lwg (lwT5 (List.mem_of_getElem? (i := 61) rfl)) rfl
set_option maxRecDepth 20000 in
theorem kw_5_62 : (.instanceMethod yX9_setPace : Cond) ∈ lw_good := lwg (lwT5 (List.mem_of_getElem? (i := 62) rfl)) rfl
set_option maxRecDepth 20000 in
theorem kw_5_63 : (.selects RX9 yX9_setPace yX9_setPace : Cond) ∈ lw_good := lwg (lwT5 (List.mem_of_getElem? (i := 63) rfl)) rfl
set_option maxRecDepth 20000 in
theorem kw_5_64 : (.code yX9_setPace cX9_setPace 3 none : Cond) ∈ lw_good := lwg (lwT5 (List.mem_of_getElem? (i := 64) rfl)) rfl
set_option maxRecDepth 20000 in
theorem kw_5_65 : (.methodLink RX9 47 yX7_rainOn : Cond) ∈ lw_good := lwg (lwT5 (List.mem_of_getElem? (i := 65) rfl)) rfl
set_option maxRecDepth 20000 in
theorem kw_5_66 : (.methodLink RX9 98 yX7_paceFor : Cond) ∈ lw_good := lwg (lwT5 (List.mem_of_getElem? (i := 66) rfl)) rfl
set_option maxRecDepth 20000 in
theorem kw_5_67 : (.static yX7_paceFor : Cond) ∈ lw_good := lwg (lwT5 (List.mem_of_getElem? (i := 67) rfl)) rfl
set_option maxRecDepth 20000 in
theorem kw_5_68 : (.code yX7_paceFor cX7_paceFor 4 (some .int) : Cond) ∈ lw_good := lwg (lwT5 (List.mem_of_getElem? (i := 68) rfl)) rfl
set_option maxRecDepth 20000 in
theorem kw_5_69 : (.methodLink RX1 145 yX1_markBusy : Cond) ∈ lw_good := lwg (lwT5 (List.mem_of_getElem? (i := 69) rfl)) rfl
set_option maxRecDepth 20000 in
theorem kw_5_71 : (.instanceMethod yX1_markBusy : Cond) ∈ lw_good := lwg (lwT5 (List.mem_of_getElem? (i := 71) rfl)) rfl
set_option maxRecDepth 20000 in
theorem kw_5_72 : (.code yX1_markBusy cX1_markBusy 2 none : Cond) ∈ lw_good := lwg (lwT5 (List.mem_of_getElem? (i := 72) rfl)) rfl
set_option maxRecDepth 20000 in
theorem kw_5_73 : (.methodLink RX1 103 yX1_readyWheels : Cond) ∈ lw_good := lwg (lwT5 (List.mem_of_getElem? (i := 73) rfl)) rfl
set_option maxRecDepth 20000 in
theorem kw_5_75 : (.instanceMethod yX1_readyWheels : Cond) ∈ lw_good := lwg (lwT5 (List.mem_of_getElem? (i := 75) rfl)) rfl
set_option maxRecDepth 20000 in
theorem kw_5_76 : (.code yX1_readyWheels cX1_readyWheels 2 none : Cond) ∈ lw_good := lwg (lwT5 (List.mem_of_getElem? (i := 76) rfl)) rfl
set_option maxRecDepth 20000 in
theorem kw_5_77 : (.methodLink RX1 106 yX1_readyTrips : Cond) ∈ lw_good := lwg (lwT5 (List.mem_of_getElem? (i := 77) rfl)) rfl
set_option maxRecDepth 20000 in
theorem kw_5_79 : (.instanceMethod yX1_readyTrips : Cond) ∈ lw_good := lwg (lwT5 (List.mem_of_getElem? (i := 79) rfl)) rfl
set_option maxRecDepth 20000 in
theorem kw_5_80 : (.code yX1_readyTrips cX1_readyTrips 2 none : Cond) ∈ lw_good := lwg (lwT5 (List.mem_of_getElem? (i := 80) rfl)) rfl
set_option maxRecDepth 20000 in
theorem kw_5_81 : (.methodLink RX1 162 yX1_goesToday : Cond) ∈ lw_good := lwg (lwT5 (List.mem_of_getElem? (i := 81) rfl)) rfl
set_option maxRecDepth 20000 in
theorem kw_5_83 : (.instanceMethod yX1_goesToday : Cond) ∈ lw_good := lwg (lwT5 (List.mem_of_getElem? (i := 83) rfl)) rfl
set_option maxRecDepth 20000 in
theorem kw_5_84 : (.code yX1_goesToday cX1_goesToday 2 (some .boolean) : Cond) ∈ lw_good := lwg (lwT5 (List.mem_of_getElem? (i := 84) rfl)) rfl
set_option maxRecDepth 20000 in
theorem kw_5_85 : (.methodLink RX1 172 yX8_runs : Cond) ∈ lw_good := lwg (lwT5 (List.mem_of_getElem? (i := 85) rfl)) rfl
set_option maxRecDepth 20000 in
theorem kw_5_86 : (.instanceMethod yX8_runs : Cond) ∈ lw_good := lwg (lwT5 (List.mem_of_getElem? (i := 86) rfl)) rfl
set_option maxRecDepth 20000 in
theorem kw_5_87 : (.selects RX8 yX8_runs yX8_runs : Cond) ∈ lw_good := lwg (lwT5 (List.mem_of_getElem? (i := 87) rfl)) rfl
set_option maxRecDepth 20000 in
theorem kw_5_88 : (.code yX8_runs cX8_runs 3 (some .boolean) : Cond) ∈ lw_good := lwg (lwT5 (List.mem_of_getElem? (i := 88) rfl)) rfl
set_option maxRecDepth 20000 in
theorem kw_5_89 : (.methodLink RX1 109 yX9_layOut : Cond) ∈ lw_good := lwg (lwT5 (List.mem_of_getElem? (i := 89) rfl)) rfl
set_option maxRecDepth 20000 in
theorem kw_5_90 : (.instanceMethod yX9_layOut : Cond) ∈ lw_good := lwg (lwT5 (List.mem_of_getElem? (i := 90) rfl)) rfl
set_option maxRecDepth 20000 in
theorem kw_5_91 : (.selects RX9 yX9_layOut yX9_layOut : Cond) ∈ lw_good := lwg (lwT5 (List.mem_of_getElem? (i := 91) rfl)) rfl
set_option maxRecDepth 20000 in
theorem kw_5_92 : (.code yX9_layOut cX9_layOut 5 none : Cond) ∈ lw_good := lwg (lwT5 (List.mem_of_getElem? (i := 92) rfl)) rfl
set_option maxRecDepth 20000 in
theorem kw_5_93 : (.methodLink RX9 59 yX8_runs : Cond) ∈ lw_good := lwg (lwT5 (List.mem_of_getElem? (i := 93) rfl)) rfl
set_option maxRecDepth 20000 in
theorem kw_5_94 : (.methodLink RX9 66 yX7_lengthOf : Cond) ∈ lw_good := lwg (lwT5 (List.mem_of_getElem? (i := 94) rfl)) rfl
set_option maxRecDepth 20000 in
theorem kw_5_95 : (.instanceMethod yX7_lengthOf : Cond) ∈ lw_good := lwg (lwT5 (List.mem_of_getElem? (i := 95) rfl)) rfl
set_option maxRecDepth 20000 in
theorem kw_5_96 : (.selects RX7 yX7_lengthOf yX7_lengthOf : Cond) ∈ lw_good := lwg (lwT5 (List.mem_of_getElem? (i := 96) rfl)) rfl
set_option maxRecDepth 20000 in
theorem kw_5_97 : (.code yX7_lengthOf cX7_lengthOf 2 (some .int) : Cond) ∈ lw_good := lwg (lwT5 (List.mem_of_getElem? (i := 97) rfl)) rfl
set_option maxRecDepth 20000 in
theorem kw_5_98 : (.methodLink RX7 79 yX4_between : Cond) ∈ lw_good := lwg (lwT5 (List.mem_of_getElem? (i := 98) rfl)) rfl
set_option maxRecDepth 20000 in
theorem kw_5_99 : (.constant RX9 69 10000000 : Cond) ∈ lw_good := lwg (lwT5 (List.mem_of_getElem? (i := 99) rfl)) rfl
set_option maxRecDepth 20000 in
theorem kw_5_100 : (.methodLink RX9 70 yX9_sortIn : Cond) ∈ lw_good := lwg (lwT5 (List.mem_of_getElem? (i := 100) rfl)) rfl
set_option maxRecDepth 20000 in
theorem kw_5_102 : (.instanceMethod yX9_sortIn : Cond) ∈ lw_good := lwg (lwT5 (List.mem_of_getElem? (i := 102) rfl)) rfl
set_option maxRecDepth 20000 in
theorem kw_5_103 : (.code yX9_sortIn cX9_sortIn 3 none : Cond) ∈ lw_good := lwg (lwT5 (List.mem_of_getElem? (i := 103) rfl)) rfl
set_option maxRecDepth 20000 in
theorem kw_5_104 : (.methodLink RX9 77 yX7_driveMinutes : Cond) ∈ lw_good := lwg (lwT5 (List.mem_of_getElem? (i := 104) rfl)) rfl
set_option maxRecDepth 20000 in
theorem kw_5_105 : (.instanceMethod yX7_driveMinutes : Cond) ∈ lw_good := lwg (lwT5 (List.mem_of_getElem? (i := 105) rfl)) rfl
set_option maxRecDepth 20000 in
theorem kw_5_106 : (.selects RX7 yX7_driveMinutes yX7_driveMinutes : Cond) ∈ lw_good := lwg (lwT5 (List.mem_of_getElem? (i := 106) rfl)) rfl
set_option maxRecDepth 20000 in
theorem kw_5_107 : (.code yX7_driveMinutes cX7_driveMinutes 5 (some .int) : Cond) ∈ lw_good := lwg (lwT5 (List.mem_of_getElem? (i := 107) rfl)) rfl
set_option maxRecDepth 20000 in
theorem kw_5_108 : (.methodLink RX7 89 yX7_lengthOf : Cond) ∈ lw_good := lwg (lwT5 (List.mem_of_getElem? (i := 108) rfl)) rfl
set_option maxRecDepth 20000 in
theorem kw_5_109 : (.methodLink RX7 93 yX7_minutesFor : Cond) ∈ lw_good := lwg (lwT5 (List.mem_of_getElem? (i := 109) rfl)) rfl
set_option maxRecDepth 20000 in
theorem kw_5_110 : (.static yX7_minutesFor : Cond) ∈ lw_good := lwg (lwT5 (List.mem_of_getElem? (i := 110) rfl)) rfl
set_option maxRecDepth 20000 in
theorem kw_5_111 : (.code yX7_minutesFor cX7_minutesFor 2 (some .int) : Cond) ∈ lw_good := lwg (lwT5 (List.mem_of_getElem? (i := 111) rfl)) rfl
set_option maxRecDepth 20000 in
theorem kw_5_112 : (.constant RX7 72 10000000 : Cond) ∈ lw_good := lwg (lwT5 (List.mem_of_getElem? (i := 112) rfl)) rfl
set_option maxRecDepth 20000 in
theorem kw_5_113 : (.methodLink RX7 96 Lib.Math.max.name : Cond) ∈ lw_good := lwg (lwT5 (List.mem_of_getElem? (i := 113) rfl)) rfl
set_option maxRecDepth 20000 in
theorem kw_5_114 : (.methodLink RX9 84 yX9_lastAhead : Cond) ∈ lw_good := lwg (lwT5 (List.mem_of_getElem? (i := 114) rfl)) rfl
set_option maxRecDepth 20000 in
theorem kw_5_116 : (.instanceMethod yX9_lastAhead : Cond) ∈ lw_good := lwg (lwT5 (List.mem_of_getElem? (i := 116) rfl)) rfl
set_option maxRecDepth 20000 in
theorem kw_5_117 : (.code yX9_lastAhead cX9_lastAhead 5 (some .int) : Cond) ∈ lw_good := lwg (lwT5 (List.mem_of_getElem? (i := 117) rfl)) rfl
set_option maxRecDepth 20000 in
theorem kw_5_118 : (.methodLink RX1 113 yX1_landWheels : Cond) ∈ lw_good := lwg (lwT5 (List.mem_of_getElem? (i := 118) rfl)) rfl
set_option maxRecDepth 20000 in
theorem kw_5_120 : (.instanceMethod yX1_landWheels : Cond) ∈ lw_good := lwg (lwT5 (List.mem_of_getElem? (i := 120) rfl)) rfl
set_option maxRecDepth 20000 in
theorem kw_5_121 : (.code yX1_landWheels cX1_landWheels 4 none : Cond) ∈ lw_good := lwg (lwT5 (List.mem_of_getElem? (i := 121) rfl)) rfl
set_option maxRecDepth 20000 in
theorem kw_5_122 : (.methodLink RX1 182 yX1_choose : Cond) ∈ lw_good := lwg (lwT5 (List.mem_of_getElem? (i := 122) rfl)) rfl
set_option maxRecDepth 20000 in
theorem kw_5_124 : (.instanceMethod yX1_choose : Cond) ∈ lw_good := lwg (lwT5 (List.mem_of_getElem? (i := 124) rfl)) rfl
set_option maxRecDepth 20000 in
theorem kw_5_125 : (.code yX1_choose cX1_choose 10 none : Cond) ∈ lw_good := lwg (lwT5 (List.mem_of_getElem? (i := 125) rfl)) rfl
set_option maxRecDepth 20000 in
theorem kw_5_126 : (.methodLink RX1 192 yX9_firstTrip : Cond) ∈ lw_good := lwg (lwT5 (List.mem_of_getElem? (i := 126) rfl)) rfl
set_option maxRecDepth 20000 in
theorem kw_5_127 : (.instanceMethod yX9_firstTrip : Cond) ∈ lw_good := lwg (lwT5 (List.mem_of_getElem? (i := 127) rfl)) rfl
set_option maxRecDepth 20000 in
theorem kw_5_128 : (.selects RX9 yX9_firstTrip yX9_firstTrip : Cond) ∈ lw_good := lwg (lwT5 (List.mem_of_getElem? (i := 128) rfl)) rfl
set_option maxRecDepth 20000 in
theorem kw_5_129 : (.code yX9_firstTrip cX9_firstTrip 10 (some .int) : Cond) ∈ lw_good := lwg (lwT5 (List.mem_of_getElem? (i := 129) rfl)) rfl
set_option maxRecDepth 20000 in
theorem kw_5_130 : (.methodLink RX9 113 yX9_weigh : Cond) ∈ lw_good := lwg (lwT5 (List.mem_of_getElem? (i := 130) rfl)) rfl
set_option maxRecDepth 20000 in
theorem kw_5_132 : (.instanceMethod yX9_weigh : Cond) ∈ lw_good := lwg (lwT5 (List.mem_of_getElem? (i := 132) rfl)) rfl
set_option maxRecDepth 20000 in
theorem kw_5_133 : (.code yX9_weigh cX9_weigh 6 none : Cond) ∈ lw_good := lwg (lwT5 (List.mem_of_getElem? (i := 133) rfl)) rfl
set_option maxRecDepth 20000 in
theorem kw_5_134 : (.methodLink RX9 119 yX9_walkMinutes : Cond) ∈ lw_good := lwg (lwT5 (List.mem_of_getElem? (i := 134) rfl)) rfl
set_option maxRecDepth 20000 in
theorem kw_5_135 : (.instanceMethod yX9_walkMinutes : Cond) ∈ lw_good := lwg (lwT5 (List.mem_of_getElem? (i := 135) rfl)) rfl
set_option maxRecDepth 20000 in
theorem kw_5_136 : (.selects RX9 yX9_walkMinutes yX9_walkMinutes : Cond) ∈ lw_good := lwg (lwT5 (List.mem_of_getElem? (i := 136) rfl)) rfl
set_option maxRecDepth 20000 in
theorem kw_5_137 : (.code yX9_walkMinutes cX9_walkMinutes 4 (some .int) : Cond) ∈ lw_good := lwg (lwT5 (List.mem_of_getElem? (i := 137) rfl)) rfl
set_option maxRecDepth 20000 in
theorem kw_5_138 : (.methodLink RX9 105 yX4_between : Cond) ∈ lw_good := lwg (lwT5 (List.mem_of_getElem? (i := 138) rfl)) rfl
set_option maxRecDepth 20000 in
theorem kw_5_139 : (.methodLink RX9 110 yX7_minutesFor : Cond) ∈ lw_good := lwg (lwT5 (List.mem_of_getElem? (i := 139) rfl)) rfl
set_option maxRecDepth 20000 in
theorem kw_5_140 : (.methodLink RX9 122 Lib.Math.min.name : Cond) ∈ lw_good := lwg (lwT5 (List.mem_of_getElem? (i := 140) rfl)) rfl
set_option maxRecDepth 20000 in
theorem kw_5_141 : (.methodLink RX9 134 yX9_hasHeard : Cond) ∈ lw_good := lwg (lwT5 (List.mem_of_getElem? (i := 141) rfl)) rfl
set_option maxRecDepth 20000 in
theorem kw_5_143 : (.instanceMethod yX9_hasHeard : Cond) ∈ lw_good := lwg (lwT5 (List.mem_of_getElem? (i := 143) rfl)) rfl
set_option maxRecDepth 20000 in
theorem kw_5_144 : (.code yX9_hasHeard cX9_hasHeard 3 (some .boolean) : Cond) ∈ lw_good := lwg (lwT5 (List.mem_of_getElem? (i := 144) rfl)) rfl
set_option maxRecDepth 20000 in
theorem kw_5_145 : (.methodLink RX9 127 yX9_reaches : Cond) ∈ lw_good := lwg (lwT5 (List.mem_of_getElem? (i := 145) rfl)) rfl
set_option maxRecDepth 20000 in
theorem kw_5_147 : (.instanceMethod yX9_reaches : Cond) ∈ lw_good := lwg (lwT5 (List.mem_of_getElem? (i := 147) rfl)) rfl
set_option maxRecDepth 20000 in
theorem kw_5_148 : (.code yX9_reaches cX9_reaches 6 (some .boolean) : Cond) ∈ lw_good := lwg (lwT5 (List.mem_of_getElem? (i := 148) rfl)) rfl
set_option maxRecDepth 20000 in
theorem kw_5_149 : (.methodLink RX1 203 yX4_between : Cond) ∈ lw_good := lwg (lwT5 (List.mem_of_getElem? (i := 149) rfl)) rfl
set_option maxRecDepth 20000 in
theorem kw_5_150 : (.constant RX1 209 10000000 : Cond) ∈ lw_good := lwg (lwT5 (List.mem_of_getElem? (i := 150) rfl)) rfl
set_option maxRecDepth 20000 in
theorem kw_5_151 : (.methodLink RX1 210 yX9_walkMinutes : Cond) ∈ lw_good := lwg (lwT5 (List.mem_of_getElem? (i := 151) rfl)) rfl
set_option maxRecDepth 20000 in
theorem kw_5_152 : (.methodLink RX1 214 yX1_walk : Cond) ∈ lw_good := lwg (lwT5 (List.mem_of_getElem? (i := 152) rfl)) rfl
set_option maxRecDepth 20000 in
theorem kw_5_154 : (.instanceMethod yX1_walk : Cond) ∈ lw_good := lwg (lwT5 (List.mem_of_getElem? (i := 154) rfl)) rfl
set_option maxRecDepth 20000 in
theorem kw_5_155 : (.code yX1_walk cX1_walk 5 none : Cond) ∈ lw_good := lwg (lwT5 (List.mem_of_getElem? (i := 155) rfl)) rfl
set_option maxRecDepth 20000 in
theorem kw_5_156 : (.methodLink RX1 220 Lib.Math.max.name : Cond) ∈ lw_good := lwg (lwT5 (List.mem_of_getElem? (i := 156) rfl)) rfl
set_option maxRecDepth 20000 in
theorem kw_5_157 : (.methodLink RX1 116 yX1_leaveHomes : Cond) ∈ lw_good := lwg (lwT5 (List.mem_of_getElem? (i := 157) rfl)) rfl
set_option maxRecDepth 20000 in
theorem kw_5_159 : (.instanceMethod yX1_leaveHomes : Cond) ∈ lw_good := lwg (lwT5 (List.mem_of_getElem? (i := 159) rfl)) rfl
set_option maxRecDepth 20000 in
theorem kw_5_160 : (.code yX1_leaveHomes cX1_leaveHomes 3 none : Cond) ∈ lw_good := lwg (lwT5 (List.mem_of_getElem? (i := 160) rfl)) rfl
set_option maxRecDepth 20000 in
theorem kw_5_161 : (.methodLink RX1 119 yX1_sendTrips : Cond) ∈ lw_good := lwg (lwT5 (List.mem_of_getElem? (i := 161) rfl)) rfl
set_option maxRecDepth 20000 in
theorem kw_5_163 : (.instanceMethod yX1_sendTrips : Cond) ∈ lw_good := lwg (lwT5 (List.mem_of_getElem? (i := 163) rfl)) rfl
set_option maxRecDepth 20000 in
theorem kw_5_164 : (.code yX1_sendTrips cX1_sendTrips 3 none : Cond) ∈ lw_good := lwg (lwT5 (List.mem_of_getElem? (i := 164) rfl)) rfl
set_option maxRecDepth 20000 in
theorem kw_5_165 : (.methodLink RX1 225 yX1_send : Cond) ∈ lw_good := lwg (lwT5 (List.mem_of_getElem? (i := 165) rfl)) rfl
set_option maxRecDepth 20000 in
theorem kw_5_167 : (.instanceMethod yX1_send : Cond) ∈ lw_good := lwg (lwT5 (List.mem_of_getElem? (i := 167) rfl)) rfl
set_option maxRecDepth 20000 in
theorem kw_5_168 : (.code yX1_send cX1_send 7 none : Cond) ∈ lw_good := lwg (lwT5 (List.mem_of_getElem? (i := 168) rfl)) rfl
set_option maxRecDepth 20000 in
theorem kw_5_169 : (.methodLink RX1 230 yX7_ask : Cond) ∈ lw_good := lwg (lwT5 (List.mem_of_getElem? (i := 169) rfl)) rfl
set_option maxRecDepth 20000 in
theorem kw_5_170 : (.methodLink RX1 234 yX1_standsReady : Cond) ∈ lw_good := lwg (lwT5 (List.mem_of_getElem? (i := 170) rfl)) rfl
set_option maxRecDepth 20000 in
theorem kw_5_172 : (.instanceMethod yX1_standsReady : Cond) ∈ lw_good := lwg (lwT5 (List.mem_of_getElem? (i := 172) rfl)) rfl
set_option maxRecDepth 20000 in
theorem kw_5_173 : (.code yX1_standsReady cX1_standsReady 3 (some .boolean) : Cond) ∈ lw_good := lwg (lwT5 (List.mem_of_getElem? (i := 173) rfl)) rfl
set_option maxRecDepth 20000 in
theorem kw_5_174 : (.methodLink RX1 246 yX7_lengthOf : Cond) ∈ lw_good := lwg (lwT5 (List.mem_of_getElem? (i := 174) rfl)) rfl
set_option maxRecDepth 20000 in
theorem kw_5_175 : (.methodLink RX1 237 yX1_board : Cond) ∈ lw_good := lwg (lwT5 (List.mem_of_getElem? (i := 175) rfl)) rfl
set_option maxRecDepth 20000 in
theorem kw_5_177 : (.instanceMethod yX1_board : Cond) ∈ lw_good := lwg (lwT5 (List.mem_of_getElem? (i := 177) rfl)) rfl
set_option maxRecDepth 20000 in
theorem kw_5_178 : (.code yX1_board cX1_board 7 (some .int) : Cond) ∈ lw_good := lwg (lwT5 (List.mem_of_getElem? (i := 178) rfl)) rfl
set_option maxRecDepth 20000 in
theorem kw_5_179 : (.methodLink RX1 253 yX1_firstInLine : Cond) ∈ lw_good := lwg (lwT5 (List.mem_of_getElem? (i := 179) rfl)) rfl
set_option maxRecDepth 20000 in
theorem kw_5_181 : (.instanceMethod yX1_firstInLine : Cond) ∈ lw_good := lwg (lwT5 (List.mem_of_getElem? (i := 181) rfl)) rfl
set_option maxRecDepth 20000 in
theorem kw_5_182 : (.code yX1_firstInLine cX1_firstInLine 5 (some .int) : Cond) ∈ lw_good := lwg (lwT5 (List.mem_of_getElem? (i := 182) rfl)) rfl
set_option maxRecDepth 20000 in
theorem kw_5_183 : (.methodLink RX1 256 yX1_earn : Cond) ∈ lw_good := lwg (lwT5 (List.mem_of_getElem? (i := 183) rfl)) rfl
set_option maxRecDepth 20000 in
theorem kw_5_185 : (.instanceMethod yX1_earn : Cond) ∈ lw_good := lwg (lwT5 (List.mem_of_getElem? (i := 185) rfl)) rfl
set_option maxRecDepth 20000 in
theorem kw_5_186 : (.code yX1_earn cX1_earn 3 none : Cond) ∈ lw_good := lwg (lwT5 (List.mem_of_getElem? (i := 186) rfl)) rfl
set_option maxRecDepth 20000 in
theorem kw_5_187 : (.constant RX1 265 1000000 : Cond) ∈ lw_good := lwg (lwT5 (List.mem_of_getElem? (i := 187) rfl)) rfl
set_option maxRecDepth 20000 in
theorem kw_5_188 : (.methodLink RX1 266 Lib.Math.min.name : Cond) ∈ lw_good := lwg (lwT5 (List.mem_of_getElem? (i := 188) rfl)) rfl
set_option maxRecDepth 20000 in
theorem kw_5_189 : (.methodLink RX1 240 yX1_halt : Cond) ∈ lw_good := lwg (lwT5 (List.mem_of_getElem? (i := 189) rfl)) rfl
set_option maxRecDepth 20000 in
theorem kw_5_191 : (.instanceMethod yX1_halt : Cond) ∈ lw_good := lwg (lwT5 (List.mem_of_getElem? (i := 191) rfl)) rfl
set_option maxRecDepth 20000 in
theorem kw_5_192 : (.code yX1_halt cX1_halt 7 (some .int) : Cond) ∈ lw_good := lwg (lwT5 (List.mem_of_getElem? (i := 192) rfl)) rfl
set_option maxRecDepth 20000 in
theorem kw_5_193 : (.methodLink RX1 269 yX1_pays : Cond) ∈ lw_good := lwg (lwT5 (List.mem_of_getElem? (i := 193) rfl)) rfl
set_option maxRecDepth 20000 in
theorem kw_5_195 : (.instanceMethod yX1_pays : Cond) ∈ lw_good := lwg (lwT5 (List.mem_of_getElem? (i := 195) rfl)) rfl
set_option maxRecDepth 20000 in
theorem kw_5_196 : (.code yX1_pays cX1_pays 4 (some .boolean) : Cond) ∈ lw_good := lwg (lwT5 (List.mem_of_getElem? (i := 196) rfl)) rfl
set_option maxRecDepth 20000 in
theorem kw_5_197 : (.methodLink RX1 243 yX1_setOut : Cond) ∈ lw_good := lwg (lwT5 (List.mem_of_getElem? (i := 197) rfl)) rfl
set_option maxRecDepth 20000 in
theorem kw_5_199 : (.instanceMethod yX1_setOut : Cond) ∈ lw_good := lwg (lwT5 (List.mem_of_getElem? (i := 199) rfl)) rfl
set_option maxRecDepth 20000 in
theorem kw_5_200 : (.code yX1_setOut cX1_setOut 5 none : Cond) ∈ lw_good := lwg (lwT5 (List.mem_of_getElem? (i := 200) rfl)) rfl
set_option maxRecDepth 20000 in
theorem kw_5_201 : (.methodLink RX1 275 yX7_rainOn : Cond) ∈ lw_good := lwg (lwT5 (List.mem_of_getElem? (i := 201) rfl)) rfl
set_option maxRecDepth 20000 in
theorem kw_5_202 : (.methodLink RX1 278 yX7_driveMinutes : Cond) ∈ lw_good := lwg (lwT5 (List.mem_of_getElem? (i := 202) rfl)) rfl
set_option maxRecDepth 20000 in
theorem kw_5_203 : (.methodLink RX1 122 yX1_chooseAgain : Cond) ∈ lw_good := lwg (lwT5 (List.mem_of_getElem? (i := 203) rfl)) rfl
set_option maxRecDepth 20000 in
theorem kw_5_205 : (.instanceMethod yX1_chooseAgain : Cond) ∈ lw_good := lwg (lwT5 (List.mem_of_getElem? (i := 205) rfl)) rfl
set_option maxRecDepth 20000 in
theorem kw_5_206 : (.code yX1_chooseAgain cX1_chooseAgain 4 none : Cond) ∈ lw_good := lwg (lwT5 (List.mem_of_getElem? (i := 206) rfl)) rfl
set_option maxRecDepth 20000 in
theorem kw_5_207 : (.methodLink RX1 125 yX1_countOnTime : Cond) ∈ lw_good := lwg (lwT5 (List.mem_of_getElem? (i := 207) rfl)) rfl
set_option maxRecDepth 20000 in
theorem kw_5_209 : (.instanceMethod yX1_countOnTime : Cond) ∈ lw_good := lwg (lwT5 (List.mem_of_getElem? (i := 209) rfl)) rfl
set_option maxRecDepth 20000 in
theorem kw_5_210 : (.code yX1_countOnTime cX1_countOnTime 3 (some .int) : Cond) ∈ lw_good := lwg (lwT5 (List.mem_of_getElem? (i := 210) rfl)) rfl
set_option maxRecDepth 20000 in
theorem kw_5_211 : (.methodLink RX11 203 yX1_settle : Cond) ∈ lw_good := lwg (lwT5 (List.mem_of_getElem? (i := 211) rfl)) rfl
set_option maxRecDepth 20000 in
theorem kw_5_212 : (.instanceMethod yX1_settle : Cond) ∈ lw_good := lwg (lwT5 (List.mem_of_getElem? (i := 212) rfl)) rfl
set_option maxRecDepth 20000 in
theorem kw_5_213 : (.selects RX1 yX1_settle yX1_settle : Cond) ∈ lw_good := lwg (lwT5 (List.mem_of_getElem? (i := 213) rfl)) rfl
set_option maxRecDepth 20000 in
theorem kw_5_214 : (.code yX1_settle cX1_settle 4 none : Cond) ∈ lw_good := lwg (lwT5 (List.mem_of_getElem? (i := 214) rfl)) rfl
set_option maxRecDepth 20000 in
theorem kw_5_215 : (.methodLink RX1 284 yX0_lineFor : Cond) ∈ lw_good := lwg (lwT5 (List.mem_of_getElem? (i := 215) rfl)) rfl
set_option maxRecDepth 20000 in
theorem kw_5_216 : (.methodLink RX1 291 yX1_settlePerson : Cond) ∈ lw_good := lwg (lwT5 (List.mem_of_getElem? (i := 216) rfl)) rfl
set_option maxRecDepth 20000 in
theorem kw_5_218 : (.instanceMethod yX1_settlePerson : Cond) ∈ lw_good := lwg (lwT5 (List.mem_of_getElem? (i := 218) rfl)) rfl
set_option maxRecDepth 20000 in
theorem kw_5_219 : (.code yX1_settlePerson cX1_settlePerson 7 none : Cond) ∈ lw_good := lwg (lwT5 (List.mem_of_getElem? (i := 219) rfl)) rfl
set_option maxRecDepth 20000 in
theorem kw_5_220 : (.constant RX1 307 100000 : Cond) ∈ lw_good := lwg (lwT5 (List.mem_of_getElem? (i := 220) rfl)) rfl
set_option maxRecDepth 20000 in
theorem kw_5_221 : (.methodLink RL 107 yX11_rode : Cond) ∈ lw_good := lwg (lwT5 (List.mem_of_getElem? (i := 221) rfl)) rfl
set_option maxRecDepth 20000 in
theorem kw_5_222 : (.instanceMethod yX11_rode : Cond) ∈ lw_good := lwg (lwT5 (List.mem_of_getElem? (i := 222) rfl)) rfl
set_option maxRecDepth 20000 in
theorem kw_5_223 : (.selects RX11 yX11_rode yX11_rode : Cond) ∈ lw_good := lwg (lwT5 (List.mem_of_getElem? (i := 223) rfl)) rfl
set_option maxRecDepth 20000 in
theorem kw_5_224 : (.code yX11_rode cX11_rode 2 (some .int) : Cond) ∈ lw_good := lwg (lwT5 (List.mem_of_getElem? (i := 224) rfl)) rfl
set_option maxRecDepth 20000 in
theorem kw_5_225 : (.methodLink RL 111 yX11_wheeled : Cond) ∈ lw_good := lwg (lwT5 (List.mem_of_getElem? (i := 225) rfl)) rfl
set_option maxRecDepth 20000 in
theorem kw_5_226 : (.instanceMethod yX11_wheeled : Cond) ∈ lw_good := lwg (lwT5 (List.mem_of_getElem? (i := 226) rfl)) rfl
set_option maxRecDepth 20000 in
theorem kw_5_227 : (.selects RX11 yX11_wheeled yX11_wheeled : Cond) ∈ lw_good := lwg (lwT5 (List.mem_of_getElem? (i := 227) rfl)) rfl
set_option maxRecDepth 20000 in
theorem kw_5_228 : (.code yX11_wheeled cX11_wheeled 3 (some .int) : Cond) ∈ lw_good := lwg (lwT5 (List.mem_of_getElem? (i := 228) rfl)) rfl
set_option maxRecDepth 20000 in
theorem kw_5_229 : (.methodLink RX11 220 yX10_tellOf : Cond) ∈ lw_good := lwg (lwT5 (List.mem_of_getElem? (i := 229) rfl)) rfl
set_option maxRecDepth 20000 in
theorem kw_5_230 : (.instanceMethod yX10_tellOf : Cond) ∈ lw_good := lwg (lwT5 (List.mem_of_getElem? (i := 230) rfl)) rfl
set_option maxRecDepth 20000 in
theorem kw_5_231 : (.selects RX10 yX10_tellOf yX10_tellOf : Cond) ∈ lw_good := lwg (lwT5 (List.mem_of_getElem? (i := 231) rfl)) rfl
set_option maxRecDepth 20000 in
theorem kw_5_232 : (.code yX10_tellOf cX10_tellOf 3 (some .int) : Cond) ∈ lw_good := lwg (lwT5 (List.mem_of_getElem? (i := 232) rfl)) rfl
set_option maxRecDepth 20000 in
theorem kw_5_233 : (.methodLink RL 115 yX11_tried : Cond) ∈ lw_good := lwg (lwT5 (List.mem_of_getElem? (i := 233) rfl)) rfl
set_option maxRecDepth 20000 in
theorem kw_5_234 : (.instanceMethod yX11_tried : Cond) ∈ lw_good := lwg (lwT5 (List.mem_of_getElem? (i := 234) rfl)) rfl
set_option maxRecDepth 20000 in
theorem kw_5_235 : (.selects RX11 yX11_tried yX11_tried : Cond) ∈ lw_good := lwg (lwT5 (List.mem_of_getElem? (i := 235) rfl)) rfl
set_option maxRecDepth 20000 in
theorem kw_5_236 : (.code yX11_tried cX11_tried 2 (some .int) : Cond) ∈ lw_good := lwg (lwT5 (List.mem_of_getElem? (i := 236) rfl)) rfl
set_option maxRecDepth 20000 in
theorem kw_5_237 : (.methodLink RL 119 yX11_seated : Cond) ∈ lw_good := lwg (lwT5 (List.mem_of_getElem? (i := 237) rfl)) rfl
set_option maxRecDepth 20000 in
theorem kw_5_238 : (.instanceMethod yX11_seated : Cond) ∈ lw_good := lwg (lwT5 (List.mem_of_getElem? (i := 238) rfl)) rfl
set_option maxRecDepth 20000 in
theorem kw_5_239 : (.selects RX11 yX11_seated yX11_seated : Cond) ∈ lw_good := lwg (lwT5 (List.mem_of_getElem? (i := 239) rfl)) rfl
set_option maxRecDepth 20000 in
theorem kw_6_0 : (.code yX11_seated cX11_seated 3 (some .int) : Cond) ∈ lw_good := lwg (lwT6 (List.mem_of_getElem? (i := 0) rfl)) rfl
set_option maxRecDepth 20000 in
theorem kw_6_1 : (.methodLink RX11 221 yX11_tapeIsWheels : Cond) ∈ lw_good := lwg (lwT6 (List.mem_of_getElem? (i := 1) rfl)) rfl
set_option maxRecDepth 20000 in
theorem kw_6_3 : (.instanceMethod yX11_tapeIsWheels : Cond) ∈ lw_good := lwg (lwT6 (List.mem_of_getElem? (i := 3) rfl)) rfl
set_option maxRecDepth 20000 in
theorem kw_6_4 : (.code yX11_tapeIsWheels cX11_tapeIsWheels 2 (some .boolean) : Cond) ∈ lw_good := lwg (lwT6 (List.mem_of_getElem? (i := 4) rfl)) rfl
set_option maxRecDepth 20000 in
theorem kw_6_5 : (.methodLink RX11 228 yX11_standsAhead : Cond) ∈ lw_good := lwg (lwT6 (List.mem_of_getElem? (i := 5) rfl)) rfl
set_option maxRecDepth 20000 in
theorem kw_6_7 : (.instanceMethod yX11_standsAhead : Cond) ∈ lw_good := lwg (lwT6 (List.mem_of_getElem? (i := 7) rfl)) rfl
set_option maxRecDepth 20000 in
theorem kw_6_8 : (.code yX11_standsAhead cX11_standsAhead 3 (some .boolean) : Cond) ∈ lw_good := lwg (lwT6 (List.mem_of_getElem? (i := 8) rfl)) rfl
set_option maxRecDepth 20000 in
theorem kw_6_9 : (.methodLink RX11 224 yX5_seat : Cond) ∈ lw_good := lwg (lwT6 (List.mem_of_getElem? (i := 9) rfl)) rfl
set_option maxRecDepth 20000 in
theorem kw_6_10 : (.instanceMethod yX5_seat : Cond) ∈ lw_good := lwg (lwT6 (List.mem_of_getElem? (i := 10) rfl)) rfl
set_option maxRecDepth 20000 in
theorem kw_6_11 : (.selects RX5 yX5_seat yX5_seat : Cond) ∈ lw_good := lwg (lwT6 (List.mem_of_getElem? (i := 11) rfl)) rfl
set_option maxRecDepth 20000 in
theorem kw_6_12 : (.code yX5_seat cX5_seat 4 (some .int) : Cond) ∈ lw_good := lwg (lwT6 (List.mem_of_getElem? (i := 12) rfl)) rfl
set_option maxRecDepth 20000 in
theorem kw_6_13 : (.methodLink RX5 50 yX5_readySeats : Cond) ∈ lw_good := lwg (lwT6 (List.mem_of_getElem? (i := 13) rfl)) rfl
set_option maxRecDepth 20000 in
theorem kw_6_15 : (.instanceMethod yX5_readySeats : Cond) ∈ lw_good := lwg (lwT6 (List.mem_of_getElem? (i := 15) rfl)) rfl
set_option maxRecDepth 20000 in
theorem kw_6_16 : (.code yX5_readySeats cX5_readySeats 5 none : Cond) ∈ lw_good := lwg (lwT6 (List.mem_of_getElem? (i := 16) rfl)) rfl
set_option maxRecDepth 20000 in
theorem kw_6_17 : (.methodLink RX5 54 yX5_readyStops : Cond) ∈ lw_good := lwg (lwT6 (List.mem_of_getElem? (i := 17) rfl)) rfl
set_option maxRecDepth 20000 in
theorem kw_6_19 : (.instanceMethod yX5_readyStops : Cond) ∈ lw_good := lwg (lwT6 (List.mem_of_getElem? (i := 19) rfl)) rfl
set_option maxRecDepth 20000 in
theorem kw_6_20 : (.code yX5_readyStops cX5_readyStops 7 none : Cond) ∈ lw_good := lwg (lwT6 (List.mem_of_getElem? (i := 20) rfl)) rfl
set_option maxRecDepth 20000 in
theorem kw_6_21 : (.methodLink RX5 75 yX7_rainOn : Cond) ∈ lw_good := lwg (lwT6 (List.mem_of_getElem? (i := 21) rfl)) rfl
set_option maxRecDepth 20000 in
theorem kw_6_22 : (.methodLink RX5 79 yJ7_fill_d0a16 : Cond) ∈ lw_good := lwg (lwT6 (List.mem_of_getElem? (i := 22) rfl)) rfl
set_option maxRecDepth 20000 in
theorem kw_6_23 : (.static yJ7_fill_d0a16 : Cond) ∈ lw_good := lwg (lwT6 (List.mem_of_getElem? (i := 23) rfl)) rfl
set_option maxRecDepth 20000 in
theorem kw_6_24 : (.code yJ7_fill_d0a16 cJ7_fill_d0a16 5 none : Cond) ∈ lw_good := lwg (lwT6 (List.mem_of_getElem? (i := 24) rfl)) rfl
set_option maxRecDepth 20000 in
theorem kw_6_25 : (.methodLink RX5 98 yX7_paceFor : Cond) ∈ lw_good := lwg (lwT6 (List.mem_of_getElem? (i := 25) rfl)) rfl
set_option maxRecDepth 20000 in
theorem kw_6_26 : (.methodLink RX5 115 yX4_between : Cond) ∈ lw_good := lwg (lwT6 (List.mem_of_getElem? (i := 26) rfl)) rfl
set_option maxRecDepth 20000 in
theorem kw_6_27 : (.methodLink RX5 121 yX7_minutesFor : Cond) ∈ lw_good := lwg (lwT6 (List.mem_of_getElem? (i := 27) rfl)) rfl
set_option maxRecDepth 20000 in
theorem kw_6_28 : (.methodLink RX5 127 yX5_isCovered : Cond) ∈ lw_good := lwg (lwT6 (List.mem_of_getElem? (i := 28) rfl)) rfl
set_option maxRecDepth 20000 in
theorem kw_6_30 : (.instanceMethod yX5_isCovered : Cond) ∈ lw_good := lwg (lwT6 (List.mem_of_getElem? (i := 30) rfl)) rfl
set_option maxRecDepth 20000 in
theorem kw_6_31 : (.code yX5_isCovered cX5_isCovered 3 (some .boolean) : Cond) ∈ lw_good := lwg (lwT6 (List.mem_of_getElem? (i := 31) rfl)) rfl
set_option maxRecDepth 20000 in
theorem kw_6_32 : (.constantLong RX5 134 (-1) : Cond) ∈ lw_good := lwg (lwT6 (List.mem_of_getElem? (i := 32) rfl)) rfl
set_option maxRecDepth 20000 in
theorem kw_6_33 : (.methodLink RX5 131 yX5_countNear : Cond) ∈ lw_good := lwg (lwT6 (List.mem_of_getElem? (i := 33) rfl)) rfl
set_option maxRecDepth 20000 in
theorem kw_6_35 : (.instanceMethod yX5_countNear : Cond) ∈ lw_good := lwg (lwT6 (List.mem_of_getElem? (i := 35) rfl)) rfl
set_option maxRecDepth 20000 in
theorem kw_6_36 : (.code yX5_countNear cX5_countNear 5 none : Cond) ∈ lw_good := lwg (lwT6 (List.mem_of_getElem? (i := 36) rfl)) rfl
set_option maxRecDepth 20000 in
theorem kw_6_37 : (.methodLink RX5 136 yJ13_bitCount_95d88 : Cond) ∈ lw_good := lwg (lwT6 (List.mem_of_getElem? (i := 37) rfl)) rfl
set_option maxRecDepth 20000 in
theorem kw_6_38 : (.static yJ13_bitCount_95d88 : Cond) ∈ lw_good := lwg (lwT6 (List.mem_of_getElem? (i := 38) rfl)) rfl
set_option maxRecDepth 20000 in
theorem kw_6_39 : (.code yJ13_bitCount_95d88 cJ13_bitCount_95d88 2 (some .int) : Cond) ∈ lw_good := lwg (lwT6 (List.mem_of_getElem? (i := 39) rfl)) rfl
set_option maxRecDepth 20000 in
theorem kw_6_40 : (.constantLong RJ13 314 6148914691236517205 : Cond) ∈ lw_good := lwg (lwT6 (List.mem_of_getElem? (i := 40) rfl)) rfl
set_option maxRecDepth 20000 in
theorem kw_6_41 : (.constantLong RJ13 316 3689348814741910323 : Cond) ∈ lw_good := lwg (lwT6 (List.mem_of_getElem? (i := 41) rfl)) rfl
set_option maxRecDepth 20000 in
theorem kw_6_42 : (.constantLong RJ13 318 1085102592571150095 : Cond) ∈ lw_good := lwg (lwT6 (List.mem_of_getElem? (i := 42) rfl)) rfl
set_option maxRecDepth 20000 in
theorem kw_6_43 : (.methodLink RX5 61 yX5_put : Cond) ∈ lw_good := lwg (lwT6 (List.mem_of_getElem? (i := 43) rfl)) rfl
set_option maxRecDepth 20000 in
theorem kw_6_45 : (.instanceMethod yX5_put : Cond) ∈ lw_good := lwg (lwT6 (List.mem_of_getElem? (i := 45) rfl)) rfl
set_option maxRecDepth 20000 in
theorem kw_6_46 : (.code yX5_put cX5_put 5 none : Cond) ∈ lw_good := lwg (lwT6 (List.mem_of_getElem? (i := 46) rfl)) rfl
set_option maxRecDepth 20000 in
theorem kw_6_47 : (.methodLink RX5 144 yX5_firstPlace : Cond) ∈ lw_good := lwg (lwT6 (List.mem_of_getElem? (i := 47) rfl)) rfl
set_option maxRecDepth 20000 in
theorem kw_6_49 : (.instanceMethod yX5_firstPlace : Cond) ∈ lw_good := lwg (lwT6 (List.mem_of_getElem? (i := 49) rfl)) rfl
set_option maxRecDepth 20000 in
theorem kw_6_50 : (.code yX5_firstPlace cX5_firstPlace 3 (some .int) : Cond) ∈ lw_good := lwg (lwT6 (List.mem_of_getElem? (i := 50) rfl)) rfl
set_option maxRecDepth 20000 in
theorem kw_6_51 : (.methodLink RX5 147 yX5_mostWith : Cond) ∈ lw_good := lwg (lwT6 (List.mem_of_getElem? (i := 51) rfl)) rfl
set_option maxRecDepth 20000 in
theorem kw_6_53 : (.instanceMethod yX5_mostWith : Cond) ∈ lw_good := lwg (lwT6 (List.mem_of_getElem? (i := 53) rfl)) rfl
set_option maxRecDepth 20000 in
theorem kw_6_54 : (.code yX5_mostWith cX5_mostWith 7 (some .int) : Cond) ∈ lw_good := lwg (lwT6 (List.mem_of_getElem? (i := 54) rfl)) rfl
set_option maxRecDepth 20000 in
theorem kw_6_55 : (.methodLink RX5 150 Lib.Math.min.name : Cond) ∈ lw_good := lwg (lwT6 (List.mem_of_getElem? (i := 55) rfl)) rfl
set_option maxRecDepth 20000 in
theorem kw_6_56 : (.methodLink RL 123 yX11_seatedAt : Cond) ∈ lw_good := lwg (lwT6 (List.mem_of_getElem? (i := 56) rfl)) rfl
set_option maxRecDepth 20000 in
theorem kw_6_57 : (.instanceMethod yX11_seatedAt : Cond) ∈ lw_good := lwg (lwT6 (List.mem_of_getElem? (i := 57) rfl)) rfl
set_option maxRecDepth 20000 in
theorem kw_6_58 : (.selects RX11 yX11_seatedAt yX11_seatedAt : Cond) ∈ lw_good := lwg (lwT6 (List.mem_of_getElem? (i := 58) rfl)) rfl
set_option maxRecDepth 20000 in
theorem kw_6_59 : (.code yX11_seatedAt cX11_seatedAt 2 (some .int) : Cond) ∈ lw_good := lwg (lwT6 (List.mem_of_getElem? (i := 59) rfl)) rfl
set_option maxRecDepth 20000 in
theorem kw_6_60 : (.methodLink RL 127 yX11_count : Cond) ∈ lw_good := lwg (lwT6 (List.mem_of_getElem? (i := 60) rfl)) rfl
set_option maxRecDepth 20000 in
theorem kw_6_61 : (.instanceMethod yX11_count : Cond) ∈ lw_good := lwg (lwT6 (List.mem_of_getElem? (i := 61) rfl)) rfl
set_option maxRecDepth 20000 in
theorem kw_6_62 : (.selects RX11 yX11_count yX11_count : Cond) ∈ lw_good := lwg (lwT6 (List.mem_of_getElem? (i := 62) rfl)) rfl
set_option maxRecDepth 20000 in
theorem kw_6_63 : (.code yX11_count cX11_count 2 (some .int) : Cond) ∈ lw_good := lwg (lwT6 (List.mem_of_getElem? (i := 63) rfl)) rfl
set_option maxRecDepth 20000 in
theorem kw_6_64 : (.methodLink RL 101 yL_of : Cond) ∈ lw_good := lwg (lwT6 (List.mem_of_getElem? (i := 64) rfl)) rfl
set_option maxRecDepth 20000 in
theorem kw_6_65 : (.static yL_of : Cond) ∈ lw_good := lwg (lwT6 (List.mem_of_getElem? (i := 65) rfl)) rfl
set_option maxRecDepth 20000 in
theorem kw_6_67 : (.classLink RL 13 "java/util/NoSuchElementException" : Cond) ∈ lw_good := lwg (lwT6 (List.mem_of_getElem? (i := 67) rfl)) rfl
set_option maxRecDepth 20000 in
theorem kw_6_68 : (.methodLink RL 7 yX11_of : Cond) ∈ lw_good := lwg (lwT6 (List.mem_of_getElem? (i := 68) rfl)) rfl
set_option maxRecDepth 20000 in
theorem kw_6_69 : (.instanceMethod yX11_of : Cond) ∈ lw_good := lwg (lwT6 (List.mem_of_getElem? (i := 69) rfl)) rfl
set_option maxRecDepth 20000 in
theorem kw_6_70 : (.selects RX11 yX11_of yX11_of : Cond) ∈ lw_good := lwg (lwT6 (List.mem_of_getElem? (i := 70) rfl)) rfl
set_option maxRecDepth 20000 in
theorem kw_6_71 : (.code yX11_of cX11_of 3 (some .int) : Cond) ∈ lw_good := lwg (lwT6 (List.mem_of_getElem? (i := 71) rfl)) rfl
set_option maxRecDepth 20000 in
theorem kw_6_72 : (.methodLink RX11 206 yX2_has : Cond) ∈ lw_good := lwg (lwT6 (List.mem_of_getElem? (i := 72) rfl)) rfl
set_option maxRecDepth 20000 in
theorem kw_6_73 : (.instanceMethod yX2_has : Cond) ∈ lw_good := lwg (lwT6 (List.mem_of_getElem? (i := 73) rfl)) rfl
set_option maxRecDepth 20000 in
theorem kw_6_74 : (.selects RX2 yX2_has yX2_has : Cond) ∈ lw_good := lwg (lwT6 (List.mem_of_getElem? (i := 74) rfl)) rfl
set_option maxRecDepth 20000 in
theorem kw_6_75 : (.code yX2_has cX2_has 2 (some .boolean) : Cond) ∈ lw_good := lwg (lwT6 (List.mem_of_getElem? (i := 75) rfl)) rfl
set_option maxRecDepth 20000 in
theorem kw_6_76 : (.classLink RX11 207 "java/util/NoSuchElementException" : Cond) ∈ lw_good := lwg (lwT6 (List.mem_of_getElem? (i := 76) rfl)) rfl
set_option maxRecDepth 20000 in
theorem kw_6_142 : (.methodLink RX11 214 yX2_tellOf : Cond) ∈ lw_good := lwg (lwT6 (List.mem_of_getElem? (i := 142) rfl)) rfl
set_option maxRecDepth 20000 in
theorem kw_6_143 : (.instanceMethod yX2_tellOf : Cond) ∈ lw_good := lwg (lwT6 (List.mem_of_getElem? (i := 143) rfl)) rfl
set_option maxRecDepth 20000 in
theorem kw_6_144 : (.selects RX2 yX2_tellOf yX2_tellOf : Cond) ∈ lw_good := lwg (lwT6 (List.mem_of_getElem? (i := 144) rfl)) rfl
set_option maxRecDepth 20000 in
theorem kw_6_145 : (.code yX2_tellOf cX2_tellOf 3 (some .int) : Cond) ∈ lw_good := lwg (lwT6 (List.mem_of_getElem? (i := 145) rfl)) rfl
set_option maxRecDepth 20000 in
theorem kw_6_146 : (.classLink RL 16 RX12 : Cond) ∈ lw_good := lwg (lwT6 (List.mem_of_getElem? (i := 146) rfl)) rfl
set_option maxRecDepth 20000 in
theorem kw_6_147 : (.instantiable RX12 96 : Cond) ∈ lw_good := lwg (lwT6 (List.mem_of_getElem? (i := 147) rfl)) rfl
set_option maxRecDepth 20000 in
theorem kw_6_148 : (.methodLink RL 18 yX12_init : Cond) ∈ lw_good := lwg (lwT6 (List.mem_of_getElem? (i := 148) rfl)) rfl
set_option maxRecDepth 20000 in
theorem kw_6_149 : (.instanceMethod yX12_init : Cond) ∈ lw_good := lwg (lwT6 (List.mem_of_getElem? (i := 149) rfl)) rfl
set_option maxRecDepth 20000 in
theorem kw_6_150 : (.code yX12_init cX12_init 1 none : Cond) ∈ lw_good := lwg (lwT6 (List.mem_of_getElem? (i := 150) rfl)) rfl
set_option maxRecDepth 20000 in
theorem kw_6_151 : (.methodLink RX12 1 objectInit : Cond) ∈ lw_good := lwg (lwT6 (List.mem_of_getElem? (i := 151) rfl)) rfl
set_option maxRecDepth 20000 in
theorem kw_6_152 : (.fieldLink RX12 204 "WalkingTownModel" "thrown" "I" : Cond) ∈ lw_good := lwg (lwT6 (List.mem_of_getElem? (i := 152) rfl)) rfl
set_option maxRecDepth 20000 in
theorem kw_6_153 : (.fieldLink RX12 7 "WalkingTownModel" "tape" "[I" : Cond) ∈ lw_good := lwg (lwT6 (List.mem_of_getElem? (i := 153) rfl)) rfl
set_option maxRecDepth 20000 in
theorem kw_6_154 : (.fieldLink RX12 207 "WalkingTownModel" "taped" "I" : Cond) ∈ lw_good := lwg (lwT6 (List.mem_of_getElem? (i := 154) rfl)) rfl
set_option maxRecDepth 20000 in
theorem kw_6_155 : (.fieldLink RX12 218 "WalkingTownModel" "today" "I" : Cond) ∈ lw_good := lwg (lwT6 (List.mem_of_getElem? (i := 155) rfl)) rfl
set_option maxRecDepth 20000 in
theorem kw_6_156 : (.fieldLink RX12 13 "WalkingTownModel" "far" "[I" : Cond) ∈ lw_good := lwg (lwT6 (List.mem_of_getElem? (i := 156) rfl)) rfl
set_option maxRecDepth 20000 in
theorem kw_6_157 : (.fieldLink RX12 16 "WalkingTownModel" "rains" "[I" : Cond) ∈ lw_good := lwg (lwT6 (List.mem_of_getElem? (i := 157) rfl)) rfl
set_option maxRecDepth 20000 in
theorem kw_6_158 : (.fieldLink RX12 226 "WalkingTownModel" "streets" "I" : Cond) ∈ lw_good := lwg (lwT6 (List.mem_of_getElem? (i := 158) rfl)) rfl
set_option maxRecDepth 20000 in
theorem kw_6_159 : (.fieldLink RX12 244 "WalkingTownModel" "rainMany" "I" : Cond) ∈ lw_good := lwg (lwT6 (List.mem_of_getElem? (i := 159) rfl)) rfl
set_option maxRecDepth 20000 in
theorem kw_6_160 : (.fieldLink RX12 221 "WalkingTownModel" "isMeasured" "Z" : Cond) ∈ lw_good := lwg (lwT6 (List.mem_of_getElem? (i := 160) rfl)) rfl
set_option maxRecDepth 20000 in
theorem kw_6_161 : (.fieldLink RX12 19 "WalkingTownModel" "home" "[I" : Cond) ∈ lw_good := lwg (lwT6 (List.mem_of_getElem? (i := 161) rfl)) rfl
set_option maxRecDepth 20000 in
theorem kw_6_162 : (.fieldLink RX12 22 "WalkingTownModel" "work" "[I" : Cond) ∈ lw_good := lwg (lwT6 (List.mem_of_getElem? (i := 162) rfl)) rfl
set_option maxRecDepth 20000 in
theorem kw_6_163 : (.fieldLink RX12 25 "WalkingTownModel" "wage" "[I" : Cond) ∈ lw_good := lwg (lwT6 (List.mem_of_getElem? (i := 163) rfl)) rfl
set_option maxRecDepth 20000 in
theorem kw_6_164 : (.fieldLink RX12 28 "WalkingTownModel" "leaves" "[I" : Cond) ∈ lw_good := lwg (lwT6 (List.mem_of_getElem? (i := 164) rfl)) rfl
set_option maxRecDepth 20000 in
theorem kw_6_165 : (.fieldLink RX12 31 "WalkingTownModel" "begins" "[I" : Cond) ∈ lw_good := lwg (lwT6 (List.mem_of_getElem? (i := 165) rfl)) rfl
set_option maxRecDepth 20000 in
theorem kw_6_166 : (.fieldLink RX12 34 "WalkingTownModel" "age" "[I" : Cond) ∈ lw_good := lwg (lwT6 (List.mem_of_getElem? (i := 166) rfl)) rfl
set_option maxRecDepth 20000 in
theorem kw_6_167 : (.fieldLink RX12 37 "WalkingTownModel" "shoes" "[I" : Cond) ∈ lw_good := lwg (lwT6 (List.mem_of_getElem? (i := 167) rfl)) rfl
set_option maxRecDepth 20000 in
theorem kw_6_168 : (.fieldLink RX12 40 "WalkingTownModel" "purse" "[I" : Cond) ∈ lw_good := lwg (lwT6 (List.mem_of_getElem? (i := 168) rfl)) rfl
set_option maxRecDepth 20000 in
theorem kw_6_169 : (.fieldLink RX12 43 "WalkingTownModel" "lag" "[I" : Cond) ∈ lw_good := lwg (lwT6 (List.mem_of_getElem? (i := 169) rfl)) rfl
set_option maxRecDepth 20000 in
theorem kw_6_170 : (.fieldLink RX12 46 "WalkingTownModel" "walked" "[I" : Cond) ∈ lw_good := lwg (lwT6 (List.mem_of_getElem? (i := 170) rfl)) rfl
set_option maxRecDepth 20000 in
theorem kw_6_171 : (.fieldLink RX12 49 "WalkingTownModel" "cornerOf" "[I" : Cond) ∈ lw_good := lwg (lwT6 (List.mem_of_getElem? (i := 171) rfl)) rfl
set_option maxRecDepth 20000 in
theorem kw_6_172 : (.fieldLink RX12 52 "WalkingTownModel" "kindOf" "[I" : Cond) ∈ lw_good := lwg (lwT6 (List.mem_of_getElem? (i := 172) rfl)) rfl
set_option maxRecDepth 20000 in
theorem kw_6_173 : (.fieldLink RX12 55 "WalkingTownModel" "base" "[I" : Cond) ∈ lw_good := lwg (lwT6 (List.mem_of_getElem? (i := 173) rfl)) rfl
set_option maxRecDepth 20000 in
theorem kw_6_174 : (.fieldLink RX12 58 "WalkingTownModel" "seats" "[I" : Cond) ∈ lw_good := lwg (lwT6 (List.mem_of_getElem? (i := 174) rfl)) rfl
set_option maxRecDepth 20000 in
theorem kw_6_175 : (.fieldLink RX12 61 "WalkingTownModel" "insured" "[I" : Cond) ∈ lw_good := lwg (lwT6 (List.mem_of_getElem? (i := 175) rfl)) rfl
set_option maxRecDepth 20000 in
theorem kw_6_176 : (.fieldLink RX12 64 "WalkingTownModel" "coin" "[I" : Cond) ∈ lw_good := lwg (lwT6 (List.mem_of_getElem? (i := 176) rfl)) rfl
set_option maxRecDepth 20000 in
theorem kw_6_177 : (.fieldLink RX12 67 "WalkingTownModel" "wheelOf" "[I" : Cond) ∈ lw_good := lwg (lwT6 (List.mem_of_getElem? (i := 177) rfl)) rfl
set_option maxRecDepth 20000 in
theorem kw_6_178 : (.fieldLink RX12 70 "WalkingTownModel" "fromOf" "[I" : Cond) ∈ lw_good := lwg (lwT6 (List.mem_of_getElem? (i := 178) rfl)) rfl
set_option maxRecDepth 20000 in
theorem kw_6_179 : (.fieldLink RX12 73 "WalkingTownModel" "toOf" "[I" : Cond) ∈ lw_good := lwg (lwT6 (List.mem_of_getElem? (i := 179) rfl)) rfl
set_option maxRecDepth 20000 in
theorem kw_6_180 : (.fieldLink RX12 76 "WalkingTownModel" "minuteOf" "[I" : Cond) ∈ lw_good := lwg (lwT6 (List.mem_of_getElem? (i := 180) rfl)) rfl
set_option maxRecDepth 20000 in
theorem kw_6_181 : (.fieldLink RX12 79 "WalkingTownModel" "firstDay" "[I" : Cond) ∈ lw_good := lwg (lwT6 (List.mem_of_getElem? (i := 181) rfl)) rfl
set_option maxRecDepth 20000 in
theorem kw_6_182 : (.fieldLink RX12 82 "WalkingTownModel" "lastDay" "[I" : Cond) ∈ lw_good := lwg (lwT6 (List.mem_of_getElem? (i := 182) rfl)) rfl
set_option maxRecDepth 20000 in
theorem kw_6_183 : (.fieldLink RX12 85 "WalkingTownModel" "toldOn" "[I" : Cond) ∈ lw_good := lwg (lwT6 (List.mem_of_getElem? (i := 183) rfl)) rfl
set_option maxRecDepth 20000 in
theorem kw_6_184 : (.fieldLink RX12 254 "WalkingTownModel" "persons" "I" : Cond) ∈ lw_good := lwg (lwT6 (List.mem_of_getElem? (i := 184) rfl)) rfl
set_option maxRecDepth 20000 in
theorem kw_6_185 : (.fieldLink RX12 260 "WalkingTownModel" "stops" "I" : Cond) ∈ lw_good := lwg (lwT6 (List.mem_of_getElem? (i := 185) rfl)) rfl
set_option maxRecDepth 20000 in
theorem kw_6_186 : (.fieldLink RX12 263 "WalkingTownModel" "wheels" "I" : Cond) ∈ lw_good := lwg (lwT6 (List.mem_of_getElem? (i := 186) rfl)) rfl
set_option maxRecDepth 20000 in
theorem kw_6_187 : (.fieldLink RX12 269 "WalkingTownModel" "trips" "I" : Cond) ∈ lw_good := lwg (lwT6 (List.mem_of_getElem? (i := 187) rfl)) rfl
set_option maxRecDepth 20000 in
theorem kw_6_188 : (.fieldLink RX12 272 "WalkingTownModel" "fund" "I" : Cond) ∈ lw_good := lwg (lwT6 (List.mem_of_getElem? (i := 188) rfl)) rfl
set_option maxRecDepth 20000 in
theorem kw_6_189 : (.fieldLink RX12 279 "WalkingTownModel" "size" "I" : Cond) ∈ lw_good := lwg (lwT6 (List.mem_of_getElem? (i := 189) rfl)) rfl
set_option maxRecDepth 20000 in
theorem kw_6_190 : (.fieldLink RX12 282 "WalkingTownModel" "to" "I" : Cond) ∈ lw_good := lwg (lwT6 (List.mem_of_getElem? (i := 190) rfl)) rfl
set_option maxRecDepth 20000 in
theorem kw_6_191 : (.fieldLink RX12 285 "WalkingTownModel" "from" "I" : Cond) ∈ lw_good := lwg (lwT6 (List.mem_of_getElem? (i := 191) rfl)) rfl
set_option maxRecDepth 20000 in
theorem kw_6_192 : (.fieldLink RX12 288 "WalkingTownModel" "kind" "I" : Cond) ∈ lw_good := lwg (lwT6 (List.mem_of_getElem? (i := 192) rfl)) rfl
set_option maxRecDepth 20000 in
theorem kw_6_193 : (.fieldLink RX12 307 "WalkingTownModel" "number" "I" : Cond) ∈ lw_good := lwg (lwT6 (List.mem_of_getElem? (i := 193) rfl)) rfl
set_option maxRecDepth 20000 in
theorem kw_6_194 : (.fieldLink RX12 300 "WalkingTownModel" "sign" "I" : Cond) ∈ lw_good := lwg (lwT6 (List.mem_of_getElem? (i := 194) rfl)) rfl
set_option maxRecDepth 20000 in
theorem kw_6_195 : (.fieldLink RX12 317 "WalkingTownModel" "fault" "I" : Cond) ∈ lw_good := lwg (lwT6 (List.mem_of_getElem? (i := 195) rfl)) rfl
set_option maxRecDepth 20000 in
theorem kw_6_196 : (.fieldLink RX12 320 "WalkingTownModel" "place" "I" : Cond) ∈ lw_good := lwg (lwT6 (List.mem_of_getElem? (i := 196) rfl)) rfl
set_option maxRecDepth 20000 in
theorem kw_6_197 : (.fieldLink RX12 388 "WalkingTownModel" "told" "I" : Cond) ∈ lw_good := lwg (lwT6 (List.mem_of_getElem? (i := 197) rfl)) rfl
set_option maxRecDepth 20000 in
theorem kw_6_198 : (.fieldLink RX12 303 "WalkingTownModel" "word" "J" : Cond) ∈ lw_good := lwg (lwT6 (List.mem_of_getElem? (i := 198) rfl)) rfl
set_option maxRecDepth 20000 in
theorem kw_6_199 : (.fieldLink RX12 88 "WalkingTownModel" "linesOf" "[I" : Cond) ∈ lw_good := lwg (lwT6 (List.mem_of_getElem? (i := 199) rfl)) rfl
set_option maxRecDepth 20000 in
theorem kw_6_200 : (.fieldLink RX12 91 "WalkingTownModel" "dockOf" "[I" : Cond) ∈ lw_good := lwg (lwT6 (List.mem_of_getElem? (i := 200) rfl)) rfl
set_option maxRecDepth 20000 in
theorem kw_6_201 : (.fieldLink RX12 94 "WalkingTownModel" "fromDay" "[I" : Cond) ∈ lw_good := lwg (lwT6 (List.mem_of_getElem? (i := 201) rfl)) rfl
set_option maxRecDepth 20000 in
theorem kw_6_202 : (.fieldLink RX12 97 "WalkingTownModel" "sort" "[I" : Cond) ∈ lw_good := lwg (lwT6 (List.mem_of_getElem? (i := 202) rfl)) rfl
set_option maxRecDepth 20000 in
theorem kw_6_203 : (.fieldLink RX12 100 "WalkingTownModel" "amount" "[I" : Cond) ∈ lw_good := lwg (lwT6 (List.mem_of_getElem? (i := 203) rfl)) rfl
set_option maxRecDepth 20000 in
theorem kw_6_204 : (.fieldLink RX12 103 "WalkingTownModel" "condFrom" "[I" : Cond) ∈ lw_good := lwg (lwT6 (List.mem_of_getElem? (i := 204) rfl)) rfl
set_option maxRecDepth 20000 in
theorem kw_6_205 : (.fieldLink RX12 106 "WalkingTownModel" "condTo" "[I" : Cond) ∈ lw_good := lwg (lwT6 (List.mem_of_getElem? (i := 205) rfl)) rfl
set_option maxRecDepth 20000 in
theorem kw_6_206 : (.fieldLink RX12 109 "WalkingTownModel" "piece" "[I" : Cond) ∈ lw_good := lwg (lwT6 (List.mem_of_getElem? (i := 206) rfl)) rfl
set_option maxRecDepth 20000 in
theorem kw_6_207 : (.fieldLink RX12 112 "WalkingTownModel" "pieceSign" "[I" : Cond) ∈ lw_good := lwg (lwT6 (List.mem_of_getElem? (i := 207) rfl)) rfl
set_option maxRecDepth 20000 in
theorem kw_6_208 : (.fieldLink RX12 115 "WalkingTownModel" "pieceNumber" "[I" : Cond) ∈ lw_good := lwg (lwT6 (List.mem_of_getElem? (i := 208) rfl)) rfl
set_option maxRecDepth 20000 in
theorem kw_6_209 : (.fieldLink RX12 118 "WalkingTownModel" "pile" "[I" : Cond) ∈ lw_good := lwg (lwT6 (List.mem_of_getElem? (i := 209) rfl)) rfl
set_option maxRecDepth 20000 in
theorem kw_6_210 : (.fieldLink RX12 394 "WalkingTownModel" "bylaws" "I" : Cond) ∈ lw_good := lwg (lwT6 (List.mem_of_getElem? (i := 210) rfl)) rfl
set_option maxRecDepth 20000 in
theorem kw_6_211 : (.fieldLink RX12 385 "WalkingTownModel" "lines" "I" : Cond) ∈ lw_good := lwg (lwT6 (List.mem_of_getElem? (i := 211) rfl)) rfl
set_option maxRecDepth 20000 in
theorem kw_6_212 : (.fieldLink RX12 337 "WalkingTownModel" "pieces" "I" : Cond) ∈ lw_good := lwg (lwT6 (List.mem_of_getElem? (i := 212) rfl)) rfl
set_option maxRecDepth 20000 in
theorem kw_6_213 : (.fieldLink RX12 340 "WalkingTownModel" "top" "I" : Cond) ∈ lw_good := lwg (lwT6 (List.mem_of_getElem? (i := 213) rfl)) rfl
set_option maxRecDepth 20000 in
theorem kw_6_214 : (.fieldLink RX12 360 "WalkingTownModel" "ones" "I" : Cond) ∈ lw_good := lwg (lwT6 (List.mem_of_getElem? (i := 214) rfl)) rfl
set_option maxRecDepth 20000 in
theorem kw_6_215 : (.fieldLink RX12 363 "WalkingTownModel" "within" "I" : Cond) ∈ lw_good := lwg (lwT6 (List.mem_of_getElem? (i := 215) rfl)) rfl
set_option maxRecDepth 20000 in
theorem kw_6_216 : (.fieldLink RX12 121 "WalkingTownModel" "fact" "[I" : Cond) ∈ lw_good := lwg (lwT6 (List.mem_of_getElem? (i := 216) rfl)) rfl
set_option maxRecDepth 20000 in
theorem kw_6_217 : (.fieldLink RX12 124 "WalkingTownModel" "value" "[Z" : Cond) ∈ lw_good := lwg (lwT6 (List.mem_of_getElem? (i := 217) rfl)) rfl
set_option maxRecDepth 20000 in
theorem kw_6_218 : (.fieldLink RX12 128 "WalkingTownModel" "teller" "I" : Cond) ∈ lw_good := lwg (lwT6 (List.mem_of_getElem? (i := 218) rfl)) rfl
set_option maxRecDepth 20000 in
theorem kw_6_219 : (.fieldLink RX12 132 "WalkingTownModel" "why" "I" : Cond) ∈ lw_good := lwg (lwT6 (List.mem_of_getElem? (i := 219) rfl)) rfl
set_option maxRecDepth 20000 in
theorem kw_6_220 : (.fieldLink RX12 135 "WalkingTownModel" "state" "[I" : Cond) ∈ lw_good := lwg (lwT6 (List.mem_of_getElem? (i := 220) rfl)) rfl
set_option maxRecDepth 20000 in
theorem kw_6_221 : (.fieldLink RX12 138 "WalkingTownModel" "where" "[I" : Cond) ∈ lw_good := lwg (lwT6 (List.mem_of_getElem? (i := 221) rfl)) rfl
set_option maxRecDepth 20000 in
theorem kw_6_222 : (.fieldLink RX12 141 "WalkingTownModel" "until" "[I" : Cond) ∈ lw_good := lwg (lwT6 (List.mem_of_getElem? (i := 222) rfl)) rfl
set_option maxRecDepth 20000 in
theorem kw_6_223 : (.fieldLink RX12 144 "WalkingTownModel" "wants" "[I" : Cond) ∈ lw_good := lwg (lwT6 (List.mem_of_getElem? (i := 223) rfl)) rfl
set_option maxRecDepth 20000 in
theorem kw_6_224 : (.fieldLink RX12 147 "WalkingTownModel" "came" "[I" : Cond) ∈ lw_good := lwg (lwT6 (List.mem_of_getElem? (i := 224) rfl)) rfl
set_option maxRecDepth 20000 in
theorem kw_6_225 : (.fieldLink RX12 150 "WalkingTownModel" "late" "[I" : Cond) ∈ lw_good := lwg (lwT6 (List.mem_of_getElem? (i := 225) rfl)) rfl
set_option maxRecDepth 20000 in
theorem kw_6_226 : (.fieldLink RX12 153 "WalkingTownModel" "walkedNow" "[I" : Cond) ∈ lw_good := lwg (lwT6 (List.mem_of_getElem? (i := 226) rfl)) rfl
set_option maxRecDepth 20000 in
theorem kw_6_227 : (.fieldLink RX12 156 "WalkingTownModel" "rides" "[I" : Cond) ∈ lw_good := lwg (lwT6 (List.mem_of_getElem? (i := 227) rfl)) rfl
set_option maxRecDepth 20000 in
theorem kw_6_228 : (.fieldLink RX12 159 "WalkingTownModel" "atStop" "[I" : Cond) ∈ lw_good := lwg (lwT6 (List.mem_of_getElem? (i := 228) rfl)) rfl
set_option maxRecDepth 20000 in
theorem kw_6_229 : (.fieldLink RX12 162 "WalkingTownModel" "comes" "[I" : Cond) ∈ lw_good := lwg (lwT6 (List.mem_of_getElem? (i := 229) rfl)) rfl
set_option maxRecDepth 20000 in
theorem kw_6_230 : (.fieldLink RX12 165 "WalkingTownModel" "stopped" "[I" : Cond) ∈ lw_good := lwg (lwT6 (List.mem_of_getElem? (i := 230) rfl)) rfl
set_option maxRecDepth 20000 in
theorem kw_6_231 : (.fieldLink RX12 168 "WalkingTownModel" "gone" "[I" : Cond) ∈ lw_good := lwg (lwT6 (List.mem_of_getElem? (i := 231) rfl)) rfl
set_option maxRecDepth 20000 in
theorem kw_6_232 : (.fieldLink RX12 171 "WalkingTownModel" "rode" "[I" : Cond) ∈ lw_good := lwg (lwT6 (List.mem_of_getElem? (i := 232) rfl)) rfl
set_option maxRecDepth 20000 in
theorem kw_6_233 : (.fieldLink RX12 174 "WalkingTownModel" "left" "[I" : Cond) ∈ lw_good := lwg (lwT6 (List.mem_of_getElem? (i := 233) rfl)) rfl
set_option maxRecDepth 20000 in
theorem kw_6_234 : (.fieldLink RX12 177 "WalkingTownModel" "atWork" "[I" : Cond) ∈ lw_good := lwg (lwT6 (List.mem_of_getElem? (i := 234) rfl)) rfl
set_option maxRecDepth 20000 in
theorem kw_6_235 : (.fieldLink RX12 180 "WalkingTownModel" "byMinute" "[I" : Cond) ∈ lw_good := lwg (lwT6 (List.mem_of_getElem? (i := 235) rfl)) rfl
set_option maxRecDepth 20000 in
theorem kw_6_236 : (.fieldLink RX12 423 "WalkingTownModel" "without" "I" : Cond) ∈ lw_good := lwg (lwT6 (List.mem_of_getElem? (i := 236) rfl)) rfl
set_option maxRecDepth 20000 in
theorem kw_6_237 : (.fieldLink RX12 443 "WalkingTownModel" "minute" "I" : Cond) ∈ lw_good := lwg (lwT6 (List.mem_of_getElem? (i := 237) rfl)) rfl
set_option maxRecDepth 20000 in
theorem kw_6_238 : (.fieldLink RX12 183 "WalkingTownModel" "morningDay" "I" : Cond) ∈ lw_good := lwg (lwT6 (List.mem_of_getElem? (i := 238) rfl)) rfl
set_option maxRecDepth 20000 in
theorem kw_6_239 : (.fieldLink RX12 429 "WalkingTownModel" "runs" "I" : Cond) ∈ lw_good := lwg (lwT6 (List.mem_of_getElem? (i := 239) rfl)) rfl
set_option maxRecDepth 20000 in
theorem kw_7_0 : (.fieldLink RX12 186 "WalkingTownModel" "kept" "[I" : Cond) ∈ lw_good := lwg (lwT7 (List.mem_of_getElem? (i := 0) rfl)) rfl
set_option maxRecDepth 20000 in
theorem kw_7_1 : (.fieldLink RX12 474 "WalkingTownModel" "keptMany" "I" : Cond) ∈ lw_good := lwg (lwT7 (List.mem_of_getElem? (i := 1) rfl)) rfl
set_option maxRecDepth 20000 in
theorem kw_7_2 : (.fieldLink RX12 189 "WalkingTownModel" "near" "[I" : Cond) ∈ lw_good := lwg (lwT7 (List.mem_of_getElem? (i := 2) rfl)) rfl
set_option maxRecDepth 20000 in
theorem kw_7_3 : (.fieldLink RX12 192 "WalkingTownModel" "put" "[I" : Cond) ∈ lw_good := lwg (lwT7 (List.mem_of_getElem? (i := 3) rfl)) rfl
set_option maxRecDepth 20000 in
theorem kw_7_4 : (.fieldLink RX12 195 "WalkingTownModel" "seatedStop" "[I" : Cond) ∈ lw_good := lwg (lwT7 (List.mem_of_getElem? (i := 4) rfl)) rfl
set_option maxRecDepth 20000 in
theorem kw_7_5 : (.fieldLink RX12 198 "WalkingTownModel" "seatsAt" "[I" : Cond) ∈ lw_good := lwg (lwT7 (List.mem_of_getElem? (i := 5) rfl)) rfl
set_option maxRecDepth 20000 in
theorem kw_7_6 : (.fieldLink RX12 201 "WalkingTownModel" "reach" "[I" : Cond) ∈ lw_good := lwg (lwT7 (List.mem_of_getElem? (i := 6) rfl)) rfl
set_option maxRecDepth 20000 in
theorem kw_7_7 : (.fieldLink RX12 490 "WalkingTownModel" "seatedMany" "I" : Cond) ∈ lw_good := lwg (lwT7 (List.mem_of_getElem? (i := 7) rfl)) rfl
set_option maxRecDepth 20000 in
theorem kw_7_8 : (.lays RX12 "WalkingTownModel" "thrown" "I" : Cond) ∈ lw_good := lwg (lwT7 (List.mem_of_getElem? (i := 8) rfl)) rfl
set_option maxRecDepth 20000 in
theorem kw_7_10 : (.laysFinal RX12 "WalkingTownModel" "tape" "[I" : Cond) ∈ lw_good := lwg (lwT7 (List.mem_of_getElem? (i := 10) rfl)) rfl
set_option maxRecDepth 20000 in
theorem kw_7_12 : (.lays RX12 "WalkingTownModel" "taped" "I" : Cond) ∈ lw_good := lwg (lwT7 (List.mem_of_getElem? (i := 12) rfl)) rfl
set_option maxRecDepth 20000 in
theorem kw_7_14 : (.lays RX12 "WalkingTownModel" "today" "I" : Cond) ∈ lw_good := lwg (lwT7 (List.mem_of_getElem? (i := 14) rfl)) rfl
set_option maxRecDepth 20000 in
theorem kw_7_16 : (.laysFinal RX12 "WalkingTownModel" "far" "[I" : Cond) ∈ lw_good := lwg (lwT7 (List.mem_of_getElem? (i := 16) rfl)) rfl
set_option maxRecDepth 20000 in
theorem kw_7_18 : (.laysFinal RX12 "WalkingTownModel" "rains" "[I" : Cond) ∈ lw_good := lwg (lwT7 (List.mem_of_getElem? (i := 18) rfl)) rfl
set_option maxRecDepth 20000 in
theorem kw_7_20 : (.lays RX12 "WalkingTownModel" "streets" "I" : Cond) ∈ lw_good := lwg (lwT7 (List.mem_of_getElem? (i := 20) rfl)) rfl
set_option maxRecDepth 20000 in
theorem kw_7_22 : (.lays RX12 "WalkingTownModel" "rainMany" "I" : Cond) ∈ lw_good := lwg (lwT7 (List.mem_of_getElem? (i := 22) rfl)) rfl
set_option maxRecDepth 20000 in
theorem kw_7_24 : (.lays RX12 "WalkingTownModel" "isMeasured" "Z" : Cond) ∈ lw_good := lwg (lwT7 (List.mem_of_getElem? (i := 24) rfl)) rfl
set_option maxRecDepth 20000 in
theorem kw_7_26 : (.laysFinal RX12 "WalkingTownModel" "home" "[I" : Cond) ∈ lw_good := lwg (lwT7 (List.mem_of_getElem? (i := 26) rfl)) rfl
set_option maxRecDepth 20000 in
theorem kw_7_28 : (.laysFinal RX12 "WalkingTownModel" "work" "[I" : Cond) ∈ lw_good := lwg (lwT7 (List.mem_of_getElem? (i := 28) rfl)) rfl
set_option maxRecDepth 20000 in
theorem kw_7_30 : (.laysFinal RX12 "WalkingTownModel" "wage" "[I" : Cond) ∈ lw_good := lwg (lwT7 (List.mem_of_getElem? (i := 30) rfl)) rfl
set_option maxRecDepth 20000 in
theorem kw_7_32 : (.laysFinal RX12 "WalkingTownModel" "leaves" "[I" : Cond) ∈ lw_good := lwg (lwT7 (List.mem_of_getElem? (i := 32) rfl)) rfl
set_option maxRecDepth 20000 in
theorem kw_7_34 : (.laysFinal RX12 "WalkingTownModel" "begins" "[I" : Cond) ∈ lw_good := lwg (lwT7 (List.mem_of_getElem? (i := 34) rfl)) rfl
set_option maxRecDepth 20000 in
theorem kw_7_36 : (.laysFinal RX12 "WalkingTownModel" "age" "[I" : Cond) ∈ lw_good := lwg (lwT7 (List.mem_of_getElem? (i := 36) rfl)) rfl
set_option maxRecDepth 20000 in
theorem kw_7_38 : (.laysFinal RX12 "WalkingTownModel" "shoes" "[I" : Cond) ∈ lw_good := lwg (lwT7 (List.mem_of_getElem? (i := 38) rfl)) rfl
set_option maxRecDepth 20000 in
theorem kw_7_40 : (.laysFinal RX12 "WalkingTownModel" "purse" "[I" : Cond) ∈ lw_good := lwg (lwT7 (List.mem_of_getElem? (i := 40) rfl)) rfl
set_option maxRecDepth 20000 in
theorem kw_7_42 : (.laysFinal RX12 "WalkingTownModel" "lag" "[I" : Cond) ∈ lw_good := lwg (lwT7 (List.mem_of_getElem? (i := 42) rfl)) rfl
set_option maxRecDepth 20000 in
theorem kw_7_44 : (.laysFinal RX12 "WalkingTownModel" "walked" "[I" : Cond) ∈ lw_good := lwg (lwT7 (List.mem_of_getElem? (i := 44) rfl)) rfl
set_option maxRecDepth 20000 in
theorem kw_7_46 : (.laysFinal RX12 "WalkingTownModel" "cornerOf" "[I" : Cond) ∈ lw_good := lwg (lwT7 (List.mem_of_getElem? (i := 46) rfl)) rfl
set_option maxRecDepth 20000 in
theorem kw_7_48 : (.laysFinal RX12 "WalkingTownModel" "kindOf" "[I" : Cond) ∈ lw_good := lwg (lwT7 (List.mem_of_getElem? (i := 48) rfl)) rfl
set_option maxRecDepth 20000 in
theorem kw_7_50 : (.laysFinal RX12 "WalkingTownModel" "base" "[I" : Cond) ∈ lw_good := lwg (lwT7 (List.mem_of_getElem? (i := 50) rfl)) rfl
set_option maxRecDepth 20000 in
theorem kw_7_52 : (.laysFinal RX12 "WalkingTownModel" "seats" "[I" : Cond) ∈ lw_good := lwg (lwT7 (List.mem_of_getElem? (i := 52) rfl)) rfl
set_option maxRecDepth 20000 in
theorem kw_7_54 : (.laysFinal RX12 "WalkingTownModel" "insured" "[I" : Cond) ∈ lw_good := lwg (lwT7 (List.mem_of_getElem? (i := 54) rfl)) rfl
set_option maxRecDepth 20000 in
theorem kw_7_56 : (.laysFinal RX12 "WalkingTownModel" "coin" "[I" : Cond) ∈ lw_good := lwg (lwT7 (List.mem_of_getElem? (i := 56) rfl)) rfl
set_option maxRecDepth 20000 in
theorem kw_7_58 : (.laysFinal RX12 "WalkingTownModel" "wheelOf" "[I" : Cond) ∈ lw_good := lwg (lwT7 (List.mem_of_getElem? (i := 58) rfl)) rfl
set_option maxRecDepth 20000 in
theorem kw_7_60 : (.laysFinal RX12 "WalkingTownModel" "fromOf" "[I" : Cond) ∈ lw_good := lwg (lwT7 (List.mem_of_getElem? (i := 60) rfl)) rfl
set_option maxRecDepth 20000 in
theorem kw_7_62 : (.laysFinal RX12 "WalkingTownModel" "toOf" "[I" : Cond) ∈ lw_good := lwg (lwT7 (List.mem_of_getElem? (i := 62) rfl)) rfl
set_option maxRecDepth 20000 in
theorem kw_7_64 : (.laysFinal RX12 "WalkingTownModel" "minuteOf" "[I" : Cond) ∈ lw_good := lwg (lwT7 (List.mem_of_getElem? (i := 64) rfl)) rfl
set_option maxRecDepth 20000 in
theorem kw_7_66 : (.laysFinal RX12 "WalkingTownModel" "firstDay" "[I" : Cond) ∈ lw_good := lwg (lwT7 (List.mem_of_getElem? (i := 66) rfl)) rfl
set_option maxRecDepth 20000 in
theorem kw_7_68 : (.laysFinal RX12 "WalkingTownModel" "lastDay" "[I" : Cond) ∈ lw_good := lwg (lwT7 (List.mem_of_getElem? (i := 68) rfl)) rfl
set_option maxRecDepth 20000 in
theorem kw_7_70 : (.laysFinal RX12 "WalkingTownModel" "toldOn" "[I" : Cond) ∈ lw_good := lwg (lwT7 (List.mem_of_getElem? (i := 70) rfl)) rfl
set_option maxRecDepth 20000 in
theorem kw_7_72 : (.lays RX12 "WalkingTownModel" "persons" "I" : Cond) ∈ lw_good := lwg (lwT7 (List.mem_of_getElem? (i := 72) rfl)) rfl
set_option maxRecDepth 20000 in
theorem kw_7_74 : (.lays RX12 "WalkingTownModel" "stops" "I" : Cond) ∈ lw_good := lwg (lwT7 (List.mem_of_getElem? (i := 74) rfl)) rfl
set_option maxRecDepth 20000 in
theorem kw_7_76 : (.lays RX12 "WalkingTownModel" "wheels" "I" : Cond) ∈ lw_good := lwg (lwT7 (List.mem_of_getElem? (i := 76) rfl)) rfl
set_option maxRecDepth 20000 in
theorem kw_7_78 : (.lays RX12 "WalkingTownModel" "trips" "I" : Cond) ∈ lw_good := lwg (lwT7 (List.mem_of_getElem? (i := 78) rfl)) rfl
set_option maxRecDepth 20000 in
theorem kw_7_80 : (.lays RX12 "WalkingTownModel" "fund" "I" : Cond) ∈ lw_good := lwg (lwT7 (List.mem_of_getElem? (i := 80) rfl)) rfl
set_option maxRecDepth 20000 in
theorem kw_7_82 : (.lays RX12 "WalkingTownModel" "size" "I" : Cond) ∈ lw_good := lwg (lwT7 (List.mem_of_getElem? (i := 82) rfl)) rfl
set_option maxRecDepth 20000 in
theorem kw_7_84 : (.lays RX12 "WalkingTownModel" "to" "I" : Cond) ∈ lw_good := lwg (lwT7 (List.mem_of_getElem? (i := 84) rfl)) rfl
set_option maxRecDepth 20000 in
theorem kw_7_86 : (.lays RX12 "WalkingTownModel" "from" "I" : Cond) ∈ lw_good := lwg (lwT7 (List.mem_of_getElem? (i := 86) rfl)) rfl
set_option maxRecDepth 20000 in
theorem kw_7_88 : (.lays RX12 "WalkingTownModel" "kind" "I" : Cond) ∈ lw_good := lwg (lwT7 (List.mem_of_getElem? (i := 88) rfl)) rfl
set_option maxRecDepth 20000 in
theorem kw_7_90 : (.lays RX12 "WalkingTownModel" "number" "I" : Cond) ∈ lw_good := lwg (lwT7 (List.mem_of_getElem? (i := 90) rfl)) rfl
set_option maxRecDepth 20000 in
theorem kw_7_92 : (.lays RX12 "WalkingTownModel" "sign" "I" : Cond) ∈ lw_good := lwg (lwT7 (List.mem_of_getElem? (i := 92) rfl)) rfl
set_option maxRecDepth 20000 in
theorem kw_7_94 : (.lays RX12 "WalkingTownModel" "fault" "I" : Cond) ∈ lw_good := lwg (lwT7 (List.mem_of_getElem? (i := 94) rfl)) rfl
set_option maxRecDepth 20000 in
theorem kw_7_96 : (.lays RX12 "WalkingTownModel" "place" "I" : Cond) ∈ lw_good := lwg (lwT7 (List.mem_of_getElem? (i := 96) rfl)) rfl
set_option maxRecDepth 20000 in
theorem kw_7_98 : (.lays RX12 "WalkingTownModel" "told" "I" : Cond) ∈ lw_good := lwg (lwT7 (List.mem_of_getElem? (i := 98) rfl)) rfl
set_option maxRecDepth 20000 in
theorem kw_7_100 : (.lays RX12 "WalkingTownModel" "word" "J" : Cond) ∈ lw_good := lwg (lwT7 (List.mem_of_getElem? (i := 100) rfl)) rfl
set_option maxRecDepth 20000 in
theorem kw_7_102 : (.laysFinal RX12 "WalkingTownModel" "linesOf" "[I" : Cond) ∈ lw_good := lwg (lwT7 (List.mem_of_getElem? (i := 102) rfl)) rfl
set_option maxRecDepth 20000 in
theorem kw_7_104 : (.laysFinal RX12 "WalkingTownModel" "dockOf" "[I" : Cond) ∈ lw_good := lwg (lwT7 (List.mem_of_getElem? (i := 104) rfl)) rfl
set_option maxRecDepth 20000 in
theorem kw_7_106 : (.laysFinal RX12 "WalkingTownModel" "fromDay" "[I" : Cond) ∈ lw_good := lwg (lwT7 (List.mem_of_getElem? (i := 106) rfl)) rfl
set_option maxRecDepth 20000 in
theorem kw_7_108 : (.laysFinal RX12 "WalkingTownModel" "sort" "[I" : Cond) ∈ lw_good := lwg (lwT7 (List.mem_of_getElem? (i := 108) rfl)) rfl
set_option maxRecDepth 20000 in
theorem kw_7_110 : (.laysFinal RX12 "WalkingTownModel" "amount" "[I" : Cond) ∈ lw_good := lwg (lwT7 (List.mem_of_getElem? (i := 110) rfl)) rfl
set_option maxRecDepth 20000 in
theorem kw_7_112 : (.laysFinal RX12 "WalkingTownModel" "condFrom" "[I" : Cond) ∈ lw_good := lwg (lwT7 (List.mem_of_getElem? (i := 112) rfl)) rfl
set_option maxRecDepth 20000 in
theorem kw_7_114 : (.laysFinal RX12 "WalkingTownModel" "condTo" "[I" : Cond) ∈ lw_good := lwg (lwT7 (List.mem_of_getElem? (i := 114) rfl)) rfl
set_option maxRecDepth 20000 in
theorem kw_7_116 : (.laysFinal RX12 "WalkingTownModel" "piece" "[I" : Cond) ∈ lw_good := lwg (lwT7 (List.mem_of_getElem? (i := 116) rfl)) rfl
set_option maxRecDepth 20000 in
theorem kw_7_118 : (.laysFinal RX12 "WalkingTownModel" "pieceSign" "[I" : Cond) ∈ lw_good := lwg (lwT7 (List.mem_of_getElem? (i := 118) rfl)) rfl
set_option maxRecDepth 20000 in
theorem kw_7_120 : (.laysFinal RX12 "WalkingTownModel" "pieceNumber" "[I" : Cond) ∈ lw_good := lwg (lwT7 (List.mem_of_getElem? (i := 120) rfl)) rfl
set_option maxRecDepth 20000 in
theorem kw_7_122 : (.laysFinal RX12 "WalkingTownModel" "pile" "[I" : Cond) ∈ lw_good := lwg (lwT7 (List.mem_of_getElem? (i := 122) rfl)) rfl
set_option maxRecDepth 20000 in
theorem kw_7_124 : (.lays RX12 "WalkingTownModel" "bylaws" "I" : Cond) ∈ lw_good := lwg (lwT7 (List.mem_of_getElem? (i := 124) rfl)) rfl
set_option maxRecDepth 20000 in
theorem kw_7_126 : (.lays RX12 "WalkingTownModel" "lines" "I" : Cond) ∈ lw_good := lwg (lwT7 (List.mem_of_getElem? (i := 126) rfl)) rfl
set_option maxRecDepth 20000 in
theorem kw_7_128 : (.lays RX12 "WalkingTownModel" "pieces" "I" : Cond) ∈ lw_good := lwg (lwT7 (List.mem_of_getElem? (i := 128) rfl)) rfl
set_option maxRecDepth 20000 in
theorem kw_7_130 : (.lays RX12 "WalkingTownModel" "top" "I" : Cond) ∈ lw_good := lwg (lwT7 (List.mem_of_getElem? (i := 130) rfl)) rfl
set_option maxRecDepth 20000 in
theorem kw_7_132 : (.lays RX12 "WalkingTownModel" "ones" "I" : Cond) ∈ lw_good := lwg (lwT7 (List.mem_of_getElem? (i := 132) rfl)) rfl
set_option maxRecDepth 20000 in
theorem kw_7_134 : (.lays RX12 "WalkingTownModel" "within" "I" : Cond) ∈ lw_good := lwg (lwT7 (List.mem_of_getElem? (i := 134) rfl)) rfl
set_option maxRecDepth 20000 in
theorem kw_7_136 : (.laysFinal RX12 "WalkingTownModel" "fact" "[I" : Cond) ∈ lw_good := lwg (lwT7 (List.mem_of_getElem? (i := 136) rfl)) rfl
set_option maxRecDepth 20000 in
theorem kw_7_138 : (.laysFinal RX12 "WalkingTownModel" "value" "[Z" : Cond) ∈ lw_good := lwg (lwT7 (List.mem_of_getElem? (i := 138) rfl)) rfl
set_option maxRecDepth 20000 in
theorem kw_7_140 : (.lays RX12 "WalkingTownModel" "teller" "I" : Cond) ∈ lw_good := lwg (lwT7 (List.mem_of_getElem? (i := 140) rfl)) rfl
set_option maxRecDepth 20000 in
theorem kw_7_142 : (.lays RX12 "WalkingTownModel" "why" "I" : Cond) ∈ lw_good := lwg (lwT7 (List.mem_of_getElem? (i := 142) rfl)) rfl
set_option maxRecDepth 20000 in
theorem kw_7_144 : (.laysFinal RX12 "WalkingTownModel" "state" "[I" : Cond) ∈ lw_good := lwg (lwT7 (List.mem_of_getElem? (i := 144) rfl)) rfl
set_option maxRecDepth 20000 in
theorem kw_7_146 : (.laysFinal RX12 "WalkingTownModel" "where" "[I" : Cond) ∈ lw_good := lwg (lwT7 (List.mem_of_getElem? (i := 146) rfl)) rfl
set_option maxRecDepth 20000 in
theorem kw_7_148 : (.laysFinal RX12 "WalkingTownModel" "until" "[I" : Cond) ∈ lw_good := lwg (lwT7 (List.mem_of_getElem? (i := 148) rfl)) rfl
set_option maxRecDepth 20000 in
theorem kw_7_150 : (.laysFinal RX12 "WalkingTownModel" "wants" "[I" : Cond) ∈ lw_good := lwg (lwT7 (List.mem_of_getElem? (i := 150) rfl)) rfl
set_option maxRecDepth 20000 in
theorem kw_7_152 : (.laysFinal RX12 "WalkingTownModel" "came" "[I" : Cond) ∈ lw_good := lwg (lwT7 (List.mem_of_getElem? (i := 152) rfl)) rfl
set_option maxRecDepth 20000 in
theorem kw_7_154 : (.laysFinal RX12 "WalkingTownModel" "late" "[I" : Cond) ∈ lw_good := lwg (lwT7 (List.mem_of_getElem? (i := 154) rfl)) rfl
set_option maxRecDepth 20000 in
theorem kw_7_156 : (.laysFinal RX12 "WalkingTownModel" "walkedNow" "[I" : Cond) ∈ lw_good := lwg (lwT7 (List.mem_of_getElem? (i := 156) rfl)) rfl
set_option maxRecDepth 20000 in
theorem kw_7_158 : (.laysFinal RX12 "WalkingTownModel" "rides" "[I" : Cond) ∈ lw_good := lwg (lwT7 (List.mem_of_getElem? (i := 158) rfl)) rfl
set_option maxRecDepth 20000 in
theorem kw_7_160 : (.laysFinal RX12 "WalkingTownModel" "atStop" "[I" : Cond) ∈ lw_good := lwg (lwT7 (List.mem_of_getElem? (i := 160) rfl)) rfl
set_option maxRecDepth 20000 in
theorem kw_7_162 : (.laysFinal RX12 "WalkingTownModel" "comes" "[I" : Cond) ∈ lw_good := lwg (lwT7 (List.mem_of_getElem? (i := 162) rfl)) rfl
set_option maxRecDepth 20000 in
theorem kw_7_164 : (.laysFinal RX12 "WalkingTownModel" "stopped" "[I" : Cond) ∈ lw_good := lwg (lwT7 (List.mem_of_getElem? (i := 164) rfl)) rfl
set_option maxRecDepth 20000 in
theorem kw_7_166 : (.laysFinal RX12 "WalkingTownModel" "gone" "[I" : Cond) ∈ lw_good := lwg (lwT7 (List.mem_of_getElem? (i := 166) rfl)) rfl
set_option maxRecDepth 20000 in
theorem kw_7_168 : (.laysFinal RX12 "WalkingTownModel" "rode" "[I" : Cond) ∈ lw_good := lwg (lwT7 (List.mem_of_getElem? (i := 168) rfl)) rfl
set_option maxRecDepth 20000 in
theorem kw_7_170 : (.laysFinal RX12 "WalkingTownModel" "left" "[I" : Cond) ∈ lw_good := lwg (lwT7 (List.mem_of_getElem? (i := 170) rfl)) rfl
set_option maxRecDepth 20000 in
theorem kw_7_172 : (.laysFinal RX12 "WalkingTownModel" "atWork" "[I" : Cond) ∈ lw_good := lwg (lwT7 (List.mem_of_getElem? (i := 172) rfl)) rfl
set_option maxRecDepth 20000 in
theorem kw_7_174 : (.laysFinal RX12 "WalkingTownModel" "byMinute" "[I" : Cond) ∈ lw_good := lwg (lwT7 (List.mem_of_getElem? (i := 174) rfl)) rfl
set_option maxRecDepth 20000 in
theorem kw_7_176 : (.lays RX12 "WalkingTownModel" "without" "I" : Cond) ∈ lw_good := lwg (lwT7 (List.mem_of_getElem? (i := 176) rfl)) rfl
set_option maxRecDepth 20000 in
theorem kw_7_178 : (.lays RX12 "WalkingTownModel" "minute" "I" : Cond) ∈ lw_good := lwg (lwT7 (List.mem_of_getElem? (i := 178) rfl)) rfl
set_option maxRecDepth 20000 in
theorem kw_7_180 : (.lays RX12 "WalkingTownModel" "morningDay" "I" : Cond) ∈ lw_good := lwg (lwT7 (List.mem_of_getElem? (i := 180) rfl)) rfl
set_option maxRecDepth 20000 in
theorem kw_7_182 : (.lays RX12 "WalkingTownModel" "runs" "I" : Cond) ∈ lw_good := lwg (lwT7 (List.mem_of_getElem? (i := 182) rfl)) rfl
set_option maxRecDepth 20000 in
theorem kw_7_184 : (.laysFinal RX12 "WalkingTownModel" "kept" "[I" : Cond) ∈ lw_good := lwg (lwT7 (List.mem_of_getElem? (i := 184) rfl)) rfl
set_option maxRecDepth 20000 in
theorem kw_7_186 : (.lays RX12 "WalkingTownModel" "keptMany" "I" : Cond) ∈ lw_good := lwg (lwT7 (List.mem_of_getElem? (i := 186) rfl)) rfl
set_option maxRecDepth 20000 in
theorem kw_7_188 : (.laysFinal RX12 "WalkingTownModel" "near" "[I" : Cond) ∈ lw_good := lwg (lwT7 (List.mem_of_getElem? (i := 188) rfl)) rfl
set_option maxRecDepth 20000 in
theorem kw_7_190 : (.laysFinal RX12 "WalkingTownModel" "put" "[I" : Cond) ∈ lw_good := lwg (lwT7 (List.mem_of_getElem? (i := 190) rfl)) rfl
set_option maxRecDepth 20000 in
theorem kw_7_192 : (.laysFinal RX12 "WalkingTownModel" "seatedStop" "[I" : Cond) ∈ lw_good := lwg (lwT7 (List.mem_of_getElem? (i := 192) rfl)) rfl
set_option maxRecDepth 20000 in
theorem kw_7_194 : (.laysFinal RX12 "WalkingTownModel" "seatsAt" "[I" : Cond) ∈ lw_good := lwg (lwT7 (List.mem_of_getElem? (i := 194) rfl)) rfl
set_option maxRecDepth 20000 in
theorem kw_7_196 : (.laysFinal RX12 "WalkingTownModel" "reach" "[I" : Cond) ∈ lw_good := lwg (lwT7 (List.mem_of_getElem? (i := 196) rfl)) rfl
set_option maxRecDepth 20000 in
theorem kw_7_198 : (.lays RX12 "WalkingTownModel" "seatedMany" "I" : Cond) ∈ lw_good := lwg (lwT7 (List.mem_of_getElem? (i := 198) rfl)) rfl
set_option maxRecDepth 20000 in
theorem kw_7_201 : (.arrayClass .boolean : Cond) ∈ lw_good := lwg (lwT7 (List.mem_of_getElem? (i := 201) rfl)) rfl
set_option maxRecDepth 20000 in
theorem kw_7_202 : (.methodLink RL 23 yX12_feed : Cond) ∈ lw_good := lwg (lwT7 (List.mem_of_getElem? (i := 202) rfl)) rfl
set_option maxRecDepth 20000 in
theorem kw_7_203 : (.instanceMethod yX12_feed : Cond) ∈ lw_good := lwg (lwT7 (List.mem_of_getElem? (i := 203) rfl)) rfl
set_option maxRecDepth 20000 in
theorem kw_7_204 : (.selects RX12 yX12_feed yX12_feed : Cond) ∈ lw_good := lwg (lwT7 (List.mem_of_getElem? (i := 204) rfl)) rfl
set_option maxRecDepth 20000 in
theorem kw_7_205 : (.code yX12_feed cX12_feed 6 (some .int) : Cond) ∈ lw_good := lwg (lwT7 (List.mem_of_getElem? (i := 205) rfl)) rfl
set_option maxRecDepth 20000 in
theorem kw_7_206 : (.methodLink RX12 210 yX12_come : Cond) ∈ lw_good := lwg (lwT7 (List.mem_of_getElem? (i := 206) rfl)) rfl
set_option maxRecDepth 20000 in
theorem kw_7_208 : (.instanceMethod yX12_come : Cond) ∈ lw_good := lwg (lwT7 (List.mem_of_getElem? (i := 208) rfl)) rfl
set_option maxRecDepth 20000 in
theorem kw_7_209 : (.code yX12_come cX12_come 3 none : Cond) ∈ lw_good := lwg (lwT7 (List.mem_of_getElem? (i := 209) rfl)) rfl
set_option maxRecDepth 20000 in
theorem kw_7_210 : (.methodLink RL 28 yX12_end : Cond) ∈ lw_good := lwg (lwT7 (List.mem_of_getElem? (i := 210) rfl)) rfl
set_option maxRecDepth 20000 in
theorem kw_7_211 : (.instanceMethod yX12_end : Cond) ∈ lw_good := lwg (lwT7 (List.mem_of_getElem? (i := 211) rfl)) rfl
set_option maxRecDepth 20000 in
theorem kw_7_212 : (.selects RX12 yX12_end yX12_end : Cond) ∈ lw_good := lwg (lwT7 (List.mem_of_getElem? (i := 212) rfl)) rfl
set_option maxRecDepth 20000 in
theorem kw_7_213 : (.code yX12_end cX12_end 2 (some .boolean) : Cond) ∈ lw_good := lwg (lwT7 (List.mem_of_getElem? (i := 213) rfl)) rfl
set_option maxRecDepth 20000 in
theorem kw_7_214 : (.methodLink RL 33 yX12_next : Cond) ∈ lw_good := lwg (lwT7 (List.mem_of_getElem? (i := 214) rfl)) rfl
set_option maxRecDepth 20000 in
theorem kw_7_215 : (.instanceMethod yX12_next : Cond) ∈ lw_good := lwg (lwT7 (List.mem_of_getElem? (i := 215) rfl)) rfl
set_option maxRecDepth 20000 in
theorem kw_7_216 : (.selects RX12 yX12_next yX12_next : Cond) ∈ lw_good := lwg (lwT7 (List.mem_of_getElem? (i := 216) rfl)) rfl
set_option maxRecDepth 20000 in
theorem kw_7_217 : (.code yX12_next cX12_next 2 (some .int) : Cond) ∈ lw_good := lwg (lwT7 (List.mem_of_getElem? (i := 217) rfl)) rfl
set_option maxRecDepth 20000 in
theorem kw_7_218 : (.methodLink RX12 214 yX12_isIn : Cond) ∈ lw_good := lwg (lwT7 (List.mem_of_getElem? (i := 218) rfl)) rfl
set_option maxRecDepth 20000 in
theorem kw_7_219 : (.static yX12_isIn : Cond) ∈ lw_good := lwg (lwT7 (List.mem_of_getElem? (i := 219) rfl)) rfl
set_option maxRecDepth 20000 in
theorem kw_7_220 : (.code yX12_isIn cX12_isIn 3 (some .boolean) : Cond) ∈ lw_good := lwg (lwT7 (List.mem_of_getElem? (i := 220) rfl)) rfl
set_option maxRecDepth 20000 in
theorem kw_7_221 : (.methodLink RL 38 yX12_street : Cond) ∈ lw_good := lwg (lwT7 (List.mem_of_getElem? (i := 221) rfl)) rfl
set_option maxRecDepth 20000 in
theorem kw_7_222 : (.instanceMethod yX12_street : Cond) ∈ lw_good := lwg (lwT7 (List.mem_of_getElem? (i := 222) rfl)) rfl
set_option maxRecDepth 20000 in
theorem kw_7_223 : (.selects RX12 yX12_street yX12_street : Cond) ∈ lw_good := lwg (lwT7 (List.mem_of_getElem? (i := 223) rfl)) rfl
set_option maxRecDepth 20000 in
theorem kw_7_224 : (.code yX12_street cX12_street 9 (some .boolean) : Cond) ∈ lw_good := lwg (lwT7 (List.mem_of_getElem? (i := 224) rfl)) rfl
set_option maxRecDepth 20000 in
theorem kw_7_225 : (.methodLink RX12 229 yX12_isCorner : Cond) ∈ lw_good := lwg (lwT7 (List.mem_of_getElem? (i := 225) rfl)) rfl
set_option maxRecDepth 20000 in
theorem kw_7_226 : (.static yX12_isCorner : Cond) ∈ lw_good := lwg (lwT7 (List.mem_of_getElem? (i := 226) rfl)) rfl
set_option maxRecDepth 20000 in
theorem kw_7_227 : (.code yX12_isCorner cX12_isCorner 1 (some .boolean) : Cond) ∈ lw_good := lwg (lwT7 (List.mem_of_getElem? (i := 227) rfl)) rfl
set_option maxRecDepth 20000 in
theorem kw_7_228 : (.methodLink RX12 233 yX12_begin : Cond) ∈ lw_good := lwg (lwT7 (List.mem_of_getElem? (i := 228) rfl)) rfl
set_option maxRecDepth 20000 in
theorem kw_7_230 : (.instanceMethod yX12_begin : Cond) ∈ lw_good := lwg (lwT7 (List.mem_of_getElem? (i := 230) rfl)) rfl
set_option maxRecDepth 20000 in
theorem kw_7_231 : (.code yX12_begin cX12_begin 2 none : Cond) ∈ lw_good := lwg (lwT7 (List.mem_of_getElem? (i := 231) rfl)) rfl
set_option maxRecDepth 20000 in
theorem kw_7_232 : (.constant RX12 225 100000 : Cond) ∈ lw_good := lwg (lwT7 (List.mem_of_getElem? (i := 232) rfl)) rfl
set_option maxRecDepth 20000 in
theorem kw_7_233 : (.methodLink RL 42 yX12_far : Cond) ∈ lw_good := lwg (lwT7 (List.mem_of_getElem? (i := 233) rfl)) rfl
set_option maxRecDepth 20000 in
theorem kw_7_234 : (.instanceMethod yX12_far : Cond) ∈ lw_good := lwg (lwT7 (List.mem_of_getElem? (i := 234) rfl)) rfl
set_option maxRecDepth 20000 in
theorem kw_7_235 : (.selects RX12 yX12_far yX12_far : Cond) ∈ lw_good := lwg (lwT7 (List.mem_of_getElem? (i := 235) rfl)) rfl
set_option maxRecDepth 20000 in
theorem kw_7_236 : (.code yX12_far cX12_far 4 (some .int) : Cond) ∈ lw_good := lwg (lwT7 (List.mem_of_getElem? (i := 236) rfl)) rfl
set_option maxRecDepth 20000 in
theorem kw_7_237 : (.methodLink RX12 236 yX12_farOf : Cond) ∈ lw_good := lwg (lwT7 (List.mem_of_getElem? (i := 237) rfl)) rfl
set_option maxRecDepth 20000 in
theorem kw_7_239 : (.instanceMethod yX12_farOf : Cond) ∈ lw_good := lwg (lwT7 (List.mem_of_getElem? (i := 239) rfl)) rfl
set_option maxRecDepth 20000 in
theorem kw_8_0 : (.code yX12_farOf cX12_farOf 3 (some .int) : Cond) ∈ lw_good := lwg (lwT8 (List.mem_of_getElem? (i := 0) rfl)) rfl
set_option maxRecDepth 20000 in
theorem kw_8_1 : (.methodLink RL 71 yX12_rain : Cond) ∈ lw_good := lwg (lwT8 (List.mem_of_getElem? (i := 1) rfl)) rfl
set_option maxRecDepth 20000 in
theorem kw_8_2 : (.instanceMethod yX12_rain : Cond) ∈ lw_good := lwg (lwT8 (List.mem_of_getElem? (i := 2) rfl)) rfl
set_option maxRecDepth 20000 in
theorem kw_8_3 : (.selects RX12 yX12_rain yX12_rain : Cond) ∈ lw_good := lwg (lwT8 (List.mem_of_getElem? (i := 3) rfl)) rfl
set_option maxRecDepth 20000 in
theorem kw_8_4 : (.code yX12_rain cX12_rain 3 (some .boolean) : Cond) ∈ lw_good := lwg (lwT8 (List.mem_of_getElem? (i := 4) rfl)) rfl
set_option maxRecDepth 20000 in
theorem kw_8_5 : (.methodLink RX12 240 yX12_take : Cond) ∈ lw_good := lwg (lwT8 (List.mem_of_getElem? (i := 5) rfl)) rfl
set_option maxRecDepth 20000 in
theorem kw_8_7 : (.instanceMethod yX12_take : Cond) ∈ lw_good := lwg (lwT8 (List.mem_of_getElem? (i := 7) rfl)) rfl
set_option maxRecDepth 20000 in
theorem kw_8_8 : (.code yX12_take cX12_take 2 (some .int) : Cond) ∈ lw_good := lwg (lwT8 (List.mem_of_getElem? (i := 8) rfl)) rfl
set_option maxRecDepth 20000 in
theorem kw_8_9 : (.methodLink RL 75 yX12_wet : Cond) ∈ lw_good := lwg (lwT8 (List.mem_of_getElem? (i := 9) rfl)) rfl
set_option maxRecDepth 20000 in
theorem kw_8_10 : (.instanceMethod yX12_wet : Cond) ∈ lw_good := lwg (lwT8 (List.mem_of_getElem? (i := 10) rfl)) rfl
set_option maxRecDepth 20000 in
theorem kw_8_11 : (.selects RX12 yX12_wet yX12_wet : Cond) ∈ lw_good := lwg (lwT8 (List.mem_of_getElem? (i := 11) rfl)) rfl
set_option maxRecDepth 20000 in
theorem kw_8_12 : (.code yX12_wet cX12_wet 2 (some .int) : Cond) ∈ lw_good := lwg (lwT8 (List.mem_of_getElem? (i := 12) rfl)) rfl
set_option maxRecDepth 20000 in
theorem kw_8_13 : (.methodLink RX12 247 yX12_isDay : Cond) ∈ lw_good := lwg (lwT8 (List.mem_of_getElem? (i := 13) rfl)) rfl
set_option maxRecDepth 20000 in
theorem kw_8_14 : (.static yX12_isDay : Cond) ∈ lw_good := lwg (lwT8 (List.mem_of_getElem? (i := 14) rfl)) rfl
set_option maxRecDepth 20000 in
theorem kw_8_15 : (.code yX12_isDay cX12_isDay 1 (some .boolean) : Cond) ∈ lw_good := lwg (lwT8 (List.mem_of_getElem? (i := 15) rfl)) rfl
set_option maxRecDepth 20000 in
theorem kw_8_16 : (.methodLink RX12 250 yX12_rainOf : Cond) ∈ lw_good := lwg (lwT8 (List.mem_of_getElem? (i := 16) rfl)) rfl
set_option maxRecDepth 20000 in
theorem kw_8_18 : (.instanceMethod yX12_rainOf : Cond) ∈ lw_good := lwg (lwT8 (List.mem_of_getElem? (i := 18) rfl)) rfl
set_option maxRecDepth 20000 in
theorem kw_8_19 : (.code yX12_rainOf cX12_rainOf 2 (some .int) : Cond) ∈ lw_good := lwg (lwT8 (List.mem_of_getElem? (i := 19) rfl)) rfl
set_option maxRecDepth 20000 in
theorem kw_8_20 : (.methodLink RL 47 yX12_person : Cond) ∈ lw_good := lwg (lwT8 (List.mem_of_getElem? (i := 20) rfl)) rfl
set_option maxRecDepth 20000 in
theorem kw_8_21 : (.instanceMethod yX12_person : Cond) ∈ lw_good := lwg (lwT8 (List.mem_of_getElem? (i := 21) rfl)) rfl
set_option maxRecDepth 20000 in
theorem kw_8_22 : (.selects RX12 yX12_person yX12_person : Cond) ∈ lw_good := lwg (lwT8 (List.mem_of_getElem? (i := 22) rfl)) rfl
set_option maxRecDepth 20000 in
theorem kw_8_23 : (.code yX12_person cX12_person 5 (some .int) : Cond) ∈ lw_good := lwg (lwT8 (List.mem_of_getElem? (i := 23) rfl)) rfl
set_option maxRecDepth 20000 in
theorem kw_8_24 : (.methodLink RX12 257 yX12_two : Cond) ∈ lw_good := lwg (lwT8 (List.mem_of_getElem? (i := 24) rfl)) rfl
set_option maxRecDepth 20000 in
theorem kw_8_26 : (.instanceMethod yX12_two : Cond) ∈ lw_good := lwg (lwT8 (List.mem_of_getElem? (i := 26) rfl)) rfl
set_option maxRecDepth 20000 in
theorem kw_8_27 : (.code yX12_two cX12_two 2 (some .int) : Cond) ∈ lw_good := lwg (lwT8 (List.mem_of_getElem? (i := 27) rfl)) rfl
set_option maxRecDepth 20000 in
theorem kw_8_28 : (.methodLink RL 51 yX12_stop : Cond) ∈ lw_good := lwg (lwT8 (List.mem_of_getElem? (i := 28) rfl)) rfl
set_option maxRecDepth 20000 in
theorem kw_8_29 : (.instanceMethod yX12_stop : Cond) ∈ lw_good := lwg (lwT8 (List.mem_of_getElem? (i := 29) rfl)) rfl
set_option maxRecDepth 20000 in
theorem kw_8_30 : (.selects RX12 yX12_stop yX12_stop : Cond) ∈ lw_good := lwg (lwT8 (List.mem_of_getElem? (i := 30) rfl)) rfl
set_option maxRecDepth 20000 in
theorem kw_8_31 : (.code yX12_stop cX12_stop 2 (some .int) : Cond) ∈ lw_good := lwg (lwT8 (List.mem_of_getElem? (i := 31) rfl)) rfl
set_option maxRecDepth 20000 in
theorem kw_8_32 : (.methodLink RL 56 yX12_wheel : Cond) ∈ lw_good := lwg (lwT8 (List.mem_of_getElem? (i := 32) rfl)) rfl
set_option maxRecDepth 20000 in
theorem kw_8_33 : (.instanceMethod yX12_wheel : Cond) ∈ lw_good := lwg (lwT8 (List.mem_of_getElem? (i := 33) rfl)) rfl
set_option maxRecDepth 20000 in
theorem kw_8_34 : (.selects RX12 yX12_wheel yX12_wheel : Cond) ∈ lw_good := lwg (lwT8 (List.mem_of_getElem? (i := 34) rfl)) rfl
set_option maxRecDepth 20000 in
theorem kw_8_35 : (.code yX12_wheel cX12_wheel 5 (some .int) : Cond) ∈ lw_good := lwg (lwT8 (List.mem_of_getElem? (i := 35) rfl)) rfl
set_option maxRecDepth 20000 in
theorem kw_8_36 : (.methodLink RL 61 yX12_insure : Cond) ∈ lw_good := lwg (lwT8 (List.mem_of_getElem? (i := 36) rfl)) rfl
set_option maxRecDepth 20000 in
theorem kw_8_37 : (.instanceMethod yX12_insure : Cond) ∈ lw_good := lwg (lwT8 (List.mem_of_getElem? (i := 37) rfl)) rfl
set_option maxRecDepth 20000 in
theorem kw_8_38 : (.selects RX12 yX12_insure yX12_insure : Cond) ∈ lw_good := lwg (lwT8 (List.mem_of_getElem? (i := 38) rfl)) rfl
set_option maxRecDepth 20000 in
theorem kw_8_39 : (.code yX12_insure cX12_insure 3 (some .boolean) : Cond) ∈ lw_good := lwg (lwT8 (List.mem_of_getElem? (i := 39) rfl)) rfl
set_option maxRecDepth 20000 in
theorem kw_8_40 : (.methodLink RX12 266 yX12_isWheel : Cond) ∈ lw_good := lwg (lwT8 (List.mem_of_getElem? (i := 40) rfl)) rfl
set_option maxRecDepth 20000 in
theorem kw_8_42 : (.instanceMethod yX12_isWheel : Cond) ∈ lw_good := lwg (lwT8 (List.mem_of_getElem? (i := 42) rfl)) rfl
set_option maxRecDepth 20000 in
theorem kw_8_43 : (.code yX12_isWheel cX12_isWheel 2 (some .boolean) : Cond) ∈ lw_good := lwg (lwT8 (List.mem_of_getElem? (i := 43) rfl)) rfl
set_option maxRecDepth 20000 in
theorem kw_8_44 : (.methodLink RL 66 yX12_trip : Cond) ∈ lw_good := lwg (lwT8 (List.mem_of_getElem? (i := 44) rfl)) rfl
set_option maxRecDepth 20000 in
theorem kw_8_45 : (.instanceMethod yX12_trip : Cond) ∈ lw_good := lwg (lwT8 (List.mem_of_getElem? (i := 45) rfl)) rfl
set_option maxRecDepth 20000 in
theorem kw_8_46 : (.selects RX12 yX12_trip yX12_trip : Cond) ∈ lw_good := lwg (lwT8 (List.mem_of_getElem? (i := 46) rfl)) rfl
set_option maxRecDepth 20000 in
theorem kw_8_47 : (.code yX12_trip cX12_trip 7 (some .int) : Cond) ∈ lw_good := lwg (lwT8 (List.mem_of_getElem? (i := 47) rfl)) rfl
set_option maxRecDepth 20000 in
theorem kw_8_48 : (.methodLink RL 79 yX12_give : Cond) ∈ lw_good := lwg (lwT8 (List.mem_of_getElem? (i := 48) rfl)) rfl
set_option maxRecDepth 20000 in
theorem kw_8_49 : (.instanceMethod yX12_give : Cond) ∈ lw_good := lwg (lwT8 (List.mem_of_getElem? (i := 49) rfl)) rfl
set_option maxRecDepth 20000 in
theorem kw_8_50 : (.selects RX12 yX12_give yX12_give : Cond) ∈ lw_good := lwg (lwT8 (List.mem_of_getElem? (i := 50) rfl)) rfl
set_option maxRecDepth 20000 in
theorem kw_8_51 : (.code yX12_give cX12_give 2 (some .int) : Cond) ∈ lw_good := lwg (lwT8 (List.mem_of_getElem? (i := 51) rfl)) rfl
set_option maxRecDepth 20000 in
theorem kw_8_52 : (.methodLink RX12 275 yX12_cut : Cond) ∈ lw_good := lwg (lwT8 (List.mem_of_getElem? (i := 52) rfl)) rfl
set_option maxRecDepth 20000 in
theorem kw_8_53 : (.static yX12_cut : Cond) ∈ lw_good := lwg (lwT8 (List.mem_of_getElem? (i := 53) rfl)) rfl
set_option maxRecDepth 20000 in
theorem kw_8_54 : (.code yX12_cut cX12_cut 1 (some .int) : Cond) ∈ lw_good := lwg (lwT8 (List.mem_of_getElem? (i := 54) rfl)) rfl
set_option maxRecDepth 20000 in
theorem kw_8_55 : (.constant RX12 278 1000000 : Cond) ∈ lw_good := lwg (lwT8 (List.mem_of_getElem? (i := 55) rfl)) rfl
set_option maxRecDepth 20000 in
theorem kw_8_56 : (.methodLink RL 83 yX12_bylaw : Cond) ∈ lw_good := lwg (lwT8 (List.mem_of_getElem? (i := 56) rfl)) rfl
set_option maxRecDepth 20000 in
theorem kw_8_57 : (.instanceMethod yX12_bylaw : Cond) ∈ lw_good := lwg (lwT8 (List.mem_of_getElem? (i := 57) rfl)) rfl
set_option maxRecDepth 20000 in
theorem kw_8_58 : (.selects RX12 yX12_bylaw yX12_bylaw : Cond) ∈ lw_good := lwg (lwT8 (List.mem_of_getElem? (i := 58) rfl)) rfl
set_option maxRecDepth 20000 in
theorem kw_8_59 : (.code yX12_bylaw cX12_bylaw 3 (some .int) : Cond) ∈ lw_good := lwg (lwT8 (List.mem_of_getElem? (i := 59) rfl)) rfl
set_option maxRecDepth 20000 in
theorem kw_8_60 : (.methodLink RX12 366 yX12_go : Cond) ∈ lw_good := lwg (lwT8 (List.mem_of_getElem? (i := 60) rfl)) rfl
set_option maxRecDepth 20000 in
theorem kw_8_62 : (.instanceMethod yX12_go : Cond) ∈ lw_good := lwg (lwT8 (List.mem_of_getElem? (i := 62) rfl)) rfl
set_option maxRecDepth 20000 in
theorem kw_8_63 : (.code yX12_go cX12_go 5 none : Cond) ∈ lw_good := lwg (lwT8 (List.mem_of_getElem? (i := 63) rfl)) rfl
set_option maxRecDepth 20000 in
theorem kw_8_64 : (.methodLink RX12 291 yX12_isLetter : Cond) ∈ lw_good := lwg (lwT8 (List.mem_of_getElem? (i := 64) rfl)) rfl
set_option maxRecDepth 20000 in
theorem kw_8_65 : (.static yX12_isLetter : Cond) ∈ lw_good := lwg (lwT8 (List.mem_of_getElem? (i := 65) rfl)) rfl
set_option maxRecDepth 20000 in
theorem kw_8_66 : (.code yX12_isLetter cX12_isLetter 1 (some .boolean) : Cond) ∈ lw_good := lwg (lwT8 (List.mem_of_getElem? (i := 66) rfl)) rfl
set_option maxRecDepth 20000 in
theorem kw_8_67 : (.methodLink RX12 294 yX12_isDigit : Cond) ∈ lw_good := lwg (lwT8 (List.mem_of_getElem? (i := 67) rfl)) rfl
set_option maxRecDepth 20000 in
theorem kw_8_68 : (.static yX12_isDigit : Cond) ∈ lw_good := lwg (lwT8 (List.mem_of_getElem? (i := 68) rfl)) rfl
set_option maxRecDepth 20000 in
theorem kw_8_69 : (.code yX12_isDigit cX12_isDigit 1 (some .boolean) : Cond) ∈ lw_good := lwg (lwT8 (List.mem_of_getElem? (i := 69) rfl)) rfl
set_option maxRecDepth 20000 in
theorem kw_8_70 : (.methodLink RX12 297 yX12_isMark : Cond) ∈ lw_good := lwg (lwT8 (List.mem_of_getElem? (i := 70) rfl)) rfl
set_option maxRecDepth 20000 in
theorem kw_8_71 : (.static yX12_isMark : Cond) ∈ lw_good := lwg (lwT8 (List.mem_of_getElem? (i := 71) rfl)) rfl
set_option maxRecDepth 20000 in
theorem kw_8_72 : (.code yX12_isMark cX12_isMark 1 (some .boolean) : Cond) ∈ lw_good := lwg (lwT8 (List.mem_of_getElem? (i := 72) rfl)) rfl
set_option maxRecDepth 20000 in
theorem kw_8_73 : (.methodLink RX12 310 yX12_byteAt : Cond) ∈ lw_good := lwg (lwT8 (List.mem_of_getElem? (i := 73) rfl)) rfl
set_option maxRecDepth 20000 in
theorem kw_8_75 : (.instanceMethod yX12_byteAt : Cond) ∈ lw_good := lwg (lwT8 (List.mem_of_getElem? (i := 75) rfl)) rfl
set_option maxRecDepth 20000 in
theorem kw_8_76 : (.code yX12_byteAt cX12_byteAt 2 (some .int) : Cond) ∈ lw_good := lwg (lwT8 (List.mem_of_getElem? (i := 76) rfl)) rfl
set_option maxRecDepth 20000 in
theorem kw_8_77 : (.constantLong RX12 313 27 : Cond) ∈ lw_good := lwg (lwT8 (List.mem_of_getElem? (i := 77) rfl)) rfl
set_option maxRecDepth 20000 in
theorem kw_8_78 : (.constantLong RX12 315 96 : Cond) ∈ lw_good := lwg (lwT8 (List.mem_of_getElem? (i := 78) rfl)) rfl
set_option maxRecDepth 20000 in
theorem kw_8_79 : (.methodLink RX12 397 yX12_readLine : Cond) ∈ lw_good := lwg (lwT8 (List.mem_of_getElem? (i := 79) rfl)) rfl
set_option maxRecDepth 20000 in
theorem kw_8_81 : (.instanceMethod yX12_readLine : Cond) ∈ lw_good := lwg (lwT8 (List.mem_of_getElem? (i := 81) rfl)) rfl
set_option maxRecDepth 20000 in
theorem kw_8_82 : (.code yX12_readLine cX12_readLine 3 (some .boolean) : Cond) ∈ lw_good := lwg (lwT8 (List.mem_of_getElem? (i := 82) rfl)) rfl
set_option maxRecDepth 20000 in
theorem kw_8_83 : (.methodLink RX12 382 yX12_sortAtHand : Cond) ∈ lw_good := lwg (lwT8 (List.mem_of_getElem? (i := 83) rfl)) rfl
set_option maxRecDepth 20000 in
theorem kw_8_85 : (.instanceMethod yX12_sortAtHand : Cond) ∈ lw_good := lwg (lwT8 (List.mem_of_getElem? (i := 85) rfl)) rfl
set_option maxRecDepth 20000 in
theorem kw_8_86 : (.code yX12_sortAtHand cX12_sortAtHand 1 (some .int) : Cond) ∈ lw_good := lwg (lwT8 (List.mem_of_getElem? (i := 86) rfl)) rfl
set_option maxRecDepth 20000 in
theorem kw_8_87 : (.methodLink RX12 323 yX12_spelt : Cond) ∈ lw_good := lwg (lwT8 (List.mem_of_getElem? (i := 87) rfl)) rfl
set_option maxRecDepth 20000 in
theorem kw_8_88 : (.static yX12_spelt : Cond) ∈ lw_good := lwg (lwT8 (List.mem_of_getElem? (i := 88) rfl)) rfl
set_option maxRecDepth 20000 in
theorem kw_8_89 : (.code yX12_spelt cX12_spelt 7 (some .long) : Cond) ∈ lw_good := lwg (lwT8 (List.mem_of_getElem? (i := 89) rfl)) rfl
set_option maxRecDepth 20000 in
theorem kw_8_90 : (.methodLink RX12 327 yX12_isKey : Cond) ∈ lw_good := lwg (lwT8 (List.mem_of_getElem? (i := 90) rfl)) rfl
set_option maxRecDepth 20000 in
theorem kw_8_92 : (.instanceMethod yX12_isKey : Cond) ∈ lw_good := lwg (lwT8 (List.mem_of_getElem? (i := 92) rfl)) rfl
set_option maxRecDepth 20000 in
theorem kw_8_93 : (.code yX12_isKey cX12_isKey 3 (some .boolean) : Cond) ∈ lw_good := lwg (lwT8 (List.mem_of_getElem? (i := 93) rfl)) rfl
set_option maxRecDepth 20000 in
theorem kw_8_94 : (.methodLink RX12 357 yX12_bad : Cond) ∈ lw_good := lwg (lwT8 (List.mem_of_getElem? (i := 94) rfl)) rfl
set_option maxRecDepth 20000 in
theorem kw_8_96 : (.instanceMethod yX12_bad : Cond) ∈ lw_good := lwg (lwT8 (List.mem_of_getElem? (i := 96) rfl)) rfl
set_option maxRecDepth 20000 in
theorem kw_8_97 : (.code yX12_bad cX12_bad 2 (some .boolean) : Cond) ∈ lw_good := lwg (lwT8 (List.mem_of_getElem? (i := 97) rfl)) rfl
set_option maxRecDepth 20000 in
theorem kw_8_98 : (.methodLink RX12 350 yX12_isNot : Cond) ∈ lw_good := lwg (lwT8 (List.mem_of_getElem? (i := 98) rfl)) rfl
set_option maxRecDepth 20000 in
theorem kw_8_100 : (.instanceMethod yX12_isNot : Cond) ∈ lw_good := lwg (lwT8 (List.mem_of_getElem? (i := 100) rfl)) rfl
set_option maxRecDepth 20000 in
theorem kw_8_101 : (.code yX12_isNot cX12_isNot 1 (some .boolean) : Cond) ∈ lw_good := lwg (lwT8 (List.mem_of_getElem? (i := 101) rfl)) rfl
set_option maxRecDepth 20000 in
theorem kw_8_102 : (.methodLink RX12 391 yX12_readCond : Cond) ∈ lw_good := lwg (lwT8 (List.mem_of_getElem? (i := 102) rfl)) rfl
set_option maxRecDepth 20000 in
theorem kw_8_104 : (.instanceMethod yX12_readCond : Cond) ∈ lw_good := lwg (lwT8 (List.mem_of_getElem? (i := 104) rfl)) rfl
set_option maxRecDepth 20000 in
theorem kw_8_105 : (.code yX12_readCond cX12_readCond 2 (some .boolean) : Cond) ∈ lw_good := lwg (lwT8 (List.mem_of_getElem? (i := 105) rfl)) rfl
set_option maxRecDepth 20000 in
theorem kw_8_106 : (.methodLink RX12 372 yX12_readOne : Cond) ∈ lw_good := lwg (lwT8 (List.mem_of_getElem? (i := 106) rfl)) rfl
set_option maxRecDepth 20000 in
theorem kw_8_108 : (.instanceMethod yX12_readOne : Cond) ∈ lw_good := lwg (lwT8 (List.mem_of_getElem? (i := 108) rfl)) rfl
set_option maxRecDepth 20000 in
theorem kw_8_109 : (.code yX12_readOne cX12_readOne 3 (some .boolean) : Cond) ∈ lw_good := lwg (lwT8 (List.mem_of_getElem? (i := 109) rfl)) rfl
set_option maxRecDepth 20000 in
theorem kw_8_110 : (.methodLink RX12 347 yX12_atom : Cond) ∈ lw_good := lwg (lwT8 (List.mem_of_getElem? (i := 110) rfl)) rfl
set_option maxRecDepth 20000 in
theorem kw_8_112 : (.instanceMethod yX12_atom : Cond) ∈ lw_good := lwg (lwT8 (List.mem_of_getElem? (i := 112) rfl)) rfl
set_option maxRecDepth 20000 in
theorem kw_8_113 : (.code yX12_atom cX12_atom 1 (some .int) : Cond) ∈ lw_good := lwg (lwT8 (List.mem_of_getElem? (i := 113) rfl)) rfl
set_option maxRecDepth 20000 in
theorem kw_8_114 : (.constantLong RX12 331 5 : Cond) ∈ lw_good := lwg (lwT8 (List.mem_of_getElem? (i := 114) rfl)) rfl
set_option maxRecDepth 20000 in
theorem kw_8_115 : (.constantLong RX12 333 4 : Cond) ∈ lw_good := lwg (lwT8 (List.mem_of_getElem? (i := 115) rfl)) rfl
set_option maxRecDepth 20000 in
theorem kw_8_116 : (.constantLong RX12 335 19 : Cond) ∈ lw_good := lwg (lwT8 (List.mem_of_getElem? (i := 116) rfl)) rfl
set_option maxRecDepth 20000 in
theorem kw_8_117 : (.methodLink RX12 354 yX12_isSign : Cond) ∈ lw_good := lwg (lwT8 (List.mem_of_getElem? (i := 117) rfl)) rfl
set_option maxRecDepth 20000 in
theorem kw_8_119 : (.instanceMethod yX12_isSign : Cond) ∈ lw_good := lwg (lwT8 (List.mem_of_getElem? (i := 119) rfl)) rfl
set_option maxRecDepth 20000 in
theorem kw_8_120 : (.code yX12_isSign cX12_isSign 2 (some .boolean) : Cond) ∈ lw_good := lwg (lwT8 (List.mem_of_getElem? (i := 120) rfl)) rfl
set_option maxRecDepth 20000 in
theorem kw_8_121 : (.methodLink RX12 343 yX12_emit : Cond) ∈ lw_good := lwg (lwT8 (List.mem_of_getElem? (i := 121) rfl)) rfl
set_option maxRecDepth 20000 in
theorem kw_8_123 : (.instanceMethod yX12_emit : Cond) ∈ lw_good := lwg (lwT8 (List.mem_of_getElem? (i := 123) rfl)) rfl
set_option maxRecDepth 20000 in
theorem kw_8_124 : (.code yX12_emit cX12_emit 5 none : Cond) ∈ lw_good := lwg (lwT8 (List.mem_of_getElem? (i := 124) rfl)) rfl
set_option maxRecDepth 20000 in
theorem kw_8_125 : (.methodLink RX12 369 yX12_dropNots : Cond) ∈ lw_good := lwg (lwT8 (List.mem_of_getElem? (i := 125) rfl)) rfl
set_option maxRecDepth 20000 in
theorem kw_8_127 : (.instanceMethod yX12_dropNots : Cond) ∈ lw_good := lwg (lwT8 (List.mem_of_getElem? (i := 127) rfl)) rfl
set_option maxRecDepth 20000 in
theorem kw_8_128 : (.code yX12_dropNots cX12_dropNots 1 none : Cond) ∈ lw_good := lwg (lwT8 (List.mem_of_getElem? (i := 128) rfl)) rfl
set_option maxRecDepth 20000 in
theorem kw_8_129 : (.methodLink RX12 375 yX12_isOpen : Cond) ∈ lw_good := lwg (lwT8 (List.mem_of_getElem? (i := 129) rfl)) rfl
set_option maxRecDepth 20000 in
theorem kw_8_131 : (.instanceMethod yX12_isOpen : Cond) ∈ lw_good := lwg (lwT8 (List.mem_of_getElem? (i := 131) rfl)) rfl
set_option maxRecDepth 20000 in
theorem kw_8_132 : (.code yX12_isOpen cX12_isOpen 2 (some .boolean) : Cond) ∈ lw_good := lwg (lwT8 (List.mem_of_getElem? (i := 132) rfl)) rfl
set_option maxRecDepth 20000 in
theorem kw_8_133 : (.methodLink RX12 378 yX12_drop : Cond) ∈ lw_good := lwg (lwT8 (List.mem_of_getElem? (i := 133) rfl)) rfl
set_option maxRecDepth 20000 in
theorem kw_8_135 : (.instanceMethod yX12_drop : Cond) ∈ lw_good := lwg (lwT8 (List.mem_of_getElem? (i := 135) rfl)) rfl
set_option maxRecDepth 20000 in
theorem kw_8_136 : (.code yX12_drop cX12_drop 3 none : Cond) ∈ lw_good := lwg (lwT8 (List.mem_of_getElem? (i := 136) rfl)) rfl
set_option maxRecDepth 20000 in
theorem kw_8_137 : (.methodLink RL 88 yX12_fault : Cond) ∈ lw_good := lwg (lwT8 (List.mem_of_getElem? (i := 137) rfl)) rfl
set_option maxRecDepth 20000 in
theorem kw_8_138 : (.instanceMethod yX12_fault : Cond) ∈ lw_good := lwg (lwT8 (List.mem_of_getElem? (i := 138) rfl)) rfl
set_option maxRecDepth 20000 in
theorem kw_8_139 : (.selects RX12 yX12_fault yX12_fault : Cond) ∈ lw_good := lwg (lwT8 (List.mem_of_getElem? (i := 139) rfl)) rfl
set_option maxRecDepth 20000 in
theorem kw_8_140 : (.code yX12_fault cX12_fault 1 (some .int) : Cond) ∈ lw_good := lwg (lwT8 (List.mem_of_getElem? (i := 140) rfl)) rfl
set_option maxRecDepth 20000 in
theorem kw_8_141 : (.methodLink RL 92 yX12_told : Cond) ∈ lw_good := lwg (lwT8 (List.mem_of_getElem? (i := 141) rfl)) rfl
set_option maxRecDepth 20000 in
theorem kw_8_142 : (.instanceMethod yX12_told : Cond) ∈ lw_good := lwg (lwT8 (List.mem_of_getElem? (i := 142) rfl)) rfl
set_option maxRecDepth 20000 in
theorem kw_8_143 : (.selects RX12 yX12_told yX12_told : Cond) ∈ lw_good := lwg (lwT8 (List.mem_of_getElem? (i := 143) rfl)) rfl
set_option maxRecDepth 20000 in
theorem kw_8_144 : (.code yX12_told cX12_told 6 (some .int) : Cond) ∈ lw_good := lwg (lwT8 (List.mem_of_getElem? (i := 144) rfl)) rfl
set_option maxRecDepth 20000 in
theorem kw_8_145 : (.methodLink RX12 413 yX12_tells : Cond) ∈ lw_good := lwg (lwT8 (List.mem_of_getElem? (i := 145) rfl)) rfl
set_option maxRecDepth 20000 in
theorem kw_8_147 : (.instanceMethod yX12_tells : Cond) ∈ lw_good := lwg (lwT8 (List.mem_of_getElem? (i := 147) rfl)) rfl
set_option maxRecDepth 20000 in
theorem kw_8_148 : (.code yX12_tells cX12_tells 9 (some .int) : Cond) ∈ lw_good := lwg (lwT8 (List.mem_of_getElem? (i := 148) rfl)) rfl
set_option maxRecDepth 20000 in
theorem kw_8_149 : (.methodLink RX12 400 yX12_ask : Cond) ∈ lw_good := lwg (lwT8 (List.mem_of_getElem? (i := 149) rfl)) rfl
set_option maxRecDepth 20000 in
theorem kw_8_151 : (.instanceMethod yX12_ask : Cond) ∈ lw_good := lwg (lwT8 (List.mem_of_getElem? (i := 151) rfl)) rfl
set_option maxRecDepth 20000 in
theorem kw_8_152 : (.code yX12_ask cX12_ask 6 none : Cond) ∈ lw_good := lwg (lwT8 (List.mem_of_getElem? (i := 152) rfl)) rfl
set_option maxRecDepth 20000 in
theorem kw_8_153 : (.methodLink RX12 403 yX12_bylawNow : Cond) ∈ lw_good := lwg (lwT8 (List.mem_of_getElem? (i := 153) rfl)) rfl
set_option maxRecDepth 20000 in
theorem kw_8_155 : (.instanceMethod yX12_bylawNow : Cond) ∈ lw_good := lwg (lwT8 (List.mem_of_getElem? (i := 155) rfl)) rfl
set_option maxRecDepth 20000 in
theorem kw_8_156 : (.code yX12_bylawNow cX12_bylawNow 3 (some .int) : Cond) ∈ lw_good := lwg (lwT8 (List.mem_of_getElem? (i := 156) rfl)) rfl
set_option maxRecDepth 20000 in
theorem kw_8_157 : (.methodLink RX12 406 yX12_holds : Cond) ∈ lw_good := lwg (lwT8 (List.mem_of_getElem? (i := 157) rfl)) rfl
set_option maxRecDepth 20000 in
theorem kw_8_159 : (.instanceMethod yX12_holds : Cond) ∈ lw_good := lwg (lwT8 (List.mem_of_getElem? (i := 159) rfl)) rfl
set_option maxRecDepth 20000 in
theorem kw_8_160 : (.code yX12_holds cX12_holds 10 (some .boolean) : Cond) ∈ lw_good := lwg (lwT8 (List.mem_of_getElem? (i := 160) rfl)) rfl
set_option maxRecDepth 20000 in
theorem kw_8_161 : (.methodLink RX12 409 yX12_usual : Cond) ∈ lw_good := lwg (lwT8 (List.mem_of_getElem? (i := 161) rfl)) rfl
set_option maxRecDepth 20000 in
theorem kw_8_162 : (.static yX12_usual : Cond) ∈ lw_good := lwg (lwT8 (List.mem_of_getElem? (i := 162) rfl)) rfl
set_option maxRecDepth 20000 in
theorem kw_8_163 : (.code yX12_usual cX12_usual 2 (some .int) : Cond) ∈ lw_good := lwg (lwT8 (List.mem_of_getElem? (i := 163) rfl)) rfl
set_option maxRecDepth 20000 in
theorem kw_8_164 : (.methodLink RL 96 yX12_why : Cond) ∈ lw_good := lwg (lwT8 (List.mem_of_getElem? (i := 164) rfl)) rfl
set_option maxRecDepth 20000 in
theorem kw_8_165 : (.instanceMethod yX12_why : Cond) ∈ lw_good := lwg (lwT8 (List.mem_of_getElem? (i := 165) rfl)) rfl
set_option maxRecDepth 20000 in
theorem kw_8_166 : (.selects RX12 yX12_why yX12_why : Cond) ∈ lw_good := lwg (lwT8 (List.mem_of_getElem? (i := 166) rfl)) rfl
set_option maxRecDepth 20000 in
theorem kw_8_167 : (.code yX12_why cX12_why 1 (some .int) : Cond) ∈ lw_good := lwg (lwT8 (List.mem_of_getElem? (i := 167) rfl)) rfl
set_option maxRecDepth 20000 in
theorem kw_8_168 : (.methodLink RL 100 yX12_morning : Cond) ∈ lw_good := lwg (lwT8 (List.mem_of_getElem? (i := 168) rfl)) rfl
set_option maxRecDepth 20000 in
theorem kw_8_169 : (.instanceMethod yX12_morning : Cond) ∈ lw_good := lwg (lwT8 (List.mem_of_getElem? (i := 169) rfl)) rfl
set_option maxRecDepth 20000 in
theorem kw_8_170 : (.selects RX12 yX12_morning yX12_morning : Cond) ∈ lw_good := lwg (lwT8 (List.mem_of_getElem? (i := 170) rfl)) rfl
set_option maxRecDepth 20000 in
theorem kw_8_171 : (.code yX12_morning cX12_morning 2 (some .int) : Cond) ∈ lw_good := lwg (lwT8 (List.mem_of_getElem? (i := 171) rfl)) rfl
set_option maxRecDepth 20000 in
theorem kw_8_172 : (.methodLink RX12 468 yX12_goThrough : Cond) ∈ lw_good := lwg (lwT8 (List.mem_of_getElem? (i := 172) rfl)) rfl
set_option maxRecDepth 20000 in
theorem kw_8_174 : (.instanceMethod yX12_goThrough : Cond) ∈ lw_good := lwg (lwT8 (List.mem_of_getElem? (i := 174) rfl)) rfl
set_option maxRecDepth 20000 in
theorem kw_8_175 : (.code yX12_goThrough cX12_goThrough 5 none : Cond) ∈ lw_good := lwg (lwT8 (List.mem_of_getElem? (i := 175) rfl)) rfl
set_option maxRecDepth 20000 in
theorem kw_8_176 : (.methodLink RX12 462 yX12_orderTrips : Cond) ∈ lw_good := lwg (lwT8 (List.mem_of_getElem? (i := 176) rfl)) rfl
set_option maxRecDepth 20000 in
theorem kw_8_178 : (.instanceMethod yX12_orderTrips : Cond) ∈ lw_good := lwg (lwT8 (List.mem_of_getElem? (i := 178) rfl)) rfl
set_option maxRecDepth 20000 in
theorem kw_8_179 : (.code yX12_orderTrips cX12_orderTrips 3 none : Cond) ∈ lw_good := lwg (lwT8 (List.mem_of_getElem? (i := 179) rfl)) rfl
set_option maxRecDepth 20000 in
theorem kw_8_180 : (.methodLink RX12 426 yX12_runsToday : Cond) ∈ lw_good := lwg (lwT8 (List.mem_of_getElem? (i := 180) rfl)) rfl
set_option maxRecDepth 20000 in
theorem kw_8_182 : (.instanceMethod yX12_runsToday : Cond) ∈ lw_good := lwg (lwT8 (List.mem_of_getElem? (i := 182) rfl)) rfl
set_option maxRecDepth 20000 in
theorem kw_8_183 : (.code yX12_runsToday cX12_runsToday 2 (some .boolean) : Cond) ∈ lw_good := lwg (lwT8 (List.mem_of_getElem? (i := 183) rfl)) rfl
set_option maxRecDepth 20000 in
theorem kw_8_184 : (.methodLink RX12 465 yX12_step : Cond) ∈ lw_good := lwg (lwT8 (List.mem_of_getElem? (i := 184) rfl)) rfl
set_option maxRecDepth 20000 in
theorem kw_8_186 : (.instanceMethod yX12_step : Cond) ∈ lw_good := lwg (lwT8 (List.mem_of_getElem? (i := 186) rfl)) rfl
set_option maxRecDepth 20000 in
theorem kw_8_187 : (.code yX12_step cX12_step 2 none : Cond) ∈ lw_good := lwg (lwT8 (List.mem_of_getElem? (i := 187) rfl)) rfl
set_option maxRecDepth 20000 in
theorem kw_8_188 : (.methodLink RX12 456 yX12_choose : Cond) ∈ lw_good := lwg (lwT8 (List.mem_of_getElem? (i := 188) rfl)) rfl
set_option maxRecDepth 20000 in
theorem kw_8_190 : (.instanceMethod yX12_choose : Cond) ∈ lw_good := lwg (lwT8 (List.mem_of_getElem? (i := 190) rfl)) rfl
set_option maxRecDepth 20000 in
theorem kw_8_191 : (.code yX12_choose cX12_choose 6 none : Cond) ∈ lw_good := lwg (lwT8 (List.mem_of_getElem? (i := 191) rfl)) rfl
set_option maxRecDepth 20000 in
theorem kw_8_192 : (.methodLink RX12 449 yX12_reckonWays : Cond) ∈ lw_good := lwg (lwT8 (List.mem_of_getElem? (i := 192) rfl)) rfl
set_option maxRecDepth 20000 in
theorem kw_8_194 : (.instanceMethod yX12_reckonWays : Cond) ∈ lw_good := lwg (lwT8 (List.mem_of_getElem? (i := 194) rfl)) rfl
set_option maxRecDepth 20000 in
theorem kw_8_195 : (.code yX12_reckonWays cX12_reckonWays 8 none : Cond) ∈ lw_good := lwg (lwT8 (List.mem_of_getElem? (i := 195) rfl)) rfl
set_option maxRecDepth 20000 in
theorem kw_8_196 : (.methodLink RX12 432 yX12_isHeard : Cond) ∈ lw_good := lwg (lwT8 (List.mem_of_getElem? (i := 196) rfl)) rfl
set_option maxRecDepth 20000 in
theorem kw_8_198 : (.instanceMethod yX12_isHeard : Cond) ∈ lw_good := lwg (lwT8 (List.mem_of_getElem? (i := 198) rfl)) rfl
set_option maxRecDepth 20000 in
theorem kw_8_199 : (.code yX12_isHeard cX12_isHeard 3 (some .boolean) : Cond) ∈ lw_good := lwg (lwT8 (List.mem_of_getElem? (i := 199) rfl)) rfl
set_option maxRecDepth 20000 in
theorem kw_8_200 : (.methodLink RX12 420 yX12_tripFar : Cond) ∈ lw_good := lwg (lwT8 (List.mem_of_getElem? (i := 200) rfl)) rfl
set_option maxRecDepth 20000 in
theorem kw_8_202 : (.instanceMethod yX12_tripFar : Cond) ∈ lw_good := lwg (lwT8 (List.mem_of_getElem? (i := 202) rfl)) rfl
set_option maxRecDepth 20000 in
theorem kw_8_203 : (.code yX12_tripFar cX12_tripFar 2 (some .int) : Cond) ∈ lw_good := lwg (lwT8 (List.mem_of_getElem? (i := 203) rfl)) rfl
set_option maxRecDepth 20000 in
theorem kw_8_204 : (.methodLink RX12 436 yX12_drive : Cond) ∈ lw_good := lwg (lwT8 (List.mem_of_getElem? (i := 204) rfl)) rfl
set_option maxRecDepth 20000 in
theorem kw_8_206 : (.instanceMethod yX12_drive : Cond) ∈ lw_good := lwg (lwT8 (List.mem_of_getElem? (i := 206) rfl)) rfl
set_option maxRecDepth 20000 in
theorem kw_8_207 : (.code yX12_drive cX12_drive 5 (some .int) : Cond) ∈ lw_good := lwg (lwT8 (List.mem_of_getElem? (i := 207) rfl)) rfl
set_option maxRecDepth 20000 in
theorem kw_8_208 : (.methodLink RX12 439 yX12_walk : Cond) ∈ lw_good := lwg (lwT8 (List.mem_of_getElem? (i := 208) rfl)) rfl
set_option maxRecDepth 20000 in
theorem kw_8_210 : (.instanceMethod yX12_walk : Cond) ∈ lw_good := lwg (lwT8 (List.mem_of_getElem? (i := 210) rfl)) rfl
set_option maxRecDepth 20000 in
theorem kw_8_211 : (.code yX12_walk cX12_walk 4 (some .int) : Cond) ∈ lw_good := lwg (lwT8 (List.mem_of_getElem? (i := 211) rfl)) rfl
set_option maxRecDepth 20000 in
theorem kw_8_212 : (.methodLink RX12 417 yX12_pace : Cond) ∈ lw_good := lwg (lwT8 (List.mem_of_getElem? (i := 212) rfl)) rfl
set_option maxRecDepth 20000 in
theorem kw_8_214 : (.instanceMethod yX12_pace : Cond) ∈ lw_good := lwg (lwT8 (List.mem_of_getElem? (i := 214) rfl)) rfl
set_option maxRecDepth 20000 in
theorem kw_8_215 : (.code yX12_pace cX12_pace 3 (some .int) : Cond) ∈ lw_good := lwg (lwT8 (List.mem_of_getElem? (i := 215) rfl)) rfl
set_option maxRecDepth 20000 in
theorem kw_8_216 : (.methodLink RX12 452 yX12_setOut : Cond) ∈ lw_good := lwg (lwT8 (List.mem_of_getElem? (i := 216) rfl)) rfl
set_option maxRecDepth 20000 in
theorem kw_8_218 : (.instanceMethod yX12_setOut : Cond) ∈ lw_good := lwg (lwT8 (List.mem_of_getElem? (i := 218) rfl)) rfl
set_option maxRecDepth 20000 in
theorem kw_8_219 : (.code yX12_setOut cX12_setOut 8 none : Cond) ∈ lw_good := lwg (lwT8 (List.mem_of_getElem? (i := 219) rfl)) rfl
set_option maxRecDepth 20000 in
theorem kw_8_220 : (.methodLink RX12 446 yX12_arrive : Cond) ∈ lw_good := lwg (lwT8 (List.mem_of_getElem? (i := 220) rfl)) rfl
set_option maxRecDepth 20000 in
theorem kw_8_222 : (.instanceMethod yX12_arrive : Cond) ∈ lw_good := lwg (lwT8 (List.mem_of_getElem? (i := 222) rfl)) rfl
set_option maxRecDepth 20000 in
theorem kw_8_223 : (.code yX12_arrive cX12_arrive 2 none : Cond) ∈ lw_good := lwg (lwT8 (List.mem_of_getElem? (i := 223) rfl)) rfl
set_option maxRecDepth 20000 in
theorem kw_8_224 : (.methodLink RX12 459 yX12_leave : Cond) ∈ lw_good := lwg (lwT8 (List.mem_of_getElem? (i := 224) rfl)) rfl
set_option maxRecDepth 20000 in
theorem kw_8_226 : (.instanceMethod yX12_leave : Cond) ∈ lw_good := lwg (lwT8 (List.mem_of_getElem? (i := 226) rfl)) rfl
set_option maxRecDepth 20000 in
theorem kw_8_227 : (.code yX12_leave cX12_leave 10 none : Cond) ∈ lw_good := lwg (lwT8 (List.mem_of_getElem? (i := 227) rfl)) rfl
set_option maxRecDepth 20000 in
theorem kw_8_228 : (.methodLink RX12 471 yX12_inTime : Cond) ∈ lw_good := lwg (lwT8 (List.mem_of_getElem? (i := 228) rfl)) rfl
set_option maxRecDepth 20000 in
theorem kw_8_230 : (.instanceMethod yX12_inTime : Cond) ∈ lw_good := lwg (lwT8 (List.mem_of_getElem? (i := 230) rfl)) rfl
set_option maxRecDepth 20000 in
theorem kw_8_231 : (.code yX12_inTime cX12_inTime 3 (some .int) : Cond) ∈ lw_good := lwg (lwT8 (List.mem_of_getElem? (i := 231) rfl)) rfl
set_option maxRecDepth 20000 in
theorem kw_8_232 : (.methodLink RL 118 yX12_tried : Cond) ∈ lw_good := lwg (lwT8 (List.mem_of_getElem? (i := 232) rfl)) rfl
set_option maxRecDepth 20000 in
theorem kw_8_233 : (.instanceMethod yX12_tried : Cond) ∈ lw_good := lwg (lwT8 (List.mem_of_getElem? (i := 233) rfl)) rfl
set_option maxRecDepth 20000 in
theorem kw_8_234 : (.selects RX12 yX12_tried yX12_tried : Cond) ∈ lw_good := lwg (lwT8 (List.mem_of_getElem? (i := 234) rfl)) rfl
set_option maxRecDepth 20000 in
theorem kw_8_235 : (.code yX12_tried cX12_tried 4 (some .int) : Cond) ∈ lw_good := lwg (lwT8 (List.mem_of_getElem? (i := 235) rfl)) rfl
set_option maxRecDepth 20000 in
theorem kw_8_236 : (.methodLink RX12 477 yX12_keep : Cond) ∈ lw_good := lwg (lwT8 (List.mem_of_getElem? (i := 236) rfl)) rfl
set_option maxRecDepth 20000 in
theorem kw_8_238 : (.instanceMethod yX12_keep : Cond) ∈ lw_good := lwg (lwT8 (List.mem_of_getElem? (i := 238) rfl)) rfl
set_option maxRecDepth 20000 in
theorem kw_8_239 : (.code yX12_keep cX12_keep 4 none : Cond) ∈ lw_good := lwg (lwT8 (List.mem_of_getElem? (i := 239) rfl)) rfl
set_option maxRecDepth 20000 in
theorem kw_9_0 : (.methodLink RX12 481 yX12_putBack : Cond) ∈ lw_good := lwg (lwT9 (List.mem_of_getElem? (i := 0) rfl)) rfl
set_option maxRecDepth 20000 in
theorem kw_9_2 : (.instanceMethod yX12_putBack : Cond) ∈ lw_good := lwg (lwT9 (List.mem_of_getElem? (i := 2) rfl)) rfl
set_option maxRecDepth 20000 in
theorem kw_9_3 : (.code yX12_putBack cX12_putBack 4 none : Cond) ∈ lw_good := lwg (lwT9 (List.mem_of_getElem? (i := 3) rfl)) rfl
set_option maxRecDepth 20000 in
theorem kw_9_4 : (.methodLink RL 106 yX12_of : Cond) ∈ lw_good := lwg (lwT9 (List.mem_of_getElem? (i := 4) rfl)) rfl
set_option maxRecDepth 20000 in
theorem kw_9_5 : (.instanceMethod yX12_of : Cond) ∈ lw_good := lwg (lwT9 (List.mem_of_getElem? (i := 5) rfl)) rfl
set_option maxRecDepth 20000 in
theorem kw_9_6 : (.selects RX12 yX12_of yX12_of : Cond) ∈ lw_good := lwg (lwT9 (List.mem_of_getElem? (i := 6) rfl)) rfl
set_option maxRecDepth 20000 in
theorem kw_9_7 : (.code yX12_of cX12_of 3 (some .int) : Cond) ∈ lw_good := lwg (lwT9 (List.mem_of_getElem? (i := 7) rfl)) rfl
set_option maxRecDepth 20000 in
theorem kw_9_8 : (.methodLink RX12 484 yX12_refuse : Cond) ∈ lw_good := lwg (lwT9 (List.mem_of_getElem? (i := 8) rfl)) rfl
set_option maxRecDepth 20000 in
theorem kw_9_10 : (.instanceMethod yX12_refuse : Cond) ∈ lw_good := lwg (lwT9 (List.mem_of_getElem? (i := 10) rfl)) rfl
set_option maxRecDepth 20000 in
theorem kw_9_11 : (.code yX12_refuse cX12_refuse 1 (some .int) : Cond) ∈ lw_good := lwg (lwT9 (List.mem_of_getElem? (i := 11) rfl)) rfl
set_option maxRecDepth 20000 in
theorem kw_9_12 : (.methodLink RL 110 yX12_rode : Cond) ∈ lw_good := lwg (lwT9 (List.mem_of_getElem? (i := 12) rfl)) rfl
set_option maxRecDepth 20000 in
theorem kw_9_13 : (.instanceMethod yX12_rode : Cond) ∈ lw_good := lwg (lwT9 (List.mem_of_getElem? (i := 13) rfl)) rfl
set_option maxRecDepth 20000 in
theorem kw_9_14 : (.selects RX12 yX12_rode yX12_rode : Cond) ∈ lw_good := lwg (lwT9 (List.mem_of_getElem? (i := 14) rfl)) rfl
set_option maxRecDepth 20000 in
theorem kw_9_15 : (.code yX12_rode cX12_rode 2 (some .int) : Cond) ∈ lw_good := lwg (lwT9 (List.mem_of_getElem? (i := 15) rfl)) rfl
set_option maxRecDepth 20000 in
theorem kw_9_16 : (.methodLink RL 114 yX12_wheeled : Cond) ∈ lw_good := lwg (lwT9 (List.mem_of_getElem? (i := 16) rfl)) rfl
set_option maxRecDepth 20000 in
theorem kw_9_17 : (.instanceMethod yX12_wheeled : Cond) ∈ lw_good := lwg (lwT9 (List.mem_of_getElem? (i := 17) rfl)) rfl
set_option maxRecDepth 20000 in
theorem kw_9_18 : (.selects RX12 yX12_wheeled yX12_wheeled : Cond) ∈ lw_good := lwg (lwT9 (List.mem_of_getElem? (i := 18) rfl)) rfl
set_option maxRecDepth 20000 in
theorem kw_9_19 : (.code yX12_wheeled cX12_wheeled 3 (some .int) : Cond) ∈ lw_good := lwg (lwT9 (List.mem_of_getElem? (i := 19) rfl)) rfl
set_option maxRecDepth 20000 in
theorem kw_9_20 : (.methodLink RL 122 yX12_seated : Cond) ∈ lw_good := lwg (lwT9 (List.mem_of_getElem? (i := 20) rfl)) rfl
set_option maxRecDepth 20000 in
theorem kw_9_21 : (.instanceMethod yX12_seated : Cond) ∈ lw_good := lwg (lwT9 (List.mem_of_getElem? (i := 21) rfl)) rfl
set_option maxRecDepth 20000 in
theorem kw_9_22 : (.selects RX12 yX12_seated yX12_seated : Cond) ∈ lw_good := lwg (lwT9 (List.mem_of_getElem? (i := 22) rfl)) rfl
set_option maxRecDepth 20000 in
theorem kw_9_23 : (.code yX12_seated cX12_seated 9 (some .int) : Cond) ∈ lw_good := lwg (lwT9 (List.mem_of_getElem? (i := 23) rfl)) rfl
set_option maxRecDepth 20000 in
theorem kw_9_24 : (.methodLink RX12 487 yX12_mostSeated : Cond) ∈ lw_good := lwg (lwT9 (List.mem_of_getElem? (i := 24) rfl)) rfl
set_option maxRecDepth 20000 in
theorem kw_9_26 : (.instanceMethod yX12_mostSeated : Cond) ∈ lw_good := lwg (lwT9 (List.mem_of_getElem? (i := 26) rfl)) rfl
set_option maxRecDepth 20000 in
theorem kw_9_27 : (.code yX12_mostSeated cX12_mostSeated 5 (some .int) : Cond) ∈ lw_good := lwg (lwT9 (List.mem_of_getElem? (i := 27) rfl)) rfl
set_option maxRecDepth 20000 in
theorem kw_9_28 : (.methodLink RL 126 yX12_seatedAt : Cond) ∈ lw_good := lwg (lwT9 (List.mem_of_getElem? (i := 28) rfl)) rfl
set_option maxRecDepth 20000 in
theorem kw_9_29 : (.instanceMethod yX12_seatedAt : Cond) ∈ lw_good := lwg (lwT9 (List.mem_of_getElem? (i := 29) rfl)) rfl
set_option maxRecDepth 20000 in
theorem kw_9_30 : (.selects RX12 yX12_seatedAt yX12_seatedAt : Cond) ∈ lw_good := lwg (lwT9 (List.mem_of_getElem? (i := 30) rfl)) rfl
set_option maxRecDepth 20000 in
theorem kw_9_31 : (.code yX12_seatedAt cX12_seatedAt 2 (some .int) : Cond) ∈ lw_good := lwg (lwT9 (List.mem_of_getElem? (i := 31) rfl)) rfl
set_option maxRecDepth 20000 in
theorem kw_9_32 : (.methodLink RL 130 yX12_count : Cond) ∈ lw_good := lwg (lwT9 (List.mem_of_getElem? (i := 32) rfl)) rfl
set_option maxRecDepth 20000 in
theorem kw_9_33 : (.instanceMethod yX12_count : Cond) ∈ lw_good := lwg (lwT9 (List.mem_of_getElem? (i := 33) rfl)) rfl
set_option maxRecDepth 20000 in
theorem kw_9_34 : (.selects RX12 yX12_count yX12_count : Cond) ∈ lw_good := lwg (lwT9 (List.mem_of_getElem? (i := 34) rfl)) rfl
set_option maxRecDepth 20000 in
theorem kw_9_35 : (.code yX12_count cX12_count 2 (some .int) : Cond) ∈ lw_good := lwg (lwT9 (List.mem_of_getElem? (i := 35) rfl)) rfl
set_option maxRecDepth 20000 in
theorem kw_9_63 : (.fieldLink RX3 138 "WalkingTown$Token" "text" "Ljava/lang/String;" : Cond) ∈ lw_good := lwg (lwT9 (List.mem_of_getElem? (i := 63) rfl)) rfl
set_option maxRecDepth 20000 in
theorem kw_9_64 : (.fieldLink RJ0 9 "java/lang/String" "value" "[B" : Cond) ∈ lw_good := lwg (lwT9 (List.mem_of_getElem? (i := 64) rfl)) rfl
set_option maxRecDepth 20000 in
theorem kw_9_65 : (.fieldLink RJ0 15 "java/lang/String" "coder" "B" : Cond) ∈ lw_good := lwg (lwT9 (List.mem_of_getElem? (i := 65) rfl)) rfl
set_option maxRecDepth 20000 in
theorem kw_9_66 : (.fieldLink RX3 162 "WalkingTown$Token" "role" "I" : Cond) ∈ lw_good := lwg (lwT9 (List.mem_of_getElem? (i := 66) rfl)) rfl
set_option maxRecDepth 20000 in
theorem kw_9_67 : (.fieldLink RX3 168 "WalkingTown$Token" "code" "I" : Cond) ∈ lw_good := lwg (lwT9 (List.mem_of_getElem? (i := 67) rfl)) rfl
set_option maxRecDepth 20000 in
theorem kw_p_0 : (.selects RX11 yX11_putOnTape yX11_putOnTape : Cond) ∈ lw_good := lwg (lwP1 (List.mem_map.mpr ⟨_, List.mem_of_getElem? (i := 0) rfl, rfl⟩)) rfl
set_option maxRecDepth 20000 in
theorem kw_p_1 : (.selects RX11 yX11_tapeIsRain yX11_tapeIsRain : Cond) ∈ lw_good := lwg (lwP1 (List.mem_map.mpr ⟨_, List.mem_of_getElem? (i := 1) rfl, rfl⟩)) rfl
set_option maxRecDepth 20000 in
theorem kw_p_2 : (.selects RX3 yX3_split yX3_split : Cond) ∈ lw_good := lwg (lwP1 (List.mem_map.mpr ⟨_, List.mem_of_getElem? (i := 2) rfl, rfl⟩)) rfl
set_option maxRecDepth 20000 in
theorem kw_p_3 : (.selects RX3 yX3_addToken yX3_addToken : Cond) ∈ lw_good := lwg (lwP1 (List.mem_map.mpr ⟨_, List.mem_of_getElem? (i := 3) rfl, rfl⟩)) rfl
set_option maxRecDepth 20000 in
theorem kw_p_4 : (.selects RX3 yX3_token yX3_token : Cond) ∈ lw_good := lwg (lwP1 (List.mem_map.mpr ⟨_, List.mem_of_getElem? (i := 4) rfl, rfl⟩)) rfl
set_option maxRecDepth 20000 in
theorem kw_p_5 : (.selects RX3 yX3_readLine yX3_readLine : Cond) ∈ lw_good := lwg (lwP1 (List.mem_map.mpr ⟨_, List.mem_of_getElem? (i := 5) rfl, rfl⟩)) rfl
set_option maxRecDepth 20000 in
theorem kw_p_6 : (.selects RX3 yX3_fail yX3_fail : Cond) ∈ lw_good := lwg (lwP1 (List.mem_map.mpr ⟨_, List.mem_of_getElem? (i := 6) rfl, rfl⟩)) rfl
set_option maxRecDepth 20000 in
theorem kw_p_7 : (.selects RX3 yX3_step yX3_step : Cond) ∈ lw_good := lwg (lwP1 (List.mem_map.mpr ⟨_, List.mem_of_getElem? (i := 7) rfl, rfl⟩)) rfl
set_option maxRecDepth 20000 in
theorem kw_p_8 : (.selects RX3 yX3_readNot yX3_readNot : Cond) ∈ lw_good := lwg (lwP1 (List.mem_map.mpr ⟨_, List.mem_of_getElem? (i := 8) rfl, rfl⟩)) rfl
set_option maxRecDepth 20000 in
theorem kw_p_9 : (.selects RX3 yX3_readValue yX3_readValue : Cond) ∈ lw_good := lwg (lwP1 (List.mem_map.mpr ⟨_, List.mem_of_getElem? (i := 9) rfl, rfl⟩)) rfl
set_option maxRecDepth 20000 in
theorem kw_p_10 : (.selects RX3 yX3_take yX3_take : Cond) ∈ lw_good := lwg (lwP1 (List.mem_map.mpr ⟨_, List.mem_of_getElem? (i := 10) rfl, rfl⟩)) rfl
set_option maxRecDepth 20000 in
theorem kw_p_11 : (.selects RX3 yX3_readCond yX3_readCond : Cond) ∈ lw_good := lwg (lwP1 (List.mem_map.mpr ⟨_, List.mem_of_getElem? (i := 11) rfl, rfl⟩)) rfl
set_option maxRecDepth 20000 in
theorem kw_p_12 : (.selects RX3 yX3_readAll yX3_readAll : Cond) ∈ lw_good := lwg (lwP1 (List.mem_map.mpr ⟨_, List.mem_of_getElem? (i := 12) rfl, rfl⟩)) rfl
set_option maxRecDepth 20000 in
theorem kw_p_13 : (.selects RX3 yX3_readOne yX3_readOne : Cond) ∈ lw_good := lwg (lwP1 (List.mem_map.mpr ⟨_, List.mem_of_getElem? (i := 13) rfl, rfl⟩)) rfl
set_option maxRecDepth 20000 in
theorem kw_p_14 : (.selects RX3 yX3_addCode yX3_addCode : Cond) ∈ lw_good := lwg (lwP1 (List.mem_map.mpr ⟨_, List.mem_of_getElem? (i := 14) rfl, rfl⟩)) rfl
set_option maxRecDepth 20000 in
theorem kw_p_15 : (.selects RX3 yX3_readSign yX3_readSign : Cond) ∈ lw_good := lwg (lwP1 (List.mem_map.mpr ⟨_, List.mem_of_getElem? (i := 15) rfl, rfl⟩)) rfl
set_option maxRecDepth 20000 in
theorem kw_p_16 : (.selects RJx4a65c yJx4a65c_add_72be8 yJx4a65c_add_72be8 : Cond) ∈ lw_good := lwg (lwP2 (List.mem_map.mpr ⟨_, List.mem_of_getElem? (i := 0) rfl, rfl⟩)) rfl
set_option maxRecDepth 20000 in
theorem kw_p_17 : (.selects RJx4a65c yJx4a65c_grow_d5877 yJx4a65c_grow_d5877 : Cond) ∈ lw_good := lwg (lwP2 (List.mem_map.mpr ⟨_, List.mem_of_getElem? (i := 1) rfl, rfl⟩)) rfl
set_option maxRecDepth 20000 in
theorem kw_p_18 : (.selects RJx4a65c yJx4a65c_grow_92f84 yJx4a65c_grow_92f84 : Cond) ∈ lw_good := lwg (lwP2 (List.mem_map.mpr ⟨_, List.mem_of_getElem? (i := 2) rfl, rfl⟩)) rfl
set_option maxRecDepth 20000 in
theorem kw_p_19 : (.selects RX7 yX7_setFacts yX7_setFacts : Cond) ∈ lw_good := lwg (lwP2 (List.mem_map.mpr ⟨_, List.mem_of_getElem? (i := 3) rfl, rfl⟩)) rfl
set_option maxRecDepth 20000 in
theorem kw_p_20 : (.selects RX0 yX0_holds yX0_holds : Cond) ∈ lw_good := lwg (lwP2 (List.mem_map.mpr ⟨_, List.mem_of_getElem? (i := 4) rfl, rfl⟩)) rfl
set_option maxRecDepth 20000 in
theorem kw_p_21 : (.selects RX1 yX1_readyPeople yX1_readyPeople : Cond) ∈ lw_good := lwg (lwP2 (List.mem_map.mpr ⟨_, List.mem_of_getElem? (i := 5) rfl, rfl⟩)) rfl
set_option maxRecDepth 20000 in
theorem kw_p_22 : (.selects RX1 yX1_markBusy yX1_markBusy : Cond) ∈ lw_good := lwg (lwP2 (List.mem_map.mpr ⟨_, List.mem_of_getElem? (i := 6) rfl, rfl⟩)) rfl
set_option maxRecDepth 20000 in
theorem kw_p_23 : (.selects RX1 yX1_readyWheels yX1_readyWheels : Cond) ∈ lw_good := lwg (lwP2 (List.mem_map.mpr ⟨_, List.mem_of_getElem? (i := 7) rfl, rfl⟩)) rfl
set_option maxRecDepth 20000 in
theorem kw_p_24 : (.selects RX1 yX1_readyTrips yX1_readyTrips : Cond) ∈ lw_good := lwg (lwP2 (List.mem_map.mpr ⟨_, List.mem_of_getElem? (i := 8) rfl, rfl⟩)) rfl
set_option maxRecDepth 20000 in
theorem kw_p_25 : (.selects RX1 yX1_goesToday yX1_goesToday : Cond) ∈ lw_good := lwg (lwP2 (List.mem_map.mpr ⟨_, List.mem_of_getElem? (i := 9) rfl, rfl⟩)) rfl
set_option maxRecDepth 20000 in
theorem kw_p_26 : (.selects RX9 yX9_sortIn yX9_sortIn : Cond) ∈ lw_good := lwg (lwP2 (List.mem_map.mpr ⟨_, List.mem_of_getElem? (i := 10) rfl, rfl⟩)) rfl
set_option maxRecDepth 20000 in
theorem kw_p_27 : (.selects RX9 yX9_lastAhead yX9_lastAhead : Cond) ∈ lw_good := lwg (lwP2 (List.mem_map.mpr ⟨_, List.mem_of_getElem? (i := 11) rfl, rfl⟩)) rfl
set_option maxRecDepth 20000 in
theorem kw_p_28 : (.selects RX1 yX1_landWheels yX1_landWheels : Cond) ∈ lw_good := lwg (lwP2 (List.mem_map.mpr ⟨_, List.mem_of_getElem? (i := 12) rfl, rfl⟩)) rfl
set_option maxRecDepth 20000 in
theorem kw_p_29 : (.selects RX1 yX1_choose yX1_choose : Cond) ∈ lw_good := lwg (lwP2 (List.mem_map.mpr ⟨_, List.mem_of_getElem? (i := 13) rfl, rfl⟩)) rfl
set_option maxRecDepth 20000 in
theorem kw_p_30 : (.selects RX9 yX9_weigh yX9_weigh : Cond) ∈ lw_good := lwg (lwP2 (List.mem_map.mpr ⟨_, List.mem_of_getElem? (i := 14) rfl, rfl⟩)) rfl
set_option maxRecDepth 20000 in
theorem kw_p_31 : (.selects RX9 yX9_hasHeard yX9_hasHeard : Cond) ∈ lw_good := lwg (lwP2 (List.mem_map.mpr ⟨_, List.mem_of_getElem? (i := 15) rfl, rfl⟩)) rfl
set_option maxRecDepth 20000 in
theorem kw_p_32 : (.selects RX9 yX9_reaches yX9_reaches : Cond) ∈ lw_good := lwg (lwP3 (List.mem_map.mpr ⟨_, List.mem_of_getElem? (i := 0) rfl, rfl⟩)) rfl
set_option maxRecDepth 20000 in
theorem kw_p_33 : (.selects RX1 yX1_walk yX1_walk : Cond) ∈ lw_good := lwg (lwP3 (List.mem_map.mpr ⟨_, List.mem_of_getElem? (i := 1) rfl, rfl⟩)) rfl
set_option maxRecDepth 20000 in
theorem kw_p_34 : (.selects RX1 yX1_leaveHomes yX1_leaveHomes : Cond) ∈ lw_good := lwg (lwP3 (List.mem_map.mpr ⟨_, List.mem_of_getElem? (i := 2) rfl, rfl⟩)) rfl
set_option maxRecDepth 20000 in
theorem kw_p_35 : (.selects RX1 yX1_sendTrips yX1_sendTrips : Cond) ∈ lw_good := lwg (lwP3 (List.mem_map.mpr ⟨_, List.mem_of_getElem? (i := 3) rfl, rfl⟩)) rfl
set_option maxRecDepth 20000 in
theorem kw_p_36 : (.selects RX1 yX1_send yX1_send : Cond) ∈ lw_good := lwg (lwP3 (List.mem_map.mpr ⟨_, List.mem_of_getElem? (i := 4) rfl, rfl⟩)) rfl
set_option maxRecDepth 20000 in
theorem kw_p_37 : (.selects RX1 yX1_standsReady yX1_standsReady : Cond) ∈ lw_good := lwg (lwP3 (List.mem_map.mpr ⟨_, List.mem_of_getElem? (i := 5) rfl, rfl⟩)) rfl
set_option maxRecDepth 20000 in
theorem kw_p_38 : (.selects RX1 yX1_board yX1_board : Cond) ∈ lw_good := lwg (lwP3 (List.mem_map.mpr ⟨_, List.mem_of_getElem? (i := 6) rfl, rfl⟩)) rfl
set_option maxRecDepth 20000 in
theorem kw_p_39 : (.selects RX1 yX1_firstInLine yX1_firstInLine : Cond) ∈ lw_good := lwg (lwP3 (List.mem_map.mpr ⟨_, List.mem_of_getElem? (i := 7) rfl, rfl⟩)) rfl
set_option maxRecDepth 20000 in
theorem kw_p_40 : (.selects RX1 yX1_earn yX1_earn : Cond) ∈ lw_good := lwg (lwP3 (List.mem_map.mpr ⟨_, List.mem_of_getElem? (i := 8) rfl, rfl⟩)) rfl
set_option maxRecDepth 20000 in
theorem kw_p_41 : (.selects RX1 yX1_halt yX1_halt : Cond) ∈ lw_good := lwg (lwP3 (List.mem_map.mpr ⟨_, List.mem_of_getElem? (i := 9) rfl, rfl⟩)) rfl
set_option maxRecDepth 20000 in
theorem kw_p_42 : (.selects RX1 yX1_pays yX1_pays : Cond) ∈ lw_good := lwg (lwP3 (List.mem_map.mpr ⟨_, List.mem_of_getElem? (i := 10) rfl, rfl⟩)) rfl
set_option maxRecDepth 20000 in
theorem kw_p_43 : (.selects RX1 yX1_setOut yX1_setOut : Cond) ∈ lw_good := lwg (lwP3 (List.mem_map.mpr ⟨_, List.mem_of_getElem? (i := 11) rfl, rfl⟩)) rfl
set_option maxRecDepth 20000 in
theorem kw_p_44 : (.selects RX1 yX1_chooseAgain yX1_chooseAgain : Cond) ∈ lw_good := lwg (lwP3 (List.mem_map.mpr ⟨_, List.mem_of_getElem? (i := 12) rfl, rfl⟩)) rfl
set_option maxRecDepth 20000 in
theorem kw_p_45 : (.selects RX1 yX1_countOnTime yX1_countOnTime : Cond) ∈ lw_good := lwg (lwP3 (List.mem_map.mpr ⟨_, List.mem_of_getElem? (i := 13) rfl, rfl⟩)) rfl
set_option maxRecDepth 20000 in
theorem kw_p_46 : (.selects RX1 yX1_settlePerson yX1_settlePerson : Cond) ∈ lw_good := lwg (lwP3 (List.mem_map.mpr ⟨_, List.mem_of_getElem? (i := 14) rfl, rfl⟩)) rfl
set_option maxRecDepth 20000 in
theorem kw_p_47 : (.selects RX11 yX11_tapeIsWheels yX11_tapeIsWheels : Cond) ∈ lw_good := lwg (lwP3 (List.mem_map.mpr ⟨_, List.mem_of_getElem? (i := 15) rfl, rfl⟩)) rfl
set_option maxRecDepth 20000 in
theorem kw_p_48 : (.selects RX11 yX11_standsAhead yX11_standsAhead : Cond) ∈ lw_good := lwg (lwP4 (List.mem_map.mpr ⟨_, List.mem_of_getElem? (i := 0) rfl, rfl⟩)) rfl
set_option maxRecDepth 20000 in
theorem kw_p_49 : (.selects RX5 yX5_readySeats yX5_readySeats : Cond) ∈ lw_good := lwg (lwP4 (List.mem_map.mpr ⟨_, List.mem_of_getElem? (i := 1) rfl, rfl⟩)) rfl
set_option maxRecDepth 20000 in
theorem kw_p_50 : (.selects RX5 yX5_readyStops yX5_readyStops : Cond) ∈ lw_good := lwg (lwP4 (List.mem_map.mpr ⟨_, List.mem_of_getElem? (i := 2) rfl, rfl⟩)) rfl
set_option maxRecDepth 20000 in
theorem kw_p_51 : (.selects RX5 yX5_isCovered yX5_isCovered : Cond) ∈ lw_good := lwg (lwP4 (List.mem_map.mpr ⟨_, List.mem_of_getElem? (i := 3) rfl, rfl⟩)) rfl
set_option maxRecDepth 20000 in
theorem kw_p_52 : (.selects RX5 yX5_countNear yX5_countNear : Cond) ∈ lw_good := lwg (lwP4 (List.mem_map.mpr ⟨_, List.mem_of_getElem? (i := 4) rfl, rfl⟩)) rfl
set_option maxRecDepth 20000 in
theorem kw_p_53 : (.selects RX5 yX5_put yX5_put : Cond) ∈ lw_good := lwg (lwP4 (List.mem_map.mpr ⟨_, List.mem_of_getElem? (i := 5) rfl, rfl⟩)) rfl
set_option maxRecDepth 20000 in
theorem kw_p_54 : (.selects RX5 yX5_firstPlace yX5_firstPlace : Cond) ∈ lw_good := lwg (lwP4 (List.mem_map.mpr ⟨_, List.mem_of_getElem? (i := 6) rfl, rfl⟩)) rfl
set_option maxRecDepth 20000 in
theorem kw_p_55 : (.selects RX5 yX5_mostWith yX5_mostWith : Cond) ∈ lw_good := lwg (lwP4 (List.mem_map.mpr ⟨_, List.mem_of_getElem? (i := 7) rfl, rfl⟩)) rfl
set_option maxRecDepth 20000 in
theorem kw_p_57 : (.selects RX12 yX12_come yX12_come : Cond) ∈ lw_good := lwg (lwP4 (List.mem_map.mpr ⟨_, List.mem_of_getElem? (i := 9) rfl, rfl⟩)) rfl
set_option maxRecDepth 20000 in
theorem kw_p_58 : (.selects RX12 yX12_begin yX12_begin : Cond) ∈ lw_good := lwg (lwP4 (List.mem_map.mpr ⟨_, List.mem_of_getElem? (i := 10) rfl, rfl⟩)) rfl
set_option maxRecDepth 20000 in
theorem kw_p_59 : (.selects RX12 yX12_farOf yX12_farOf : Cond) ∈ lw_good := lwg (lwP4 (List.mem_map.mpr ⟨_, List.mem_of_getElem? (i := 11) rfl, rfl⟩)) rfl
set_option maxRecDepth 20000 in
theorem kw_p_60 : (.selects RX12 yX12_take yX12_take : Cond) ∈ lw_good := lwg (lwP4 (List.mem_map.mpr ⟨_, List.mem_of_getElem? (i := 12) rfl, rfl⟩)) rfl
set_option maxRecDepth 20000 in
theorem kw_p_61 : (.selects RX12 yX12_rainOf yX12_rainOf : Cond) ∈ lw_good := lwg (lwP4 (List.mem_map.mpr ⟨_, List.mem_of_getElem? (i := 13) rfl, rfl⟩)) rfl
set_option maxRecDepth 20000 in
theorem kw_p_62 : (.selects RX12 yX12_two yX12_two : Cond) ∈ lw_good := lwg (lwP4 (List.mem_map.mpr ⟨_, List.mem_of_getElem? (i := 14) rfl, rfl⟩)) rfl
set_option maxRecDepth 20000 in
theorem kw_p_63 : (.selects RX12 yX12_isWheel yX12_isWheel : Cond) ∈ lw_good := lwg (lwP4 (List.mem_map.mpr ⟨_, List.mem_of_getElem? (i := 15) rfl, rfl⟩)) rfl
set_option maxRecDepth 20000 in
theorem kw_p_64 : (.selects RX12 yX12_go yX12_go : Cond) ∈ lw_good := lwg (lwP5 (List.mem_map.mpr ⟨_, List.mem_of_getElem? (i := 0) rfl, rfl⟩)) rfl
set_option maxRecDepth 20000 in
theorem kw_p_65 : (.selects RX12 yX12_byteAt yX12_byteAt : Cond) ∈ lw_good := lwg (lwP5 (List.mem_map.mpr ⟨_, List.mem_of_getElem? (i := 1) rfl, rfl⟩)) rfl
set_option maxRecDepth 20000 in
theorem kw_p_66 : (.selects RX12 yX12_readLine yX12_readLine : Cond) ∈ lw_good := lwg (lwP5 (List.mem_map.mpr ⟨_, List.mem_of_getElem? (i := 2) rfl, rfl⟩)) rfl
set_option maxRecDepth 20000 in
theorem kw_p_67 : (.selects RX12 yX12_sortAtHand yX12_sortAtHand : Cond) ∈ lw_good := lwg (lwP5 (List.mem_map.mpr ⟨_, List.mem_of_getElem? (i := 3) rfl, rfl⟩)) rfl
set_option maxRecDepth 20000 in
theorem kw_p_68 : (.selects RX12 yX12_isKey yX12_isKey : Cond) ∈ lw_good := lwg (lwP5 (List.mem_map.mpr ⟨_, List.mem_of_getElem? (i := 4) rfl, rfl⟩)) rfl
set_option maxRecDepth 20000 in
theorem kw_p_69 : (.selects RX12 yX12_bad yX12_bad : Cond) ∈ lw_good := lwg (lwP5 (List.mem_map.mpr ⟨_, List.mem_of_getElem? (i := 5) rfl, rfl⟩)) rfl
set_option maxRecDepth 20000 in
theorem kw_p_70 : (.selects RX12 yX12_isNot yX12_isNot : Cond) ∈ lw_good := lwg (lwP5 (List.mem_map.mpr ⟨_, List.mem_of_getElem? (i := 6) rfl, rfl⟩)) rfl
set_option maxRecDepth 20000 in
theorem kw_p_71 : (.selects RX12 yX12_readCond yX12_readCond : Cond) ∈ lw_good := lwg (lwP5 (List.mem_map.mpr ⟨_, List.mem_of_getElem? (i := 7) rfl, rfl⟩)) rfl
set_option maxRecDepth 20000 in
theorem kw_p_72 : (.selects RX12 yX12_readOne yX12_readOne : Cond) ∈ lw_good := lwg (lwP5 (List.mem_map.mpr ⟨_, List.mem_of_getElem? (i := 8) rfl, rfl⟩)) rfl
set_option maxRecDepth 20000 in
theorem kw_p_73 : (.selects RX12 yX12_atom yX12_atom : Cond) ∈ lw_good := lwg (lwP5 (List.mem_map.mpr ⟨_, List.mem_of_getElem? (i := 9) rfl, rfl⟩)) rfl
set_option maxRecDepth 20000 in
theorem kw_p_74 : (.selects RX12 yX12_isSign yX12_isSign : Cond) ∈ lw_good := lwg (lwP5 (List.mem_map.mpr ⟨_, List.mem_of_getElem? (i := 10) rfl, rfl⟩)) rfl
set_option maxRecDepth 20000 in
theorem kw_p_75 : (.selects RX12 yX12_emit yX12_emit : Cond) ∈ lw_good := lwg (lwP5 (List.mem_map.mpr ⟨_, List.mem_of_getElem? (i := 11) rfl, rfl⟩)) rfl
set_option maxRecDepth 20000 in
theorem kw_p_76 : (.selects RX12 yX12_dropNots yX12_dropNots : Cond) ∈ lw_good := lwg (lwP5 (List.mem_map.mpr ⟨_, List.mem_of_getElem? (i := 12) rfl, rfl⟩)) rfl
set_option maxRecDepth 20000 in
theorem kw_p_77 : (.selects RX12 yX12_isOpen yX12_isOpen : Cond) ∈ lw_good := lwg (lwP5 (List.mem_map.mpr ⟨_, List.mem_of_getElem? (i := 13) rfl, rfl⟩)) rfl
set_option maxRecDepth 20000 in
theorem kw_p_78 : (.selects RX12 yX12_drop yX12_drop : Cond) ∈ lw_good := lwg (lwP5 (List.mem_map.mpr ⟨_, List.mem_of_getElem? (i := 14) rfl, rfl⟩)) rfl
set_option maxRecDepth 20000 in
theorem kw_p_79 : (.selects RX12 yX12_tells yX12_tells : Cond) ∈ lw_good := lwg (lwP5 (List.mem_map.mpr ⟨_, List.mem_of_getElem? (i := 15) rfl, rfl⟩)) rfl
set_option maxRecDepth 20000 in
theorem kw_p_80 : (.selects RX12 yX12_ask yX12_ask : Cond) ∈ lw_good := lwg (lwP6 (List.mem_map.mpr ⟨_, List.mem_of_getElem? (i := 0) rfl, rfl⟩)) rfl
set_option maxRecDepth 20000 in
theorem kw_p_81 : (.selects RX12 yX12_bylawNow yX12_bylawNow : Cond) ∈ lw_good := lwg (lwP6 (List.mem_map.mpr ⟨_, List.mem_of_getElem? (i := 1) rfl, rfl⟩)) rfl
set_option maxRecDepth 20000 in
theorem kw_p_82 : (.selects RX12 yX12_holds yX12_holds : Cond) ∈ lw_good := lwg (lwP6 (List.mem_map.mpr ⟨_, List.mem_of_getElem? (i := 2) rfl, rfl⟩)) rfl
set_option maxRecDepth 20000 in
theorem kw_p_83 : (.selects RX12 yX12_goThrough yX12_goThrough : Cond) ∈ lw_good := lwg (lwP6 (List.mem_map.mpr ⟨_, List.mem_of_getElem? (i := 3) rfl, rfl⟩)) rfl
set_option maxRecDepth 20000 in
theorem kw_p_84 : (.selects RX12 yX12_orderTrips yX12_orderTrips : Cond) ∈ lw_good := lwg (lwP6 (List.mem_map.mpr ⟨_, List.mem_of_getElem? (i := 4) rfl, rfl⟩)) rfl
set_option maxRecDepth 20000 in
theorem kw_p_85 : (.selects RX12 yX12_runsToday yX12_runsToday : Cond) ∈ lw_good := lwg (lwP6 (List.mem_map.mpr ⟨_, List.mem_of_getElem? (i := 5) rfl, rfl⟩)) rfl
set_option maxRecDepth 20000 in
theorem kw_p_86 : (.selects RX12 yX12_step yX12_step : Cond) ∈ lw_good := lwg (lwP6 (List.mem_map.mpr ⟨_, List.mem_of_getElem? (i := 6) rfl, rfl⟩)) rfl
set_option maxRecDepth 20000 in
theorem kw_p_87 : (.selects RX12 yX12_choose yX12_choose : Cond) ∈ lw_good := lwg (lwP6 (List.mem_map.mpr ⟨_, List.mem_of_getElem? (i := 7) rfl, rfl⟩)) rfl
set_option maxRecDepth 20000 in
theorem kw_p_88 : (.selects RX12 yX12_reckonWays yX12_reckonWays : Cond) ∈ lw_good := lwg (lwP6 (List.mem_map.mpr ⟨_, List.mem_of_getElem? (i := 8) rfl, rfl⟩)) rfl
set_option maxRecDepth 20000 in
theorem kw_p_89 : (.selects RX12 yX12_isHeard yX12_isHeard : Cond) ∈ lw_good := lwg (lwP6 (List.mem_map.mpr ⟨_, List.mem_of_getElem? (i := 9) rfl, rfl⟩)) rfl
set_option maxRecDepth 20000 in
theorem kw_p_90 : (.selects RX12 yX12_tripFar yX12_tripFar : Cond) ∈ lw_good := lwg (lwP6 (List.mem_map.mpr ⟨_, List.mem_of_getElem? (i := 10) rfl, rfl⟩)) rfl
set_option maxRecDepth 20000 in
theorem kw_p_91 : (.selects RX12 yX12_drive yX12_drive : Cond) ∈ lw_good := lwg (lwP6 (List.mem_map.mpr ⟨_, List.mem_of_getElem? (i := 11) rfl, rfl⟩)) rfl
set_option maxRecDepth 20000 in
theorem kw_p_92 : (.selects RX12 yX12_walk yX12_walk : Cond) ∈ lw_good := lwg (lwP6 (List.mem_map.mpr ⟨_, List.mem_of_getElem? (i := 12) rfl, rfl⟩)) rfl
set_option maxRecDepth 20000 in
theorem kw_p_93 : (.selects RX12 yX12_pace yX12_pace : Cond) ∈ lw_good := lwg (lwP6 (List.mem_map.mpr ⟨_, List.mem_of_getElem? (i := 13) rfl, rfl⟩)) rfl
set_option maxRecDepth 20000 in
theorem kw_p_94 : (.selects RX12 yX12_setOut yX12_setOut : Cond) ∈ lw_good := lwg (lwP6 (List.mem_map.mpr ⟨_, List.mem_of_getElem? (i := 14) rfl, rfl⟩)) rfl
set_option maxRecDepth 20000 in
theorem kw_p_95 : (.selects RX12 yX12_arrive yX12_arrive : Cond) ∈ lw_good := lwg (lwP6 (List.mem_map.mpr ⟨_, List.mem_of_getElem? (i := 15) rfl, rfl⟩)) rfl
set_option maxRecDepth 20000 in
theorem kw_p_96 : (.selects RX12 yX12_leave yX12_leave : Cond) ∈ lw_good := lwg (lwP7 (List.mem_map.mpr ⟨_, List.mem_of_getElem? (i := 0) rfl, rfl⟩)) rfl
set_option maxRecDepth 20000 in
theorem kw_p_97 : (.selects RX12 yX12_inTime yX12_inTime : Cond) ∈ lw_good := lwg (lwP7 (List.mem_map.mpr ⟨_, List.mem_of_getElem? (i := 1) rfl, rfl⟩)) rfl
set_option maxRecDepth 20000 in
theorem kw_p_98 : (.selects RX12 yX12_keep yX12_keep : Cond) ∈ lw_good := lwg (lwP7 (List.mem_map.mpr ⟨_, List.mem_of_getElem? (i := 2) rfl, rfl⟩)) rfl
set_option maxRecDepth 20000 in
theorem kw_p_99 : (.selects RX12 yX12_putBack yX12_putBack : Cond) ∈ lw_good := lwg (lwP7 (List.mem_map.mpr ⟨_, List.mem_of_getElem? (i := 3) rfl, rfl⟩)) rfl
set_option maxRecDepth 20000 in
theorem kw_p_100 : (.selects RX12 yX12_refuse yX12_refuse : Cond) ∈ lw_good := lwg (lwP7 (List.mem_map.mpr ⟨_, List.mem_of_getElem? (i := 4) rfl, rfl⟩)) rfl
set_option maxRecDepth 20000 in
theorem kw_p_101 : (.selects RX12 yX12_mostSeated yX12_mostSeated : Cond) ∈ lw_good := lwg (lwP7 (List.mem_map.mpr ⟨_, List.mem_of_getElem? (i := 5) rfl, rfl⟩)) rfl
set_option maxRecDepth 20000 in
theorem iGX0 : ∀ w ∈ wsX00, w ∈ lw_good := List.forall_mem_cons.mpr ⟨kw_2_42, List.forall_mem_cons.mpr ⟨kw_2_44, List.forall_mem_cons.mpr ⟨kw_2_46, List.forall_mem_cons.mpr ⟨kw_2_48, List.forall_mem_cons.mpr ⟨kw_2_50, List.forall_mem_cons.mpr ⟨kw_2_52, List.forall_mem_cons.mpr ⟨kw_2_54, fun _ h => absurd h List.not_mem_nil⟩⟩⟩⟩⟩⟩⟩
theorem iCX0 {a : Cond} : ∀ w ∈ wsX00, w ∈ a :: lw_good := fun w h => List.mem_cons_of_mem _ (iGX0 w h)
set_option maxRecDepth 20000 in
theorem iGX1 : ∀ w ∈ wsX10, w ∈ lw_good := List.forall_mem_cons.mpr ⟨kw_3_0, List.forall_mem_cons.mpr ⟨kw_3_2, List.forall_mem_cons.mpr ⟨kw_3_4, List.forall_mem_cons.mpr ⟨kw_3_6, List.forall_mem_cons.mpr ⟨kw_3_8, List.forall_mem_cons.mpr ⟨kw_3_10, List.forall_mem_cons.mpr ⟨kw_3_12, List.forall_mem_cons.mpr ⟨kw_3_14, List.forall_mem_cons.mpr ⟨kw_3_16, List.forall_mem_cons.mpr ⟨kw_3_18, List.forall_mem_cons.mpr ⟨kw_3_20, List.forall_mem_cons.mpr ⟨kw_3_22, List.forall_mem_cons.mpr ⟨kw_3_24, List.forall_mem_cons.mpr ⟨kw_3_26, List.forall_mem_cons.mpr ⟨kw_3_28, List.forall_mem_cons.mpr ⟨kw_3_30, List.forall_mem_cons.mpr ⟨kw_3_32, List.forall_mem_cons.mpr ⟨kw_3_34, List.forall_mem_cons.mpr ⟨kw_3_36, fun _ h => absurd h List.not_mem_nil⟩⟩⟩⟩⟩⟩⟩⟩⟩⟩⟩⟩⟩⟩⟩⟩⟩⟩⟩
theorem iCX1 {a : Cond} : ∀ w ∈ wsX10, w ∈ a :: lw_good := fun w h => List.mem_cons_of_mem _ (iGX1 w h)
set_option maxRecDepth 20000 in
theorem iGX2 : ∀ w ∈ wsX20, w ∈ lw_good := List.forall_mem_cons.mpr ⟨kw_1_103, List.forall_mem_cons.mpr ⟨kw_1_105, List.forall_mem_cons.mpr ⟨kw_1_107, List.forall_mem_cons.mpr ⟨kw_1_109, List.forall_mem_cons.mpr ⟨kw_1_111, List.forall_mem_cons.mpr ⟨kw_1_113, List.forall_mem_cons.mpr ⟨kw_1_115, List.forall_mem_cons.mpr ⟨kw_1_117, List.forall_mem_cons.mpr ⟨kw_1_119, List.forall_mem_cons.mpr ⟨kw_1_121, List.forall_mem_cons.mpr ⟨kw_1_123, List.forall_mem_cons.mpr ⟨kw_1_125, List.forall_mem_cons.mpr ⟨kw_1_127, List.forall_mem_cons.mpr ⟨kw_1_129, List.forall_mem_cons.mpr ⟨kw_1_131, fun _ h => absurd h List.not_mem_nil⟩⟩⟩⟩⟩⟩⟩⟩⟩⟩⟩⟩⟩⟩⟩
theorem iCX2 {a : Cond} : ∀ w ∈ wsX20, w ∈ a :: lw_good := fun w h => List.mem_cons_of_mem _ (iGX2 w h)
set_option maxRecDepth 20000 in
theorem iGX3 : ∀ w ∈ wsX30, w ∈ lw_good := List.forall_mem_cons.mpr ⟨kw_2_156, List.forall_mem_cons.mpr ⟨kw_2_158, List.forall_mem_cons.mpr ⟨kw_2_160, List.forall_mem_cons.mpr ⟨kw_2_162, List.forall_mem_cons.mpr ⟨kw_2_164, List.forall_mem_cons.mpr ⟨kw_2_166, List.forall_mem_cons.mpr ⟨kw_2_168, List.forall_mem_cons.mpr ⟨kw_2_170, List.forall_mem_cons.mpr ⟨kw_2_172, List.forall_mem_cons.mpr ⟨kw_2_174, List.forall_mem_cons.mpr ⟨kw_2_176, List.forall_mem_cons.mpr ⟨kw_2_178, fun _ h => absurd h List.not_mem_nil⟩⟩⟩⟩⟩⟩⟩⟩⟩⟩⟩⟩
theorem iCX3 {a : Cond} : ∀ w ∈ wsX30, w ∈ a :: lw_good := fun w h => List.mem_cons_of_mem _ (iGX3 w h)
set_option maxRecDepth 20000 in
theorem iGX4 : ∀ w ∈ wsX40, w ∈ lw_good := List.forall_mem_cons.mpr ⟨kw_1_55, List.forall_mem_cons.mpr ⟨kw_1_57, fun _ h => absurd h List.not_mem_nil⟩⟩
theorem iCX4 {a : Cond} : ∀ w ∈ wsX40, w ∈ a :: lw_good := fun w h => List.mem_cons_of_mem _ (iGX4 w h)
set_option maxRecDepth 20000 in
theorem iGX5 : ∀ w ∈ wsX50, w ∈ lw_good := List.forall_mem_cons.mpr ⟨kw_3_61, List.forall_mem_cons.mpr ⟨kw_3_63, List.forall_mem_cons.mpr ⟨kw_3_65, List.forall_mem_cons.mpr ⟨kw_3_67, List.forall_mem_cons.mpr ⟨kw_3_69, List.forall_mem_cons.mpr ⟨kw_3_71, List.forall_mem_cons.mpr ⟨kw_3_73, List.forall_mem_cons.mpr ⟨kw_3_75, List.forall_mem_cons.mpr ⟨kw_3_77, List.forall_mem_cons.mpr ⟨kw_3_79, List.forall_mem_cons.mpr ⟨kw_3_81, List.forall_mem_cons.mpr ⟨kw_3_83, List.forall_mem_cons.mpr ⟨kw_3_85, List.forall_mem_cons.mpr ⟨kw_3_87, fun _ h => absurd h List.not_mem_nil⟩⟩⟩⟩⟩⟩⟩⟩⟩⟩⟩⟩⟩⟩
theorem iCX5 {a : Cond} : ∀ w ∈ wsX50, w ∈ a :: lw_good := fun w h => List.mem_cons_of_mem _ (iGX5 w h)
set_option maxRecDepth 20000 in
theorem iGX7 : ∀ w ∈ wsX70, w ∈ lw_good := List.forall_mem_cons.mpr ⟨kw_2_102, List.forall_mem_cons.mpr ⟨kw_2_104, List.forall_mem_cons.mpr ⟨kw_2_106, List.forall_mem_cons.mpr ⟨kw_2_108, List.forall_mem_cons.mpr ⟨kw_2_110, List.forall_mem_cons.mpr ⟨kw_2_112, List.forall_mem_cons.mpr ⟨kw_2_114, List.forall_mem_cons.mpr ⟨kw_2_116, List.forall_mem_cons.mpr ⟨kw_2_118, List.forall_mem_cons.mpr ⟨kw_2_120, List.forall_mem_cons.mpr ⟨kw_2_122, List.forall_mem_cons.mpr ⟨kw_2_124, List.forall_mem_cons.mpr ⟨kw_2_126, List.forall_mem_cons.mpr ⟨kw_2_128, fun _ h => absurd h List.not_mem_nil⟩⟩⟩⟩⟩⟩⟩⟩⟩⟩⟩⟩⟩⟩
theorem iCX7 {a : Cond} : ∀ w ∈ wsX70, w ∈ a :: lw_good := fun w h => List.mem_cons_of_mem _ (iGX7 w h)
set_option maxRecDepth 20000 in
theorem iGX8 : ∀ w ∈ wsX80, w ∈ lw_good := List.forall_mem_cons.mpr ⟨kw_1_215, List.forall_mem_cons.mpr ⟨kw_1_217, List.forall_mem_cons.mpr ⟨kw_1_219, List.forall_mem_cons.mpr ⟨kw_1_221, List.forall_mem_cons.mpr ⟨kw_1_223, List.forall_mem_cons.mpr ⟨kw_1_225, List.forall_mem_cons.mpr ⟨kw_1_227, List.forall_mem_cons.mpr ⟨kw_1_229, List.forall_mem_cons.mpr ⟨kw_1_231, fun _ h => absurd h List.not_mem_nil⟩⟩⟩⟩⟩⟩⟩⟩⟩
theorem iCX8 {a : Cond} : ∀ w ∈ wsX80, w ∈ a :: lw_good := fun w h => List.mem_cons_of_mem _ (iGX8 w h)
set_option maxRecDepth 20000 in
theorem iGX9 : ∀ w ∈ wsX90, w ∈ lw_good := List.forall_mem_cons.mpr ⟨kw_2_202, List.forall_mem_cons.mpr ⟨kw_2_204, List.forall_mem_cons.mpr ⟨kw_2_206, List.forall_mem_cons.mpr ⟨kw_2_208, List.forall_mem_cons.mpr ⟨kw_2_210, List.forall_mem_cons.mpr ⟨kw_2_212, List.forall_mem_cons.mpr ⟨kw_2_214, List.forall_mem_cons.mpr ⟨kw_2_216, List.forall_mem_cons.mpr ⟨kw_2_218, fun _ h => absurd h List.not_mem_nil⟩⟩⟩⟩⟩⟩⟩⟩⟩
theorem iCX9 {a : Cond} : ∀ w ∈ wsX90, w ∈ a :: lw_good := fun w h => List.mem_cons_of_mem _ (iGX9 w h)
set_option maxRecDepth 20000 in
theorem iGX10 : ∀ w ∈ wsX100, w ∈ lw_good := List.forall_mem_cons.mpr ⟨kw_1_163, List.forall_mem_cons.mpr ⟨kw_1_165, List.forall_mem_cons.mpr ⟨kw_1_167, List.forall_mem_cons.mpr ⟨kw_1_169, List.forall_mem_cons.mpr ⟨kw_1_171, List.forall_mem_cons.mpr ⟨kw_1_173, List.forall_mem_cons.mpr ⟨kw_1_175, List.forall_mem_cons.mpr ⟨kw_1_177, List.forall_mem_cons.mpr ⟨kw_1_179, fun _ h => absurd h List.not_mem_nil⟩⟩⟩⟩⟩⟩⟩⟩⟩
theorem iCX10 {a : Cond} : ∀ w ∈ wsX100, w ∈ a :: lw_good := fun w h => List.mem_cons_of_mem _ (iGX10 w h)
set_option maxRecDepth 20000 in
theorem iGX11 : ∀ w ∈ wsX110, w ∈ lw_good := List.forall_mem_cons.mpr ⟨kw_3_100, List.forall_mem_cons.mpr ⟨kw_3_102, List.forall_mem_cons.mpr ⟨kw_3_104, List.forall_mem_cons.mpr ⟨kw_3_106, List.forall_mem_cons.mpr ⟨kw_3_108, List.forall_mem_cons.mpr ⟨kw_3_110, List.forall_mem_cons.mpr ⟨kw_3_112, List.forall_mem_cons.mpr ⟨kw_3_114, List.forall_mem_cons.mpr ⟨kw_3_116, fun _ h => absurd h List.not_mem_nil⟩⟩⟩⟩⟩⟩⟩⟩⟩
theorem iCX11 {a : Cond} : ∀ w ∈ wsX110, w ∈ a :: lw_good := fun w h => List.mem_cons_of_mem _ (iGX11 w h)
set_option maxRecDepth 20000 in
theorem iGX12 : ∀ w ∈ wsX120, w ∈ lw_good := List.forall_mem_cons.mpr ⟨kw_7_8, List.forall_mem_cons.mpr ⟨kw_7_10, List.forall_mem_cons.mpr ⟨kw_7_12, List.forall_mem_cons.mpr ⟨kw_7_14, List.forall_mem_cons.mpr ⟨kw_7_16, List.forall_mem_cons.mpr ⟨kw_7_18, List.forall_mem_cons.mpr ⟨kw_7_20, List.forall_mem_cons.mpr ⟨kw_7_22, List.forall_mem_cons.mpr ⟨kw_7_24, List.forall_mem_cons.mpr ⟨kw_7_26, List.forall_mem_cons.mpr ⟨kw_7_28, List.forall_mem_cons.mpr ⟨kw_7_30, List.forall_mem_cons.mpr ⟨kw_7_32, List.forall_mem_cons.mpr ⟨kw_7_34, List.forall_mem_cons.mpr ⟨kw_7_36, List.forall_mem_cons.mpr ⟨kw_7_38, List.forall_mem_cons.mpr ⟨kw_7_40, List.forall_mem_cons.mpr ⟨kw_7_42, List.forall_mem_cons.mpr ⟨kw_7_44, List.forall_mem_cons.mpr ⟨kw_7_46, List.forall_mem_cons.mpr ⟨kw_7_48, List.forall_mem_cons.mpr ⟨kw_7_50, List.forall_mem_cons.mpr ⟨kw_7_52, List.forall_mem_cons.mpr ⟨kw_7_54, List.forall_mem_cons.mpr ⟨kw_7_56, List.forall_mem_cons.mpr ⟨kw_7_58, List.forall_mem_cons.mpr ⟨kw_7_60, List.forall_mem_cons.mpr ⟨kw_7_62, List.forall_mem_cons.mpr ⟨kw_7_64, List.forall_mem_cons.mpr ⟨kw_7_66, List.forall_mem_cons.mpr ⟨kw_7_68, List.forall_mem_cons.mpr ⟨kw_7_70, List.forall_mem_cons.mpr ⟨kw_7_72, List.forall_mem_cons.mpr ⟨kw_7_74, List.forall_mem_cons.mpr ⟨kw_7_76, List.forall_mem_cons.mpr ⟨kw_7_78, List.forall_mem_cons.mpr ⟨kw_7_80, List.forall_mem_cons.mpr ⟨kw_7_82, List.forall_mem_cons.mpr ⟨kw_7_84, List.forall_mem_cons.mpr ⟨kw_7_86, List.forall_mem_cons.mpr ⟨kw_7_88, List.forall_mem_cons.mpr ⟨kw_7_90, List.forall_mem_cons.mpr ⟨kw_7_92, List.forall_mem_cons.mpr ⟨kw_7_94, List.forall_mem_cons.mpr ⟨kw_7_96, List.forall_mem_cons.mpr ⟨kw_7_98, List.forall_mem_cons.mpr ⟨kw_7_100, List.forall_mem_cons.mpr ⟨kw_7_102, List.forall_mem_cons.mpr ⟨kw_7_104, List.forall_mem_cons.mpr ⟨kw_7_106, List.forall_mem_cons.mpr ⟨kw_7_108, List.forall_mem_cons.mpr ⟨kw_7_110, List.forall_mem_cons.mpr ⟨kw_7_112, List.forall_mem_cons.mpr ⟨kw_7_114, List.forall_mem_cons.mpr ⟨kw_7_116, List.forall_mem_cons.mpr ⟨kw_7_118, List.forall_mem_cons.mpr ⟨kw_7_120, List.forall_mem_cons.mpr ⟨kw_7_122, List.forall_mem_cons.mpr ⟨kw_7_124, List.forall_mem_cons.mpr ⟨kw_7_126, List.forall_mem_cons.mpr ⟨kw_7_128, List.forall_mem_cons.mpr ⟨kw_7_130, List.forall_mem_cons.mpr ⟨kw_7_132, List.forall_mem_cons.mpr ⟨kw_7_134, List.forall_mem_cons.mpr ⟨kw_7_136, List.forall_mem_cons.mpr ⟨kw_7_138, List.forall_mem_cons.mpr ⟨kw_7_140, List.forall_mem_cons.mpr ⟨kw_7_142, List.forall_mem_cons.mpr ⟨kw_7_144, List.forall_mem_cons.mpr ⟨kw_7_146, List.forall_mem_cons.mpr ⟨kw_7_148, List.forall_mem_cons.mpr ⟨kw_7_150, List.forall_mem_cons.mpr ⟨kw_7_152, List.forall_mem_cons.mpr ⟨kw_7_154, List.forall_mem_cons.mpr ⟨kw_7_156, List.forall_mem_cons.mpr ⟨kw_7_158, List.forall_mem_cons.mpr ⟨kw_7_160, List.forall_mem_cons.mpr ⟨kw_7_162, List.forall_mem_cons.mpr ⟨kw_7_164, List.forall_mem_cons.mpr ⟨kw_7_166, List.forall_mem_cons.mpr ⟨kw_7_168, List.forall_mem_cons.mpr ⟨kw_7_170, List.forall_mem_cons.mpr ⟨kw_7_172, List.forall_mem_cons.mpr ⟨kw_7_174, List.forall_mem_cons.mpr ⟨kw_7_176, List.forall_mem_cons.mpr ⟨kw_7_178, List.forall_mem_cons.mpr ⟨kw_7_180, List.forall_mem_cons.mpr ⟨kw_7_182, List.forall_mem_cons.mpr ⟨kw_7_184, List.forall_mem_cons.mpr ⟨kw_7_186, List.forall_mem_cons.mpr ⟨kw_7_188, List.forall_mem_cons.mpr ⟨kw_7_190, List.forall_mem_cons.mpr ⟨kw_7_192, List.forall_mem_cons.mpr ⟨kw_7_194, List.forall_mem_cons.mpr ⟨kw_7_196, List.forall_mem_cons.mpr ⟨kw_7_198, fun _ h => absurd h List.not_mem_nil⟩⟩⟩⟩⟩⟩⟩⟩⟩⟩⟩⟩⟩⟩⟩⟩⟩⟩⟩⟩⟩⟩⟩⟩⟩⟩⟩⟩⟩⟩⟩⟩⟩⟩⟩⟩⟩⟩⟩⟩⟩⟩⟩⟩⟩⟩⟩⟩⟩⟩⟩⟩⟩⟩⟩⟩⟩⟩⟩⟩⟩⟩⟩⟩⟩⟩⟩⟩⟩⟩⟩⟩⟩⟩⟩⟩⟩⟩⟩⟩⟩⟩⟩⟩⟩⟩⟩⟩⟩⟩⟩⟩⟩⟩⟩⟩
theorem iCX12 {a : Cond} : ∀ w ∈ wsX120, w ∈ a :: lw_good := fun w h => List.mem_cons_of_mem _ (iGX12 w h)
set_option maxRecDepth 20000 in
theorem iGJx4a65c : ∀ w ∈ wsJx4a65c0, w ∈ lw_good := List.forall_mem_cons.mpr ⟨kw_2_17, List.forall_mem_cons.mpr ⟨kw_2_13, List.forall_mem_cons.mpr ⟨kw_2_15, fun _ h => absurd h List.not_mem_nil⟩⟩⟩
theorem iCJx4a65c {a : Cond} : ∀ w ∈ wsJx4a65c0, w ∈ a :: lw_good := fun w h => List.mem_cons_of_mem _ (iGJx4a65c w h)

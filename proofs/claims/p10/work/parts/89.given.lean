def tkS : List Nat := [131, 139, 142, 145, 148, 151, 154, 157, 160, 163, 166, 169, 172, 175, 178, 181, 184, 187, 190, 193, 196, 199, 202, 205, 208, 211, 214, 217, 220, 223, 223, 223]
def tkX : List (List Int32) := [[99, 97, 114, 114, 121], [115, 116, 111, 112], [102, 97, 114, 101], [104, 111, 108, 100], [102, 105, 110, 101], [103, 97, 115], [100, 111, 99, 107], [99, 97, 114], [119, 97, 103, 111, 110], [116, 97, 120, 105], [105, 110, 115, 117, 114, 101, 100], [114, 105, 100, 101, 114, 115], [115, 101, 97, 116, 115], [114, 97, 105, 110], [109, 105, 110, 117, 116, 101], [100, 97, 121], [102, 114, 111, 109], [116, 111], [116, 105, 109, 101, 115], [60], [61], [62], [110, 111, 116], [105, 102], [97, 110, 100], [111, 114], [59], [40], [41], [], [], []]
set_option maxRecDepth 100000 in
theorem g_ex_ : ∀ i, i < 32 → (flatC (Jvm.Cond.and given_1 narrow_1))[([107, 112, 117, 122, 127, 132, 65, 137, 142, 147, 152, 157, 162, 167, 172, 177, 182, 187, 192, 197, 202, 207, 70, 75, 90, 95, 100, 80, 85, 8, 60, 13] : List Nat).getD i 0]? = some (Cond.exactly (.static RX6 (tkN.getD i "") "LWalkingTown$Token;") RX6) := by decide +kernel
theorem g_ex : ∀ i, i < 32 → (Cond.exactly (.static RX6 (tkN.getD i "") "LWalkingTown$Token;") RX6) ∈ flatC (Jvm.Cond.and given_1 narrow_1) := fun i hi => List.mem_of_getElem? (g_ex_ i hi)
set_option maxRecDepth 100000 in
theorem g_or_ : ∀ i, i < 32 → (flatC (Jvm.Cond.and given_1 narrow_1))[([108, 113, 118, 123, 128, 133, 66, 138, 143, 148, 153, 158, 163, 168, 173, 178, 183, 188, 193, 198, 203, 208, 71, 76, 91, 96, 101, 81, 86, 9, 61, 14] : List Nat).getD i 0]? = some (Cond.eq (.field (.static RX6 (tkN.getD i "") "LWalkingTown$Token;") "java/lang/Enum" "ordinal" "I") (.int (Int32.ofNat i))) := by decide +kernel
theorem g_or : ∀ i, i < 32 → (Cond.eq (.field (.static RX6 (tkN.getD i "") "LWalkingTown$Token;") "java/lang/Enum" "ordinal" "I") (.int (Int32.ofNat i))) ∈ flatC (Jvm.Cond.and given_1 narrow_1) := fun i hi => List.mem_of_getElem? (g_or_ i hi)
set_option maxRecDepth 100000 in
theorem g_fr_ : ∀ i, i < 32 → (flatC (Jvm.Cond.and given_1 narrow_1))[([110, 115, 120, 125, 130, 135, 68, 140, 145, 150, 155, 160, 165, 170, 175, 180, 185, 190, 195, 200, 205, 210, 73, 78, 93, 98, 103, 83, 88, 11, 63, 16] : List Nat).getD i 0]? = some (Cond.eq (.field (.static RX6 (tkN.getD i "") "LWalkingTown$Token;") tkrole.1 tkrole.2.1 tkrole.2.2.1) (.int (tkrole.2.2.2.getD i 0))) := by decide +kernel
theorem g_fr : ∀ i, i < 32 → (Cond.eq (.field (.static RX6 (tkN.getD i "") "LWalkingTown$Token;") tkrole.1 tkrole.2.1 tkrole.2.2.1) (.int (tkrole.2.2.2.getD i 0))) ∈ flatC (Jvm.Cond.and given_1 narrow_1) := fun i hi => List.mem_of_getElem? (g_fr_ i hi)
set_option maxRecDepth 100000 in
theorem g_fc_ : ∀ i, i < 32 → (flatC (Jvm.Cond.and given_1 narrow_1))[([111, 116, 121, 126, 131, 136, 69, 141, 146, 151, 156, 161, 166, 171, 176, 181, 186, 191, 196, 201, 206, 211, 74, 79, 94, 99, 104, 84, 89, 12, 64, 17] : List Nat).getD i 0]? = some (Cond.eq (.field (.static RX6 (tkN.getD i "") "LWalkingTown$Token;") tkcode.1 tkcode.2.1 tkcode.2.2.1) (.int (tkcode.2.2.2.getD i 0))) := by decide +kernel
theorem g_fc : ∀ i, i < 32 → (Cond.eq (.field (.static RX6 (tkN.getD i "") "LWalkingTown$Token;") tkcode.1 tkcode.2.1 tkcode.2.2.1) (.int (tkcode.2.2.2.getD i 0))) ∈ flatC (Jvm.Cond.and given_1 narrow_1) := fun i hi => List.mem_of_getElem? (g_fc_ i hi)
theorem g_f : ∀ q ∈ tkF, ∀ i, i < 32 → (Cond.eq (.field (.static RX6 (tkN.getD i "") "LWalkingTown$Token;") q.1 q.2.1 q.2.2.1) (.int (q.2.2.2.getD i 0))) ∈ flatC (Jvm.Cond.and given_1 narrow_1) := by
  intro q hq i hi
  rcases List.mem_cons.mp hq with rfl | hq
  · exact g_fr i hi
  · rcases List.mem_cons.mp hq with rfl | hq
    · exact g_fc i hi
    · cases hq
set_option maxRecDepth 100000 in
theorem g_tx_ : ∀ i, i < 32 → (flatC (Jvm.Cond.and given_1 narrow_1))[([109, 114, 119, 124, 129, 134, 67, 139, 144, 149, 154, 159, 164, 169, 174, 179, 184, 189, 194, 199, 204, 209, 72, 77, 92, 97, 102, 82, 87, 10, 62, 15] : List Nat).getD i 0]? = some (Cond.eq (.field (.static RX6 (tkN.getD i "") "LWalkingTown$Token;") RX6 "text" "Ljava/lang/String;") (.string RX6 (tkS.getD i 0))) := by decide +kernel
theorem g_tx : ∀ i, i < 32 → (Cond.eq (.field (.static RX6 (tkN.getD i "") "LWalkingTown$Token;") RX6 "text" "Ljava/lang/String;") (.string RX6 (tkS.getD i 0))) ∈ flatC (Jvm.Cond.and given_1 narrow_1) := fun i hi => List.mem_of_getElem? (g_tx_ i hi)
set_option maxRecDepth 100000 in
theorem g_sx_ : ∀ i, i < 32 → (flatC (Jvm.Cond.and given_1 narrow_1))[([323, 332, 340, 348, 356, 364, 274, 371, 378, 387, 395, 406, 416, 425, 433, 443, 450, 458, 464, 473, 478, 483, 282, 289, 305, 312, 318, 295, 300, 270, 270, 270] : List Nat).getD i 0]? = some (Cond.exactly (.string RX6 (tkS.getD i 0)) "java/lang/String") := by decide +kernel
theorem g_sx : ∀ i, i < 32 → (Cond.exactly (.string RX6 (tkS.getD i 0)) "java/lang/String") ∈ flatC (Jvm.Cond.and given_1 narrow_1) := fun i hi => List.mem_of_getElem? (g_sx_ i hi)
set_option maxRecDepth 100000 in
theorem g_co_ : ∀ i, i < 32 → (flatC (Jvm.Cond.and given_1 narrow_1))[([324, 333, 341, 349, 357, 365, 275, 372, 379, 388, 396, 407, 417, 426, 434, 444, 451, 459, 465, 474, 479, 484, 283, 290, 306, 313, 319, 296, 301, 271, 271, 271] : List Nat).getD i 0]? = some (Cond.eq (.field (.string RX6 (tkS.getD i 0)) "java/lang/String" "coder" "B") (.int 0)) := by decide +kernel
theorem g_co : ∀ i, i < 32 → (Cond.eq (.field (.string RX6 (tkS.getD i 0)) "java/lang/String" "coder" "B") (.int 0)) ∈ flatC (Jvm.Cond.and given_1 narrow_1) := fun i hi => List.mem_of_getElem? (g_co_ i hi)
set_option maxRecDepth 100000 in
theorem g_va_ : ∀ i, i < 32 → (flatC (Jvm.Cond.and given_1 narrow_1))[([325, 334, 342, 350, 358, 366, 276, 373, 380, 389, 397, 408, 418, 427, 435, 445, 452, 460, 466, 475, 480, 485, 284, 291, 307, 314, 320, 297, 302, 272, 272, 272] : List Nat).getD i 0]? = some (Cond.arrayOf (.field (.string RX6 (tkS.getD i 0)) "java/lang/String" "value" "[B") .byte) := by decide +kernel
theorem g_va : ∀ i, i < 32 → (Cond.arrayOf (.field (.string RX6 (tkS.getD i 0)) "java/lang/String" "value" "[B") .byte) ∈ flatC (Jvm.Cond.and given_1 narrow_1) := fun i hi => List.mem_of_getElem? (g_va_ i hi)
set_option maxRecDepth 100000 in
theorem g_ln_ : ∀ i, i < 32 → (flatC (Jvm.Cond.and given_1 narrow_1))[([326, 335, 343, 351, 359, 367, 277, 374, 381, 390, 398, 409, 419, 428, 436, 446, 453, 461, 467, 476, 481, 486, 285, 292, 308, 315, 321, 298, 303, 273, 273, 273] : List Nat).getD i 0]? = some (Cond.eq (.length (.field (.string RX6 (tkS.getD i 0)) "java/lang/String" "value" "[B")) (.int (Int32.ofNat (tkX.getD i []).length))) := by decide +kernel
theorem g_ln : ∀ i, i < 32 → (Cond.eq (.length (.field (.string RX6 (tkS.getD i 0)) "java/lang/String" "value" "[B")) (.int (Int32.ofNat (tkX.getD i []).length))) ∈ flatC (Jvm.Cond.and given_1 narrow_1) := fun i hi => List.mem_of_getElem? (g_ln_ i hi)
def gE : List (List Nat) := [[327, 328, 329, 330, 331], [336, 337, 338, 339], [344, 345, 346, 347], [352, 353, 354, 355], [360, 361, 362, 363], [368, 369, 370], [278, 279, 280, 281], [375, 376, 377], [382, 383, 384, 385, 386], [391, 392, 393, 394], [399, 400, 401, 402, 403, 404, 405], [410, 411, 412, 413, 414, 415], [420, 421, 422, 423, 424], [429, 430, 431, 432], [437, 438, 439, 440, 441, 442], [447, 448, 449], [454, 455, 456, 457], [462, 463], [468, 469, 470, 471, 472], [477], [482], [487], [286, 287, 288], [293, 294], [309, 310, 311], [316, 317], [322], [299], [304], [], [], []]
set_option maxRecDepth 100000 in
theorem g_el_0 : ∀ i, i < 4 → ∀ k, k < (tkX.getD (i + 0) []).length → (flatC (Jvm.Cond.and given_1 narrow_1))[(gE.getD (i + 0) []).getD k 0]? = some (Cond.eq (.elem (.field (.string RX6 (tkS.getD (i + 0) 0)) "java/lang/String" "value" "[B") (.int (Int32.ofNat k))) (.int ((tkX.getD (i + 0) []).getD k 0))) := by decide +kernel
set_option maxRecDepth 100000 in
theorem g_el_4 : ∀ i, i < 4 → ∀ k, k < (tkX.getD (i + 4) []).length → (flatC (Jvm.Cond.and given_1 narrow_1))[(gE.getD (i + 4) []).getD k 0]? = some (Cond.eq (.elem (.field (.string RX6 (tkS.getD (i + 4) 0)) "java/lang/String" "value" "[B") (.int (Int32.ofNat k))) (.int ((tkX.getD (i + 4) []).getD k 0))) := by decide +kernel
set_option maxRecDepth 100000 in
theorem g_el_8 : ∀ i, i < 4 → ∀ k, k < (tkX.getD (i + 8) []).length → (flatC (Jvm.Cond.and given_1 narrow_1))[(gE.getD (i + 8) []).getD k 0]? = some (Cond.eq (.elem (.field (.string RX6 (tkS.getD (i + 8) 0)) "java/lang/String" "value" "[B") (.int (Int32.ofNat k))) (.int ((tkX.getD (i + 8) []).getD k 0))) := by decide +kernel
set_option maxRecDepth 100000 in
theorem g_el_12 : ∀ i, i < 4 → ∀ k, k < (tkX.getD (i + 12) []).length → (flatC (Jvm.Cond.and given_1 narrow_1))[(gE.getD (i + 12) []).getD k 0]? = some (Cond.eq (.elem (.field (.string RX6 (tkS.getD (i + 12) 0)) "java/lang/String" "value" "[B") (.int (Int32.ofNat k))) (.int ((tkX.getD (i + 12) []).getD k 0))) := by decide +kernel
set_option maxRecDepth 100000 in
theorem g_el_16 : ∀ i, i < 4 → ∀ k, k < (tkX.getD (i + 16) []).length → (flatC (Jvm.Cond.and given_1 narrow_1))[(gE.getD (i + 16) []).getD k 0]? = some (Cond.eq (.elem (.field (.string RX6 (tkS.getD (i + 16) 0)) "java/lang/String" "value" "[B") (.int (Int32.ofNat k))) (.int ((tkX.getD (i + 16) []).getD k 0))) := by decide +kernel
set_option maxRecDepth 100000 in
theorem g_el_20 : ∀ i, i < 4 → ∀ k, k < (tkX.getD (i + 20) []).length → (flatC (Jvm.Cond.and given_1 narrow_1))[(gE.getD (i + 20) []).getD k 0]? = some (Cond.eq (.elem (.field (.string RX6 (tkS.getD (i + 20) 0)) "java/lang/String" "value" "[B") (.int (Int32.ofNat k))) (.int ((tkX.getD (i + 20) []).getD k 0))) := by decide +kernel
set_option maxRecDepth 100000 in
theorem g_el_24 : ∀ i, i < 4 → ∀ k, k < (tkX.getD (i + 24) []).length → (flatC (Jvm.Cond.and given_1 narrow_1))[(gE.getD (i + 24) []).getD k 0]? = some (Cond.eq (.elem (.field (.string RX6 (tkS.getD (i + 24) 0)) "java/lang/String" "value" "[B") (.int (Int32.ofNat k))) (.int ((tkX.getD (i + 24) []).getD k 0))) := by decide +kernel
set_option maxRecDepth 100000 in
theorem g_el_28 : ∀ i, i < 4 → ∀ k, k < (tkX.getD (i + 28) []).length → (flatC (Jvm.Cond.and given_1 narrow_1))[(gE.getD (i + 28) []).getD k 0]? = some (Cond.eq (.elem (.field (.string RX6 (tkS.getD (i + 28) 0)) "java/lang/String" "value" "[B") (.int (Int32.ofNat k))) (.int ((tkX.getD (i + 28) []).getD k 0))) := by decide +kernel
theorem g_el : ∀ i, i < 32 → ∀ k, k < (tkX.getD i []).length → (Cond.eq (.elem (.field (.string RX6 (tkS.getD i 0)) "java/lang/String" "value" "[B") (.int (Int32.ofNat k))) (.int ((tkX.getD i []).getD k 0))) ∈ flatC (Jvm.Cond.and given_1 narrow_1) := by
  intro i hi k hk
  refine List.mem_of_getElem? (i := (gE.getD i []).getD k 0) ?_
  by_cases q0 : i < 4
  · obtain ⟨j, hj9⟩ : ∃ j, j + 0 = i := ⟨i - 0, by omega⟩
    subst hj9
    exact g_el_0 j (by omega) k hk
  by_cases q4 : i < 8
  · obtain ⟨j, hj9⟩ : ∃ j, j + 4 = i := ⟨i - 4, by omega⟩
    subst hj9
    exact g_el_4 j (by omega) k hk
  by_cases q8 : i < 12
  · obtain ⟨j, hj9⟩ : ∃ j, j + 8 = i := ⟨i - 8, by omega⟩
    subst hj9
    exact g_el_8 j (by omega) k hk
  by_cases q12 : i < 16
  · obtain ⟨j, hj9⟩ : ∃ j, j + 12 = i := ⟨i - 12, by omega⟩
    subst hj9
    exact g_el_12 j (by omega) k hk
  by_cases q16 : i < 20
  · obtain ⟨j, hj9⟩ : ∃ j, j + 16 = i := ⟨i - 16, by omega⟩
    subst hj9
    exact g_el_16 j (by omega) k hk
  by_cases q20 : i < 24
  · obtain ⟨j, hj9⟩ : ∃ j, j + 20 = i := ⟨i - 20, by omega⟩
    subst hj9
    exact g_el_20 j (by omega) k hk
  by_cases q24 : i < 28
  · obtain ⟨j, hj9⟩ : ∃ j, j + 24 = i := ⟨i - 24, by omega⟩
    subst hj9
    exact g_el_24 j (by omega) k hk
  by_cases q28 : i < 32
  · obtain ⟨j, hj9⟩ : ∃ j, j + 28 = i := ⟨i - 28, by omega⟩
    subst hj9
    exact g_el_28 j (by omega) k hk
  omega
set_option maxRecDepth 100000 in
theorem g_ta_ : (flatC (Jvm.Cond.and given_1 narrow_1))[20]? = some (Cond.arrayOf (.static "WalkingTown$Reader" "TOKENS" "[LWalkingTown$Token;") (.object "WalkingTown$Token")) := by decide +kernel
theorem g_ta : (Cond.arrayOf (.static "WalkingTown$Reader" "TOKENS" "[LWalkingTown$Token;") (.object "WalkingTown$Token")) ∈ flatC (Jvm.Cond.and given_1 narrow_1) := List.mem_of_getElem? g_ta_
set_option maxRecDepth 100000 in
theorem g_tl_ : (flatC (Jvm.Cond.and given_1 narrow_1))[21]? = some (Cond.eq (.length (.static "WalkingTown$Reader" "TOKENS" "[LWalkingTown$Token;")) (.int (Int32.ofNat 32))) := by decide +kernel
theorem g_tl : (Cond.eq (.length (.static "WalkingTown$Reader" "TOKENS" "[LWalkingTown$Token;")) (.int (Int32.ofNat 32))) ∈ flatC (Jvm.Cond.and given_1 narrow_1) := List.mem_of_getElem? g_tl_
set_option maxRecDepth 100000 in
theorem g_te_ : ∀ i, i < 32 → (flatC (Jvm.Cond.and given_1 narrow_1))[([23, 24, 25, 26, 27, 28, 29, 30, 31, 32, 33, 34, 35, 36, 37, 38, 39, 40, 41, 42, 43, 44, 45, 46, 47, 48, 49, 50, 51, 52, 53, 54] : List Nat).getD i 0]? = some (Cond.eq (.elem (.static "WalkingTown$Reader" "TOKENS" "[LWalkingTown$Token;") (.int (Int32.ofNat i))) (.static RX6 (tkN.getD i "") "LWalkingTown$Token;")) := by decide +kernel
theorem g_te : ∀ i, i < 32 → (Cond.eq (.elem (.static "WalkingTown$Reader" "TOKENS" "[LWalkingTown$Token;") (.int (Int32.ofNat i))) (.static RX6 (tkN.getD i "") "LWalkingTown$Token;")) ∈ flatC (Jvm.Cond.and given_1 narrow_1) := fun i hi => List.mem_of_getElem? (g_te_ i hi)
set_option maxRecDepth 100000 in
theorem g_cs_ : (flatC (Jvm.Cond.and given_1 narrow_1))[55]? = some (Cond.eq (.static "java/lang/String" "COMPACT_STRINGS" "Z") (.int 1)) := by decide +kernel
theorem g_cs : (Cond.eq (.static "java/lang/String" "COMPACT_STRINGS" "Z") (.int 1)) ∈ flatC (Jvm.Cond.and given_1 narrow_1) := List.mem_of_getElem? g_cs_
set_option maxRecDepth 100000 in
theorem g_si_ : (flatC (Jvm.Cond.and given_1 narrow_1))[56]? = some (Cond.isRef (.static "jdk/internal/util/Preconditions" "SIOOBE_FORMATTER" "Ljava/util/function/BiFunction;")) := by decide +kernel
theorem g_si : (Cond.isRef (.static "jdk/internal/util/Preconditions" "SIOOBE_FORMATTER" "Ljava/util/function/BiFunction;")) ∈ flatC (Jvm.Cond.and given_1 narrow_1) := List.mem_of_getElem? g_si_
theorem t_ls : ∀ i, i < 32 → (Cond.laysStatic RX6 (tkN.getD i "") "LWalkingTown$Token;") ∈ lw_tbl := fun i hi => match i, hi with
  | 0, _ => lwT9 (List.mem_of_getElem? (i := 69) rfl)
  | 1, _ => lwT9 (List.mem_of_getElem? (i := 70) rfl)
  | 2, _ => lwT9 (List.mem_of_getElem? (i := 71) rfl)
  | 3, _ => lwT9 (List.mem_of_getElem? (i := 72) rfl)
  | 4, _ => lwT9 (List.mem_of_getElem? (i := 73) rfl)
  | 5, _ => lwT9 (List.mem_of_getElem? (i := 74) rfl)
  | 6, _ => lwT4 (List.mem_of_getElem? (i := 115) rfl)
  | 7, _ => lwT9 (List.mem_of_getElem? (i := 75) rfl)
  | 8, _ => lwT9 (List.mem_of_getElem? (i := 76) rfl)
  | 9, _ => lwT9 (List.mem_of_getElem? (i := 77) rfl)
  | 10, _ => lwT9 (List.mem_of_getElem? (i := 78) rfl)
  | 11, _ => lwT9 (List.mem_of_getElem? (i := 79) rfl)
  | 12, _ => lwT9 (List.mem_of_getElem? (i := 80) rfl)
  | 13, _ => lwT9 (List.mem_of_getElem? (i := 81) rfl)
  | 14, _ => lwT9 (List.mem_of_getElem? (i := 82) rfl)
  | 15, _ => lwT9 (List.mem_of_getElem? (i := 83) rfl)
  | 16, _ => lwT9 (List.mem_of_getElem? (i := 84) rfl)
  | 17, _ => lwT9 (List.mem_of_getElem? (i := 85) rfl)
  | 18, _ => lwT9 (List.mem_of_getElem? (i := 86) rfl)
  | 19, _ => lwT9 (List.mem_of_getElem? (i := 87) rfl)
  | 20, _ => lwT9 (List.mem_of_getElem? (i := 88) rfl)
  | 21, _ => lwT9 (List.mem_of_getElem? (i := 89) rfl)
  | 22, _ => lwT4 (List.mem_of_getElem? (i := 125) rfl)
  | 23, _ => lwT4 (List.mem_of_getElem? (i := 135) rfl)
  | 24, _ => lwT4 (List.mem_of_getElem? (i := 161) rfl)
  | 25, _ => lwT4 (List.mem_of_getElem? (i := 163) rfl)
  | 26, _ => lwT4 (List.mem_of_getElem? (i := 165) rfl)
  | 27, _ => lwT4 (List.mem_of_getElem? (i := 149) rfl)
  | 28, _ => lwT4 (List.mem_of_getElem? (i := 155) rfl)
  | 29, _ => lwT4 (List.mem_of_getElem? (i := 34) rfl)
  | 30, _ => lwT4 (List.mem_of_getElem? (i := 101) rfl)
  | 31, _ => lwT4 (List.mem_of_getElem? (i := 36) rfl)
  | n + 32, h => absurd h (by omega)
theorem t_lt : (.laysStatic "WalkingTown$Reader" "TOKENS" "[LWalkingTown$Token;" : Cond) ∈ lw_tbl := lwT4 (List.mem_of_getElem? (i := 41) rfl)
theorem tq_lc : (.laysStatic "java/lang/String" "COMPACT_STRINGS" "Z" : Cond) ∈ lw_tbl := lwT4 (List.mem_of_getElem? (i := 51) rfl)
theorem t_lp : (.laysStatic "jdk/internal/util/Preconditions" "SIOOBE_FORMATTER" "Ljava/util/function/BiFunction;" : Cond) ∈ lw_tbl := lwT4 (List.mem_of_getElem? (i := 70) rfl)
theorem t_i6 : (.initialized RX6 : Cond) ∈ lw_tbl := lwT1 (List.mem_of_getElem? (i := 18) rfl)
theorem t_i3 : (.initialized "WalkingTown$Reader" : Cond) ∈ lw_tbl := lwT1 (List.mem_of_getElem? (i := 11) rfl)
theorem t_is : (.initialized "java/lang/String" : Cond) ∈ lw_tbl := lwT1 (List.mem_of_getElem? (i := 19) rfl)
theorem t_ip : (.initialized "jdk/internal/util/Preconditions" : Cond) ∈ lw_tbl := lwT1 (List.mem_of_getElem? (i := 21) rfl)
theorem my_o32 : ∀ i, i < 32 → ∀ j, j < 32 → i ≠ j → Int32.ofNat i ≠ Int32.ofNat j := by decide +kernel
theorem my_x8 : ∀ i, i < 32 → (tkX.getD i []).length ≤ 8 := by decide +kernel
theorem my_exref {args : Array Value} {s : State} {tm : Term} {nm : String} (h : (Cond.exactly tm nm).before args s = true) : ∃ t : Nat, tm.eval args s none [] s = some (.ref t) := by
  cases hv : tm.eval args s none [] s with
  | none => simp [Cond.before, Cond.holds, Cond.value, hv] at h
  | some w =>
    cases w with
    | ref t => exact ⟨t, rfl⟩
    | _ =>
      simp only [Cond.before, Cond.holds, Cond.value, hv] at h
      cases hf : s.vm.findClass nm <;> simp [hf] at h
theorem my_leneq {args : Array Value} {s : State} {tm : Term} {z : Int32} (h : (Cond.eq (.length tm) (.int z)).before args s = true) : (Term.length tm).eval args s none [] s = some (.int z) := va_eqt h
theorem my_eqr {args : Array Value} {s : State} {t u : Term} {a : Nat} (h : (Cond.eq t u).before args s = true) (hu : u.eval args s none [] s = some (.ref a)) : t.eval args s none [] s = some (.ref a) := by
  cases hv : t.eval args s none [] s with
  | none => simp [Cond.before, Cond.holds, Cond.value, hv] at h
  | some w =>
    simp only [Cond.before, Cond.holds, Cond.value, hv, hu] at h
    cases w <;> simp_all
theorem my_hd {args : Array Value} {s : State} {t1 t2 : Term} {nm o n d : String} {n1 n2 : Int32} (h1 : (Cond.exactly t1 nm).before args s = true) (h2 : (Cond.exactly t2 nm).before args s = true) (o1 : (Cond.eq (.field t1 o n d) (.int n1)).before args s = true) (o2 : (Cond.eq (.field t2 o n d) (.int n2)).before args s = true) (hne : n1 ≠ n2) : (Cond.not (.eq t1 t2)).before args s = true := by
  obtain ⟨a, e1⟩ := my_exref h1
  obtain ⟨b, e2⟩ := my_exref h2
  have v1 := va_eqt o1
  have v2 := va_eqt o2
  have hab : a ≠ b := by
    intro e
    subst e
    rw [va_fe e1] at v1
    rw [va_fe e2, v1] at v2
    cases v2
    exact hne rfl
  simp [Cond.before, Cond.holds, Cond.value, e1, e2, hab]
theorem my_OF {args : Array Value} {s : State} {t : Term} {a : Nat} {o n d : String} {v : Value} {A : Nat → Prop} (ht : t.eval args s none [] s = some (.ref a)) (hv : (Term.field t o n d).eval args s none [] s = some v) (hA : ∀ a : Nat, a < s.heap.size → ¬ A a) : va_OF o n d v a A s s.heap := by
  cases hfo : s.fieldFound? o n d with
  | none =>
    rw [va_fe ht] at hv
    simp [State.fieldOf?, State.fieldNamed?, hfo] at hv
  | some x =>
    obtain ⟨cf, k, fi, f⟩ := x
    obtain ⟨g1, cell, g2, g3, -, -, g6⟩ := Term.field_spec hfo ht hv
    exact ⟨cf, k, fi, f, cell, hfo, g1, g2, g3, g6, hA _ (Array.getElem?_eq_some_iff.mp g2).1⟩
theorem st_tok {args : Array Value} {s : State} {A : Nat → Prop} (hts0 : ∀ w ∈ lw_tbl, w.before args s = true) (hgv : (Jvm.Cond.and given_1 narrow_1).before args s = true) (hA : ∀ a : Nat, a < s.heap.size → ¬ A a) : ∃ (tA tkK tkV tkL : Nat → Nat) (tkB : Nat → Nat → Int32) (tkT : Nat), va_En RX6 "LWalkingTown$Token;" tkN tkF tA A s s.heap ∧ va_Z "WalkingTown$Reader" "TOKENS" "[LWalkingTown$Token;" (.ref tkT) A s s.heap ∧ va_T (.object "WalkingTown$Token") tkT 32 (fun j => .ref (tA j)) A s s.heap ∧ ∀ j, j < 32 → va_OF "WalkingTown$Token" "text" "Ljava/lang/String;" (.ref (tkK j)) (tA j) A s s.heap ∧ stA (tkK j) (tkV j) (tkL j) (tkB j) A s := by
  have hfl := flat_of_before _ hgv
  have h32 : tkN.length = 32 := by decide
  obtain ⟨tA, hE, hev⟩ := va_Enof2 (E := RX6) (d := "LWalkingTown$Token;") (nm := tkN) (F := tkF) (A := A) (fun i hi => hts0 _ (t_ls i (h32 ▸ hi))) (hts0 _ t_i6) (fun i hi => hfl _ (g_ex i (h32 ▸ hi))) (fun q hq i hi => hfl _ (g_f q hq i (h32 ▸ hi))) (fun i j hi hj hij => Or.inl (my_hd (hfl _ (g_ex i (h32 ▸ hi))) (hfl _ (g_ex j (h32 ▸ hj))) (hfl _ (g_or i (h32 ▸ hi))) (hfl _ (g_or j (h32 ▸ hj))) (my_o32 i (h32 ▸ hi) j (h32 ▸ hj) hij))) hA
  have hev : ∀ i, i < 32 → (Term.static RX6 (tkN.getD i "") "LWalkingTown$Token;").eval args s none [] s = some (.ref (tA i)) := fun i hi => hev i (by rw [h32]; exact hi)
  obtain ⟨tkT, hevT, hT⟩ := va_Tof (N := 32) (f := fun j => .ref (tA j)) (A := A) (by decide) (hfl _ g_ta) (va_eqt (hfl _ g_tl)) (fun j hj => my_eqr (hfl _ (g_te j hj)) (hev j hj)) hA
  have h0 : ∀ i : Nat, ∃ k : Nat, i < 32 → (Term.string RX6 (tkS.getD i 0)).eval args s none [] s = some (.ref k) := by
    intro i
    by_cases hi : i < 32
    · obtain ⟨k, hk⟩ := my_exref (hfl _ (g_sx i hi)); exact ⟨k, fun _ => hk⟩
    · exact ⟨0, fun h => absurd h hi⟩
  obtain ⟨tkK, hK⟩ := Classical.axiomOfChoice h0
  have h1 : ∀ i : Nat, ∃ v : Nat, i < 32 → (Term.field (.string RX6 (tkS.getD i 0)) "java/lang/String" "value" "[B").eval args s none [] s = some (.ref v) ∧ va_T .byte v (tkX.getD i []).length (fun j => .int ((tkX.getD i []).getD j 0)) A s s.heap := by
    intro i
    by_cases hi : i < 32
    · obtain ⟨v, hv, hw⟩ := va_Tof (N := (tkX.getD i []).length) (f := fun j => .int ((tkX.getD i []).getD j 0)) (A := A) (by have := my_x8 i hi; omega) (hfl _ (g_va i hi)) (va_eqt (hfl _ (g_ln i hi))) (fun j hj => va_eqt (hfl _ (g_el i hi j hj))) hA
      exact ⟨v, fun _ => ⟨hv, hw⟩⟩
    · exact ⟨0, fun h => absurd h hi⟩
  obtain ⟨tkV, hV⟩ := Classical.axiomOfChoice h1
  refine ⟨tA, tkK, tkV, fun i => (tkX.getD i []).length, fun i j => (tkX.getD i []).getD j 0, tkT, hE, va_Zref (hts0 _ t_lt) (hts0 _ t_i3) hevT hA, hT, fun j hj => ⟨my_OF (hev j hj) (my_eqr (hfl _ (g_tx j hj)) (hK j hj)) hA, ⟨va_Oof (hfl _ (g_sx j hj)) (hK j hj) hA, my_OF (hK j hj) (va_eqt (hfl _ (g_co j hj))) hA, my_OF (hK j hj) (hV j hj).1 hA, (hV j hj).2, va_Zof (hts0 _ tq_lc) (hts0 _ t_is) (va_eqt (hfl _ g_cs)) hA, va_Zqof (hts0 _ t_lp) (hts0 _ t_ip) (hfl _ g_si) hA⟩, my_x8 j hj⟩⟩

theorem dX12_readLine_0 : decode cX12_readLine 0 = .ok (.aload_n 0, 1) := by decide +kernel
theorem dX12_readLine_1 : decode cX12_readLine 1 = .ok (.invokevirtual 382, 3) := by decide +kernel
theorem dX12_readLine_4 : decode cX12_readLine 4 = .ok (.istore_n 1, 1) := by decide +kernel
theorem dX12_readLine_5 : decode cX12_readLine 5 = .ok (.iload_n 1, 1) := by decide +kernel
theorem dX12_readLine_6 : decode cX12_readLine 6 = .ok (.iconst (-1), 1) := by decide +kernel
theorem dX12_readLine_7 : decode cX12_readLine 7 = .ok (.if_icmp .ne 9, 3) := by decide +kernel
theorem dX12_readLine_10 : decode cX12_readLine 10 = .ok (.aload_n 0, 1) := by decide +kernel
theorem dX12_readLine_11 : decode cX12_readLine 11 = .ok (.iconst 1, 1) := by decide +kernel
theorem dX12_readLine_12 : decode cX12_readLine 12 = .ok (.invokevirtual 357, 3) := by decide +kernel
theorem dX12_readLine_15 : decode cX12_readLine 15 = .ok (.ireturn, 1) := by decide +kernel
theorem dX12_readLine_16 : decode cX12_readLine 16 = .ok (.aload_n 0, 1) := by decide +kernel
theorem dX12_readLine_17 : decode cX12_readLine 17 = .ok (.getfield 385, 3) := by decide +kernel
theorem dX12_readLine_20 : decode cX12_readLine 20 = .ok (.bipush 16, 2) := by decide +kernel
theorem dX12_readLine_22 : decode cX12_readLine 22 = .ok (.if_icmp .eq 19, 3) := by decide +kernel
theorem dX12_readLine_25 : decode cX12_readLine 25 = .ok (.iload_n 1, 1) := by decide +kernel
theorem dX12_readLine_26 : decode cX12_readLine 26 = .ok (.bipush 6, 2) := by decide +kernel
theorem dX12_readLine_28 : decode cX12_readLine 28 = .ok (.if_icmp .ne 19, 3) := by decide +kernel
theorem dX12_readLine_31 : decode cX12_readLine 31 = .ok (.aload_n 0, 1) := by decide +kernel
theorem dX12_readLine_32 : decode cX12_readLine 32 = .ok (.getfield 388, 3) := by decide +kernel
theorem dX12_readLine_35 : decode cX12_readLine 35 = .ok (.iconst 1, 1) := by decide +kernel
theorem dX12_readLine_36 : decode cX12_readLine 36 = .ok (.iand, 1) := by decide +kernel
theorem dX12_readLine_37 : decode cX12_readLine 37 = .ok (.iconst 1, 1) := by decide +kernel
theorem dX12_readLine_38 : decode cX12_readLine 38 = .ok (.if_icmp .ne 9, 3) := by decide +kernel
theorem dX12_readLine_41 : decode cX12_readLine 41 = .ok (.aload_n 0, 1) := by decide +kernel
theorem dX12_readLine_42 : decode cX12_readLine 42 = .ok (.iconst 3, 1) := by decide +kernel
theorem dX12_readLine_43 : decode cX12_readLine 43 = .ok (.invokevirtual 357, 3) := by decide +kernel
theorem dX12_readLine_46 : decode cX12_readLine 46 = .ok (.ireturn, 1) := by decide +kernel
theorem dX12_readLine_47 : decode cX12_readLine 47 = .ok (.sipush 160, 3) := by decide +kernel
theorem dX12_readLine_50 : decode cX12_readLine 50 = .ok (.aload_n 0, 1) := by decide +kernel
theorem dX12_readLine_51 : decode cX12_readLine 51 = .ok (.getfield 385, 3) := by decide +kernel
theorem dX12_readLine_54 : decode cX12_readLine 54 = .ok (.iadd, 1) := by decide +kernel
theorem dX12_readLine_55 : decode cX12_readLine 55 = .ok (.istore_n 2, 1) := by decide +kernel
theorem dX12_readLine_56 : decode cX12_readLine 56 = .ok (.aload_n 0, 1) := by decide +kernel
theorem dX12_readLine_57 : decode cX12_readLine 57 = .ok (.getfield 97, 3) := by decide +kernel
theorem dX12_readLine_60 : decode cX12_readLine 60 = .ok (.iload_n 2, 1) := by decide +kernel
theorem dX12_readLine_61 : decode cX12_readLine 61 = .ok (.iload_n 1, 1) := by decide +kernel
theorem dX12_readLine_62 : decode cX12_readLine 62 = .ok (.iastore, 1) := by decide +kernel
theorem dX12_readLine_63 : decode cX12_readLine 63 = .ok (.aload_n 0, 1) := by decide +kernel
theorem dX12_readLine_64 : decode cX12_readLine 64 = .ok (.getfield 100, 3) := by decide +kernel
theorem dX12_readLine_67 : decode cX12_readLine 67 = .ok (.iload_n 2, 1) := by decide +kernel
theorem dX12_readLine_68 : decode cX12_readLine 68 = .ok (.iconst 1, 1) := by decide +kernel
theorem dX12_readLine_69 : decode cX12_readLine 69 = .ok (.iastore, 1) := by decide +kernel
theorem dX12_readLine_70 : decode cX12_readLine 70 = .ok (.aload_n 0, 1) := by decide +kernel
theorem dX12_readLine_71 : decode cX12_readLine 71 = .ok (.getfield 103, 3) := by decide +kernel
theorem dX12_readLine_74 : decode cX12_readLine 74 = .ok (.iload_n 2, 1) := by decide +kernel
theorem dX12_readLine_75 : decode cX12_readLine 75 = .ok (.aload_n 0, 1) := by decide +kernel
theorem dX12_readLine_76 : decode cX12_readLine 76 = .ok (.getfield 337, 3) := by decide +kernel
theorem dX12_readLine_79 : decode cX12_readLine 79 = .ok (.iastore, 1) := by decide +kernel
theorem dX12_readLine_80 : decode cX12_readLine 80 = .ok (.iload_n 1, 1) := by decide +kernel
theorem dX12_readLine_81 : decode cX12_readLine 81 = .ok (.bipush 6, 2) := by decide +kernel
theorem dX12_readLine_83 : decode cX12_readLine 83 = .ok (.if_icmp .ne 8, 3) := by decide +kernel
theorem dX12_readLine_86 : decode cX12_readLine 86 = .ok (.aload_n 0, 1) := by decide +kernel
theorem dX12_readLine_87 : decode cX12_readLine 87 = .ok (.iconst 1, 1) := by decide +kernel
theorem dX12_readLine_88 : decode cX12_readLine 88 = .ok (.putfield 388, 3) := by decide +kernel
theorem dX12_readLine_91 : decode cX12_readLine 91 = .ok (.aload_n 0, 1) := by decide +kernel
theorem dX12_readLine_92 : decode cX12_readLine 92 = .ok (.invokevirtual 366, 3) := by decide +kernel
theorem dX12_readLine_95 : decode cX12_readLine 95 = .ok (.iload_n 1, 1) := by decide +kernel
theorem dX12_readLine_96 : decode cX12_readLine 96 = .ok (.iconst 2, 1) := by decide +kernel
theorem dX12_readLine_97 : decode cX12_readLine 97 = .ok (.if_icmp .ge 24, 3) := by decide +kernel
theorem dX12_readLine_100 : decode cX12_readLine 100 = .ok (.aload_n 0, 1) := by decide +kernel
theorem dX12_readLine_101 : decode cX12_readLine 101 = .ok (.invokevirtual 350, 3) := by decide +kernel
theorem dX12_readLine_104 : decode cX12_readLine 104 = .ok (.ifCond .eq 78, 3) := by decide +kernel
theorem dX12_readLine_107 : decode cX12_readLine 107 = .ok (.aload_n 0, 1) := by decide +kernel
theorem dX12_readLine_108 : decode cX12_readLine 108 = .ok (.getfield 100, 3) := by decide +kernel
theorem dX12_readLine_111 : decode cX12_readLine 111 = .ok (.iload_n 2, 1) := by decide +kernel
theorem dX12_readLine_112 : decode cX12_readLine 112 = .ok (.iconst 0, 1) := by decide +kernel
theorem dX12_readLine_113 : decode cX12_readLine 113 = .ok (.iastore, 1) := by decide +kernel
theorem dX12_readLine_114 : decode cX12_readLine 114 = .ok (.aload_n 0, 1) := by decide +kernel
theorem dX12_readLine_115 : decode cX12_readLine 115 = .ok (.invokevirtual 366, 3) := by decide +kernel
theorem dX12_readLine_118 : decode cX12_readLine 118 = .ok (.goto 64, 3) := by decide +kernel
theorem dX12_readLine_121 : decode cX12_readLine 121 = .ok (.aload_n 0, 1) := by decide +kernel
theorem dX12_readLine_122 : decode cX12_readLine 122 = .ok (.getfield 288, 3) := by decide +kernel
theorem dX12_readLine_125 : decode cX12_readLine 125 = .ok (.iconst 3, 1) := by decide +kernel
theorem dX12_readLine_126 : decode cX12_readLine 126 = .ok (.if_icmp .eq 9, 3) := by decide +kernel
theorem dX12_readLine_129 : decode cX12_readLine 129 = .ok (.aload_n 0, 1) := by decide +kernel
theorem dX12_readLine_130 : decode cX12_readLine 130 = .ok (.iconst 1, 1) := by decide +kernel
theorem dX12_readLine_131 : decode cX12_readLine 131 = .ok (.invokevirtual 357, 3) := by decide +kernel
theorem dX12_readLine_134 : decode cX12_readLine 134 = .ok (.ireturn, 1) := by decide +kernel
theorem dX12_readLine_135 : decode cX12_readLine 135 = .ok (.aload_n 0, 1) := by decide +kernel
theorem dX12_readLine_136 : decode cX12_readLine 136 = .ok (.getfield 307, 3) := by decide +kernel
theorem dX12_readLine_139 : decode cX12_readLine 139 = .ok (.sipush 2000, 3) := by decide +kernel
theorem dX12_readLine_142 : decode cX12_readLine 142 = .ok (.if_icmp .le 9, 3) := by decide +kernel
theorem dX12_readLine_145 : decode cX12_readLine 145 = .ok (.aload_n 0, 1) := by decide +kernel
theorem dX12_readLine_146 : decode cX12_readLine 146 = .ok (.iconst 2, 1) := by decide +kernel
theorem dX12_readLine_147 : decode cX12_readLine 147 = .ok (.invokevirtual 357, 3) := by decide +kernel
theorem dX12_readLine_150 : decode cX12_readLine 150 = .ok (.ireturn, 1) := by decide +kernel
theorem dX12_readLine_151 : decode cX12_readLine 151 = .ok (.aload_n 0, 1) := by decide +kernel
theorem dX12_readLine_152 : decode cX12_readLine 152 = .ok (.getfield 100, 3) := by decide +kernel
theorem dX12_readLine_155 : decode cX12_readLine 155 = .ok (.iload_n 2, 1) := by decide +kernel
theorem dX12_readLine_156 : decode cX12_readLine 156 = .ok (.aload_n 0, 1) := by decide +kernel
theorem dX12_readLine_157 : decode cX12_readLine 157 = .ok (.getfield 307, 3) := by decide +kernel
theorem dX12_readLine_160 : decode cX12_readLine 160 = .ok (.iastore, 1) := by decide +kernel
theorem dX12_readLine_161 : decode cX12_readLine 161 = .ok (.iload_n 1, 1) := by decide +kernel
theorem dX12_readLine_162 : decode cX12_readLine 162 = .ok (.bipush 6, 2) := by decide +kernel
theorem dX12_readLine_164 : decode cX12_readLine 164 = .ok (.if_icmp .ne 14, 3) := by decide +kernel
theorem dX12_readLine_167 : decode cX12_readLine 167 = .ok (.aload_n 0, 1) := by decide +kernel
theorem dX12_readLine_168 : decode cX12_readLine 168 = .ok (.getfield 91, 3) := by decide +kernel
theorem dX12_readLine_171 : decode cX12_readLine 171 = .ok (.bipush 10, 2) := by decide +kernel
theorem dX12_readLine_173 : decode cX12_readLine 173 = .ok (.aload_n 0, 1) := by decide +kernel
theorem dX12_readLine_174 : decode cX12_readLine 174 = .ok (.getfield 307, 3) := by decide +kernel
theorem dX12_readLine_177 : decode cX12_readLine 177 = .ok (.iastore, 1) := by decide +kernel
theorem dX12_readLine_178 : decode cX12_readLine 178 = .ok (.aload_n 0, 1) := by decide +kernel
theorem dX12_readLine_179 : decode cX12_readLine 179 = .ok (.invokevirtual 366, 3) := by decide +kernel
theorem dX12_readLine_182 : decode cX12_readLine 182 = .ok (.iload_n 1, 1) := by decide +kernel
theorem dX12_readLine_183 : decode cX12_readLine 183 = .ok (.bipush 6, 2) := by decide +kernel
theorem dX12_readLine_185 : decode cX12_readLine 185 = .ok (.if_icmp .eq 33, 3) := by decide +kernel
theorem dX12_readLine_188 : decode cX12_readLine 188 = .ok (.aload_n 0, 1) := by decide +kernel
theorem dX12_readLine_189 : decode cX12_readLine 189 = .ok (.bipush 105, 2) := by decide +kernel
theorem dX12_readLine_191 : decode cX12_readLine 191 = .ok (.bipush 102, 2) := by decide +kernel
theorem dX12_readLine_193 : decode cX12_readLine 193 = .ok (.iconst 0, 1) := by decide +kernel
theorem dX12_readLine_194 : decode cX12_readLine 194 = .ok (.iconst 0, 1) := by decide +kernel
theorem dX12_readLine_195 : decode cX12_readLine 195 = .ok (.iconst 0, 1) := by decide +kernel
theorem dX12_readLine_196 : decode cX12_readLine 196 = .ok (.invokestatic 323, 3) := by decide +kernel
theorem dX12_readLine_199 : decode cX12_readLine 199 = .ok (.invokevirtual 327, 3) := by decide +kernel
theorem dX12_readLine_202 : decode cX12_readLine 202 = .ok (.ifCond .eq 16, 3) := by decide +kernel
theorem dX12_readLine_205 : decode cX12_readLine 205 = .ok (.aload_n 0, 1) := by decide +kernel
theorem dX12_readLine_206 : decode cX12_readLine 206 = .ok (.invokevirtual 366, 3) := by decide +kernel
theorem dX12_readLine_209 : decode cX12_readLine 209 = .ok (.aload_n 0, 1) := by decide +kernel
theorem dX12_readLine_210 : decode cX12_readLine 210 = .ok (.invokevirtual 391, 3) := by decide +kernel
theorem dX12_readLine_213 : decode cX12_readLine 213 = .ok (.ifCond .ne 5, 3) := by decide +kernel
theorem dX12_readLine_216 : decode cX12_readLine 216 = .ok (.iconst 0, 1) := by decide +kernel
theorem dX12_readLine_217 : decode cX12_readLine 217 = .ok (.ireturn, 1) := by decide +kernel
theorem dX12_readLine_218 : decode cX12_readLine 218 = .ok (.aload_n 0, 1) := by decide +kernel
theorem dX12_readLine_219 : decode cX12_readLine 219 = .ok (.getfield 106, 3) := by decide +kernel
theorem dX12_readLine_222 : decode cX12_readLine 222 = .ok (.iload_n 2, 1) := by decide +kernel
theorem dX12_readLine_223 : decode cX12_readLine 223 = .ok (.aload_n 0, 1) := by decide +kernel
theorem dX12_readLine_224 : decode cX12_readLine 224 = .ok (.getfield 337, 3) := by decide +kernel
theorem dX12_readLine_227 : decode cX12_readLine 227 = .ok (.iastore, 1) := by decide +kernel
theorem dX12_readLine_228 : decode cX12_readLine 228 = .ok (.aload_n 0, 1) := by decide +kernel
theorem dX12_readLine_229 : decode cX12_readLine 229 = .ok (.dup, 1) := by decide +kernel
theorem dX12_readLine_230 : decode cX12_readLine 230 = .ok (.getfield 385, 3) := by decide +kernel
theorem dX12_readLine_233 : decode cX12_readLine 233 = .ok (.iconst 1, 1) := by decide +kernel
theorem dX12_readLine_234 : decode cX12_readLine 234 = .ok (.iadd, 1) := by decide +kernel
theorem dX12_readLine_235 : decode cX12_readLine 235 = .ok (.putfield 385, 3) := by decide +kernel
theorem dX12_readLine_238 : decode cX12_readLine 238 = .ok (.aload_n 0, 1) := by decide +kernel
theorem dX12_readLine_239 : decode cX12_readLine 239 = .ok (.bipush 59, 2) := by decide +kernel
theorem dX12_readLine_241 : decode cX12_readLine 241 = .ok (.invokevirtual 354, 3) := by decide +kernel
theorem dX12_readLine_244 : decode cX12_readLine 244 = .ok (.ifCond .ne 11, 3) := by decide +kernel
theorem dX12_readLine_247 : decode cX12_readLine 247 = .ok (.aload_n 0, 1) := by decide +kernel
theorem dX12_readLine_248 : decode cX12_readLine 248 = .ok (.iconst 1, 1) := by decide +kernel
theorem dX12_readLine_249 : decode cX12_readLine 249 = .ok (.invokevirtual 357, 3) := by decide +kernel
theorem dX12_readLine_252 : decode cX12_readLine 252 = .ok (.ifCond .eq 7, 3) := by decide +kernel
theorem dX12_readLine_255 : decode cX12_readLine 255 = .ok (.iconst 1, 1) := by decide +kernel
theorem dX12_readLine_256 : decode cX12_readLine 256 = .ok (.goto 4, 3) := by decide +kernel
theorem dX12_readLine_259 : decode cX12_readLine 259 = .ok (.iconst 0, 1) := by decide +kernel
theorem dX12_readLine_260 : decode cX12_readLine 260 = .ok (.ireturn, 1) := by decide +kernel
theorem vP_nil (g : Nat → Int32) (f : Nat) : vP g f f := fun n hn => by omega
theorem dQ_R {g g1 : Nat → Int32} {f : Nat} : ∀ n, (∀ i, f ≤ i → i < f + n → g1 i = g i) → dQ g1 f n = dQ g f n
  | 0, _ => rfl
  | n + 1, h => by
    show dQ g1 f n + dl (g1 (f + n)) = dQ g f n + dl (g (f + n))
    rw [dQ_R n (fun i h1 hi => h i h1 (by omega)), h (f + n) (by omega) (by omega)]
theorem vP_R {g g1 : Nat → Int32} {f t : Nat} (h : vP g f t) (k : ∀ i, f ≤ i → i < t → g1 i = g i) : vP g1 f t := by
  intro n hn
  rw [k (f + n) (by omega) hn, dQ_R n (fun i h1 hi => k i h1 (by omega))]
  exact h n hn
theorem dQ_S {g : Nat → Int32} {f f1 : Nat} : ∀ n, (∀ i, i < n → g (f1 + i) = g (f + i)) → dQ g f1 n = dQ g f n
  | 0, _ => rfl
  | n + 1, h => by
    show dQ g f1 n + dl (g (f1 + n)) = dQ g f n + dl (g (f + n))
    rw [dQ_S n (fun i hi => h i (by omega)), h n (by omega)]
theorem vP_S {g : Nat → Int32} {f t f1 t1 : Nat} (h : vP g f t) (hl : f1 + t ≥ t1 + f) (k : ∀ i, f + i < t → g (f1 + i) = g (f + i)) : vP g f1 t1 := by
  intro n hn
  rw [k n (by omega), dQ_S n (fun i hi => k i (by omega))]
  exact h n (by omega)
theorem rL_52 {fv : Nat → Int32} {ar ar1 : Nat → Nat → Int32} {n : Nat} {x : Int32} (h : rL fv ar) (e : ar1 = upM ar 52 (upd (ar 52) n x)) (hn : (n : Int) < 160 ∨ 160 + (fv 59).toInt ≤ (n : Int)) : rL fv ar1 := by
  subst e
  intro k hk
  show (ar 53 (160 + k)).toInt ≤ _ ∧ vP (ar 54) (1200 + (upd (ar 52) n x (160 + k)).toInt.toNat) _
  rw [up_ne (by omega)]
  exact h k hk
theorem rL_53 {fv : Nat → Int32} {ar ar1 : Nat → Nat → Int32} {n : Nat} {x : Int32} (h : rL fv ar) (e : ar1 = upM ar 53 (upd (ar 53) n x)) (hn : (n : Int) < 160 ∨ 160 + (fv 59).toInt ≤ (n : Int)) : rL fv ar1 := by
  subst e
  intro k hk
  show (upd (ar 53) n x (160 + k)).toInt ≤ _ ∧ vP (ar 54) _ (1200 + (upd (ar 53) n x (160 + k)).toInt.toNat)
  rw [up_ne (by omega)]
  exact h k hk
theorem rL_54 {fv : Nat → Int32} {ar ar1 : Nat → Nat → Int32} {n : Nat} {x : Int32} (h : rL fv ar) (e : ar1 = upM ar 54 (upd (ar 54) n x)) (hn : (n : Int) < 1200) : rL fv ar1 := by
  subst e
  intro k hk
  exact ⟨(h k hk).1, vP_R (h k hk).2 (fun i h1 h2 => up_ne (by omega))⟩
theorem rL_cond {f f1 : Nat → Int32} {a a1 : Nat → Nat → Int32} (h : rL f a) (hr : rA a) (hl : f1 59 = f 59) (hp : (f 60).toInt ≤ (f1 60).toInt) (h2 : a1 52 = a 52) (h3 : a1 53 = a 53) (hk : pK (1200 + (f 60).toInt.toNat) (a 54) (a1 54)) : rL f1 a1 := by
  intro k q
  rw [hl] at q
  obtain ⟨q1, q2⟩ := h k q
  have z : (0 : Int) ≤ (a 53 (160 + k)).toInt ∧ (a 53 (160 + k)).toInt ≤ 120 := hr 53 _
  rw [h2, h3]
  exact ⟨by omega, vP_K q2 (fun i hi => hk i (by omega))⟩
theorem rL_add {f f1 : Nat → Int32} {a a1 : Nat → Nat → Int32} {x : Int32} {i : Nat} (h : rL f a) (h0 : 0 ≤ (f 59).toInt) (hl : (f1 59).toInt = (f 59).toInt + 1) (hp : (f1 60).toInt = (f 60).toInt) (h4 : a1 54 = a 54) (h2 : a1 52 = a 52) (h3 : a1 53 = upd (a 53) i x) (hi : i = 160 + (f 59).toInt.toNat) (hx : x.toInt = (f 60).toInt) (hv : vP (a 54) (1200 + (a 52 (160 + (f 59).toInt.toNat)).toInt.toNat) (1200 + (f 60).toInt.toNat)) : rL f1 a1 := by
  intro k q
  rw [h4, h2, h3, hp, hi]
  rcases Nat.lt_or_ge k (f 59).toInt.toNat with c | c
  · rw [up_ne (by omega)]
    exact h k (by omega)
  · have e : k = (f 59).toInt.toNat := by omega
    rw [e, up_eq, hx]
    exact ⟨Int.le_refl _, hv⟩
theorem vM_add {f f1 : Nat → Int32} {a : Nat → Nat → Int32} (h : vM f a) (hr : rL f a) (ra : rA a) (h0 : 0 ≤ (f 58).toInt) (hl : (f1 58).toInt = (f 58).toInt + 1) (hn : (a 47 (f 58).toInt.toNat).toInt = (f 59).toInt) (hc : ∀ j : Nat, (j : Int) < (f 59).toInt → a 52 (16 * (f 58).toInt.toNat + j) = a 52 (160 + j) ∧ a 53 (16 * (f 58).toInt.toNat + j) = a 53 (160 + j)) (hp : ∀ j : Nat, (j : Int) < (f 60).toInt → a 54 (120 * (f 58).toInt.toNat + j) = a 54 (1200 + j)) : vM f1 a := by
  intro b k hb hk
  rcases Nat.lt_or_ge b (f 58).toInt.toNat with c | c
  · exact h b k (by omega) hk
  · have e : b = (f 58).toInt.toNat := by omega
    subst e
    rw [hn] at hk
    obtain ⟨c1, c2⟩ := hc k hk
    obtain ⟨r1, r2⟩ := hr k hk
    have z : (0 : Int) ≤ (a 53 (160 + k)).toInt ∧ (a 53 (160 + k)).toInt ≤ 120 := ra 53 _
    rw [c1, c2]
    refine vP_S r2 (by omega) (fun i hi => ?_)
    have q := hp ((a 52 (160 + k)).toInt.toNat + i) (by omega)
    rw [show 120 * (f 58).toInt.toNat + (a 52 (160 + k)).toInt.toNat + i = 120 * (f 58).toInt.toNat + ((a 52 (160 + k)).toInt.toNat + i) from by omega, q]
    congr 1; omega
set_option maxHeartbeats 4000000 in
set_option maxRecDepth 100000 in
theorem m_readLine (l : Launch) (dC : Nat → ClassId) (dI : Nat → Nat → Nat) (sz h : Nat) (ad : Nat → Nat) (cA : Nat → ClassId) (hd : dM h ad) (fv : Nat → Int32) (wd : Int64) (ar : Nat → Nat → Int32) (hF_fv : rF fv) (hA_ar : rA ar) (n1 : (fv 60).toInt ≤ 2 * (fv 62).toInt) (n2 : 0 ≤ (fv 63).toInt + (fv 62).toInt) (hp_rL : rL fv ar) (hp_vM : vM fv ar) : Met l yX12_readLine (.code yX12_readLine cX12_readLine 3 (some .boolean) :: lw_good) ({ frames := 6, cells := 0, slots := 0, locals := 129 }) (va_Pc [.ref h] (prM dC dI h ad cA fv wd ar sz)) (va_Qi (fun (r : Int32) (u : mS) => rF u.1 ∧ rA u.2.2 ∧ fM [38, 39, 40, 41, 42, 43, 44, 45, 59, 60, 61, 62, 63] fv u.1 ∧ fA [48, 50, 51, 52, 53, 54, 55, 56, 57] ar u.2.2 ∧ (0 ≤ r.toInt ∧ r.toInt ≤ 1) ∧ ((r = 0 ∧ True) ∨ (r = 1 ∧ (rL u.1 u.2.2) ∧ ((u.1 60).toInt ≤ 2 * (u.1 62).toInt) ∧ (0 ≤ (u.1 63).toInt + (u.1 62).toInt) ∧ ((u.1 59).toInt = (fv 59).toInt + 1))) ∧ (vM u.1 u.2.2) ∧ True) (enM dC dI h ad cA) (aM h ad sz)) 0 0 (aM h ad sz) := by
  refine Met.ofW (cc := cX12_readLine) (maxL := 3) (ret := (some .boolean)) (by decide) rfl ?_
  intro p e s m args below meth c s₁ B hml hv
  obtain ⟨rfl, hsz, hP, hK⟩ := hv
  have hx := B.exec
  have hb := B.bytes
  have hr := B.returns
  have hts := atoms_spec (ws := (.code yX12_readLine cX12_readLine 3 (some .boolean) :: lw_good)) B.pre
  have htg : ∀ w ∈ lw_good, w.before _ s = true := fun w hw => hts w (List.mem_cons_of_mem _ hw)
  have hown : s.vm.findClass RX12 = some m.cls := findClass_of_methodNamed B.named
  have hlocks := B.notSynchronized
  subst hsz
  have hS : va_S (aM h ad s.heap.size) s.heap s.heap [] := va_S.rf
  have hl := lv_entry ([.ref h]) (n := 3) (Nat.le_of_ble_eq_true rfl)
  rw [lg_entry_eq]
  generalize (lg_sl ([.ref h]) ++ List.replicate (3 - (lg_sl ([.ref h])).length) Slot.unset).toArray = ls at hl ⊢
  have hl : lv_has ls 3 [(0, .ref h)] := hl
  refine lv_aload_n hx hb dX12_readLine_0 rfl (lv_at hl 0 rfl) ?_
  refine va_calli (va_runV (As := []) (rest := []) ⟨hx, hb, hml, hown, hts⟩ (m_sortAtHand l dC dI s.heap.size h ad cA hd fv wd ar hF_fv hA_ar) (cwV 0 hts (gV kw_8_83 kw_8_85 kw_p_67 kw_1_15 kw_8_86) rfl rfl rfl (by decide +kernel) ⟨Nat.le_of_ble_eq_true rfl, Nat.le_of_ble_eq_true rfl⟩) ⟨fun a U g mk q => ⟨q.1, q.2.1, q.2.2.1, va_K.moved (u := U) (U := U.calling g mk a) (Vm.Alike.refl U.vm) q.2.2.2⟩, va_recv hK hP (ci := 12) (q0 := 0) rfl rfl, fun U hU hW => ⟨rfl, by rw [hU], by rw [hU]; exact hP, va_K.moved hW.alike hK⟩⟩ rfl rfl hl.1 rfl (lv_room (Nat.le_of_ble_eq_true rfl)) dX12_readLine_1 ⟨Nat.le_of_ble_eq_true rfl, Nat.le_of_ble_eq_true rfl⟩) hS (fun q _ h9 => aM_up hS q h9) (aM_up hS) (fun r_1 u t H1 locs ht _ hw hB _ hk1 hS => ?_)
  obtain ⟨fv_3, wd_4, ar_5⟩ := u
  obtain ⟨hF_fv_3, hA_ar_5, fr_6, fa_7, p_2, -⟩ := hw
  have hP : va_P (dC, dI) vwCl (wsM h ad cA fv_3 wd_4 ar_5) H1 := by have h9 := hB.1; rw [ht] at h9; exact h9
  have fr_6 : fM [] fv fv_3 := fr_6
  have fa_7 : fA [] ar ar_5 := fa_7
  generalize H1 = H at hP hS ⊢
  refine lv_istore_n (lv' := [(1, .int r_1), (0, .ref h)]) hx hb dX12_readLine_4 rfl hl (by decide) rfl (fun ls hl => ?_)
  refine lv_iload_n hx hb dX12_readLine_5 rfl (lv_at hl 0 rfl) ?_
  refine lv_iconst (v := (-1)) hx hb dX12_readLine_6 (by decide) ?_
  refine lv_icmp_ne (tgt := 16) hx hb dX12_readLine_7 (by decide) (fun c_8 => ?_) (fun c_8 => ?_)
  · skip
    have i_9 : 0 ≤ r_1.toInt ∧ r_1.toInt ≤ 6 := iv_nel p_2 (by decide) c_8
    have k_10 : ¬ r_1.toInt = (-1) := fun q => c_8 (Int32.toInt_inj.mp q)
    refine lv_aload_n hx hb dX12_readLine_16 rfl (lv_at hl 1 rfl) ?_
    refine gM_59 hx hb htg hown hK hP dX12_readLine_17 ?_
    refine my_ti (y := fv 59) ((fr_6 59 rfl)) ?_
    have i_11 : 0 ≤ (fv 59).toInt ∧ (fv 59).toInt ≤ 16 := hF_fv 59
    refine lv_bipush (v := 16) hx hb dX12_readLine_20 (by decide) ?_
    refine lv_icmp_eq (tgt := 41) hx hb dX12_readLine_22 (by decide) (fun c_12 => ?_) (fun c_12 => ?_)
    · skip
      have i_13 : 16 ≤ (fv 59).toInt ∧ (fv 59).toInt ≤ 16 := iv_eq1 (⟨by decide, by decide⟩ : (16 : Int) ≤ (16 : Int32).toInt ∧ (16 : Int32).toInt ≤ 16) c_12
      refine lv_aload_n hx hb dX12_readLine_41 rfl (lv_at hl 1 rfl) ?_
      refine lv_iconst (v := 3) hx hb dX12_readLine_42 (by decide) ?_
      refine va_calli (va_runV (As := [.int 3]) (rest := []) ⟨hx, hb, hml, hown, hts⟩ (m_bad l dC dI H.size h ad cA hd fv_3 wd_4 ar_5 hF_fv_3 hA_ar_5 3) (cwV 1 hts (gV kw_8_94 kw_8_96 kw_p_69 kw_1_15 kw_8_97) rfl rfl rfl (by decide +kernel) ⟨Nat.le_of_ble_eq_true rfl, Nat.le_of_ble_eq_true rfl⟩) ⟨fun a U g mk q => ⟨q.1, q.2.1, q.2.2.1, va_K.moved (u := U) (U := U.calling g mk a) (Vm.Alike.refl U.vm) q.2.2.2⟩, va_recv hK hP (ci := 12) (q0 := 0) rfl rfl, fun U hU hW => ⟨rfl, by rw [hU], by rw [hU]; exact hP, va_K.moved hW.alike hK⟩⟩ rfl rfl hl.1 rfl (lv_room (Nat.le_of_ble_eq_true rfl)) dX12_readLine_43 ⟨Nat.le_of_ble_eq_true rfl, Nat.le_of_ble_eq_true rfl⟩) hS (fun q _ h9 => aM_up hS q h9) (aM_up hS) (fun r_15 u t H1 locs ht _ hw hB _ hk1 hS => ?_)
      obtain ⟨fv_18, wd_19, ar_20⟩ := u
      obtain ⟨hF_fv_18, hA_ar_20, fr_21, fa_22, p_16, p_17, -⟩ := hw
      have hP : va_P (dC, dI) vwCl (wsM h ad cA fv_18 wd_19 ar_20) H1 := by have h9 := hB.1; rw [ht] at h9; exact h9
      have fr_21 : fM [43, 44] fv_3 fv_18 := fr_21
      have fa_22 : fA [] ar_5 ar_20 := fa_22
      generalize H1 = H at hP hS ⊢
      rcases p_17 with ⟨rfl, p_17⟩
      · skip
        exact W.zret (v := 0) hx hb hr (by decide) (fun t ht hW => ⟨⟨0, (fv_18, wd_19, ar_20), rfl, ⟨hF_fv_18, hA_ar_20, (fM_call (fM_call (fM_rf [38, 39, 40, 41, 42, 43, 44, 45, 59, 60, 61, 62, 63] _) fr_6 (by decide)) fr_21 (by decide)), (fA_call (fA_call (fA_rf [48, 50, 51, 52, 53, 54, 55, 56, 57] _) fa_7 (by decide)) fa_22 (by decide)), (iv_w (⟨by decide, by decide⟩ : (0 : Int) ≤ (0 : Int32).toInt ∧ (0 : Int32).toInt ≤ 0) (by decide) (by decide)), (Or.inl ⟨rfl, trivial⟩), (vM_fr hp_vM (fM_call (fM_call (fM_rf [43, 44] _) fr_6 (by decide)) fr_21 (by decide)) (fA_call (fA_call (fA_rf [] _) fa_7 (by decide)) fa_22 (by decide)) rfl rfl rfl rfl rfl), trivial⟩, ⟨by rw [ht]; exact hP, va_K.moved hW.alike hK⟩⟩, hS.F ht⟩) hS.2.2 dX12_readLine_46
    · skip
      have i_23 : 0 ≤ (fv 59).toInt ∧ (fv 59).toInt ≤ 15 := iv_neh i_11 (by decide) c_12
      have k_24 : ¬ (fv 59).toInt = 16 := fun q => c_12 (Int32.toInt_inj.mp q)
      refine lv_iload_n hx hb dX12_readLine_25 rfl (lv_at hl 0 rfl) ?_
      refine lv_bipush (v := 6) hx hb dX12_readLine_26 (by decide) ?_
      refine lv_icmp_ne (tgt := 47) hx hb dX12_readLine_28 (by decide) (fun c_25 => ?_) (fun c_25 => ?_)
      · skip
        have i_26 : 0 ≤ r_1.toInt ∧ r_1.toInt ≤ 5 := iv_neh i_9 (by decide) c_25
        have k_27 : ¬ r_1.toInt = 6 := fun q => c_25 (Int32.toInt_inj.mp q)
        refine lv_sipush (v := 160) hx hb dX12_readLine_47 (by decide) ?_
        refine lv_aload_n hx hb dX12_readLine_50 rfl (lv_at hl 1 rfl) ?_
        refine gM_59 hx hb htg hown hK hP dX12_readLine_51 ?_
        refine my_ti (y := fv 59) ((fr_6 59 rfl)) ?_
        refine lv_iadd hx hb dX12_readLine_54 ?_
        refine lv_topi (fun v_28 ev_28 => ?_)
        have t_29 : v_28.toInt = (fv 59).toInt + 160 ∧ 160 ≤ v_28.toInt ∧ v_28.toInt ≤ 175 := iv_addc (by rw [ev_28, Int32.add_comm]) i_23 (by decide) (by decide) (by decide)
        refine lv_istore_n (lv' := [(2, .int v_28), (1, .int r_1), (0, .ref h)]) hx hb dX12_readLine_55 rfl hl (by decide) rfl (fun ls hl => ?_)
        refine lv_aload_n hx hb dX12_readLine_56 rfl (lv_at hl 2 rfl) ?_
        refine gM_50 hx hb htg hown hK hP dX12_readLine_57 ?_
        refine lv_iload_n hx hb dX12_readLine_60 rfl (lv_at hl 0 rfl) ?_
        refine lv_iload_n hx hb dX12_readLine_61 rfl (lv_at hl 1 rfl) ?_
        refine sM_50 hx hb hK hP hS hd (iv_in t_29.2 (by decide) (by decide)) dX12_readLine_62 (fun H locs ar_31 ear_31 hP hS => ?_)
        have hA_ar_31 : rA ar_31 := rA_put hA_ar_5 ear_31 (iv_any _)
        refine lv_aload_n hx hb dX12_readLine_63 rfl (lv_at hl 2 rfl) ?_
        refine gM_51 hx hb htg hown hK hP dX12_readLine_64 ?_
        refine lv_iload_n hx hb dX12_readLine_67 rfl (lv_at hl 0 rfl) ?_
        refine lv_iconst (v := 1) hx hb dX12_readLine_68 (by decide) ?_
        refine sM_51 hx hb hK hP hS hd (iv_in t_29.2 (by decide) (by decide)) dX12_readLine_69 (fun H locs ar_32 ear_32 hP hS => ?_)
        have hA_ar_32 : rA ar_32 := rA_put hA_ar_31 ear_32 (iv_any _)
        refine lv_aload_n hx hb dX12_readLine_70 rfl (lv_at hl 2 rfl) ?_
        refine gM_52 hx hb htg hown hK hP dX12_readLine_71 ?_
        refine lv_iload_n hx hb dX12_readLine_74 rfl (lv_at hl 0 rfl) ?_
        refine lv_aload_n hx hb dX12_readLine_75 rfl (lv_at hl 2 rfl) ?_
        refine gM_60 hx hb htg hown hK hP dX12_readLine_76 ?_
        refine my_ti (y := fv 60) ((fr_6 60 rfl)) ?_
        have i_33 : 0 ≤ (fv 60).toInt ∧ (fv 60).toInt ≤ 120 := hF_fv 60
        refine sM_52 hx hb hK hP hS hd (iv_in t_29.2 (by decide) (by decide)) dX12_readLine_79 (fun H locs ar_34 ear_34 hP hS => ?_)
        have hA_ar_34 : rA ar_34 := rA_put hA_ar_32 ear_34 i_33
        have hp_35 : vM fv_3 ar_34 := vM_52 (vM_fr hp_vM (fM_call (fM_rf [] _) fr_6 (by decide)) (fA_put (fA_put (fA_call (fA_rf [50, 51] _) fa_7 (by decide)) ear_31 (by decide)) ear_32 (by decide)) rfl rfl rfl rfl rfl) hA_ar_32 ear_34 (by have h58 : (0 : Int) ≤ (fv_3 58).toInt ∧ (fv_3 58).toInt ≤ 10 := hF_fv_3 58; have h57 : (fv_3 58).toInt = (fv 58).toInt := congrArg Int32.toInt ((fr_6 58 rfl)); show _ ≤ ((v_28.toInt.toNat : Nat) : Int); omega)
        have hp_36 : rL fv_3 ar_34 := rL_52 (rL_fr hp_rL (fM_call (fM_rf [] _) fr_6 (by decide)) (fA_put (fA_put (fA_call (fA_rf [50, 51] _) fa_7 (by decide)) ear_31 (by decide)) ear_32 (by decide)) rfl rfl rfl rfl rfl) ear_34 (by have h57 : (fv_3 59).toInt = (fv 59).toInt := congrArg Int32.toInt ((fr_6 59 rfl)); show ((v_28.toInt.toNat : Nat) : Int) < 160 ∨ _ ≤ ((v_28.toInt.toNat : Nat) : Int); omega)
        refine lv_iload_n hx hb dX12_readLine_80 rfl (lv_at hl 1 rfl) ?_
        refine lv_bipush (v := 6) hx hb dX12_readLine_81 (by decide) ?_
        refine lv_icmp_ne (tgt := 91) hx hb dX12_readLine_83 (by decide) (fun c_37 => ?_) (fun c_37 => ?_)
        · skip
          have k_38 : ¬ r_1.toInt = 6 := fun q => c_37 (Int32.toInt_inj.mp q)
          refine lv_aload_n hx hb dX12_readLine_91 rfl (lv_at hl 2 rfl) ?_
          refine va_callv (va_runV (As := []) (rest := []) ⟨hx, hb, hml, hown, hts⟩ (m_go l dC dI H.size h ad cA hd fv_3 wd_4 ar_34 hF_fv_3 hA_ar_34) (cwV 0 hts (gV kw_8_60 kw_8_62 kw_p_64 kw_1_15 kw_8_63) rfl rfl rfl (by decide +kernel) ⟨Nat.le_of_ble_eq_true rfl, Nat.le_of_ble_eq_true rfl⟩) ⟨fun a U g mk q => ⟨q.1, q.2.1, q.2.2.1, va_K.moved (u := U) (U := U.calling g mk a) (Vm.Alike.refl U.vm) q.2.2.2⟩, va_recv hK hP (ci := 12) (q0 := 0) rfl rfl, fun U hU hW => ⟨rfl, by rw [hU], by rw [hU]; exact hP, va_K.moved hW.alike hK⟩⟩ rfl rfl hl.1 rfl (lv_room (Nat.le_of_ble_eq_true rfl)) dX12_readLine_92 ⟨Nat.le_of_ble_eq_true rfl, Nat.le_of_ble_eq_true rfl⟩) hS (fun q _ h9 => aM_up hS q h9) (aM_up hS) (fun u t H1 locs ht _ hw hB _ hk1 hS => ?_)
          obtain ⟨fv_40, wd_41, ar_42⟩ := u
          obtain ⟨hF_fv_40, hA_ar_42, fr_43, fa_44, -⟩ := hw
          have hP : va_P (dC, dI) vwCl (wsM h ad cA fv_40 wd_41 ar_42) H1 := by have h9 := hB.1; rw [ht] at h9; exact h9
          have fr_43 : fM [38, 39, 40, 41, 42] fv_3 fv_40 := fr_43
          have fa_44 : fA [] ar_34 ar_42 := fa_44
          generalize H1 = H at hP hS ⊢
          refine lv_iload_n hx hb dX12_readLine_95 rfl (lv_at hl 1 rfl) ?_
          refine lv_iconst (v := 2) hx hb dX12_readLine_96 (by decide) ?_
          refine lv_icmp_ge (tgt := 121) hx hb dX12_readLine_97 (by decide) (fun c_45 => ?_) (fun c_45 => ?_)
          · skip
            have i_46 : 2 ≤ r_1.toInt ∧ r_1.toInt ≤ 5 := iv_le2 (⟨by decide, by decide⟩ : (2 : Int) ≤ (2 : Int32).toInt ∧ (2 : Int32).toInt ≤ 2) i_26 c_45
            refine lv_aload_n hx hb dX12_readLine_121 rfl (lv_at hl 2 rfl) ?_
            refine gM_40 hx hb htg hown hK hP dX12_readLine_122 ?_
            refine lv_iconst (v := 3) hx hb dX12_readLine_125 (by decide) ?_
            refine lv_icmp_eq (tgt := 135) hx hb dX12_readLine_126 (by decide) (fun c_47 => ?_) (fun c_47 => ?_)
            · skip
              have i_48 : 3 ≤ (fv_40 40).toInt ∧ (fv_40 40).toInt ≤ 3 := iv_eq1 (⟨by decide, by decide⟩ : (3 : Int) ≤ (3 : Int32).toInt ∧ (3 : Int32).toInt ≤ 3) c_47
              refine lv_aload_n hx hb dX12_readLine_135 rfl (lv_at hl 2 rfl) ?_
              refine gM_41 hx hb htg hown hK hP dX12_readLine_136 ?_
              refine lv_sipush (v := 2000) hx hb dX12_readLine_139 (by decide) ?_
              refine lv_icmp_le (tgt := 151) hx hb dX12_readLine_142 (by decide) (fun c_50 => ?_) (fun c_50 => ?_)
              · skip
                have i_51 : (-2147483648) ≤ (fv_40 41).toInt ∧ (fv_40 41).toInt ≤ 2000 := iv_le1 (iv_any (fv_40 41)) (⟨by decide, by decide⟩ : (2000 : Int) ≤ (2000 : Int32).toInt ∧ (2000 : Int32).toInt ≤ 2000) c_50
                refine lv_aload_n hx hb dX12_readLine_151 rfl (lv_at hl 2 rfl) ?_
                refine gM_51 hx hb htg hown hK hP dX12_readLine_152 ?_
                refine lv_iload_n hx hb dX12_readLine_155 rfl (lv_at hl 0 rfl) ?_
                refine lv_aload_n hx hb dX12_readLine_156 rfl (lv_at hl 2 rfl) ?_
                refine gM_41 hx hb htg hown hK hP dX12_readLine_157 ?_
                refine sM_51 hx hb hK hP hS hd (iv_in t_29.2 (by decide) (by decide)) dX12_readLine_160 (fun H locs ar_52 ear_52 hP hS => ?_)
                have hA_ar_52 : rA ar_52 := rA_put hA_ar_42 ear_52 (iv_any _)
                refine lv_iload_n hx hb dX12_readLine_161 rfl (lv_at hl 1 rfl) ?_
                refine lv_bipush (v := 6) hx hb dX12_readLine_162 (by decide) ?_
                refine lv_icmp_ne (tgt := 178) hx hb dX12_readLine_164 (by decide) (fun c_53 => ?_) (fun c_53 => ?_)
                · skip
                  have k_54 : ¬ r_1.toInt = 6 := fun q => c_53 (Int32.toInt_inj.mp q)
                  refine lv_aload_n hx hb dX12_readLine_178 rfl (lv_at hl 2 rfl) ?_
                  refine va_callv (va_runV (As := []) (rest := []) ⟨hx, hb, hml, hown, hts⟩ (m_go l dC dI H.size h ad cA hd fv_40 wd_41 ar_52 hF_fv_40 hA_ar_52) (cwV 0 hts (gV kw_8_60 kw_8_62 kw_p_64 kw_1_15 kw_8_63) rfl rfl rfl (by decide +kernel) ⟨Nat.le_of_ble_eq_true rfl, Nat.le_of_ble_eq_true rfl⟩) ⟨fun a U g mk q => ⟨q.1, q.2.1, q.2.2.1, va_K.moved (u := U) (U := U.calling g mk a) (Vm.Alike.refl U.vm) q.2.2.2⟩, va_recv hK hP (ci := 12) (q0 := 0) rfl rfl, fun U hU hW => ⟨rfl, by rw [hU], by rw [hU]; exact hP, va_K.moved hW.alike hK⟩⟩ rfl rfl hl.1 rfl (lv_room (Nat.le_of_ble_eq_true rfl)) dX12_readLine_179 ⟨Nat.le_of_ble_eq_true rfl, Nat.le_of_ble_eq_true rfl⟩) hS (fun q _ h9 => aM_up hS q h9) (aM_up hS) (fun u t H1 locs ht _ hw hB _ hk1 hS => ?_)
                  obtain ⟨fv_56, wd_57, ar_58⟩ := u
                  obtain ⟨hF_fv_56, hA_ar_58, fr_59, fa_60, -⟩ := hw
                  have hP : va_P (dC, dI) vwCl (wsM h ad cA fv_56 wd_57 ar_58) H1 := by have h9 := hB.1; rw [ht] at h9; exact h9
                  have fr_59 : fM [38, 39, 40, 41, 42] fv_40 fv_56 := fr_59
                  have fa_60 : fA [] ar_52 ar_58 := fa_60
                  generalize H1 = H at hP hS ⊢
                  refine lv_iload_n hx hb dX12_readLine_182 rfl (lv_at hl 1 rfl) ?_
                  refine lv_bipush (v := 6) hx hb dX12_readLine_183 (by decide) ?_
                  refine lv_icmp_eq (tgt := 218) hx hb dX12_readLine_185 (by decide) (fun c_61 => ?_) (fun c_61 => ?_)
                  · skip
                    exact absurd True.intro (by have h7 := i_46; have h8 := (⟨by decide, by decide⟩ : (6 : Int) ≤ (6 : Int32).toInt ∧ (6 : Int32).toInt ≤ 6); have h9 := congrArg Int32.toInt c_61; exfalso; omega)
                  · skip
                    have k_62 : ¬ r_1.toInt = 6 := fun q => c_61 (Int32.toInt_inj.mp q)
                    refine lv_aload_n hx hb dX12_readLine_188 rfl (lv_at hl 2 rfl) ?_
                    refine lv_bipush (v := 105) hx hb dX12_readLine_189 (by decide) ?_
                    refine lv_bipush (v := 102) hx hb dX12_readLine_191 (by decide) ?_
                    refine lv_iconst (v := 0) hx hb dX12_readLine_193 (by decide) ?_
                    refine lv_iconst (v := 0) hx hb dX12_readLine_194 (by decide) ?_
                    refine lv_iconst (v := 0) hx hb dX12_readLine_195 (by decide) ?_
                    refine va_calll (va_runS (As := [.int 105, .int 102, .int 0, .int 0, .int 0]) (rest := [.ref h]) ⟨hx, hb, hml, hown, hts⟩ (m_spelt l H.size 105 102 0 0 0) (va_cwS 5 hts (gS kw_8_87 kw_8_88 kw_1_15 kw_8_89) rfl rfl rfl (by decide +kernel) ⟨Nat.le_of_ble_eq_true rfl, Nat.le_of_ble_eq_true rfl⟩) ⟨fun a U g mk q => ⟨q.1, q.2⟩, fun U hU hW => ⟨rfl, congrArg Array.size hU⟩⟩ rfl rfl hl.1 rfl (lv_room (Nat.le_of_ble_eq_true rfl)) dX12_readLine_196 ⟨Nat.le_of_ble_eq_true rfl, Nat.le_of_ble_eq_true rfl⟩) hS (fun q _ h9 => nM_up hS q h9) (nM_up hS) (fun r_63 u t H1 locs ht _ hw hB _ hk1 hS => ?_)
                    have hP := my_keepM hP hk1
                    generalize H1 = H at hP hS ⊢
                    refine va_calli (va_runV (As := [.long r_63]) (rest := []) ⟨hx, hb, hml, hown, hts⟩ (m_isKey l dC dI H.size h ad cA hd fv_56 wd_57 ar_58 hF_fv_56 hA_ar_58 r_63) (cwV 1 hts (gV kw_8_90 kw_8_92 kw_p_68 kw_1_15 kw_8_93) rfl rfl rfl (by decide +kernel) ⟨Nat.le_of_ble_eq_true rfl, Nat.le_of_ble_eq_true rfl⟩) ⟨fun a U g mk q => ⟨q.1, q.2.1, q.2.2.1, va_K.moved (u := U) (U := U.calling g mk a) (Vm.Alike.refl U.vm) q.2.2.2⟩, va_recv hK hP (ci := 12) (q0 := 0) rfl rfl, fun U hU hW => ⟨rfl, by rw [hU], by rw [hU]; exact hP, va_K.moved hW.alike hK⟩⟩ rfl rfl hl.1 rfl (lv_room (Nat.le_of_ble_eq_true rfl)) dX12_readLine_199 ⟨Nat.le_of_ble_eq_true rfl, Nat.le_of_ble_eq_true rfl⟩) hS (fun q _ h9 => aM_up hS q h9) (aM_up hS) (fun r_64 u t H1 locs ht _ hw hB _ hk1 hS => ?_)
                    obtain ⟨fv_66, wd_67, ar_68⟩ := u
                    obtain ⟨hF_fv_66, hA_ar_68, fr_69, fa_70, p_65, -⟩ := hw
                    have hP : va_P (dC, dI) vwCl (wsM h ad cA fv_66 wd_67 ar_68) H1 := by have h9 := hB.1; rw [ht] at h9; exact h9
                    have fr_69 : fM [] fv_56 fv_66 := fr_69
                    have fa_70 : fA [] ar_58 ar_68 := fa_70
                    generalize H1 = H at hP hS ⊢
                    refine lv_if_eq (tgt := 218) hx hb dX12_readLine_202 (by decide) (fun c_71 => ?_) (fun c_71 => ?_)
                    · skip
                      have i_72 : 0 ≤ r_64.toInt ∧ r_64.toInt ≤ 0 := iv_eq1 (⟨by decide, by decide⟩ : (0 : Int) ≤ (0 : Int32).toInt ∧ (0 : Int32).toInt ≤ 0) c_71
                      have z_74 : (fv_66 59).toInt = (fv 59).toInt := congrArg Int32.toInt ((fr_69 59 rfl).trans ((fr_59 59 rfl).trans ((fr_43 59 rfl).trans ((fr_6 59 rfl)))))
                      have z_75 : 0 ≤ (fv_66 59).toInt ∧ (fv_66 59).toInt ≤ 16 := hF_fv_66 59
                      have z_76 : (fv_66 60).toInt = (fv 60).toInt := congrArg Int32.toInt ((fr_69 60 rfl).trans ((fr_59 60 rfl).trans ((fr_43 60 rfl).trans ((fr_6 60 rfl)))))
                      have z_77 : 0 ≤ (fv_66 60).toInt ∧ (fv_66 60).toInt ≤ 120 := hF_fv_66 60
                      have z_78 : (fv_66 62).toInt = (fv 62).toInt := congrArg Int32.toInt ((fr_69 62 rfl).trans ((fr_59 62 rfl).trans ((fr_43 62 rfl).trans ((fr_6 62 rfl)))))
                      have z_79 : 0 ≤ (fv_66 62).toInt ∧ (fv_66 62).toInt ≤ 50 := hF_fv_66 62
                      have z_80 : (fv_66 63).toInt = (fv 63).toInt := congrArg Int32.toInt ((fr_69 63 rfl).trans ((fr_59 63 rfl).trans ((fr_43 63 rfl).trans ((fr_6 63 rfl)))))
                      have z_81 : (-100) ≤ (fv_66 63).toInt ∧ (fv_66 63).toInt ≤ 10 := hF_fv_66 63
                      have q_82 : vP (ar_68 54) (1200 + (fv 60).toInt.toNat) (1200 + (fv_66 60).toInt.toNat) := (by rw [show (fv_66 60).toInt.toNat = (fv 60).toInt.toNat from by omega]; exact vP_nil _ _)
                      have q_83 : (fv_66 60).toInt ≤ 2 * (fv_66 62).toInt := (by omega)
                      have q_84 : 0 ≤ (fv_66 63).toInt + (fv_66 62).toInt := (by omega)
                      refine lv_aload_n hx hb dX12_readLine_218 rfl (lv_at hl 2 rfl) ?_
                      refine gM_53 hx hb htg hown hK hP dX12_readLine_219 ?_
                      refine lv_iload_n hx hb dX12_readLine_222 rfl (lv_at hl 0 rfl) ?_
                      refine lv_aload_n hx hb dX12_readLine_223 rfl (lv_at hl 2 rfl) ?_
                      refine gM_60 hx hb htg hown hK hP dX12_readLine_224 ?_
                      refine my_ti (y := fv 60) ((fr_69 60 rfl).trans ((fr_59 60 rfl).trans ((fr_43 60 rfl).trans ((fr_6 60 rfl))))) ?_
                      refine sM_53 hx hb hK hP hS hd (iv_in t_29.2 (by decide) (by decide)) dX12_readLine_227 (fun H locs ar_85 ear_85 hP hS => ?_)
                      have hA_ar_85 : rA ar_85 := rA_put hA_ar_68 ear_85 i_33
                      have hp_86 : vM fv_66 ar_85 := vM_53 (vM_fr hp_35 (fM_call (fM_call (fM_call (fM_rf [38, 39, 40, 41, 42] _) fr_43 (by decide)) fr_59 (by decide)) fr_69 (by decide)) (fA_call (fA_call (fA_put (fA_call (fA_rf [51] _) fa_44 (by decide)) ear_52 (by decide)) fa_60 (by decide)) fa_70 (by decide)) rfl rfl rfl rfl rfl) hA_ar_68 ear_85 (by have h58 : (0 : Int) ≤ (fv_66 58).toInt ∧ (fv_66 58).toInt ≤ 10 := hF_fv_66 58; have h57 : (fv_66 58).toInt = (fv 58).toInt := congrArg Int32.toInt ((fr_69 58 rfl).trans ((fr_59 58 rfl).trans ((fr_43 58 rfl).trans ((fr_6 58 rfl))))); show _ ≤ ((v_28.toInt.toNat : Nat) : Int); omega)
                      have hp_87 : rL fv_66 ar_85 := rL_53 (rL_fr hp_36 (fM_call (fM_call (fM_call (fM_rf [38, 39, 40, 41, 42] _) fr_43 (by decide)) fr_59 (by decide)) fr_69 (by decide)) (fA_call (fA_call (fA_put (fA_call (fA_rf [51] _) fa_44 (by decide)) ear_52 (by decide)) fa_60 (by decide)) fa_70 (by decide)) rfl rfl rfl rfl rfl) ear_85 (by have h57 : (fv_66 59).toInt = (fv 59).toInt := congrArg Int32.toInt ((fr_69 59 rfl).trans ((fr_59 59 rfl).trans ((fr_43 59 rfl).trans ((fr_6 59 rfl))))); show ((v_28.toInt.toNat : Nat) : Int) < 160 ∨ _ ≤ ((v_28.toInt.toNat : Nat) : Int); omega)
                      refine lv_aload_n hx hb dX12_readLine_228 rfl (lv_at hl 2 rfl) ?_
                      refine lv_dup hx hb dX12_readLine_229 rfl ?_
                      refine gM_59 hx hb htg hown hK hP dX12_readLine_230 ?_
                      refine my_ti (y := fv 59) ((fr_69 59 rfl).trans ((fr_59 59 rfl).trans ((fr_43 59 rfl).trans ((fr_6 59 rfl))))) ?_
                      refine lv_iconst (v := 1) hx hb dX12_readLine_233 (by decide) ?_
                      refine lv_iadd hx hb dX12_readLine_234 ?_
                      refine lv_topi (fun v_88 ev_88 => ?_)
                      have t_89 : v_88.toInt = (fv 59).toInt + 1 ∧ 1 ≤ v_88.toInt ∧ v_88.toInt ≤ 16 := iv_addc ev_88 i_23 (by decide) (by decide) (by decide)
                      refine pM_59 hx hb htg hown hK hP hS hd dX12_readLine_235 (fun H locs fv_91 efv_91 hP hS => ?_)
                      have hF_fv_91 : rF fv_91 := rF_put hF_fv_66 efv_91 (iv_w t_89.2 (by decide) (by decide))
                      have z_92 : (fv_91 59).toInt = v_88.toInt := congrArg Int32.toInt ((congrFun efv_91 59))
                      have z_93 : 0 ≤ (fv_91 59).toInt ∧ (fv_91 59).toInt ≤ 16 := hF_fv_91 59
                      have z_94 : (fv_91 60).toInt = (fv 60).toInt := congrArg Int32.toInt ((congrFun efv_91 60).trans ((fr_69 60 rfl).trans ((fr_59 60 rfl).trans ((fr_43 60 rfl).trans ((fr_6 60 rfl))))))
                      have z_95 : 0 ≤ (fv_91 60).toInt ∧ (fv_91 60).toInt ≤ 120 := hF_fv_91 60
                      have z_96 : (fv_91 62).toInt = (fv 62).toInt := congrArg Int32.toInt ((congrFun efv_91 62).trans ((fr_69 62 rfl).trans ((fr_59 62 rfl).trans ((fr_43 62 rfl).trans ((fr_6 62 rfl))))))
                      have z_97 : 0 ≤ (fv_91 62).toInt ∧ (fv_91 62).toInt ≤ 50 := hF_fv_91 62
                      have z_98 : (fv_91 63).toInt = (fv 63).toInt := congrArg Int32.toInt ((congrFun efv_91 63).trans ((fr_69 63 rfl).trans ((fr_59 63 rfl).trans ((fr_43 63 rfl).trans ((fr_6 63 rfl))))))
                      have z_99 : (-100) ≤ (fv_91 63).toInt ∧ (fv_91 63).toInt ≤ 10 := hF_fv_91 63
                      have g_100 : ar_85 53 = upd (ar_68 53) (v_28.toInt.toNat) (fv 60) := by rw [ear_85]; rfl
                      have g_101 : ar_68 52 (160 + (fv_66 59).toInt.toNat) = (fv 60) := by rw [((fA_call (fA_call (fA_put (fA_call (fA_rf [51] _) fa_44 (by decide)) ear_52 (by decide)) fa_60 (by decide)) fa_70 (by decide)) 52 rfl), ear_34]; show upd _ (v_28.toInt.toNat) _ _ = _; rw [show v_28.toInt.toNat = 160 + (fv_66 59).toInt.toNat from by omega]; exact up_eq
                      have hp_102 : rL fv_91 ar_85 := rL_add (i := v_28.toInt.toNat) (x := (fv 60)) (rL_fr hp_36 (fM_call (fM_call (fM_call (fM_rf [38, 39, 40, 41, 42] _) fr_43 (by decide)) fr_59 (by decide)) fr_69 (by decide)) (fA_call (fA_call (fA_put (fA_call (fA_rf [51] _) fa_44 (by decide)) ear_52 (by decide)) fa_60 (by decide)) fa_70 (by decide)) rfl rfl rfl rfl rfl) (by omega) (by omega) (by omega) ((fA_put (fA_rf [53] _) ear_85 (by decide)) 54 rfl) ((fA_put (fA_rf [53] _) ear_85 (by decide)) 52 rfl) (by rw [g_100]) (by omega) (by omega) (by rw [g_101]; exact q_82)
                      refine lv_aload_n hx hb dX12_readLine_238 rfl (lv_at hl 2 rfl) ?_
                      refine lv_bipush (v := 59) hx hb dX12_readLine_239 (by decide) ?_
                      refine va_calli (va_runV (As := [.int 59]) (rest := []) ⟨hx, hb, hml, hown, hts⟩ (m_isSign l dC dI H.size h ad cA hd fv_91 wd_67 ar_85 hF_fv_91 hA_ar_85 59) (cwV 1 hts (gV kw_8_117 kw_8_119 kw_p_74 kw_1_15 kw_8_120) rfl rfl rfl (by decide +kernel) ⟨Nat.le_of_ble_eq_true rfl, Nat.le_of_ble_eq_true rfl⟩) ⟨fun a U g mk q => ⟨q.1, q.2.1, q.2.2.1, va_K.moved (u := U) (U := U.calling g mk a) (Vm.Alike.refl U.vm) q.2.2.2⟩, va_recv hK hP (ci := 12) (q0 := 0) rfl rfl, fun U hU hW => ⟨rfl, by rw [hU], by rw [hU]; exact hP, va_K.moved hW.alike hK⟩⟩ rfl rfl hl.1 rfl (lv_room (Nat.le_of_ble_eq_true rfl)) dX12_readLine_241 ⟨Nat.le_of_ble_eq_true rfl, Nat.le_of_ble_eq_true rfl⟩) hS (fun q _ h9 => aM_up hS q h9) (aM_up hS) (fun r_103 u t H1 locs ht _ hw hB _ hk1 hS => ?_)
                      obtain ⟨fv_105, wd_106, ar_107⟩ := u
                      obtain ⟨hF_fv_105, hA_ar_107, fr_108, fa_109, p_104, -⟩ := hw
                      have hP : va_P (dC, dI) vwCl (wsM h ad cA fv_105 wd_106 ar_107) H1 := by have h9 := hB.1; rw [ht] at h9; exact h9
                      have fr_108 : fM [] fv_91 fv_105 := fr_108
                      have fa_109 : fA [] ar_85 ar_107 := fa_109
                      generalize H1 = H at hP hS ⊢
                      refine lv_if_ne (tgt := 255) hx hb dX12_readLine_244 (by decide) (fun c_110 => ?_) (fun c_110 => ?_)
                      · skip
                        have i_111 : 1 ≤ r_103.toInt ∧ r_103.toInt ≤ 1 := iv_nel p_104 (by decide) c_110
                        have k_112 : ¬ r_103.toInt = 0 := fun q => c_110 (Int32.toInt_inj.mp q)
                        refine lv_iconst (v := 1) hx hb dX12_readLine_255 (by decide) ?_
                        refine lv_goto (tgt := 260) hx hb dX12_readLine_256 (by decide) ?_
                        have z_113 : (fv_105 59).toInt = v_88.toInt := congrArg Int32.toInt ((fr_108 59 rfl).trans ((congrFun efv_91 59)))
                        have z_114 : 0 ≤ (fv_105 59).toInt ∧ (fv_105 59).toInt ≤ 16 := hF_fv_105 59
                        have z_115 : (fv_105 60).toInt = (fv 60).toInt := congrArg Int32.toInt ((fr_108 60 rfl).trans ((congrFun efv_91 60).trans ((fr_69 60 rfl).trans ((fr_59 60 rfl).trans ((fr_43 60 rfl).trans ((fr_6 60 rfl)))))))
                        have z_116 : 0 ≤ (fv_105 60).toInt ∧ (fv_105 60).toInt ≤ 120 := hF_fv_105 60
                        have z_117 : (fv_105 62).toInt = (fv 62).toInt := congrArg Int32.toInt ((fr_108 62 rfl).trans ((congrFun efv_91 62).trans ((fr_69 62 rfl).trans ((fr_59 62 rfl).trans ((fr_43 62 rfl).trans ((fr_6 62 rfl)))))))
                        have z_118 : 0 ≤ (fv_105 62).toInt ∧ (fv_105 62).toInt ≤ 50 := hF_fv_105 62
                        have z_119 : (fv_105 63).toInt = (fv 63).toInt := congrArg Int32.toInt ((fr_108 63 rfl).trans ((congrFun efv_91 63).trans ((fr_69 63 rfl).trans ((fr_59 63 rfl).trans ((fr_43 63 rfl).trans ((fr_6 63 rfl)))))))
                        have z_120 : (-100) ≤ (fv_105 63).toInt ∧ (fv_105 63).toInt ≤ 10 := hF_fv_105 63
                        exact W.zret (v := 1) hx hb hr (by decide) (fun t ht hW => ⟨⟨1, (fv_105, wd_106, ar_107), rfl, ⟨hF_fv_105, hA_ar_107, (fM_call (fM_put (fM_call (fM_call (fM_call (fM_call (fM_rf [38, 39, 40, 41, 42, 43, 44, 45, 59, 60, 61, 62, 63] _) fr_6 (by decide)) fr_43 (by decide)) fr_59 (by decide)) fr_69 (by decide)) efv_91 (by decide)) fr_108 (by decide)), (fA_call (fA_put (fA_call (fA_call (fA_put (fA_call (fA_put (fA_put (fA_put (fA_call (fA_rf [48, 50, 51, 52, 53, 54, 55, 56, 57] _) fa_7 (by decide)) ear_31 (by decide)) ear_32 (by decide)) ear_34 (by decide)) fa_44 (by decide)) ear_52 (by decide)) fa_60 (by decide)) fa_70 (by decide)) ear_85 (by decide)) fa_109 (by decide)), (iv_w (⟨by decide, by decide⟩ : (1 : Int) ≤ (1 : Int32).toInt ∧ (1 : Int32).toInt ≤ 1) (by decide) (by decide)), (Or.inr (⟨rfl, ⟨(rL_fr hp_102 (fM_call (fM_rf [] _) fr_108 (by decide)) (fA_call (fA_rf [] _) fa_109 (by decide)) rfl rfl rfl rfl rfl), show (fv_105 60).toInt ≤ 2 * (fv_105 62).toInt from by omega, show 0 ≤ (fv_105 63).toInt + (fv_105 62).toInt from by omega, show (fv_105 59).toInt = (fv 59).toInt + 1 from by omega⟩⟩)), (vM_fr hp_86 (fM_call (fM_put (fM_rf [59] _) efv_91 (by decide)) fr_108 (by decide)) (fA_call (fA_rf [] _) fa_109 (by decide)) rfl rfl rfl rfl rfl), trivial⟩, ⟨by rw [ht]; exact hP, va_K.moved hW.alike hK⟩⟩, hS.F ht⟩) hS.2.2 dX12_readLine_260
                      · skip
                        have i_121 : 0 ≤ r_103.toInt ∧ r_103.toInt ≤ 0 := iv_eq1 (⟨by decide, by decide⟩ : (0 : Int) ≤ (0 : Int32).toInt ∧ (0 : Int32).toInt ≤ 0) c_110
                        refine lv_aload_n hx hb dX12_readLine_247 rfl (lv_at hl 2 rfl) ?_
                        refine lv_iconst (v := 1) hx hb dX12_readLine_248 (by decide) ?_
                        refine va_calli (va_runV (As := [.int 1]) (rest := []) ⟨hx, hb, hml, hown, hts⟩ (m_bad l dC dI H.size h ad cA hd fv_105 wd_106 ar_107 hF_fv_105 hA_ar_107 1) (cwV 1 hts (gV kw_8_94 kw_8_96 kw_p_69 kw_1_15 kw_8_97) rfl rfl rfl (by decide +kernel) ⟨Nat.le_of_ble_eq_true rfl, Nat.le_of_ble_eq_true rfl⟩) ⟨fun a U g mk q => ⟨q.1, q.2.1, q.2.2.1, va_K.moved (u := U) (U := U.calling g mk a) (Vm.Alike.refl U.vm) q.2.2.2⟩, va_recv hK hP (ci := 12) (q0 := 0) rfl rfl, fun U hU hW => ⟨rfl, by rw [hU], by rw [hU]; exact hP, va_K.moved hW.alike hK⟩⟩ rfl rfl hl.1 rfl (lv_room (Nat.le_of_ble_eq_true rfl)) dX12_readLine_249 ⟨Nat.le_of_ble_eq_true rfl, Nat.le_of_ble_eq_true rfl⟩) hS (fun q _ h9 => aM_up hS q h9) (aM_up hS) (fun r_123 u t H1 locs ht _ hw hB _ hk1 hS => ?_)
                        obtain ⟨fv_126, wd_127, ar_128⟩ := u
                        obtain ⟨hF_fv_126, hA_ar_128, fr_129, fa_130, p_124, p_125, -⟩ := hw
                        have hP : va_P (dC, dI) vwCl (wsM h ad cA fv_126 wd_127 ar_128) H1 := by have h9 := hB.1; rw [ht] at h9; exact h9
                        have fr_129 : fM [43, 44] fv_105 fv_126 := fr_129
                        have fa_130 : fA [] ar_107 ar_128 := fa_130
                        generalize H1 = H at hP hS ⊢
                        rcases p_125 with ⟨rfl, p_125⟩
                        · skip
                          refine lv_if_eq (tgt := 259) hx hb dX12_readLine_252 (by decide) (fun c_131 => ?_) (fun c_131 => ?_)
                          · skip
                            refine lv_iconst (v := 0) hx hb dX12_readLine_259 (by decide) ?_
                            have z_132 : (fv_126 59).toInt = v_88.toInt := congrArg Int32.toInt ((fr_129 59 rfl).trans ((fr_108 59 rfl).trans ((congrFun efv_91 59))))
                            have z_133 : 0 ≤ (fv_126 59).toInt ∧ (fv_126 59).toInt ≤ 16 := hF_fv_126 59
                            have z_134 : (fv_126 60).toInt = (fv 60).toInt := congrArg Int32.toInt ((fr_129 60 rfl).trans ((fr_108 60 rfl).trans ((congrFun efv_91 60).trans ((fr_69 60 rfl).trans ((fr_59 60 rfl).trans ((fr_43 60 rfl).trans ((fr_6 60 rfl))))))))
                            have z_135 : 0 ≤ (fv_126 60).toInt ∧ (fv_126 60).toInt ≤ 120 := hF_fv_126 60
                            have z_136 : (fv_126 62).toInt = (fv 62).toInt := congrArg Int32.toInt ((fr_129 62 rfl).trans ((fr_108 62 rfl).trans ((congrFun efv_91 62).trans ((fr_69 62 rfl).trans ((fr_59 62 rfl).trans ((fr_43 62 rfl).trans ((fr_6 62 rfl))))))))
                            have z_137 : 0 ≤ (fv_126 62).toInt ∧ (fv_126 62).toInt ≤ 50 := hF_fv_126 62
                            have z_138 : (fv_126 63).toInt = (fv 63).toInt := congrArg Int32.toInt ((fr_129 63 rfl).trans ((fr_108 63 rfl).trans ((congrFun efv_91 63).trans ((fr_69 63 rfl).trans ((fr_59 63 rfl).trans ((fr_43 63 rfl).trans ((fr_6 63 rfl))))))))
                            have z_139 : (-100) ≤ (fv_126 63).toInt ∧ (fv_126 63).toInt ≤ 10 := hF_fv_126 63
                            exact W.zret (v := 0) hx hb hr (by decide) (fun t ht hW => ⟨⟨0, (fv_126, wd_127, ar_128), rfl, ⟨hF_fv_126, hA_ar_128, (fM_call (fM_call (fM_put (fM_call (fM_call (fM_call (fM_call (fM_rf [38, 39, 40, 41, 42, 43, 44, 45, 59, 60, 61, 62, 63] _) fr_6 (by decide)) fr_43 (by decide)) fr_59 (by decide)) fr_69 (by decide)) efv_91 (by decide)) fr_108 (by decide)) fr_129 (by decide)), (fA_call (fA_call (fA_put (fA_call (fA_call (fA_put (fA_call (fA_put (fA_put (fA_put (fA_call (fA_rf [48, 50, 51, 52, 53, 54, 55, 56, 57] _) fa_7 (by decide)) ear_31 (by decide)) ear_32 (by decide)) ear_34 (by decide)) fa_44 (by decide)) ear_52 (by decide)) fa_60 (by decide)) fa_70 (by decide)) ear_85 (by decide)) fa_109 (by decide)) fa_130 (by decide)), (iv_w (⟨by decide, by decide⟩ : (0 : Int) ≤ (0 : Int32).toInt ∧ (0 : Int32).toInt ≤ 0) (by decide) (by decide)), (Or.inl ⟨rfl, trivial⟩), (vM_fr hp_86 (fM_call (fM_call (fM_put (fM_rf [43, 44, 59] _) efv_91 (by decide)) fr_108 (by decide)) fr_129 (by decide)) (fA_call (fA_call (fA_rf [] _) fa_109 (by decide)) fa_130 (by decide)) rfl rfl rfl rfl rfl), trivial⟩, ⟨by rw [ht]; exact hP, va_K.moved hW.alike hK⟩⟩, hS.F ht⟩) hS.2.2 dX12_readLine_260
                          · skip
                            exact absurd c_131 (by decide)
                    · skip
                      have i_140 : 1 ≤ r_64.toInt ∧ r_64.toInt ≤ 1 := iv_nel p_65 (by decide) c_71
                      have k_141 : ¬ r_64.toInt = 0 := fun q => c_71 (Int32.toInt_inj.mp q)
                      refine lv_aload_n hx hb dX12_readLine_205 rfl (lv_at hl 2 rfl) ?_
                      refine va_callv (va_runV (As := []) (rest := []) ⟨hx, hb, hml, hown, hts⟩ (m_go l dC dI H.size h ad cA hd fv_66 wd_67 ar_68 hF_fv_66 hA_ar_68) (cwV 0 hts (gV kw_8_60 kw_8_62 kw_p_64 kw_1_15 kw_8_63) rfl rfl rfl (by decide +kernel) ⟨Nat.le_of_ble_eq_true rfl, Nat.le_of_ble_eq_true rfl⟩) ⟨fun a U g mk q => ⟨q.1, q.2.1, q.2.2.1, va_K.moved (u := U) (U := U.calling g mk a) (Vm.Alike.refl U.vm) q.2.2.2⟩, va_recv hK hP (ci := 12) (q0 := 0) rfl rfl, fun U hU hW => ⟨rfl, by rw [hU], by rw [hU]; exact hP, va_K.moved hW.alike hK⟩⟩ rfl rfl hl.1 rfl (lv_room (Nat.le_of_ble_eq_true rfl)) dX12_readLine_206 ⟨Nat.le_of_ble_eq_true rfl, Nat.le_of_ble_eq_true rfl⟩) hS (fun q _ h9 => aM_up hS q h9) (aM_up hS) (fun u t H1 locs ht _ hw hB _ hk1 hS => ?_)
                      obtain ⟨fv_143, wd_144, ar_145⟩ := u
                      obtain ⟨hF_fv_143, hA_ar_145, fr_146, fa_147, -⟩ := hw
                      have hP : va_P (dC, dI) vwCl (wsM h ad cA fv_143 wd_144 ar_145) H1 := by have h9 := hB.1; rw [ht] at h9; exact h9
                      have fr_146 : fM [38, 39, 40, 41, 42] fv_66 fv_143 := fr_146
                      have fa_147 : fA [] ar_68 ar_145 := fa_147
                      generalize H1 = H at hP hS ⊢
                      refine lv_aload_n hx hb dX12_readLine_209 rfl (lv_at hl 2 rfl) ?_
                      have z_148 : (fv_143 59).toInt = (fv 59).toInt := congrArg Int32.toInt ((fr_146 59 rfl).trans ((fr_69 59 rfl).trans ((fr_59 59 rfl).trans ((fr_43 59 rfl).trans ((fr_6 59 rfl))))))
                      have z_149 : 0 ≤ (fv_143 59).toInt ∧ (fv_143 59).toInt ≤ 16 := hF_fv_143 59
                      have z_150 : (fv_143 60).toInt = (fv 60).toInt := congrArg Int32.toInt ((fr_146 60 rfl).trans ((fr_69 60 rfl).trans ((fr_59 60 rfl).trans ((fr_43 60 rfl).trans ((fr_6 60 rfl))))))
                      have z_151 : 0 ≤ (fv_143 60).toInt ∧ (fv_143 60).toInt ≤ 120 := hF_fv_143 60
                      have z_152 : (fv_143 62).toInt = (fv 62).toInt := congrArg Int32.toInt ((fr_146 62 rfl).trans ((fr_69 62 rfl).trans ((fr_59 62 rfl).trans ((fr_43 62 rfl).trans ((fr_6 62 rfl))))))
                      have z_153 : 0 ≤ (fv_143 62).toInt ∧ (fv_143 62).toInt ≤ 50 := hF_fv_143 62
                      have z_154 : (fv_143 63).toInt = (fv 63).toInt := congrArg Int32.toInt ((fr_146 63 rfl).trans ((fr_69 63 rfl).trans ((fr_59 63 rfl).trans ((fr_43 63 rfl).trans ((fr_6 63 rfl))))))
                      have z_155 : (-100) ≤ (fv_143 63).toInt ∧ (fv_143 63).toInt ≤ 10 := hF_fv_143 63
                      have z_156 : (fv_143 60).toInt = (fv 60).toInt := congrArg Int32.toInt ((fr_146 60 rfl).trans ((fr_69 60 rfl).trans ((fr_59 60 rfl).trans ((fr_43 60 rfl).trans ((fr_6 60 rfl))))))
                      have z_157 : 0 ≤ (fv_143 60).toInt ∧ (fv_143 60).toInt ≤ 120 := hF_fv_143 60
                      have z_158 : (fv_143 62).toInt = (fv 62).toInt := congrArg Int32.toInt ((fr_146 62 rfl).trans ((fr_69 62 rfl).trans ((fr_59 62 rfl).trans ((fr_43 62 rfl).trans ((fr_6 62 rfl))))))
                      have z_159 : 0 ≤ (fv_143 62).toInt ∧ (fv_143 62).toInt ≤ 50 := hF_fv_143 62
                      have z_160 : (fv_143 62).toInt = (fv 62).toInt := congrArg Int32.toInt ((fr_146 62 rfl).trans ((fr_69 62 rfl).trans ((fr_59 62 rfl).trans ((fr_43 62 rfl).trans ((fr_6 62 rfl))))))
                      have z_161 : 0 ≤ (fv_143 62).toInt ∧ (fv_143 62).toInt ≤ 50 := hF_fv_143 62
                      have z_162 : (fv_143 63).toInt = (fv 63).toInt := congrArg Int32.toInt ((fr_146 63 rfl).trans ((fr_69 63 rfl).trans ((fr_59 63 rfl).trans ((fr_43 63 rfl).trans ((fr_6 63 rfl))))))
                      have z_163 : (-100) ≤ (fv_143 63).toInt ∧ (fv_143 63).toInt ≤ 10 := hF_fv_143 63
                      refine va_calli (va_runV (As := []) (rest := []) ⟨hx, hb, hml, hown, hts⟩ (m_readCond l dC dI H.size h ad cA hd fv_143 wd_144 ar_145 hF_fv_143 hA_ar_145 (by omega) (by omega) (vM_fr hp_35 (fM_call (fM_call (fM_call (fM_call (fM_rf [38, 39, 40, 41, 42] _) fr_43 (by decide)) fr_59 (by decide)) fr_69 (by decide)) fr_146 (by decide)) (fA_call (fA_call (fA_call (fA_put (fA_call (fA_rf [51] _) fa_44 (by decide)) ear_52 (by decide)) fa_60 (by decide)) fa_70 (by decide)) fa_147 (by decide)) rfl rfl rfl rfl rfl)) (cwV 0 hts (gV kw_8_102 kw_8_104 kw_p_71 kw_1_15 kw_8_105) rfl rfl rfl (by decide +kernel) ⟨Nat.le_of_ble_eq_true rfl, Nat.le_of_ble_eq_true rfl⟩) ⟨fun a U g mk q => ⟨q.1, q.2.1, q.2.2.1, va_K.moved (u := U) (U := U.calling g mk a) (Vm.Alike.refl U.vm) q.2.2.2⟩, va_recv hK hP (ci := 12) (q0 := 0) rfl rfl, fun U hU hW => ⟨rfl, by rw [hU], by rw [hU]; exact hP, va_K.moved hW.alike hK⟩⟩ rfl rfl hl.1 rfl (lv_room (Nat.le_of_ble_eq_true rfl)) dX12_readLine_210 ⟨Nat.le_of_ble_eq_true rfl, Nat.le_of_ble_eq_true rfl⟩) hS (fun q _ h9 => aM_up hS q h9) (aM_up hS) (fun r_164 u t H1 locs ht _ hw hB _ hk1 hS => ?_)
                      obtain ⟨fv_168, wd_169, ar_170⟩ := u
                      obtain ⟨hF_fv_168, hA_ar_170, fr_171, fa_172, p_165, p_166, p_167, -⟩ := hw
                      have hP : va_P (dC, dI) vwCl (wsM h ad cA fv_168 wd_169 ar_170) H1 := by have h9 := hB.1; rw [ht] at h9; exact h9
                      have fr_171 : fM [38, 39, 40, 41, 42, 43, 44, 60, 61, 62, 63] fv_143 fv_168 := fr_171
                      have fa_172 : fA [54, 55, 56, 57] ar_145 ar_170 := fa_172
                      have p_167 : vM fv_168 ar_170 := p_167
                      generalize H1 = H at hP hS ⊢
                      rcases p_166 with ⟨rfl, p_166⟩ | ⟨rfl, p_166⟩
                      · skip
                        refine lv_if_ne (tgt := 218) hx hb dX12_readLine_213 (by decide) (fun c_173 => ?_) (fun c_173 => ?_)
                        · skip
                          exact absurd c_173 (by decide)
                        · skip
                          refine lv_iconst (v := 0) hx hb dX12_readLine_216 (by decide) ?_
                          exact W.zret (v := 0) hx hb hr (by decide) (fun t ht hW => ⟨⟨0, (fv_168, wd_169, ar_170), rfl, ⟨hF_fv_168, hA_ar_170, (fM_call (fM_call (fM_call (fM_call (fM_call (fM_call (fM_rf [38, 39, 40, 41, 42, 43, 44, 45, 59, 60, 61, 62, 63] _) fr_6 (by decide)) fr_43 (by decide)) fr_59 (by decide)) fr_69 (by decide)) fr_146 (by decide)) fr_171 (by decide)), (fA_call (fA_call (fA_call (fA_call (fA_put (fA_call (fA_put (fA_put (fA_put (fA_call (fA_rf [48, 50, 51, 52, 53, 54, 55, 56, 57] _) fa_7 (by decide)) ear_31 (by decide)) ear_32 (by decide)) ear_34 (by decide)) fa_44 (by decide)) ear_52 (by decide)) fa_60 (by decide)) fa_70 (by decide)) fa_147 (by decide)) fa_172 (by decide)), (iv_w (⟨by decide, by decide⟩ : (0 : Int) ≤ (0 : Int32).toInt ∧ (0 : Int32).toInt ≤ 0) (by decide) (by decide)), (Or.inl ⟨rfl, trivial⟩), p_167, trivial⟩, ⟨by rw [ht]; exact hP, va_K.moved hW.alike hK⟩⟩, hS.F ht⟩) hS.2.2 dX12_readLine_217
                      · skip
                        have q_174 : vP (ar_170 54) (1200 + (fv_143 60).toInt.toNat) (1200 + (fv_168 60).toInt.toNat) := p_166.1
                        have q_175 : pK (1200 + (fv_143 60).toInt.toNat) (ar_145 54) (ar_170 54) := p_166.2.1
                        have q_176 : (fv_143 60).toInt ≤ (fv_168 60).toInt := p_166.2.2.1
                        have q_177 : (fv_168 60).toInt ≤ 2 * (fv_168 62).toInt := p_166.2.2.2.1
                        have q_178 : 0 ≤ (fv_168 63).toInt + (fv_168 62).toInt := p_166.2.2.2.2
                        have z_179 : (fv_168 59).toInt = (fv 59).toInt := congrArg Int32.toInt ((fr_171 59 rfl).trans ((fr_146 59 rfl).trans ((fr_69 59 rfl).trans ((fr_59 59 rfl).trans ((fr_43 59 rfl).trans ((fr_6 59 rfl)))))))
                        have z_180 : 0 ≤ (fv_168 59).toInt ∧ (fv_168 59).toInt ≤ 16 := hF_fv_168 59
                        have z_181 : 0 ≤ (fv_168 60).toInt ∧ (fv_168 60).toInt ≤ 120 := hF_fv_168 60
                        have z_182 : 0 ≤ (fv_168 62).toInt ∧ (fv_168 62).toInt ≤ 50 := hF_fv_168 62
                        have z_183 : (-100) ≤ (fv_168 63).toInt ∧ (fv_168 63).toInt ≤ 10 := hF_fv_168 63
                        have hp_184 : rL fv_168 ar_170 := rL_cond (rL_fr hp_36 (fM_call (fM_call (fM_call (fM_call (fM_rf [38, 39, 40, 41, 42] _) fr_43 (by decide)) fr_59 (by decide)) fr_69 (by decide)) fr_146 (by decide)) (fA_call (fA_call (fA_call (fA_put (fA_call (fA_rf [51] _) fa_44 (by decide)) ear_52 (by decide)) fa_60 (by decide)) fa_70 (by decide)) fa_147 (by decide)) rfl rfl rfl rfl rfl) hA_ar_145 ((fM_call (fM_rf [38, 39, 40, 41, 42, 43, 44, 60, 61, 62, 63] _) fr_171 (by decide)) 59 rfl) (by omega) ((fA_call (fA_rf [54, 55, 56, 57] _) fa_172 (by decide)) 52 rfl) ((fA_call (fA_rf [54, 55, 56, 57] _) fa_172 (by decide)) 53 rfl) q_175
                        refine lv_if_ne (tgt := 218) hx hb dX12_readLine_213 (by decide) (fun c_185 => ?_) (fun c_185 => ?_)
                        · skip
                          have z_186 : (fv_168 59).toInt = (fv 59).toInt := congrArg Int32.toInt ((fr_171 59 rfl).trans ((fr_146 59 rfl).trans ((fr_69 59 rfl).trans ((fr_59 59 rfl).trans ((fr_43 59 rfl).trans ((fr_6 59 rfl)))))))
                          have z_187 : 0 ≤ (fv_168 59).toInt ∧ (fv_168 59).toInt ≤ 16 := hF_fv_168 59
                          have z_188 : 0 ≤ (fv_168 60).toInt ∧ (fv_168 60).toInt ≤ 120 := hF_fv_168 60
                          have z_189 : 0 ≤ (fv_168 62).toInt ∧ (fv_168 62).toInt ≤ 50 := hF_fv_168 62
                          have z_190 : (-100) ≤ (fv_168 63).toInt ∧ (fv_168 63).toInt ≤ 10 := hF_fv_168 63
                          have q_191 : vP (ar_170 54) (1200 + (fv 60).toInt.toNat) (1200 + (fv_168 60).toInt.toNat) := (by have h9 := q_174; rw [show (fv_143 60).toInt.toNat = (fv 60).toInt.toNat from by omega] at h9; exact h9)
                          have q_192 : (fv_168 60).toInt ≤ 2 * (fv_168 62).toInt := (by omega)
                          have q_193 : 0 ≤ (fv_168 63).toInt + (fv_168 62).toInt := (by omega)
                          refine lv_aload_n hx hb dX12_readLine_218 rfl (lv_at hl 2 rfl) ?_
                          refine gM_53 hx hb htg hown hK hP dX12_readLine_219 ?_
                          refine lv_iload_n hx hb dX12_readLine_222 rfl (lv_at hl 0 rfl) ?_
                          refine lv_aload_n hx hb dX12_readLine_223 rfl (lv_at hl 2 rfl) ?_
                          refine gM_60 hx hb htg hown hK hP dX12_readLine_224 ?_
                          have i_194 : 0 ≤ (fv_168 60).toInt ∧ (fv_168 60).toInt ≤ 120 := hF_fv_168 60
                          refine sM_53 hx hb hK hP hS hd (iv_in t_29.2 (by decide) (by decide)) dX12_readLine_227 (fun H locs ar_195 ear_195 hP hS => ?_)
                          have hA_ar_195 : rA ar_195 := rA_put hA_ar_170 ear_195 i_194
                          have hp_196 : vM fv_168 ar_195 := vM_53 p_167 hA_ar_170 ear_195 (by have h58 : (0 : Int) ≤ (fv_168 58).toInt ∧ (fv_168 58).toInt ≤ 10 := hF_fv_168 58; have h57 : (fv_168 58).toInt = (fv 58).toInt := congrArg Int32.toInt ((fr_171 58 rfl).trans ((fr_146 58 rfl).trans ((fr_69 58 rfl).trans ((fr_59 58 rfl).trans ((fr_43 58 rfl).trans ((fr_6 58 rfl))))))); show _ ≤ ((v_28.toInt.toNat : Nat) : Int); omega)
                          have hp_197 : rL fv_168 ar_195 := rL_53 hp_184 ear_195 (by have h57 : (fv_168 59).toInt = (fv 59).toInt := congrArg Int32.toInt ((fr_171 59 rfl).trans ((fr_146 59 rfl).trans ((fr_69 59 rfl).trans ((fr_59 59 rfl).trans ((fr_43 59 rfl).trans ((fr_6 59 rfl))))))); show ((v_28.toInt.toNat : Nat) : Int) < 160 ∨ _ ≤ ((v_28.toInt.toNat : Nat) : Int); omega)
                          refine lv_aload_n hx hb dX12_readLine_228 rfl (lv_at hl 2 rfl) ?_
                          refine lv_dup hx hb dX12_readLine_229 rfl ?_
                          refine gM_59 hx hb htg hown hK hP dX12_readLine_230 ?_
                          refine my_ti (y := fv 59) ((fr_171 59 rfl).trans ((fr_146 59 rfl).trans ((fr_69 59 rfl).trans ((fr_59 59 rfl).trans ((fr_43 59 rfl).trans ((fr_6 59 rfl))))))) ?_
                          refine lv_iconst (v := 1) hx hb dX12_readLine_233 (by decide) ?_
                          refine lv_iadd hx hb dX12_readLine_234 ?_
                          refine lv_topi (fun v_198 ev_198 => ?_)
                          have t_199 : v_198.toInt = (fv 59).toInt + 1 ∧ 1 ≤ v_198.toInt ∧ v_198.toInt ≤ 16 := iv_addc ev_198 i_23 (by decide) (by decide) (by decide)
                          refine pM_59 hx hb htg hown hK hP hS hd dX12_readLine_235 (fun H locs fv_201 efv_201 hP hS => ?_)
                          have hF_fv_201 : rF fv_201 := rF_put hF_fv_168 efv_201 (iv_w t_199.2 (by decide) (by decide))
                          have z_202 : (fv_201 59).toInt = v_198.toInt := congrArg Int32.toInt ((congrFun efv_201 59))
                          have z_203 : 0 ≤ (fv_201 59).toInt ∧ (fv_201 59).toInt ≤ 16 := hF_fv_201 59
                          have z_204 : (fv_201 60).toInt = (fv_168 60).toInt := congrArg Int32.toInt ((congrFun efv_201 60))
                          have z_205 : 0 ≤ (fv_201 60).toInt ∧ (fv_201 60).toInt ≤ 120 := hF_fv_201 60
                          have z_206 : (fv_201 62).toInt = (fv_168 62).toInt := congrArg Int32.toInt ((congrFun efv_201 62))
                          have z_207 : 0 ≤ (fv_201 62).toInt ∧ (fv_201 62).toInt ≤ 50 := hF_fv_201 62
                          have z_208 : (fv_201 63).toInt = (fv_168 63).toInt := congrArg Int32.toInt ((congrFun efv_201 63))
                          have z_209 : (-100) ≤ (fv_201 63).toInt ∧ (fv_201 63).toInt ≤ 10 := hF_fv_201 63
                          have g_210 : ar_195 53 = upd (ar_170 53) (v_28.toInt.toNat) (fv_168 60) := by rw [ear_195]; rfl
                          have g_211 : ar_170 52 (160 + (fv_168 59).toInt.toNat) = (fv 60) := by rw [((fA_call (fA_call (fA_call (fA_call (fA_put (fA_call (fA_rf [51, 54, 55, 56, 57] _) fa_44 (by decide)) ear_52 (by decide)) fa_60 (by decide)) fa_70 (by decide)) fa_147 (by decide)) fa_172 (by decide)) 52 rfl), ear_34]; show upd _ (v_28.toInt.toNat) _ _ = _; rw [show v_28.toInt.toNat = 160 + (fv_168 59).toInt.toNat from by omega]; exact up_eq
                          have hp_212 : rL fv_201 ar_195 := rL_add (i := v_28.toInt.toNat) (x := (fv_168 60)) hp_184 (by omega) (by omega) (by omega) ((fA_put (fA_rf [53] _) ear_195 (by decide)) 54 rfl) ((fA_put (fA_rf [53] _) ear_195 (by decide)) 52 rfl) (by rw [g_210]) (by omega) (by omega) (by rw [g_211]; exact q_191)
                          refine lv_aload_n hx hb dX12_readLine_238 rfl (lv_at hl 2 rfl) ?_
                          refine lv_bipush (v := 59) hx hb dX12_readLine_239 (by decide) ?_
                          refine va_calli (va_runV (As := [.int 59]) (rest := []) ⟨hx, hb, hml, hown, hts⟩ (m_isSign l dC dI H.size h ad cA hd fv_201 wd_169 ar_195 hF_fv_201 hA_ar_195 59) (cwV 1 hts (gV kw_8_117 kw_8_119 kw_p_74 kw_1_15 kw_8_120) rfl rfl rfl (by decide +kernel) ⟨Nat.le_of_ble_eq_true rfl, Nat.le_of_ble_eq_true rfl⟩) ⟨fun a U g mk q => ⟨q.1, q.2.1, q.2.2.1, va_K.moved (u := U) (U := U.calling g mk a) (Vm.Alike.refl U.vm) q.2.2.2⟩, va_recv hK hP (ci := 12) (q0 := 0) rfl rfl, fun U hU hW => ⟨rfl, by rw [hU], by rw [hU]; exact hP, va_K.moved hW.alike hK⟩⟩ rfl rfl hl.1 rfl (lv_room (Nat.le_of_ble_eq_true rfl)) dX12_readLine_241 ⟨Nat.le_of_ble_eq_true rfl, Nat.le_of_ble_eq_true rfl⟩) hS (fun q _ h9 => aM_up hS q h9) (aM_up hS) (fun r_213 u t H1 locs ht _ hw hB _ hk1 hS => ?_)
                          obtain ⟨fv_215, wd_216, ar_217⟩ := u
                          obtain ⟨hF_fv_215, hA_ar_217, fr_218, fa_219, p_214, -⟩ := hw
                          have hP : va_P (dC, dI) vwCl (wsM h ad cA fv_215 wd_216 ar_217) H1 := by have h9 := hB.1; rw [ht] at h9; exact h9
                          have fr_218 : fM [] fv_201 fv_215 := fr_218
                          have fa_219 : fA [] ar_195 ar_217 := fa_219
                          generalize H1 = H at hP hS ⊢
                          refine lv_if_ne (tgt := 255) hx hb dX12_readLine_244 (by decide) (fun c_220 => ?_) (fun c_220 => ?_)
                          · skip
                            have i_221 : 1 ≤ r_213.toInt ∧ r_213.toInt ≤ 1 := iv_nel p_214 (by decide) c_220
                            have k_222 : ¬ r_213.toInt = 0 := fun q => c_220 (Int32.toInt_inj.mp q)
                            refine lv_iconst (v := 1) hx hb dX12_readLine_255 (by decide) ?_
                            refine lv_goto (tgt := 260) hx hb dX12_readLine_256 (by decide) ?_
                            have z_223 : (fv_215 59).toInt = v_198.toInt := congrArg Int32.toInt ((fr_218 59 rfl).trans ((congrFun efv_201 59)))
                            have z_224 : 0 ≤ (fv_215 59).toInt ∧ (fv_215 59).toInt ≤ 16 := hF_fv_215 59
                            have z_225 : (fv_215 60).toInt = (fv_168 60).toInt := congrArg Int32.toInt ((fr_218 60 rfl).trans ((congrFun efv_201 60)))
                            have z_226 : 0 ≤ (fv_215 60).toInt ∧ (fv_215 60).toInt ≤ 120 := hF_fv_215 60
                            have z_227 : (fv_215 62).toInt = (fv_168 62).toInt := congrArg Int32.toInt ((fr_218 62 rfl).trans ((congrFun efv_201 62)))
                            have z_228 : 0 ≤ (fv_215 62).toInt ∧ (fv_215 62).toInt ≤ 50 := hF_fv_215 62
                            have z_229 : (fv_215 63).toInt = (fv_168 63).toInt := congrArg Int32.toInt ((fr_218 63 rfl).trans ((congrFun efv_201 63)))
                            have z_230 : (-100) ≤ (fv_215 63).toInt ∧ (fv_215 63).toInt ≤ 10 := hF_fv_215 63
                            exact W.zret (v := 1) hx hb hr (by decide) (fun t ht hW => ⟨⟨1, (fv_215, wd_216, ar_217), rfl, ⟨hF_fv_215, hA_ar_217, (fM_call (fM_put (fM_call (fM_call (fM_call (fM_call (fM_call (fM_call (fM_rf [38, 39, 40, 41, 42, 43, 44, 45, 59, 60, 61, 62, 63] _) fr_6 (by decide)) fr_43 (by decide)) fr_59 (by decide)) fr_69 (by decide)) fr_146 (by decide)) fr_171 (by decide)) efv_201 (by decide)) fr_218 (by decide)), (fA_call (fA_put (fA_call (fA_call (fA_call (fA_call (fA_put (fA_call (fA_put (fA_put (fA_put (fA_call (fA_rf [48, 50, 51, 52, 53, 54, 55, 56, 57] _) fa_7 (by decide)) ear_31 (by decide)) ear_32 (by decide)) ear_34 (by decide)) fa_44 (by decide)) ear_52 (by decide)) fa_60 (by decide)) fa_70 (by decide)) fa_147 (by decide)) fa_172 (by decide)) ear_195 (by decide)) fa_219 (by decide)), (iv_w (⟨by decide, by decide⟩ : (1 : Int) ≤ (1 : Int32).toInt ∧ (1 : Int32).toInt ≤ 1) (by decide) (by decide)), (Or.inr (⟨rfl, ⟨(rL_fr hp_212 (fM_call (fM_rf [] _) fr_218 (by decide)) (fA_call (fA_rf [] _) fa_219 (by decide)) rfl rfl rfl rfl rfl), show (fv_215 60).toInt ≤ 2 * (fv_215 62).toInt from by omega, show 0 ≤ (fv_215 63).toInt + (fv_215 62).toInt from by omega, show (fv_215 59).toInt = (fv 59).toInt + 1 from by omega⟩⟩)), (vM_fr hp_196 (fM_call (fM_put (fM_rf [59] _) efv_201 (by decide)) fr_218 (by decide)) (fA_call (fA_rf [] _) fa_219 (by decide)) rfl rfl rfl rfl rfl), trivial⟩, ⟨by rw [ht]; exact hP, va_K.moved hW.alike hK⟩⟩, hS.F ht⟩) hS.2.2 dX12_readLine_260
                          · skip
                            have i_231 : 0 ≤ r_213.toInt ∧ r_213.toInt ≤ 0 := iv_eq1 (⟨by decide, by decide⟩ : (0 : Int) ≤ (0 : Int32).toInt ∧ (0 : Int32).toInt ≤ 0) c_220
                            refine lv_aload_n hx hb dX12_readLine_247 rfl (lv_at hl 2 rfl) ?_
                            refine lv_iconst (v := 1) hx hb dX12_readLine_248 (by decide) ?_
                            refine va_calli (va_runV (As := [.int 1]) (rest := []) ⟨hx, hb, hml, hown, hts⟩ (m_bad l dC dI H.size h ad cA hd fv_215 wd_216 ar_217 hF_fv_215 hA_ar_217 1) (cwV 1 hts (gV kw_8_94 kw_8_96 kw_p_69 kw_1_15 kw_8_97) rfl rfl rfl (by decide +kernel) ⟨Nat.le_of_ble_eq_true rfl, Nat.le_of_ble_eq_true rfl⟩) ⟨fun a U g mk q => ⟨q.1, q.2.1, q.2.2.1, va_K.moved (u := U) (U := U.calling g mk a) (Vm.Alike.refl U.vm) q.2.2.2⟩, va_recv hK hP (ci := 12) (q0 := 0) rfl rfl, fun U hU hW => ⟨rfl, by rw [hU], by rw [hU]; exact hP, va_K.moved hW.alike hK⟩⟩ rfl rfl hl.1 rfl (lv_room (Nat.le_of_ble_eq_true rfl)) dX12_readLine_249 ⟨Nat.le_of_ble_eq_true rfl, Nat.le_of_ble_eq_true rfl⟩) hS (fun q _ h9 => aM_up hS q h9) (aM_up hS) (fun r_233 u t H1 locs ht _ hw hB _ hk1 hS => ?_)
                            obtain ⟨fv_236, wd_237, ar_238⟩ := u
                            obtain ⟨hF_fv_236, hA_ar_238, fr_239, fa_240, p_234, p_235, -⟩ := hw
                            have hP : va_P (dC, dI) vwCl (wsM h ad cA fv_236 wd_237 ar_238) H1 := by have h9 := hB.1; rw [ht] at h9; exact h9
                            have fr_239 : fM [43, 44] fv_215 fv_236 := fr_239
                            have fa_240 : fA [] ar_217 ar_238 := fa_240
                            generalize H1 = H at hP hS ⊢
                            rcases p_235 with ⟨rfl, p_235⟩
                            · skip
                              refine lv_if_eq (tgt := 259) hx hb dX12_readLine_252 (by decide) (fun c_241 => ?_) (fun c_241 => ?_)
                              · skip
                                refine lv_iconst (v := 0) hx hb dX12_readLine_259 (by decide) ?_
                                have z_242 : (fv_236 59).toInt = v_198.toInt := congrArg Int32.toInt ((fr_239 59 rfl).trans ((fr_218 59 rfl).trans ((congrFun efv_201 59))))
                                have z_243 : 0 ≤ (fv_236 59).toInt ∧ (fv_236 59).toInt ≤ 16 := hF_fv_236 59
                                have z_244 : (fv_236 60).toInt = (fv_168 60).toInt := congrArg Int32.toInt ((fr_239 60 rfl).trans ((fr_218 60 rfl).trans ((congrFun efv_201 60))))
                                have z_245 : 0 ≤ (fv_236 60).toInt ∧ (fv_236 60).toInt ≤ 120 := hF_fv_236 60
                                have z_246 : (fv_236 62).toInt = (fv_168 62).toInt := congrArg Int32.toInt ((fr_239 62 rfl).trans ((fr_218 62 rfl).trans ((congrFun efv_201 62))))
                                have z_247 : 0 ≤ (fv_236 62).toInt ∧ (fv_236 62).toInt ≤ 50 := hF_fv_236 62
                                have z_248 : (fv_236 63).toInt = (fv_168 63).toInt := congrArg Int32.toInt ((fr_239 63 rfl).trans ((fr_218 63 rfl).trans ((congrFun efv_201 63))))
                                have z_249 : (-100) ≤ (fv_236 63).toInt ∧ (fv_236 63).toInt ≤ 10 := hF_fv_236 63
                                exact W.zret (v := 0) hx hb hr (by decide) (fun t ht hW => ⟨⟨0, (fv_236, wd_237, ar_238), rfl, ⟨hF_fv_236, hA_ar_238, (fM_call (fM_call (fM_put (fM_call (fM_call (fM_call (fM_call (fM_call (fM_call (fM_rf [38, 39, 40, 41, 42, 43, 44, 45, 59, 60, 61, 62, 63] _) fr_6 (by decide)) fr_43 (by decide)) fr_59 (by decide)) fr_69 (by decide)) fr_146 (by decide)) fr_171 (by decide)) efv_201 (by decide)) fr_218 (by decide)) fr_239 (by decide)), (fA_call (fA_call (fA_put (fA_call (fA_call (fA_call (fA_call (fA_put (fA_call (fA_put (fA_put (fA_put (fA_call (fA_rf [48, 50, 51, 52, 53, 54, 55, 56, 57] _) fa_7 (by decide)) ear_31 (by decide)) ear_32 (by decide)) ear_34 (by decide)) fa_44 (by decide)) ear_52 (by decide)) fa_60 (by decide)) fa_70 (by decide)) fa_147 (by decide)) fa_172 (by decide)) ear_195 (by decide)) fa_219 (by decide)) fa_240 (by decide)), (iv_w (⟨by decide, by decide⟩ : (0 : Int) ≤ (0 : Int32).toInt ∧ (0 : Int32).toInt ≤ 0) (by decide) (by decide)), (Or.inl ⟨rfl, trivial⟩), (vM_fr hp_196 (fM_call (fM_call (fM_put (fM_rf [43, 44, 59] _) efv_201 (by decide)) fr_218 (by decide)) fr_239 (by decide)) (fA_call (fA_call (fA_rf [] _) fa_219 (by decide)) fa_240 (by decide)) rfl rfl rfl rfl rfl), trivial⟩, ⟨by rw [ht]; exact hP, va_K.moved hW.alike hK⟩⟩, hS.F ht⟩) hS.2.2 dX12_readLine_260
                              · skip
                                exact absurd c_241 (by decide)
                        · skip
                          exact absurd c_185 (by decide)
                · skip
                  exact absurd True.intro (by have h7 := i_46; have h8 := (⟨by decide, by decide⟩ : (6 : Int) ≤ (6 : Int32).toInt ∧ (6 : Int32).toInt ≤ 6); have h9 := congrArg Int32.toInt c_53; exfalso; omega)
              · skip
                have i_250 : 2001 ≤ (fv_40 41).toInt ∧ (fv_40 41).toInt ≤ 2147483647 := iv_lt2 (⟨by decide, by decide⟩ : (2000 : Int) ≤ (2000 : Int32).toInt ∧ (2000 : Int32).toInt ≤ 2000) (iv_any (fv_40 41)) (Int32.not_le.mp c_50)
                refine lv_aload_n hx hb dX12_readLine_145 rfl (lv_at hl 2 rfl) ?_
                refine lv_iconst (v := 2) hx hb dX12_readLine_146 (by decide) ?_
                refine va_calli (va_runV (As := [.int 2]) (rest := []) ⟨hx, hb, hml, hown, hts⟩ (m_bad l dC dI H.size h ad cA hd fv_40 wd_41 ar_42 hF_fv_40 hA_ar_42 2) (cwV 1 hts (gV kw_8_94 kw_8_96 kw_p_69 kw_1_15 kw_8_97) rfl rfl rfl (by decide +kernel) ⟨Nat.le_of_ble_eq_true rfl, Nat.le_of_ble_eq_true rfl⟩) ⟨fun a U g mk q => ⟨q.1, q.2.1, q.2.2.1, va_K.moved (u := U) (U := U.calling g mk a) (Vm.Alike.refl U.vm) q.2.2.2⟩, va_recv hK hP (ci := 12) (q0 := 0) rfl rfl, fun U hU hW => ⟨rfl, by rw [hU], by rw [hU]; exact hP, va_K.moved hW.alike hK⟩⟩ rfl rfl hl.1 rfl (lv_room (Nat.le_of_ble_eq_true rfl)) dX12_readLine_147 ⟨Nat.le_of_ble_eq_true rfl, Nat.le_of_ble_eq_true rfl⟩) hS (fun q _ h9 => aM_up hS q h9) (aM_up hS) (fun r_251 u t H1 locs ht _ hw hB _ hk1 hS => ?_)
                obtain ⟨fv_254, wd_255, ar_256⟩ := u
                obtain ⟨hF_fv_254, hA_ar_256, fr_257, fa_258, p_252, p_253, -⟩ := hw
                have hP : va_P (dC, dI) vwCl (wsM h ad cA fv_254 wd_255 ar_256) H1 := by have h9 := hB.1; rw [ht] at h9; exact h9
                have fr_257 : fM [43, 44] fv_40 fv_254 := fr_257
                have fa_258 : fA [] ar_42 ar_256 := fa_258
                generalize H1 = H at hP hS ⊢
                rcases p_253 with ⟨rfl, p_253⟩
                · skip
                  exact W.zret (v := 0) hx hb hr (by decide) (fun t ht hW => ⟨⟨0, (fv_254, wd_255, ar_256), rfl, ⟨hF_fv_254, hA_ar_256, (fM_call (fM_call (fM_call (fM_rf [38, 39, 40, 41, 42, 43, 44, 45, 59, 60, 61, 62, 63] _) fr_6 (by decide)) fr_43 (by decide)) fr_257 (by decide)), (fA_call (fA_call (fA_put (fA_put (fA_put (fA_call (fA_rf [48, 50, 51, 52, 53, 54, 55, 56, 57] _) fa_7 (by decide)) ear_31 (by decide)) ear_32 (by decide)) ear_34 (by decide)) fa_44 (by decide)) fa_258 (by decide)), (iv_w (⟨by decide, by decide⟩ : (0 : Int) ≤ (0 : Int32).toInt ∧ (0 : Int32).toInt ≤ 0) (by decide) (by decide)), (Or.inl ⟨rfl, trivial⟩), (vM_fr hp_35 (fM_call (fM_call (fM_rf [38, 39, 40, 41, 42, 43, 44] _) fr_43 (by decide)) fr_257 (by decide)) (fA_call (fA_call (fA_rf [] _) fa_44 (by decide)) fa_258 (by decide)) rfl rfl rfl rfl rfl), trivial⟩, ⟨by rw [ht]; exact hP, va_K.moved hW.alike hK⟩⟩, hS.F ht⟩) hS.2.2 dX12_readLine_150
            · skip
              have k_259 : ¬ (fv_40 40).toInt = 3 := fun q => c_47 (Int32.toInt_inj.mp q)
              refine lv_aload_n hx hb dX12_readLine_129 rfl (lv_at hl 2 rfl) ?_
              refine lv_iconst (v := 1) hx hb dX12_readLine_130 (by decide) ?_
              refine va_calli (va_runV (As := [.int 1]) (rest := []) ⟨hx, hb, hml, hown, hts⟩ (m_bad l dC dI H.size h ad cA hd fv_40 wd_41 ar_42 hF_fv_40 hA_ar_42 1) (cwV 1 hts (gV kw_8_94 kw_8_96 kw_p_69 kw_1_15 kw_8_97) rfl rfl rfl (by decide +kernel) ⟨Nat.le_of_ble_eq_true rfl, Nat.le_of_ble_eq_true rfl⟩) ⟨fun a U g mk q => ⟨q.1, q.2.1, q.2.2.1, va_K.moved (u := U) (U := U.calling g mk a) (Vm.Alike.refl U.vm) q.2.2.2⟩, va_recv hK hP (ci := 12) (q0 := 0) rfl rfl, fun U hU hW => ⟨rfl, by rw [hU], by rw [hU]; exact hP, va_K.moved hW.alike hK⟩⟩ rfl rfl hl.1 rfl (lv_room (Nat.le_of_ble_eq_true rfl)) dX12_readLine_131 ⟨Nat.le_of_ble_eq_true rfl, Nat.le_of_ble_eq_true rfl⟩) hS (fun q _ h9 => aM_up hS q h9) (aM_up hS) (fun r_260 u t H1 locs ht _ hw hB _ hk1 hS => ?_)
              obtain ⟨fv_263, wd_264, ar_265⟩ := u
              obtain ⟨hF_fv_263, hA_ar_265, fr_266, fa_267, p_261, p_262, -⟩ := hw
              have hP : va_P (dC, dI) vwCl (wsM h ad cA fv_263 wd_264 ar_265) H1 := by have h9 := hB.1; rw [ht] at h9; exact h9
              have fr_266 : fM [43, 44] fv_40 fv_263 := fr_266
              have fa_267 : fA [] ar_42 ar_265 := fa_267
              generalize H1 = H at hP hS ⊢
              rcases p_262 with ⟨rfl, p_262⟩
              · skip
                exact W.zret (v := 0) hx hb hr (by decide) (fun t ht hW => ⟨⟨0, (fv_263, wd_264, ar_265), rfl, ⟨hF_fv_263, hA_ar_265, (fM_call (fM_call (fM_call (fM_rf [38, 39, 40, 41, 42, 43, 44, 45, 59, 60, 61, 62, 63] _) fr_6 (by decide)) fr_43 (by decide)) fr_266 (by decide)), (fA_call (fA_call (fA_put (fA_put (fA_put (fA_call (fA_rf [48, 50, 51, 52, 53, 54, 55, 56, 57] _) fa_7 (by decide)) ear_31 (by decide)) ear_32 (by decide)) ear_34 (by decide)) fa_44 (by decide)) fa_267 (by decide)), (iv_w (⟨by decide, by decide⟩ : (0 : Int) ≤ (0 : Int32).toInt ∧ (0 : Int32).toInt ≤ 0) (by decide) (by decide)), (Or.inl ⟨rfl, trivial⟩), (vM_fr hp_35 (fM_call (fM_call (fM_rf [38, 39, 40, 41, 42, 43, 44] _) fr_43 (by decide)) fr_266 (by decide)) (fA_call (fA_call (fA_rf [] _) fa_44 (by decide)) fa_267 (by decide)) rfl rfl rfl rfl rfl), trivial⟩, ⟨by rw [ht]; exact hP, va_K.moved hW.alike hK⟩⟩, hS.F ht⟩) hS.2.2 dX12_readLine_134
          · skip
            have i_268 : 0 ≤ r_1.toInt ∧ r_1.toInt ≤ 1 := iv_lt1 i_26 (⟨by decide, by decide⟩ : (2 : Int) ≤ (2 : Int32).toInt ∧ (2 : Int32).toInt ≤ 2) (Int32.not_le.mp c_45)
            refine lv_aload_n hx hb dX12_readLine_100 rfl (lv_at hl 2 rfl) ?_
            refine va_calli (va_runV (As := []) (rest := []) ⟨hx, hb, hml, hown, hts⟩ (m_isNot l dC dI H.size h ad cA hd fv_40 wd_41 ar_42 hF_fv_40 hA_ar_42) (cwV 0 hts (gV kw_8_98 kw_8_100 kw_p_70 kw_1_15 kw_8_101) rfl rfl rfl (by decide +kernel) ⟨Nat.le_of_ble_eq_true rfl, Nat.le_of_ble_eq_true rfl⟩) ⟨fun a U g mk q => ⟨q.1, q.2.1, q.2.2.1, va_K.moved (u := U) (U := U.calling g mk a) (Vm.Alike.refl U.vm) q.2.2.2⟩, va_recv hK hP (ci := 12) (q0 := 0) rfl rfl, fun U hU hW => ⟨rfl, by rw [hU], by rw [hU]; exact hP, va_K.moved hW.alike hK⟩⟩ rfl rfl hl.1 rfl (lv_room (Nat.le_of_ble_eq_true rfl)) dX12_readLine_101 ⟨Nat.le_of_ble_eq_true rfl, Nat.le_of_ble_eq_true rfl⟩) hS (fun q _ h9 => aM_up hS q h9) (aM_up hS) (fun r_269 u t H1 locs ht _ hw hB _ hk1 hS => ?_)
            obtain ⟨fv_271, wd_272, ar_273⟩ := u
            obtain ⟨hF_fv_271, hA_ar_273, fr_274, fa_275, p_270, -⟩ := hw
            have hP : va_P (dC, dI) vwCl (wsM h ad cA fv_271 wd_272 ar_273) H1 := by have h9 := hB.1; rw [ht] at h9; exact h9
            have fr_274 : fM [] fv_40 fv_271 := fr_274
            have fa_275 : fA [] ar_42 ar_273 := fa_275
            generalize H1 = H at hP hS ⊢
            refine my_cut (P := fun R9 a9 Q9 => ∀ (fv_288 : Nat → Int32) (ar_290 : Nat → Nat → Int32) (wd_292 : Int64) (H : Heap) (locs : List Loc) (ls : Array Slot), rF fv_288 → fM [38, 39, 40, 41, 42] fv_271 fv_288 → rA ar_290 → fA [51] ar_273 ar_290 → rL fv_288 ar_290 → vM fv_288 ar_290 → va_P (dC, dI) vwCl (wsM h ad cA fv_288 wd_292 ar_290) H → va_S (aM h ad s.heap.size) s.heap H locs → lv_has ls 3 [(0, .ref h), (1, .int r_1), (2, .int v_28)] → W p l e R9 s m a9 below meth c H locs 0 0 Q9 (F0 m 182 ls [])) ?_ (fun hj_295 => ?_)
            · intro fv_288 ar_290 wd_292 H locs ls hF_fv_288 fr_289 hA_ar_290 fa_291 hp_293 hp_294 hP hS hl
              refine lv_iload_n hx hb dX12_readLine_182 rfl (lv_at hl 1 rfl) ?_
              refine lv_bipush (v := 6) hx hb dX12_readLine_183 (by decide) ?_
              refine lv_icmp_eq (tgt := 218) hx hb dX12_readLine_185 (by decide) (fun c_296 => ?_) (fun c_296 => ?_)
              · skip
                exact absurd True.intro (by have h7 := i_268; have h8 := (⟨by decide, by decide⟩ : (6 : Int) ≤ (6 : Int32).toInt ∧ (6 : Int32).toInt ≤ 6); have h9 := congrArg Int32.toInt c_296; exfalso; omega)
              · skip
                have k_297 : ¬ r_1.toInt = 6 := fun q => c_296 (Int32.toInt_inj.mp q)
                refine lv_aload_n hx hb dX12_readLine_188 rfl (lv_at hl 0 rfl) ?_
                refine lv_bipush (v := 105) hx hb dX12_readLine_189 (by decide) ?_
                refine lv_bipush (v := 102) hx hb dX12_readLine_191 (by decide) ?_
                refine lv_iconst (v := 0) hx hb dX12_readLine_193 (by decide) ?_
                refine lv_iconst (v := 0) hx hb dX12_readLine_194 (by decide) ?_
                refine lv_iconst (v := 0) hx hb dX12_readLine_195 (by decide) ?_
                refine va_calll (va_runS (As := [.int 105, .int 102, .int 0, .int 0, .int 0]) (rest := [.ref h]) ⟨hx, hb, hml, hown, hts⟩ (m_spelt l H.size 105 102 0 0 0) (va_cwS 5 hts (gS kw_8_87 kw_8_88 kw_1_15 kw_8_89) rfl rfl rfl (by decide +kernel) ⟨Nat.le_of_ble_eq_true rfl, Nat.le_of_ble_eq_true rfl⟩) ⟨fun a U g mk q => ⟨q.1, q.2⟩, fun U hU hW => ⟨rfl, congrArg Array.size hU⟩⟩ rfl rfl hl.1 rfl (lv_room (Nat.le_of_ble_eq_true rfl)) dX12_readLine_196 ⟨Nat.le_of_ble_eq_true rfl, Nat.le_of_ble_eq_true rfl⟩) hS (fun q _ h9 => nM_up hS q h9) (nM_up hS) (fun r_298 u t H1 locs ht _ hw hB _ hk1 hS => ?_)
                have hP := my_keepM hP hk1
                generalize H1 = H at hP hS ⊢
                refine va_calli (va_runV (As := [.long r_298]) (rest := []) ⟨hx, hb, hml, hown, hts⟩ (m_isKey l dC dI H.size h ad cA hd fv_288 wd_292 ar_290 hF_fv_288 hA_ar_290 r_298) (cwV 1 hts (gV kw_8_90 kw_8_92 kw_p_68 kw_1_15 kw_8_93) rfl rfl rfl (by decide +kernel) ⟨Nat.le_of_ble_eq_true rfl, Nat.le_of_ble_eq_true rfl⟩) ⟨fun a U g mk q => ⟨q.1, q.2.1, q.2.2.1, va_K.moved (u := U) (U := U.calling g mk a) (Vm.Alike.refl U.vm) q.2.2.2⟩, va_recv hK hP (ci := 12) (q0 := 0) rfl rfl, fun U hU hW => ⟨rfl, by rw [hU], by rw [hU]; exact hP, va_K.moved hW.alike hK⟩⟩ rfl rfl hl.1 rfl (lv_room (Nat.le_of_ble_eq_true rfl)) dX12_readLine_199 ⟨Nat.le_of_ble_eq_true rfl, Nat.le_of_ble_eq_true rfl⟩) hS (fun q _ h9 => aM_up hS q h9) (aM_up hS) (fun r_299 u t H1 locs ht _ hw hB _ hk1 hS => ?_)
                obtain ⟨fv_301, wd_302, ar_303⟩ := u
                obtain ⟨hF_fv_301, hA_ar_303, fr_304, fa_305, p_300, -⟩ := hw
                have hP : va_P (dC, dI) vwCl (wsM h ad cA fv_301 wd_302 ar_303) H1 := by have h9 := hB.1; rw [ht] at h9; exact h9
                have fr_304 : fM [] fv_288 fv_301 := fr_304
                have fa_305 : fA [] ar_290 ar_303 := fa_305
                generalize H1 = H at hP hS ⊢
                refine lv_if_eq (tgt := 218) hx hb dX12_readLine_202 (by decide) (fun c_306 => ?_) (fun c_306 => ?_)
                · skip
                  have i_307 : 0 ≤ r_299.toInt ∧ r_299.toInt ≤ 0 := iv_eq1 (⟨by decide, by decide⟩ : (0 : Int) ≤ (0 : Int32).toInt ∧ (0 : Int32).toInt ≤ 0) c_306
                  have z_309 : (fv_301 59).toInt = (fv 59).toInt := congrArg Int32.toInt ((fr_304 59 rfl).trans ((fr_289 59 rfl).trans ((fr_274 59 rfl).trans ((fr_43 59 rfl).trans ((fr_6 59 rfl))))))
                  have z_310 : 0 ≤ (fv_301 59).toInt ∧ (fv_301 59).toInt ≤ 16 := hF_fv_301 59
                  have z_311 : (fv_301 60).toInt = (fv 60).toInt := congrArg Int32.toInt ((fr_304 60 rfl).trans ((fr_289 60 rfl).trans ((fr_274 60 rfl).trans ((fr_43 60 rfl).trans ((fr_6 60 rfl))))))
                  have z_312 : 0 ≤ (fv_301 60).toInt ∧ (fv_301 60).toInt ≤ 120 := hF_fv_301 60
                  have z_313 : (fv_301 62).toInt = (fv 62).toInt := congrArg Int32.toInt ((fr_304 62 rfl).trans ((fr_289 62 rfl).trans ((fr_274 62 rfl).trans ((fr_43 62 rfl).trans ((fr_6 62 rfl))))))
                  have z_314 : 0 ≤ (fv_301 62).toInt ∧ (fv_301 62).toInt ≤ 50 := hF_fv_301 62
                  have z_315 : (fv_301 63).toInt = (fv 63).toInt := congrArg Int32.toInt ((fr_304 63 rfl).trans ((fr_289 63 rfl).trans ((fr_274 63 rfl).trans ((fr_43 63 rfl).trans ((fr_6 63 rfl))))))
                  have z_316 : (-100) ≤ (fv_301 63).toInt ∧ (fv_301 63).toInt ≤ 10 := hF_fv_301 63
                  have q_317 : vP (ar_303 54) (1200 + (fv 60).toInt.toNat) (1200 + (fv_301 60).toInt.toNat) := (by rw [show (fv_301 60).toInt.toNat = (fv 60).toInt.toNat from by omega]; exact vP_nil _ _)
                  have q_318 : (fv_301 60).toInt ≤ 2 * (fv_301 62).toInt := (by omega)
                  have q_319 : 0 ≤ (fv_301 63).toInt + (fv_301 62).toInt := (by omega)
                  refine lv_aload_n hx hb dX12_readLine_218 rfl (lv_at hl 0 rfl) ?_
                  refine gM_53 hx hb htg hown hK hP dX12_readLine_219 ?_
                  refine lv_iload_n hx hb dX12_readLine_222 rfl (lv_at hl 2 rfl) ?_
                  refine lv_aload_n hx hb dX12_readLine_223 rfl (lv_at hl 0 rfl) ?_
                  refine gM_60 hx hb htg hown hK hP dX12_readLine_224 ?_
                  refine my_ti (y := fv 60) ((fr_304 60 rfl).trans ((fr_289 60 rfl).trans ((fr_274 60 rfl).trans ((fr_43 60 rfl).trans ((fr_6 60 rfl)))))) ?_
                  refine sM_53 hx hb hK hP hS hd (iv_in t_29.2 (by decide) (by decide)) dX12_readLine_227 (fun H locs ar_320 ear_320 hP hS => ?_)
                  have hA_ar_320 : rA ar_320 := rA_put hA_ar_303 ear_320 i_33
                  have hp_321 : vM fv_301 ar_320 := vM_53 (vM_fr hp_294 (fM_call (fM_rf [] _) fr_304 (by decide)) (fA_call (fA_rf [] _) fa_305 (by decide)) rfl rfl rfl rfl rfl) hA_ar_303 ear_320 (by have h58 : (0 : Int) ≤ (fv_301 58).toInt ∧ (fv_301 58).toInt ≤ 10 := hF_fv_301 58; have h57 : (fv_301 58).toInt = (fv 58).toInt := congrArg Int32.toInt ((fr_304 58 rfl).trans ((fr_289 58 rfl).trans ((fr_274 58 rfl).trans ((fr_43 58 rfl).trans ((fr_6 58 rfl)))))); show _ ≤ ((v_28.toInt.toNat : Nat) : Int); omega)
                  have hp_322 : rL fv_301 ar_320 := rL_53 (rL_fr hp_293 (fM_call (fM_rf [] _) fr_304 (by decide)) (fA_call (fA_rf [] _) fa_305 (by decide)) rfl rfl rfl rfl rfl) ear_320 (by have h57 : (fv_301 59).toInt = (fv 59).toInt := congrArg Int32.toInt ((fr_304 59 rfl).trans ((fr_289 59 rfl).trans ((fr_274 59 rfl).trans ((fr_43 59 rfl).trans ((fr_6 59 rfl)))))); show ((v_28.toInt.toNat : Nat) : Int) < 160 ∨ _ ≤ ((v_28.toInt.toNat : Nat) : Int); omega)
                  refine lv_aload_n hx hb dX12_readLine_228 rfl (lv_at hl 0 rfl) ?_
                  refine lv_dup hx hb dX12_readLine_229 rfl ?_
                  refine gM_59 hx hb htg hown hK hP dX12_readLine_230 ?_
                  refine my_ti (y := fv 59) ((fr_304 59 rfl).trans ((fr_289 59 rfl).trans ((fr_274 59 rfl).trans ((fr_43 59 rfl).trans ((fr_6 59 rfl)))))) ?_
                  refine lv_iconst (v := 1) hx hb dX12_readLine_233 (by decide) ?_
                  refine lv_iadd hx hb dX12_readLine_234 ?_
                  refine lv_topi (fun v_323 ev_323 => ?_)
                  have t_324 : v_323.toInt = (fv 59).toInt + 1 ∧ 1 ≤ v_323.toInt ∧ v_323.toInt ≤ 16 := iv_addc ev_323 i_23 (by decide) (by decide) (by decide)
                  refine pM_59 hx hb htg hown hK hP hS hd dX12_readLine_235 (fun H locs fv_326 efv_326 hP hS => ?_)
                  have hF_fv_326 : rF fv_326 := rF_put hF_fv_301 efv_326 (iv_w t_324.2 (by decide) (by decide))
                  have z_327 : (fv_326 59).toInt = v_323.toInt := congrArg Int32.toInt ((congrFun efv_326 59))
                  have z_328 : 0 ≤ (fv_326 59).toInt ∧ (fv_326 59).toInt ≤ 16 := hF_fv_326 59
                  have z_329 : (fv_326 60).toInt = (fv 60).toInt := congrArg Int32.toInt ((congrFun efv_326 60).trans ((fr_304 60 rfl).trans ((fr_289 60 rfl).trans ((fr_274 60 rfl).trans ((fr_43 60 rfl).trans ((fr_6 60 rfl)))))))
                  have z_330 : 0 ≤ (fv_326 60).toInt ∧ (fv_326 60).toInt ≤ 120 := hF_fv_326 60
                  have z_331 : (fv_326 62).toInt = (fv 62).toInt := congrArg Int32.toInt ((congrFun efv_326 62).trans ((fr_304 62 rfl).trans ((fr_289 62 rfl).trans ((fr_274 62 rfl).trans ((fr_43 62 rfl).trans ((fr_6 62 rfl)))))))
                  have z_332 : 0 ≤ (fv_326 62).toInt ∧ (fv_326 62).toInt ≤ 50 := hF_fv_326 62
                  have z_333 : (fv_326 63).toInt = (fv 63).toInt := congrArg Int32.toInt ((congrFun efv_326 63).trans ((fr_304 63 rfl).trans ((fr_289 63 rfl).trans ((fr_274 63 rfl).trans ((fr_43 63 rfl).trans ((fr_6 63 rfl)))))))
                  have z_334 : (-100) ≤ (fv_326 63).toInt ∧ (fv_326 63).toInt ≤ 10 := hF_fv_326 63
                  have g_335 : ar_320 53 = upd (ar_303 53) (v_28.toInt.toNat) (fv 60) := by rw [ear_320]; rfl
                  have g_336 : ar_303 52 (160 + (fv_301 59).toInt.toNat) = (fv 60) := by rw [((fA_call (fA_call (fA_call (fA_call (fA_rf [51] _) fa_44 (by decide)) fa_275 (by decide)) fa_291 (by decide)) fa_305 (by decide)) 52 rfl), ear_34]; show upd _ (v_28.toInt.toNat) _ _ = _; rw [show v_28.toInt.toNat = 160 + (fv_301 59).toInt.toNat from by omega]; exact up_eq
                  have hp_337 : rL fv_326 ar_320 := rL_add (i := v_28.toInt.toNat) (x := (fv 60)) (rL_fr hp_293 (fM_call (fM_rf [] _) fr_304 (by decide)) (fA_call (fA_rf [] _) fa_305 (by decide)) rfl rfl rfl rfl rfl) (by omega) (by omega) (by omega) ((fA_put (fA_rf [53] _) ear_320 (by decide)) 54 rfl) ((fA_put (fA_rf [53] _) ear_320 (by decide)) 52 rfl) (by rw [g_335]) (by omega) (by omega) (by rw [g_336]; exact q_317)
                  refine lv_aload_n hx hb dX12_readLine_238 rfl (lv_at hl 0 rfl) ?_
                  refine lv_bipush (v := 59) hx hb dX12_readLine_239 (by decide) ?_
                  refine va_calli (va_runV (As := [.int 59]) (rest := []) ⟨hx, hb, hml, hown, hts⟩ (m_isSign l dC dI H.size h ad cA hd fv_326 wd_302 ar_320 hF_fv_326 hA_ar_320 59) (cwV 1 hts (gV kw_8_117 kw_8_119 kw_p_74 kw_1_15 kw_8_120) rfl rfl rfl (by decide +kernel) ⟨Nat.le_of_ble_eq_true rfl, Nat.le_of_ble_eq_true rfl⟩) ⟨fun a U g mk q => ⟨q.1, q.2.1, q.2.2.1, va_K.moved (u := U) (U := U.calling g mk a) (Vm.Alike.refl U.vm) q.2.2.2⟩, va_recv hK hP (ci := 12) (q0 := 0) rfl rfl, fun U hU hW => ⟨rfl, by rw [hU], by rw [hU]; exact hP, va_K.moved hW.alike hK⟩⟩ rfl rfl hl.1 rfl (lv_room (Nat.le_of_ble_eq_true rfl)) dX12_readLine_241 ⟨Nat.le_of_ble_eq_true rfl, Nat.le_of_ble_eq_true rfl⟩) hS (fun q _ h9 => aM_up hS q h9) (aM_up hS) (fun r_338 u t H1 locs ht _ hw hB _ hk1 hS => ?_)
                  obtain ⟨fv_340, wd_341, ar_342⟩ := u
                  obtain ⟨hF_fv_340, hA_ar_342, fr_343, fa_344, p_339, -⟩ := hw
                  have hP : va_P (dC, dI) vwCl (wsM h ad cA fv_340 wd_341 ar_342) H1 := by have h9 := hB.1; rw [ht] at h9; exact h9
                  have fr_343 : fM [] fv_326 fv_340 := fr_343
                  have fa_344 : fA [] ar_320 ar_342 := fa_344
                  generalize H1 = H at hP hS ⊢
                  refine lv_if_ne (tgt := 255) hx hb dX12_readLine_244 (by decide) (fun c_345 => ?_) (fun c_345 => ?_)
                  · skip
                    have i_346 : 1 ≤ r_338.toInt ∧ r_338.toInt ≤ 1 := iv_nel p_339 (by decide) c_345
                    have k_347 : ¬ r_338.toInt = 0 := fun q => c_345 (Int32.toInt_inj.mp q)
                    refine lv_iconst (v := 1) hx hb dX12_readLine_255 (by decide) ?_
                    refine lv_goto (tgt := 260) hx hb dX12_readLine_256 (by decide) ?_
                    have z_348 : (fv_340 59).toInt = v_323.toInt := congrArg Int32.toInt ((fr_343 59 rfl).trans ((congrFun efv_326 59)))
                    have z_349 : 0 ≤ (fv_340 59).toInt ∧ (fv_340 59).toInt ≤ 16 := hF_fv_340 59
                    have z_350 : (fv_340 60).toInt = (fv 60).toInt := congrArg Int32.toInt ((fr_343 60 rfl).trans ((congrFun efv_326 60).trans ((fr_304 60 rfl).trans ((fr_289 60 rfl).trans ((fr_274 60 rfl).trans ((fr_43 60 rfl).trans ((fr_6 60 rfl))))))))
                    have z_351 : 0 ≤ (fv_340 60).toInt ∧ (fv_340 60).toInt ≤ 120 := hF_fv_340 60
                    have z_352 : (fv_340 62).toInt = (fv 62).toInt := congrArg Int32.toInt ((fr_343 62 rfl).trans ((congrFun efv_326 62).trans ((fr_304 62 rfl).trans ((fr_289 62 rfl).trans ((fr_274 62 rfl).trans ((fr_43 62 rfl).trans ((fr_6 62 rfl))))))))
                    have z_353 : 0 ≤ (fv_340 62).toInt ∧ (fv_340 62).toInt ≤ 50 := hF_fv_340 62
                    have z_354 : (fv_340 63).toInt = (fv 63).toInt := congrArg Int32.toInt ((fr_343 63 rfl).trans ((congrFun efv_326 63).trans ((fr_304 63 rfl).trans ((fr_289 63 rfl).trans ((fr_274 63 rfl).trans ((fr_43 63 rfl).trans ((fr_6 63 rfl))))))))
                    have z_355 : (-100) ≤ (fv_340 63).toInt ∧ (fv_340 63).toInt ≤ 10 := hF_fv_340 63
                    exact W.zret (v := 1) hx hb hr (by decide) (fun t ht hW => ⟨⟨1, (fv_340, wd_341, ar_342), rfl, ⟨hF_fv_340, hA_ar_342, (fM_call (fM_put (fM_call (fM_call (fM_call (fM_call (fM_call (fM_rf [38, 39, 40, 41, 42, 43, 44, 45, 59, 60, 61, 62, 63] _) fr_6 (by decide)) fr_43 (by decide)) fr_274 (by decide)) fr_289 (by decide)) fr_304 (by decide)) efv_326 (by decide)) fr_343 (by decide)), (fA_call (fA_put (fA_call (fA_call (fA_call (fA_call (fA_put (fA_put (fA_put (fA_call (fA_rf [48, 50, 51, 52, 53, 54, 55, 56, 57] _) fa_7 (by decide)) ear_31 (by decide)) ear_32 (by decide)) ear_34 (by decide)) fa_44 (by decide)) fa_275 (by decide)) fa_291 (by decide)) fa_305 (by decide)) ear_320 (by decide)) fa_344 (by decide)), (iv_w (⟨by decide, by decide⟩ : (1 : Int) ≤ (1 : Int32).toInt ∧ (1 : Int32).toInt ≤ 1) (by decide) (by decide)), (Or.inr (⟨rfl, ⟨(rL_fr hp_337 (fM_call (fM_rf [] _) fr_343 (by decide)) (fA_call (fA_rf [] _) fa_344 (by decide)) rfl rfl rfl rfl rfl), show (fv_340 60).toInt ≤ 2 * (fv_340 62).toInt from by omega, show 0 ≤ (fv_340 63).toInt + (fv_340 62).toInt from by omega, show (fv_340 59).toInt = (fv 59).toInt + 1 from by omega⟩⟩)), (vM_fr hp_321 (fM_call (fM_put (fM_rf [59] _) efv_326 (by decide)) fr_343 (by decide)) (fA_call (fA_rf [] _) fa_344 (by decide)) rfl rfl rfl rfl rfl), trivial⟩, ⟨by rw [ht]; exact hP, va_K.moved hW.alike hK⟩⟩, hS.F ht⟩) hS.2.2 dX12_readLine_260
                  · skip
                    have i_356 : 0 ≤ r_338.toInt ∧ r_338.toInt ≤ 0 := iv_eq1 (⟨by decide, by decide⟩ : (0 : Int) ≤ (0 : Int32).toInt ∧ (0 : Int32).toInt ≤ 0) c_345
                    refine lv_aload_n hx hb dX12_readLine_247 rfl (lv_at hl 0 rfl) ?_
                    refine lv_iconst (v := 1) hx hb dX12_readLine_248 (by decide) ?_
                    refine va_calli (va_runV (As := [.int 1]) (rest := []) ⟨hx, hb, hml, hown, hts⟩ (m_bad l dC dI H.size h ad cA hd fv_340 wd_341 ar_342 hF_fv_340 hA_ar_342 1) (cwV 1 hts (gV kw_8_94 kw_8_96 kw_p_69 kw_1_15 kw_8_97) rfl rfl rfl (by decide +kernel) ⟨Nat.le_of_ble_eq_true rfl, Nat.le_of_ble_eq_true rfl⟩) ⟨fun a U g mk q => ⟨q.1, q.2.1, q.2.2.1, va_K.moved (u := U) (U := U.calling g mk a) (Vm.Alike.refl U.vm) q.2.2.2⟩, va_recv hK hP (ci := 12) (q0 := 0) rfl rfl, fun U hU hW => ⟨rfl, by rw [hU], by rw [hU]; exact hP, va_K.moved hW.alike hK⟩⟩ rfl rfl hl.1 rfl (lv_room (Nat.le_of_ble_eq_true rfl)) dX12_readLine_249 ⟨Nat.le_of_ble_eq_true rfl, Nat.le_of_ble_eq_true rfl⟩) hS (fun q _ h9 => aM_up hS q h9) (aM_up hS) (fun r_358 u t H1 locs ht _ hw hB _ hk1 hS => ?_)
                    obtain ⟨fv_361, wd_362, ar_363⟩ := u
                    obtain ⟨hF_fv_361, hA_ar_363, fr_364, fa_365, p_359, p_360, -⟩ := hw
                    have hP : va_P (dC, dI) vwCl (wsM h ad cA fv_361 wd_362 ar_363) H1 := by have h9 := hB.1; rw [ht] at h9; exact h9
                    have fr_364 : fM [43, 44] fv_340 fv_361 := fr_364
                    have fa_365 : fA [] ar_342 ar_363 := fa_365
                    generalize H1 = H at hP hS ⊢
                    rcases p_360 with ⟨rfl, p_360⟩
                    · skip
                      refine lv_if_eq (tgt := 259) hx hb dX12_readLine_252 (by decide) (fun c_366 => ?_) (fun c_366 => ?_)
                      · skip
                        refine lv_iconst (v := 0) hx hb dX12_readLine_259 (by decide) ?_
                        have z_367 : (fv_361 59).toInt = v_323.toInt := congrArg Int32.toInt ((fr_364 59 rfl).trans ((fr_343 59 rfl).trans ((congrFun efv_326 59))))
                        have z_368 : 0 ≤ (fv_361 59).toInt ∧ (fv_361 59).toInt ≤ 16 := hF_fv_361 59
                        have z_369 : (fv_361 60).toInt = (fv 60).toInt := congrArg Int32.toInt ((fr_364 60 rfl).trans ((fr_343 60 rfl).trans ((congrFun efv_326 60).trans ((fr_304 60 rfl).trans ((fr_289 60 rfl).trans ((fr_274 60 rfl).trans ((fr_43 60 rfl).trans ((fr_6 60 rfl)))))))))
                        have z_370 : 0 ≤ (fv_361 60).toInt ∧ (fv_361 60).toInt ≤ 120 := hF_fv_361 60
                        have z_371 : (fv_361 62).toInt = (fv 62).toInt := congrArg Int32.toInt ((fr_364 62 rfl).trans ((fr_343 62 rfl).trans ((congrFun efv_326 62).trans ((fr_304 62 rfl).trans ((fr_289 62 rfl).trans ((fr_274 62 rfl).trans ((fr_43 62 rfl).trans ((fr_6 62 rfl)))))))))
                        have z_372 : 0 ≤ (fv_361 62).toInt ∧ (fv_361 62).toInt ≤ 50 := hF_fv_361 62
                        have z_373 : (fv_361 63).toInt = (fv 63).toInt := congrArg Int32.toInt ((fr_364 63 rfl).trans ((fr_343 63 rfl).trans ((congrFun efv_326 63).trans ((fr_304 63 rfl).trans ((fr_289 63 rfl).trans ((fr_274 63 rfl).trans ((fr_43 63 rfl).trans ((fr_6 63 rfl)))))))))
                        have z_374 : (-100) ≤ (fv_361 63).toInt ∧ (fv_361 63).toInt ≤ 10 := hF_fv_361 63
                        exact W.zret (v := 0) hx hb hr (by decide) (fun t ht hW => ⟨⟨0, (fv_361, wd_362, ar_363), rfl, ⟨hF_fv_361, hA_ar_363, (fM_call (fM_call (fM_put (fM_call (fM_call (fM_call (fM_call (fM_call (fM_rf [38, 39, 40, 41, 42, 43, 44, 45, 59, 60, 61, 62, 63] _) fr_6 (by decide)) fr_43 (by decide)) fr_274 (by decide)) fr_289 (by decide)) fr_304 (by decide)) efv_326 (by decide)) fr_343 (by decide)) fr_364 (by decide)), (fA_call (fA_call (fA_put (fA_call (fA_call (fA_call (fA_call (fA_put (fA_put (fA_put (fA_call (fA_rf [48, 50, 51, 52, 53, 54, 55, 56, 57] _) fa_7 (by decide)) ear_31 (by decide)) ear_32 (by decide)) ear_34 (by decide)) fa_44 (by decide)) fa_275 (by decide)) fa_291 (by decide)) fa_305 (by decide)) ear_320 (by decide)) fa_344 (by decide)) fa_365 (by decide)), (iv_w (⟨by decide, by decide⟩ : (0 : Int) ≤ (0 : Int32).toInt ∧ (0 : Int32).toInt ≤ 0) (by decide) (by decide)), (Or.inl ⟨rfl, trivial⟩), (vM_fr hp_321 (fM_call (fM_call (fM_put (fM_rf [43, 44, 59] _) efv_326 (by decide)) fr_343 (by decide)) fr_364 (by decide)) (fA_call (fA_call (fA_rf [] _) fa_344 (by decide)) fa_365 (by decide)) rfl rfl rfl rfl rfl), trivial⟩, ⟨by rw [ht]; exact hP, va_K.moved hW.alike hK⟩⟩, hS.F ht⟩) hS.2.2 dX12_readLine_260
                      · skip
                        exact absurd c_366 (by decide)
                · skip
                  have i_375 : 1 ≤ r_299.toInt ∧ r_299.toInt ≤ 1 := iv_nel p_300 (by decide) c_306
                  have k_376 : ¬ r_299.toInt = 0 := fun q => c_306 (Int32.toInt_inj.mp q)
                  refine lv_aload_n hx hb dX12_readLine_205 rfl (lv_at hl 0 rfl) ?_
                  refine va_callv (va_runV (As := []) (rest := []) ⟨hx, hb, hml, hown, hts⟩ (m_go l dC dI H.size h ad cA hd fv_301 wd_302 ar_303 hF_fv_301 hA_ar_303) (cwV 0 hts (gV kw_8_60 kw_8_62 kw_p_64 kw_1_15 kw_8_63) rfl rfl rfl (by decide +kernel) ⟨Nat.le_of_ble_eq_true rfl, Nat.le_of_ble_eq_true rfl⟩) ⟨fun a U g mk q => ⟨q.1, q.2.1, q.2.2.1, va_K.moved (u := U) (U := U.calling g mk a) (Vm.Alike.refl U.vm) q.2.2.2⟩, va_recv hK hP (ci := 12) (q0 := 0) rfl rfl, fun U hU hW => ⟨rfl, by rw [hU], by rw [hU]; exact hP, va_K.moved hW.alike hK⟩⟩ rfl rfl hl.1 rfl (lv_room (Nat.le_of_ble_eq_true rfl)) dX12_readLine_206 ⟨Nat.le_of_ble_eq_true rfl, Nat.le_of_ble_eq_true rfl⟩) hS (fun q _ h9 => aM_up hS q h9) (aM_up hS) (fun u t H1 locs ht _ hw hB _ hk1 hS => ?_)
                  obtain ⟨fv_378, wd_379, ar_380⟩ := u
                  obtain ⟨hF_fv_378, hA_ar_380, fr_381, fa_382, -⟩ := hw
                  have hP : va_P (dC, dI) vwCl (wsM h ad cA fv_378 wd_379 ar_380) H1 := by have h9 := hB.1; rw [ht] at h9; exact h9
                  have fr_381 : fM [38, 39, 40, 41, 42] fv_301 fv_378 := fr_381
                  have fa_382 : fA [] ar_303 ar_380 := fa_382
                  generalize H1 = H at hP hS ⊢
                  refine lv_aload_n hx hb dX12_readLine_209 rfl (lv_at hl 0 rfl) ?_
                  have z_383 : (fv_378 59).toInt = (fv 59).toInt := congrArg Int32.toInt ((fr_381 59 rfl).trans ((fr_304 59 rfl).trans ((fr_289 59 rfl).trans ((fr_274 59 rfl).trans ((fr_43 59 rfl).trans ((fr_6 59 rfl)))))))
                  have z_384 : 0 ≤ (fv_378 59).toInt ∧ (fv_378 59).toInt ≤ 16 := hF_fv_378 59
                  have z_385 : (fv_378 60).toInt = (fv 60).toInt := congrArg Int32.toInt ((fr_381 60 rfl).trans ((fr_304 60 rfl).trans ((fr_289 60 rfl).trans ((fr_274 60 rfl).trans ((fr_43 60 rfl).trans ((fr_6 60 rfl)))))))
                  have z_386 : 0 ≤ (fv_378 60).toInt ∧ (fv_378 60).toInt ≤ 120 := hF_fv_378 60
                  have z_387 : (fv_378 62).toInt = (fv 62).toInt := congrArg Int32.toInt ((fr_381 62 rfl).trans ((fr_304 62 rfl).trans ((fr_289 62 rfl).trans ((fr_274 62 rfl).trans ((fr_43 62 rfl).trans ((fr_6 62 rfl)))))))
                  have z_388 : 0 ≤ (fv_378 62).toInt ∧ (fv_378 62).toInt ≤ 50 := hF_fv_378 62
                  have z_389 : (fv_378 63).toInt = (fv 63).toInt := congrArg Int32.toInt ((fr_381 63 rfl).trans ((fr_304 63 rfl).trans ((fr_289 63 rfl).trans ((fr_274 63 rfl).trans ((fr_43 63 rfl).trans ((fr_6 63 rfl)))))))
                  have z_390 : (-100) ≤ (fv_378 63).toInt ∧ (fv_378 63).toInt ≤ 10 := hF_fv_378 63
                  have z_391 : (fv_378 60).toInt = (fv 60).toInt := congrArg Int32.toInt ((fr_381 60 rfl).trans ((fr_304 60 rfl).trans ((fr_289 60 rfl).trans ((fr_274 60 rfl).trans ((fr_43 60 rfl).trans ((fr_6 60 rfl)))))))
                  have z_392 : 0 ≤ (fv_378 60).toInt ∧ (fv_378 60).toInt ≤ 120 := hF_fv_378 60
                  have z_393 : (fv_378 62).toInt = (fv 62).toInt := congrArg Int32.toInt ((fr_381 62 rfl).trans ((fr_304 62 rfl).trans ((fr_289 62 rfl).trans ((fr_274 62 rfl).trans ((fr_43 62 rfl).trans ((fr_6 62 rfl)))))))
                  have z_394 : 0 ≤ (fv_378 62).toInt ∧ (fv_378 62).toInt ≤ 50 := hF_fv_378 62
                  have z_395 : (fv_378 62).toInt = (fv 62).toInt := congrArg Int32.toInt ((fr_381 62 rfl).trans ((fr_304 62 rfl).trans ((fr_289 62 rfl).trans ((fr_274 62 rfl).trans ((fr_43 62 rfl).trans ((fr_6 62 rfl)))))))
                  have z_396 : 0 ≤ (fv_378 62).toInt ∧ (fv_378 62).toInt ≤ 50 := hF_fv_378 62
                  have z_397 : (fv_378 63).toInt = (fv 63).toInt := congrArg Int32.toInt ((fr_381 63 rfl).trans ((fr_304 63 rfl).trans ((fr_289 63 rfl).trans ((fr_274 63 rfl).trans ((fr_43 63 rfl).trans ((fr_6 63 rfl)))))))
                  have z_398 : (-100) ≤ (fv_378 63).toInt ∧ (fv_378 63).toInt ≤ 10 := hF_fv_378 63
                  refine va_calli (va_runV (As := []) (rest := []) ⟨hx, hb, hml, hown, hts⟩ (m_readCond l dC dI H.size h ad cA hd fv_378 wd_379 ar_380 hF_fv_378 hA_ar_380 (by omega) (by omega) (vM_fr hp_294 (fM_call (fM_call (fM_rf [38, 39, 40, 41, 42] _) fr_304 (by decide)) fr_381 (by decide)) (fA_call (fA_call (fA_rf [] _) fa_305 (by decide)) fa_382 (by decide)) rfl rfl rfl rfl rfl)) (cwV 0 hts (gV kw_8_102 kw_8_104 kw_p_71 kw_1_15 kw_8_105) rfl rfl rfl (by decide +kernel) ⟨Nat.le_of_ble_eq_true rfl, Nat.le_of_ble_eq_true rfl⟩) ⟨fun a U g mk q => ⟨q.1, q.2.1, q.2.2.1, va_K.moved (u := U) (U := U.calling g mk a) (Vm.Alike.refl U.vm) q.2.2.2⟩, va_recv hK hP (ci := 12) (q0 := 0) rfl rfl, fun U hU hW => ⟨rfl, by rw [hU], by rw [hU]; exact hP, va_K.moved hW.alike hK⟩⟩ rfl rfl hl.1 rfl (lv_room (Nat.le_of_ble_eq_true rfl)) dX12_readLine_210 ⟨Nat.le_of_ble_eq_true rfl, Nat.le_of_ble_eq_true rfl⟩) hS (fun q _ h9 => aM_up hS q h9) (aM_up hS) (fun r_399 u t H1 locs ht _ hw hB _ hk1 hS => ?_)
                  obtain ⟨fv_403, wd_404, ar_405⟩ := u
                  obtain ⟨hF_fv_403, hA_ar_405, fr_406, fa_407, p_400, p_401, p_402, -⟩ := hw
                  have hP : va_P (dC, dI) vwCl (wsM h ad cA fv_403 wd_404 ar_405) H1 := by have h9 := hB.1; rw [ht] at h9; exact h9
                  have fr_406 : fM [38, 39, 40, 41, 42, 43, 44, 60, 61, 62, 63] fv_378 fv_403 := fr_406
                  have fa_407 : fA [54, 55, 56, 57] ar_380 ar_405 := fa_407
                  have p_402 : vM fv_403 ar_405 := p_402
                  generalize H1 = H at hP hS ⊢
                  rcases p_401 with ⟨rfl, p_401⟩ | ⟨rfl, p_401⟩
                  · skip
                    refine lv_if_ne (tgt := 218) hx hb dX12_readLine_213 (by decide) (fun c_408 => ?_) (fun c_408 => ?_)
                    · skip
                      exact absurd c_408 (by decide)
                    · skip
                      refine lv_iconst (v := 0) hx hb dX12_readLine_216 (by decide) ?_
                      exact W.zret (v := 0) hx hb hr (by decide) (fun t ht hW => ⟨⟨0, (fv_403, wd_404, ar_405), rfl, ⟨hF_fv_403, hA_ar_405, (fM_call (fM_call (fM_call (fM_call (fM_call (fM_call (fM_call (fM_rf [38, 39, 40, 41, 42, 43, 44, 45, 59, 60, 61, 62, 63] _) fr_6 (by decide)) fr_43 (by decide)) fr_274 (by decide)) fr_289 (by decide)) fr_304 (by decide)) fr_381 (by decide)) fr_406 (by decide)), (fA_call (fA_call (fA_call (fA_call (fA_call (fA_call (fA_put (fA_put (fA_put (fA_call (fA_rf [48, 50, 51, 52, 53, 54, 55, 56, 57] _) fa_7 (by decide)) ear_31 (by decide)) ear_32 (by decide)) ear_34 (by decide)) fa_44 (by decide)) fa_275 (by decide)) fa_291 (by decide)) fa_305 (by decide)) fa_382 (by decide)) fa_407 (by decide)), (iv_w (⟨by decide, by decide⟩ : (0 : Int) ≤ (0 : Int32).toInt ∧ (0 : Int32).toInt ≤ 0) (by decide) (by decide)), (Or.inl ⟨rfl, trivial⟩), p_402, trivial⟩, ⟨by rw [ht]; exact hP, va_K.moved hW.alike hK⟩⟩, hS.F ht⟩) hS.2.2 dX12_readLine_217
                  · skip
                    have q_409 : vP (ar_405 54) (1200 + (fv_378 60).toInt.toNat) (1200 + (fv_403 60).toInt.toNat) := p_401.1
                    have q_410 : pK (1200 + (fv_378 60).toInt.toNat) (ar_380 54) (ar_405 54) := p_401.2.1
                    have q_411 : (fv_378 60).toInt ≤ (fv_403 60).toInt := p_401.2.2.1
                    have q_412 : (fv_403 60).toInt ≤ 2 * (fv_403 62).toInt := p_401.2.2.2.1
                    have q_413 : 0 ≤ (fv_403 63).toInt + (fv_403 62).toInt := p_401.2.2.2.2
                    have z_414 : (fv_403 59).toInt = (fv 59).toInt := congrArg Int32.toInt ((fr_406 59 rfl).trans ((fr_381 59 rfl).trans ((fr_304 59 rfl).trans ((fr_289 59 rfl).trans ((fr_274 59 rfl).trans ((fr_43 59 rfl).trans ((fr_6 59 rfl))))))))
                    have z_415 : 0 ≤ (fv_403 59).toInt ∧ (fv_403 59).toInt ≤ 16 := hF_fv_403 59
                    have z_416 : 0 ≤ (fv_403 60).toInt ∧ (fv_403 60).toInt ≤ 120 := hF_fv_403 60
                    have z_417 : 0 ≤ (fv_403 62).toInt ∧ (fv_403 62).toInt ≤ 50 := hF_fv_403 62
                    have z_418 : (-100) ≤ (fv_403 63).toInt ∧ (fv_403 63).toInt ≤ 10 := hF_fv_403 63
                    have hp_419 : rL fv_403 ar_405 := rL_cond (rL_fr hp_293 (fM_call (fM_call (fM_rf [38, 39, 40, 41, 42] _) fr_304 (by decide)) fr_381 (by decide)) (fA_call (fA_call (fA_rf [] _) fa_305 (by decide)) fa_382 (by decide)) rfl rfl rfl rfl rfl) hA_ar_380 ((fM_call (fM_rf [38, 39, 40, 41, 42, 43, 44, 60, 61, 62, 63] _) fr_406 (by decide)) 59 rfl) (by omega) ((fA_call (fA_rf [54, 55, 56, 57] _) fa_407 (by decide)) 52 rfl) ((fA_call (fA_rf [54, 55, 56, 57] _) fa_407 (by decide)) 53 rfl) q_410
                    refine lv_if_ne (tgt := 218) hx hb dX12_readLine_213 (by decide) (fun c_420 => ?_) (fun c_420 => ?_)
                    · skip
                      have z_421 : (fv_403 59).toInt = (fv 59).toInt := congrArg Int32.toInt ((fr_406 59 rfl).trans ((fr_381 59 rfl).trans ((fr_304 59 rfl).trans ((fr_289 59 rfl).trans ((fr_274 59 rfl).trans ((fr_43 59 rfl).trans ((fr_6 59 rfl))))))))
                      have z_422 : 0 ≤ (fv_403 59).toInt ∧ (fv_403 59).toInt ≤ 16 := hF_fv_403 59
                      have z_423 : 0 ≤ (fv_403 60).toInt ∧ (fv_403 60).toInt ≤ 120 := hF_fv_403 60
                      have z_424 : 0 ≤ (fv_403 62).toInt ∧ (fv_403 62).toInt ≤ 50 := hF_fv_403 62
                      have z_425 : (-100) ≤ (fv_403 63).toInt ∧ (fv_403 63).toInt ≤ 10 := hF_fv_403 63
                      have q_426 : vP (ar_405 54) (1200 + (fv 60).toInt.toNat) (1200 + (fv_403 60).toInt.toNat) := (by have h9 := q_409; rw [show (fv_378 60).toInt.toNat = (fv 60).toInt.toNat from by omega] at h9; exact h9)
                      have q_427 : (fv_403 60).toInt ≤ 2 * (fv_403 62).toInt := (by omega)
                      have q_428 : 0 ≤ (fv_403 63).toInt + (fv_403 62).toInt := (by omega)
                      refine lv_aload_n hx hb dX12_readLine_218 rfl (lv_at hl 0 rfl) ?_
                      refine gM_53 hx hb htg hown hK hP dX12_readLine_219 ?_
                      refine lv_iload_n hx hb dX12_readLine_222 rfl (lv_at hl 2 rfl) ?_
                      refine lv_aload_n hx hb dX12_readLine_223 rfl (lv_at hl 0 rfl) ?_
                      refine gM_60 hx hb htg hown hK hP dX12_readLine_224 ?_
                      have i_429 : 0 ≤ (fv_403 60).toInt ∧ (fv_403 60).toInt ≤ 120 := hF_fv_403 60
                      refine sM_53 hx hb hK hP hS hd (iv_in t_29.2 (by decide) (by decide)) dX12_readLine_227 (fun H locs ar_430 ear_430 hP hS => ?_)
                      have hA_ar_430 : rA ar_430 := rA_put hA_ar_405 ear_430 i_429
                      have hp_431 : vM fv_403 ar_430 := vM_53 p_402 hA_ar_405 ear_430 (by have h58 : (0 : Int) ≤ (fv_403 58).toInt ∧ (fv_403 58).toInt ≤ 10 := hF_fv_403 58; have h57 : (fv_403 58).toInt = (fv 58).toInt := congrArg Int32.toInt ((fr_406 58 rfl).trans ((fr_381 58 rfl).trans ((fr_304 58 rfl).trans ((fr_289 58 rfl).trans ((fr_274 58 rfl).trans ((fr_43 58 rfl).trans ((fr_6 58 rfl)))))))); show _ ≤ ((v_28.toInt.toNat : Nat) : Int); omega)
                      have hp_432 : rL fv_403 ar_430 := rL_53 hp_419 ear_430 (by have h57 : (fv_403 59).toInt = (fv 59).toInt := congrArg Int32.toInt ((fr_406 59 rfl).trans ((fr_381 59 rfl).trans ((fr_304 59 rfl).trans ((fr_289 59 rfl).trans ((fr_274 59 rfl).trans ((fr_43 59 rfl).trans ((fr_6 59 rfl)))))))); show ((v_28.toInt.toNat : Nat) : Int) < 160 ∨ _ ≤ ((v_28.toInt.toNat : Nat) : Int); omega)
                      refine lv_aload_n hx hb dX12_readLine_228 rfl (lv_at hl 0 rfl) ?_
                      refine lv_dup hx hb dX12_readLine_229 rfl ?_
                      refine gM_59 hx hb htg hown hK hP dX12_readLine_230 ?_
                      refine my_ti (y := fv 59) ((fr_406 59 rfl).trans ((fr_381 59 rfl).trans ((fr_304 59 rfl).trans ((fr_289 59 rfl).trans ((fr_274 59 rfl).trans ((fr_43 59 rfl).trans ((fr_6 59 rfl)))))))) ?_
                      refine lv_iconst (v := 1) hx hb dX12_readLine_233 (by decide) ?_
                      refine lv_iadd hx hb dX12_readLine_234 ?_
                      refine lv_topi (fun v_433 ev_433 => ?_)
                      have t_434 : v_433.toInt = (fv 59).toInt + 1 ∧ 1 ≤ v_433.toInt ∧ v_433.toInt ≤ 16 := iv_addc ev_433 i_23 (by decide) (by decide) (by decide)
                      refine pM_59 hx hb htg hown hK hP hS hd dX12_readLine_235 (fun H locs fv_436 efv_436 hP hS => ?_)
                      have hF_fv_436 : rF fv_436 := rF_put hF_fv_403 efv_436 (iv_w t_434.2 (by decide) (by decide))
                      have z_437 : (fv_436 59).toInt = v_433.toInt := congrArg Int32.toInt ((congrFun efv_436 59))
                      have z_438 : 0 ≤ (fv_436 59).toInt ∧ (fv_436 59).toInt ≤ 16 := hF_fv_436 59
                      have z_439 : (fv_436 60).toInt = (fv_403 60).toInt := congrArg Int32.toInt ((congrFun efv_436 60))
                      have z_440 : 0 ≤ (fv_436 60).toInt ∧ (fv_436 60).toInt ≤ 120 := hF_fv_436 60
                      have z_441 : (fv_436 62).toInt = (fv_403 62).toInt := congrArg Int32.toInt ((congrFun efv_436 62))
                      have z_442 : 0 ≤ (fv_436 62).toInt ∧ (fv_436 62).toInt ≤ 50 := hF_fv_436 62
                      have z_443 : (fv_436 63).toInt = (fv_403 63).toInt := congrArg Int32.toInt ((congrFun efv_436 63))
                      have z_444 : (-100) ≤ (fv_436 63).toInt ∧ (fv_436 63).toInt ≤ 10 := hF_fv_436 63
                      have g_445 : ar_430 53 = upd (ar_405 53) (v_28.toInt.toNat) (fv_403 60) := by rw [ear_430]; rfl
                      have g_446 : ar_405 52 (160 + (fv_403 59).toInt.toNat) = (fv 60) := by rw [((fA_call (fA_call (fA_call (fA_call (fA_call (fA_call (fA_rf [51, 54, 55, 56, 57] _) fa_44 (by decide)) fa_275 (by decide)) fa_291 (by decide)) fa_305 (by decide)) fa_382 (by decide)) fa_407 (by decide)) 52 rfl), ear_34]; show upd _ (v_28.toInt.toNat) _ _ = _; rw [show v_28.toInt.toNat = 160 + (fv_403 59).toInt.toNat from by omega]; exact up_eq
                      have hp_447 : rL fv_436 ar_430 := rL_add (i := v_28.toInt.toNat) (x := (fv_403 60)) hp_419 (by omega) (by omega) (by omega) ((fA_put (fA_rf [53] _) ear_430 (by decide)) 54 rfl) ((fA_put (fA_rf [53] _) ear_430 (by decide)) 52 rfl) (by rw [g_445]) (by omega) (by omega) (by rw [g_446]; exact q_426)
                      refine lv_aload_n hx hb dX12_readLine_238 rfl (lv_at hl 0 rfl) ?_
                      refine lv_bipush (v := 59) hx hb dX12_readLine_239 (by decide) ?_
                      refine va_calli (va_runV (As := [.int 59]) (rest := []) ⟨hx, hb, hml, hown, hts⟩ (m_isSign l dC dI H.size h ad cA hd fv_436 wd_404 ar_430 hF_fv_436 hA_ar_430 59) (cwV 1 hts (gV kw_8_117 kw_8_119 kw_p_74 kw_1_15 kw_8_120) rfl rfl rfl (by decide +kernel) ⟨Nat.le_of_ble_eq_true rfl, Nat.le_of_ble_eq_true rfl⟩) ⟨fun a U g mk q => ⟨q.1, q.2.1, q.2.2.1, va_K.moved (u := U) (U := U.calling g mk a) (Vm.Alike.refl U.vm) q.2.2.2⟩, va_recv hK hP (ci := 12) (q0 := 0) rfl rfl, fun U hU hW => ⟨rfl, by rw [hU], by rw [hU]; exact hP, va_K.moved hW.alike hK⟩⟩ rfl rfl hl.1 rfl (lv_room (Nat.le_of_ble_eq_true rfl)) dX12_readLine_241 ⟨Nat.le_of_ble_eq_true rfl, Nat.le_of_ble_eq_true rfl⟩) hS (fun q _ h9 => aM_up hS q h9) (aM_up hS) (fun r_448 u t H1 locs ht _ hw hB _ hk1 hS => ?_)
                      obtain ⟨fv_450, wd_451, ar_452⟩ := u
                      obtain ⟨hF_fv_450, hA_ar_452, fr_453, fa_454, p_449, -⟩ := hw
                      have hP : va_P (dC, dI) vwCl (wsM h ad cA fv_450 wd_451 ar_452) H1 := by have h9 := hB.1; rw [ht] at h9; exact h9
                      have fr_453 : fM [] fv_436 fv_450 := fr_453
                      have fa_454 : fA [] ar_430 ar_452 := fa_454
                      generalize H1 = H at hP hS ⊢
                      refine lv_if_ne (tgt := 255) hx hb dX12_readLine_244 (by decide) (fun c_455 => ?_) (fun c_455 => ?_)
                      · skip
                        have i_456 : 1 ≤ r_448.toInt ∧ r_448.toInt ≤ 1 := iv_nel p_449 (by decide) c_455
                        have k_457 : ¬ r_448.toInt = 0 := fun q => c_455 (Int32.toInt_inj.mp q)
                        refine lv_iconst (v := 1) hx hb dX12_readLine_255 (by decide) ?_
                        refine lv_goto (tgt := 260) hx hb dX12_readLine_256 (by decide) ?_
                        have z_458 : (fv_450 59).toInt = v_433.toInt := congrArg Int32.toInt ((fr_453 59 rfl).trans ((congrFun efv_436 59)))
                        have z_459 : 0 ≤ (fv_450 59).toInt ∧ (fv_450 59).toInt ≤ 16 := hF_fv_450 59
                        have z_460 : (fv_450 60).toInt = (fv_403 60).toInt := congrArg Int32.toInt ((fr_453 60 rfl).trans ((congrFun efv_436 60)))
                        have z_461 : 0 ≤ (fv_450 60).toInt ∧ (fv_450 60).toInt ≤ 120 := hF_fv_450 60
                        have z_462 : (fv_450 62).toInt = (fv_403 62).toInt := congrArg Int32.toInt ((fr_453 62 rfl).trans ((congrFun efv_436 62)))
                        have z_463 : 0 ≤ (fv_450 62).toInt ∧ (fv_450 62).toInt ≤ 50 := hF_fv_450 62
                        have z_464 : (fv_450 63).toInt = (fv_403 63).toInt := congrArg Int32.toInt ((fr_453 63 rfl).trans ((congrFun efv_436 63)))
                        have z_465 : (-100) ≤ (fv_450 63).toInt ∧ (fv_450 63).toInt ≤ 10 := hF_fv_450 63
                        exact W.zret (v := 1) hx hb hr (by decide) (fun t ht hW => ⟨⟨1, (fv_450, wd_451, ar_452), rfl, ⟨hF_fv_450, hA_ar_452, (fM_call (fM_put (fM_call (fM_call (fM_call (fM_call (fM_call (fM_call (fM_call (fM_rf [38, 39, 40, 41, 42, 43, 44, 45, 59, 60, 61, 62, 63] _) fr_6 (by decide)) fr_43 (by decide)) fr_274 (by decide)) fr_289 (by decide)) fr_304 (by decide)) fr_381 (by decide)) fr_406 (by decide)) efv_436 (by decide)) fr_453 (by decide)), (fA_call (fA_put (fA_call (fA_call (fA_call (fA_call (fA_call (fA_call (fA_put (fA_put (fA_put (fA_call (fA_rf [48, 50, 51, 52, 53, 54, 55, 56, 57] _) fa_7 (by decide)) ear_31 (by decide)) ear_32 (by decide)) ear_34 (by decide)) fa_44 (by decide)) fa_275 (by decide)) fa_291 (by decide)) fa_305 (by decide)) fa_382 (by decide)) fa_407 (by decide)) ear_430 (by decide)) fa_454 (by decide)), (iv_w (⟨by decide, by decide⟩ : (1 : Int) ≤ (1 : Int32).toInt ∧ (1 : Int32).toInt ≤ 1) (by decide) (by decide)), (Or.inr (⟨rfl, ⟨(rL_fr hp_447 (fM_call (fM_rf [] _) fr_453 (by decide)) (fA_call (fA_rf [] _) fa_454 (by decide)) rfl rfl rfl rfl rfl), show (fv_450 60).toInt ≤ 2 * (fv_450 62).toInt from by omega, show 0 ≤ (fv_450 63).toInt + (fv_450 62).toInt from by omega, show (fv_450 59).toInt = (fv 59).toInt + 1 from by omega⟩⟩)), (vM_fr hp_431 (fM_call (fM_put (fM_rf [59] _) efv_436 (by decide)) fr_453 (by decide)) (fA_call (fA_rf [] _) fa_454 (by decide)) rfl rfl rfl rfl rfl), trivial⟩, ⟨by rw [ht]; exact hP, va_K.moved hW.alike hK⟩⟩, hS.F ht⟩) hS.2.2 dX12_readLine_260
                      · skip
                        have i_466 : 0 ≤ r_448.toInt ∧ r_448.toInt ≤ 0 := iv_eq1 (⟨by decide, by decide⟩ : (0 : Int) ≤ (0 : Int32).toInt ∧ (0 : Int32).toInt ≤ 0) c_455
                        refine lv_aload_n hx hb dX12_readLine_247 rfl (lv_at hl 0 rfl) ?_
                        refine lv_iconst (v := 1) hx hb dX12_readLine_248 (by decide) ?_
                        refine va_calli (va_runV (As := [.int 1]) (rest := []) ⟨hx, hb, hml, hown, hts⟩ (m_bad l dC dI H.size h ad cA hd fv_450 wd_451 ar_452 hF_fv_450 hA_ar_452 1) (cwV 1 hts (gV kw_8_94 kw_8_96 kw_p_69 kw_1_15 kw_8_97) rfl rfl rfl (by decide +kernel) ⟨Nat.le_of_ble_eq_true rfl, Nat.le_of_ble_eq_true rfl⟩) ⟨fun a U g mk q => ⟨q.1, q.2.1, q.2.2.1, va_K.moved (u := U) (U := U.calling g mk a) (Vm.Alike.refl U.vm) q.2.2.2⟩, va_recv hK hP (ci := 12) (q0 := 0) rfl rfl, fun U hU hW => ⟨rfl, by rw [hU], by rw [hU]; exact hP, va_K.moved hW.alike hK⟩⟩ rfl rfl hl.1 rfl (lv_room (Nat.le_of_ble_eq_true rfl)) dX12_readLine_249 ⟨Nat.le_of_ble_eq_true rfl, Nat.le_of_ble_eq_true rfl⟩) hS (fun q _ h9 => aM_up hS q h9) (aM_up hS) (fun r_468 u t H1 locs ht _ hw hB _ hk1 hS => ?_)
                        obtain ⟨fv_471, wd_472, ar_473⟩ := u
                        obtain ⟨hF_fv_471, hA_ar_473, fr_474, fa_475, p_469, p_470, -⟩ := hw
                        have hP : va_P (dC, dI) vwCl (wsM h ad cA fv_471 wd_472 ar_473) H1 := by have h9 := hB.1; rw [ht] at h9; exact h9
                        have fr_474 : fM [43, 44] fv_450 fv_471 := fr_474
                        have fa_475 : fA [] ar_452 ar_473 := fa_475
                        generalize H1 = H at hP hS ⊢
                        rcases p_470 with ⟨rfl, p_470⟩
                        · skip
                          refine lv_if_eq (tgt := 259) hx hb dX12_readLine_252 (by decide) (fun c_476 => ?_) (fun c_476 => ?_)
                          · skip
                            refine lv_iconst (v := 0) hx hb dX12_readLine_259 (by decide) ?_
                            have z_477 : (fv_471 59).toInt = v_433.toInt := congrArg Int32.toInt ((fr_474 59 rfl).trans ((fr_453 59 rfl).trans ((congrFun efv_436 59))))
                            have z_478 : 0 ≤ (fv_471 59).toInt ∧ (fv_471 59).toInt ≤ 16 := hF_fv_471 59
                            have z_479 : (fv_471 60).toInt = (fv_403 60).toInt := congrArg Int32.toInt ((fr_474 60 rfl).trans ((fr_453 60 rfl).trans ((congrFun efv_436 60))))
                            have z_480 : 0 ≤ (fv_471 60).toInt ∧ (fv_471 60).toInt ≤ 120 := hF_fv_471 60
                            have z_481 : (fv_471 62).toInt = (fv_403 62).toInt := congrArg Int32.toInt ((fr_474 62 rfl).trans ((fr_453 62 rfl).trans ((congrFun efv_436 62))))
                            have z_482 : 0 ≤ (fv_471 62).toInt ∧ (fv_471 62).toInt ≤ 50 := hF_fv_471 62
                            have z_483 : (fv_471 63).toInt = (fv_403 63).toInt := congrArg Int32.toInt ((fr_474 63 rfl).trans ((fr_453 63 rfl).trans ((congrFun efv_436 63))))
                            have z_484 : (-100) ≤ (fv_471 63).toInt ∧ (fv_471 63).toInt ≤ 10 := hF_fv_471 63
                            exact W.zret (v := 0) hx hb hr (by decide) (fun t ht hW => ⟨⟨0, (fv_471, wd_472, ar_473), rfl, ⟨hF_fv_471, hA_ar_473, (fM_call (fM_call (fM_put (fM_call (fM_call (fM_call (fM_call (fM_call (fM_call (fM_call (fM_rf [38, 39, 40, 41, 42, 43, 44, 45, 59, 60, 61, 62, 63] _) fr_6 (by decide)) fr_43 (by decide)) fr_274 (by decide)) fr_289 (by decide)) fr_304 (by decide)) fr_381 (by decide)) fr_406 (by decide)) efv_436 (by decide)) fr_453 (by decide)) fr_474 (by decide)), (fA_call (fA_call (fA_put (fA_call (fA_call (fA_call (fA_call (fA_call (fA_call (fA_put (fA_put (fA_put (fA_call (fA_rf [48, 50, 51, 52, 53, 54, 55, 56, 57] _) fa_7 (by decide)) ear_31 (by decide)) ear_32 (by decide)) ear_34 (by decide)) fa_44 (by decide)) fa_275 (by decide)) fa_291 (by decide)) fa_305 (by decide)) fa_382 (by decide)) fa_407 (by decide)) ear_430 (by decide)) fa_454 (by decide)) fa_475 (by decide)), (iv_w (⟨by decide, by decide⟩ : (0 : Int) ≤ (0 : Int32).toInt ∧ (0 : Int32).toInt ≤ 0) (by decide) (by decide)), (Or.inl ⟨rfl, trivial⟩), (vM_fr hp_431 (fM_call (fM_call (fM_put (fM_rf [43, 44, 59] _) efv_436 (by decide)) fr_453 (by decide)) fr_474 (by decide)) (fA_call (fA_call (fA_rf [] _) fa_454 (by decide)) fa_475 (by decide)) rfl rfl rfl rfl rfl), trivial⟩, ⟨by rw [ht]; exact hP, va_K.moved hW.alike hK⟩⟩, hS.F ht⟩) hS.2.2 dX12_readLine_260
                          · skip
                            exact absurd c_476 (by decide)
                    · skip
                      exact absurd c_420 (by decide)
            · skip
              refine lv_if_eq (tgt := 182) hx hb dX12_readLine_104 (by decide) (fun c_276 => ?_) (fun c_276 => ?_)
              · skip
                have i_277 : 0 ≤ r_269.toInt ∧ r_269.toInt ≤ 0 := iv_eq1 (⟨by decide, by decide⟩ : (0 : Int) ≤ (0 : Int32).toInt ∧ (0 : Int32).toInt ≤ 0) c_276
                exact hj_295 fv_271 ar_273 wd_272 _ _ ls hF_fv_271 (fM_rf [38, 39, 40, 41, 42] _) hA_ar_273 (fA_rf [51] _) (rL_fr hp_36 (fM_call (fM_call (fM_rf [38, 39, 40, 41, 42] _) fr_43 (by decide)) fr_274 (by decide)) (fA_call (fA_call (fA_rf [] _) fa_44 (by decide)) fa_275 (by decide)) rfl rfl rfl rfl rfl) (vM_fr hp_35 (fM_call (fM_call (fM_rf [38, 39, 40, 41, 42] _) fr_43 (by decide)) fr_274 (by decide)) (fA_call (fA_call (fA_rf [] _) fa_44 (by decide)) fa_275 (by decide)) rfl rfl rfl rfl rfl) hP hS (lv_sub hl [2, 1, 0] rfl)
              · skip
                have i_279 : 1 ≤ r_269.toInt ∧ r_269.toInt ≤ 1 := iv_nel p_270 (by decide) c_276
                have k_280 : ¬ r_269.toInt = 0 := fun q => c_276 (Int32.toInt_inj.mp q)
                refine lv_aload_n hx hb dX12_readLine_107 rfl (lv_at hl 2 rfl) ?_
                refine gM_51 hx hb htg hown hK hP dX12_readLine_108 ?_
                refine lv_iload_n hx hb dX12_readLine_111 rfl (lv_at hl 0 rfl) ?_
                refine lv_iconst (v := 0) hx hb dX12_readLine_112 (by decide) ?_
                refine sM_51 hx hb hK hP hS hd (iv_in t_29.2 (by decide) (by decide)) dX12_readLine_113 (fun H locs ar_281 ear_281 hP hS => ?_)
                have hA_ar_281 : rA ar_281 := rA_put hA_ar_273 ear_281 (iv_any _)
                refine lv_aload_n hx hb dX12_readLine_114 rfl (lv_at hl 2 rfl) ?_
                refine va_callv (va_runV (As := []) (rest := []) ⟨hx, hb, hml, hown, hts⟩ (m_go l dC dI H.size h ad cA hd fv_271 wd_272 ar_281 hF_fv_271 hA_ar_281) (cwV 0 hts (gV kw_8_60 kw_8_62 kw_p_64 kw_1_15 kw_8_63) rfl rfl rfl (by decide +kernel) ⟨Nat.le_of_ble_eq_true rfl, Nat.le_of_ble_eq_true rfl⟩) ⟨fun a U g mk q => ⟨q.1, q.2.1, q.2.2.1, va_K.moved (u := U) (U := U.calling g mk a) (Vm.Alike.refl U.vm) q.2.2.2⟩, va_recv hK hP (ci := 12) (q0 := 0) rfl rfl, fun U hU hW => ⟨rfl, by rw [hU], by rw [hU]; exact hP, va_K.moved hW.alike hK⟩⟩ rfl rfl hl.1 rfl (lv_room (Nat.le_of_ble_eq_true rfl)) dX12_readLine_115 ⟨Nat.le_of_ble_eq_true rfl, Nat.le_of_ble_eq_true rfl⟩) hS (fun q _ h9 => aM_up hS q h9) (aM_up hS) (fun u t H1 locs ht _ hw hB _ hk1 hS => ?_)
                obtain ⟨fv_283, wd_284, ar_285⟩ := u
                obtain ⟨hF_fv_283, hA_ar_285, fr_286, fa_287, -⟩ := hw
                have hP : va_P (dC, dI) vwCl (wsM h ad cA fv_283 wd_284 ar_285) H1 := by have h9 := hB.1; rw [ht] at h9; exact h9
                have fr_286 : fM [38, 39, 40, 41, 42] fv_271 fv_283 := fr_286
                have fa_287 : fA [] ar_281 ar_285 := fa_287
                generalize H1 = H at hP hS ⊢
                refine lv_goto (tgt := 182) hx hb dX12_readLine_118 (by decide) ?_
                exact hj_295 fv_283 ar_285 wd_284 _ _ ls hF_fv_283 (fM_call (fM_rf [38, 39, 40, 41, 42] _) fr_286 (by decide)) hA_ar_285 (fA_call (fA_put (fA_rf [51] _) ear_281 (by decide)) fa_287 (by decide)) (rL_fr hp_36 (fM_call (fM_call (fM_call (fM_rf [38, 39, 40, 41, 42] _) fr_43 (by decide)) fr_274 (by decide)) fr_286 (by decide)) (fA_call (fA_put (fA_call (fA_call (fA_rf [51] _) fa_44 (by decide)) fa_275 (by decide)) ear_281 (by decide)) fa_287 (by decide)) rfl rfl rfl rfl rfl) (vM_fr hp_35 (fM_call (fM_call (fM_call (fM_rf [38, 39, 40, 41, 42] _) fr_43 (by decide)) fr_274 (by decide)) fr_286 (by decide)) (fA_call (fA_put (fA_call (fA_call (fA_rf [51] _) fa_44 (by decide)) fa_275 (by decide)) ear_281 (by decide)) fa_287 (by decide)) rfl rfl rfl rfl rfl) hP hS (lv_sub hl [2, 1, 0] rfl)
        · skip
          exact absurd True.intro (by have h7 := i_26; have h8 := (⟨by decide, by decide⟩ : (6 : Int) ≤ (6 : Int32).toInt ∧ (6 : Int32).toInt ≤ 6); have h9 := congrArg Int32.toInt c_37; exfalso; omega)
      · skip
        have i_485 : 6 ≤ r_1.toInt ∧ r_1.toInt ≤ 6 := iv_eq1 (⟨by decide, by decide⟩ : (6 : Int) ≤ (6 : Int32).toInt ∧ (6 : Int32).toInt ≤ 6) c_25
        refine lv_aload_n hx hb dX12_readLine_31 rfl (lv_at hl 1 rfl) ?_
        refine gM_45 hx hb htg hown hK hP dX12_readLine_32 ?_
        refine my_ti (y := fv 45) ((fr_6 45 rfl)) ?_
        refine lv_iconst (v := 1) hx hb dX12_readLine_35 (by decide) ?_
        refine lv_iand hx hb dX12_readLine_36 ?_
        refine lv_topi (fun v_487 ev_487 => ?_)
        have i_488 : 0 ≤ v_487.toInt ∧ v_487.toInt ≤ 1 := iv_1 ev_487
        refine lv_iconst (v := 1) hx hb dX12_readLine_37 (by decide) ?_
        refine lv_icmp_ne (tgt := 47) hx hb dX12_readLine_38 (by decide) (fun c_489 => ?_) (fun c_489 => ?_)
        · skip
          have i_490 : 0 ≤ v_487.toInt ∧ v_487.toInt ≤ 0 := iv_neh i_488 (by decide) c_489
          have k_491 : ¬ v_487.toInt = 1 := fun q => c_489 (Int32.toInt_inj.mp q)
          refine lv_sipush (v := 160) hx hb dX12_readLine_47 (by decide) ?_
          refine lv_aload_n hx hb dX12_readLine_50 rfl (lv_at hl 1 rfl) ?_
          refine gM_59 hx hb htg hown hK hP dX12_readLine_51 ?_
          refine my_ti (y := fv 59) ((fr_6 59 rfl)) ?_
          refine lv_iadd hx hb dX12_readLine_54 ?_
          refine lv_topi (fun v_492 ev_492 => ?_)
          have t_493 : v_492.toInt = (fv 59).toInt + 160 ∧ 160 ≤ v_492.toInt ∧ v_492.toInt ≤ 175 := iv_addc (by rw [ev_492, Int32.add_comm]) i_23 (by decide) (by decide) (by decide)
          refine lv_istore_n (lv' := [(2, .int v_492), (1, .int r_1), (0, .ref h)]) hx hb dX12_readLine_55 rfl hl (by decide) rfl (fun ls hl => ?_)
          refine lv_aload_n hx hb dX12_readLine_56 rfl (lv_at hl 2 rfl) ?_
          refine gM_50 hx hb htg hown hK hP dX12_readLine_57 ?_
          refine lv_iload_n hx hb dX12_readLine_60 rfl (lv_at hl 0 rfl) ?_
          refine lv_iload_n hx hb dX12_readLine_61 rfl (lv_at hl 1 rfl) ?_
          refine sM_50 hx hb hK hP hS hd (iv_in t_493.2 (by decide) (by decide)) dX12_readLine_62 (fun H locs ar_495 ear_495 hP hS => ?_)
          have hA_ar_495 : rA ar_495 := rA_put hA_ar_5 ear_495 (iv_any _)
          refine lv_aload_n hx hb dX12_readLine_63 rfl (lv_at hl 2 rfl) ?_
          refine gM_51 hx hb htg hown hK hP dX12_readLine_64 ?_
          refine lv_iload_n hx hb dX12_readLine_67 rfl (lv_at hl 0 rfl) ?_
          refine lv_iconst (v := 1) hx hb dX12_readLine_68 (by decide) ?_
          refine sM_51 hx hb hK hP hS hd (iv_in t_493.2 (by decide) (by decide)) dX12_readLine_69 (fun H locs ar_496 ear_496 hP hS => ?_)
          have hA_ar_496 : rA ar_496 := rA_put hA_ar_495 ear_496 (iv_any _)
          refine lv_aload_n hx hb dX12_readLine_70 rfl (lv_at hl 2 rfl) ?_
          refine gM_52 hx hb htg hown hK hP dX12_readLine_71 ?_
          refine lv_iload_n hx hb dX12_readLine_74 rfl (lv_at hl 0 rfl) ?_
          refine lv_aload_n hx hb dX12_readLine_75 rfl (lv_at hl 2 rfl) ?_
          refine gM_60 hx hb htg hown hK hP dX12_readLine_76 ?_
          refine my_ti (y := fv 60) ((fr_6 60 rfl)) ?_
          have i_497 : 0 ≤ (fv 60).toInt ∧ (fv 60).toInt ≤ 120 := hF_fv 60
          refine sM_52 hx hb hK hP hS hd (iv_in t_493.2 (by decide) (by decide)) dX12_readLine_79 (fun H locs ar_498 ear_498 hP hS => ?_)
          have hA_ar_498 : rA ar_498 := rA_put hA_ar_496 ear_498 i_497
          have hp_499 : vM fv_3 ar_498 := vM_52 (vM_fr hp_vM (fM_call (fM_rf [] _) fr_6 (by decide)) (fA_put (fA_put (fA_call (fA_rf [50, 51] _) fa_7 (by decide)) ear_495 (by decide)) ear_496 (by decide)) rfl rfl rfl rfl rfl) hA_ar_496 ear_498 (by have h58 : (0 : Int) ≤ (fv_3 58).toInt ∧ (fv_3 58).toInt ≤ 10 := hF_fv_3 58; have h57 : (fv_3 58).toInt = (fv 58).toInt := congrArg Int32.toInt ((fr_6 58 rfl)); show _ ≤ ((v_492.toInt.toNat : Nat) : Int); omega)
          have hp_500 : rL fv_3 ar_498 := rL_52 (rL_fr hp_rL (fM_call (fM_rf [] _) fr_6 (by decide)) (fA_put (fA_put (fA_call (fA_rf [50, 51] _) fa_7 (by decide)) ear_495 (by decide)) ear_496 (by decide)) rfl rfl rfl rfl rfl) ear_498 (by have h57 : (fv_3 59).toInt = (fv 59).toInt := congrArg Int32.toInt ((fr_6 59 rfl)); show ((v_492.toInt.toNat : Nat) : Int) < 160 ∨ _ ≤ ((v_492.toInt.toNat : Nat) : Int); omega)
          refine lv_iload_n hx hb dX12_readLine_80 rfl (lv_at hl 1 rfl) ?_
          refine lv_bipush (v := 6) hx hb dX12_readLine_81 (by decide) ?_
          refine lv_icmp_ne (tgt := 91) hx hb dX12_readLine_83 (by decide) (fun c_501 => ?_) (fun c_501 => ?_)
          · skip
            exact absurd True.intro (by have h7 := i_485; have h8 := (⟨by decide, by decide⟩ : (6 : Int) ≤ (6 : Int32).toInt ∧ (6 : Int32).toInt ≤ 6); have h9 : ¬ _ := fun q => c_501 (Int32.toInt_inj.mp q); exfalso; omega)
          · skip
            refine lv_aload_n hx hb dX12_readLine_86 rfl (lv_at hl 2 rfl) ?_
            refine lv_iconst (v := 1) hx hb dX12_readLine_87 (by decide) ?_
            refine pM_45 hx hb htg hown hK hP hS hd dX12_readLine_88 (fun H locs fv_503 efv_503 hP hS => ?_)
            have hF_fv_503 : rF fv_503 := rF_put hF_fv_3 efv_503 (iv_any _)
            refine lv_aload_n hx hb dX12_readLine_91 rfl (lv_at hl 2 rfl) ?_
            refine va_callv (va_runV (As := []) (rest := []) ⟨hx, hb, hml, hown, hts⟩ (m_go l dC dI H.size h ad cA hd fv_503 wd_4 ar_498 hF_fv_503 hA_ar_498) (cwV 0 hts (gV kw_8_60 kw_8_62 kw_p_64 kw_1_15 kw_8_63) rfl rfl rfl (by decide +kernel) ⟨Nat.le_of_ble_eq_true rfl, Nat.le_of_ble_eq_true rfl⟩) ⟨fun a U g mk q => ⟨q.1, q.2.1, q.2.2.1, va_K.moved (u := U) (U := U.calling g mk a) (Vm.Alike.refl U.vm) q.2.2.2⟩, va_recv hK hP (ci := 12) (q0 := 0) rfl rfl, fun U hU hW => ⟨rfl, by rw [hU], by rw [hU]; exact hP, va_K.moved hW.alike hK⟩⟩ rfl rfl hl.1 rfl (lv_room (Nat.le_of_ble_eq_true rfl)) dX12_readLine_92 ⟨Nat.le_of_ble_eq_true rfl, Nat.le_of_ble_eq_true rfl⟩) hS (fun q _ h9 => aM_up hS q h9) (aM_up hS) (fun u t H1 locs ht _ hw hB _ hk1 hS => ?_)
            obtain ⟨fv_505, wd_506, ar_507⟩ := u
            obtain ⟨hF_fv_505, hA_ar_507, fr_508, fa_509, -⟩ := hw
            have hP : va_P (dC, dI) vwCl (wsM h ad cA fv_505 wd_506 ar_507) H1 := by have h9 := hB.1; rw [ht] at h9; exact h9
            have fr_508 : fM [38, 39, 40, 41, 42] fv_503 fv_505 := fr_508
            have fa_509 : fA [] ar_498 ar_507 := fa_509
            generalize H1 = H at hP hS ⊢
            refine lv_iload_n hx hb dX12_readLine_95 rfl (lv_at hl 1 rfl) ?_
            refine lv_iconst (v := 2) hx hb dX12_readLine_96 (by decide) ?_
            refine lv_icmp_ge (tgt := 121) hx hb dX12_readLine_97 (by decide) (fun c_510 => ?_) (fun c_510 => ?_)
            · skip
              refine lv_aload_n hx hb dX12_readLine_121 rfl (lv_at hl 2 rfl) ?_
              refine gM_40 hx hb htg hown hK hP dX12_readLine_122 ?_
              refine lv_iconst (v := 3) hx hb dX12_readLine_125 (by decide) ?_
              refine lv_icmp_eq (tgt := 135) hx hb dX12_readLine_126 (by decide) (fun c_511 => ?_) (fun c_511 => ?_)
              · skip
                have i_512 : 3 ≤ (fv_505 40).toInt ∧ (fv_505 40).toInt ≤ 3 := iv_eq1 (⟨by decide, by decide⟩ : (3 : Int) ≤ (3 : Int32).toInt ∧ (3 : Int32).toInt ≤ 3) c_511
                refine lv_aload_n hx hb dX12_readLine_135 rfl (lv_at hl 2 rfl) ?_
                refine gM_41 hx hb htg hown hK hP dX12_readLine_136 ?_
                refine lv_sipush (v := 2000) hx hb dX12_readLine_139 (by decide) ?_
                refine lv_icmp_le (tgt := 151) hx hb dX12_readLine_142 (by decide) (fun c_514 => ?_) (fun c_514 => ?_)
                · skip
                  have i_515 : (-2147483648) ≤ (fv_505 41).toInt ∧ (fv_505 41).toInt ≤ 2000 := iv_le1 (iv_any (fv_505 41)) (⟨by decide, by decide⟩ : (2000 : Int) ≤ (2000 : Int32).toInt ∧ (2000 : Int32).toInt ≤ 2000) c_514
                  refine lv_aload_n hx hb dX12_readLine_151 rfl (lv_at hl 2 rfl) ?_
                  refine gM_51 hx hb htg hown hK hP dX12_readLine_152 ?_
                  refine lv_iload_n hx hb dX12_readLine_155 rfl (lv_at hl 0 rfl) ?_
                  refine lv_aload_n hx hb dX12_readLine_156 rfl (lv_at hl 2 rfl) ?_
                  refine gM_41 hx hb htg hown hK hP dX12_readLine_157 ?_
                  refine sM_51 hx hb hK hP hS hd (iv_in t_493.2 (by decide) (by decide)) dX12_readLine_160 (fun H locs ar_516 ear_516 hP hS => ?_)
                  have hA_ar_516 : rA ar_516 := rA_put hA_ar_507 ear_516 (iv_any _)
                  refine lv_iload_n hx hb dX12_readLine_161 rfl (lv_at hl 1 rfl) ?_
                  refine lv_bipush (v := 6) hx hb dX12_readLine_162 (by decide) ?_
                  refine lv_icmp_ne (tgt := 178) hx hb dX12_readLine_164 (by decide) (fun c_517 => ?_) (fun c_517 => ?_)
                  · skip
                    exact absurd True.intro (by have h7 := i_485; have h8 := (⟨by decide, by decide⟩ : (6 : Int) ≤ (6 : Int32).toInt ∧ (6 : Int32).toInt ≤ 6); have h9 : ¬ _ := fun q => c_517 (Int32.toInt_inj.mp q); exfalso; omega)
                  · skip
                    refine lv_aload_n hx hb dX12_readLine_167 rfl (lv_at hl 2 rfl) ?_
                    refine gM_48 hx hb htg hown hK hP dX12_readLine_168 ?_
                    refine lv_bipush (v := 10) hx hb dX12_readLine_171 (by decide) ?_
                    refine lv_aload_n hx hb dX12_readLine_173 rfl (lv_at hl 2 rfl) ?_
                    refine gM_41 hx hb htg hown hK hP dX12_readLine_174 ?_
                    refine sM_48 hx hb hK hP hS hd (iv_in (⟨by decide, by decide⟩ : (10 : Int) ≤ (10 : Int32).toInt ∧ (10 : Int32).toInt ≤ 10) (by decide) (by decide)) dX12_readLine_177 (fun H locs ar_519 ear_519 hP hS => ?_)
                    have hA_ar_519 : rA ar_519 := rA_put hA_ar_516 ear_519 (iv_any _)
                    refine lv_aload_n hx hb dX12_readLine_178 rfl (lv_at hl 2 rfl) ?_
                    refine va_callv (va_runV (As := []) (rest := []) ⟨hx, hb, hml, hown, hts⟩ (m_go l dC dI H.size h ad cA hd fv_505 wd_506 ar_519 hF_fv_505 hA_ar_519) (cwV 0 hts (gV kw_8_60 kw_8_62 kw_p_64 kw_1_15 kw_8_63) rfl rfl rfl (by decide +kernel) ⟨Nat.le_of_ble_eq_true rfl, Nat.le_of_ble_eq_true rfl⟩) ⟨fun a U g mk q => ⟨q.1, q.2.1, q.2.2.1, va_K.moved (u := U) (U := U.calling g mk a) (Vm.Alike.refl U.vm) q.2.2.2⟩, va_recv hK hP (ci := 12) (q0 := 0) rfl rfl, fun U hU hW => ⟨rfl, by rw [hU], by rw [hU]; exact hP, va_K.moved hW.alike hK⟩⟩ rfl rfl hl.1 rfl (lv_room (Nat.le_of_ble_eq_true rfl)) dX12_readLine_179 ⟨Nat.le_of_ble_eq_true rfl, Nat.le_of_ble_eq_true rfl⟩) hS (fun q _ h9 => aM_up hS q h9) (aM_up hS) (fun u t H1 locs ht _ hw hB _ hk1 hS => ?_)
                    obtain ⟨fv_521, wd_522, ar_523⟩ := u
                    obtain ⟨hF_fv_521, hA_ar_523, fr_524, fa_525, -⟩ := hw
                    have hP : va_P (dC, dI) vwCl (wsM h ad cA fv_521 wd_522 ar_523) H1 := by have h9 := hB.1; rw [ht] at h9; exact h9
                    have fr_524 : fM [38, 39, 40, 41, 42] fv_505 fv_521 := fr_524
                    have fa_525 : fA [] ar_519 ar_523 := fa_525
                    generalize H1 = H at hP hS ⊢
                    refine lv_iload_n hx hb dX12_readLine_182 rfl (lv_at hl 1 rfl) ?_
                    refine lv_bipush (v := 6) hx hb dX12_readLine_183 (by decide) ?_
                    refine lv_icmp_eq (tgt := 218) hx hb dX12_readLine_185 (by decide) (fun c_526 => ?_) (fun c_526 => ?_)
                    · skip
                      have z_528 : (fv_521 59).toInt = (fv 59).toInt := congrArg Int32.toInt ((fr_524 59 rfl).trans ((fr_508 59 rfl).trans ((congrFun efv_503 59).trans ((fr_6 59 rfl)))))
                      have z_529 : 0 ≤ (fv_521 59).toInt ∧ (fv_521 59).toInt ≤ 16 := hF_fv_521 59
                      have z_530 : (fv_521 60).toInt = (fv 60).toInt := congrArg Int32.toInt ((fr_524 60 rfl).trans ((fr_508 60 rfl).trans ((congrFun efv_503 60).trans ((fr_6 60 rfl)))))
                      have z_531 : 0 ≤ (fv_521 60).toInt ∧ (fv_521 60).toInt ≤ 120 := hF_fv_521 60
                      have z_532 : (fv_521 62).toInt = (fv 62).toInt := congrArg Int32.toInt ((fr_524 62 rfl).trans ((fr_508 62 rfl).trans ((congrFun efv_503 62).trans ((fr_6 62 rfl)))))
                      have z_533 : 0 ≤ (fv_521 62).toInt ∧ (fv_521 62).toInt ≤ 50 := hF_fv_521 62
                      have z_534 : (fv_521 63).toInt = (fv 63).toInt := congrArg Int32.toInt ((fr_524 63 rfl).trans ((fr_508 63 rfl).trans ((congrFun efv_503 63).trans ((fr_6 63 rfl)))))
                      have z_535 : (-100) ≤ (fv_521 63).toInt ∧ (fv_521 63).toInt ≤ 10 := hF_fv_521 63
                      have q_536 : vP (ar_523 54) (1200 + (fv 60).toInt.toNat) (1200 + (fv_521 60).toInt.toNat) := (by rw [show (fv_521 60).toInt.toNat = (fv 60).toInt.toNat from by omega]; exact vP_nil _ _)
                      have q_537 : (fv_521 60).toInt ≤ 2 * (fv_521 62).toInt := (by omega)
                      have q_538 : 0 ≤ (fv_521 63).toInt + (fv_521 62).toInt := (by omega)
                      refine lv_aload_n hx hb dX12_readLine_218 rfl (lv_at hl 2 rfl) ?_
                      refine gM_53 hx hb htg hown hK hP dX12_readLine_219 ?_
                      refine lv_iload_n hx hb dX12_readLine_222 rfl (lv_at hl 0 rfl) ?_
                      refine lv_aload_n hx hb dX12_readLine_223 rfl (lv_at hl 2 rfl) ?_
                      refine gM_60 hx hb htg hown hK hP dX12_readLine_224 ?_
                      refine my_ti (y := fv 60) ((fr_524 60 rfl).trans ((fr_508 60 rfl).trans ((congrFun efv_503 60).trans ((fr_6 60 rfl))))) ?_
                      refine sM_53 hx hb hK hP hS hd (iv_in t_493.2 (by decide) (by decide)) dX12_readLine_227 (fun H locs ar_539 ear_539 hP hS => ?_)
                      have hA_ar_539 : rA ar_539 := rA_put hA_ar_523 ear_539 i_497
                      have hp_540 : vM fv_521 ar_539 := vM_53 (vM_fr hp_499 (fM_call (fM_call (fM_put (fM_rf [38, 39, 40, 41, 42, 45] _) efv_503 (by decide)) fr_508 (by decide)) fr_524 (by decide)) (fA_call (fA_put (fA_put (fA_call (fA_rf [48, 51] _) fa_509 (by decide)) ear_516 (by decide)) ear_519 (by decide)) fa_525 (by decide)) rfl rfl rfl rfl rfl) hA_ar_523 ear_539 (by have h58 : (0 : Int) ≤ (fv_521 58).toInt ∧ (fv_521 58).toInt ≤ 10 := hF_fv_521 58; have h57 : (fv_521 58).toInt = (fv 58).toInt := congrArg Int32.toInt ((fr_524 58 rfl).trans ((fr_508 58 rfl).trans ((congrFun efv_503 58).trans ((fr_6 58 rfl))))); show _ ≤ ((v_492.toInt.toNat : Nat) : Int); omega)
                      have hp_541 : rL fv_521 ar_539 := rL_53 (rL_fr hp_500 (fM_call (fM_call (fM_put (fM_rf [38, 39, 40, 41, 42, 45] _) efv_503 (by decide)) fr_508 (by decide)) fr_524 (by decide)) (fA_call (fA_put (fA_put (fA_call (fA_rf [48, 51] _) fa_509 (by decide)) ear_516 (by decide)) ear_519 (by decide)) fa_525 (by decide)) rfl rfl rfl rfl rfl) ear_539 (by have h57 : (fv_521 59).toInt = (fv 59).toInt := congrArg Int32.toInt ((fr_524 59 rfl).trans ((fr_508 59 rfl).trans ((congrFun efv_503 59).trans ((fr_6 59 rfl))))); show ((v_492.toInt.toNat : Nat) : Int) < 160 ∨ _ ≤ ((v_492.toInt.toNat : Nat) : Int); omega)
                      refine lv_aload_n hx hb dX12_readLine_228 rfl (lv_at hl 2 rfl) ?_
                      refine lv_dup hx hb dX12_readLine_229 rfl ?_
                      refine gM_59 hx hb htg hown hK hP dX12_readLine_230 ?_
                      refine my_ti (y := fv 59) ((fr_524 59 rfl).trans ((fr_508 59 rfl).trans ((congrFun efv_503 59).trans ((fr_6 59 rfl))))) ?_
                      refine lv_iconst (v := 1) hx hb dX12_readLine_233 (by decide) ?_
                      refine lv_iadd hx hb dX12_readLine_234 ?_
                      refine lv_topi (fun v_542 ev_542 => ?_)
                      have t_543 : v_542.toInt = (fv 59).toInt + 1 ∧ 1 ≤ v_542.toInt ∧ v_542.toInt ≤ 16 := iv_addc ev_542 i_23 (by decide) (by decide) (by decide)
                      refine pM_59 hx hb htg hown hK hP hS hd dX12_readLine_235 (fun H locs fv_545 efv_545 hP hS => ?_)
                      have hF_fv_545 : rF fv_545 := rF_put hF_fv_521 efv_545 (iv_w t_543.2 (by decide) (by decide))
                      have z_546 : (fv_545 59).toInt = v_542.toInt := congrArg Int32.toInt ((congrFun efv_545 59))
                      have z_547 : 0 ≤ (fv_545 59).toInt ∧ (fv_545 59).toInt ≤ 16 := hF_fv_545 59
                      have z_548 : (fv_545 60).toInt = (fv 60).toInt := congrArg Int32.toInt ((congrFun efv_545 60).trans ((fr_524 60 rfl).trans ((fr_508 60 rfl).trans ((congrFun efv_503 60).trans ((fr_6 60 rfl))))))
                      have z_549 : 0 ≤ (fv_545 60).toInt ∧ (fv_545 60).toInt ≤ 120 := hF_fv_545 60
                      have z_550 : (fv_545 62).toInt = (fv 62).toInt := congrArg Int32.toInt ((congrFun efv_545 62).trans ((fr_524 62 rfl).trans ((fr_508 62 rfl).trans ((congrFun efv_503 62).trans ((fr_6 62 rfl))))))
                      have z_551 : 0 ≤ (fv_545 62).toInt ∧ (fv_545 62).toInt ≤ 50 := hF_fv_545 62
                      have z_552 : (fv_545 63).toInt = (fv 63).toInt := congrArg Int32.toInt ((congrFun efv_545 63).trans ((fr_524 63 rfl).trans ((fr_508 63 rfl).trans ((congrFun efv_503 63).trans ((fr_6 63 rfl))))))
                      have z_553 : (-100) ≤ (fv_545 63).toInt ∧ (fv_545 63).toInt ≤ 10 := hF_fv_545 63
                      have g_554 : ar_539 53 = upd (ar_523 53) (v_492.toInt.toNat) (fv 60) := by rw [ear_539]; rfl
                      have g_555 : ar_523 52 (160 + (fv_521 59).toInt.toNat) = (fv 60) := by rw [((fA_call (fA_put (fA_put (fA_call (fA_rf [48, 51] _) fa_509 (by decide)) ear_516 (by decide)) ear_519 (by decide)) fa_525 (by decide)) 52 rfl), ear_498]; show upd _ (v_492.toInt.toNat) _ _ = _; rw [show v_492.toInt.toNat = 160 + (fv_521 59).toInt.toNat from by omega]; exact up_eq
                      have hp_556 : rL fv_545 ar_539 := rL_add (i := v_492.toInt.toNat) (x := (fv 60)) (rL_fr hp_500 (fM_call (fM_call (fM_put (fM_rf [38, 39, 40, 41, 42, 45] _) efv_503 (by decide)) fr_508 (by decide)) fr_524 (by decide)) (fA_call (fA_put (fA_put (fA_call (fA_rf [48, 51] _) fa_509 (by decide)) ear_516 (by decide)) ear_519 (by decide)) fa_525 (by decide)) rfl rfl rfl rfl rfl) (by omega) (by omega) (by omega) ((fA_put (fA_rf [53] _) ear_539 (by decide)) 54 rfl) ((fA_put (fA_rf [53] _) ear_539 (by decide)) 52 rfl) (by rw [g_554]) (by omega) (by omega) (by rw [g_555]; exact q_536)
                      refine lv_aload_n hx hb dX12_readLine_238 rfl (lv_at hl 2 rfl) ?_
                      refine lv_bipush (v := 59) hx hb dX12_readLine_239 (by decide) ?_
                      refine va_calli (va_runV (As := [.int 59]) (rest := []) ⟨hx, hb, hml, hown, hts⟩ (m_isSign l dC dI H.size h ad cA hd fv_545 wd_522 ar_539 hF_fv_545 hA_ar_539 59) (cwV 1 hts (gV kw_8_117 kw_8_119 kw_p_74 kw_1_15 kw_8_120) rfl rfl rfl (by decide +kernel) ⟨Nat.le_of_ble_eq_true rfl, Nat.le_of_ble_eq_true rfl⟩) ⟨fun a U g mk q => ⟨q.1, q.2.1, q.2.2.1, va_K.moved (u := U) (U := U.calling g mk a) (Vm.Alike.refl U.vm) q.2.2.2⟩, va_recv hK hP (ci := 12) (q0 := 0) rfl rfl, fun U hU hW => ⟨rfl, by rw [hU], by rw [hU]; exact hP, va_K.moved hW.alike hK⟩⟩ rfl rfl hl.1 rfl (lv_room (Nat.le_of_ble_eq_true rfl)) dX12_readLine_241 ⟨Nat.le_of_ble_eq_true rfl, Nat.le_of_ble_eq_true rfl⟩) hS (fun q _ h9 => aM_up hS q h9) (aM_up hS) (fun r_557 u t H1 locs ht _ hw hB _ hk1 hS => ?_)
                      obtain ⟨fv_559, wd_560, ar_561⟩ := u
                      obtain ⟨hF_fv_559, hA_ar_561, fr_562, fa_563, p_558, -⟩ := hw
                      have hP : va_P (dC, dI) vwCl (wsM h ad cA fv_559 wd_560 ar_561) H1 := by have h9 := hB.1; rw [ht] at h9; exact h9
                      have fr_562 : fM [] fv_545 fv_559 := fr_562
                      have fa_563 : fA [] ar_539 ar_561 := fa_563
                      generalize H1 = H at hP hS ⊢
                      refine lv_if_ne (tgt := 255) hx hb dX12_readLine_244 (by decide) (fun c_564 => ?_) (fun c_564 => ?_)
                      · skip
                        have i_565 : 1 ≤ r_557.toInt ∧ r_557.toInt ≤ 1 := iv_nel p_558 (by decide) c_564
                        have k_566 : ¬ r_557.toInt = 0 := fun q => c_564 (Int32.toInt_inj.mp q)
                        refine lv_iconst (v := 1) hx hb dX12_readLine_255 (by decide) ?_
                        refine lv_goto (tgt := 260) hx hb dX12_readLine_256 (by decide) ?_
                        have z_567 : (fv_559 59).toInt = v_542.toInt := congrArg Int32.toInt ((fr_562 59 rfl).trans ((congrFun efv_545 59)))
                        have z_568 : 0 ≤ (fv_559 59).toInt ∧ (fv_559 59).toInt ≤ 16 := hF_fv_559 59
                        have z_569 : (fv_559 60).toInt = (fv 60).toInt := congrArg Int32.toInt ((fr_562 60 rfl).trans ((congrFun efv_545 60).trans ((fr_524 60 rfl).trans ((fr_508 60 rfl).trans ((congrFun efv_503 60).trans ((fr_6 60 rfl)))))))
                        have z_570 : 0 ≤ (fv_559 60).toInt ∧ (fv_559 60).toInt ≤ 120 := hF_fv_559 60
                        have z_571 : (fv_559 62).toInt = (fv 62).toInt := congrArg Int32.toInt ((fr_562 62 rfl).trans ((congrFun efv_545 62).trans ((fr_524 62 rfl).trans ((fr_508 62 rfl).trans ((congrFun efv_503 62).trans ((fr_6 62 rfl)))))))
                        have z_572 : 0 ≤ (fv_559 62).toInt ∧ (fv_559 62).toInt ≤ 50 := hF_fv_559 62
                        have z_573 : (fv_559 63).toInt = (fv 63).toInt := congrArg Int32.toInt ((fr_562 63 rfl).trans ((congrFun efv_545 63).trans ((fr_524 63 rfl).trans ((fr_508 63 rfl).trans ((congrFun efv_503 63).trans ((fr_6 63 rfl)))))))
                        have z_574 : (-100) ≤ (fv_559 63).toInt ∧ (fv_559 63).toInt ≤ 10 := hF_fv_559 63
                        exact W.zret (v := 1) hx hb hr (by decide) (fun t ht hW => ⟨⟨1, (fv_559, wd_560, ar_561), rfl, ⟨hF_fv_559, hA_ar_561, (fM_call (fM_put (fM_call (fM_call (fM_put (fM_call (fM_rf [38, 39, 40, 41, 42, 43, 44, 45, 59, 60, 61, 62, 63] _) fr_6 (by decide)) efv_503 (by decide)) fr_508 (by decide)) fr_524 (by decide)) efv_545 (by decide)) fr_562 (by decide)), (fA_call (fA_put (fA_call (fA_put (fA_put (fA_call (fA_put (fA_put (fA_put (fA_call (fA_rf [48, 50, 51, 52, 53, 54, 55, 56, 57] _) fa_7 (by decide)) ear_495 (by decide)) ear_496 (by decide)) ear_498 (by decide)) fa_509 (by decide)) ear_516 (by decide)) ear_519 (by decide)) fa_525 (by decide)) ear_539 (by decide)) fa_563 (by decide)), (iv_w (⟨by decide, by decide⟩ : (1 : Int) ≤ (1 : Int32).toInt ∧ (1 : Int32).toInt ≤ 1) (by decide) (by decide)), (Or.inr (⟨rfl, ⟨(rL_fr hp_556 (fM_call (fM_rf [] _) fr_562 (by decide)) (fA_call (fA_rf [] _) fa_563 (by decide)) rfl rfl rfl rfl rfl), show (fv_559 60).toInt ≤ 2 * (fv_559 62).toInt from by omega, show 0 ≤ (fv_559 63).toInt + (fv_559 62).toInt from by omega, show (fv_559 59).toInt = (fv 59).toInt + 1 from by omega⟩⟩)), (vM_fr hp_540 (fM_call (fM_put (fM_rf [59] _) efv_545 (by decide)) fr_562 (by decide)) (fA_call (fA_rf [] _) fa_563 (by decide)) rfl rfl rfl rfl rfl), trivial⟩, ⟨by rw [ht]; exact hP, va_K.moved hW.alike hK⟩⟩, hS.F ht⟩) hS.2.2 dX12_readLine_260
                      · skip
                        have i_575 : 0 ≤ r_557.toInt ∧ r_557.toInt ≤ 0 := iv_eq1 (⟨by decide, by decide⟩ : (0 : Int) ≤ (0 : Int32).toInt ∧ (0 : Int32).toInt ≤ 0) c_564
                        refine lv_aload_n hx hb dX12_readLine_247 rfl (lv_at hl 2 rfl) ?_
                        refine lv_iconst (v := 1) hx hb dX12_readLine_248 (by decide) ?_
                        refine va_calli (va_runV (As := [.int 1]) (rest := []) ⟨hx, hb, hml, hown, hts⟩ (m_bad l dC dI H.size h ad cA hd fv_559 wd_560 ar_561 hF_fv_559 hA_ar_561 1) (cwV 1 hts (gV kw_8_94 kw_8_96 kw_p_69 kw_1_15 kw_8_97) rfl rfl rfl (by decide +kernel) ⟨Nat.le_of_ble_eq_true rfl, Nat.le_of_ble_eq_true rfl⟩) ⟨fun a U g mk q => ⟨q.1, q.2.1, q.2.2.1, va_K.moved (u := U) (U := U.calling g mk a) (Vm.Alike.refl U.vm) q.2.2.2⟩, va_recv hK hP (ci := 12) (q0 := 0) rfl rfl, fun U hU hW => ⟨rfl, by rw [hU], by rw [hU]; exact hP, va_K.moved hW.alike hK⟩⟩ rfl rfl hl.1 rfl (lv_room (Nat.le_of_ble_eq_true rfl)) dX12_readLine_249 ⟨Nat.le_of_ble_eq_true rfl, Nat.le_of_ble_eq_true rfl⟩) hS (fun q _ h9 => aM_up hS q h9) (aM_up hS) (fun r_577 u t H1 locs ht _ hw hB _ hk1 hS => ?_)
                        obtain ⟨fv_580, wd_581, ar_582⟩ := u
                        obtain ⟨hF_fv_580, hA_ar_582, fr_583, fa_584, p_578, p_579, -⟩ := hw
                        have hP : va_P (dC, dI) vwCl (wsM h ad cA fv_580 wd_581 ar_582) H1 := by have h9 := hB.1; rw [ht] at h9; exact h9
                        have fr_583 : fM [43, 44] fv_559 fv_580 := fr_583
                        have fa_584 : fA [] ar_561 ar_582 := fa_584
                        generalize H1 = H at hP hS ⊢
                        rcases p_579 with ⟨rfl, p_579⟩
                        · skip
                          refine lv_if_eq (tgt := 259) hx hb dX12_readLine_252 (by decide) (fun c_585 => ?_) (fun c_585 => ?_)
                          · skip
                            refine lv_iconst (v := 0) hx hb dX12_readLine_259 (by decide) ?_
                            have z_586 : (fv_580 59).toInt = v_542.toInt := congrArg Int32.toInt ((fr_583 59 rfl).trans ((fr_562 59 rfl).trans ((congrFun efv_545 59))))
                            have z_587 : 0 ≤ (fv_580 59).toInt ∧ (fv_580 59).toInt ≤ 16 := hF_fv_580 59
                            have z_588 : (fv_580 60).toInt = (fv 60).toInt := congrArg Int32.toInt ((fr_583 60 rfl).trans ((fr_562 60 rfl).trans ((congrFun efv_545 60).trans ((fr_524 60 rfl).trans ((fr_508 60 rfl).trans ((congrFun efv_503 60).trans ((fr_6 60 rfl))))))))
                            have z_589 : 0 ≤ (fv_580 60).toInt ∧ (fv_580 60).toInt ≤ 120 := hF_fv_580 60
                            have z_590 : (fv_580 62).toInt = (fv 62).toInt := congrArg Int32.toInt ((fr_583 62 rfl).trans ((fr_562 62 rfl).trans ((congrFun efv_545 62).trans ((fr_524 62 rfl).trans ((fr_508 62 rfl).trans ((congrFun efv_503 62).trans ((fr_6 62 rfl))))))))
                            have z_591 : 0 ≤ (fv_580 62).toInt ∧ (fv_580 62).toInt ≤ 50 := hF_fv_580 62
                            have z_592 : (fv_580 63).toInt = (fv 63).toInt := congrArg Int32.toInt ((fr_583 63 rfl).trans ((fr_562 63 rfl).trans ((congrFun efv_545 63).trans ((fr_524 63 rfl).trans ((fr_508 63 rfl).trans ((congrFun efv_503 63).trans ((fr_6 63 rfl))))))))
                            have z_593 : (-100) ≤ (fv_580 63).toInt ∧ (fv_580 63).toInt ≤ 10 := hF_fv_580 63
                            exact W.zret (v := 0) hx hb hr (by decide) (fun t ht hW => ⟨⟨0, (fv_580, wd_581, ar_582), rfl, ⟨hF_fv_580, hA_ar_582, (fM_call (fM_call (fM_put (fM_call (fM_call (fM_put (fM_call (fM_rf [38, 39, 40, 41, 42, 43, 44, 45, 59, 60, 61, 62, 63] _) fr_6 (by decide)) efv_503 (by decide)) fr_508 (by decide)) fr_524 (by decide)) efv_545 (by decide)) fr_562 (by decide)) fr_583 (by decide)), (fA_call (fA_call (fA_put (fA_call (fA_put (fA_put (fA_call (fA_put (fA_put (fA_put (fA_call (fA_rf [48, 50, 51, 52, 53, 54, 55, 56, 57] _) fa_7 (by decide)) ear_495 (by decide)) ear_496 (by decide)) ear_498 (by decide)) fa_509 (by decide)) ear_516 (by decide)) ear_519 (by decide)) fa_525 (by decide)) ear_539 (by decide)) fa_563 (by decide)) fa_584 (by decide)), (iv_w (⟨by decide, by decide⟩ : (0 : Int) ≤ (0 : Int32).toInt ∧ (0 : Int32).toInt ≤ 0) (by decide) (by decide)), (Or.inl ⟨rfl, trivial⟩), (vM_fr hp_540 (fM_call (fM_call (fM_put (fM_rf [43, 44, 59] _) efv_545 (by decide)) fr_562 (by decide)) fr_583 (by decide)) (fA_call (fA_call (fA_rf [] _) fa_563 (by decide)) fa_584 (by decide)) rfl rfl rfl rfl rfl), trivial⟩, ⟨by rw [ht]; exact hP, va_K.moved hW.alike hK⟩⟩, hS.F ht⟩) hS.2.2 dX12_readLine_260
                          · skip
                            exact absurd c_585 (by decide)
                    · skip
                      exact absurd True.intro (by have h7 := i_485; have h8 := (⟨by decide, by decide⟩ : (6 : Int) ≤ (6 : Int32).toInt ∧ (6 : Int32).toInt ≤ 6); have h9 : ¬ _ := fun q => c_526 (Int32.toInt_inj.mp q); exfalso; omega)
                · skip
                  have i_594 : 2001 ≤ (fv_505 41).toInt ∧ (fv_505 41).toInt ≤ 2147483647 := iv_lt2 (⟨by decide, by decide⟩ : (2000 : Int) ≤ (2000 : Int32).toInt ∧ (2000 : Int32).toInt ≤ 2000) (iv_any (fv_505 41)) (Int32.not_le.mp c_514)
                  refine lv_aload_n hx hb dX12_readLine_145 rfl (lv_at hl 2 rfl) ?_
                  refine lv_iconst (v := 2) hx hb dX12_readLine_146 (by decide) ?_
                  refine va_calli (va_runV (As := [.int 2]) (rest := []) ⟨hx, hb, hml, hown, hts⟩ (m_bad l dC dI H.size h ad cA hd fv_505 wd_506 ar_507 hF_fv_505 hA_ar_507 2) (cwV 1 hts (gV kw_8_94 kw_8_96 kw_p_69 kw_1_15 kw_8_97) rfl rfl rfl (by decide +kernel) ⟨Nat.le_of_ble_eq_true rfl, Nat.le_of_ble_eq_true rfl⟩) ⟨fun a U g mk q => ⟨q.1, q.2.1, q.2.2.1, va_K.moved (u := U) (U := U.calling g mk a) (Vm.Alike.refl U.vm) q.2.2.2⟩, va_recv hK hP (ci := 12) (q0 := 0) rfl rfl, fun U hU hW => ⟨rfl, by rw [hU], by rw [hU]; exact hP, va_K.moved hW.alike hK⟩⟩ rfl rfl hl.1 rfl (lv_room (Nat.le_of_ble_eq_true rfl)) dX12_readLine_147 ⟨Nat.le_of_ble_eq_true rfl, Nat.le_of_ble_eq_true rfl⟩) hS (fun q _ h9 => aM_up hS q h9) (aM_up hS) (fun r_595 u t H1 locs ht _ hw hB _ hk1 hS => ?_)
                  obtain ⟨fv_598, wd_599, ar_600⟩ := u
                  obtain ⟨hF_fv_598, hA_ar_600, fr_601, fa_602, p_596, p_597, -⟩ := hw
                  have hP : va_P (dC, dI) vwCl (wsM h ad cA fv_598 wd_599 ar_600) H1 := by have h9 := hB.1; rw [ht] at h9; exact h9
                  have fr_601 : fM [43, 44] fv_505 fv_598 := fr_601
                  have fa_602 : fA [] ar_507 ar_600 := fa_602
                  generalize H1 = H at hP hS ⊢
                  rcases p_597 with ⟨rfl, p_597⟩
                  · skip
                    exact W.zret (v := 0) hx hb hr (by decide) (fun t ht hW => ⟨⟨0, (fv_598, wd_599, ar_600), rfl, ⟨hF_fv_598, hA_ar_600, (fM_call (fM_call (fM_put (fM_call (fM_rf [38, 39, 40, 41, 42, 43, 44, 45, 59, 60, 61, 62, 63] _) fr_6 (by decide)) efv_503 (by decide)) fr_508 (by decide)) fr_601 (by decide)), (fA_call (fA_call (fA_put (fA_put (fA_put (fA_call (fA_rf [48, 50, 51, 52, 53, 54, 55, 56, 57] _) fa_7 (by decide)) ear_495 (by decide)) ear_496 (by decide)) ear_498 (by decide)) fa_509 (by decide)) fa_602 (by decide)), (iv_w (⟨by decide, by decide⟩ : (0 : Int) ≤ (0 : Int32).toInt ∧ (0 : Int32).toInt ≤ 0) (by decide) (by decide)), (Or.inl ⟨rfl, trivial⟩), (vM_fr hp_499 (fM_call (fM_call (fM_put (fM_rf [38, 39, 40, 41, 42, 43, 44, 45] _) efv_503 (by decide)) fr_508 (by decide)) fr_601 (by decide)) (fA_call (fA_call (fA_rf [] _) fa_509 (by decide)) fa_602 (by decide)) rfl rfl rfl rfl rfl), trivial⟩, ⟨by rw [ht]; exact hP, va_K.moved hW.alike hK⟩⟩, hS.F ht⟩) hS.2.2 dX12_readLine_150
              · skip
                have k_603 : ¬ (fv_505 40).toInt = 3 := fun q => c_511 (Int32.toInt_inj.mp q)
                refine lv_aload_n hx hb dX12_readLine_129 rfl (lv_at hl 2 rfl) ?_
                refine lv_iconst (v := 1) hx hb dX12_readLine_130 (by decide) ?_
                refine va_calli (va_runV (As := [.int 1]) (rest := []) ⟨hx, hb, hml, hown, hts⟩ (m_bad l dC dI H.size h ad cA hd fv_505 wd_506 ar_507 hF_fv_505 hA_ar_507 1) (cwV 1 hts (gV kw_8_94 kw_8_96 kw_p_69 kw_1_15 kw_8_97) rfl rfl rfl (by decide +kernel) ⟨Nat.le_of_ble_eq_true rfl, Nat.le_of_ble_eq_true rfl⟩) ⟨fun a U g mk q => ⟨q.1, q.2.1, q.2.2.1, va_K.moved (u := U) (U := U.calling g mk a) (Vm.Alike.refl U.vm) q.2.2.2⟩, va_recv hK hP (ci := 12) (q0 := 0) rfl rfl, fun U hU hW => ⟨rfl, by rw [hU], by rw [hU]; exact hP, va_K.moved hW.alike hK⟩⟩ rfl rfl hl.1 rfl (lv_room (Nat.le_of_ble_eq_true rfl)) dX12_readLine_131 ⟨Nat.le_of_ble_eq_true rfl, Nat.le_of_ble_eq_true rfl⟩) hS (fun q _ h9 => aM_up hS q h9) (aM_up hS) (fun r_604 u t H1 locs ht _ hw hB _ hk1 hS => ?_)
                obtain ⟨fv_607, wd_608, ar_609⟩ := u
                obtain ⟨hF_fv_607, hA_ar_609, fr_610, fa_611, p_605, p_606, -⟩ := hw
                have hP : va_P (dC, dI) vwCl (wsM h ad cA fv_607 wd_608 ar_609) H1 := by have h9 := hB.1; rw [ht] at h9; exact h9
                have fr_610 : fM [43, 44] fv_505 fv_607 := fr_610
                have fa_611 : fA [] ar_507 ar_609 := fa_611
                generalize H1 = H at hP hS ⊢
                rcases p_606 with ⟨rfl, p_606⟩
                · skip
                  exact W.zret (v := 0) hx hb hr (by decide) (fun t ht hW => ⟨⟨0, (fv_607, wd_608, ar_609), rfl, ⟨hF_fv_607, hA_ar_609, (fM_call (fM_call (fM_put (fM_call (fM_rf [38, 39, 40, 41, 42, 43, 44, 45, 59, 60, 61, 62, 63] _) fr_6 (by decide)) efv_503 (by decide)) fr_508 (by decide)) fr_610 (by decide)), (fA_call (fA_call (fA_put (fA_put (fA_put (fA_call (fA_rf [48, 50, 51, 52, 53, 54, 55, 56, 57] _) fa_7 (by decide)) ear_495 (by decide)) ear_496 (by decide)) ear_498 (by decide)) fa_509 (by decide)) fa_611 (by decide)), (iv_w (⟨by decide, by decide⟩ : (0 : Int) ≤ (0 : Int32).toInt ∧ (0 : Int32).toInt ≤ 0) (by decide) (by decide)), (Or.inl ⟨rfl, trivial⟩), (vM_fr hp_499 (fM_call (fM_call (fM_put (fM_rf [38, 39, 40, 41, 42, 43, 44, 45] _) efv_503 (by decide)) fr_508 (by decide)) fr_610 (by decide)) (fA_call (fA_call (fA_rf [] _) fa_509 (by decide)) fa_611 (by decide)) rfl rfl rfl rfl rfl), trivial⟩, ⟨by rw [ht]; exact hP, va_K.moved hW.alike hK⟩⟩, hS.F ht⟩) hS.2.2 dX12_readLine_134
            · skip
              exact absurd True.intro (by have h7 := i_485; have h8 := (⟨by decide, by decide⟩ : (2 : Int) ≤ (2 : Int32).toInt ∧ (2 : Int32).toInt ≤ 2); have h9 := Int32.lt_iff_toInt_lt.mp (Int32.not_le.mp c_510); exfalso; omega)
        · skip
          have i_612 : 1 ≤ v_487.toInt ∧ v_487.toInt ≤ 1 := iv_eq1 (⟨by decide, by decide⟩ : (1 : Int) ≤ (1 : Int32).toInt ∧ (1 : Int32).toInt ≤ 1) c_489
          refine lv_aload_n hx hb dX12_readLine_41 rfl (lv_at hl 1 rfl) ?_
          refine lv_iconst (v := 3) hx hb dX12_readLine_42 (by decide) ?_
          refine va_calli (va_runV (As := [.int 3]) (rest := []) ⟨hx, hb, hml, hown, hts⟩ (m_bad l dC dI H.size h ad cA hd fv_3 wd_4 ar_5 hF_fv_3 hA_ar_5 3) (cwV 1 hts (gV kw_8_94 kw_8_96 kw_p_69 kw_1_15 kw_8_97) rfl rfl rfl (by decide +kernel) ⟨Nat.le_of_ble_eq_true rfl, Nat.le_of_ble_eq_true rfl⟩) ⟨fun a U g mk q => ⟨q.1, q.2.1, q.2.2.1, va_K.moved (u := U) (U := U.calling g mk a) (Vm.Alike.refl U.vm) q.2.2.2⟩, va_recv hK hP (ci := 12) (q0 := 0) rfl rfl, fun U hU hW => ⟨rfl, by rw [hU], by rw [hU]; exact hP, va_K.moved hW.alike hK⟩⟩ rfl rfl hl.1 rfl (lv_room (Nat.le_of_ble_eq_true rfl)) dX12_readLine_43 ⟨Nat.le_of_ble_eq_true rfl, Nat.le_of_ble_eq_true rfl⟩) hS (fun q _ h9 => aM_up hS q h9) (aM_up hS) (fun r_614 u t H1 locs ht _ hw hB _ hk1 hS => ?_)
          obtain ⟨fv_617, wd_618, ar_619⟩ := u
          obtain ⟨hF_fv_617, hA_ar_619, fr_620, fa_621, p_615, p_616, -⟩ := hw
          have hP : va_P (dC, dI) vwCl (wsM h ad cA fv_617 wd_618 ar_619) H1 := by have h9 := hB.1; rw [ht] at h9; exact h9
          have fr_620 : fM [43, 44] fv_3 fv_617 := fr_620
          have fa_621 : fA [] ar_5 ar_619 := fa_621
          generalize H1 = H at hP hS ⊢
          rcases p_616 with ⟨rfl, p_616⟩
          · skip
            exact W.zret (v := 0) hx hb hr (by decide) (fun t ht hW => ⟨⟨0, (fv_617, wd_618, ar_619), rfl, ⟨hF_fv_617, hA_ar_619, (fM_call (fM_call (fM_rf [38, 39, 40, 41, 42, 43, 44, 45, 59, 60, 61, 62, 63] _) fr_6 (by decide)) fr_620 (by decide)), (fA_call (fA_call (fA_rf [48, 50, 51, 52, 53, 54, 55, 56, 57] _) fa_7 (by decide)) fa_621 (by decide)), (iv_w (⟨by decide, by decide⟩ : (0 : Int) ≤ (0 : Int32).toInt ∧ (0 : Int32).toInt ≤ 0) (by decide) (by decide)), (Or.inl ⟨rfl, trivial⟩), (vM_fr hp_vM (fM_call (fM_call (fM_rf [43, 44] _) fr_6 (by decide)) fr_620 (by decide)) (fA_call (fA_call (fA_rf [] _) fa_7 (by decide)) fa_621 (by decide)) rfl rfl rfl rfl rfl), trivial⟩, ⟨by rw [ht]; exact hP, va_K.moved hW.alike hK⟩⟩, hS.F ht⟩) hS.2.2 dX12_readLine_46
  · skip
    have i_622 : (-1) ≤ r_1.toInt ∧ r_1.toInt ≤ (-1) := iv_eq1 (⟨by decide, by decide⟩ : (-1 : Int) ≤ ((-1) : Int32).toInt ∧ ((-1) : Int32).toInt ≤ -1) c_8
    refine lv_aload_n hx hb dX12_readLine_10 rfl (lv_at hl 1 rfl) ?_
    refine lv_iconst (v := 1) hx hb dX12_readLine_11 (by decide) ?_
    refine va_calli (va_runV (As := [.int 1]) (rest := []) ⟨hx, hb, hml, hown, hts⟩ (m_bad l dC dI H.size h ad cA hd fv_3 wd_4 ar_5 hF_fv_3 hA_ar_5 1) (cwV 1 hts (gV kw_8_94 kw_8_96 kw_p_69 kw_1_15 kw_8_97) rfl rfl rfl (by decide +kernel) ⟨Nat.le_of_ble_eq_true rfl, Nat.le_of_ble_eq_true rfl⟩) ⟨fun a U g mk q => ⟨q.1, q.2.1, q.2.2.1, va_K.moved (u := U) (U := U.calling g mk a) (Vm.Alike.refl U.vm) q.2.2.2⟩, va_recv hK hP (ci := 12) (q0 := 0) rfl rfl, fun U hU hW => ⟨rfl, by rw [hU], by rw [hU]; exact hP, va_K.moved hW.alike hK⟩⟩ rfl rfl hl.1 rfl (lv_room (Nat.le_of_ble_eq_true rfl)) dX12_readLine_12 ⟨Nat.le_of_ble_eq_true rfl, Nat.le_of_ble_eq_true rfl⟩) hS (fun q _ h9 => aM_up hS q h9) (aM_up hS) (fun r_624 u t H1 locs ht _ hw hB _ hk1 hS => ?_)
    obtain ⟨fv_627, wd_628, ar_629⟩ := u
    obtain ⟨hF_fv_627, hA_ar_629, fr_630, fa_631, p_625, p_626, -⟩ := hw
    have hP : va_P (dC, dI) vwCl (wsM h ad cA fv_627 wd_628 ar_629) H1 := by have h9 := hB.1; rw [ht] at h9; exact h9
    have fr_630 : fM [43, 44] fv_3 fv_627 := fr_630
    have fa_631 : fA [] ar_5 ar_629 := fa_631
    generalize H1 = H at hP hS ⊢
    rcases p_626 with ⟨rfl, p_626⟩
    · skip
      exact W.zret (v := 0) hx hb hr (by decide) (fun t ht hW => ⟨⟨0, (fv_627, wd_628, ar_629), rfl, ⟨hF_fv_627, hA_ar_629, (fM_call (fM_call (fM_rf [38, 39, 40, 41, 42, 43, 44, 45, 59, 60, 61, 62, 63] _) fr_6 (by decide)) fr_630 (by decide)), (fA_call (fA_call (fA_rf [48, 50, 51, 52, 53, 54, 55, 56, 57] _) fa_7 (by decide)) fa_631 (by decide)), (iv_w (⟨by decide, by decide⟩ : (0 : Int) ≤ (0 : Int32).toInt ∧ (0 : Int32).toInt ≤ 0) (by decide) (by decide)), (Or.inl ⟨rfl, trivial⟩), (vM_fr hp_vM (fM_call (fM_call (fM_rf [43, 44] _) fr_6 (by decide)) fr_630 (by decide)) (fA_call (fA_call (fA_rf [] _) fa_7 (by decide)) fa_631 (by decide)) rfl rfl rfl rfl rfl), trivial⟩, ⟨by rw [ht]; exact hP, va_K.moved hW.alike hK⟩⟩, hS.F ht⟩) hS.2.2 dX12_readLine_15

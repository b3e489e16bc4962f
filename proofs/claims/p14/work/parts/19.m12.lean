theorem dX12_readLine_0 : decode cX12_readLine 0 = .ok (.aload_n 0, 1) := by decide +kernel
theorem dX12_readLine_1 : decode cX12_readLine 1 = .ok (.invokevirtual 382, 3) := by decide +kernel
theorem dX12_readLine_4 : decode cX12_readLine 4 = .ok (.istore_n 1, 1) := by decide +kernel
theorem dX12_readLine_5 : decode cX12_readLine 5 = .ok (.iload_n 1, 1) := by decide +kernel
theorem dX12_readLine_6 : decode cX12_readLine 6 = .ok (.iconst (-1), 1) := by decide +kernel
theorem dX12_readLine_7 : decode cX12_readLine 7 = .ok (.if_icmp .ne 9, 3) := by decide +kernel
theorem dX12_readLine_10 : decode cX12_readLine 10 = .ok (.aload_n 0, 1) := by decide +kernel
theorem dX12_readLine_11 : decode cX12_readLine 11 = .ok (.iconst 1, 1) := by decide +kernel
theorem dX12_readLine_12 : decode cX12_readLine 12 = .ok (.invokevirtual 357, 3) := by decide +kernel
theorem dX12_readLine_15 : decode cX12_readLine 15 = .ok (.ireturn, 1) := by decide +kernel
theorem dX12_readLine_16 : decode cX12_readLine 16 = .ok (.aload_n 0, 1) := by decide +kernel
theorem dX12_readLine_17 : decode cX12_readLine 17 = .ok (.getfield 385, 3) := by decide +kernel
theorem dX12_readLine_20 : decode cX12_readLine 20 = .ok (.bipush 16, 2) := by decide +kernel
theorem dX12_readLine_22 : decode cX12_readLine 22 = .ok (.if_icmp .eq 19, 3) := by decide +kernel
theorem dX12_readLine_25 : decode cX12_readLine 25 = .ok (.iload_n 1, 1) := by decide +kernel
theorem dX12_readLine_26 : decode cX12_readLine 26 = .ok (.bipush 6, 2) := by decide +kernel
theorem dX12_readLine_28 : decode cX12_readLine 28 = .ok (.if_icmp .ne 19, 3) := by decide +kernel
theorem dX12_readLine_31 : decode cX12_readLine 31 = .ok (.aload_n 0, 1) := by decide +kernel
theorem dX12_readLine_32 : decode cX12_readLine 32 = .ok (.getfield 388, 3) := by decide +kernel
theorem dX12_readLine_35 : decode cX12_readLine 35 = .ok (.iconst 1, 1) := by decide +kernel
theorem dX12_readLine_36 : decode cX12_readLine 36 = .ok (.iand, 1) := by decide +kernel
theorem dX12_readLine_37 : decode cX12_readLine 37 = .ok (.iconst 1, 1) := by decide +kernel
theorem dX12_readLine_38 : decode cX12_readLine 38 = .ok (.if_icmp .ne 9, 3) := by decide +kernel
theorem dX12_readLine_41 : decode cX12_readLine 41 = .ok (.aload_n 0, 1) := by decide +kernel
theorem dX12_readLine_42 : decode cX12_readLine 42 = .ok (.iconst 3, 1) := by decide +kernel
theorem dX12_readLine_43 : decode cX12_readLine 43 = .ok (.invokevirtual 357, 3) := by decide +kernel
theorem dX12_readLine_46 : decode cX12_readLine 46 = .ok (.ireturn, 1) := by decide +kernel
theorem dX12_readLine_47 : decode cX12_readLine 47 = .ok (.sipush 160, 3) := by decide +kernel
theorem dX12_readLine_50 : decode cX12_readLine 50 = .ok (.aload_n 0, 1) := by decide +kernel
theorem dX12_readLine_51 : decode cX12_readLine 51 = .ok (.getfield 385, 3) := by decide +kernel
theorem dX12_readLine_54 : decode cX12_readLine 54 = .ok (.iadd, 1) := by decide +kernel
theorem dX12_readLine_55 : decode cX12_readLine 55 = .ok (.istore_n 2, 1) := by decide +kernel
theorem dX12_readLine_56 : decode cX12_readLine 56 = .ok (.aload_n 0, 1) := by decide +kernel
theorem dX12_readLine_57 : decode cX12_readLine 57 = .ok (.getfield 97, 3) := by decide +kernel
theorem dX12_readLine_60 : decode cX12_readLine 60 = .ok (.iload_n 2, 1) := by decide +kernel
theorem dX12_readLine_61 : decode cX12_readLine 61 = .ok (.iload_n 1, 1) := by decide +kernel
theorem dX12_readLine_62 : decode cX12_readLine 62 = .ok (.iastore, 1) := by decide +kernel
theorem dX12_readLine_63 : decode cX12_readLine 63 = .ok (.aload_n 0, 1) := by decide +kernel
theorem dX12_readLine_64 : decode cX12_readLine 64 = .ok (.getfield 100, 3) := by decide +kernel
theorem dX12_readLine_67 : decode cX12_readLine 67 = .ok (.iload_n 2, 1) := by decide +kernel
theorem dX12_readLine_68 : decode cX12_readLine 68 = .ok (.iconst 1, 1) := by decide +kernel
theorem dX12_readLine_69 : decode cX12_readLine 69 = .ok (.iastore, 1) := by decide +kernel
theorem dX12_readLine_70 : decode cX12_readLine 70 = .ok (.aload_n 0, 1) := by decide +kernel
theorem dX12_readLine_71 : decode cX12_readLine 71 = .ok (.getfield 103, 3) := by decide +kernel
theorem dX12_readLine_74 : decode cX12_readLine 74 = .ok (.iload_n 2, 1) := by decide +kernel
theorem dX12_readLine_75 : decode cX12_readLine 75 = .ok (.aload_n 0, 1) := by decide +kernel
theorem dX12_readLine_76 : decode cX12_readLine 76 = .ok (.getfield 337, 3) := by decide +kernel
theorem dX12_readLine_79 : decode cX12_readLine 79 = .ok (.iastore, 1) := by decide +kernel
theorem dX12_readLine_80 : decode cX12_readLine 80 = .ok (.iload_n 1, 1) := by decide +kernel
theorem dX12_readLine_81 : decode cX12_readLine 81 = .ok (.bipush 6, 2) := by decide +kernel
theorem dX12_readLine_83 : decode cX12_readLine 83 = .ok (.if_icmp .ne 8, 3) := by decide +kernel
theorem dX12_readLine_86 : decode cX12_readLine 86 = .ok (.aload_n 0, 1) := by decide +kernel
theorem dX12_readLine_87 : decode cX12_readLine 87 = .ok (.iconst 1, 1) := by decide +kernel
theorem dX12_readLine_88 : decode cX12_readLine 88 = .ok (.putfield 388, 3) := by decide +kernel
theorem dX12_readLine_91 : decode cX12_readLine 91 = .ok (.aload_n 0, 1) := by decide +kernel
theorem dX12_readLine_92 : decode cX12_readLine 92 = .ok (.invokevirtual 366, 3) := by decide +kernel
theorem dX12_readLine_95 : decode cX12_readLine 95 = .ok (.iload_n 1, 1) := by decide +kernel
theorem dX12_readLine_96 : decode cX12_readLine 96 = .ok (.iconst 2, 1) := by decide +kernel
theorem dX12_readLine_97 : decode cX12_readLine 97 = .ok (.if_icmp .ge 24, 3) := by decide +kernel
theorem dX12_readLine_100 : decode cX12_readLine 100 = .ok (.aload_n 0, 1) := by decide +kernel
theorem dX12_readLine_101 : decode cX12_readLine 101 = .ok (.invokevirtual 350, 3) := by decide +kernel
theorem dX12_readLine_104 : decode cX12_readLine 104 = .ok (.ifCond .eq 78, 3) := by decide +kernel
theorem dX12_readLine_107 : decode cX12_readLine 107 = .ok (.aload_n 0, 1) := by decide +kernel
theorem dX12_readLine_108 : decode cX12_readLine 108 = .ok (.getfield 100, 3) := by decide +kernel
theorem dX12_readLine_111 : decode cX12_readLine 111 = .ok (.iload_n 2, 1) := by decide +kernel
theorem dX12_readLine_112 : decode cX12_readLine 112 = .ok (.iconst 0, 1) := by decide +kernel
theorem dX12_readLine_113 : decode cX12_readLine 113 = .ok (.iastore, 1) := by decide +kernel
theorem dX12_readLine_114 : decode cX12_readLine 114 = .ok (.aload_n 0, 1) := by decide +kernel
theorem dX12_readLine_115 : decode cX12_readLine 115 = .ok (.invokevirtual 366, 3) := by decide +kernel
theorem dX12_readLine_118 : decode cX12_readLine 118 = .ok (.goto 64, 3) := by decide +kernel
theorem dX12_readLine_121 : decode cX12_readLine 121 = .ok (.aload_n 0, 1) := by decide +kernel
theorem dX12_readLine_122 : decode cX12_readLine 122 = .ok (.getfield 288, 3) := by decide +kernel
theorem dX12_readLine_125 : decode cX12_readLine 125 = .ok (.iconst 3, 1) := by decide +kernel
theorem dX12_readLine_126 : decode cX12_readLine 126 = .ok (.if_icmp .eq 9, 3) := by decide +kernel
theorem dX12_readLine_129 : decode cX12_readLine 129 = .ok (.aload_n 0, 1) := by decide +kernel
theorem dX12_readLine_130 : decode cX12_readLine 130 = .ok (.iconst 1, 1) := by decide +kernel
theorem dX12_readLine_131 : decode cX12_readLine 131 = .ok (.invokevirtual 357, 3) := by decide +kernel
theorem dX12_readLine_134 : decode cX12_readLine 134 = .ok (.ireturn, 1) := by decide +kernel
theorem dX12_readLine_135 : decode cX12_readLine 135 = .ok (.aload_n 0, 1) := by decide +kernel
theorem dX12_readLine_136 : decode cX12_readLine 136 = .ok (.getfield 307, 3) := by decide +kernel
theorem dX12_readLine_139 : decode cX12_readLine 139 = .ok (.sipush 2000, 3) := by decide +kernel
theorem dX12_readLine_142 : decode cX12_readLine 142 = .ok (.if_icmp .le 9, 3) := by decide +kernel
theorem dX12_readLine_145 : decode cX12_readLine 145 = .ok (.aload_n 0, 1) := by decide +kernel
theorem dX12_readLine_146 : decode cX12_readLine 146 = .ok (.iconst 2, 1) := by decide +kernel
theorem dX12_readLine_147 : decode cX12_readLine 147 = .ok (.invokevirtual 357, 3) := by decide +kernel
theorem dX12_readLine_150 : decode cX12_readLine 150 = .ok (.ireturn, 1) := by decide +kernel
theorem dX12_readLine_151 : decode cX12_readLine 151 = .ok (.aload_n 0, 1) := by decide +kernel
theorem dX12_readLine_152 : decode cX12_readLine 152 = .ok (.getfield 100, 3) := by decide +kernel
theorem dX12_readLine_155 : decode cX12_readLine 155 = .ok (.iload_n 2, 1) := by decide +kernel
theorem dX12_readLine_156 : decode cX12_readLine 156 = .ok (.aload_n 0, 1) := by decide +kernel
theorem dX12_readLine_157 : decode cX12_readLine 157 = .ok (.getfield 307, 3) := by decide +kernel
theorem dX12_readLine_160 : decode cX12_readLine 160 = .ok (.iastore, 1) := by decide +kernel
theorem dX12_readLine_161 : decode cX12_readLine 161 = .ok (.iload_n 1, 1) := by decide +kernel
theorem dX12_readLine_162 : decode cX12_readLine 162 = .ok (.bipush 6, 2) := by decide +kernel
theorem dX12_readLine_164 : decode cX12_readLine 164 = .ok (.if_icmp .ne 14, 3) := by decide +kernel
theorem dX12_readLine_167 : decode cX12_readLine 167 = .ok (.aload_n 0, 1) := by decide +kernel
theorem dX12_readLine_168 : decode cX12_readLine 168 = .ok (.getfield 91, 3) := by decide +kernel
theorem dX12_readLine_171 : decode cX12_readLine 171 = .ok (.bipush 10, 2) := by decide +kernel
theorem dX12_readLine_173 : decode cX12_readLine 173 = .ok (.aload_n 0, 1) := by decide +kernel
theorem dX12_readLine_174 : decode cX12_readLine 174 = .ok (.getfield 307, 3) := by decide +kernel
theorem dX12_readLine_177 : decode cX12_readLine 177 = .ok (.iastore, 1) := by decide +kernel
theorem dX12_readLine_178 : decode cX12_readLine 178 = .ok (.aload_n 0, 1) := by decide +kernel
theorem dX12_readLine_179 : decode cX12_readLine 179 = .ok (.invokevirtual 366, 3) := by decide +kernel
theorem dX12_readLine_182 : decode cX12_readLine 182 = .ok (.iload_n 1, 1) := by decide +kernel
theorem dX12_readLine_183 : decode cX12_readLine 183 = .ok (.bipush 6, 2) := by decide +kernel
theorem dX12_readLine_185 : decode cX12_readLine 185 = .ok (.if_icmp .eq 33, 3) := by decide +kernel
theorem dX12_readLine_188 : decode cX12_readLine 188 = .ok (.aload_n 0, 1) := by decide +kernel
theorem dX12_readLine_189 : decode cX12_readLine 189 = .ok (.bipush 105, 2) := by decide +kernel
theorem dX12_readLine_191 : decode cX12_readLine 191 = .ok (.bipush 102, 2) := by decide +kernel
theorem dX12_readLine_193 : decode cX12_readLine 193 = .ok (.iconst 0, 1) := by decide +kernel
theorem dX12_readLine_194 : decode cX12_readLine 194 = .ok (.iconst 0, 1) := by decide +kernel
theorem dX12_readLine_195 : decode cX12_readLine 195 = .ok (.iconst 0, 1) := by decide +kernel
theorem dX12_readLine_196 : decode cX12_readLine 196 = .ok (.invokestatic 323, 3) := by decide +kernel
theorem dX12_readLine_199 : decode cX12_readLine 199 = .ok (.invokevirtual 327, 3) := by decide +kernel
theorem dX12_readLine_202 : decode cX12_readLine 202 = .ok (.ifCond .eq 16, 3) := by decide +kernel
theorem dX12_readLine_205 : decode cX12_readLine 205 = .ok (.aload_n 0, 1) := by decide +kernel
theorem dX12_readLine_206 : decode cX12_readLine 206 = .ok (.invokevirtual 366, 3) := by decide +kernel
theorem dX12_readLine_209 : decode cX12_readLine 209 = .ok (.aload_n 0, 1) := by decide +kernel
theorem dX12_readLine_210 : decode cX12_readLine 210 = .ok (.invokevirtual 391, 3) := by decide +kernel
theorem dX12_readLine_213 : decode cX12_readLine 213 = .ok (.ifCond .ne 5, 3) := by decide +kernel
theorem dX12_readLine_216 : decode cX12_readLine 216 = .ok (.iconst 0, 1) := by decide +kernel
theorem dX12_readLine_217 : decode cX12_readLine 217 = .ok (.ireturn, 1) := by decide +kernel
theorem dX12_readLine_218 : decode cX12_readLine 218 = .ok (.aload_n 0, 1) := by decide +kernel
theorem dX12_readLine_219 : decode cX12_readLine 219 = .ok (.getfield 106, 3) := by decide +kernel
theorem dX12_readLine_222 : decode cX12_readLine 222 = .ok (.iload_n 2, 1) := by decide +kernel
theorem dX12_readLine_223 : decode cX12_readLine 223 = .ok (.aload_n 0, 1) := by decide +kernel
theorem dX12_readLine_224 : decode cX12_readLine 224 = .ok (.getfield 337, 3) := by decide +kernel
theorem dX12_readLine_227 : decode cX12_readLine 227 = .ok (.iastore, 1) := by decide +kernel
theorem dX12_readLine_228 : decode cX12_readLine 228 = .ok (.aload_n 0, 1) := by decide +kernel
theorem dX12_readLine_229 : decode cX12_readLine 229 = .ok (.dup, 1) := by decide +kernel
theorem dX12_readLine_230 : decode cX12_readLine 230 = .ok (.getfield 385, 3) := by decide +kernel
theorem dX12_readLine_233 : decode cX12_readLine 233 = .ok (.iconst 1, 1) := by decide +kernel
theorem dX12_readLine_234 : decode cX12_readLine 234 = .ok (.iadd, 1) := by decide +kernel
theorem dX12_readLine_235 : decode cX12_readLine 235 = .ok (.putfield 385, 3) := by decide +kernel
theorem dX12_readLine_238 : decode cX12_readLine 238 = .ok (.aload_n 0, 1) := by decide +kernel
theorem dX12_readLine_239 : decode cX12_readLine 239 = .ok (.bipush 59, 2) := by decide +kernel
theorem dX12_readLine_241 : decode cX12_readLine 241 = .ok (.invokevirtual 354, 3) := by decide +kernel
theorem dX12_readLine_244 : decode cX12_readLine 244 = .ok (.ifCond .ne 11, 3) := by decide +kernel
theorem dX12_readLine_247 : decode cX12_readLine 247 = .ok (.aload_n 0, 1) := by decide +kernel
theorem dX12_readLine_248 : decode cX12_readLine 248 = .ok (.iconst 1, 1) := by decide +kernel
theorem dX12_readLine_249 : decode cX12_readLine 249 = .ok (.invokevirtual 357, 3) := by decide +kernel
theorem dX12_readLine_252 : decode cX12_readLine 252 = .ok (.ifCond .eq 7, 3) := by decide +kernel
theorem dX12_readLine_255 : decode cX12_readLine 255 = .ok (.iconst 1, 1) := by decide +kernel
theorem dX12_readLine_256 : decode cX12_readLine 256 = .ok (.goto 4, 3) := by decide +kernel
theorem dX12_readLine_259 : decode cX12_readLine 259 = .ok (.iconst 0, 1) := by decide +kernel
theorem dX12_readLine_260 : decode cX12_readLine 260 = .ok (.ireturn, 1) := by decide +kernel
theorem vP_nil (g : Nat → Int32) (f : Nat) : vP g f f := fun n hn => by omega
theorem dQ_R {g g1 : Nat → Int32} {f : Nat} : ∀ n, (∀ i, f ≤ i → i < f + n → g1 i = g i) → dQ g1 f n = dQ g f n
  | 0, _ => rfl
  | n + 1, h => by
    show dQ g1 f n + dl (g1 (f + n)) = dQ g f n + dl (g (f + n))
    rw [dQ_R n (fun i h1 hi => h i h1 (by omega)), h (f + n) (by omega) (by omega)]
theorem vP_R {g g1 : Nat → Int32} {f t : Nat} (h : vP g f t) (k : ∀ i, f ≤ i → i < t → g1 i = g i) : vP g1 f t := by
  intro n hn
  rw [k (f + n) (by omega) hn, dQ_R n (fun i h1 hi => k i h1 (by omega))]
  exact h n hn
theorem dQ_S {g : Nat → Int32} {f f1 : Nat} : ∀ n, (∀ i, i < n → g (f1 + i) = g (f + i)) → dQ g f1 n = dQ g f n
  | 0, _ => rfl
  | n + 1, h => by
    show dQ g f1 n + dl (g (f1 + n)) = dQ g f n + dl (g (f + n))
    rw [dQ_S n (fun i hi => h i (by omega)), h n (by omega)]
theorem vP_S {g : Nat → Int32} {f t f1 t1 : Nat} (h : vP g f t) (hl : f1 + t ≥ t1 + f) (k : ∀ i, f + i < t → g (f1 + i) = g (f + i)) : vP g f1 t1 := by
  intro n hn
  rw [k n (by omega), dQ_S n (fun i hi => k i (by omega))]
  exact h n (by omega)
theorem rL_52 {fv : Nat → Int32} {ar ar1 : Nat → Nat → Int32} {n : Nat} {x : Int32} (h : rL fv ar) (e : ar1 = upM ar 52 (upd (ar 52) n x)) (hn : (n : Int) < 160 ∨ 160 + (fv 59).toInt ≤ (n : Int)) : rL fv ar1 := by
  subst e
  intro k hk
  show (ar 53 (160 + k)).toInt ≤ _ ∧ vP (ar 54) (1200 + (upd (ar 52) n x (160 + k)).toInt.toNat) _
  rw [up_ne (by omega)]
  exact h k hk
theorem rL_53 {fv : Nat → Int32} {ar ar1 : Nat → Nat → Int32} {n : Nat} {x : Int32} (h : rL fv ar) (e : ar1 = upM ar 53 (upd (ar 53) n x)) (hn : (n : Int) < 160 ∨ 160 + (fv 59).toInt ≤ (n : Int)) : rL fv ar1 := by
  subst e
  intro k hk
  show (upd (ar 53) n x (160 + k)).toInt ≤ _ ∧ vP (ar 54) _ (1200 + (upd (ar 53) n x (160 + k)).toInt.toNat)
  rw [up_ne (by omega)]
  exact h k hk
theorem rL_54 {fv : Nat → Int32} {ar ar1 : Nat → Nat → Int32} {n : Nat} {x : Int32} (h : rL fv ar) (e : ar1 = upM ar 54 (upd (ar 54) n x)) (hn : (n : Int) < 1200) : rL fv ar1 := by
  subst e
  intro k hk
  exact ⟨(h k hk).1, vP_R (h k hk).2 (fun i h1 h2 => up_ne (by omega))⟩
theorem rL_cond {f f1 : Nat → Int32} {a a1 : Nat → Nat → Int32} (h : rL f a) (hr : rA a) (hl : f1 59 = f 59) (hp : (f 60).toInt ≤ (f1 60).toInt) (h2 : a1 52 = a 52) (h3 : a1 53 = a 53) (hk : pK (1200 + (f 60).toInt.toNat) (a 54) (a1 54)) : rL f1 a1 := by
  intro k q
  rw [hl] at q
  obtain ⟨q1, q2⟩ := h k q
  have z : (0 : Int) ≤ (a 53 (160 + k)).toInt ∧ (a 53 (160 + k)).toInt ≤ 120 := hr 53 _
  rw [h2, h3]
  exact ⟨by omega, vP_K q2 (fun i hi => hk i (by omega))⟩
theorem rL_add {f f1 : Nat → Int32} {a a1 : Nat → Nat → Int32} {x : Int32} {i : Nat} (h : rL f a) (h0 : 0 ≤ (f 59).toInt) (hl : (f1 59).toInt = (f 59).toInt + 1) (hp : (f1 60).toInt = (f 60).toInt) (h4 : a1 54 = a 54) (h2 : a1 52 = a 52) (h3 : a1 53 = upd (a 53) i x) (hi : i = 160 + (f 59).toInt.toNat) (hx : x.toInt = (f 60).toInt) (hv : vP (a 54) (1200 + (a 52 (160 + (f 59).toInt.toNat)).toInt.toNat) (1200 + (f 60).toInt.toNat)) : rL f1 a1 := by
  intro k q
  rw [h4, h2, h3, hp, hi]
  rcases Nat.lt_or_ge k (f 59).toInt.toNat with c | c
  · rw [up_ne (by omega)]
    exact h k (by omega)
  · have e : k = (f 59).toInt.toNat := by omega
    rw [e, up_eq, hx]
    exact ⟨Int.le_refl _, hv⟩
theorem vM_add {f f1 : Nat → Int32} {a : Nat → Nat → Int32} (h : vM f a) (hr : rL f a) (ra : rA a) (h0 : 0 ≤ (f 58).toInt) (hl : (f1 58).toInt = (f 58).toInt + 1) (hn : (a 47 (f 58).toInt.toNat).toInt = (f 59).toInt) (hc : ∀ j : Nat, (j : Int) < (f 59).toInt → a 52 (16 * (f 58).toInt.toNat + j) = a 52 (160 + j) ∧ a 53 (16 * (f 58).toInt.toNat + j) = a 53 (160 + j)) (hp : ∀ j : Nat, (j : Int) < (f 60).toInt → a 54 (120 * (f 58).toInt.toNat + j) = a 54 (1200 + j)) : vM f1 a := by
  intro b k hb hk
  rcases Nat.lt_or_ge b (f 58).toInt.toNat with c | c
  · exact h b k (by omega) hk
  · have e : b = (f 58).toInt.toNat := by omega
    subst e
    rw [hn] at hk
    obtain ⟨c1, c2⟩ := hc k hk
    obtain ⟨r1, r2⟩ := hr k hk
    have z : (0 : Int) ≤ (a 53 (160 + k)).toInt ∧ (a 53 (160 + k)).toInt ≤ 120 := ra 53 _
    rw [c1, c2]
    refine vP_S r2 (by omega) (fun i hi => ?_)
    have q := hp ((a 52 (160 + k)).toInt.toNat + i) (by omega)
    rw [show 120 * (f 58).toInt.toNat + (a 52 (160 + k)).toInt.toNat + i = 120 * (f 58).toInt.toNat + ((a 52 (160 + k)).toInt.toNat + i) from by omega, q]
    congr 1; omega

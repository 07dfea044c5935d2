theorem dX11_block_0 : decode cX11_block 0 = .ok (.aload_n 0, 1) := by decide +kernel
theorem dX11_block_1 : decode cX11_block 1 = .ok (.iload_n 1, 1) := by decide +kernel
theorem dX11_block_2 : decode cX11_block 2 = .ok (.ifCond .lt 19, 3) := by decide +kernel
theorem dX11_block_5 : decode cX11_block 5 = .ok (.iload_n 1, 1) := by decide +kernel
theorem dX11_block_6 : decode cX11_block 6 = .ok (.aload_n 0, 1) := by decide +kernel
theorem dX11_block_7 : decode cX11_block 7 = .ok (.getfield 156, 3) := by decide +kernel
theorem dX11_block_10 : decode cX11_block 10 = .ok (.if_icmp .ge 11, 3) := by decide +kernel
theorem dX11_block_13 : decode cX11_block 13 = .ok (.iload_n 2, 1) := by decide +kernel
theorem dX11_block_14 : decode cX11_block 14 = .ok (.i2l, 1) := by decide +kernel
theorem dX11_block_15 : decode cX11_block 15 = .ok (.invokestatic 181, 3) := by decide +kernel
theorem dX11_block_18 : decode cX11_block 18 = .ok (.ifCond .ne 7, 3) := by decide +kernel
theorem dX11_block_21 : decode cX11_block 21 = .ok (.iconst 1, 1) := by decide +kernel
theorem dX11_block_22 : decode cX11_block 22 = .ok (.goto 17, 3) := by decide +kernel
theorem dX11_block_25 : decode cX11_block 25 = .ok (.aload_n 0, 1) := by decide +kernel
theorem dX11_block_26 : decode cX11_block 26 = .ok (.getfield 156, 3) := by decide +kernel
theorem dX11_block_29 : decode cX11_block 29 = .ok (.bipush 40, 2) := by decide +kernel
theorem dX11_block_31 : decode cX11_block 31 = .ok (.if_icmp .ne 7, 3) := by decide +kernel
theorem dX11_block_34 : decode cX11_block 34 = .ok (.iconst 2, 1) := by decide +kernel
theorem dX11_block_35 : decode cX11_block 35 = .ok (.goto 4, 3) := by decide +kernel
theorem dX11_block_38 : decode cX11_block 38 = .ok (.iconst 0, 1) := by decide +kernel
theorem dX11_block_39 : decode cX11_block 39 = .ok (.putfield 160, 3) := by decide +kernel
theorem dX11_block_42 : decode cX11_block 42 = .ok (.aload_n 0, 1) := by decide +kernel
theorem dX11_block_43 : decode cX11_block 43 = .ok (.getfield 160, 3) := by decide +kernel
theorem dX11_block_46 : decode cX11_block 46 = .ok (.ifCond .le 5, 3) := by decide +kernel
theorem dX11_block_49 : decode cX11_block 49 = .ok (.iconst 0, 1) := by decide +kernel
theorem dX11_block_50 : decode cX11_block 50 = .ok (.ireturn, 1) := by decide +kernel
theorem dX11_block_51 : decode cX11_block 51 = .ok (.aload_n 0, 1) := by decide +kernel
theorem dX11_block_52 : decode cX11_block 52 = .ok (.getfield 156, 3) := by decide +kernel
theorem dX11_block_55 : decode cX11_block 55 = .ok (.istore_n 3, 1) := by decide +kernel
theorem dX11_block_56 : decode cX11_block 56 = .ok (.aload_n 0, 1) := by decide +kernel
theorem dX11_block_57 : decode cX11_block 57 = .ok (.dup, 1) := by decide +kernel
theorem dX11_block_58 : decode cX11_block 58 = .ok (.getfield 156, 3) := by decide +kernel
theorem dX11_block_61 : decode cX11_block 61 = .ok (.iconst 1, 1) := by decide +kernel
theorem dX11_block_62 : decode cX11_block 62 = .ok (.iadd, 1) := by decide +kernel
theorem dX11_block_63 : decode cX11_block 63 = .ok (.putfield 156, 3) := by decide +kernel
theorem dX11_block_66 : decode cX11_block 66 = .ok (.aload_n 0, 1) := by decide +kernel
theorem dX11_block_67 : decode cX11_block 67 = .ok (.getfield 45, 3) := by decide +kernel
theorem dX11_block_70 : decode cX11_block 70 = .ok (.iload_n 3, 1) := by decide +kernel
theorem dX11_block_71 : decode cX11_block 71 = .ok (.iload_n 1, 1) := by decide +kernel
theorem dX11_block_72 : decode cX11_block 72 = .ok (.iastore, 1) := by decide +kernel
theorem dX11_block_73 : decode cX11_block 73 = .ok (.aload_n 0, 1) := by decide +kernel
theorem dX11_block_74 : decode cX11_block 74 = .ok (.getfield 48, 3) := by decide +kernel
theorem dX11_block_77 : decode cX11_block 77 = .ok (.iload_n 3, 1) := by decide +kernel
theorem dX11_block_78 : decode cX11_block 78 = .ok (.aload_n 0, 1) := by decide +kernel
theorem dX11_block_79 : decode cX11_block 79 = .ok (.getfield 48, 3) := by decide +kernel
theorem dX11_block_82 : decode cX11_block 82 = .ok (.iload_n 1, 1) := by decide +kernel
theorem dX11_block_83 : decode cX11_block 83 = .ok (.iaload, 1) := by decide +kernel
theorem dX11_block_84 : decode cX11_block 84 = .ok (.iconst 1, 1) := by decide +kernel
theorem dX11_block_85 : decode cX11_block 85 = .ok (.iadd, 1) := by decide +kernel
theorem dX11_block_86 : decode cX11_block 86 = .ok (.iastore, 1) := by decide +kernel
theorem dX11_block_87 : decode cX11_block 87 = .ok (.aload_n 0, 1) := by decide +kernel
theorem dX11_block_88 : decode cX11_block 88 = .ok (.getfield 51, 3) := by decide +kernel
theorem dX11_block_91 : decode cX11_block 91 = .ok (.iload_n 3, 1) := by decide +kernel
theorem dX11_block_92 : decode cX11_block 92 = .ok (.aload_n 0, 1) := by decide +kernel
theorem dX11_block_93 : decode cX11_block 93 = .ok (.getfield 190, 3) := by decide +kernel
theorem dX11_block_96 : decode cX11_block 96 = .ok (.iastore, 1) := by decide +kernel
theorem dX11_block_97 : decode cX11_block 97 = .ok (.iconst 0, 1) := by decide +kernel
theorem dX11_block_98 : decode cX11_block 98 = .ok (.istore 4, 2) := by decide +kernel
theorem dX11_block_100 : decode cX11_block 100 = .ok (.iload 4, 2) := by decide +kernel
theorem dX11_block_102 : decode cX11_block 102 = .ok (.sipush 608, 3) := by decide +kernel
theorem dX11_block_105 : decode cX11_block 105 = .ok (.if_icmp .ge 29, 3) := by decide +kernel
theorem dX11_block_108 : decode cX11_block 108 = .ok (.aload_n 0, 1) := by decide +kernel
theorem dX11_block_109 : decode cX11_block 109 = .ok (.getfield 99, 3) := by decide +kernel
theorem dX11_block_112 : decode cX11_block 112 = .ok (.iload 4, 2) := by decide +kernel
theorem dX11_block_114 : decode cX11_block 114 = .ok (.aload_n 0, 1) := by decide +kernel
theorem dX11_block_115 : decode cX11_block 115 = .ok (.getfield 66, 3) := by decide +kernel
theorem dX11_block_118 : decode cX11_block 118 = .ok (.sipush 608, 3) := by decide +kernel
theorem dX11_block_121 : decode cX11_block 121 = .ok (.iload_n 1, 1) := by decide +kernel
theorem dX11_block_122 : decode cX11_block 122 = .ok (.imul, 1) := by decide +kernel
theorem dX11_block_123 : decode cX11_block 123 = .ok (.iload 4, 2) := by decide +kernel
theorem dX11_block_125 : decode cX11_block 125 = .ok (.iadd, 1) := by decide +kernel
theorem dX11_block_126 : decode cX11_block 126 = .ok (.laload, 1) := by decide +kernel
theorem dX11_block_127 : decode cX11_block 127 = .ok (.lastore, 1) := by decide +kernel
theorem dX11_block_128 : decode cX11_block 128 = .ok (.iinc 4 1, 3) := by decide +kernel
theorem dX11_block_131 : decode cX11_block 131 = .ok (.goto (-31), 3) := by decide +kernel
theorem dX11_block_134 : decode cX11_block 134 = .ok (.aload_n 0, 1) := by decide +kernel
theorem dX11_block_135 : decode cX11_block 135 = .ok (.getfield 54, 3) := by decide +kernel
theorem dX11_block_138 : decode cX11_block 138 = .ok (.iload_n 3, 1) := by decide +kernel
theorem dX11_block_139 : decode cX11_block 139 = .ok (.iconst 0, 1) := by decide +kernel
theorem dX11_block_140 : decode cX11_block 140 = .ok (.iastore, 1) := by decide +kernel
theorem dX11_block_141 : decode cX11_block 141 = .ok (.aload_n 0, 1) := by decide +kernel
theorem dX11_block_142 : decode cX11_block 142 = .ok (.aload_n 0, 1) := by decide +kernel
theorem dX11_block_143 : decode cX11_block 143 = .ok (.getfield 48, 3) := by decide +kernel
theorem dX11_block_146 : decode cX11_block 146 = .ok (.iload_n 3, 1) := by decide +kernel
theorem dX11_block_147 : decode cX11_block 147 = .ok (.iaload, 1) := by decide +kernel
theorem dX11_block_148 : decode cX11_block 148 = .ok (.putfield 275, 3) := by decide +kernel
theorem dX11_block_151 : decode cX11_block 151 = .ok (.sipush 30000, 3) := by decide +kernel
theorem dX11_block_154 : decode cX11_block 154 = .ok (.istore 4, 2) := by decide +kernel
theorem dX11_block_156 : decode cX11_block 156 = .ok (.aload_n 0, 1) := by decide +kernel
theorem dX11_block_157 : decode cX11_block 157 = .ok (.getfield 57, 3) := by decide +kernel
theorem dX11_block_160 : decode cX11_block 160 = .ok (.iload_n 3, 1) := by decide +kernel
theorem dX11_block_161 : decode cX11_block 161 = .ok (.iconst 0, 1) := by decide +kernel
theorem dX11_block_162 : decode cX11_block 162 = .ok (.iastore, 1) := by decide +kernel
theorem dX11_block_163 : decode cX11_block 163 = .ok (.iconst 0, 1) := by decide +kernel
theorem dX11_block_164 : decode cX11_block 164 = .ok (.istore 5, 2) := by decide +kernel
theorem dX11_block_166 : decode cX11_block 166 = .ok (.iload 5, 2) := by decide +kernel
theorem dX11_block_168 : decode cX11_block 168 = .ok (.aload_n 0, 1) := by decide +kernel
theorem dX11_block_169 : decode cX11_block 169 = .ok (.getfield 190, 3) := by decide +kernel
theorem dX11_block_172 : decode cX11_block 172 = .ok (.if_icmp .ge 57, 3) := by decide +kernel
theorem dX11_block_175 : decode cX11_block 175 = .ok (.aload_n 0, 1) := by decide +kernel
theorem dX11_block_176 : decode cX11_block 176 = .ok (.iconst 0, 1) := by decide +kernel
theorem dX11_block_177 : decode cX11_block 177 = .ok (.putfield 212, 3) := by decide +kernel
theorem dX11_block_180 : decode cX11_block 180 = .ok (.aload_n 0, 1) := by decide +kernel
theorem dX11_block_181 : decode cX11_block 181 = .ok (.iload 5, 2) := by decide +kernel
theorem dX11_block_183 : decode cX11_block 183 = .ok (.iload 4, 2) := by decide +kernel
theorem dX11_block_185 : decode cX11_block 185 = .ok (.iload_n 2, 1) := by decide +kernel
theorem dX11_block_186 : decode cX11_block 186 = .ok (.bipush 10, 2) := by decide +kernel
theorem dX11_block_188 : decode cX11_block 188 = .ok (.iload_n 3, 1) := by decide +kernel
theorem dX11_block_189 : decode cX11_block 189 = .ok (.imul, 1) := by decide +kernel
theorem dX11_block_190 : decode cX11_block 190 = .ok (.iload 5, 2) := by decide +kernel
theorem dX11_block_192 : decode cX11_block 192 = .ok (.iadd, 1) := by decide +kernel
theorem dX11_block_193 : decode cX11_block 193 = .ok (.invokevirtual 307, 3) := by decide +kernel
theorem dX11_block_196 : decode cX11_block 196 = .ok (.istore 6, 2) := by decide +kernel
theorem dX11_block_198 : decode cX11_block 198 = .ok (.aload_n 0, 1) := by decide +kernel
theorem dX11_block_199 : decode cX11_block 199 = .ok (.iload_n 3, 1) := by decide +kernel
theorem dX11_block_200 : decode cX11_block 200 = .ok (.iload 5, 2) := by decide +kernel
theorem dX11_block_202 : decode cX11_block 202 = .ok (.invokevirtual 311, 3) := by decide +kernel
theorem dX11_block_205 : decode cX11_block 205 = .ok (.iload 4, 2) := by decide +kernel
theorem dX11_block_207 : decode cX11_block 207 = .ok (.iload 6, 2) := by decide +kernel
theorem dX11_block_209 : decode cX11_block 209 = .ok (.isub, 1) := by decide +kernel
theorem dX11_block_210 : decode cX11_block 210 = .ok (.istore 4, 2) := by decide +kernel
theorem dX11_block_212 : decode cX11_block 212 = .ok (.aload_n 0, 1) := by decide +kernel
theorem dX11_block_213 : decode cX11_block 213 = .ok (.getfield 57, 3) := by decide +kernel
theorem dX11_block_216 : decode cX11_block 216 = .ok (.iload_n 3, 1) := by decide +kernel
theorem dX11_block_217 : decode cX11_block 217 = .ok (.dup2, 1) := by decide +kernel
theorem dX11_block_218 : decode cX11_block 218 = .ok (.iaload, 1) := by decide +kernel
theorem dX11_block_219 : decode cX11_block 219 = .ok (.iload 6, 2) := by decide +kernel
theorem dX11_block_221 : decode cX11_block 221 = .ok (.iadd, 1) := by decide +kernel
theorem dX11_block_222 : decode cX11_block 222 = .ok (.iastore, 1) := by decide +kernel
theorem dX11_block_223 : decode cX11_block 223 = .ok (.iinc 5 1, 3) := by decide +kernel
theorem dX11_block_226 : decode cX11_block 226 = .ok (.goto (-60), 3) := by decide +kernel
theorem dX11_block_229 : decode cX11_block 229 = .ok (.iconst 0, 1) := by decide +kernel
theorem dX11_block_230 : decode cX11_block 230 = .ok (.istore 5, 2) := by decide +kernel
theorem dX11_block_232 : decode cX11_block 232 = .ok (.iload 5, 2) := by decide +kernel
theorem dX11_block_234 : decode cX11_block 234 = .ok (.sipush 608, 3) := by decide +kernel
theorem dX11_block_237 : decode cX11_block 237 = .ok (.if_icmp .ge 29, 3) := by decide +kernel
theorem dX11_block_240 : decode cX11_block 240 = .ok (.aload_n 0, 1) := by decide +kernel
theorem dX11_block_241 : decode cX11_block 241 = .ok (.getfield 66, 3) := by decide +kernel
theorem dX11_block_244 : decode cX11_block 244 = .ok (.sipush 608, 3) := by decide +kernel
theorem dX11_block_247 : decode cX11_block 247 = .ok (.iload_n 3, 1) := by decide +kernel
theorem dX11_block_248 : decode cX11_block 248 = .ok (.imul, 1) := by decide +kernel
theorem dX11_block_249 : decode cX11_block 249 = .ok (.iload 5, 2) := by decide +kernel
theorem dX11_block_251 : decode cX11_block 251 = .ok (.iadd, 1) := by decide +kernel
theorem dX11_block_252 : decode cX11_block 252 = .ok (.aload_n 0, 1) := by decide +kernel
theorem dX11_block_253 : decode cX11_block 253 = .ok (.getfield 99, 3) := by decide +kernel
theorem dX11_block_256 : decode cX11_block 256 = .ok (.iload 5, 2) := by decide +kernel
theorem dX11_block_258 : decode cX11_block 258 = .ok (.laload, 1) := by decide +kernel
theorem dX11_block_259 : decode cX11_block 259 = .ok (.lastore, 1) := by decide +kernel
theorem dX11_block_260 : decode cX11_block 260 = .ok (.iinc 5 1, 3) := by decide +kernel
theorem dX11_block_263 : decode cX11_block 263 = .ok (.goto (-31), 3) := by decide +kernel
theorem dX11_block_266 : decode cX11_block 266 = .ok (.aload_n 0, 1) := by decide +kernel
theorem dX11_block_267 : decode cX11_block 267 = .ok (.iconst 0, 1) := by decide +kernel
theorem dX11_block_268 : decode cX11_block 268 = .ok (.putfield 190, 3) := by decide +kernel
theorem dX11_block_271 : decode cX11_block 271 = .ok (.aload_n 0, 1) := by decide +kernel
theorem dX11_block_272 : decode cX11_block 272 = .ok (.getfield 60, 3) := by decide +kernel
theorem dX11_block_275 : decode cX11_block 275 = .ok (.iload_n 3, 1) := by decide +kernel
theorem dX11_block_276 : decode cX11_block 276 = .ok (.iconst 0, 1) := by decide +kernel
theorem dX11_block_277 : decode cX11_block 277 = .ok (.iastore, 1) := by decide +kernel
theorem dX11_block_278 : decode cX11_block 278 = .ok (.aload_n 0, 1) := by decide +kernel
theorem dX11_block_279 : decode cX11_block 279 = .ok (.getfield 63, 3) := by decide +kernel
theorem dX11_block_282 : decode cX11_block 282 = .ok (.iload_n 3, 1) := by decide +kernel
theorem dX11_block_283 : decode cX11_block 283 = .ok (.iconst 0, 1) := by decide +kernel
theorem dX11_block_284 : decode cX11_block 284 = .ok (.bastore, 1) := by decide +kernel
theorem dX11_block_285 : decode cX11_block 285 = .ok (.iload_n 3, 1) := by decide +kernel
theorem dX11_block_286 : decode cX11_block 286 = .ok (.ireturn, 1) := by decide +kernel
/-- an order done: what it did to the world's part -/
def tT (T T' : wT) (i : Nat) (e : List (Nat × Int64 × Int64)) (n : Nat → Int64) (how : Nat) (us : Int32) (x : Int64) : Prop := T'.1 = n ∧ T'.2.1 = T.2.1 + e.length ∧ (∀ j, j < T'.2.1 → T'.2.2.1 j = ev_add T.2.1 T.2.2.1 e i j) ∧ (∀ j, T'.2.2.2.1 j = if j = i then (how, us, x) else T.2.2.2.1 j) ∧ T'.2.2.2.2 = T.2.2.2.2 + us
theorem tT_none {T : wT} {i : Nat} : tT T (o_none i T) i [] T.1 0 (nI 0) 0 := by
  refine ⟨rfl, rfl, fun j hj => ?_, fun j => rfl, ?_⟩
  · have hj' : j < T.2.1 := hj
    show T.2.2.1 j = ev_add T.2.1 T.2.2.1 [] i j
    unfold ev_add
    rw [if_pos hj']
  · show T.2.2.2.2 = T.2.2.2.2 + nI 0
    rw [nI_0, Int32.add_zero]
theorem tT_full {T : wT} {i mk how u : Nat} {q : wO} {X : vx_S} {x : Int64} : tT T (o_full q mk i T X (how, x, u)) i X.2.1 (o_n5 X.1 q mk (o_used q.2.1 u X.2.2.1)) how (o_used q.2.1 u X.2.2.1) x := ⟨rfl, rfl, fun _ _ => rfl, fun _ => rfl, rfl⟩
/-- the model's rows after i orders of block b, since S0 -/
def mL (S0 S : gs_T) (b i : Nat) (T : wT) : Prop :=
  (∀ a, 53 ≤ a → a < 82 → a ≠ 67 → a ≠ 68 → a ≠ 72 → a ≠ 73 → a ≠ 74 → a ≠ 75 → a ≠ 76 → a ≠ 77 → a ≠ 78 → S.1 a = S0.1 a ∧ S.2 a = S0.2 a) ∧ (∀ k, k ≠ 49 → k ≠ 50 → k ≠ 52 → k ≠ 56 → k ≠ 57 → k ≠ 58 → k ≠ 59 → k ≠ 60 → S.1 52 k = S0.1 52 k) ∧ (∀ k, k < 608 → S.2 82 k = T.1 k) ∧
  ((∀ j, j ≠ b → S.1 67 j = S0.1 67 j ∧ S.1 68 j = S0.1 68 j) ∧ S.1 68 b = T.2.2.2.2) ∧ ((∀ j, j < 60 * b → S.1 75 j = S0.1 75 j ∧ S.2 76 j = S0.2 76 j ∧ S.2 77 j = S0.2 77 j ∧ S.1 78 j = S0.1 78 j) ∧ mEv S b (min 60 T.2.1) T.2.2.1) ∧
  (∀ j, j < 10 * b → S.1 72 j = S0.1 72 j ∧ S.1 73 j = S0.1 73 j ∧ S.2 74 j = S0.2 74 j) ∧ ∀ j, j < i → S.1 72 (10 * b + j) = nI (T.2.2.2.1 j).1 ∧ S.1 73 (10 * b + j) = (T.2.2.2.1 j).2.1 ∧ S.2 74 (10 * b + j) = (T.2.2.2.1 j).2.2
theorem mL_step {S0 S S1 S2 S3 : gs_T} {b i h how : Nat} {T T' : wT} {e : List (Nat × Int64 × Int64)} {n : Nat → Int64} {us : Int32} {x : Int64} (hL : mL S0 S b i T) (e1 : S1 = (rx_u S.1 52 52 (nI 0), S.2)) (hm : moF S1 S2 h (10 * b + i) n e how us x) (hk : mEk S2 S3 b) (hv : mEv S3 b (min 60 (T.2.1 + e.length)) (ev_add T.2.1 T.2.2.1 e i)) (hT : tT T T' i e n how us x) : mL S0 (rx_u S3.1 68 b (T.2.2.2.2 + us), S3.2) b (i + 1) T' := by
  subst e1
  obtain ⟨a1, a2, a3, ⟨a4, a5⟩, ⟨a6, a7⟩, a8, a9⟩ := hL
  obtain ⟨m1, m2, m3, m4, m5, m6, m7⟩ := hm
  obtain ⟨k1, k2, k3, k4⟩ := hk
  obtain ⟨t1, t2, t3, t4, t5⟩ := hT
  have s1 : ∀ a, a ≠ 52 → rx_u S.1 52 52 (nI 0) a = S.1 a := fun a ha => rx_une _ ha
  refine ⟨fun a h1 h2 b1 b2 b3 b4 b5 b6 b7 b8 b9 => ⟨?_, ?_⟩, fun k c1 c2 c3 c4 c5 c6 c7 c8 => ?_, fun k hk => ?_, ⟨fun j hj => ⟨?_, ?_⟩, ?_⟩, ⟨fun j hj => ?_, ?_, fun j hj => ?_⟩, fun j hj => ?_, fun j hj => ?_⟩
  · exact (rx_une _ b2).trans ((k1 a b1 b6 b9).trans ((m1 a h1 h2 b3 b4 b5).1.trans ((s1 a (by omega)).trans (a1 a h1 h2 b1 b2 b3 b4 b5 b6 b7 b8 b9).1)))
  · exact (k2 a b7 b8).trans ((m1 a h1 h2 b3 b4 b5).2.trans (a1 a h1 h2 b1 b2 b3 b4 b5 b6 b7 b8 b9).2)
  · refine Eq.trans ?_ (a2 k c1 c2 c3 c4 c5 c6 c7 c8)
    have e1 : S2.1 52 k = S.1 52 k := (m2 k c1 c2 c3 c4 c5 c6 c7 c8).trans (by simp [rx_ru, c3])
    rw [← e1, ← k1 52 (by decide) (by decide) (by decide)]
    simp [rx_ru]
  · rw [t1]
    exact (congrFun (k2 82 (by decide) (by decide)) k).trans (m3 k hk)
  · refine Eq.trans ?_ ((k3 j hj).trans (((congrFun (m1 67 (by decide) (by decide) (by decide) (by decide) (by decide)).1 j).trans (congrFun (s1 67 (by decide)) j)).trans (a4 j hj).1))
    simp [rx_ru]
  · have e1 : S3.1 68 j = S0.1 68 j := (congrFun (k1 68 (by decide) (by decide) (by decide)) j).trans (((congrFun (m1 68 (by decide) (by decide) (by decide) (by decide) (by decide)).1 j).trans (congrFun (s1 68 (by decide)) j)).trans (a4 j hj).2)
    rw [← e1]
    simp [rx_ru, hj]
  · rw [t5]; simp [rx_ru]
  · obtain ⟨k4a, k4b, k4c, k4d⟩ := k4 j hj
    obtain ⟨q1, q2, q3, q4⟩ := a6 j hj
    have f1 := m1 75 (by decide) (by decide) (by decide) (by decide) (by decide)
    have f2 := m1 76 (by decide) (by decide) (by decide) (by decide) (by decide)
    have f3 := m1 77 (by decide) (by decide) (by decide) (by decide) (by decide)
    have f4 := m1 78 (by decide) (by decide) (by decide) (by decide) (by decide)
    refine ⟨?_, ?_, ?_, ?_⟩
    · refine Eq.trans ?_ (k4a.trans (((congrFun f1.1 j).trans (congrFun (s1 75 (by decide)) j)).trans q1))
      simp [rx_ru]
    · exact k4b.trans ((congrFun f2.2 j).trans q2)
    · exact k4c.trans ((congrFun f3.2 j).trans q3)
    · refine Eq.trans ?_ (k4d.trans (((congrFun f4.1 j).trans (congrFun (s1 78 (by decide)) j)).trans q4))
      simp [rx_ru]
  · rw [t2]
    refine Eq.trans ?_ hv.1
    simp [rx_ru]
  · rw [t2] at hj
    rw [t3 j (by rw [t2]; omega)]
    obtain ⟨v1, v2, v3, v4⟩ := hv.2 j hj
    exact ⟨by simpa [rx_ru] using v1, v2, v3, by simpa [rx_ru] using v4⟩
  · obtain ⟨q1, q2, q3⟩ := a8 j hj
    have r1 := m5 j
    have r2 := m6 j
    have r3 := m7 j
    rw [if_neg (by omega)] at r1 r2 r3
    refine ⟨?_, ?_, ?_⟩
    · refine Eq.trans ?_ ((congrFun (k1 72 (by decide) (by decide) (by decide)) j).trans (r1.trans ((congrFun (s1 72 (by decide)) j).trans q1)))
      simp [rx_ru]
    · refine Eq.trans ?_ ((congrFun (k1 73 (by decide) (by decide) (by decide)) j).trans (r2.trans ((congrFun (s1 73 (by decide)) j).trans q2)))
      simp [rx_ru]
    · exact (congrFun (k2 74 (by decide) (by decide)) j).trans (r3.trans q3)
  · rw [t4]
    have r1 := m5 (10 * b + j)
    have r2 := m6 (10 * b + j)
    have r3 := m7 (10 * b + j)
    have w1 : rx_u S3.1 68 b (T.2.2.2.2 + us) 72 (10 * b + j) = S2.1 72 (10 * b + j) := (by simp [rx_ru] : rx_u S3.1 68 b (T.2.2.2.2 + us) 72 (10 * b + j) = S3.1 72 (10 * b + j)).trans (congrFun (k1 72 (by decide) (by decide) (by decide)) _)
    have w2 : rx_u S3.1 68 b (T.2.2.2.2 + us) 73 (10 * b + j) = S2.1 73 (10 * b + j) := (by simp [rx_ru] : rx_u S3.1 68 b (T.2.2.2.2 + us) 73 (10 * b + j) = S3.1 73 (10 * b + j)).trans (congrFun (k1 73 (by decide) (by decide) (by decide)) _)
    have w3 : S3.2 74 (10 * b + j) = S2.2 74 (10 * b + j) := congrFun (k2 74 (by decide) (by decide)) _
    by_cases q : j = i
    · rw [if_pos q]
      rw [if_pos (by omega)] at r1 r2 r3
      exact ⟨w1.trans r1, w2.trans r2, w3.trans r3⟩
    · rw [if_neg q]
      rw [if_neg (by omega)] at r1 r2 r3
      obtain ⟨q1, q2, q3⟩ := a9 j (by omega)
      exact ⟨w1.trans (r1.trans ((congrFun (s1 72 (by decide)) _).trans q1)), w2.trans (r2.trans ((congrFun (s1 73 (by decide)) _).trans q2)), w3.trans (r3.trans q3)⟩
theorem lm_block {G : rx_E} {d mc ms : Nat} {C : rx_M} {S0 : gs_T} {cs : Nat → List Nat} {N h on p b mk : Nat} {f : Nat → wO} {T0 : wT} {Q : Option Value → rx_M → Prop} {Z : String → rx_M → Prop} (hG : rx_OK G) (hon : on ≤ 10) (hmk : mk < 32) (hb40 : b < 40) (h7 : S0.1 52 7 = nI on) (hO : ∀ i, i < on → (S0.1 57 i = nI (f i).1.1 ∧ S0.1 58 i = nI (f i).1.2.1 ∧ S0.2 59 i = (f i).1.2.2.1 ∧ S0.2 60 i = (f i).1.2.2.2) ∧ (S0.1 61 i = nI (f i).2.1 ∧ S0.1 62 i = nI (f i).2.2.1 ∧ S0.1 63 i = (f i).2.2.2)) (hK : mK S0 cs N) (hh : S0.1 52 51 = nI h) (hvg : ∀ o, o < 32 → vw_G (cs, N, o, h)) (hb : ∀ i, i < on → ((f i).1.1 < 32 ∧ (f i).1.2.1 < 32) ∧ (f i).2.1 ≤ 30000 ∧ (f i).2.2.1 ≤ 1000000) (kk : ∀ S, mL S0 S b on (o_all cs N h mk f T0 on) → rx_W G MX11_block (d + 8) 229 [(4, .int (nI 30000 - ((o_all cs N h mk f T0 on).2.2.2.2))), (5, .int (nI on)), (0, .ref 52), (1, .int (nI p)), (2, .int (nI mk)), (3, .int (nI b))] [] (gl C S) mc ms Q Z) : ∀ (m i : Nat) (S : gs_T), i + m = on → mL S0 S b i (o_all cs N h mk f T0 i) → oI cs N i (o_all cs N h mk f T0 i) → rx_W G MX11_block (d + 8) 166 [(4, .int (nI 30000 - ((o_all cs N h mk f T0 i).2.2.2.2))), (5, .int (nI i)), (0, .ref 52), (1, .int (nI p)), (2, .int (nI mk)), (3, .int (nI b))] [] (gl C S) mc ms Q Z := by
  intro m
  induction m with
  | zero =>
    intro i S hi hL hI
    have hi : i = on := by omega
    subst hi
    refine rx_iload dX11_block_166 rfl ?_
    refine rx_aload_n dX11_block_168 rfl rfl ?_
    refine gmv_getI (v := nI i) hG hf_RX11_190 rfl dX11_block_169 rfl rfl rfl ((hL.2.1 7 (by decide) (by decide) (by decide) (by decide) (by decide) (by decide) (by decide) (by decide)).trans h7) ?_
    refine rx_icmp_ge (tgt := 229) dX11_block_172 (by decide) (fun _ => ?_) (fun q => absurd (by rw [nI_leI (by omega) (by omega)]; omega) q)
    exact kk S hL
  | succ m ih =>
    intro i S hi hL hI
    have hio : i < on := by omega
    have hb' := hb i hio
    have hec := hI.2.1
    have eA : ∀ a, 53 ≤ a → a < 67 → S.1 a = S0.1 a ∧ S.2 a = S0.2 a := fun a h1 h2 => hL.1 a h1 (by omega) (by omega) (by omega) (by omega) (by omega) (by omega) (by omega) (by omega) (by omega) (by omega)
    refine rx_iload dX11_block_166 rfl ?_
    refine rx_aload_n dX11_block_168 rfl rfl ?_
    refine gmv_getI (v := nI on) hG hf_RX11_190 rfl dX11_block_169 rfl rfl rfl ((hL.2.1 7 (by decide) (by decide) (by decide) (by decide) (by decide) (by decide) (by decide) (by decide)).trans h7) ?_
    refine rx_icmp_ge (tgt := 229) dX11_block_172 (by decide) (fun q => absurd q (by rw [nI_leI (by omega) (by omega)]; omega)) (fun _ => ?_)
    refine rx_aload_n dX11_block_175 rfl rfl ?_
    refine rx_iconst (v := nI 0) dX11_block_176 rfl ?_
    refine gm_putI hG hf_RX11_212 (gw_nf rfl rfl) rfl dX11_block_177 rfl rfl rfl rfl rfl ?_
    refine rx_aload_n dX11_block_180 rfl rfl ?_
    refine rx_iload dX11_block_181 rfl ?_
    refine rx_iload dX11_block_183 rfl ?_
    refine rx_iload_n dX11_block_185 rfl ?_
    refine rx_bipush (v := nI 10) dX11_block_186 rfl ?_
    refine rx_iload_n dX11_block_188 rfl ?_
    refine rx_imul dX11_block_189 ?_
    refine rx_ti (y := nI (10 * b)) (pk_mul _ _) ?_
    refine rx_iload dX11_block_190 rfl ?_
    refine rx_iadd dX11_block_192 ?_
    refine rx_ti (y := nI (10 * b + i)) (nI_add _ _) ?_
    have hP : rm_P (rx_u S.1 52 52 (nI 0), S.2) (cs, N, 0, h) (o_all cs N h mk f T0 i).1 := by
      obtain ⟨p1, p2⟩ := hK
      refine ⟨⟨fun c hc => ⟨?_, fun k hk => ?_⟩, ?_, ?_⟩, hL.2.2.1, by simp [rx_ru]⟩
      · have := (p1 c hc).1; rw [← (eA 54 (by decide) (by decide)).1] at this; simpa [rx_ru] using this
      · have := (p1 c hc).2 k hk; rw [← (eA 53 (by decide) (by decide)).1] at this; simpa [rx_ru] using this
      · have := p2; rw [← hL.2.1 3 (by decide) (by decide) (by decide) (by decide) (by decide) (by decide) (by decide) (by decide)] at this; simpa [rx_ru] using this
      · have := hh; rw [← hL.2.1 51 (by decide) (by decide) (by decide) (by decide) (by decide) (by decide) (by decide) (by decide)] at this; simpa [rx_ru] using this
    have hO1 : ((rx_u S.1 52 52 (nI 0), S.2).1 57 i = nI (f i).1.1 ∧ (rx_u S.1 52 52 (nI 0), S.2).1 58 i = nI (f i).1.2.1 ∧ (rx_u S.1 52 52 (nI 0), S.2).2 59 i = (f i).1.2.2.1 ∧ (rx_u S.1 52 52 (nI 0), S.2).2 60 i = (f i).1.2.2.2) ∧ ((rx_u S.1 52 52 (nI 0), S.2).1 61 i = nI (f i).2.1 ∧ (rx_u S.1 52 52 (nI 0), S.2).1 62 i = nI (f i).2.2.1 ∧ (rx_u S.1 52 52 (nI 0), S.2).1 63 i = (f i).2.2.2) := by
      obtain ⟨⟨c1, c2, c3, c4⟩, c5, c6, c7⟩ := hO i hio
      rw [← (eA 57 (by decide) (by decide)).1] at c1
      rw [← (eA 58 (by decide) (by decide)).1] at c2
      rw [← (eA 59 (by decide) (by decide)).2] at c3
      rw [← (eA 60 (by decide) (by decide)).2] at c4
      rw [← (eA 61 (by decide) (by decide)).1] at c5
      rw [← (eA 62 (by decide) (by decide)).1] at c6
      rw [← (eA 63 (by decide) (by decide)).1] at c7
      exact ⟨⟨by simpa [rx_ru] using c1, by simpa [rx_ru] using c2, c3, c4⟩, by simpa [rx_ru] using c5, by simpa [rx_ru] using c6, by simpa [rx_ru] using c7⟩
    refine gv_invV (as := [.int _, .int _, .int _, .int _]) hG okX11_doOrder lk_RX11_307 rfl rfl dX11_block_193 rfl (by simp [Value.category]) (mf_doOrder (S := (rx_u S.1 52 52 (nI 0), S.2)) (Q := fun v mu => ∃ us S2 n e how x, v = some (.int us) ∧ mu = gl C S2 ∧ moF (rx_u S.1 52 52 (nI 0), S.2) S2 h (10 * b + i) n e how us x ∧ e.length ≤ 2100 ∧ tT (o_all cs N h mk f T0 i) (o_all cs N h mk f T0 (i + 1)) i e n how us x ∧ oI cs N (i + 1) (o_all cs N h mk f T0 (i + 1))) hG (by omega) (by omega) hmk hO1 hb'.1.1 hb'.1.2 hb'.2.1 hb'.2.2 hP (hvg _ hb'.1.1) (fun n hn => vc_n1 hn) hI.1 ?_ ?_) ?_
    · intro hvo
      have e1 : o_all cs N h mk f T0 (i + 1) = o_none i (o_all cs N h mk f T0 i) := o_stepV hvo
      refine ⟨_, _, (o_all cs N h mk f T0 i).1, [], 0, 0, rfl, rfl, ?_, by decide, by rw [e1]; exact tT_none, by rw [e1]; exact oI_none hI⟩
      refine ⟨fun a h1 h2 h3 h4 h5 => ⟨(rx_une _ h4).trans (rx_une _ h3), rx_une _ h5⟩, fun k _ _ _ _ _ _ _ _ => by simp [rx_ru], fun k hk => ?_, ⟨by simp [rx_ru], trivial⟩, fun j => by simp [rx_ru], fun j => by simp [rx_ru], fun j => by simp [rx_ru]⟩
      have := hL.2.2.1 k hk
      simpa [rx_ru] using this
    · intro S2 X' how x u hR hE hvo hm
      have e1 : o_all cs N h mk f T0 (i + 1) = o_full (f i) mk i (o_all cs N h mk f T0 i) X' (how, x, u) := o_stepF hvo hR
      exact ⟨_, S2, _, X'.2.1, how, x, rfl, rfl, hm, by have := hE.2.2.2; omega, by rw [e1]; exact tT_full, by rw [e1]; exact oI_full hI (by omega) hR hE⟩
    · rintro _ _ ⟨us, S2, n, e, how, x, rfl, rfl, hm, hel, hT, hI'⟩
      have h67 : mEv S2 b (min 60 (o_all cs N h mk f T0 i).2.1) (o_all cs N h mk f T0 i).2.2.1 := by
        obtain ⟨v1, v2⟩ := hL.2.2.2.2.1.2
        have f1 := (hm.1 67 (by decide) (by decide) (by decide) (by decide) (by decide)).1
        have f2 := (hm.1 75 (by decide) (by decide) (by decide) (by decide) (by decide)).1
        have f3 := (hm.1 76 (by decide) (by decide) (by decide) (by decide) (by decide)).2
        have f4 := (hm.1 77 (by decide) (by decide) (by decide) (by decide) (by decide)).2
        have f5 := (hm.1 78 (by decide) (by decide) (by decide) (by decide) (by decide)).1
        refine ⟨by rw [f1]; simpa [rx_ru] using v1, fun j hj => ?_⟩
        rw [f2, f3, f4, f5]
        obtain ⟨u1, u2, u3, u4⟩ := v2 j hj
        exact ⟨by simpa [rx_ru] using u1, u2, u3, by simpa [rx_ru] using u4⟩
      refine rx_istore dX11_block_196 (by decide) ?_
      refine rx_aload_n dX11_block_198 rfl rfl ?_
      refine rx_iload_n dX11_block_199 rfl ?_
      refine rx_iload dX11_block_200 rfl ?_
      refine gv_invV (as := [.int _, .int _]) hG okX11_keepEvents lk_RX11_311 rfl rfl dX11_block_202 rfl (by simp [Value.category]) (mf_keep (Q := fun v mu => v = none ∧ ∃ S3, mu = gl C S3 ∧ mEk S2 S3 b ∧ mEv S3 b (min 60 ((o_all cs N h mk f T0 i).2.1 + e.length)) (ev_add (o_all cs N h mk f T0 i).2.1 (o_all cs N h mk f T0 i).2.2.1 e i)) hG hb40 hel (by omega) hm.2.2.2.1.1 hm.2.2.2.1.2 h67 (fun S3 h1 h2 => ⟨rfl, S3, rfl, h1, h2⟩)) ?_
      rintro _ _ ⟨rfl, S3, rfl, hk3, hv3⟩
      have e68 : S3.1 68 b = (o_all cs N h mk f T0 i).2.2.2.2 := by
        rw [hk3.1 68 (by decide) (by decide) (by decide), (hm.1 68 (by decide) (by decide) (by decide) (by decide) (by decide)).1]
        simpa [rx_ru] using hL.2.2.2.1.2
      refine rx_iload dX11_block_205 rfl ?_
      refine rx_iload dX11_block_207 rfl ?_
      refine rx_isub dX11_block_209 ?_
      refine rx_ti (y := nI 30000 - (o_all cs N h mk f T0 (i + 1)).2.2.2.2) (by rw [hT.2.2.2.2, Int32.sub_sub]) ?_
      refine rx_istore dX11_block_210 (by decide) ?_
      refine rx_aload_n dX11_block_212 rfl rfl ?_
      refine g_getR hG hf_RX11_57 rfl dX11_block_213 rfl rfl rfl ?_
      refine rx_iload_n dX11_block_216 rfl ?_
      refine rx_dup2 dX11_block_217 rfl rfl ?_
      refine gmv_iald (j := b) (v := (o_all cs N h mk f T0 i).2.2.2.2) hG dX11_block_218 rfl rfl rfl rfl (by omega) (by decide) e68 ?_
      refine rx_iload dX11_block_219 rfl ?_
      refine rx_iadd dX11_block_221 ?_
      refine gm_iast (j := b) hG dX11_block_222 rfl rfl rfl rfl (by omega) (by decide) ?_
      refine rx_iinc (v := nI (i + 1)) dX11_block_223 rfl (nI_add _ 1) ?_
      refine rx_goto (tgt := 166) dX11_block_226 (by decide) ?_
      refine rx_lv (lv' := [(4, .int (nI 30000 - ((o_all cs N h mk f T0 (i + 1)).2.2.2.2))), (5, .int (nI (i + 1))), (0, .ref 52), (1, .int (nI p)), (2, .int (nI mk)), (3, .int (nI b))]) ⟨rfl, rfl, rfl, rfl, rfl, rfl, trivial⟩ ?_
      exact ih (i + 1) _ (by omega) (mL_step hL rfl hm hk3 hv3 hT) hI'

theorem dX11_act_0 : decode cX11_act 0 = .ok (.aload_n 0, 1) := by decide +kernel
theorem dX11_act_1 : decode cX11_act 1 = .ok (.getfield 203, 3) := by decide +kernel
theorem dX11_act_4 : decode cX11_act 4 = .ok (.iconst 1, 1) := by decide +kernel
theorem dX11_act_5 : decode cX11_act 5 = .ok (.isub, 1) := by decide +kernel
theorem dX11_act_6 : decode cX11_act 6 = .ok (.istore_n 1, 1) := by decide +kernel
theorem dX11_act_7 : decode cX11_act 7 = .ok (.sipush 200, 3) := by decide +kernel
theorem dX11_act_10 : decode cX11_act 10 = .ok (.aload_n 0, 1) := by decide +kernel
theorem dX11_act_11 : decode cX11_act 11 = .ok (.getfield 111, 3) := by decide +kernel
theorem dX11_act_14 : decode cX11_act 14 = .ok (.iload_n 1, 1) := by decide +kernel
theorem dX11_act_15 : decode cX11_act 15 = .ok (.iaload, 1) := by decide +kernel
theorem dX11_act_16 : decode cX11_act 16 = .ok (.imul, 1) := by decide +kernel
theorem dX11_act_17 : decode cX11_act 17 = .ok (.istore_n 2, 1) := by decide +kernel
theorem dX11_act_18 : decode cX11_act 18 = .ok (.aload_n 0, 1) := by decide +kernel
theorem dX11_act_19 : decode cX11_act 19 = .ok (.getfield 114, 3) := by decide +kernel
theorem dX11_act_22 : decode cX11_act 22 = .ok (.iload_n 1, 1) := by decide +kernel
theorem dX11_act_23 : decode cX11_act 23 = .ok (.iaload, 1) := by decide +kernel
theorem dX11_act_24 : decode cX11_act 24 = .ok (.aload_n 0, 1) := by decide +kernel
theorem dX11_act_25 : decode cX11_act 25 = .ok (.getfield 13, 3) := by decide +kernel
theorem dX11_act_28 : decode cX11_act 28 = .ok (.aload_n 0, 1) := by decide +kernel
theorem dX11_act_29 : decode cX11_act 29 = .ok (.getfield 111, 3) := by decide +kernel
theorem dX11_act_32 : decode cX11_act 32 = .ok (.iload_n 1, 1) := by decide +kernel
theorem dX11_act_33 : decode cX11_act 33 = .ok (.iaload, 1) := by decide +kernel
theorem dX11_act_34 : decode cX11_act 34 = .ok (.iaload, 1) := by decide +kernel
theorem dX11_act_35 : decode cX11_act 35 = .ok (.if_icmp .lt 10, 3) := by decide +kernel
theorem dX11_act_38 : decode cX11_act 38 = .ok (.aload_n 0, 1) := by decide +kernel
theorem dX11_act_39 : decode cX11_act 39 = .ok (.iconst 1, 1) := by decide +kernel
theorem dX11_act_40 : decode cX11_act 40 = .ok (.lconst 0, 1) := by decide +kernel
theorem dX11_act_41 : decode cX11_act 41 = .ok (.invokevirtual 231, 3) := by decide +kernel
theorem dX11_act_44 : decode cX11_act 44 = .ok (.return_, 1) := by decide +kernel
theorem dX11_act_45 : decode cX11_act 45 = .ok (.aload_n 0, 1) := by decide +kernel
theorem dX11_act_46 : decode cX11_act 46 = .ok (.getfield 7, 3) := by decide +kernel
theorem dX11_act_49 : decode cX11_act 49 = .ok (.iload_n 2, 1) := by decide +kernel
theorem dX11_act_50 : decode cX11_act 50 = .ok (.aload_n 0, 1) := by decide +kernel
theorem dX11_act_51 : decode cX11_act 51 = .ok (.getfield 114, 3) := by decide +kernel
theorem dX11_act_54 : decode cX11_act 54 = .ok (.iload_n 1, 1) := by decide +kernel
theorem dX11_act_55 : decode cX11_act 55 = .ok (.iaload, 1) := by decide +kernel
theorem dX11_act_56 : decode cX11_act 56 = .ok (.iadd, 1) := by decide +kernel
theorem dX11_act_57 : decode cX11_act 57 = .ok (.iaload, 1) := by decide +kernel
theorem dX11_act_58 : decode cX11_act 58 = .ok (.istore_n 3, 1) := by decide +kernel
theorem dX11_act_59 : decode cX11_act 59 = .ok (.iload_n 3, 1) := by decide +kernel
theorem dX11_act_60 : decode cX11_act 60 = .ok (.invokestatic 166, 3) := by decide +kernel
theorem dX11_act_63 : decode cX11_act 63 = .ok (.iconst 1, 1) := by decide +kernel
theorem dX11_act_64 : decode cX11_act 64 = .ok (.if_icmp .le 21, 3) := by decide +kernel
theorem dX11_act_67 : decode cX11_act 67 = .ok (.aload_n 0, 1) := by decide +kernel
theorem dX11_act_68 : decode cX11_act 68 = .ok (.getfield 7, 3) := by decide +kernel
theorem dX11_act_71 : decode cX11_act 71 = .ok (.iload_n 2, 1) := by decide +kernel
theorem dX11_act_72 : decode cX11_act 72 = .ok (.aload_n 0, 1) := by decide +kernel
theorem dX11_act_73 : decode cX11_act 73 = .ok (.getfield 114, 3) := by decide +kernel
theorem dX11_act_76 : decode cX11_act 76 = .ok (.iload_n 1, 1) := by decide +kernel
theorem dX11_act_77 : decode cX11_act 77 = .ok (.iaload, 1) := by decide +kernel
theorem dX11_act_78 : decode cX11_act 78 = .ok (.iadd, 1) := by decide +kernel
theorem dX11_act_79 : decode cX11_act 79 = .ok (.iconst 1, 1) := by decide +kernel
theorem dX11_act_80 : decode cX11_act 80 = .ok (.iadd, 1) := by decide +kernel
theorem dX11_act_81 : decode cX11_act 81 = .ok (.iaload, 1) := by decide +kernel
theorem dX11_act_82 : decode cX11_act 82 = .ok (.goto 4, 3) := by decide +kernel
theorem dX11_act_85 : decode cX11_act 85 = .ok (.iconst 0, 1) := by decide +kernel
theorem dX11_act_86 : decode cX11_act 86 = .ok (.istore 4, 2) := by decide +kernel
theorem dX11_act_88 : decode cX11_act 88 = .ok (.aload_n 0, 1) := by decide +kernel
theorem dX11_act_89 : decode cX11_act 89 = .ok (.getfield 132, 3) := by decide +kernel
theorem dX11_act_92 : decode cX11_act 92 = .ok (.iload_n 1, 1) := by decide +kernel
theorem dX11_act_93 : decode cX11_act 93 = .ok (.baload, 1) := by decide +kernel
theorem dX11_act_94 : decode cX11_act 94 = .ok (.ifCond .eq 37, 3) := by decide +kernel
theorem dX11_act_97 : decode cX11_act 97 = .ok (.iload_n 3, 1) := by decide +kernel
theorem dX11_act_98 : decode cX11_act 98 = .ok (.bipush 22, 2) := by decide +kernel
theorem dX11_act_100 : decode cX11_act 100 = .ok (.if_icmp .eq 27, 3) := by decide +kernel
theorem dX11_act_103 : decode cX11_act 103 = .ok (.iload_n 3, 1) := by decide +kernel
theorem dX11_act_104 : decode cX11_act 104 = .ok (.bipush 33, 2) := by decide +kernel
theorem dX11_act_106 : decode cX11_act 106 = .ok (.if_icmp .eq 21, 3) := by decide +kernel
theorem dX11_act_109 : decode cX11_act 109 = .ok (.iload_n 3, 1) := by decide +kernel
theorem dX11_act_110 : decode cX11_act 110 = .ok (.bipush 34, 2) := by decide +kernel
theorem dX11_act_112 : decode cX11_act 112 = .ok (.if_icmp .eq 15, 3) := by decide +kernel
theorem dX11_act_115 : decode cX11_act 115 = .ok (.iload_n 3, 1) := by decide +kernel
theorem dX11_act_116 : decode cX11_act 116 = .ok (.bipush 35, 2) := by decide +kernel
theorem dX11_act_118 : decode cX11_act 118 = .ok (.if_icmp .eq 9, 3) := by decide +kernel
theorem dX11_act_121 : decode cX11_act 121 = .ok (.iload_n 3, 1) := by decide +kernel
theorem dX11_act_122 : decode cX11_act 122 = .ok (.bipush 38, 2) := by decide +kernel
theorem dX11_act_124 : decode cX11_act 124 = .ok (.if_icmp .ne 7, 3) := by decide +kernel
theorem dX11_act_127 : decode cX11_act 127 = .ok (.iconst 1, 1) := by decide +kernel
theorem dX11_act_128 : decode cX11_act 128 = .ok (.goto 4, 3) := by decide +kernel
theorem dX11_act_131 : decode cX11_act 131 = .ok (.iconst 0, 1) := by decide +kernel
theorem dX11_act_132 : decode cX11_act 132 = .ok (.istore 5, 2) := by decide +kernel
theorem dX11_act_134 : decode cX11_act 134 = .ok (.iload_n 3, 1) := by decide +kernel
theorem dX11_act_135 : decode cX11_act 135 = .ok (.iconst 4, 1) := by decide +kernel
theorem dX11_act_136 : decode cX11_act 136 = .ok (.if_icmp .eq 8, 3) := by decide +kernel
theorem dX11_act_139 : decode cX11_act 139 = .ok (.iload_n 3, 1) := by decide +kernel
theorem dX11_act_140 : decode cX11_act 140 = .ok (.iconst 5, 1) := by decide +kernel
theorem dX11_act_141 : decode cX11_act 141 = .ok (.if_icmp .ne 18, 3) := by decide +kernel
theorem dX11_act_144 : decode cX11_act 144 = .ok (.iload 4, 2) := by decide +kernel
theorem dX11_act_146 : decode cX11_act 146 = .ok (.aload_n 0, 1) := by decide +kernel
theorem dX11_act_147 : decode cX11_act 147 = .ok (.getfield 141, 3) := by decide +kernel
theorem dX11_act_150 : decode cX11_act 150 = .ok (.iload_n 1, 1) := by decide +kernel
theorem dX11_act_151 : decode cX11_act 151 = .ok (.iaload, 1) := by decide +kernel
theorem dX11_act_152 : decode cX11_act 152 = .ok (.if_icmp .lt 7, 3) := by decide +kernel
theorem dX11_act_155 : decode cX11_act 155 = .ok (.iconst 1, 1) := by decide +kernel
theorem dX11_act_156 : decode cX11_act 156 = .ok (.goto 4, 3) := by decide +kernel
theorem dX11_act_159 : decode cX11_act 159 = .ok (.iconst 0, 1) := by decide +kernel
theorem dX11_act_160 : decode cX11_act 160 = .ok (.istore 6, 2) := by decide +kernel
theorem dX11_act_162 : decode cX11_act 162 = .ok (.aload_n 0, 1) := by decide +kernel
theorem dX11_act_163 : decode cX11_act 163 = .ok (.getfield 117, 3) := by decide +kernel
theorem dX11_act_166 : decode cX11_act 166 = .ok (.iload_n 1, 1) := by decide +kernel
theorem dX11_act_167 : decode cX11_act 167 = .ok (.laload, 1) := by decide +kernel
theorem dX11_act_168 : decode cX11_act 168 = .ok (.iload_n 3, 1) := by decide +kernel
theorem dX11_act_169 : decode cX11_act 169 = .ok (.invokestatic 235, 3) := by decide +kernel
theorem dX11_act_172 : decode cX11_act 172 = .ok (.i2l, 1) := by decide +kernel
theorem dX11_act_173 : decode cX11_act 173 = .ok (.lcmp, 1) := by decide +kernel
theorem dX11_act_174 : decode cX11_act 174 = .ok (.ifCond .ge 10, 3) := by decide +kernel
theorem dX11_act_177 : decode cX11_act 177 = .ok (.aload_n 0, 1) := by decide +kernel
theorem dX11_act_178 : decode cX11_act 178 = .ok (.iconst 3, 1) := by decide +kernel
theorem dX11_act_179 : decode cX11_act 179 = .ok (.lconst 0, 1) := by decide +kernel
theorem dX11_act_180 : decode cX11_act 180 = .ok (.invokevirtual 231, 3) := by decide +kernel
theorem dX11_act_183 : decode cX11_act 183 = .ok (.return_, 1) := by decide +kernel
theorem dX11_act_184 : decode cX11_act 184 = .ok (.aload_n 0, 1) := by decide +kernel
theorem dX11_act_185 : decode cX11_act 185 = .ok (.getfield 117, 3) := by decide +kernel
theorem dX11_act_188 : decode cX11_act 188 = .ok (.iload_n 1, 1) := by decide +kernel
theorem dX11_act_189 : decode cX11_act 189 = .ok (.dup2, 1) := by decide +kernel
theorem dX11_act_190 : decode cX11_act 190 = .ok (.laload, 1) := by decide +kernel
theorem dX11_act_191 : decode cX11_act 191 = .ok (.iload_n 3, 1) := by decide +kernel
theorem dX11_act_192 : decode cX11_act 192 = .ok (.invokestatic 235, 3) := by decide +kernel
theorem dX11_act_195 : decode cX11_act 195 = .ok (.i2l, 1) := by decide +kernel
theorem dX11_act_196 : decode cX11_act 196 = .ok (.lsub, 1) := by decide +kernel
theorem dX11_act_197 : decode cX11_act 197 = .ok (.lastore, 1) := by decide +kernel
theorem dX11_act_198 : decode cX11_act 198 = .ok (.aload_n 0, 1) := by decide +kernel
theorem dX11_act_199 : decode cX11_act 199 = .ok (.getfield 141, 3) := by decide +kernel
theorem dX11_act_202 : decode cX11_act 202 = .ok (.iload_n 1, 1) := by decide +kernel
theorem dX11_act_203 : decode cX11_act 203 = .ok (.iaload, 1) := by decide +kernel
theorem dX11_act_204 : decode cX11_act 204 = .ok (.iload_n 3, 1) := by decide +kernel
theorem dX11_act_205 : decode cX11_act 205 = .ok (.invokestatic 238, 3) := by decide +kernel
theorem dX11_act_208 : decode cX11_act 208 = .ok (.if_icmp .lt 34, 3) := by decide +kernel
theorem dX11_act_211 : decode cX11_act 211 = .ok (.aload_n 0, 1) := by decide +kernel
theorem dX11_act_212 : decode cX11_act 212 = .ok (.getfield 141, 3) := by decide +kernel
theorem dX11_act_215 : decode cX11_act 215 = .ok (.iload_n 1, 1) := by decide +kernel
theorem dX11_act_216 : decode cX11_act 216 = .ok (.iaload, 1) := by decide +kernel
theorem dX11_act_217 : decode cX11_act 217 = .ok (.iload_n 3, 1) := by decide +kernel
theorem dX11_act_218 : decode cX11_act 218 = .ok (.invokestatic 238, 3) := by decide +kernel
theorem dX11_act_221 : decode cX11_act 221 = .ok (.isub, 1) := by decide +kernel
theorem dX11_act_222 : decode cX11_act 222 = .ok (.iload_n 3, 1) := by decide +kernel
theorem dX11_act_223 : decode cX11_act 223 = .ok (.invokestatic 241, 3) := by decide +kernel
theorem dX11_act_226 : decode cX11_act 226 = .ok (.iadd, 1) := by decide +kernel
theorem dX11_act_227 : decode cX11_act 227 = .ok (.bipush 24, 2) := by decide +kernel
theorem dX11_act_229 : decode cX11_act 229 = .ok (.if_icmp .gt 13, 3) := by decide +kernel
theorem dX11_act_232 : decode cX11_act 232 = .ok (.iload 6, 2) := by decide +kernel
theorem dX11_act_234 : decode cX11_act 234 = .ok (.ifCond .ne 8, 3) := by decide +kernel
theorem dX11_act_237 : decode cX11_act 237 = .ok (.iload 5, 2) := by decide +kernel
theorem dX11_act_239 : decode cX11_act 239 = .ok (.ifCond .eq 10, 3) := by decide +kernel
theorem dX11_act_242 : decode cX11_act 242 = .ok (.aload_n 0, 1) := by decide +kernel
theorem dX11_act_243 : decode cX11_act 243 = .ok (.iconst 3, 1) := by decide +kernel
theorem dX11_act_244 : decode cX11_act 244 = .ok (.lconst 0, 1) := by decide +kernel
theorem dX11_act_245 : decode cX11_act 245 = .ok (.invokevirtual 231, 3) := by decide +kernel
theorem dX11_act_248 : decode cX11_act 248 = .ok (.return_, 1) := by decide +kernel
theorem dX11_act_249 : decode cX11_act 249 = .ok (.aload_n 0, 1) := by decide +kernel
theorem dX11_act_250 : decode cX11_act 250 = .ok (.getfield 114, 3) := by decide +kernel
theorem dX11_act_253 : decode cX11_act 253 = .ok (.iload_n 1, 1) := by decide +kernel
theorem dX11_act_254 : decode cX11_act 254 = .ok (.iaload, 1) := by decide +kernel
theorem dX11_act_255 : decode cX11_act 255 = .ok (.istore 7, 2) := by decide +kernel
theorem dX11_act_257 : decode cX11_act 257 = .ok (.aload_n 0, 1) := by decide +kernel
theorem dX11_act_258 : decode cX11_act 258 = .ok (.getfield 114, 3) := by decide +kernel
theorem dX11_act_261 : decode cX11_act 261 = .ok (.iload_n 1, 1) := by decide +kernel
theorem dX11_act_262 : decode cX11_act 262 = .ok (.dup2, 1) := by decide +kernel
theorem dX11_act_263 : decode cX11_act 263 = .ok (.iaload, 1) := by decide +kernel
theorem dX11_act_264 : decode cX11_act 264 = .ok (.iload_n 3, 1) := by decide +kernel
theorem dX11_act_265 : decode cX11_act 265 = .ok (.invokestatic 166, 3) := by decide +kernel
theorem dX11_act_268 : decode cX11_act 268 = .ok (.iadd, 1) := by decide +kernel
theorem dX11_act_269 : decode cX11_act 269 = .ok (.iastore, 1) := by decide +kernel
theorem dX11_act_270 : decode cX11_act 270 = .ok (.iload_n 3, 1) := by decide +kernel
theorem dX11_act_271 : decode cX11_act 271 = .ok (.iconst 5, 1) := by decide +kernel
theorem dX11_act_272 : decode cX11_act 272 = .ok (.if_icmp .gt 17, 3) := by decide +kernel
theorem dX11_act_275 : decode cX11_act 275 = .ok (.aload_n 0, 1) := by decide +kernel
theorem dX11_act_276 : decode cX11_act 276 = .ok (.iload_n 3, 1) := by decide +kernel
theorem dX11_act_277 : decode cX11_act 277 = .ok (.iload 4, 2) := by decide +kernel
theorem dX11_act_279 : decode cX11_act 279 = .ok (.iload_n 2, 1) := by decide +kernel
theorem dX11_act_280 : decode cX11_act 280 = .ok (.iload 7, 2) := by decide +kernel
theorem dX11_act_282 : decode cX11_act 282 = .ok (.iadd, 1) := by decide +kernel
theorem dX11_act_283 : decode cX11_act 283 = .ok (.invokevirtual 244, 3) := by decide +kernel
theorem dX11_act_286 : decode cX11_act 286 = .ok (.goto 52, 3) := by decide +kernel
theorem dX11_act_289 : decode cX11_act 289 = .ok (.iload_n 3, 1) := by decide +kernel
theorem dX11_act_290 : decode cX11_act 290 = .ok (.bipush 18, 2) := by decide +kernel
theorem dX11_act_292 : decode cX11_act 292 = .ok (.if_icmp .gt 11, 3) := by decide +kernel
theorem dX11_act_295 : decode cX11_act 295 = .ok (.aload_n 0, 1) := by decide +kernel
theorem dX11_act_296 : decode cX11_act 296 = .ok (.iload_n 3, 1) := by decide +kernel
theorem dX11_act_297 : decode cX11_act 297 = .ok (.invokevirtual 248, 3) := by decide +kernel
theorem dX11_act_300 : decode cX11_act 300 = .ok (.goto 38, 3) := by decide +kernel
theorem dX11_act_303 : decode cX11_act 303 = .ok (.iload_n 3, 1) := by decide +kernel
theorem dX11_act_304 : decode cX11_act 304 = .ok (.bipush 22, 2) := by decide +kernel
theorem dX11_act_306 : decode cX11_act 306 = .ok (.if_icmp .gt 13, 3) := by decide +kernel
theorem dX11_act_309 : decode cX11_act 309 = .ok (.aload_n 0, 1) := by decide +kernel
theorem dX11_act_310 : decode cX11_act 310 = .ok (.iload_n 3, 1) := by decide +kernel
theorem dX11_act_311 : decode cX11_act 311 = .ok (.iload 4, 2) := by decide +kernel
theorem dX11_act_313 : decode cX11_act 313 = .ok (.invokevirtual 252, 3) := by decide +kernel
theorem dX11_act_316 : decode cX11_act 316 = .ok (.goto 22, 3) := by decide +kernel
theorem dX11_act_319 : decode cX11_act 319 = .ok (.iload_n 3, 1) := by decide +kernel
theorem dX11_act_320 : decode cX11_act 320 = .ok (.bipush 30, 2) := by decide +kernel
theorem dX11_act_322 : decode cX11_act 322 = .ok (.if_icmp .gt 11, 3) := by decide +kernel
theorem dX11_act_325 : decode cX11_act 325 = .ok (.aload_n 0, 1) := by decide +kernel
theorem dX11_act_326 : decode cX11_act 326 = .ok (.iload_n 3, 1) := by decide +kernel
theorem dX11_act_327 : decode cX11_act 327 = .ok (.invokevirtual 256, 3) := by decide +kernel
theorem dX11_act_330 : decode cX11_act 330 = .ok (.goto 8, 3) := by decide +kernel
theorem dX11_act_333 : decode cX11_act 333 = .ok (.aload_n 0, 1) := by decide +kernel
theorem dX11_act_334 : decode cX11_act 334 = .ok (.iload_n 3, 1) := by decide +kernel
theorem dX11_act_335 : decode cX11_act 335 = .ok (.invokevirtual 259, 3) := by decide +kernel
theorem dX11_act_338 : decode cX11_act 338 = .ok (.return_, 1) := by decide +kernel
theorem vb_size {op : Nat} : vm_size op ≤ 9 := by unfold vm_size; (repeat' split) <;> omega
theorem vb_cost {op : Nat} : vm_cost op ≤ 100 := by unfold vm_cost; (repeat' split) <;> omega
theorem vb_takes {op : Nat} : vm_takes op ≤ 4 := by unfold vm_takes; (repeat' split) <;> omega
theorem vb_gives {op : Nat} : vm_gives op ≤ 2 := by unfold vm_gives; (repeat' split) <;> omega
theorem lm_act1 {G : rx_E} {d : Nat} {C : rx_M} {S0 S : gs_T} {g : vg_T} {n : Nat → Int64} {e : List (Nat × Int64 × Int64)} {b m c a q s k : Nat} {v r : Int64} {l o : Bool} {t : List Int64} {w : (Nat → Int64) × Nat × Nat} {fs : List vf_T} {mc ms : Nat} {Q : Option Value → rx_M → Prop} {Z : String → rx_M → Prop} (hG : rx_OK G) {op mo : Nat} (hop : op < 40) (hp : fs.length < 10) (hY : rm_Y S0 S g (n, e, b, ((c, a, q, s, k), (v, r), (l, o), t, w) :: fs, m) 0) (K : ∀ br, ((br = 1 ∧ l = true ∧ vm_bars op = true) ∨ (br = 0 ∧ ¬ (l = true ∧ vm_bars op = true))) → rx_W G MX11_act d 134 [(5, .int (nI br)), (4, .int (nI mo)), (3, .int (nI op)), (2, .int (nI (200 * c))), (1, .int (nI fs.length)), (0, .ref 52)] [] (gl C S) mc ms Q Z) : rx_W G MX11_act d 88 [(4, .int (nI mo)), (3, .int (nI op)), (2, .int (nI (200 * c))), (1, .int (nI fs.length)), (0, .ref 52)] [] (gl C S) mc ms Q Z := by
  cases l
  · refine rx_aload_n dX11_act_88 rfl rfl ?_
    refine g_getR hG hf_RX11_132 rfl dX11_act_89 rfl rfl rfl ?_
    refine rx_iload_n dX11_act_92 rfl ?_
    refine gmv_zald (j := fs.length) (v := nI 0) hG dX11_act_93 rfl rfl rfl rfl (by omega) (by decide) (rY_look hY) ?_
    refine rx_if_eq (tgt := 131) dX11_act_94 (by decide) (fun h94 => ?_) (fun h94 => (absurd h94 (by decide))) 
    refine rx_iconst (v := nI 0) dX11_act_131 rfl ?_
    refine rx_istore dX11_act_132 (by decide) ?_
    refine rx_lv (lv' := [(5, .int (nI 0)), (4, .int (nI mo)), (3, .int (nI op)), (2, .int (nI (200 * c))), (1, .int (nI fs.length)), (0, .ref 52)]) ⟨rfl, rfl, rfl, rfl, rfl, rfl, trivial⟩ ?_
    exact K 0 (Or.inr ⟨rfl, fun h => absurd h.1 (by decide)⟩)
  · refine rx_aload_n dX11_act_88 rfl rfl ?_
    refine g_getR hG hf_RX11_132 rfl dX11_act_89 rfl rfl rfl ?_
    refine rx_iload_n dX11_act_92 rfl ?_
    refine gmv_zald (j := fs.length) (v := nI 1) hG dX11_act_93 rfl rfl rfl rfl (by omega) (by decide) (rY_look hY) ?_
    refine rx_if_eq (tgt := 131) dX11_act_94 (by decide) (fun h94 => (absurd h94 (by decide))) (fun h94 => ?_)
    refine rx_iload_n dX11_act_97 rfl ?_
    refine rx_bipush (v := nI 22) dX11_act_98 rfl ?_
    refine rx_icmp_eq (tgt := 127) dX11_act_100 (by decide) (fun h100 => ?_) (fun h100 => ?_)
    · rw [nI_eq (by omega) (by omega)] at h100
      refine rx_iconst (v := nI 1) dX11_act_127 rfl ?_
      refine rx_goto (tgt := 132) dX11_act_128 (by decide) ?_
      refine rx_istore dX11_act_132 (by decide) ?_
      refine rx_lv (lv' := [(5, .int (nI 1)), (4, .int (nI mo)), (3, .int (nI op)), (2, .int (nI (200 * c))), (1, .int (nI fs.length)), (0, .ref 52)]) ⟨rfl, rfl, rfl, rfl, rfl, rfl, trivial⟩ ?_
      exact K 1 (Or.inl ⟨rfl, rfl, by simp [vm_bars]; omega⟩)
    · rw [nI_eq (by omega) (by omega)] at h100
      refine rx_iload_n dX11_act_103 rfl ?_
      refine rx_bipush (v := nI 33) dX11_act_104 rfl ?_
      refine rx_icmp_eq (tgt := 127) dX11_act_106 (by decide) (fun h106 => ?_) (fun h106 => ?_)
      · rw [nI_eq (by omega) (by omega)] at h106
        refine rx_iconst (v := nI 1) dX11_act_127 rfl ?_
        refine rx_goto (tgt := 132) dX11_act_128 (by decide) ?_
        refine rx_istore dX11_act_132 (by decide) ?_
        refine rx_lv (lv' := [(5, .int (nI 1)), (4, .int (nI mo)), (3, .int (nI op)), (2, .int (nI (200 * c))), (1, .int (nI fs.length)), (0, .ref 52)]) ⟨rfl, rfl, rfl, rfl, rfl, rfl, trivial⟩ ?_
        exact K 1 (Or.inl ⟨rfl, rfl, by simp [vm_bars]; omega⟩)
      · rw [nI_eq (by omega) (by omega)] at h106
        refine rx_iload_n dX11_act_109 rfl ?_
        refine rx_bipush (v := nI 34) dX11_act_110 rfl ?_
        refine rx_icmp_eq (tgt := 127) dX11_act_112 (by decide) (fun h112 => ?_) (fun h112 => ?_)
        · rw [nI_eq (by omega) (by omega)] at h112
          refine rx_iconst (v := nI 1) dX11_act_127 rfl ?_
          refine rx_goto (tgt := 132) dX11_act_128 (by decide) ?_
          refine rx_istore dX11_act_132 (by decide) ?_
          refine rx_lv (lv' := [(5, .int (nI 1)), (4, .int (nI mo)), (3, .int (nI op)), (2, .int (nI (200 * c))), (1, .int (nI fs.length)), (0, .ref 52)]) ⟨rfl, rfl, rfl, rfl, rfl, rfl, trivial⟩ ?_
          exact K 1 (Or.inl ⟨rfl, rfl, by simp [vm_bars]; omega⟩)
        · rw [nI_eq (by omega) (by omega)] at h112
          refine rx_iload_n dX11_act_115 rfl ?_
          refine rx_bipush (v := nI 35) dX11_act_116 rfl ?_
          refine rx_icmp_eq (tgt := 127) dX11_act_118 (by decide) (fun h118 => ?_) (fun h118 => ?_)
          · rw [nI_eq (by omega) (by omega)] at h118
            refine rx_iconst (v := nI 1) dX11_act_127 rfl ?_
            refine rx_goto (tgt := 132) dX11_act_128 (by decide) ?_
            refine rx_istore dX11_act_132 (by decide) ?_
            refine rx_lv (lv' := [(5, .int (nI 1)), (4, .int (nI mo)), (3, .int (nI op)), (2, .int (nI (200 * c))), (1, .int (nI fs.length)), (0, .ref 52)]) ⟨rfl, rfl, rfl, rfl, rfl, rfl, trivial⟩ ?_
            exact K 1 (Or.inl ⟨rfl, rfl, by simp [vm_bars]; omega⟩)
          · rw [nI_eq (by omega) (by omega)] at h118
            refine rx_iload_n dX11_act_121 rfl ?_
            refine rx_bipush (v := nI 38) dX11_act_122 rfl ?_
            refine rx_icmp_ne (tgt := 131) dX11_act_124 (by decide) (fun h124 => ?_) (fun h124 => ?_)
            · rw [nI_eq (by omega) (by omega)] at h124
              refine rx_iconst (v := nI 0) dX11_act_131 rfl ?_
              refine rx_istore dX11_act_132 (by decide) ?_
              refine rx_lv (lv' := [(5, .int (nI 0)), (4, .int (nI mo)), (3, .int (nI op)), (2, .int (nI (200 * c))), (1, .int (nI fs.length)), (0, .ref 52)]) ⟨rfl, rfl, rfl, rfl, rfl, rfl, trivial⟩ ?_
              exact K 0 (Or.inr ⟨rfl, fun h => by have := h.2; simp [vm_bars] at this; omega⟩)
            · rw [nI_eq (by omega) (by omega)] at h124
              refine rx_iconst (v := nI 1) dX11_act_127 rfl ?_
              refine rx_goto (tgt := 132) dX11_act_128 (by decide) ?_
              refine rx_istore dX11_act_132 (by decide) ?_
              refine rx_lv (lv' := [(5, .int (nI 1)), (4, .int (nI mo)), (3, .int (nI op)), (2, .int (nI (200 * c))), (1, .int (nI fs.length)), (0, .ref 52)]) ⟨rfl, rfl, rfl, rfl, rfl, rfl, trivial⟩ ?_
              exact K 1 (Or.inl ⟨rfl, rfl, by simp [vm_bars]; omega⟩)
theorem lm_act2 {G : rx_E} {d : Nat} {C : rx_M} {S0 S : gs_T} {g : vg_T} {n : Nat → Int64} {e : List (Nat × Int64 × Int64)} {b m c a q s k : Nat} {v r : Int64} {l o : Bool} {t : List Int64} {w : (Nat → Int64) × Nat × Nat} {fs : List vf_T} {mc ms : Nat} {Q : Option Value → rx_M → Prop} {Z : String → rx_M → Prop} (hG : rx_OK G) {op mo br : Nat} (hop : op < 40) (hmo : mo < 256) (hp : fs.length < 10) (hY : rm_Y S0 S g (n, e, b, ((c, a, q, s, k), (v, r), (l, o), t, w) :: fs, m) 0) (K : ∀ dp, ((dp = 1 ∧ (op = 4 ∨ op = 5) ∧ t.length ≤ mo) ∨ (dp = 0 ∧ ¬ ((op = 4 ∨ op = 5) ∧ t.length ≤ mo))) → rx_W G MX11_act d 162 [(6, .int (nI dp)), (5, .int (nI br)), (4, .int (nI mo)), (3, .int (nI op)), (2, .int (nI (200 * c))), (1, .int (nI fs.length)), (0, .ref 52)] [] (gl C S) mc ms Q Z) : rx_W G MX11_act d 134 [(5, .int (nI br)), (4, .int (nI mo)), (3, .int (nI op)), (2, .int (nI (200 * c))), (1, .int (nI fs.length)), (0, .ref 52)] [] (gl C S) mc ms Q Z := by
  have hn := rY_n hY
  refine rx_iload_n dX11_act_134 rfl ?_
  refine rx_iconst (v := nI 4) dX11_act_135 rfl ?_
  refine rx_icmp_eq (tgt := 144) dX11_act_136 (by decide) (fun h136 => ?_) (fun h136 => ?_)
  · rw [nI_eq (by omega) (by omega)] at h136
    refine rx_iload dX11_act_144 rfl ?_
    refine rx_aload_n dX11_act_146 rfl rfl ?_
    refine g_getR hG hf_RX11_141 rfl dX11_act_147 rfl rfl rfl ?_
    refine rx_iload_n dX11_act_150 rfl ?_
    refine gmv_iald (j := fs.length) (v := nI t.length) hG dX11_act_151 rfl rfl rfl rfl (by omega) (by decide) (rY_size hY) ?_
    refine rx_icmp_lt (tgt := 159) dX11_act_152 (by decide) (fun h152 => ?_) (fun h152 => ?_)
    · rw [nI_ltI (by omega) (by omega)] at h152
      refine rx_iconst (v := nI 0) dX11_act_159 rfl ?_
      refine rx_istore dX11_act_160 (by decide) ?_
      refine rx_lv (lv' := [(6, .int (nI 0)), (5, .int (nI br)), (4, .int (nI mo)), (3, .int (nI op)), (2, .int (nI (200 * c))), (1, .int (nI fs.length)), (0, .ref 52)]) ⟨rfl, rfl, rfl, rfl, rfl, rfl, rfl, trivial⟩ ?_
      exact K 0 (Or.inr ⟨rfl, fun h => by omega⟩)
    · rw [nI_ltI (by omega) (by omega)] at h152
      refine rx_iconst (v := nI 1) dX11_act_155 rfl ?_
      refine rx_goto (tgt := 160) dX11_act_156 (by decide) ?_
      refine rx_istore dX11_act_160 (by decide) ?_
      refine rx_lv (lv' := [(6, .int (nI 1)), (5, .int (nI br)), (4, .int (nI mo)), (3, .int (nI op)), (2, .int (nI (200 * c))), (1, .int (nI fs.length)), (0, .ref 52)]) ⟨rfl, rfl, rfl, rfl, rfl, rfl, rfl, trivial⟩ ?_
      exact K 1 (Or.inl ⟨rfl, by omega, by omega⟩)
  · rw [nI_eq (by omega) (by omega)] at h136
    refine rx_iload_n dX11_act_139 rfl ?_
    refine rx_iconst (v := nI 5) dX11_act_140 rfl ?_
    refine rx_icmp_ne (tgt := 159) dX11_act_141 (by decide) (fun h141 => ?_) (fun h141 => ?_)
    · rw [nI_eq (by omega) (by omega)] at h141
      refine rx_iconst (v := nI 0) dX11_act_159 rfl ?_
      refine rx_istore dX11_act_160 (by decide) ?_
      refine rx_lv (lv' := [(6, .int (nI 0)), (5, .int (nI br)), (4, .int (nI mo)), (3, .int (nI op)), (2, .int (nI (200 * c))), (1, .int (nI fs.length)), (0, .ref 52)]) ⟨rfl, rfl, rfl, rfl, rfl, rfl, rfl, trivial⟩ ?_
      exact K 0 (Or.inr ⟨rfl, fun h => by omega⟩)
    · rw [nI_eq (by omega) (by omega)] at h141
      refine rx_iload dX11_act_144 rfl ?_
      refine rx_aload_n dX11_act_146 rfl rfl ?_
      refine g_getR hG hf_RX11_141 rfl dX11_act_147 rfl rfl rfl ?_
      refine rx_iload_n dX11_act_150 rfl ?_
      refine gmv_iald (j := fs.length) (v := nI t.length) hG dX11_act_151 rfl rfl rfl rfl (by omega) (by decide) (rY_size hY) ?_
      refine rx_icmp_lt (tgt := 159) dX11_act_152 (by decide) (fun h152 => ?_) (fun h152 => ?_)
      · rw [nI_ltI (by omega) (by omega)] at h152
        refine rx_iconst (v := nI 0) dX11_act_159 rfl ?_
        refine rx_istore dX11_act_160 (by decide) ?_
        refine rx_lv (lv' := [(6, .int (nI 0)), (5, .int (nI br)), (4, .int (nI mo)), (3, .int (nI op)), (2, .int (nI (200 * c))), (1, .int (nI fs.length)), (0, .ref 52)]) ⟨rfl, rfl, rfl, rfl, rfl, rfl, rfl, trivial⟩ ?_
        exact K 0 (Or.inr ⟨rfl, fun h => by omega⟩)
      · rw [nI_ltI (by omega) (by omega)] at h152
        refine rx_iconst (v := nI 1) dX11_act_155 rfl ?_
        refine rx_goto (tgt := 160) dX11_act_156 (by decide) ?_
        refine rx_istore dX11_act_160 (by decide) ?_
        refine rx_lv (lv' := [(6, .int (nI 1)), (5, .int (nI br)), (4, .int (nI mo)), (3, .int (nI op)), (2, .int (nI (200 * c))), (1, .int (nI fs.length)), (0, .ref 52)]) ⟨rfl, rfl, rfl, rfl, rfl, rfl, rfl, trivial⟩ ?_
        exact K 1 (Or.inl ⟨rfl, by omega, by omega⟩)
set_option maxHeartbeats 2000000 in
theorem lm_act3 {G : rx_E} {d : Nat} {C : rx_M} {S0 S : gs_T} {g : vg_T} {n : Nat → Int64} {e : List (Nat × Int64 × Int64)} {b m c a q s k : Nat} {v r : Int64} {l o : Bool} {t : List Int64} {w : (Nat → Int64) × Nat × Nat} {fs : List vf_T} {mc ms : Nat} {Q : Option Value → rx_M → Prop} {Z : String → rx_M → Prop} (hG : rx_OK G) {op mo br dp : Nat} (hp : fs.length < 10) (hs1 : s < 32) (hk : k < 32) (hs : ∀ f ∈ fs, fS f < 32) (hcod : vw_codes g n) (hg : g.2.1 ≤ 16) (ho : g.2.2.1 < 32) (hh : g.2.2.2 < 100) (hq : q ≤ 30000) (hb : b ≤ 30001) (hw : w.2.1 ≤ e.length) (he : e.length ≤ 2001) (hlow : vw_low fs) (h1 : ¬ (g.1 c).length ≤ a) (hgo : (g.1 c).getD a 0 = op) (hgm : (if 1 < vm_size op then (g.1 c).getD (a + 1) 0 else 0) = mo) (hop : op < 40) (hmo : mo < 256) (hc : c < g.2.1) (hcl : (g.1 c).length ≤ 200) (hal : a + vm_size op ≤ (g.1 c).length) (hoct : ∀ k, k < (g.1 c).length → (g.1 c).getD k 0 < 256) (hbr : ((br = 1 ∧ l = true ∧ vm_bars op = true) ∨ (br = 0 ∧ ¬ (l = true ∧ vm_bars op = true)))) (hdp : ((dp = 1 ∧ (op = 4 ∨ op = 5) ∧ t.length ≤ mo) ∨ (dp = 0 ∧ ¬ ((op = 4 ∨ op = 5) ∧ t.length ≤ mo)))) (hY : rm_Y S0 S g (n, e, b, ((c, a, q, s, k), (v, r), (l, o), t, w) :: fs, m) 0) : rx_W G MX11_act (d + 4) 162 [(6, .int (nI dp)), (5, .int (nI br)), (4, .int (nI mo)), (3, .int (nI op)), (2, .int (nI (200 * c))), (1, .int (nI fs.length)), (0, .ref 52)] [] (gl C S) mc ms (rq_on C S0 g (vm_act g (n, e, b, ((c, a, q, s, k), (v, r), (l, o), t, w) :: fs, m))) Z := by
  have hn := rY_n hY
  have hsz := @vb_size op
  have hct := @vb_cost op
  have htk := @vb_takes op
  have hgv := @vb_gives op
  refine rx_aload_n dX11_act_162 rfl rfl ?_
  refine g_getR hG hf_RX11_117 rfl dX11_act_163 rfl rfl rfl ?_
  refine rx_iload_n dX11_act_166 rfl ?_
  refine gmv_lald (j := fs.length) (v := lN q) hG dX11_act_167 rfl rfl rfl rfl (by omega) (by decide) (rY_gas hY) ?_
  refine rx_iload_n dX11_act_168 rfl ?_
  refine rx_invS0 (as := [.int _]) hG okX11_costOf lk_RX11_235 dX11_act_169 rfl (by simp [Value.category]) (cm_costOf hG hop) ?_
  rintro _ _ ⟨rfl, rfl⟩
  refine rx_i2l dX11_act_172 ?_
  refine rx_tl (y := lN (vm_cost op)) (nI_l (by omega)) ?_
  refine rx_lc_ge (tgt := 184) dX11_act_173 dX11_act_174 (by decide) (fun h173 => ?_) (fun h173 => ?_)
  · rw [lN_le (by omega) (by omega)] at h173
    refine rx_aload_n dX11_act_184 rfl rfl ?_
    refine g_getR hG hf_RX11_117 rfl dX11_act_185 rfl rfl rfl ?_
    refine rx_iload_n dX11_act_188 rfl ?_
    refine rx_dup2 dX11_act_189 rfl rfl ?_
    refine gmv_lald (j := fs.length) (v := lN q) hG dX11_act_190 rfl rfl rfl rfl (by omega) (by decide) (rY_gas hY) ?_
    refine rx_iload_n dX11_act_191 rfl ?_
    refine rx_invS0 (as := [.int _]) hG okX11_costOf lk_RX11_235 dX11_act_192 rfl (by simp [Value.category]) (cm_costOf hG hop) ?_
    rintro _ _ ⟨rfl, rfl⟩
    refine rx_i2l dX11_act_195 ?_
    refine rx_tl (y := lN (vm_cost op)) (nI_l (by omega)) ?_
    refine rx_lsub dX11_act_196 ?_
    refine rx_tl (y := lN (q - (vm_cost op))) (lN_sub (by omega)) ?_
    refine gm_last (j := fs.length) hG dX11_act_197 rfl rfl rfl rfl (by omega) (by decide) ?_
    refine rY_ab (rY_setGas hY (q - (vm_cost op))) (fun _ hY1 => ?_)
    refine rx_aload_n dX11_act_198 rfl rfl ?_
    refine g_getR hG hf_RX11_141 rfl dX11_act_199 rfl rfl rfl ?_
    refine rx_iload_n dX11_act_202 rfl ?_
    refine gmv_iald (j := fs.length) (v := nI t.length) hG dX11_act_203 rfl rfl rfl rfl (by omega) (by decide) (rY_size hY1) ?_
    refine rx_iload_n dX11_act_204 rfl ?_
    refine rx_invS0 (as := [.int _]) hG okX11_takes lk_RX11_238 dX11_act_205 rfl (by simp [Value.category]) (cm_takes hG hop) ?_
    rintro _ _ ⟨rfl, rfl⟩
    refine rx_icmp_lt (tgt := 242) dX11_act_208 (by decide) (fun h208 => ?_) (fun h208 => ?_)
    · rw [nI_ltI (by omega) (by omega)] at h208
      refine rx_aload_n dX11_act_242 rfl rfl ?_
      refine rx_iconst (v := nI 3) dX11_act_243 rfl ?_
      refine rx_lconst (v := lN 0) dX11_act_244 rfl ?_
      refine gv_invV (as := [.int _, .long _]) hG okX11_finish lk_RX11_231 rfl rfl dX11_act_245 rfl (by simp [Value.category]) (cr_fin3 hG hY1 (by omega) hlow hw _) ?_
      rintro _ _ ⟨rfl, _, rfl, hF⟩
      exact rx_vret rfl dX11_act_248 ⟨rfl, _, rfl, rm_onE (va_bad h1 hgo hgm (by omega) (Or.inl (by omega))) hF⟩
    · rw [nI_ltI (by omega) (by omega)] at h208
      refine rx_aload_n dX11_act_211 rfl rfl ?_
      refine g_getR hG hf_RX11_141 rfl dX11_act_212 rfl rfl rfl ?_
      refine rx_iload_n dX11_act_215 rfl ?_
      refine gmv_iald (j := fs.length) (v := nI t.length) hG dX11_act_216 rfl rfl rfl rfl (by omega) (by decide) (rY_size hY1) ?_
      refine rx_iload_n dX11_act_217 rfl ?_
      refine rx_invS0 (as := [.int _]) hG okX11_takes lk_RX11_238 dX11_act_218 rfl (by simp [Value.category]) (cm_takes hG hop) ?_
      rintro _ _ ⟨rfl, rfl⟩
      refine rx_isub dX11_act_221 ?_
      refine rx_ti (y := nI (t.length - vm_takes op)) (pk_sub (by omega)) ?_
      refine rx_iload_n dX11_act_222 rfl ?_
      refine rx_invS0 (as := [.int _]) hG okX11_gives lk_RX11_241 dX11_act_223 rfl (by simp [Value.category]) (cm_gives hG hop) ?_
      rintro _ _ ⟨rfl, rfl⟩
      refine rx_iadd dX11_act_226 ?_
      refine rx_ti (y := nI ((t.length - vm_takes op) + (vm_gives op))) ((nI_add _ _).trans (congrArg nI (by omega))) ?_
      refine rx_bipush (v := nI 24) dX11_act_227 rfl ?_
      refine rx_icmp_gt (tgt := 242) dX11_act_229 (by decide) (fun h229 => ?_) (fun h229 => ?_)
      · rw [nI_ltI (by omega) (by omega)] at h229
        refine rx_aload_n dX11_act_242 rfl rfl ?_
        refine rx_iconst (v := nI 3) dX11_act_243 rfl ?_
        refine rx_lconst (v := lN 0) dX11_act_244 rfl ?_
        refine gv_invV (as := [.int _, .long _]) hG okX11_finish lk_RX11_231 rfl rfl dX11_act_245 rfl (by simp [Value.category]) (cr_fin3 hG hY1 (by omega) hlow hw _) ?_
        rintro _ _ ⟨rfl, _, rfl, hF⟩
        exact rx_vret rfl dX11_act_248 ⟨rfl, _, rfl, rm_onE (va_bad h1 hgo hgm (by omega) (Or.inr (Or.inl (by omega)))) hF⟩
      · rw [nI_ltI (by omega) (by omega)] at h229
        refine rx_iload dX11_act_232 rfl ?_
        refine rx_if_ne (tgt := 242) dX11_act_234 (by decide) (fun h234 => ?_) (fun h234 => ?_)
        · rw [← nI_0, nI_eq (by omega) (by omega)] at h234
          refine rx_aload_n dX11_act_242 rfl rfl ?_
          refine rx_iconst (v := nI 3) dX11_act_243 rfl ?_
          refine rx_lconst (v := lN 0) dX11_act_244 rfl ?_
          refine gv_invV (as := [.int _, .long _]) hG okX11_finish lk_RX11_231 rfl rfl dX11_act_245 rfl (by simp [Value.category]) (cr_fin3 hG hY1 (by omega) hlow hw _) ?_
          rintro _ _ ⟨rfl, _, rfl, hF⟩
          exact rx_vret rfl dX11_act_248 ⟨rfl, _, rfl, rm_onE (va_bad h1 hgo hgm (by omega) (Or.inr (Or.inr (Or.inl (by omega))))) hF⟩
        · rw [← nI_0, nI_eq (by omega) (by omega)] at h234
          refine rx_iload dX11_act_237 rfl ?_
          refine rx_if_eq (tgt := 249) dX11_act_239 (by decide) (fun h239 => ?_) (fun h239 => ?_)
          · rw [← nI_0, nI_eq (by omega) (by omega)] at h239
            have hno : ¬ (t.length < vm_takes op ∨ 24 < t.length - vm_takes op + vm_gives op ∨ ((op = 4 ∨ op = 5) ∧ t.length ≤ mo) ∨ (l = true ∧ vm_bars op = true)) := by
              rintro (h | h | h | h)
              · omega
              · omega
              · rcases hdp with q | q
                · omega
                · exact q.2 h
              · rcases hbr with q | q
                · omega
                · exact q.2 h
            refine rx_aload_n dX11_act_249 rfl rfl ?_
            refine g_getR hG hf_RX11_114 rfl dX11_act_250 rfl rfl rfl ?_
            refine rx_iload_n dX11_act_253 rfl ?_
            refine gmv_iald (j := fs.length) (v := nI a) hG dX11_act_254 rfl rfl rfl rfl (by omega) (by decide) (rY_at hY1) ?_
            refine rx_istore dX11_act_255 (by decide) ?_
            refine rx_aload_n dX11_act_257 rfl rfl ?_
            refine g_getR hG hf_RX11_114 rfl dX11_act_258 rfl rfl rfl ?_
            refine rx_iload_n dX11_act_261 rfl ?_
            refine rx_dup2 dX11_act_262 rfl rfl ?_
            refine gmv_iald (j := fs.length) (v := nI a) hG dX11_act_263 rfl rfl rfl rfl (by omega) (by decide) (rY_at hY1) ?_
            refine rx_iload_n dX11_act_264 rfl ?_
            refine rx_invS0 (as := [.int _]) hG okX11_sizeOf lk_RX11_166 dX11_act_265 rfl (by simp [Value.category]) (cm_sizeOf hG hop) ?_
            rintro _ _ ⟨rfl, rfl⟩
            refine rx_iadd dX11_act_268 ?_
            refine rx_ti (y := nI ((vm_size op) + a)) ((nI_add _ _).trans (congrArg nI (by omega))) ?_
            refine rx_ti (y := nI (a + vm_size op)) (congrArg nI (Nat.add_comm _ _)) ?_
            refine gm_iast (j := fs.length) hG dX11_act_269 rfl rfl rfl rfl (by omega) (by decide) ?_
            refine rY_ab (rY_setAt hY1 (a + vm_size op)) (fun _ hY2 => ?_)
            refine rx_iload_n dX11_act_270 rfl ?_
            refine rx_iconst (v := nI 5) dX11_act_271 rfl ?_
            refine rx_icmp_gt (tgt := 289) dX11_act_272 (by decide) (fun h272 => ?_) (fun h272 => ?_)
            · rw [nI_ltI (by omega) (by omega)] at h272
              refine rx_iload_n dX11_act_289 rfl ?_
              refine rx_bipush (v := nI 18) dX11_act_290 rfl ?_
              refine rx_icmp_gt (tgt := 303) dX11_act_292 (by decide) (fun h292 => ?_) (fun h292 => ?_)
              · rw [nI_ltI (by omega) (by omega)] at h292
                refine rx_iload_n dX11_act_303 rfl ?_
                refine rx_bipush (v := nI 22) dX11_act_304 rfl ?_
                refine rx_icmp_gt (tgt := 319) dX11_act_306 (by decide) (fun h306 => ?_) (fun h306 => ?_)
                · rw [nI_ltI (by omega) (by omega)] at h306
                  refine rx_iload_n dX11_act_319 rfl ?_
                  refine rx_bipush (v := nI 30) dX11_act_320 rfl ?_
                  refine rx_icmp_gt (tgt := 333) dX11_act_322 (by decide) (fun h322 => ?_) (fun h322 => ?_)
                  · rw [nI_ltI (by omega) (by omega)] at h322
                    refine rx_aload_n dX11_act_333 rfl rfl ?_
                    refine rx_iload_n dX11_act_334 rfl ?_
                    refine gv_invV (as := [.int _]) hG okX11_greater lk_RX11_259 rfl rfl dX11_act_335 rfl (by simp [Value.category]) (cr_do5 hG (by omega) (by omega) hp hs1 hk hs hcod hg ho hh (by omega) hb hw he hlow (by omega) (by omega) hY2) ?_
                    rintro _ _ ⟨rfl, _, rfl, hF⟩
                    exact rx_vret rfl dX11_act_338 ⟨rfl, _, rfl, rm_onE (va_5 h1 hgo hgm (by omega) hno (by omega) (by omega) (by omega) (by omega)) hF⟩
                  · rw [nI_ltI (by omega) (by omega)] at h322
                    refine rx_aload_n dX11_act_325 rfl rfl ?_
                    refine rx_iload_n dX11_act_326 rfl ?_
                    refine gv_invV (as := [.int _]) hG okX11_tellOf lk_RX11_256 rfl rfl dX11_act_327 rfl (by simp [Value.category]) (cr_do4 hG (by omega) (by omega) hp hs1 hk hs hcod hg ho hh (by omega) hb hw he hlow (by omega) (by omega) hY2) ?_
                    rintro _ _ ⟨rfl, _, rfl, hF⟩
                    refine rx_goto (tgt := 338) dX11_act_330 (by decide) ?_
                    exact rx_vret rfl dX11_act_338 ⟨rfl, _, rfl, rm_onE (va_4 h1 hgo hgm (by omega) hno (by omega) (by omega) (by omega) (by omega)) hF⟩
                · rw [nI_ltI (by omega) (by omega)] at h306
                  refine rx_aload_n dX11_act_309 rfl rfl ?_
                  refine rx_iload_n dX11_act_310 rfl ?_
                  refine rx_iload dX11_act_311 rfl ?_
                  refine gv_invV (as := [.int _, .int _]) hG okX11_jumpOrCell lk_RX11_252 rfl rfl dX11_act_313 rfl (by simp [Value.category]) (cr_do3 hG (by omega) (by omega) hp hs1 hk hs hcod hg ho hh (by omega) hb hw he hlow (by omega) (by omega) hY2) ?_
                  rintro _ _ ⟨rfl, _, rfl, hF⟩
                  refine rx_goto (tgt := 338) dX11_act_316 (by decide) ?_
                  exact rx_vret rfl dX11_act_338 ⟨rfl, _, rfl, rm_onE (va_3 h1 hgo hgm (by omega) hno (by omega) (by omega) (by omega)) hF⟩
              · rw [nI_ltI (by omega) (by omega)] at h292
                refine rx_aload_n dX11_act_295 rfl rfl ?_
                refine rx_iload_n dX11_act_296 rfl ?_
                refine gv_invV (as := [.int _]) hG okX11_reckon lk_RX11_248 rfl rfl dX11_act_297 rfl (by simp [Value.category]) (cr_do2 hG (by omega) (by omega) hp hs1 hk hs hcod hg ho hh (by omega) hb hw he hlow (by omega) (by omega) hY2) ?_
                rintro _ _ ⟨rfl, _, rfl, hF⟩
                refine rx_goto (tgt := 338) dX11_act_300 (by decide) ?_
                exact rx_vret rfl dX11_act_338 ⟨rfl, _, rfl, rm_onE (va_2 h1 hgo hgm (by omega) hno (by omega) (by omega)) hF⟩
            · rw [nI_ltI (by omega) (by omega)] at h272
              refine rx_aload_n dX11_act_275 rfl rfl ?_
              refine rx_iload_n dX11_act_276 rfl ?_
              refine rx_iload dX11_act_277 rfl ?_
              refine rx_iload_n dX11_act_279 rfl ?_
              refine rx_iload dX11_act_280 rfl ?_
              refine rx_iadd dX11_act_282 ?_
              refine rx_ti (y := nI (a + 200 * c)) ((nI_add _ _).trans (congrArg nI (by omega))) ?_
              refine rx_ti (y := nI (200 * c + a)) (congrArg nI (Nat.add_comm _ _)) ?_
              refine gv_invV (as := [.int _, .int _, .int _]) hG okX11_simple lk_RX11_244 rfl rfl dX11_act_283 rfl (by simp [Value.category]) (cr_do1 (a := 0) hG (by omega) hp hs1 hk hs hcod hg ho hh (by omega) hb hw he hlow (by omega) (by omega) (fun h => hno (Or.inr (Or.inr (Or.inl h)))) rfl hc hcl hal hoct hY2) ?_
              rintro _ _ ⟨rfl, _, rfl, hF⟩
              refine rx_goto (tgt := 338) dX11_act_286 (by decide) ?_
              exact rx_vret rfl dX11_act_338 ⟨rfl, _, rfl, rm_onE (va_1 h1 hgo hgm (by omega) hno (by omega)) hF⟩
          · rw [← nI_0, nI_eq (by omega) (by omega)] at h239
            refine rx_aload_n dX11_act_242 rfl rfl ?_
            refine rx_iconst (v := nI 3) dX11_act_243 rfl ?_
            refine rx_lconst (v := lN 0) dX11_act_244 rfl ?_
            refine gv_invV (as := [.int _, .long _]) hG okX11_finish lk_RX11_231 rfl rfl dX11_act_245 rfl (by simp [Value.category]) (cr_fin3 hG hY1 (by omega) hlow hw _) ?_
            rintro _ _ ⟨rfl, _, rfl, hF⟩
            exact rx_vret rfl dX11_act_248 ⟨rfl, _, rfl, rm_onE (va_bad h1 hgo hgm (by omega) (Or.inr (Or.inr (Or.inr (by rcases hbr with h | h; (exact h.2); omega))))) hF⟩
  · rw [lN_le (by omega) (by omega)] at h173
    refine rx_aload_n dX11_act_177 rfl rfl ?_
    refine rx_iconst (v := nI 3) dX11_act_178 rfl ?_
    refine rx_lconst (v := lN 0) dX11_act_179 rfl ?_
    refine gv_invV (as := [.int _, .long _]) hG okX11_finish lk_RX11_231 rfl rfl dX11_act_180 rfl (by simp [Value.category]) (cr_fin3 hG hY (by omega) hlow hw _) ?_
    rintro _ _ ⟨rfl, _, rfl, hF⟩
    exact rx_vret rfl dX11_act_183 ⟨rfl, _, rfl, rm_onE (va_gas h1 hgo (by omega)) hF⟩

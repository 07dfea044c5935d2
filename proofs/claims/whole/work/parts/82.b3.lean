theorem dX11_doOrder_0 : decode cX11_doOrder 0 = .ok (.aload_n 0, 1) := by decide +kernel
theorem dX11_doOrder_1 : decode cX11_doOrder 1 = .ok (.getfield 23, 3) := by decide +kernel
theorem dX11_doOrder_4 : decode cX11_doOrder 4 = .ok (.iload_n 1, 1) := by decide +kernel
theorem dX11_doOrder_5 : decode cX11_doOrder 5 = .ok (.iaload, 1) := by decide +kernel
theorem dX11_doOrder_6 : decode cX11_doOrder 6 = .ok (.istore 5, 2) := by decide +kernel
theorem dX11_doOrder_8 : decode cX11_doOrder 8 = .ok (.aload_n 0, 1) := by decide +kernel
theorem dX11_doOrder_9 : decode cX11_doOrder 9 = .ok (.getfield 36, 3) := by decide +kernel
theorem dX11_doOrder_12 : decode cX11_doOrder 12 = .ok (.iload_n 1, 1) := by decide +kernel
theorem dX11_doOrder_13 : decode cX11_doOrder 13 = .ok (.iaload, 1) := by decide +kernel
theorem dX11_doOrder_14 : decode cX11_doOrder 14 = .ok (.i2l, 1) := by decide +kernel
theorem dX11_doOrder_15 : decode cX11_doOrder 15 = .ok (.aload_n 0, 1) := by decide +kernel
theorem dX11_doOrder_16 : decode cX11_doOrder 16 = .ok (.getfield 39, 3) := by decide +kernel
theorem dX11_doOrder_19 : decode cX11_doOrder 19 = .ok (.iload_n 1, 1) := by decide +kernel
theorem dX11_doOrder_20 : decode cX11_doOrder 20 = .ok (.iaload, 1) := by decide +kernel
theorem dX11_doOrder_21 : decode cX11_doOrder 21 = .ok (.i2l, 1) := by decide +kernel
theorem dX11_doOrder_22 : decode cX11_doOrder 22 = .ok (.lmul, 1) := by decide +kernel
theorem dX11_doOrder_23 : decode cX11_doOrder 23 = .ok (.lstore 6, 2) := by decide +kernel
theorem dX11_doOrder_25 : decode cX11_doOrder 25 = .ok (.aload_n 0, 1) := by decide +kernel
theorem dX11_doOrder_26 : decode cX11_doOrder 26 = .ok (.getfield 69, 3) := by decide +kernel
theorem dX11_doOrder_29 : decode cX11_doOrder 29 = .ok (.iload 4, 2) := by decide +kernel
theorem dX11_doOrder_31 : decode cX11_doOrder 31 = .ok (.iconst 0, 1) := by decide +kernel
theorem dX11_doOrder_32 : decode cX11_doOrder 32 = .ok (.iastore, 1) := by decide +kernel
theorem dX11_doOrder_33 : decode cX11_doOrder 33 = .ok (.aload_n 0, 1) := by decide +kernel
theorem dX11_doOrder_34 : decode cX11_doOrder 34 = .ok (.getfield 72, 3) := by decide +kernel
theorem dX11_doOrder_37 : decode cX11_doOrder 37 = .ok (.iload 4, 2) := by decide +kernel
theorem dX11_doOrder_39 : decode cX11_doOrder 39 = .ok (.iconst 0, 1) := by decide +kernel
theorem dX11_doOrder_40 : decode cX11_doOrder 40 = .ok (.iastore, 1) := by decide +kernel
theorem dX11_doOrder_41 : decode cX11_doOrder 41 = .ok (.aload_n 0, 1) := by decide +kernel
theorem dX11_doOrder_42 : decode cX11_doOrder 42 = .ok (.getfield 75, 3) := by decide +kernel
theorem dX11_doOrder_45 : decode cX11_doOrder 45 = .ok (.iload 4, 2) := by decide +kernel
theorem dX11_doOrder_47 : decode cX11_doOrder 47 = .ok (.lconst 0, 1) := by decide +kernel
theorem dX11_doOrder_48 : decode cX11_doOrder 48 = .ok (.lastore, 1) := by decide +kernel
theorem dX11_doOrder_49 : decode cX11_doOrder 49 = .ok (.aload_n 0, 1) := by decide +kernel
theorem dX11_doOrder_50 : decode cX11_doOrder 50 = .ok (.getfield 42, 3) := by decide +kernel
theorem dX11_doOrder_53 : decode cX11_doOrder 53 = .ok (.iload_n 1, 1) := by decide +kernel
theorem dX11_doOrder_54 : decode cX11_doOrder 54 = .ok (.iaload, 1) := by decide +kernel
theorem dX11_doOrder_55 : decode cX11_doOrder 55 = .ok (.i2l, 1) := by decide +kernel
theorem dX11_doOrder_56 : decode cX11_doOrder 56 = .ok (.aload_n 0, 1) := by decide +kernel
theorem dX11_doOrder_57 : decode cX11_doOrder 57 = .ok (.getfield 99, 3) := by decide +kernel
theorem dX11_doOrder_60 : decode cX11_doOrder 60 = .ok (.bipush 19, 2) := by decide +kernel
theorem dX11_doOrder_62 : decode cX11_doOrder 62 = .ok (.iload 5, 2) := by decide +kernel
theorem dX11_doOrder_64 : decode cX11_doOrder 64 = .ok (.imul, 1) := by decide +kernel
theorem dX11_doOrder_65 : decode cX11_doOrder 65 = .ok (.iconst 1, 1) := by decide +kernel
theorem dX11_doOrder_66 : decode cX11_doOrder 66 = .ok (.iadd, 1) := by decide +kernel
theorem dX11_doOrder_67 : decode cX11_doOrder 67 = .ok (.laload, 1) := by decide +kernel
theorem dX11_doOrder_68 : decode cX11_doOrder 68 = .ok (.lcmp, 1) := by decide +kernel
theorem dX11_doOrder_69 : decode cX11_doOrder 69 = .ok (.ifCond .ne 47, 3) := by decide +kernel
theorem dX11_doOrder_72 : decode cX11_doOrder 72 = .ok (.aload_n 0, 1) := by decide +kernel
theorem dX11_doOrder_73 : decode cX11_doOrder 73 = .ok (.getfield 36, 3) := by decide +kernel
theorem dX11_doOrder_76 : decode cX11_doOrder 76 = .ok (.iload_n 1, 1) := by decide +kernel
theorem dX11_doOrder_77 : decode cX11_doOrder 77 = .ok (.iaload, 1) := by decide +kernel
theorem dX11_doOrder_78 : decode cX11_doOrder 78 = .ok (.bipush 25, 2) := by decide +kernel
theorem dX11_doOrder_80 : decode cX11_doOrder 80 = .ok (.if_icmp .lt 36, 3) := by decide +kernel
theorem dX11_doOrder_83 : decode cX11_doOrder 83 = .ok (.aload_n 0, 1) := by decide +kernel
theorem dX11_doOrder_84 : decode cX11_doOrder 84 = .ok (.getfield 36, 3) := by decide +kernel
theorem dX11_doOrder_87 : decode cX11_doOrder 87 = .ok (.iload_n 1, 1) := by decide +kernel
theorem dX11_doOrder_88 : decode cX11_doOrder 88 = .ok (.iaload, 1) := by decide +kernel
theorem dX11_doOrder_89 : decode cX11_doOrder 89 = .ok (.iload_n 2, 1) := by decide +kernel
theorem dX11_doOrder_90 : decode cX11_doOrder 90 = .ok (.if_icmp .gt 26, 3) := by decide +kernel
theorem dX11_doOrder_93 : decode cX11_doOrder 93 = .ok (.lload 6, 2) := by decide +kernel
theorem dX11_doOrder_95 : decode cX11_doOrder 95 = .ok (.aload_n 0, 1) := by decide +kernel
theorem dX11_doOrder_96 : decode cX11_doOrder 96 = .ok (.getfield 29, 3) := by decide +kernel
theorem dX11_doOrder_99 : decode cX11_doOrder 99 = .ok (.iload_n 1, 1) := by decide +kernel
theorem dX11_doOrder_100 : decode cX11_doOrder 100 = .ok (.laload, 1) := by decide +kernel
theorem dX11_doOrder_101 : decode cX11_doOrder 101 = .ok (.ladd, 1) := by decide +kernel
theorem dX11_doOrder_102 : decode cX11_doOrder 102 = .ok (.aload_n 0, 1) := by decide +kernel
theorem dX11_doOrder_103 : decode cX11_doOrder 103 = .ok (.getfield 99, 3) := by decide +kernel
theorem dX11_doOrder_106 : decode cX11_doOrder 106 = .ok (.bipush 19, 2) := by decide +kernel
theorem dX11_doOrder_108 : decode cX11_doOrder 108 = .ok (.iload 5, 2) := by decide +kernel
theorem dX11_doOrder_110 : decode cX11_doOrder 110 = .ok (.imul, 1) := by decide +kernel
theorem dX11_doOrder_111 : decode cX11_doOrder 111 = .ok (.laload, 1) := by decide +kernel
theorem dX11_doOrder_112 : decode cX11_doOrder 112 = .ok (.lcmp, 1) := by decide +kernel
theorem dX11_doOrder_113 : decode cX11_doOrder 113 = .ok (.ifCond .le 5, 3) := by decide +kernel
theorem dX11_doOrder_116 : decode cX11_doOrder 116 = .ok (.iconst 0, 1) := by decide +kernel
theorem dX11_doOrder_117 : decode cX11_doOrder 117 = .ok (.ireturn, 1) := by decide +kernel
theorem dX11_doOrder_118 : decode cX11_doOrder 118 = .ok (.aload_n 0, 1) := by decide +kernel
theorem dX11_doOrder_119 : decode cX11_doOrder 119 = .ok (.getfield 99, 3) := by decide +kernel
theorem dX11_doOrder_122 : decode cX11_doOrder 122 = .ok (.bipush 19, 2) := by decide +kernel
theorem dX11_doOrder_124 : decode cX11_doOrder 124 = .ok (.iload 5, 2) := by decide +kernel
theorem dX11_doOrder_126 : decode cX11_doOrder 126 = .ok (.imul, 1) := by decide +kernel
theorem dX11_doOrder_127 : decode cX11_doOrder 127 = .ok (.iconst 1, 1) := by decide +kernel
theorem dX11_doOrder_128 : decode cX11_doOrder 128 = .ok (.iadd, 1) := by decide +kernel
theorem dX11_doOrder_129 : decode cX11_doOrder 129 = .ok (.dup2, 1) := by decide +kernel
theorem dX11_doOrder_130 : decode cX11_doOrder 130 = .ok (.laload, 1) := by decide +kernel
theorem dX11_doOrder_131 : decode cX11_doOrder 131 = .ok (.lconst 1, 1) := by decide +kernel
theorem dX11_doOrder_132 : decode cX11_doOrder 132 = .ok (.ladd, 1) := by decide +kernel
theorem dX11_doOrder_133 : decode cX11_doOrder 133 = .ok (.lastore, 1) := by decide +kernel
theorem dX11_doOrder_134 : decode cX11_doOrder 134 = .ok (.aload_n 0, 1) := by decide +kernel
theorem dX11_doOrder_135 : decode cX11_doOrder 135 = .ok (.getfield 99, 3) := by decide +kernel
theorem dX11_doOrder_138 : decode cX11_doOrder 138 = .ok (.bipush 19, 2) := by decide +kernel
theorem dX11_doOrder_140 : decode cX11_doOrder 140 = .ok (.iload 5, 2) := by decide +kernel
theorem dX11_doOrder_142 : decode cX11_doOrder 142 = .ok (.imul, 1) := by decide +kernel
theorem dX11_doOrder_143 : decode cX11_doOrder 143 = .ok (.dup2, 1) := by decide +kernel
theorem dX11_doOrder_144 : decode cX11_doOrder 144 = .ok (.laload, 1) := by decide +kernel
theorem dX11_doOrder_145 : decode cX11_doOrder 145 = .ok (.lload 6, 2) := by decide +kernel
theorem dX11_doOrder_147 : decode cX11_doOrder 147 = .ok (.lsub, 1) := by decide +kernel
theorem dX11_doOrder_148 : decode cX11_doOrder 148 = .ok (.lastore, 1) := by decide +kernel
theorem dX11_doOrder_149 : decode cX11_doOrder 149 = .ok (.aload_n 0, 1) := by decide +kernel
theorem dX11_doOrder_150 : decode cX11_doOrder 150 = .ok (.iload 5, 2) := by decide +kernel
theorem dX11_doOrder_152 : decode cX11_doOrder 152 = .ok (.aload_n 0, 1) := by decide +kernel
theorem dX11_doOrder_153 : decode cX11_doOrder 153 = .ok (.getfield 26, 3) := by decide +kernel
theorem dX11_doOrder_156 : decode cX11_doOrder 156 = .ok (.iload_n 1, 1) := by decide +kernel
theorem dX11_doOrder_157 : decode cX11_doOrder 157 = .ok (.iaload, 1) := by decide +kernel
theorem dX11_doOrder_158 : decode cX11_doOrder 158 = .ok (.aload_n 0, 1) := by decide +kernel
theorem dX11_doOrder_159 : decode cX11_doOrder 159 = .ok (.getfield 29, 3) := by decide +kernel
theorem dX11_doOrder_162 : decode cX11_doOrder 162 = .ok (.iload_n 1, 1) := by decide +kernel
theorem dX11_doOrder_163 : decode cX11_doOrder 163 = .ok (.laload, 1) := by decide +kernel
theorem dX11_doOrder_164 : decode cX11_doOrder 164 = .ok (.aload_n 0, 1) := by decide +kernel
theorem dX11_doOrder_165 : decode cX11_doOrder 165 = .ok (.getfield 33, 3) := by decide +kernel
theorem dX11_doOrder_168 : decode cX11_doOrder 168 = .ok (.iload_n 1, 1) := by decide +kernel
theorem dX11_doOrder_169 : decode cX11_doOrder 169 = .ok (.laload, 1) := by decide +kernel
theorem dX11_doOrder_170 : decode cX11_doOrder 170 = .ok (.aload_n 0, 1) := by decide +kernel
theorem dX11_doOrder_171 : decode cX11_doOrder 171 = .ok (.getfield 36, 3) := by decide +kernel
theorem dX11_doOrder_174 : decode cX11_doOrder 174 = .ok (.iload_n 1, 1) := by decide +kernel
theorem dX11_doOrder_175 : decode cX11_doOrder 175 = .ok (.iaload, 1) := by decide +kernel
theorem dX11_doOrder_176 : decode cX11_doOrder 176 = .ok (.bipush 25, 2) := by decide +kernel
theorem dX11_doOrder_178 : decode cX11_doOrder 178 = .ok (.isub, 1) := by decide +kernel
theorem dX11_doOrder_179 : decode cX11_doOrder 179 = .ok (.i2l, 1) := by decide +kernel
theorem dX11_doOrder_180 : decode cX11_doOrder 180 = .ok (.iconst 0, 1) := by decide +kernel
theorem dX11_doOrder_181 : decode cX11_doOrder 181 = .ok (.invokevirtual 314, 3) := by decide +kernel
theorem dX11_doOrder_184 : decode cX11_doOrder 184 = .ok (.aload_n 0, 1) := by decide +kernel
theorem dX11_doOrder_185 : decode cX11_doOrder 185 = .ok (.getfield 36, 3) := by decide +kernel
theorem dX11_doOrder_188 : decode cX11_doOrder 188 = .ok (.iload_n 1, 1) := by decide +kernel
theorem dX11_doOrder_189 : decode cX11_doOrder 189 = .ok (.iaload, 1) := by decide +kernel
theorem dX11_doOrder_190 : decode cX11_doOrder 190 = .ok (.aload_n 0, 1) := by decide +kernel
theorem dX11_doOrder_191 : decode cX11_doOrder 191 = .ok (.getfield 200, 3) := by decide +kernel
theorem dX11_doOrder_194 : decode cX11_doOrder 194 = .ok (.l2i, 1) := by decide +kernel
theorem dX11_doOrder_195 : decode cX11_doOrder 195 = .ok (.isub, 1) := by decide +kernel
theorem dX11_doOrder_196 : decode cX11_doOrder 196 = .ok (.istore 8, 2) := by decide +kernel
theorem dX11_doOrder_198 : decode cX11_doOrder 198 = .ok (.aload_n 0, 1) := by decide +kernel
theorem dX11_doOrder_199 : decode cX11_doOrder 199 = .ok (.getfield 215, 3) := by decide +kernel
theorem dX11_doOrder_202 : decode cX11_doOrder 202 = .ok (.iload 8, 2) := by decide +kernel
theorem dX11_doOrder_204 : decode cX11_doOrder 204 = .ok (.iconst 5, 1) := by decide +kernel
theorem dX11_doOrder_205 : decode cX11_doOrder 205 = .ok (.idiv, 1) := by decide +kernel
theorem dX11_doOrder_206 : decode cX11_doOrder 206 = .ok (.if_icmp .ge 10, 3) := by decide +kernel
theorem dX11_doOrder_209 : decode cX11_doOrder 209 = .ok (.aload_n 0, 1) := by decide +kernel
theorem dX11_doOrder_210 : decode cX11_doOrder 210 = .ok (.getfield 215, 3) := by decide +kernel
theorem dX11_doOrder_213 : decode cX11_doOrder 213 = .ok (.goto 7, 3) := by decide +kernel
theorem dX11_doOrder_216 : decode cX11_doOrder 216 = .ok (.iload 8, 2) := by decide +kernel
theorem dX11_doOrder_218 : decode cX11_doOrder 218 = .ok (.iconst 5, 1) := by decide +kernel
theorem dX11_doOrder_219 : decode cX11_doOrder 219 = .ok (.idiv, 1) := by decide +kernel
theorem dX11_doOrder_220 : decode cX11_doOrder 220 = .ok (.istore 9, 2) := by decide +kernel
theorem dX11_doOrder_222 : decode cX11_doOrder 222 = .ok (.iload 8, 2) := by decide +kernel
theorem dX11_doOrder_224 : decode cX11_doOrder 224 = .ok (.iload 9, 2) := by decide +kernel
theorem dX11_doOrder_226 : decode cX11_doOrder 226 = .ok (.isub, 1) := by decide +kernel
theorem dX11_doOrder_227 : decode cX11_doOrder 227 = .ok (.istore 8, 2) := by decide +kernel
theorem dX11_doOrder_229 : decode cX11_doOrder 229 = .ok (.aload_n 0, 1) := by decide +kernel
theorem dX11_doOrder_230 : decode cX11_doOrder 230 = .ok (.getfield 99, 3) := by decide +kernel
theorem dX11_doOrder_233 : decode cX11_doOrder 233 = .ok (.bipush 19, 2) := by decide +kernel
theorem dX11_doOrder_235 : decode cX11_doOrder 235 = .ok (.iload 5, 2) := by decide +kernel
theorem dX11_doOrder_237 : decode cX11_doOrder 237 = .ok (.imul, 1) := by decide +kernel
theorem dX11_doOrder_238 : decode cX11_doOrder 238 = .ok (.dup2, 1) := by decide +kernel
theorem dX11_doOrder_239 : decode cX11_doOrder 239 = .ok (.laload, 1) := by decide +kernel
theorem dX11_doOrder_240 : decode cX11_doOrder 240 = .ok (.aload_n 0, 1) := by decide +kernel
theorem dX11_doOrder_241 : decode cX11_doOrder 241 = .ok (.getfield 36, 3) := by decide +kernel
theorem dX11_doOrder_244 : decode cX11_doOrder 244 = .ok (.iload_n 1, 1) := by decide +kernel
theorem dX11_doOrder_245 : decode cX11_doOrder 245 = .ok (.iaload, 1) := by decide +kernel
theorem dX11_doOrder_246 : decode cX11_doOrder 246 = .ok (.iload 8, 2) := by decide +kernel
theorem dX11_doOrder_248 : decode cX11_doOrder 248 = .ok (.isub, 1) := by decide +kernel
theorem dX11_doOrder_249 : decode cX11_doOrder 249 = .ok (.i2l, 1) := by decide +kernel
theorem dX11_doOrder_250 : decode cX11_doOrder 250 = .ok (.aload_n 0, 1) := by decide +kernel
theorem dX11_doOrder_251 : decode cX11_doOrder 251 = .ok (.getfield 39, 3) := by decide +kernel
theorem dX11_doOrder_254 : decode cX11_doOrder 254 = .ok (.iload_n 1, 1) := by decide +kernel
theorem dX11_doOrder_255 : decode cX11_doOrder 255 = .ok (.iaload, 1) := by decide +kernel
theorem dX11_doOrder_256 : decode cX11_doOrder 256 = .ok (.i2l, 1) := by decide +kernel
theorem dX11_doOrder_257 : decode cX11_doOrder 257 = .ok (.lmul, 1) := by decide +kernel
theorem dX11_doOrder_258 : decode cX11_doOrder 258 = .ok (.ladd, 1) := by decide +kernel
theorem dX11_doOrder_259 : decode cX11_doOrder 259 = .ok (.lastore, 1) := by decide +kernel
theorem dX11_doOrder_260 : decode cX11_doOrder 260 = .ok (.aload_n 0, 1) := by decide +kernel
theorem dX11_doOrder_261 : decode cX11_doOrder 261 = .ok (.getfield 99, 3) := by decide +kernel
theorem dX11_doOrder_264 : decode cX11_doOrder 264 = .ok (.bipush 19, 2) := by decide +kernel
theorem dX11_doOrder_266 : decode cX11_doOrder 266 = .ok (.iload_n 3, 1) := by decide +kernel
theorem dX11_doOrder_267 : decode cX11_doOrder 267 = .ok (.imul, 1) := by decide +kernel
theorem dX11_doOrder_268 : decode cX11_doOrder 268 = .ok (.dup2, 1) := by decide +kernel
theorem dX11_doOrder_269 : decode cX11_doOrder 269 = .ok (.laload, 1) := by decide +kernel
theorem dX11_doOrder_270 : decode cX11_doOrder 270 = .ok (.iload 8, 2) := by decide +kernel
theorem dX11_doOrder_272 : decode cX11_doOrder 272 = .ok (.i2l, 1) := by decide +kernel
theorem dX11_doOrder_273 : decode cX11_doOrder 273 = .ok (.aload_n 0, 1) := by decide +kernel
theorem dX11_doOrder_274 : decode cX11_doOrder 274 = .ok (.getfield 39, 3) := by decide +kernel
theorem dX11_doOrder_277 : decode cX11_doOrder 277 = .ok (.iload_n 1, 1) := by decide +kernel
theorem dX11_doOrder_278 : decode cX11_doOrder 278 = .ok (.iaload, 1) := by decide +kernel
theorem dX11_doOrder_279 : decode cX11_doOrder 279 = .ok (.i2l, 1) := by decide +kernel
theorem dX11_doOrder_280 : decode cX11_doOrder 280 = .ok (.lmul, 1) := by decide +kernel
theorem dX11_doOrder_281 : decode cX11_doOrder 281 = .ok (.ladd, 1) := by decide +kernel
theorem dX11_doOrder_282 : decode cX11_doOrder 282 = .ok (.lastore, 1) := by decide +kernel
theorem dX11_doOrder_283 : decode cX11_doOrder 283 = .ok (.aload_n 0, 1) := by decide +kernel
theorem dX11_doOrder_284 : decode cX11_doOrder 284 = .ok (.getfield 69, 3) := by decide +kernel
theorem dX11_doOrder_287 : decode cX11_doOrder 287 = .ok (.iload 4, 2) := by decide +kernel
theorem dX11_doOrder_289 : decode cX11_doOrder 289 = .ok (.aload_n 0, 1) := by decide +kernel
theorem dX11_doOrder_290 : decode cX11_doOrder 290 = .ok (.getfield 193, 3) := by decide +kernel
theorem dX11_doOrder_293 : decode cX11_doOrder 293 = .ok (.iastore, 1) := by decide +kernel
theorem dX11_doOrder_294 : decode cX11_doOrder 294 = .ok (.aload_n 0, 1) := by decide +kernel
theorem dX11_doOrder_295 : decode cX11_doOrder 295 = .ok (.getfield 72, 3) := by decide +kernel
theorem dX11_doOrder_298 : decode cX11_doOrder 298 = .ok (.iload 4, 2) := by decide +kernel
theorem dX11_doOrder_300 : decode cX11_doOrder 300 = .ok (.iload 8, 2) := by decide +kernel
theorem dX11_doOrder_302 : decode cX11_doOrder 302 = .ok (.iastore, 1) := by decide +kernel
theorem dX11_doOrder_303 : decode cX11_doOrder 303 = .ok (.aload_n 0, 1) := by decide +kernel
theorem dX11_doOrder_304 : decode cX11_doOrder 304 = .ok (.getfield 75, 3) := by decide +kernel
theorem dX11_doOrder_307 : decode cX11_doOrder 307 = .ok (.iload 4, 2) := by decide +kernel
theorem dX11_doOrder_309 : decode cX11_doOrder 309 = .ok (.aload_n 0, 1) := by decide +kernel
theorem dX11_doOrder_310 : decode cX11_doOrder 310 = .ok (.getfield 196, 3) := by decide +kernel
theorem dX11_doOrder_313 : decode cX11_doOrder 313 = .ok (.lastore, 1) := by decide +kernel
theorem dX11_doOrder_314 : decode cX11_doOrder 314 = .ok (.iload 8, 2) := by decide +kernel
theorem dX11_doOrder_316 : decode cX11_doOrder 316 = .ok (.ireturn, 1) := by decide +kernel
theorem dX11_keepEvents_0 : decode cX11_keepEvents 0 = .ok (.iconst 0, 1) := by decide +kernel
theorem dX11_keepEvents_1 : decode cX11_keepEvents 1 = .ok (.istore_n 3, 1) := by decide +kernel
theorem dX11_keepEvents_2 : decode cX11_keepEvents 2 = .ok (.iload_n 3, 1) := by decide +kernel
theorem dX11_keepEvents_3 : decode cX11_keepEvents 3 = .ok (.aload_n 0, 1) := by decide +kernel
theorem dX11_keepEvents_4 : decode cX11_keepEvents 4 = .ok (.getfield 212, 3) := by decide +kernel
theorem dX11_keepEvents_7 : decode cX11_keepEvents 7 = .ok (.if_icmp .ge 90, 3) := by decide +kernel
theorem dX11_keepEvents_10 : decode cX11_keepEvents 10 = .ok (.aload_n 0, 1) := by decide +kernel
theorem dX11_keepEvents_11 : decode cX11_keepEvents 11 = .ok (.getfield 54, 3) := by decide +kernel
theorem dX11_keepEvents_14 : decode cX11_keepEvents 14 = .ok (.iload_n 1, 1) := by decide +kernel
theorem dX11_keepEvents_15 : decode cX11_keepEvents 15 = .ok (.iaload, 1) := by decide +kernel
theorem dX11_keepEvents_16 : decode cX11_keepEvents 16 = .ok (.bipush 60, 2) := by decide +kernel
theorem dX11_keepEvents_18 : decode cX11_keepEvents 18 = .ok (.if_icmp .ge 79, 3) := by decide +kernel
theorem dX11_keepEvents_21 : decode cX11_keepEvents 21 = .ok (.bipush 60, 2) := by decide +kernel
theorem dX11_keepEvents_23 : decode cX11_keepEvents 23 = .ok (.iload_n 1, 1) := by decide +kernel
theorem dX11_keepEvents_24 : decode cX11_keepEvents 24 = .ok (.imul, 1) := by decide +kernel
theorem dX11_keepEvents_25 : decode cX11_keepEvents 25 = .ok (.aload_n 0, 1) := by decide +kernel
theorem dX11_keepEvents_26 : decode cX11_keepEvents 26 = .ok (.getfield 54, 3) := by decide +kernel
theorem dX11_keepEvents_29 : decode cX11_keepEvents 29 = .ok (.iload_n 1, 1) := by decide +kernel
theorem dX11_keepEvents_30 : decode cX11_keepEvents 30 = .ok (.iaload, 1) := by decide +kernel
theorem dX11_keepEvents_31 : decode cX11_keepEvents 31 = .ok (.iadd, 1) := by decide +kernel
theorem dX11_keepEvents_32 : decode cX11_keepEvents 32 = .ok (.istore 4, 2) := by decide +kernel
theorem dX11_keepEvents_34 : decode cX11_keepEvents 34 = .ok (.aload_n 0, 1) := by decide +kernel
theorem dX11_keepEvents_35 : decode cX11_keepEvents 35 = .ok (.getfield 78, 3) := by decide +kernel
theorem dX11_keepEvents_38 : decode cX11_keepEvents 38 = .ok (.iload 4, 2) := by decide +kernel
theorem dX11_keepEvents_40 : decode cX11_keepEvents 40 = .ok (.aload_n 0, 1) := by decide +kernel
theorem dX11_keepEvents_41 : decode cX11_keepEvents 41 = .ok (.getfield 144, 3) := by decide +kernel
theorem dX11_keepEvents_44 : decode cX11_keepEvents 44 = .ok (.iload_n 3, 1) := by decide +kernel
theorem dX11_keepEvents_45 : decode cX11_keepEvents 45 = .ok (.iaload, 1) := by decide +kernel
theorem dX11_keepEvents_46 : decode cX11_keepEvents 46 = .ok (.iastore, 1) := by decide +kernel
theorem dX11_keepEvents_47 : decode cX11_keepEvents 47 = .ok (.aload_n 0, 1) := by decide +kernel
theorem dX11_keepEvents_48 : decode cX11_keepEvents 48 = .ok (.getfield 81, 3) := by decide +kernel
theorem dX11_keepEvents_51 : decode cX11_keepEvents 51 = .ok (.iload 4, 2) := by decide +kernel
theorem dX11_keepEvents_53 : decode cX11_keepEvents 53 = .ok (.aload_n 0, 1) := by decide +kernel
theorem dX11_keepEvents_54 : decode cX11_keepEvents 54 = .ok (.getfield 147, 3) := by decide +kernel
theorem dX11_keepEvents_57 : decode cX11_keepEvents 57 = .ok (.iload_n 3, 1) := by decide +kernel
theorem dX11_keepEvents_58 : decode cX11_keepEvents 58 = .ok (.laload, 1) := by decide +kernel
theorem dX11_keepEvents_59 : decode cX11_keepEvents 59 = .ok (.lastore, 1) := by decide +kernel
theorem dX11_keepEvents_60 : decode cX11_keepEvents 60 = .ok (.aload_n 0, 1) := by decide +kernel
theorem dX11_keepEvents_61 : decode cX11_keepEvents 61 = .ok (.getfield 84, 3) := by decide +kernel
theorem dX11_keepEvents_64 : decode cX11_keepEvents 64 = .ok (.iload 4, 2) := by decide +kernel
theorem dX11_keepEvents_66 : decode cX11_keepEvents 66 = .ok (.aload_n 0, 1) := by decide +kernel
theorem dX11_keepEvents_67 : decode cX11_keepEvents 67 = .ok (.getfield 150, 3) := by decide +kernel
theorem dX11_keepEvents_70 : decode cX11_keepEvents 70 = .ok (.iload_n 3, 1) := by decide +kernel
theorem dX11_keepEvents_71 : decode cX11_keepEvents 71 = .ok (.laload, 1) := by decide +kernel
theorem dX11_keepEvents_72 : decode cX11_keepEvents 72 = .ok (.lastore, 1) := by decide +kernel
theorem dX11_keepEvents_73 : decode cX11_keepEvents 73 = .ok (.aload_n 0, 1) := by decide +kernel
theorem dX11_keepEvents_74 : decode cX11_keepEvents 74 = .ok (.getfield 87, 3) := by decide +kernel
theorem dX11_keepEvents_77 : decode cX11_keepEvents 77 = .ok (.iload 4, 2) := by decide +kernel
theorem dX11_keepEvents_79 : decode cX11_keepEvents 79 = .ok (.iload_n 2, 1) := by decide +kernel
theorem dX11_keepEvents_80 : decode cX11_keepEvents 80 = .ok (.iastore, 1) := by decide +kernel
theorem dX11_keepEvents_81 : decode cX11_keepEvents 81 = .ok (.aload_n 0, 1) := by decide +kernel
theorem dX11_keepEvents_82 : decode cX11_keepEvents 82 = .ok (.getfield 54, 3) := by decide +kernel
theorem dX11_keepEvents_85 : decode cX11_keepEvents 85 = .ok (.iload_n 1, 1) := by decide +kernel
theorem dX11_keepEvents_86 : decode cX11_keepEvents 86 = .ok (.dup2, 1) := by decide +kernel
theorem dX11_keepEvents_87 : decode cX11_keepEvents 87 = .ok (.iaload, 1) := by decide +kernel
theorem dX11_keepEvents_88 : decode cX11_keepEvents 88 = .ok (.iconst 1, 1) := by decide +kernel
theorem dX11_keepEvents_89 : decode cX11_keepEvents 89 = .ok (.iadd, 1) := by decide +kernel
theorem dX11_keepEvents_90 : decode cX11_keepEvents 90 = .ok (.iastore, 1) := by decide +kernel
theorem dX11_keepEvents_91 : decode cX11_keepEvents 91 = .ok (.iinc 3 1, 3) := by decide +kernel
theorem dX11_keepEvents_94 : decode cX11_keepEvents 94 = .ok (.goto (-92), 3) := by decide +kernel
theorem dX11_keepEvents_97 : decode cX11_keepEvents 97 = .ok (.return_, 1) := by decide +kernel
theorem mE_congr {S S' : gs_T} : ∀ {e : List (Nat × Int64 × Int64)}, rm_E S e → S'.1 97 = S.1 97 → S'.2 98 = S.2 98 → S'.2 99 = S.2 99 → rm_E S' e
  | [], _, _, _, _ => trivial
  | x :: e, h, h1, h2, h3 => ⟨by rw [h1, h2, h3]; exact h.1, mE_congr h.2 h1 h2 h3⟩
theorem mo_P {S : gs_T} {cs : Nat → List Nat} {N h rp : Nat} {n : Nat → Int64} {q : wO} (hP : rm_P S (cs, N, 0, h) n) : rm_P ((rx_u (rx_u S.1 72 rp (nI 0)) 73 rp (nI 0)), (rx_u (rx_u (rx_u S.2 74 rp 0) 82 (19 * q.1.1 + 1) (n (19 * q.1.1 + 1) + 1)) 82 (19 * q.1.1) ((up1 n (19 * q.1.1 + 1) (n (19 * q.1.1 + 1) + 1)) (19 * q.1.1) - o_pays q))) (cs, N, q.1.1, h) (o_n1 n q) := by
  obtain ⟨⟨p1, p2, p3⟩, p4, p5⟩ := hP
  refine ⟨⟨fun c hc => ⟨by simpa [rx_ru] using (p1 c hc).1, fun k hk => by simpa [rx_ru] using (p1 c hc).2 k hk⟩, by simpa [rx_ru] using p2, by simpa [rx_ru] using p3⟩, fun k hk => ?_, by simpa [rx_ru] using p5⟩
  show rx_u (rx_u (rx_u S.2 74 rp 0) 82 (19 * q.1.1 + 1) (n (19 * q.1.1 + 1) + 1)) 82 (19 * q.1.1) ((up1 n (19 * q.1.1 + 1) (n (19 * q.1.1 + 1) + 1)) (19 * q.1.1) - o_pays q) 82 k = o_n1 n q k
  rw [rx_ru, if_pos rfl, rx_ru, if_pos rfl]
  unfold o_n1
  show _ = (if k = 19 * q.1.1 then _ else if k = 19 * q.1.1 + 1 then _ else n k)
  split
  · rfl
  · split
    · rfl
    · rw [rx_une _ (by decide)]; exact p4 k hk
/-- what an order leaves of the model's rows -/
def moF (S S' : gs_T) (h rp : Nat) (n : Nat → Int64) (e : List (Nat × Int64 × Int64)) (how : Nat) (us : Int32) (x : Int64) : Prop :=
  (∀ a, 53 ≤ a → a < 82 → a ≠ 72 → a ≠ 73 → a ≠ 74 → S'.1 a = S.1 a ∧ S'.2 a = S.2 a) ∧ (∀ k, k ≠ 49 → k ≠ 50 → k ≠ 52 → k ≠ 56 → k ≠ 57 → k ≠ 58 → k ≠ 59 → k ≠ 60 → S'.1 52 k = S.1 52 k) ∧ (∀ k, k < 608 → S'.2 82 k = n k) ∧ (S'.1 52 52 = nI e.length ∧ rm_E S' e) ∧
  (∀ j, S'.1 72 j = if j = rp then nI how else S.1 72 j) ∧ (∀ j, S'.1 73 j = if j = rp then us else S.1 73 j) ∧ (∀ j, S'.2 74 j = if j = rp then x else S.2 74 j)
theorem mo_fin {S S3 : gs_T} {h rp mk u how : Nat} {n : Nat → Int64} {q : wO} {X' : vx_S} {x : Int64} (hr1 : ∀ a, a < 82 → a ≠ 52 → S3.1 a = ((rx_u (rx_u S.1 72 rp (nI 0)) 73 rp (nI 0)), (rx_u (rx_u (rx_u S.2 74 rp 0) 82 (19 * q.1.1 + 1) (n (19 * q.1.1 + 1) + 1)) 82 (19 * q.1.1) ((up1 n (19 * q.1.1 + 1) (n (19 * q.1.1 + 1) + 1)) (19 * q.1.1) - o_pays q))).1 a ∧ S3.2 a = ((rx_u (rx_u S.1 72 rp (nI 0)) 73 rp (nI 0)), (rx_u (rx_u (rx_u S.2 74 rp 0) 82 (19 * q.1.1 + 1) (n (19 * q.1.1 + 1) + 1)) 82 (19 * q.1.1) ((up1 n (19 * q.1.1 + 1) (n (19 * q.1.1 + 1) + 1)) (19 * q.1.1) - o_pays q))).2 a) (hr3 : ∀ k, k ≠ 49 → k ≠ 50 → k ≠ 52 → k ≠ 56 → k ≠ 57 → k ≠ 58 → k ≠ 59 → k ≠ 60 → S3.1 52 k = ((rx_u (rx_u S.1 72 rp (nI 0)) 73 rp (nI 0)), (rx_u (rx_u (rx_u S.2 74 rp 0) 82 (19 * q.1.1 + 1) (n (19 * q.1.1 + 1) + 1)) 82 (19 * q.1.1) ((up1 n (19 * q.1.1 + 1) (n (19 * q.1.1 + 1) + 1)) (19 * q.1.1) - o_pays q))).1 52 k ∧ S3.2 52 k = ((rx_u (rx_u S.1 72 rp (nI 0)) 73 rp (nI 0)), (rx_u (rx_u (rx_u S.2 74 rp 0) 82 (19 * q.1.1 + 1) (n (19 * q.1.1 + 1) + 1)) 82 (19 * q.1.1) ((up1 n (19 * q.1.1 + 1) (n (19 * q.1.1 + 1) + 1)) (19 * q.1.1) - o_pays q))).2 52 k) (h82 : ∀ k, k < 608 → S3.2 82 k = X'.1 k) (he : S3.1 52 52 = nI X'.2.1.length) (hE : rm_E S3 X'.2.1) : moF S (rx_u (rx_u S3.1 72 rp (nI how)) 73 rp (o_used q.2.1 u X'.2.2.1), rx_u (rx_u (rx_u S3.2 82 (19 * q.1.1) (X'.1 (19 * q.1.1) + (nI q.2.1 - o_used q.2.1 u X'.2.2.1).toInt64 * lN q.2.2.1)) 82 (19 * mk) ((up1 X'.1 (19 * q.1.1) (X'.1 (19 * q.1.1) + (nI q.2.1 - o_used q.2.1 u X'.2.2.1).toInt64 * lN q.2.2.1)) (19 * mk) + (o_used q.2.1 u X'.2.2.1).toInt64 * lN q.2.2.1)) 74 rp x) h rp (o_n5 X'.1 q mk (o_used q.2.1 u X'.2.2.1)) X'.2.1 how (o_used q.2.1 u X'.2.2.1) x := by
  refine ⟨fun a h1 h2 h3 h4 h5 => ⟨?_, ?_⟩, fun k a1 a2 a3 a4 a5 a6 a7 a8 => ?_, fun k hk => ?_, ⟨by simpa [rx_ru] using he, mE_congr hE (funext fun j => by simp [rx_ru]) (funext fun j => by simp [rx_ru]) (funext fun j => by simp [rx_ru])⟩, fun j => ?_, fun j => ?_, fun j => ?_⟩
  · refine (rx_une _ h4).trans ((rx_une _ h3).trans ((hr1 a h2 (by omega)).1.trans ?_))
    exact (rx_une _ h4).trans (rx_une _ h3)
  · refine (rx_une _ h5).trans ((rx_une _ (by omega)).trans ((rx_une _ (by omega)).trans ((hr1 a h2 (by omega)).2.trans ?_)))
    exact (rx_une _ (by omega)).trans ((rx_une _ (by omega)).trans (rx_une _ h5))
  · have e := (hr3 k a1 a2 a3 a4 a5 a6 a7 a8).1
    have : S3.1 52 k = S.1 52 k := e.trans (by simp [rx_ru])
    simpa [rx_ru] using this
  · have e : (rx_u (rx_u (rx_u S3.2 82 (19 * q.1.1) (X'.1 (19 * q.1.1) + (nI q.2.1 - o_used q.2.1 u X'.2.2.1).toInt64 * lN q.2.2.1)) 82 (19 * mk) ((up1 X'.1 (19 * q.1.1) (X'.1 (19 * q.1.1) + (nI q.2.1 - o_used q.2.1 u X'.2.2.1).toInt64 * lN q.2.2.1)) (19 * mk) + (o_used q.2.1 u X'.2.2.1).toInt64 * lN q.2.2.1)) 74 rp x) 82 k = if k = 19 * mk then ((up1 X'.1 (19 * q.1.1) (X'.1 (19 * q.1.1) + (nI q.2.1 - o_used q.2.1 u X'.2.2.1).toInt64 * lN q.2.2.1)) (19 * mk) + (o_used q.2.1 u X'.2.2.1).toInt64 * lN q.2.2.1) else if k = 19 * q.1.1 then (X'.1 (19 * q.1.1) + (nI q.2.1 - o_used q.2.1 u X'.2.2.1).toInt64 * lN q.2.2.1) else S3.2 82 k := by simp [rx_ru]
    refine e.trans ?_
    unfold o_n5
    show _ = (if k = 19 * mk then _ else if k = 19 * q.1.1 then _ else X'.1 k)
    split
    · rfl
    · split
      · rfl
      · exact h82 k hk
  · have e := (hr1 72 (by decide) (by decide)).1
    have e2 : S3.1 72 j = if j = rp then nI 0 else S.1 72 j := by rw [e]; simp [rx_ru]
    have e3 : (rx_u (rx_u S3.1 72 rp (nI how)) 73 rp (o_used q.2.1 u X'.2.2.1)) 72 j = if j = rp then nI how else S3.1 72 j := by simp [rx_ru]
    refine e3.trans ?_
    split
    · rfl
    · rw [e2, if_neg (by assumption)]
  · have e := (hr1 73 (by decide) (by decide)).1
    have e2 : S3.1 73 j = if j = rp then nI 0 else S.1 73 j := by rw [e]; simp [rx_ru]
    have e3 : (rx_u (rx_u S3.1 72 rp (nI how)) 73 rp (o_used q.2.1 u X'.2.2.1)) 73 j = if j = rp then (o_used q.2.1 u X'.2.2.1) else S3.1 73 j := by simp [rx_ru]
    refine e3.trans ?_
    split
    · rfl
    · rw [e2, if_neg (by assumption)]
  · have e := (hr1 74 (by decide) (by decide)).2
    have e2 : S3.2 74 j = if j = rp then 0 else S.2 74 j := by rw [e]; simp [rx_ru]
    have e3 : (rx_u (rx_u (rx_u S3.2 82 (19 * q.1.1) (X'.1 (19 * q.1.1) + (nI q.2.1 - o_used q.2.1 u X'.2.2.1).toInt64 * lN q.2.2.1)) 82 (19 * mk) ((up1 X'.1 (19 * q.1.1) (X'.1 (19 * q.1.1) + (nI q.2.1 - o_used q.2.1 u X'.2.2.1).toInt64 * lN q.2.2.1)) (19 * mk) + (o_used q.2.1 u X'.2.2.1).toInt64 * lN q.2.2.1)) 74 rp x) 74 j = if j = rp then x else S3.2 74 j := by simp [rx_ru]
    refine e3.trans ?_
    split
    · rfl
    · rw [e2, if_neg (by assumption)]
set_option maxHeartbeats 2000000 in
theorem mf_doOrder {G : rx_E} {d : Nat} {C : rx_M} {S : gs_T} (hG : rx_OK G) {cs : Nat → List Nat} {N h i mk rp : Nat} {n : Nat → Int64} {q : wO} {left : Int32} (hi10 : i < 10) (hrp : rp < 400) (hmk : mk < 32) (hO : (S.1 57 i = nI q.1.1 ∧ S.1 58 i = nI q.1.2.1 ∧ S.2 59 i = q.1.2.2.1 ∧ S.2 60 i = q.1.2.2.2) ∧ (S.1 61 i = nI q.2.1 ∧ S.1 62 i = nI q.2.2.1 ∧ S.1 63 i = q.2.2.2)) (hf : q.1.1 < 32) (hto : q.1.2.1 < 32) (hgs : q.2.1 ≤ 30000) (hps : q.2.2.1 ≤ 1000000) (hP : rm_P S (cs, N, 0, h) n) (hvg : vw_G (cs, N, q.1.1, h)) (hvc : ∀ n, vw_codes (cs, N, q.1.1, h) n → vw_codes (cs, N, q.1.1, h) (o_n1 n q)) (hcd : vw_codes (cs, N, q.1.1, h) n) {Q : Option Value → rx_M → Prop} (hK0 : o_void n q left → Q (some (.int (nI 0))) (gl C ((rx_u (rx_u S.1 72 rp (nI 0)) 73 rp (nI 0)), (rx_u S.2 74 rp 0)))) (hK : ∀ S' X' how x u, o_run cs N h n q = (X', some (how, x, u)) → vw_E (cs, N, q.1.1, h) X' how u → ¬ o_void n q left → moF S S' h rp (o_n5 X'.1 q mk (o_used q.2.1 u X'.2.2.1)) X'.2.1 how (o_used q.2.1 u X'.2.2.1) x → Q (some (.int (o_used q.2.1 u X'.2.2.1))) (gl C S')) : rx_C G MX11_doOrder (d + 7) [.ref 52, .int (nI i), .int left, .int (nI mk), .int (nI rp)] (gl C S) 0 0 Q := by
  refine rx_meth0 (by decide +kernel) rfl (Nat.le_of_ble_eq_true rfl) ?_
  refine rx_aload_n dX11_doOrder_0 rfl rfl ?_
  refine g_getR hG hf_RX11_23 rfl dX11_doOrder_1 rfl rfl rfl ?_
  refine rx_iload_n dX11_doOrder_4 rfl ?_
  refine gmv_iald (j := i) (v := nI q.1.1) hG dX11_doOrder_5 rfl rfl rfl rfl (by omega) (by decide) hO.1.1 ?_
  refine rx_istore dX11_doOrder_6 (by decide) ?_
  refine rx_aload_n dX11_doOrder_8 rfl rfl ?_
  refine g_getR hG hf_RX11_36 rfl dX11_doOrder_9 rfl rfl rfl ?_
  refine rx_iload_n dX11_doOrder_12 rfl ?_
  refine gmv_iald (j := i) (v := nI q.2.1) hG dX11_doOrder_13 rfl rfl rfl rfl (by omega) (by decide) hO.2.1 ?_
  refine rx_i2l dX11_doOrder_14 ?_
  refine rx_tl (y := lN q.2.1) (nI_l (by omega)) ?_
  refine rx_aload_n dX11_doOrder_15 rfl rfl ?_
  refine g_getR hG hf_RX11_39 rfl dX11_doOrder_16 rfl rfl rfl ?_
  refine rx_iload_n dX11_doOrder_19 rfl ?_
  refine gmv_iald (j := i) (v := nI q.2.2.1) hG dX11_doOrder_20 rfl rfl rfl rfl (by omega) (by decide) hO.2.2.1 ?_
  refine rx_i2l dX11_doOrder_21 ?_
  refine rx_tl (y := lN q.2.2.1) (nI_l (by omega)) ?_
  refine rx_lmul dX11_doOrder_22 ?_
  refine rx_lstore dX11_doOrder_23 (by decide) ?_
  refine rx_aload_n dX11_doOrder_25 rfl rfl ?_
  refine g_getR hG hf_RX11_69 rfl dX11_doOrder_26 rfl rfl rfl ?_
  refine rx_iload dX11_doOrder_29 rfl ?_
  refine rx_iconst (v := nI 0) dX11_doOrder_31 rfl ?_
  refine gm_iast (j := rp) hG dX11_doOrder_32 rfl rfl rfl rfl (by omega) (by decide) ?_
  refine rx_aload_n dX11_doOrder_33 rfl rfl ?_
  refine g_getR hG hf_RX11_72 rfl dX11_doOrder_34 rfl rfl rfl ?_
  refine rx_iload dX11_doOrder_37 rfl ?_
  refine rx_iconst (v := nI 0) dX11_doOrder_39 rfl ?_
  refine gm_iast (j := rp) hG dX11_doOrder_40 rfl rfl rfl rfl (by omega) (by decide) ?_
  refine rx_aload_n dX11_doOrder_41 rfl rfl ?_
  refine g_getR hG hf_RX11_75 rfl dX11_doOrder_42 rfl rfl rfl ?_
  refine rx_iload dX11_doOrder_45 rfl ?_
  refine rx_lconst (v := 0) dX11_doOrder_47 rfl ?_
  refine gm_last (j := rp) hG dX11_doOrder_48 rfl rfl rfl rfl (by omega) (by decide) ?_
  refine rx_aload_n dX11_doOrder_49 rfl rfl ?_
  refine g_getR hG hf_RX11_42 rfl dX11_doOrder_50 rfl rfl rfl ?_
  refine rx_iload_n dX11_doOrder_53 rfl ?_
  refine gmv_iald (j := i) (v := q.2.2.2) hG dX11_doOrder_54 rfl rfl rfl rfl (by omega) (by decide) (by simpa [rx_ru] using hO.2.2.2) ?_
  refine rx_i2l dX11_doOrder_55 ?_
  refine rx_aload_n dX11_doOrder_56 rfl rfl ?_
  refine g_getR hG hf_RX11_99 rfl dX11_doOrder_57 rfl rfl rfl ?_
  refine rx_bipush (v := nI 19) dX11_doOrder_60 rfl ?_
  refine rx_iload dX11_doOrder_62 rfl ?_
  refine rx_imul dX11_doOrder_64 ?_
  refine rx_ti (y := nI (19 * q.1.1)) ((pk_mul _ _).trans (congrArg nI (by omega))) ?_
  refine rx_iconst (v := nI 1) dX11_doOrder_65 rfl ?_
  refine rx_iadd dX11_doOrder_66 ?_
  refine rx_ti (y := nI (19 * q.1.1 + 1)) ((nI_add _ _).trans (congrArg nI (by omega))) ?_
  refine gmv_lald (j := 19 * q.1.1 + 1) (v := n (19 * q.1.1 + 1)) hG dX11_doOrder_67 rfl rfl rfl rfl (by omega) (by decide) (by show rx_u S.2 74 rp 0 82 (19 * q.1.1 + 1) = _; rw [rx_une _ (by decide)]; exact hP.2.1 _ (by omega)) ?_
  refine rx_lc_ne (tgt := 116) dX11_doOrder_68 dX11_doOrder_69 (by decide) (fun h68 => ?_) (fun h68 => ?_)
  · refine rx_iconst (v := nI 0) dX11_doOrder_116 rfl ?_
    exact rx_iret rfl dX11_doOrder_117 (hK0 (Or.inl h68))
  · refine rx_aload_n dX11_doOrder_72 rfl rfl ?_
    refine g_getR hG hf_RX11_36 rfl dX11_doOrder_73 rfl rfl rfl ?_
    refine rx_iload_n dX11_doOrder_76 rfl ?_
    refine gmv_iald (j := i) (v := nI q.2.1) hG dX11_doOrder_77 rfl rfl rfl rfl (by omega) (by decide) (by simpa [rx_ru] using hO.2.1) ?_
    refine rx_bipush (v := nI 25) dX11_doOrder_78 rfl ?_
    refine rx_icmp_lt (tgt := 116) dX11_doOrder_80 (by decide) (fun h80 => ?_) (fun h80 => ?_)
    · rw [nI_ltI (by omega) (by omega)] at h80
      refine rx_iconst (v := nI 0) dX11_doOrder_116 rfl ?_
      exact rx_iret rfl dX11_doOrder_117 (hK0 (Or.inr (Or.inl (by omega))))
    · rw [nI_ltI (by omega) (by omega)] at h80
      refine rx_aload_n dX11_doOrder_83 rfl rfl ?_
      refine g_getR hG hf_RX11_36 rfl dX11_doOrder_84 rfl rfl rfl ?_
      refine rx_iload_n dX11_doOrder_87 rfl ?_
      refine gmv_iald (j := i) (v := nI q.2.1) hG dX11_doOrder_88 rfl rfl rfl rfl (by omega) (by decide) (by simpa [rx_ru] using hO.2.1) ?_
      refine rx_iload_n dX11_doOrder_89 rfl ?_
      refine rx_icmp_gt (tgt := 116) dX11_doOrder_90 (by decide) (fun h90 => ?_) (fun h90 => ?_)
      · refine rx_iconst (v := nI 0) dX11_doOrder_116 rfl ?_
        exact rx_iret rfl dX11_doOrder_117 (hK0 (Or.inr (Or.inr (Or.inl h90))))
      · refine rx_lload dX11_doOrder_93 rfl ?_
        refine rx_aload_n dX11_doOrder_95 rfl rfl ?_
        refine g_getR hG hf_RX11_29 rfl dX11_doOrder_96 rfl rfl rfl ?_
        refine rx_iload_n dX11_doOrder_99 rfl ?_
        refine gmv_lald (j := i) (v := q.1.2.2.1) hG dX11_doOrder_100 rfl rfl rfl rfl (by omega) (by decide) (by simpa [rx_ru] using hO.1.2.2.1) ?_
        refine rx_ladd dX11_doOrder_101 ?_
        refine rx_tl (y := o_pays q + q.1.2.2.1) rfl ?_
        refine rx_aload_n dX11_doOrder_102 rfl rfl ?_
        refine g_getR hG hf_RX11_99 rfl dX11_doOrder_103 rfl rfl rfl ?_
        refine rx_bipush (v := nI 19) dX11_doOrder_106 rfl ?_
        refine rx_iload dX11_doOrder_108 rfl ?_
        refine rx_imul dX11_doOrder_110 ?_
        refine rx_ti (y := nI (19 * q.1.1)) ((pk_mul _ _).trans (congrArg nI (by omega))) ?_
        refine gmv_lald (j := 19 * q.1.1) (v := n (19 * q.1.1)) hG dX11_doOrder_111 rfl rfl rfl rfl (by omega) (by decide) (by show rx_u S.2 74 rp 0 82 (19 * q.1.1) = _; rw [rx_une _ (by decide)]; exact hP.2.1 _ (by omega)) ?_
        refine rx_lc_le (tgt := 118) dX11_doOrder_112 dX11_doOrder_113 (by decide) (fun h112 => ?_) (fun h112 => ?_)
        · refine rx_aload_n dX11_doOrder_118 rfl rfl ?_
          refine g_getR hG hf_RX11_99 rfl dX11_doOrder_119 rfl rfl rfl ?_
          refine rx_bipush (v := nI 19) dX11_doOrder_122 rfl ?_
          refine rx_iload dX11_doOrder_124 rfl ?_
          refine rx_imul dX11_doOrder_126 ?_
          refine rx_ti (y := nI (19 * q.1.1)) ((pk_mul _ _).trans (congrArg nI (by omega))) ?_
          refine rx_iconst (v := nI 1) dX11_doOrder_127 rfl ?_
          refine rx_iadd dX11_doOrder_128 ?_
          refine rx_ti (y := nI (19 * q.1.1 + 1)) ((nI_add _ _).trans (congrArg nI (by omega))) ?_
          refine rx_dup2 dX11_doOrder_129 rfl rfl ?_
          refine gmv_lald (j := 19 * q.1.1 + 1) (v := n (19 * q.1.1 + 1)) hG dX11_doOrder_130 rfl rfl rfl rfl (by omega) (by decide) (by show rx_u S.2 74 rp 0 82 (19 * q.1.1 + 1) = _; rw [rx_une _ (by decide)]; exact hP.2.1 _ (by omega)) ?_
          refine rx_lconst (v := 1) dX11_doOrder_131 rfl ?_
          refine rx_ladd dX11_doOrder_132 ?_
          refine rx_tl (y := n (19 * q.1.1 + 1) + 1) rfl ?_
          refine gm_last (j := 19 * q.1.1 + 1) hG dX11_doOrder_133 rfl rfl rfl rfl (by omega) (by decide) ?_
          refine rx_aload_n dX11_doOrder_134 rfl rfl ?_
          refine g_getR hG hf_RX11_99 rfl dX11_doOrder_135 rfl rfl rfl ?_
          refine rx_bipush (v := nI 19) dX11_doOrder_138 rfl ?_
          refine rx_iload dX11_doOrder_140 rfl ?_
          refine rx_imul dX11_doOrder_142 ?_
          refine rx_ti (y := nI (19 * q.1.1)) ((pk_mul _ _).trans (congrArg nI (by omega))) ?_
          refine rx_dup2 dX11_doOrder_143 rfl rfl ?_
          refine gmv_lald (j := 19 * q.1.1) (v := (up1 n (19 * q.1.1 + 1) (n (19 * q.1.1 + 1) + 1)) (19 * q.1.1)) hG dX11_doOrder_144 rfl rfl rfl rfl (by omega) (by decide) (by show rx_u (rx_u S.2 74 rp 0) 82 (19 * q.1.1 + 1) _ 82 (19 * q.1.1) = _; rw [rx_ru, if_pos rfl, if_neg (by omega)]; unfold up1; rw [if_neg (by omega), rx_une _ (by decide)]; exact hP.2.1 _ (by omega)) ?_
          refine rx_lload dX11_doOrder_145 rfl ?_
          refine rx_lsub dX11_doOrder_147 ?_
          refine rx_tl (y := (up1 n (19 * q.1.1 + 1) (n (19 * q.1.1 + 1) + 1)) (19 * q.1.1) - o_pays q) rfl ?_
          refine gm_last (j := 19 * q.1.1) hG dX11_doOrder_148 rfl rfl rfl rfl (by omega) (by decide) ?_
          refine rx_aload_n dX11_doOrder_149 rfl rfl ?_
          refine rx_iload dX11_doOrder_150 rfl ?_
          refine rx_aload_n dX11_doOrder_152 rfl rfl ?_
          refine g_getR hG hf_RX11_26 rfl dX11_doOrder_153 rfl rfl rfl ?_
          refine rx_iload_n dX11_doOrder_156 rfl ?_
          refine gmv_iald (j := i) (v := nI q.1.2.1) hG dX11_doOrder_157 rfl rfl rfl rfl (by omega) (by decide) (by simpa [rx_ru] using hO.1.2.1) ?_
          refine rx_aload_n dX11_doOrder_158 rfl rfl ?_
          refine g_getR hG hf_RX11_29 rfl dX11_doOrder_159 rfl rfl rfl ?_
          refine rx_iload_n dX11_doOrder_162 rfl ?_
          refine gmv_lald (j := i) (v := q.1.2.2.1) hG dX11_doOrder_163 rfl rfl rfl rfl (by omega) (by decide) (by simpa [rx_ru] using hO.1.2.2.1) ?_
          refine rx_aload_n dX11_doOrder_164 rfl rfl ?_
          refine g_getR hG hf_RX11_33 rfl dX11_doOrder_165 rfl rfl rfl ?_
          refine rx_iload_n dX11_doOrder_168 rfl ?_
          refine gmv_lald (j := i) (v := q.1.2.2.2) hG dX11_doOrder_169 rfl rfl rfl rfl (by omega) (by decide) (by simpa [rx_ru] using hO.1.2.2.2) ?_
          refine rx_aload_n dX11_doOrder_170 rfl rfl ?_
          refine g_getR hG hf_RX11_36 rfl dX11_doOrder_171 rfl rfl rfl ?_
          refine rx_iload_n dX11_doOrder_174 rfl ?_
          refine gmv_iald (j := i) (v := nI q.2.1) hG dX11_doOrder_175 rfl rfl rfl rfl (by omega) (by decide) (by simpa [rx_ru] using hO.2.1) ?_
          refine rx_bipush (v := nI 25) dX11_doOrder_176 rfl ?_
          refine rx_isub dX11_doOrder_178 ?_
          refine rx_ti (y := nI (q.2.1 - 25)) (pk_sub (by omega)) ?_
          refine rx_i2l dX11_doOrder_179 ?_
          refine rx_tl (y := lN (q.2.1 - 25)) (nI_l (by omega)) ?_
          refine rx_iconst (v := nI 0) dX11_doOrder_180 rfl ?_
          have hvo : ¬ o_void n q left := by rintro (h | h | h | h); (exact h h68); omega; (exact h90 h); (exact absurd h112 (Int64.not_le.mpr h))
          have hP2 : rm_P ((rx_u (rx_u S.1 72 rp (nI 0)) 73 rp (nI 0)), (rx_u (rx_u (rx_u S.2 74 rp 0) 82 (19 * q.1.1 + 1) (n (19 * q.1.1 + 1) + 1)) 82 (19 * q.1.1) ((up1 n (19 * q.1.1 + 1) (n (19 * q.1.1 + 1) + 1)) (19 * q.1.1) - o_pays q))) (cs, N, q.1.1, h) (o_n1 n q) := mo_P hP
          refine gv_invV (as := [.int _, .int _, .long _, .long _, .long _, .int _]) hG okX11_wholeCall lk_RX11_314 rfl rfl dX11_doOrder_181 rfl (by simp [Value.category]) (cr_whole (l := false) hG hvg (hvc n hcd) (by omega) hto (fun e => absurd e (by decide)) hP2) ?_
          rintro _ _ ⟨rfl, S3, X', how, x, u, rfl, hR, hE, hY, h59, h60⟩
          obtain ⟨hr1, hr2, hr3⟩ := hY.2.1
          have h82 := hY.1.2.1
          have e61 : S3.1 61 i = nI q.2.1 := by rw [(hr1 61 (by decide) (by decide)).1]; simpa [rx_ru] using hO.2.1
          have e62 : S3.1 62 i = nI q.2.2.1 := by rw [(hr1 62 (by decide) (by decide)).1]; simpa [rx_ru] using hO.2.2.1
          have e56 : S3.1 52 56 = nI X'.2.2.1 := hY.1.2.2.2.1
          refine rx_aload_n dX11_doOrder_184 rfl rfl ?_
          refine g_getR hG hf_RX11_36 rfl dX11_doOrder_185 rfl rfl rfl ?_
          refine rx_iload_n dX11_doOrder_188 rfl ?_
          refine gmv_iald (j := i) (v := nI q.2.1) hG dX11_doOrder_189 rfl rfl rfl rfl (by omega) (by decide) e61 ?_
          refine rx_aload_n dX11_doOrder_190 rfl rfl ?_
          refine gmv_getL (v := lN u) hG hf_RX11_200 rfl dX11_doOrder_191 rfl rfl rfl h60 ?_
          refine rx_l2i dX11_doOrder_194 ?_
          refine rx_ti (y := nI u) (lN_i _) ?_
          refine rx_isub dX11_doOrder_195 ?_
          refine rx_istore dX11_doOrder_196 (by decide) ?_
          refine rx_aload_n dX11_doOrder_198 rfl rfl ?_
          refine gmv_getI (v := nI X'.2.2.1) hG hf_RX11_215 rfl dX11_doOrder_199 rfl rfl rfl e56 ?_
          refine rx_iload dX11_doOrder_202 rfl ?_
          refine rx_iconst (v := nI 5) dX11_doOrder_204 rfl ?_
          refine rx_idiv dX11_doOrder_205 (by decide) ?_
          refine rx_icmp_ge (tgt := 216) dX11_doOrder_206 (by decide) (fun h206 => ?_) (fun h206 => ?_)
          · refine rx_iload dX11_doOrder_216 rfl ?_
            refine rx_iconst (v := nI 5) dX11_doOrder_218 rfl ?_
            refine rx_idiv dX11_doOrder_219 (by decide) ?_
            refine rx_istore dX11_doOrder_220 (by decide) ?_
            refine rx_iload dX11_doOrder_222 rfl ?_
            refine rx_iload dX11_doOrder_224 rfl ?_
            refine rx_isub dX11_doOrder_226 ?_
            refine rx_ti (y := o_used q.2.1 u X'.2.2.1) (by unfold o_used; rw [if_neg (fun e => absurd h206 (Int32.not_le.mpr e))]) ?_
            refine rx_istore dX11_doOrder_227 (by decide) ?_
            refine rx_aload_n dX11_doOrder_229 rfl rfl ?_
            refine g_getR hG hf_RX11_99 rfl dX11_doOrder_230 rfl rfl rfl ?_
            refine rx_bipush (v := nI 19) dX11_doOrder_233 rfl ?_
            refine rx_iload dX11_doOrder_235 rfl ?_
            refine rx_imul dX11_doOrder_237 ?_
            refine rx_ti (y := nI (19 * q.1.1)) ((pk_mul _ _).trans (congrArg nI (by omega))) ?_
            refine rx_dup2 dX11_doOrder_238 rfl rfl ?_
            refine gmv_lald (j := 19 * q.1.1) (v := X'.1 (19 * q.1.1)) hG dX11_doOrder_239 rfl rfl rfl rfl (by omega) (by decide) (h82 _ (by omega)) ?_
            refine rx_aload_n dX11_doOrder_240 rfl rfl ?_
            refine g_getR hG hf_RX11_36 rfl dX11_doOrder_241 rfl rfl rfl ?_
            refine rx_iload_n dX11_doOrder_244 rfl ?_
            refine gmv_iald (j := i) (v := nI q.2.1) hG dX11_doOrder_245 rfl rfl rfl rfl (by omega) (by decide) e61 ?_
            refine rx_iload dX11_doOrder_246 rfl ?_
            refine rx_isub dX11_doOrder_248 ?_
            refine rx_i2l dX11_doOrder_249 ?_
            refine rx_aload_n dX11_doOrder_250 rfl rfl ?_
            refine g_getR hG hf_RX11_39 rfl dX11_doOrder_251 rfl rfl rfl ?_
            refine rx_iload_n dX11_doOrder_254 rfl ?_
            refine gmv_iald (j := i) (v := nI q.2.2.1) hG dX11_doOrder_255 rfl rfl rfl rfl (by omega) (by decide) e62 ?_
            refine rx_i2l dX11_doOrder_256 ?_
            refine rx_tl (y := lN q.2.2.1) (nI_l (by omega)) ?_
            refine rx_lmul dX11_doOrder_257 ?_
            refine rx_ladd dX11_doOrder_258 ?_
            refine rx_tl (y := (X'.1 (19 * q.1.1) + (nI q.2.1 - o_used q.2.1 u X'.2.2.1).toInt64 * lN q.2.2.1)) rfl ?_
            refine gm_last (j := 19 * q.1.1) hG dX11_doOrder_259 rfl rfl rfl rfl (by omega) (by decide) ?_
            refine rx_aload_n dX11_doOrder_260 rfl rfl ?_
            refine g_getR hG hf_RX11_99 rfl dX11_doOrder_261 rfl rfl rfl ?_
            refine rx_bipush (v := nI 19) dX11_doOrder_264 rfl ?_
            refine rx_iload_n dX11_doOrder_266 rfl ?_
            refine rx_imul dX11_doOrder_267 ?_
            refine rx_ti (y := nI (19 * mk)) ((pk_mul _ _).trans (congrArg nI (by omega))) ?_
            refine rx_dup2 dX11_doOrder_268 rfl rfl ?_
            refine gmv_lald (j := 19 * mk) (v := (up1 X'.1 (19 * q.1.1) (X'.1 (19 * q.1.1) + (nI q.2.1 - o_used q.2.1 u X'.2.2.1).toInt64 * lN q.2.2.1)) (19 * mk)) hG dX11_doOrder_269 rfl rfl rfl rfl (by omega) (by decide) (by show rx_u S3.2 82 (19 * q.1.1) _ 82 (19 * mk) = _; rw [rx_ru, if_pos rfl]; unfold up1; split; rfl; exact h82 _ (by omega)) ?_
            refine rx_iload dX11_doOrder_270 rfl ?_
            refine rx_i2l dX11_doOrder_272 ?_
            refine rx_aload_n dX11_doOrder_273 rfl rfl ?_
            refine g_getR hG hf_RX11_39 rfl dX11_doOrder_274 rfl rfl rfl ?_
            refine rx_iload_n dX11_doOrder_277 rfl ?_
            refine gmv_iald (j := i) (v := nI q.2.2.1) hG dX11_doOrder_278 rfl rfl rfl rfl (by omega) (by decide) e62 ?_
            refine rx_i2l dX11_doOrder_279 ?_
            refine rx_tl (y := lN q.2.2.1) (nI_l (by omega)) ?_
            refine rx_lmul dX11_doOrder_280 ?_
            refine rx_ladd dX11_doOrder_281 ?_
            refine gm_last (j := 19 * mk) hG dX11_doOrder_282 rfl rfl rfl rfl (by omega) (by decide) ?_
            refine rx_aload_n dX11_doOrder_283 rfl rfl ?_
            refine g_getR hG hf_RX11_69 rfl dX11_doOrder_284 rfl rfl rfl ?_
            refine rx_iload dX11_doOrder_287 rfl ?_
            refine rx_aload_n dX11_doOrder_289 rfl rfl ?_
            refine gmv_getI (v := nI how) hG hf_RX11_193 rfl dX11_doOrder_290 rfl rfl rfl hY.2.2 ?_
            refine gm_iast (j := rp) hG dX11_doOrder_293 rfl rfl rfl rfl (by omega) (by decide) ?_
            refine rx_aload_n dX11_doOrder_294 rfl rfl ?_
            refine g_getR hG hf_RX11_72 rfl dX11_doOrder_295 rfl rfl rfl ?_
            refine rx_iload dX11_doOrder_298 rfl ?_
            refine rx_iload dX11_doOrder_300 rfl ?_
            refine gm_iast (j := rp) hG dX11_doOrder_302 rfl rfl rfl rfl (by omega) (by decide) ?_
            refine rx_aload_n dX11_doOrder_303 rfl rfl ?_
            refine g_getR hG hf_RX11_75 rfl dX11_doOrder_304 rfl rfl rfl ?_
            refine rx_iload dX11_doOrder_307 rfl ?_
            refine rx_aload_n dX11_doOrder_309 rfl rfl ?_
            refine gmv_getL (v := x) hG hf_RX11_196 rfl dX11_doOrder_310 rfl rfl rfl (by simpa [rx_ru] using h59) ?_
            refine gm_last (j := rp) hG dX11_doOrder_313 rfl rfl rfl rfl (by omega) (by decide) ?_
            refine rx_iload dX11_doOrder_314 rfl ?_
            exact rx_iret rfl dX11_doOrder_316 (hK _ X' how x u hR hE hvo (mo_fin hr1 hr3 h82 hY.1.2.2.1.1 hY.1.2.2.1.2))
          · refine rx_aload_n dX11_doOrder_209 rfl rfl ?_
            refine gmv_getI (v := nI X'.2.2.1) hG hf_RX11_215 rfl dX11_doOrder_210 rfl rfl rfl e56 ?_
            refine rx_goto (tgt := 220) dX11_doOrder_213 (by decide) ?_
            refine rx_istore dX11_doOrder_220 (by decide) ?_
            refine rx_iload dX11_doOrder_222 rfl ?_
            refine rx_iload dX11_doOrder_224 rfl ?_
            refine rx_isub dX11_doOrder_226 ?_
            refine rx_ti (y := o_used q.2.1 u X'.2.2.1) (by unfold o_used; rw [if_pos (Int32.not_le.mp h206)]) ?_
            refine rx_istore dX11_doOrder_227 (by decide) ?_
            refine rx_aload_n dX11_doOrder_229 rfl rfl ?_
            refine g_getR hG hf_RX11_99 rfl dX11_doOrder_230 rfl rfl rfl ?_
            refine rx_bipush (v := nI 19) dX11_doOrder_233 rfl ?_
            refine rx_iload dX11_doOrder_235 rfl ?_
            refine rx_imul dX11_doOrder_237 ?_
            refine rx_ti (y := nI (19 * q.1.1)) ((pk_mul _ _).trans (congrArg nI (by omega))) ?_
            refine rx_dup2 dX11_doOrder_238 rfl rfl ?_
            refine gmv_lald (j := 19 * q.1.1) (v := X'.1 (19 * q.1.1)) hG dX11_doOrder_239 rfl rfl rfl rfl (by omega) (by decide) (h82 _ (by omega)) ?_
            refine rx_aload_n dX11_doOrder_240 rfl rfl ?_
            refine g_getR hG hf_RX11_36 rfl dX11_doOrder_241 rfl rfl rfl ?_
            refine rx_iload_n dX11_doOrder_244 rfl ?_
            refine gmv_iald (j := i) (v := nI q.2.1) hG dX11_doOrder_245 rfl rfl rfl rfl (by omega) (by decide) e61 ?_
            refine rx_iload dX11_doOrder_246 rfl ?_
            refine rx_isub dX11_doOrder_248 ?_
            refine rx_i2l dX11_doOrder_249 ?_
            refine rx_aload_n dX11_doOrder_250 rfl rfl ?_
            refine g_getR hG hf_RX11_39 rfl dX11_doOrder_251 rfl rfl rfl ?_
            refine rx_iload_n dX11_doOrder_254 rfl ?_
            refine gmv_iald (j := i) (v := nI q.2.2.1) hG dX11_doOrder_255 rfl rfl rfl rfl (by omega) (by decide) e62 ?_
            refine rx_i2l dX11_doOrder_256 ?_
            refine rx_tl (y := lN q.2.2.1) (nI_l (by omega)) ?_
            refine rx_lmul dX11_doOrder_257 ?_
            refine rx_ladd dX11_doOrder_258 ?_
            refine rx_tl (y := (X'.1 (19 * q.1.1) + (nI q.2.1 - o_used q.2.1 u X'.2.2.1).toInt64 * lN q.2.2.1)) rfl ?_
            refine gm_last (j := 19 * q.1.1) hG dX11_doOrder_259 rfl rfl rfl rfl (by omega) (by decide) ?_
            refine rx_aload_n dX11_doOrder_260 rfl rfl ?_
            refine g_getR hG hf_RX11_99 rfl dX11_doOrder_261 rfl rfl rfl ?_
            refine rx_bipush (v := nI 19) dX11_doOrder_264 rfl ?_
            refine rx_iload_n dX11_doOrder_266 rfl ?_
            refine rx_imul dX11_doOrder_267 ?_
            refine rx_ti (y := nI (19 * mk)) ((pk_mul _ _).trans (congrArg nI (by omega))) ?_
            refine rx_dup2 dX11_doOrder_268 rfl rfl ?_
            refine gmv_lald (j := 19 * mk) (v := (up1 X'.1 (19 * q.1.1) (X'.1 (19 * q.1.1) + (nI q.2.1 - o_used q.2.1 u X'.2.2.1).toInt64 * lN q.2.2.1)) (19 * mk)) hG dX11_doOrder_269 rfl rfl rfl rfl (by omega) (by decide) (by show rx_u S3.2 82 (19 * q.1.1) _ 82 (19 * mk) = _; rw [rx_ru, if_pos rfl]; unfold up1; split; rfl; exact h82 _ (by omega)) ?_
            refine rx_iload dX11_doOrder_270 rfl ?_
            refine rx_i2l dX11_doOrder_272 ?_
            refine rx_aload_n dX11_doOrder_273 rfl rfl ?_
            refine g_getR hG hf_RX11_39 rfl dX11_doOrder_274 rfl rfl rfl ?_
            refine rx_iload_n dX11_doOrder_277 rfl ?_
            refine gmv_iald (j := i) (v := nI q.2.2.1) hG dX11_doOrder_278 rfl rfl rfl rfl (by omega) (by decide) e62 ?_
            refine rx_i2l dX11_doOrder_279 ?_
            refine rx_tl (y := lN q.2.2.1) (nI_l (by omega)) ?_
            refine rx_lmul dX11_doOrder_280 ?_
            refine rx_ladd dX11_doOrder_281 ?_
            refine gm_last (j := 19 * mk) hG dX11_doOrder_282 rfl rfl rfl rfl (by omega) (by decide) ?_
            refine rx_aload_n dX11_doOrder_283 rfl rfl ?_
            refine g_getR hG hf_RX11_69 rfl dX11_doOrder_284 rfl rfl rfl ?_
            refine rx_iload dX11_doOrder_287 rfl ?_
            refine rx_aload_n dX11_doOrder_289 rfl rfl ?_
            refine gmv_getI (v := nI how) hG hf_RX11_193 rfl dX11_doOrder_290 rfl rfl rfl hY.2.2 ?_
            refine gm_iast (j := rp) hG dX11_doOrder_293 rfl rfl rfl rfl (by omega) (by decide) ?_
            refine rx_aload_n dX11_doOrder_294 rfl rfl ?_
            refine g_getR hG hf_RX11_72 rfl dX11_doOrder_295 rfl rfl rfl ?_
            refine rx_iload dX11_doOrder_298 rfl ?_
            refine rx_iload dX11_doOrder_300 rfl ?_
            refine gm_iast (j := rp) hG dX11_doOrder_302 rfl rfl rfl rfl (by omega) (by decide) ?_
            refine rx_aload_n dX11_doOrder_303 rfl rfl ?_
            refine g_getR hG hf_RX11_75 rfl dX11_doOrder_304 rfl rfl rfl ?_
            refine rx_iload dX11_doOrder_307 rfl ?_
            refine rx_aload_n dX11_doOrder_309 rfl rfl ?_
            refine gmv_getL (v := x) hG hf_RX11_196 rfl dX11_doOrder_310 rfl rfl rfl (by simpa [rx_ru] using h59) ?_
            refine gm_last (j := rp) hG dX11_doOrder_313 rfl rfl rfl rfl (by omega) (by decide) ?_
            refine rx_iload dX11_doOrder_314 rfl ?_
            exact rx_iret rfl dX11_doOrder_316 (hK _ X' how x u hR hE hvo (mo_fin hr1 hr3 h82 hY.1.2.2.1.1 hY.1.2.2.1.2))
        · refine rx_iconst (v := nI 0) dX11_doOrder_116 rfl ?_
          exact rx_iret rfl dX11_doOrder_117 (hK0 (Or.inr (Or.inr (Or.inr (Int64.not_le.mp h112)))))

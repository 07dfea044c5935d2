theorem dX10_init_0 : decode cX10_init 0 = .ok (.aload_n 0, 1) := by decide +kernel
theorem dX10_init_1 : decode cX10_init 1 = .ok (.invokespecial 1, 3) := by decide +kernel
theorem dX10_init_4 : decode cX10_init 4 = .ok (.aload_n 0, 1) := by decide +kernel
theorem dX10_init_5 : decode cX10_init 5 = .ok (.new 7, 3) := by decide +kernel
theorem dX10_init_8 : decode cX10_init 8 = .ok (.dup, 1) := by decide +kernel
theorem dX10_init_9 : decode cX10_init 9 = .ok (.invokespecial 9, 3) := by decide +kernel
theorem dX10_init_12 : decode cX10_init 12 = .ok (.putfield 10, 3) := by decide +kernel
theorem dX10_init_15 : decode cX10_init 15 = .ok (.aload_n 0, 1) := by decide +kernel
theorem dX10_init_16 : decode cX10_init 16 = .ok (.new 16, 3) := by decide +kernel
theorem dX10_init_19 : decode cX10_init 19 = .ok (.dup, 1) := by decide +kernel
theorem dX10_init_20 : decode cX10_init 20 = .ok (.invokespecial 18, 3) := by decide +kernel
theorem dX10_init_23 : decode cX10_init 23 = .ok (.putfield 19, 3) := by decide +kernel
theorem dX10_init_26 : decode cX10_init 26 = .ok (.aload_n 0, 1) := by decide +kernel
theorem dX10_init_27 : decode cX10_init 27 = .ok (.bipush 10, 2) := by decide +kernel
theorem dX10_init_29 : decode cX10_init 29 = .ok (.anewarray 23, 3) := by decide +kernel
theorem dX10_init_32 : decode cX10_init 32 = .ok (.putfield 25, 3) := by decide +kernel
theorem dX10_init_35 : decode cX10_init 35 = .ok (.aload_n 0, 1) := by decide +kernel
theorem dX10_init_36 : decode cX10_init 36 = .ok (.bipush 40, 2) := by decide +kernel
theorem dX10_init_38 : decode cX10_init 38 = .ok (.anewarray 29, 3) := by decide +kernel
theorem dX10_init_41 : decode cX10_init 41 = .ok (.putfield 31, 3) := by decide +kernel
theorem dX10_init_44 : decode cX10_init 44 = .ok (.aload_n 0, 1) := by decide +kernel
theorem dX10_init_45 : decode cX10_init 45 = .ok (.getfield 31, 3) := by decide +kernel
theorem dX10_init_48 : decode cX10_init 48 = .ok (.iconst 0, 1) := by decide +kernel
theorem dX10_init_49 : decode cX10_init 49 = .ok (.new 29, 3) := by decide +kernel
theorem dX10_init_52 : decode cX10_init 52 = .ok (.dup, 1) := by decide +kernel
theorem dX10_init_53 : decode cX10_init 53 = .ok (.iconst (-1), 1) := by decide +kernel
theorem dX10_init_54 : decode cX10_init 54 = .ok (.iconst 0, 1) := by decide +kernel
theorem dX10_init_55 : decode cX10_init 55 = .ok (.sipush 1024, 3) := by decide +kernel
theorem dX10_init_58 : decode cX10_init 58 = .ok (.newarray .long, 2) := by decide +kernel
theorem dX10_init_60 : decode cX10_init 60 = .ok (.iconst 0, 1) := by decide +kernel
theorem dX10_init_61 : decode cX10_init 61 = .ok (.newarray .long, 2) := by decide +kernel
theorem dX10_init_63 : decode cX10_init 63 = .ok (.iconst 0, 1) := by decide +kernel
theorem dX10_init_64 : decode cX10_init 64 = .ok (.newarray .long, 2) := by decide +kernel
theorem dX10_init_66 : decode cX10_init 66 = .ok (.iconst 0, 1) := by decide +kernel
theorem dX10_init_67 : decode cX10_init 67 = .ok (.invokespecial 35, 3) := by decide +kernel
theorem dX10_init_70 : decode cX10_init 70 = .ok (.aastore, 1) := by decide +kernel
theorem dX10_init_71 : decode cX10_init 71 = .ok (.aload_n 0, 1) := by decide +kernel
theorem dX10_init_72 : decode cX10_init 72 = .ok (.iconst 1, 1) := by decide +kernel
theorem dX10_init_73 : decode cX10_init 73 = .ok (.putfield 38, 3) := by decide +kernel
theorem dX10_init_76 : decode cX10_init 76 = .ok (.aload_n 0, 1) := by decide +kernel
theorem dX10_init_77 : decode cX10_init 77 = .ok (.bipush 7, 2) := by decide +kernel
theorem dX10_init_79 : decode cX10_init 79 = .ok (.newarray .int, 2) := by decide +kernel
theorem dX10_init_81 : decode cX10_init 81 = .ok (.putfield 42, 3) := by decide +kernel
theorem dX10_init_84 : decode cX10_init 84 = .ok (.aload_n 0, 1) := by decide +kernel
theorem dX10_init_85 : decode cX10_init 85 = .ok (.getfield 42, 3) := by decide +kernel
theorem dX10_init_88 : decode cX10_init 88 = .ok (.iconst 1, 1) := by decide +kernel
theorem dX10_init_89 : decode cX10_init 89 = .ok (.invokestatic 46, 3) := by decide +kernel
theorem dX10_init_92 : decode cX10_init 92 = .ok (.aload_n 0, 1) := by decide +kernel
theorem dX10_init_93 : decode cX10_init 93 = .ok (.bipush 7, 2) := by decide +kernel
theorem dX10_init_95 : decode cX10_init 95 = .ok (.newarray .long, 2) := by decide +kernel
theorem dX10_init_97 : decode cX10_init 97 = .ok (.putfield 52, 3) := by decide +kernel
theorem dX10_init_100 : decode cX10_init 100 = .ok (.aload_n 0, 1) := by decide +kernel
theorem dX10_init_101 : decode cX10_init 101 = .ok (.bipush 10, 2) := by decide +kernel
theorem dX10_init_103 : decode cX10_init 103 = .ok (.newarray .long, 2) := by decide +kernel
theorem dX10_init_105 : decode cX10_init 105 = .ok (.putfield 56, 3) := by decide +kernel
theorem dX10_init_108 : decode cX10_init 108 = .ok (.return_, 1) := by decide +kernel
theorem dX11_init_0 : decode cX11_init 0 = .ok (.aload_n 0, 1) := by decide +kernel
theorem dX11_init_1 : decode cX11_init 1 = .ok (.invokespecial 1, 3) := by decide +kernel
theorem dX11_init_4 : decode cX11_init 4 = .ok (.aload_n 0, 1) := by decide +kernel
theorem dX11_init_5 : decode cX11_init 5 = .ok (.sipush 3200, 3) := by decide +kernel
theorem dX11_init_8 : decode cX11_init 8 = .ok (.newarray .int, 2) := by decide +kernel
theorem dX11_init_10 : decode cX11_init 10 = .ok (.putfield 7, 3) := by decide +kernel
theorem dX11_init_13 : decode cX11_init 13 = .ok (.aload_n 0, 1) := by decide +kernel
theorem dX11_init_14 : decode cX11_init 14 = .ok (.bipush 16, 2) := by decide +kernel
theorem dX11_init_16 : decode cX11_init 16 = .ok (.newarray .int, 2) := by decide +kernel
theorem dX11_init_18 : decode cX11_init 18 = .ok (.putfield 13, 3) := by decide +kernel
theorem dX11_init_21 : decode cX11_init 21 = .ok (.aload_n 0, 1) := by decide +kernel
theorem dX11_init_22 : decode cX11_init 22 = .ok (.sipush 200, 3) := by decide +kernel
theorem dX11_init_25 : decode cX11_init 25 = .ok (.newarray .int, 2) := by decide +kernel
theorem dX11_init_27 : decode cX11_init 27 = .ok (.putfield 16, 3) := by decide +kernel
theorem dX11_init_30 : decode cX11_init 30 = .ok (.aload_n 0, 1) := by decide +kernel
theorem dX11_init_31 : decode cX11_init 31 = .ok (.sipush 200, 3) := by decide +kernel
theorem dX11_init_34 : decode cX11_init 34 = .ok (.newarray .boolean, 2) := by decide +kernel
theorem dX11_init_36 : decode cX11_init 36 = .ok (.putfield 19, 3) := by decide +kernel
theorem dX11_init_39 : decode cX11_init 39 = .ok (.aload_n 0, 1) := by decide +kernel
theorem dX11_init_40 : decode cX11_init 40 = .ok (.bipush 10, 2) := by decide +kernel
theorem dX11_init_42 : decode cX11_init 42 = .ok (.newarray .int, 2) := by decide +kernel
theorem dX11_init_44 : decode cX11_init 44 = .ok (.putfield 23, 3) := by decide +kernel
theorem dX11_init_47 : decode cX11_init 47 = .ok (.aload_n 0, 1) := by decide +kernel
theorem dX11_init_48 : decode cX11_init 48 = .ok (.bipush 10, 2) := by decide +kernel
theorem dX11_init_50 : decode cX11_init 50 = .ok (.newarray .int, 2) := by decide +kernel
theorem dX11_init_52 : decode cX11_init 52 = .ok (.putfield 26, 3) := by decide +kernel
theorem dX11_init_55 : decode cX11_init 55 = .ok (.aload_n 0, 1) := by decide +kernel
theorem dX11_init_56 : decode cX11_init 56 = .ok (.bipush 10, 2) := by decide +kernel
theorem dX11_init_58 : decode cX11_init 58 = .ok (.newarray .long, 2) := by decide +kernel
theorem dX11_init_60 : decode cX11_init 60 = .ok (.putfield 29, 3) := by decide +kernel
theorem dX11_init_63 : decode cX11_init 63 = .ok (.aload_n 0, 1) := by decide +kernel
theorem dX11_init_64 : decode cX11_init 64 = .ok (.bipush 10, 2) := by decide +kernel
theorem dX11_init_66 : decode cX11_init 66 = .ok (.newarray .long, 2) := by decide +kernel
theorem dX11_init_68 : decode cX11_init 68 = .ok (.putfield 33, 3) := by decide +kernel
theorem dX11_init_71 : decode cX11_init 71 = .ok (.aload_n 0, 1) := by decide +kernel
theorem dX11_init_72 : decode cX11_init 72 = .ok (.bipush 10, 2) := by decide +kernel
theorem dX11_init_74 : decode cX11_init 74 = .ok (.newarray .int, 2) := by decide +kernel
theorem dX11_init_76 : decode cX11_init 76 = .ok (.putfield 36, 3) := by decide +kernel
theorem dX11_init_79 : decode cX11_init 79 = .ok (.aload_n 0, 1) := by decide +kernel
theorem dX11_init_80 : decode cX11_init 80 = .ok (.bipush 10, 2) := by decide +kernel
theorem dX11_init_82 : decode cX11_init 82 = .ok (.newarray .int, 2) := by decide +kernel
theorem dX11_init_84 : decode cX11_init 84 = .ok (.putfield 39, 3) := by decide +kernel
theorem dX11_init_87 : decode cX11_init 87 = .ok (.aload_n 0, 1) := by decide +kernel
theorem dX11_init_88 : decode cX11_init 88 = .ok (.bipush 10, 2) := by decide +kernel
theorem dX11_init_90 : decode cX11_init 90 = .ok (.newarray .int, 2) := by decide +kernel
theorem dX11_init_92 : decode cX11_init 92 = .ok (.putfield 42, 3) := by decide +kernel
theorem dX11_init_95 : decode cX11_init 95 = .ok (.aload_n 0, 1) := by decide +kernel
theorem dX11_init_96 : decode cX11_init 96 = .ok (.bipush 40, 2) := by decide +kernel
theorem dX11_init_98 : decode cX11_init 98 = .ok (.newarray .int, 2) := by decide +kernel
theorem dX11_init_100 : decode cX11_init 100 = .ok (.putfield 45, 3) := by decide +kernel
theorem dX11_init_103 : decode cX11_init 103 = .ok (.aload_n 0, 1) := by decide +kernel
theorem dX11_init_104 : decode cX11_init 104 = .ok (.bipush 40, 2) := by decide +kernel
theorem dX11_init_106 : decode cX11_init 106 = .ok (.newarray .int, 2) := by decide +kernel
theorem dX11_init_108 : decode cX11_init 108 = .ok (.putfield 48, 3) := by decide +kernel
theorem dX11_init_111 : decode cX11_init 111 = .ok (.aload_n 0, 1) := by decide +kernel
theorem dX11_init_112 : decode cX11_init 112 = .ok (.bipush 40, 2) := by decide +kernel
theorem dX11_init_114 : decode cX11_init 114 = .ok (.newarray .int, 2) := by decide +kernel
theorem dX11_init_116 : decode cX11_init 116 = .ok (.putfield 51, 3) := by decide +kernel
theorem dX11_init_119 : decode cX11_init 119 = .ok (.aload_n 0, 1) := by decide +kernel
theorem dX11_init_120 : decode cX11_init 120 = .ok (.bipush 40, 2) := by decide +kernel
theorem dX11_init_122 : decode cX11_init 122 = .ok (.newarray .int, 2) := by decide +kernel
theorem dX11_init_124 : decode cX11_init 124 = .ok (.putfield 54, 3) := by decide +kernel
theorem dX11_init_127 : decode cX11_init 127 = .ok (.aload_n 0, 1) := by decide +kernel
theorem dX11_init_128 : decode cX11_init 128 = .ok (.bipush 40, 2) := by decide +kernel
theorem dX11_init_130 : decode cX11_init 130 = .ok (.newarray .int, 2) := by decide +kernel
theorem dX11_init_132 : decode cX11_init 132 = .ok (.putfield 57, 3) := by decide +kernel
theorem dX11_init_135 : decode cX11_init 135 = .ok (.aload_n 0, 1) := by decide +kernel
theorem dX11_init_136 : decode cX11_init 136 = .ok (.bipush 40, 2) := by decide +kernel
theorem dX11_init_138 : decode cX11_init 138 = .ok (.newarray .int, 2) := by decide +kernel
theorem dX11_init_140 : decode cX11_init 140 = .ok (.putfield 60, 3) := by decide +kernel
theorem dX11_init_143 : decode cX11_init 143 = .ok (.aload_n 0, 1) := by decide +kernel
theorem dX11_init_144 : decode cX11_init 144 = .ok (.bipush 40, 2) := by decide +kernel
theorem dX11_init_146 : decode cX11_init 146 = .ok (.newarray .boolean, 2) := by decide +kernel
theorem dX11_init_148 : decode cX11_init 148 = .ok (.putfield 63, 3) := by decide +kernel
theorem dX11_init_151 : decode cX11_init 151 = .ok (.aload_n 0, 1) := by decide +kernel
theorem dX11_init_152 : decode cX11_init 152 = .ok (.sipush 24320, 3) := by decide +kernel
theorem dX11_init_155 : decode cX11_init 155 = .ok (.newarray .long, 2) := by decide +kernel
theorem dX11_init_157 : decode cX11_init 157 = .ok (.putfield 66, 3) := by decide +kernel
theorem dX11_init_160 : decode cX11_init 160 = .ok (.aload_n 0, 1) := by decide +kernel
theorem dX11_init_161 : decode cX11_init 161 = .ok (.sipush 400, 3) := by decide +kernel
theorem dX11_init_164 : decode cX11_init 164 = .ok (.newarray .int, 2) := by decide +kernel
theorem dX11_init_166 : decode cX11_init 166 = .ok (.putfield 69, 3) := by decide +kernel
theorem dX11_init_169 : decode cX11_init 169 = .ok (.aload_n 0, 1) := by decide +kernel
theorem dX11_init_170 : decode cX11_init 170 = .ok (.sipush 400, 3) := by decide +kernel
theorem dX11_init_173 : decode cX11_init 173 = .ok (.newarray .int, 2) := by decide +kernel
theorem dX11_init_175 : decode cX11_init 175 = .ok (.putfield 72, 3) := by decide +kernel
theorem dX11_init_178 : decode cX11_init 178 = .ok (.aload_n 0, 1) := by decide +kernel
theorem dX11_init_179 : decode cX11_init 179 = .ok (.sipush 400, 3) := by decide +kernel
theorem dX11_init_182 : decode cX11_init 182 = .ok (.newarray .long, 2) := by decide +kernel
theorem dX11_init_184 : decode cX11_init 184 = .ok (.putfield 75, 3) := by decide +kernel
theorem dX11_init_187 : decode cX11_init 187 = .ok (.aload_n 0, 1) := by decide +kernel
theorem dX11_init_188 : decode cX11_init 188 = .ok (.sipush 2400, 3) := by decide +kernel
theorem dX11_init_191 : decode cX11_init 191 = .ok (.newarray .int, 2) := by decide +kernel
theorem dX11_init_193 : decode cX11_init 193 = .ok (.putfield 78, 3) := by decide +kernel
theorem dX11_init_196 : decode cX11_init 196 = .ok (.aload_n 0, 1) := by decide +kernel
theorem dX11_init_197 : decode cX11_init 197 = .ok (.sipush 2400, 3) := by decide +kernel
theorem dX11_init_200 : decode cX11_init 200 = .ok (.newarray .long, 2) := by decide +kernel
theorem dX11_init_202 : decode cX11_init 202 = .ok (.putfield 81, 3) := by decide +kernel
theorem dX11_init_205 : decode cX11_init 205 = .ok (.aload_n 0, 1) := by decide +kernel
theorem dX11_init_206 : decode cX11_init 206 = .ok (.sipush 2400, 3) := by decide +kernel
theorem dX11_init_209 : decode cX11_init 209 = .ok (.newarray .long, 2) := by decide +kernel
theorem dX11_init_211 : decode cX11_init 211 = .ok (.putfield 84, 3) := by decide +kernel
theorem dX11_init_214 : decode cX11_init 214 = .ok (.aload_n 0, 1) := by decide +kernel
theorem dX11_init_215 : decode cX11_init 215 = .ok (.sipush 2400, 3) := by decide +kernel
theorem dX11_init_218 : decode cX11_init 218 = .ok (.newarray .int, 2) := by decide +kernel
theorem dX11_init_220 : decode cX11_init 220 = .ok (.putfield 87, 3) := by decide +kernel
theorem dX11_init_223 : decode cX11_init 223 = .ok (.aload_n 0, 1) := by decide +kernel
theorem dX11_init_224 : decode cX11_init 224 = .ok (.bipush 7, 2) := by decide +kernel
theorem dX11_init_226 : decode cX11_init 226 = .ok (.newarray .int, 2) := by decide +kernel
theorem dX11_init_228 : decode cX11_init 228 = .ok (.putfield 90, 3) := by decide +kernel
theorem dX11_init_231 : decode cX11_init 231 = .ok (.aload_n 0, 1) := by decide +kernel
theorem dX11_init_232 : decode cX11_init 232 = .ok (.sipush 280, 3) := by decide +kernel
theorem dX11_init_235 : decode cX11_init 235 = .ok (.newarray .boolean, 2) := by decide +kernel
theorem dX11_init_237 : decode cX11_init 237 = .ok (.putfield 93, 3) := by decide +kernel
theorem dX11_init_240 : decode cX11_init 240 = .ok (.aload_n 0, 1) := by decide +kernel
theorem dX11_init_241 : decode cX11_init 241 = .ok (.bipush 10, 2) := by decide +kernel
theorem dX11_init_243 : decode cX11_init 243 = .ok (.newarray .long, 2) := by decide +kernel
theorem dX11_init_245 : decode cX11_init 245 = .ok (.putfield 96, 3) := by decide +kernel
theorem dX11_init_248 : decode cX11_init 248 = .ok (.aload_n 0, 1) := by decide +kernel
theorem dX11_init_249 : decode cX11_init 249 = .ok (.sipush 608, 3) := by decide +kernel
theorem dX11_init_252 : decode cX11_init 252 = .ok (.newarray .long, 2) := by decide +kernel
theorem dX11_init_254 : decode cX11_init 254 = .ok (.putfield 99, 3) := by decide +kernel
theorem dX11_init_257 : decode cX11_init 257 = .ok (.aload_n 0, 1) := by decide +kernel
theorem dX11_init_258 : decode cX11_init 258 = .ok (.sipush 6688, 3) := by decide +kernel
theorem dX11_init_261 : decode cX11_init 261 = .ok (.newarray .long, 2) := by decide +kernel
theorem dX11_init_263 : decode cX11_init 263 = .ok (.putfield 102, 3) := by decide +kernel
theorem dX11_init_266 : decode cX11_init 266 = .ok (.aload_n 0, 1) := by decide +kernel
theorem dX11_init_267 : decode cX11_init 267 = .ok (.bipush 11, 2) := by decide +kernel
theorem dX11_init_269 : decode cX11_init 269 = .ok (.newarray .int, 2) := by decide +kernel
theorem dX11_init_271 : decode cX11_init 271 = .ok (.putfield 105, 3) := by decide +kernel
theorem dX11_init_274 : decode cX11_init 274 = .ok (.aload_n 0, 1) := by decide +kernel
theorem dX11_init_275 : decode cX11_init 275 = .ok (.bipush 11, 2) := by decide +kernel
theorem dX11_init_277 : decode cX11_init 277 = .ok (.newarray .int, 2) := by decide +kernel
theorem dX11_init_279 : decode cX11_init 279 = .ok (.putfield 108, 3) := by decide +kernel
theorem dX11_init_282 : decode cX11_init 282 = .ok (.aload_n 0, 1) := by decide +kernel
theorem dX11_init_283 : decode cX11_init 283 = .ok (.bipush 11, 2) := by decide +kernel
theorem dX11_init_285 : decode cX11_init 285 = .ok (.newarray .int, 2) := by decide +kernel
theorem dX11_init_287 : decode cX11_init 287 = .ok (.putfield 111, 3) := by decide +kernel
theorem dX11_init_290 : decode cX11_init 290 = .ok (.aload_n 0, 1) := by decide +kernel
theorem dX11_init_291 : decode cX11_init 291 = .ok (.bipush 11, 2) := by decide +kernel
theorem dX11_init_293 : decode cX11_init 293 = .ok (.newarray .int, 2) := by decide +kernel
theorem dX11_init_295 : decode cX11_init 295 = .ok (.putfield 114, 3) := by decide +kernel
theorem dX11_init_298 : decode cX11_init 298 = .ok (.aload_n 0, 1) := by decide +kernel
theorem dX11_init_299 : decode cX11_init 299 = .ok (.bipush 11, 2) := by decide +kernel
theorem dX11_init_301 : decode cX11_init 301 = .ok (.newarray .long, 2) := by decide +kernel
theorem dX11_init_303 : decode cX11_init 303 = .ok (.putfield 117, 3) := by decide +kernel
theorem dX11_init_306 : decode cX11_init 306 = .ok (.aload_n 0, 1) := by decide +kernel
theorem dX11_init_307 : decode cX11_init 307 = .ok (.bipush 11, 2) := by decide +kernel
theorem dX11_init_309 : decode cX11_init 309 = .ok (.newarray .int, 2) := by decide +kernel
theorem dX11_init_311 : decode cX11_init 311 = .ok (.putfield 120, 3) := by decide +kernel
theorem dX11_init_314 : decode cX11_init 314 = .ok (.aload_n 0, 1) := by decide +kernel
theorem dX11_init_315 : decode cX11_init 315 = .ok (.bipush 11, 2) := by decide +kernel
theorem dX11_init_317 : decode cX11_init 317 = .ok (.newarray .int, 2) := by decide +kernel
theorem dX11_init_319 : decode cX11_init 319 = .ok (.putfield 123, 3) := by decide +kernel
theorem dX11_init_322 : decode cX11_init 322 = .ok (.aload_n 0, 1) := by decide +kernel
theorem dX11_init_323 : decode cX11_init 323 = .ok (.bipush 11, 2) := by decide +kernel
theorem dX11_init_325 : decode cX11_init 325 = .ok (.newarray .long, 2) := by decide +kernel
theorem dX11_init_327 : decode cX11_init 327 = .ok (.putfield 126, 3) := by decide +kernel
theorem dX11_init_330 : decode cX11_init 330 = .ok (.aload_n 0, 1) := by decide +kernel
theorem dX11_init_331 : decode cX11_init 331 = .ok (.bipush 11, 2) := by decide +kernel
theorem dX11_init_333 : decode cX11_init 333 = .ok (.newarray .long, 2) := by decide +kernel
theorem dX11_init_335 : decode cX11_init 335 = .ok (.putfield 129, 3) := by decide +kernel
theorem dX11_init_338 : decode cX11_init 338 = .ok (.aload_n 0, 1) := by decide +kernel
theorem dX11_init_339 : decode cX11_init 339 = .ok (.bipush 11, 2) := by decide +kernel
theorem dX11_init_341 : decode cX11_init 341 = .ok (.newarray .boolean, 2) := by decide +kernel
theorem dX11_init_343 : decode cX11_init 343 = .ok (.putfield 132, 3) := by decide +kernel
theorem dX11_init_346 : decode cX11_init 346 = .ok (.aload_n 0, 1) := by decide +kernel
theorem dX11_init_347 : decode cX11_init 347 = .ok (.bipush 11, 2) := by decide +kernel
theorem dX11_init_349 : decode cX11_init 349 = .ok (.newarray .boolean, 2) := by decide +kernel
theorem dX11_init_351 : decode cX11_init 351 = .ok (.putfield 135, 3) := by decide +kernel
theorem dX11_init_354 : decode cX11_init 354 = .ok (.aload_n 0, 1) := by decide +kernel
theorem dX11_init_355 : decode cX11_init 355 = .ok (.sipush 264, 3) := by decide +kernel
theorem dX11_init_358 : decode cX11_init 358 = .ok (.newarray .long, 2) := by decide +kernel
theorem dX11_init_360 : decode cX11_init 360 = .ok (.putfield 138, 3) := by decide +kernel
theorem dX11_init_363 : decode cX11_init 363 = .ok (.aload_n 0, 1) := by decide +kernel
theorem dX11_init_364 : decode cX11_init 364 = .ok (.bipush 11, 2) := by decide +kernel
theorem dX11_init_366 : decode cX11_init 366 = .ok (.newarray .int, 2) := by decide +kernel
theorem dX11_init_368 : decode cX11_init 368 = .ok (.putfield 141, 3) := by decide +kernel
theorem dX11_init_371 : decode cX11_init 371 = .ok (.aload_n 0, 1) := by decide +kernel
theorem dX11_init_372 : decode cX11_init 372 = .ok (.sipush 2100, 3) := by decide +kernel
theorem dX11_init_375 : decode cX11_init 375 = .ok (.newarray .int, 2) := by decide +kernel
theorem dX11_init_377 : decode cX11_init 377 = .ok (.putfield 144, 3) := by decide +kernel
theorem dX11_init_380 : decode cX11_init 380 = .ok (.aload_n 0, 1) := by decide +kernel
theorem dX11_init_381 : decode cX11_init 381 = .ok (.sipush 2100, 3) := by decide +kernel
theorem dX11_init_384 : decode cX11_init 384 = .ok (.newarray .long, 2) := by decide +kernel
theorem dX11_init_386 : decode cX11_init 386 = .ok (.putfield 147, 3) := by decide +kernel
theorem dX11_init_389 : decode cX11_init 389 = .ok (.aload_n 0, 1) := by decide +kernel
theorem dX11_init_390 : decode cX11_init 390 = .ok (.sipush 2100, 3) := by decide +kernel
theorem dX11_init_393 : decode cX11_init 393 = .ok (.newarray .long, 2) := by decide +kernel
theorem dX11_init_395 : decode cX11_init 395 = .ok (.putfield 150, 3) := by decide +kernel
theorem dX11_init_398 : decode cX11_init 398 = .ok (.aload_n 0, 1) := by decide +kernel
theorem dX11_init_399 : decode cX11_init 399 = .ok (.sipush 1024, 3) := by decide +kernel
theorem dX11_init_402 : decode cX11_init 402 = .ok (.newarray .long, 2) := by decide +kernel
theorem dX11_init_404 : decode cX11_init 404 = .ok (.putfield 153, 3) := by decide +kernel
theorem dX11_init_407 : decode cX11_init 407 = .ok (.aload_n 0, 1) := by decide +kernel
theorem dX11_init_408 : decode cX11_init 408 = .ok (.iconst 1, 1) := by decide +kernel
theorem dX11_init_409 : decode cX11_init 409 = .ok (.putfield 156, 3) := by decide +kernel
theorem dX11_init_412 : decode cX11_init 412 = .ok (.aload_n 0, 1) := by decide +kernel
theorem dX11_init_413 : decode cX11_init 413 = .ok (.getfield 45, 3) := by decide +kernel
theorem dX11_init_416 : decode cX11_init 416 = .ok (.iconst 0, 1) := by decide +kernel
theorem dX11_init_417 : decode cX11_init 417 = .ok (.iconst (-1), 1) := by decide +kernel
theorem dX11_init_418 : decode cX11_init 418 = .ok (.iastore, 1) := by decide +kernel
theorem dX11_init_419 : decode cX11_init 419 = .ok (.aload_n 0, 1) := by decide +kernel
theorem dX11_init_420 : decode cX11_init 420 = .ok (.getfield 63, 3) := by decide +kernel
theorem dX11_init_423 : decode cX11_init 423 = .ok (.iconst 0, 1) := by decide +kernel
theorem dX11_init_424 : decode cX11_init 424 = .ok (.iconst 1, 1) := by decide +kernel
theorem dX11_init_425 : decode cX11_init 425 = .ok (.bastore, 1) := by decide +kernel
theorem dX11_init_426 : decode cX11_init 426 = .ok (.iconst 0, 1) := by decide +kernel
theorem dX11_init_427 : decode cX11_init 427 = .ok (.istore_n 1, 1) := by decide +kernel
theorem dX11_init_428 : decode cX11_init 428 = .ok (.iload_n 1, 1) := by decide +kernel
theorem dX11_init_429 : decode cX11_init 429 = .ok (.bipush 7, 2) := by decide +kernel
theorem dX11_init_431 : decode cX11_init 431 = .ok (.if_icmp .ge 16, 3) := by decide +kernel
theorem dX11_init_434 : decode cX11_init 434 = .ok (.aload_n 0, 1) := by decide +kernel
theorem dX11_init_435 : decode cX11_init 435 = .ok (.getfield 90, 3) := by decide +kernel
theorem dX11_init_438 : decode cX11_init 438 = .ok (.iload_n 1, 1) := by decide +kernel
theorem dX11_init_439 : decode cX11_init 439 = .ok (.iconst 1, 1) := by decide +kernel
theorem dX11_init_440 : decode cX11_init 440 = .ok (.iastore, 1) := by decide +kernel
theorem dX11_init_441 : decode cX11_init 441 = .ok (.iinc 1 1, 3) := by decide +kernel
theorem dX11_init_444 : decode cX11_init 444 = .ok (.goto (-16), 3) := by decide +kernel
theorem dX11_init_447 : decode cX11_init 447 = .ok (.return_, 1) := by decide +kernel
theorem dX4_init_0 : decode cX4_init 0 = .ok (.aload_n 0, 1) := by decide +kernel
theorem dX4_init_1 : decode cX4_init 1 = .ok (.invokespecial 3, 3) := by decide +kernel
theorem dX4_init_4 : decode cX4_init 4 = .ok (.aload_n 0, 1) := by decide +kernel
theorem dX4_init_5 : decode cX4_init 5 = .ok (.sipush 200, 3) := by decide +kernel
theorem dX4_init_8 : decode cX4_init 8 = .ok (.newarray .byte, 2) := by decide +kernel
theorem dX4_init_10 : decode cX4_init 10 = .ok (.putfield 9, 3) := by decide +kernel
theorem dX4_init_13 : decode cX4_init 13 = .ok (.aload_n 0, 1) := by decide +kernel
theorem dX4_init_14 : decode cX4_init 14 = .ok (.sipush 200, 3) := by decide +kernel
theorem dX4_init_17 : decode cX4_init 17 = .ok (.newarray .boolean, 2) := by decide +kernel
theorem dX4_init_19 : decode cX4_init 19 = .ok (.putfield 15, 3) := by decide +kernel
theorem dX4_init_22 : decode cX4_init 22 = .ok (.return_, 1) := by decide +kernel
theorem dX7_init_0 : decode cX7_init 0 = .ok (.aload_n 0, 1) := by decide +kernel
theorem dX7_init_1 : decode cX7_init 1 = .ok (.invokespecial 3, 3) := by decide +kernel
theorem dX7_init_4 : decode cX7_init 4 = .ok (.aload_n 0, 1) := by decide +kernel
theorem dX7_init_5 : decode cX7_init 5 = .ok (.new 9, 3) := by decide +kernel
theorem dX7_init_8 : decode cX7_init 8 = .ok (.dup, 1) := by decide +kernel
theorem dX7_init_9 : decode cX7_init 9 = .ok (.invokespecial 11, 3) := by decide +kernel
theorem dX7_init_12 : decode cX7_init 12 = .ok (.putfield 12, 3) := by decide +kernel
theorem dX7_init_15 : decode cX7_init 15 = .ok (.aload_n 0, 1) := by decide +kernel
theorem dX7_init_16 : decode cX7_init 16 = .ok (.new 18, 3) := by decide +kernel
theorem dX7_init_19 : decode cX7_init 19 = .ok (.dup, 1) := by decide +kernel
theorem dX7_init_20 : decode cX7_init 20 = .ok (.invokespecial 20, 3) := by decide +kernel
theorem dX7_init_23 : decode cX7_init 23 = .ok (.putfield 21, 3) := by decide +kernel
theorem dX7_init_26 : decode cX7_init 26 = .ok (.aload_n 0, 1) := by decide +kernel
theorem dX7_init_27 : decode cX7_init 27 = .ok (.new 25, 3) := by decide +kernel
theorem dX7_init_30 : decode cX7_init 30 = .ok (.dup, 1) := by decide +kernel
theorem dX7_init_31 : decode cX7_init 31 = .ok (.invokespecial 27, 3) := by decide +kernel
theorem dX7_init_34 : decode cX7_init 34 = .ok (.putfield 28, 3) := by decide +kernel
theorem dX7_init_37 : decode cX7_init 37 = .ok (.aload_n 0, 1) := by decide +kernel
theorem dX7_init_38 : decode cX7_init 38 = .ok (.new 32, 3) := by decide +kernel
theorem dX7_init_41 : decode cX7_init 41 = .ok (.dup, 1) := by decide +kernel
theorem dX7_init_42 : decode cX7_init 42 = .ok (.invokespecial 34, 3) := by decide +kernel
theorem dX7_init_45 : decode cX7_init 45 = .ok (.putfield 35, 3) := by decide +kernel
theorem dX7_init_48 : decode cX7_init 48 = .ok (.aload_n 0, 1) := by decide +kernel
theorem dX7_init_49 : decode cX7_init 49 = .ok (.bipush 10, 2) := by decide +kernel
theorem dX7_init_51 : decode cX7_init 51 = .ok (.anewarray 39, 3) := by decide +kernel
theorem dX7_init_54 : decode cX7_init 54 = .ok (.putfield 41, 3) := by decide +kernel
theorem dX7_init_57 : decode cX7_init 57 = .ok (.iconst 0, 1) := by decide +kernel
theorem dX7_init_58 : decode cX7_init 58 = .ok (.istore_n 1, 1) := by decide +kernel
theorem dX7_init_59 : decode cX7_init 59 = .ok (.iload_n 1, 1) := by decide +kernel
theorem dX7_init_60 : decode cX7_init 60 = .ok (.bipush 10, 2) := by decide +kernel
theorem dX7_init_62 : decode cX7_init 62 = .ok (.if_icmp .ge 22, 3) := by decide +kernel
theorem dX7_init_65 : decode cX7_init 65 = .ok (.aload_n 0, 1) := by decide +kernel
theorem dX7_init_66 : decode cX7_init 66 = .ok (.getfield 41, 3) := by decide +kernel
theorem dX7_init_69 : decode cX7_init 69 = .ok (.iload_n 1, 1) := by decide +kernel
theorem dX7_init_70 : decode cX7_init 70 = .ok (.new 39, 3) := by decide +kernel
theorem dX7_init_73 : decode cX7_init 73 = .ok (.dup, 1) := by decide +kernel
theorem dX7_init_74 : decode cX7_init 74 = .ok (.invokespecial 45, 3) := by decide +kernel
theorem dX7_init_77 : decode cX7_init 77 = .ok (.aastore, 1) := by decide +kernel
theorem dX7_init_78 : decode cX7_init 78 = .ok (.iinc 1 1, 3) := by decide +kernel
theorem dX7_init_81 : decode cX7_init 81 = .ok (.goto (-22), 3) := by decide +kernel
theorem dX7_init_84 : decode cX7_init 84 = .ok (.return_, 1) := by decide +kernel
theorem dX3_init_0 : decode cX3_init 0 = .ok (.aload_n 0, 1) := by decide +kernel
theorem dX3_init_1 : decode cX3_init 1 = .ok (.invokespecial 3, 3) := by decide +kernel
theorem dX3_init_4 : decode cX3_init 4 = .ok (.aload_n 0, 1) := by decide +kernel
theorem dX3_init_5 : decode cX3_init 5 = .ok (.bipush 16, 2) := by decide +kernel
theorem dX3_init_7 : decode cX3_init 7 = .ok (.anewarray 9, 3) := by decide +kernel
theorem dX3_init_10 : decode cX3_init 10 = .ok (.putfield 11, 3) := by decide +kernel
theorem dX3_init_13 : decode cX3_init 13 = .ok (.return_, 1) := by decide +kernel
theorem dX5_init_0 : decode cX5_init 0 = .ok (.aload_n 0, 1) := by decide +kernel
theorem dX5_init_1 : decode cX5_init 1 = .ok (.invokespecial 3, 3) := by decide +kernel
theorem dX5_init_4 : decode cX5_init 4 = .ok (.aload_n 0, 1) := by decide +kernel
theorem dX5_init_5 : decode cX5_init 5 = .ok (.sipush 240, 3) := by decide +kernel
theorem dX5_init_8 : decode cX5_init 8 = .ok (.newarray .long, 2) := by decide +kernel
theorem dX5_init_10 : decode cX5_init 10 = .ok (.putfield 9, 3) := by decide +kernel
theorem dX5_init_13 : decode cX5_init 13 = .ok (.return_, 1) := by decide +kernel
theorem dX1_init_0 : decode cX1_init 0 = .ok (.aload_n 0, 1) := by decide +kernel
theorem dX1_init_1 : decode cX1_init 1 = .ok (.invokespecial 1, 3) := by decide +kernel
theorem dX1_init_4 : decode cX1_init 4 = .ok (.return_, 1) := by decide +kernel
theorem dX6_init_0 : decode cX6_init 0 = .ok (.aload_n 0, 1) := by decide +kernel
theorem dX6_init_1 : decode cX6_init 1 = .ok (.invokespecial 3, 3) := by decide +kernel
theorem dX6_init_4 : decode cX6_init 4 = .ok (.aload_n 0, 1) := by decide +kernel
theorem dX6_init_5 : decode cX6_init 5 = .ok (.bipush 24, 2) := by decide +kernel
theorem dX6_init_7 : decode cX6_init 7 = .ok (.newarray .long, 2) := by decide +kernel
theorem dX6_init_9 : decode cX6_init 9 = .ok (.putfield 9, 3) := by decide +kernel
theorem dX6_init_12 : decode cX6_init 12 = .ok (.aload_n 0, 1) := by decide +kernel
theorem dX6_init_13 : decode cX6_init 13 = .ok (.sipush 1024, 3) := by decide +kernel
theorem dX6_init_16 : decode cX6_init 16 = .ok (.newarray .long, 2) := by decide +kernel
theorem dX6_init_18 : decode cX6_init 18 = .ok (.putfield 15, 3) := by decide +kernel
theorem dX6_init_21 : decode cX6_init 21 = .ok (.return_, 1) := by decide +kernel
theorem dJ7_fill_53178_0 : decode cJ7_fill_53178 0 = .ok (.iconst 0, 1) := by decide +kernel
theorem dJ7_fill_53178_1 : decode cJ7_fill_53178 1 = .ok (.istore_n 2, 1) := by decide +kernel
theorem dJ7_fill_53178_2 : decode cJ7_fill_53178 2 = .ok (.aload_n 0, 1) := by decide +kernel
theorem dJ7_fill_53178_3 : decode cJ7_fill_53178 3 = .ok (.arraylength, 1) := by decide +kernel
theorem dJ7_fill_53178_4 : decode cJ7_fill_53178 4 = .ok (.istore_n 3, 1) := by decide +kernel
theorem dJ7_fill_53178_5 : decode cJ7_fill_53178 5 = .ok (.iload_n 2, 1) := by decide +kernel
theorem dJ7_fill_53178_6 : decode cJ7_fill_53178 6 = .ok (.iload_n 3, 1) := by decide +kernel
theorem dJ7_fill_53178_7 : decode cJ7_fill_53178 7 = .ok (.if_icmp .ge 13, 3) := by decide +kernel
theorem dJ7_fill_53178_10 : decode cJ7_fill_53178 10 = .ok (.aload_n 0, 1) := by decide +kernel
theorem dJ7_fill_53178_11 : decode cJ7_fill_53178 11 = .ok (.iload_n 2, 1) := by decide +kernel
theorem dJ7_fill_53178_12 : decode cJ7_fill_53178 12 = .ok (.iload_n 1, 1) := by decide +kernel
theorem dJ7_fill_53178_13 : decode cJ7_fill_53178 13 = .ok (.iastore, 1) := by decide +kernel
theorem dJ7_fill_53178_14 : decode cJ7_fill_53178 14 = .ok (.iinc 2 1, 3) := by decide +kernel
theorem dJ7_fill_53178_17 : decode cJ7_fill_53178 17 = .ok (.goto (-12), 3) := by decide +kernel
theorem dJ7_fill_53178_20 : decode cJ7_fill_53178 20 = .ok (.return_, 1) := by decide +kernel
/-- the memory while things are made: the first n fixed cells -/
def md (n : Nat) (I : Nat → Nat → Int32) (R : Nat → Nat → Option Nat) : rx_M := (I, fun _ _ => 0, R, fun a => bif Nat.blt a n then gk_K a else (20, 0), n)
def zI (n : Nat) (I : Nat → Nat → Int32) : Prop := ∀ a k, n ≤ a → I a k = 0
def zR (n : Nat) (R : Nat → Nat → Option Nat) : Prop := ∀ a k, n ≤ a → R a k = none
theorem zI_le {n m : Nat} {I : Nat → Nat → Int32} (h : zI n I) (hn : n ≤ m) : zI m I := fun a k ha => h a k (by omega)
theorem zR_le {n m : Nat} {R : Nat → Nat → Option Nat} (h : zR n R) (hn : n ≤ m) : zR m R := fun a k ha => h a k (by omega)
theorem zI_u {n m a j : Nat} {I : Nat → Nat → Int32} {x : Int32} (h : zI n I) (hn : n ≤ m) (ha : a < m) : zI m (rx_u I a j x) := fun b k hb => (congrFun (rx_une _ (by omega)) k).trans (h b k (by omega))
theorem zR_u {n m a j : Nat} {R : Nat → Nat → Option Nat} {x : Option Nat} (h : zR n R) (hn : n ≤ m) (ha : a < m) : zR m (rx_u R a j x) := fun b k hb => (congrFun (rx_une _ (by omega)) k).trans (h b k (by omega))
theorem md_k {n a : Nat} {I : Nat → Nat → Int32} {R : Nat → Nat → Option Nat} {q : Nat × Nat} (ha : a < n) (hk : gk_K a = q) : (md n I R).2.2.2.1 a = q := by
  show (bif Nat.blt a n then gk_K a else (20, 0)) = q
  rw [show Nat.blt a n = true from Nat.ble_eq_true_of_le ha]
  exact hk
theorem md_al {n t N : Nat} {I : Nat → Nat → Int32} {R : Nat → Nat → Option Nat} (hz : zI n I) (hr : zR n R) (hk : gk_K n = (t, N)) : rx_al (md n I R) t N = md (n + 1) I R := by
  refine Prod.ext (funext fun b => ?_) (Prod.ext (funext fun b => ?_) (Prod.ext (funext fun b => ?_) (Prod.ext (funext fun b => ?_) rfl)))
  · show rx_k1 I n (fun _ => 0) b = I b
    by_cases h : b = n
    · subst h; rw [k1_eq]; exact funext fun k => (hz b k (Nat.le_refl _)).symm
    · rw [k1_ne _ h]
  · show rx_k1 (fun _ _ => 0) n (fun _ => 0) b = fun _ => 0
    by_cases h : b = n
    · subst h; rw [k1_eq]
    · rw [k1_ne _ h]
  · show rx_k1 R n (fun _ => none) b = R b
    by_cases h : b = n
    · subst h; rw [k1_eq]; exact funext fun k => (hr b k (Nat.le_refl _)).symm
    · rw [k1_ne _ h]
  · show rx_k1 (fun a => bif Nat.blt a n then gk_K a else (20, 0)) n (t, N) b = (bif Nat.blt b (n + 1) then gk_K b else (20, 0))
    by_cases h : b = n
    · subst h
      rw [k1_eq, show Nat.blt b (b + 1) = true from Nat.ble_eq_true_of_le (Nat.le_refl _)]
      exact hk.symm
    · rw [k1_ne _ h]
      show (bif Nat.blt b n then gk_K b else (20, 0)) = _
      by_cases h2 : b < n
      · rw [show Nat.blt b n = true from Nat.ble_eq_true_of_le h2, show Nat.blt b (n + 1) = true from Nat.ble_eq_true_of_le (by omega)]
      · rw [show Nat.blt b n = false from Bool.eq_false_iff.mpr (fun q => h2 (Nat.le_of_ble_eq_true q)), show Nat.blt b (n + 1) = false from Bool.eq_false_iff.mpr (fun q => by have : b + 1 ≤ n + 1 := Nat.le_of_ble_eq_true q; omega)]
section MI
variable {G : rx_E} {M : rx_Me} {d pc mc ms : Nat} {lv : List (Nat × Value)} {st : List Value} {n : Nat} {I : Nat → Nat → Int32} {R : Nat → Nat → Option Nat} {Q : Option Value → rx_M → Prop} {Z : String → rx_M → Prop}
theorem mi_new {idx ci N : Nat} {C0 : String} {T : u_T} (hG : rx_OK G) (hCl : rx_Cl ci C0 T N) (hw : Cond.classLink M.1.cls idx C0 ∈ lw_tbl ∧ Cond.instantiable C0 N ∈ lw_tbl ∧ Cond.initialized C0 ∈ lw_tbl) (hdv : ∀ j, j < N → defaultValue ((rx_ty ci).1 j) = rx_dv (rx_tc ((rx_ty ci).1 j))) (hd : decode M.2.1 pc = .ok (.new idx, 3)) (hz : zI n I) (hr : zR n R) (hk : gk_K n = (ci, N)) (kk : rx_W G M d (pc + 3) lv (.ref n :: st) (md (n + 1) I R) mc ms Q Z) : rx_W G M d pc lv st (md n I R) (mc + 1) (ms + N) Q Z :=
  rx_new hG hCl hw hdv hd (by rw [md_al hz hr hk]; exact kk)
theorem mi_newa {x : Int32} {N t : Nat} {atype : ArrayType} (hG : rx_OK G) (ht : (t = 12 ∧ atype = .byte) ∨ (t = 13 ∧ atype = .int) ∨ (t = 14 ∧ atype = .long) ∨ (t = 15 ∧ atype = .boolean)) (hw : Cond.arrayClass (newarray.typeOf atype) ∈ lw_tbl) (hd : decode M.2.1 pc = .ok (.newarray atype, 2)) (hx : x = nI N) (hn : N < 65536) (hz : zI n I) (hr : zR n R) (hk : gk_K n = (t, N)) (kk : rx_W G M d (pc + 2) lv (.ref n :: st) (md (n + 1) I R) mc ms Q Z) : rx_W G M d pc lv (.int x :: st) (md n I R) (mc + 1) (ms + N) Q Z :=
  rx_newa hG ht hw hd hx hn (by rw [md_al hz hr hk]; exact kk)
theorem mi_anew {x : Int32} {N t idx : Nat} (hG : rx_OK G) (ht : 16 ≤ t ∧ t < 20) (hw : Cond.classLink M.1.cls idx (rx_el t) ∈ lw_tbl ∧ Cond.arrayOver (.object (rx_el t)) ∈ lw_tbl) (hd : decode M.2.1 pc = .ok (.anewarray idx, 3)) (hx : x = nI N) (hn : N < 65536) (hz : zI n I) (hr : zR n R) (hk : gk_K n = (t, N)) (kk : rx_W G M d (pc + 3) lv (.ref n :: st) (md (n + 1) I R) mc ms Q Z) : rx_W G M d pc lv (.int x :: st) (md n I R) (mc + 1) (ms + N) Q Z :=
  rx_anew hG ht hw hd hx hn (by rw [md_al hz hr hk]; exact kk)
theorem mi_putR {a idx ci k r : Nat} {ty : FieldType} {R' : Nat → Nat → Option Nat} (hG : rx_OK G) (hF : rx_Fd M.1.cls idx ci k ty) (hfin : rx_Wr M idx ci k) (ht : ∃ t, ty = .array t ∨ ∃ c, ty = .object c) (hd : decode M.2.1 pc = .ok (.putfield idx, 3)) (hn : a < n) (hk : (gk_K a).1 = ci) (hR : R' = rx_u R a k (some r)) (kk : rx_W G M d (pc + 3) lv st (md n I R') mc ms Q Z) : rx_W G M d pc lv (.ref r :: .ref a :: st) (md n I R) mc ms Q Z :=
  rx_putR hG hF hfin ht hd hn ((congrArg Prod.fst (md_k hn rfl)).trans hk) (by subst hR; exact kk)
theorem mi_putI {a idx ci k : Nat} {ty : FieldType} {x : Int32} {I' : Nat → Nat → Int32} (hG : rx_OK G) (hF : rx_Fd M.1.cls idx ci k ty) (hfin : rx_Wr M idx ci k) (ht : rx_tc ty = 0) (hd : decode M.2.1 pc = .ok (.putfield idx, 3)) (hn : a < n) (hk : (gk_K a).1 = ci) (hv : narrow ty (.int x) = .int x) (hf : fits ty (.int x) = true) (hI : I' = rx_u I a k x) (kk : rx_W G M d (pc + 3) lv st (md n I' R) mc ms Q Z) : rx_W G M d pc lv (.int x :: .ref a :: st) (md n I R) mc ms Q Z :=
  rx_putI hG hF hfin ht hd hn ((congrArg Prod.fst (md_k hn rfl)).trans hk) hv hf (by subst hI; exact kk)
theorem mi_getR {a idx ci k r : Nat} {ty : FieldType} (hG : rx_OK G) (hF : rx_Fd M.1.cls idx ci k ty) (ht : rx_tc ty = 2) (hd : decode M.2.1 pc = .ok (.getfield idx, 3)) (hn : a < n) (hk : (gk_K a).1 = ci) (hr : R a k = some r) (kk : rx_W G M d (pc + 3) lv (.ref r :: st) (md n I R) mc ms Q Z) : rx_W G M d pc lv (.ref a :: st) (md n I R) mc ms Q Z :=
  rx_getR hG hF ht hd hn ((congrArg Prod.fst (md_k hn rfl)).trans hk) hr kk
theorem mi_iast {a j N : Nat} {i x : Int32} {I' : Nat → Nat → Int32} (hG : rx_OK G) (hd : decode M.2.1 pc = .ok (.iastore, 1)) (hn : a < n) (hk : gk_K a = (13, N)) (hi : i = nI j) (hj : j < N) (hN : N < 2147483648) (hI : I' = rx_u I a j x) (kk : rx_W G M d (pc + 1) lv st (md n I' R) mc ms Q Z) : rx_W G M d pc lv (.int x :: .int i :: .ref a :: st) (md n I R) mc ms Q Z :=
  rx_iast hG hd hn (md_k hn hk) hi hj hN (by subst hI; exact kk)
theorem mi_zast {a j N : Nat} {i x : Int32} {I' : Nat → Nat → Int32} (hG : rx_OK G) (hd : decode M.2.1 pc = .ok (.bastore, 1)) (hn : a < n) (hk : gk_K a = (15, N)) (hi : i = nI j) (hj : j < N) (hN : N < 2147483648) (hx : narrow .boolean (.int x) = .int x) (hI : I' = rx_u I a j x) (kk : rx_W G M d (pc + 1) lv st (md n I' R) mc ms Q Z) : rx_W G M d pc lv (.int x :: .int i :: .ref a :: st) (md n I R) mc ms Q Z :=
  rx_zast hG hd hn (md_k hn hk) hi hj hN hx (by subst hI; exact kk)
theorem mi_aast {a j N t r : Nat} {i : Int32} {R' : Nat → Nat → Option Nat} (hG : rx_OK G) (hd : decode M.2.1 pc = .ok (.aastore, 1)) (hn : a < n) (hk : gk_K a = (t, N)) (ht : 16 ≤ t ∧ t < 20) (hi : i = nI j) (hj : j < N) (hN : N < 2147483648) (hr : r < n) (hkr : (gk_K r).1 = rx_eli t) (hR : R' = rx_u R a j (some r)) (kk : rx_W G M d (pc + 1) lv st (md n I R') mc ms Q Z) : rx_W G M d pc lv (.ref r :: .int i :: .ref a :: st) (md n I R) mc ms Q Z :=
  rx_aast hG hd hn (md_k hn hk) ht hi hj hN hr ((congrArg Prod.fst (md_k hr rfl)).trans hkr) (by subst hR; exact kk)
end MI
def iI_0 : Nat → Nat → Int32 := fun _ _ => 0
def iR_0 : Nat → Nat → Option Nat := fun _ _ => none
theorem zI_0 : zI 0 iI_0 := fun _ _ _ => rfl
theorem zR_0 : zR 0 iR_0 := fun _ _ _ => rfl
def iI_1 : Nat → Nat → Int32 := rx_u iI_0 45 0 (-1)
theorem zI_1 : zI 49 iI_1 := zI_u zI_0 (by decide) (by decide)
def iI_2 : Nat → Nat → Int32 := rx_u iI_1 45 1 (nI 0)
theorem zI_2 : zI 49 iI_2 := zI_u zI_1 (by decide) (by decide)
def iI_3 : Nat → Nat → Int32 := rx_u iI_2 45 5 (nI 0)
theorem zI_3 : zI 49 iI_3 := zI_u zI_2 (by decide) (by decide)
def iI_4 : Nat → Nat → Int32 := rx_u iI_3 0 5 (nI 1)
theorem zI_4 : zI 49 iI_4 := zI_u zI_3 (by decide) (by decide)
def iI_5 : Nat → Nat → Int32 := rx_u iI_4 49 0 (nI 1)
theorem zI_5 : zI 50 iI_5 := zI_u zI_4 (by decide) (by decide)
def iI_6 : Nat → Nat → Int32 := rx_u iI_5 49 1 (nI 1)
theorem zI_6 : zI 50 iI_6 := zI_u zI_5 (by decide) (by decide)
def iI_7 : Nat → Nat → Int32 := rx_u iI_6 49 2 (nI 1)
theorem zI_7 : zI 50 iI_7 := zI_u zI_6 (by decide) (by decide)
def iI_8 : Nat → Nat → Int32 := rx_u iI_7 49 3 (nI 1)
theorem zI_8 : zI 50 iI_8 := zI_u zI_7 (by decide) (by decide)
def iI_9 : Nat → Nat → Int32 := rx_u iI_8 49 4 (nI 1)
theorem zI_9 : zI 50 iI_9 := zI_u zI_8 (by decide) (by decide)
def iI_10 : Nat → Nat → Int32 := rx_u iI_9 49 5 (nI 1)
theorem zI_10 : zI 50 iI_10 := zI_u zI_9 (by decide) (by decide)
def iI_11 : Nat → Nat → Int32 := rx_u iI_10 49 6 (nI 1)
theorem zI_11 : zI 50 iI_11 := zI_u zI_10 (by decide) (by decide)
def iI_12 : Nat → Nat → Int32 := rx_u iI_11 52 15 (nI 1)
theorem zI_12 : zI 101 iI_12 := zI_u zI_11 (by decide) (by decide)
def iI_13 : Nat → Nat → Int32 := rx_u iI_12 64 0 (-1)
theorem zI_13 : zI 101 iI_13 := zI_u zI_12 (by decide) (by decide)
def iI_14 : Nat → Nat → Int32 := rx_u iI_13 70 0 (nI 1)
theorem zI_14 : zI 101 iI_14 := zI_u zI_13 (by decide) (by decide)
def iI_15 : Nat → Nat → Int32 := rx_u iI_14 79 0 (nI 1)
theorem zI_15 : zI 101 iI_15 := zI_u zI_14 (by decide) (by decide)
def iI_16 : Nat → Nat → Int32 := rx_u iI_15 79 1 (nI 1)
theorem zI_16 : zI 101 iI_16 := zI_u zI_15 (by decide) (by decide)
def iI_17 : Nat → Nat → Int32 := rx_u iI_16 79 2 (nI 1)
theorem zI_17 : zI 101 iI_17 := zI_u zI_16 (by decide) (by decide)
def iI_18 : Nat → Nat → Int32 := rx_u iI_17 79 3 (nI 1)
theorem zI_18 : zI 101 iI_18 := zI_u zI_17 (by decide) (by decide)
def iI_19 : Nat → Nat → Int32 := rx_u iI_18 79 4 (nI 1)
theorem zI_19 : zI 101 iI_19 := zI_u zI_18 (by decide) (by decide)
def iI_20 : Nat → Nat → Int32 := rx_u iI_19 79 5 (nI 1)
theorem zI_20 : zI 101 iI_20 := zI_u zI_19 (by decide) (by decide)
def iI_21 : Nat → Nat → Int32 := rx_u iI_20 79 6 (nI 1)
theorem zI_21 : zI 101 iI_21 := zI_u zI_20 (by decide) (by decide)
def iR_1 : Nat → Nat → Option Nat := rx_u iR_0 1 0 (some 2)
theorem zR_1 : zR 3 iR_1 := zR_u zR_0 (by decide) (by decide)
def iR_2 : Nat → Nat → Option Nat := rx_u iR_1 1 1 (some 3)
theorem zR_2 : zR 4 iR_2 := zR_u zR_1 (by decide) (by decide)
def iR_3 : Nat → Nat → Option Nat := rx_u iR_2 0 0 (some 1)
theorem zR_3 : zR 4 iR_3 := zR_u zR_2 (by decide) (by decide)
def iR_4 : Nat → Nat → Option Nat := rx_u iR_3 5 0 (some 6)
theorem zR_4 : zR 7 iR_4 := zR_u zR_3 (by decide) (by decide)
def iR_5 : Nat → Nat → Option Nat := rx_u iR_4 4 0 (some 5)
theorem zR_5 : zR 7 iR_5 := zR_u zR_4 (by decide) (by decide)
def iR_6 : Nat → Nat → Option Nat := rx_u iR_5 7 0 (some 8)
theorem zR_6 : zR 9 iR_6 := zR_u zR_5 (by decide) (by decide)
def iR_7 : Nat → Nat → Option Nat := rx_u iR_6 4 1 (some 7)
theorem zR_7 : zR 9 iR_7 := zR_u zR_6 (by decide) (by decide)
def iR_8 : Nat → Nat → Option Nat := rx_u iR_7 9 0 (some 10)
theorem zR_8 : zR 11 iR_8 := zR_u zR_7 (by decide) (by decide)
def iR_9 : Nat → Nat → Option Nat := rx_u iR_8 4 2 (some 9)
theorem zR_9 : zR 11 iR_9 := zR_u zR_8 (by decide) (by decide)
def iR_10 : Nat → Nat → Option Nat := rx_u iR_9 4 3 (some 11)
theorem zR_10 : zR 12 iR_10 := zR_u zR_9 (by decide) (by decide)
def iR_11 : Nat → Nat → Option Nat := rx_u iR_10 4 4 (some 12)
theorem zR_11 : zR 13 iR_11 := zR_u zR_10 (by decide) (by decide)
def iR_12 : Nat → Nat → Option Nat := rx_u iR_11 13 0 (some 14)
theorem zR_12 : zR 15 iR_12 := zR_u zR_11 (by decide) (by decide)
def iR_13 : Nat → Nat → Option Nat := rx_u iR_12 13 1 (some 15)
theorem zR_13 : zR 16 iR_13 := zR_u zR_12 (by decide) (by decide)
def iR_14 : Nat → Nat → Option Nat := rx_u iR_13 12 0 (some 13)
theorem zR_14 : zR 16 iR_14 := zR_u zR_13 (by decide) (by decide)
def iR_15 : Nat → Nat → Option Nat := rx_u iR_14 16 0 (some 17)
theorem zR_15 : zR 18 iR_15 := zR_u zR_14 (by decide) (by decide)
def iR_16 : Nat → Nat → Option Nat := rx_u iR_15 16 1 (some 18)
theorem zR_16 : zR 19 iR_16 := zR_u zR_15 (by decide) (by decide)
def iR_17 : Nat → Nat → Option Nat := rx_u iR_16 12 1 (some 16)
theorem zR_17 : zR 19 iR_17 := zR_u zR_16 (by decide) (by decide)
def iR_18 : Nat → Nat → Option Nat := rx_u iR_17 19 0 (some 20)
theorem zR_18 : zR 21 iR_18 := zR_u zR_17 (by decide) (by decide)
def iR_19 : Nat → Nat → Option Nat := rx_u iR_18 19 1 (some 21)
theorem zR_19 : zR 22 iR_19 := zR_u zR_18 (by decide) (by decide)
def iR_20 : Nat → Nat → Option Nat := rx_u iR_19 12 2 (some 19)
theorem zR_20 : zR 22 iR_20 := zR_u zR_19 (by decide) (by decide)
def iR_21 : Nat → Nat → Option Nat := rx_u iR_20 22 0 (some 23)
theorem zR_21 : zR 24 iR_21 := zR_u zR_20 (by decide) (by decide)
def iR_22 : Nat → Nat → Option Nat := rx_u iR_21 22 1 (some 24)
theorem zR_22 : zR 25 iR_22 := zR_u zR_21 (by decide) (by decide)
def iR_23 : Nat → Nat → Option Nat := rx_u iR_22 12 3 (some 22)
theorem zR_23 : zR 25 iR_23 := zR_u zR_22 (by decide) (by decide)
def iR_24 : Nat → Nat → Option Nat := rx_u iR_23 25 0 (some 26)
theorem zR_24 : zR 27 iR_24 := zR_u zR_23 (by decide) (by decide)
def iR_25 : Nat → Nat → Option Nat := rx_u iR_24 25 1 (some 27)
theorem zR_25 : zR 28 iR_25 := zR_u zR_24 (by decide) (by decide)
def iR_26 : Nat → Nat → Option Nat := rx_u iR_25 12 4 (some 25)
theorem zR_26 : zR 28 iR_26 := zR_u zR_25 (by decide) (by decide)
def iR_27 : Nat → Nat → Option Nat := rx_u iR_26 28 0 (some 29)
theorem zR_27 : zR 30 iR_27 := zR_u zR_26 (by decide) (by decide)
def iR_28 : Nat → Nat → Option Nat := rx_u iR_27 28 1 (some 30)
theorem zR_28 : zR 31 iR_28 := zR_u zR_27 (by decide) (by decide)
def iR_29 : Nat → Nat → Option Nat := rx_u iR_28 12 5 (some 28)
theorem zR_29 : zR 31 iR_29 := zR_u zR_28 (by decide) (by decide)
def iR_30 : Nat → Nat → Option Nat := rx_u iR_29 31 0 (some 32)
theorem zR_30 : zR 33 iR_30 := zR_u zR_29 (by decide) (by decide)
def iR_31 : Nat → Nat → Option Nat := rx_u iR_30 31 1 (some 33)
theorem zR_31 : zR 34 iR_31 := zR_u zR_30 (by decide) (by decide)
def iR_32 : Nat → Nat → Option Nat := rx_u iR_31 12 6 (some 31)
theorem zR_32 : zR 34 iR_32 := zR_u zR_31 (by decide) (by decide)
def iR_33 : Nat → Nat → Option Nat := rx_u iR_32 34 0 (some 35)
theorem zR_33 : zR 36 iR_33 := zR_u zR_32 (by decide) (by decide)
def iR_34 : Nat → Nat → Option Nat := rx_u iR_33 34 1 (some 36)
theorem zR_34 : zR 37 iR_34 := zR_u zR_33 (by decide) (by decide)
def iR_35 : Nat → Nat → Option Nat := rx_u iR_34 12 7 (some 34)
theorem zR_35 : zR 37 iR_35 := zR_u zR_34 (by decide) (by decide)
def iR_36 : Nat → Nat → Option Nat := rx_u iR_35 37 0 (some 38)
theorem zR_36 : zR 39 iR_36 := zR_u zR_35 (by decide) (by decide)
def iR_37 : Nat → Nat → Option Nat := rx_u iR_36 37 1 (some 39)
theorem zR_37 : zR 40 iR_37 := zR_u zR_36 (by decide) (by decide)
def iR_38 : Nat → Nat → Option Nat := rx_u iR_37 12 8 (some 37)
theorem zR_38 : zR 40 iR_38 := zR_u zR_37 (by decide) (by decide)
def iR_39 : Nat → Nat → Option Nat := rx_u iR_38 40 0 (some 41)
theorem zR_39 : zR 42 iR_39 := zR_u zR_38 (by decide) (by decide)
def iR_40 : Nat → Nat → Option Nat := rx_u iR_39 40 1 (some 42)
theorem zR_40 : zR 43 iR_40 := zR_u zR_39 (by decide) (by decide)
def iR_41 : Nat → Nat → Option Nat := rx_u iR_40 12 9 (some 40)
theorem zR_41 : zR 43 iR_41 := zR_u zR_40 (by decide) (by decide)
def iR_42 : Nat → Nat → Option Nat := rx_u iR_41 0 1 (some 4)
theorem zR_42 : zR 43 iR_42 := zR_u zR_41 (by decide) (by decide)
def iR_43 : Nat → Nat → Option Nat := rx_u iR_42 0 2 (some 43)
theorem zR_43 : zR 44 iR_43 := zR_u zR_42 (by decide) (by decide)
def iR_44 : Nat → Nat → Option Nat := rx_u iR_43 0 4 (some 44)
theorem zR_44 : zR 45 iR_44 := zR_u zR_43 (by decide) (by decide)
def iR_45 : Nat → Nat → Option Nat := rx_u iR_44 45 2 (some 46)
theorem zR_45 : zR 49 iR_45 := zR_u zR_44 (by decide) (by decide)
def iR_46 : Nat → Nat → Option Nat := rx_u iR_45 45 3 (some 47)
theorem zR_46 : zR 49 iR_46 := zR_u zR_45 (by decide) (by decide)
def iR_47 : Nat → Nat → Option Nat := rx_u iR_46 45 4 (some 48)
theorem zR_47 : zR 49 iR_47 := zR_u zR_46 (by decide) (by decide)
def iR_48 : Nat → Nat → Option Nat := rx_u iR_47 44 0 (some 45)
theorem zR_48 : zR 49 iR_48 := zR_u zR_47 (by decide) (by decide)
def iR_49 : Nat → Nat → Option Nat := rx_u iR_48 0 6 (some 49)
theorem zR_49 : zR 50 iR_49 := zR_u zR_48 (by decide) (by decide)
def iR_50 : Nat → Nat → Option Nat := rx_u iR_49 0 7 (some 50)
theorem zR_50 : zR 51 iR_50 := zR_u zR_49 (by decide) (by decide)
def iR_51 : Nat → Nat → Option Nat := rx_u iR_50 0 8 (some 51)
theorem zR_51 : zR 52 iR_51 := zR_u zR_50 (by decide) (by decide)
def iR_52 : Nat → Nat → Option Nat := rx_u iR_51 52 1 (some 53)
theorem zR_52 : zR 54 iR_52 := zR_u zR_51 (by decide) (by decide)
def iR_53 : Nat → Nat → Option Nat := rx_u iR_52 52 2 (some 54)
theorem zR_53 : zR 55 iR_53 := zR_u zR_52 (by decide) (by decide)
def iR_54 : Nat → Nat → Option Nat := rx_u iR_53 52 4 (some 55)
theorem zR_54 : zR 56 iR_54 := zR_u zR_53 (by decide) (by decide)
def iR_55 : Nat → Nat → Option Nat := rx_u iR_54 52 6 (some 56)
theorem zR_55 : zR 57 iR_55 := zR_u zR_54 (by decide) (by decide)
def iR_56 : Nat → Nat → Option Nat := rx_u iR_55 52 8 (some 57)
theorem zR_56 : zR 58 iR_56 := zR_u zR_55 (by decide) (by decide)
def iR_57 : Nat → Nat → Option Nat := rx_u iR_56 52 9 (some 58)
theorem zR_57 : zR 59 iR_57 := zR_u zR_56 (by decide) (by decide)
def iR_58 : Nat → Nat → Option Nat := rx_u iR_57 52 10 (some 59)
theorem zR_58 : zR 60 iR_58 := zR_u zR_57 (by decide) (by decide)
def iR_59 : Nat → Nat → Option Nat := rx_u iR_58 52 11 (some 60)
theorem zR_59 : zR 61 iR_59 := zR_u zR_58 (by decide) (by decide)
def iR_60 : Nat → Nat → Option Nat := rx_u iR_59 52 12 (some 61)
theorem zR_60 : zR 62 iR_60 := zR_u zR_59 (by decide) (by decide)
def iR_61 : Nat → Nat → Option Nat := rx_u iR_60 52 13 (some 62)
theorem zR_61 : zR 63 iR_61 := zR_u zR_60 (by decide) (by decide)
def iR_62 : Nat → Nat → Option Nat := rx_u iR_61 52 14 (some 63)
theorem zR_62 : zR 64 iR_62 := zR_u zR_61 (by decide) (by decide)
def iR_63 : Nat → Nat → Option Nat := rx_u iR_62 52 16 (some 64)
theorem zR_63 : zR 65 iR_63 := zR_u zR_62 (by decide) (by decide)
def iR_64 : Nat → Nat → Option Nat := rx_u iR_63 52 17 (some 65)
theorem zR_64 : zR 66 iR_64 := zR_u zR_63 (by decide) (by decide)
def iR_65 : Nat → Nat → Option Nat := rx_u iR_64 52 18 (some 66)
theorem zR_65 : zR 67 iR_65 := zR_u zR_64 (by decide) (by decide)
def iR_66 : Nat → Nat → Option Nat := rx_u iR_65 52 19 (some 67)
theorem zR_66 : zR 68 iR_66 := zR_u zR_65 (by decide) (by decide)
def iR_67 : Nat → Nat → Option Nat := rx_u iR_66 52 20 (some 68)
theorem zR_67 : zR 69 iR_67 := zR_u zR_66 (by decide) (by decide)
def iR_68 : Nat → Nat → Option Nat := rx_u iR_67 52 21 (some 69)
theorem zR_68 : zR 70 iR_68 := zR_u zR_67 (by decide) (by decide)
def iR_69 : Nat → Nat → Option Nat := rx_u iR_68 52 22 (some 70)
theorem zR_69 : zR 71 iR_69 := zR_u zR_68 (by decide) (by decide)
def iR_70 : Nat → Nat → Option Nat := rx_u iR_69 52 23 (some 71)
theorem zR_70 : zR 72 iR_70 := zR_u zR_69 (by decide) (by decide)
def iR_71 : Nat → Nat → Option Nat := rx_u iR_70 52 24 (some 72)
theorem zR_71 : zR 73 iR_71 := zR_u zR_70 (by decide) (by decide)
def iR_72 : Nat → Nat → Option Nat := rx_u iR_71 52 25 (some 73)
theorem zR_72 : zR 74 iR_72 := zR_u zR_71 (by decide) (by decide)
def iR_73 : Nat → Nat → Option Nat := rx_u iR_72 52 26 (some 74)
theorem zR_73 : zR 75 iR_73 := zR_u zR_72 (by decide) (by decide)
def iR_74 : Nat → Nat → Option Nat := rx_u iR_73 52 27 (some 75)
theorem zR_74 : zR 76 iR_74 := zR_u zR_73 (by decide) (by decide)
def iR_75 : Nat → Nat → Option Nat := rx_u iR_74 52 28 (some 76)
theorem zR_75 : zR 77 iR_75 := zR_u zR_74 (by decide) (by decide)
def iR_76 : Nat → Nat → Option Nat := rx_u iR_75 52 29 (some 77)
theorem zR_76 : zR 78 iR_76 := zR_u zR_75 (by decide) (by decide)
def iR_77 : Nat → Nat → Option Nat := rx_u iR_76 52 30 (some 78)
theorem zR_77 : zR 79 iR_77 := zR_u zR_76 (by decide) (by decide)
def iR_78 : Nat → Nat → Option Nat := rx_u iR_77 52 31 (some 79)
theorem zR_78 : zR 80 iR_78 := zR_u zR_77 (by decide) (by decide)
def iR_79 : Nat → Nat → Option Nat := rx_u iR_78 52 32 (some 80)
theorem zR_79 : zR 81 iR_79 := zR_u zR_78 (by decide) (by decide)
def iR_80 : Nat → Nat → Option Nat := rx_u iR_79 52 33 (some 81)
theorem zR_80 : zR 82 iR_80 := zR_u zR_79 (by decide) (by decide)
def iR_81 : Nat → Nat → Option Nat := rx_u iR_80 52 34 (some 82)
theorem zR_81 : zR 83 iR_81 := zR_u zR_80 (by decide) (by decide)
def iR_82 : Nat → Nat → Option Nat := rx_u iR_81 52 35 (some 83)
theorem zR_82 : zR 84 iR_82 := zR_u zR_81 (by decide) (by decide)
def iR_83 : Nat → Nat → Option Nat := rx_u iR_82 52 36 (some 84)
theorem zR_83 : zR 85 iR_83 := zR_u zR_82 (by decide) (by decide)
def iR_84 : Nat → Nat → Option Nat := rx_u iR_83 52 37 (some 85)
theorem zR_84 : zR 86 iR_84 := zR_u zR_83 (by decide) (by decide)
def iR_85 : Nat → Nat → Option Nat := rx_u iR_84 52 38 (some 86)
theorem zR_85 : zR 87 iR_85 := zR_u zR_84 (by decide) (by decide)
def iR_86 : Nat → Nat → Option Nat := rx_u iR_85 52 39 (some 87)
theorem zR_86 : zR 88 iR_86 := zR_u zR_85 (by decide) (by decide)
def iR_87 : Nat → Nat → Option Nat := rx_u iR_86 52 40 (some 88)
theorem zR_87 : zR 89 iR_87 := zR_u zR_86 (by decide) (by decide)
def iR_88 : Nat → Nat → Option Nat := rx_u iR_87 52 41 (some 89)
theorem zR_88 : zR 90 iR_88 := zR_u zR_87 (by decide) (by decide)
def iR_89 : Nat → Nat → Option Nat := rx_u iR_88 52 42 (some 90)
theorem zR_89 : zR 91 iR_89 := zR_u zR_88 (by decide) (by decide)
def iR_90 : Nat → Nat → Option Nat := rx_u iR_89 52 43 (some 91)
theorem zR_90 : zR 92 iR_90 := zR_u zR_89 (by decide) (by decide)
def iR_91 : Nat → Nat → Option Nat := rx_u iR_90 52 44 (some 92)
theorem zR_91 : zR 93 iR_91 := zR_u zR_90 (by decide) (by decide)
def iR_92 : Nat → Nat → Option Nat := rx_u iR_91 52 45 (some 93)
theorem zR_92 : zR 94 iR_92 := zR_u zR_91 (by decide) (by decide)
def iR_93 : Nat → Nat → Option Nat := rx_u iR_92 52 46 (some 94)
theorem zR_93 : zR 95 iR_93 := zR_u zR_92 (by decide) (by decide)
def iR_94 : Nat → Nat → Option Nat := rx_u iR_93 52 47 (some 95)
theorem zR_94 : zR 96 iR_94 := zR_u zR_93 (by decide) (by decide)
def iR_95 : Nat → Nat → Option Nat := rx_u iR_94 52 48 (some 96)
theorem zR_95 : zR 97 iR_95 := zR_u zR_94 (by decide) (by decide)
def iR_96 : Nat → Nat → Option Nat := rx_u iR_95 52 53 (some 97)
theorem zR_96 : zR 98 iR_96 := zR_u zR_95 (by decide) (by decide)
def iR_97 : Nat → Nat → Option Nat := rx_u iR_96 52 54 (some 98)
theorem zR_97 : zR 99 iR_97 := zR_u zR_96 (by decide) (by decide)
def iR_98 : Nat → Nat → Option Nat := rx_u iR_97 52 55 (some 99)
theorem zR_98 : zR 100 iR_98 := zR_u zR_97 (by decide) (by decide)
def iR_99 : Nat → Nat → Option Nat := rx_u iR_98 52 64 (some 100)
theorem zR_99 : zR 101 iR_99 := zR_u zR_98 (by decide) (by decide)
theorem ci_ledger {G : rx_E} {d : Nat} (hG : rx_OK G) : rx_C G MX10_init (d + 6) [.ref 0] (md 1 iI_0 iR_0) 51 13453 (fun v mu => v = none ∧ mu = (md 52 iI_11 iR_51)) := by
  refine rx_meth0 (by decide +kernel) rfl (Nat.le_of_ble_eq_true rfl) ?_
  refine rx_aload_n dX10_init_0 rfl rfl ?_
  refine rx_objI hG ⟨hw_906, hw_908, hw_909⟩ dX10_init_1 (by simp [Value.category]) ?_
  refine rx_aload_n dX10_init_4 rfl rfl ?_
  refine rx_Wm (mc := 50 + 1) (ms := 13450 + 3) ?_ (by decide) (by decide)
  refine mi_new hG hc_4 ⟨hw_802, hw_803, hw_16⟩ (by decide +kernel) dX10_init_5 (zI_le zI_0 (by decide)) (zR_le zR_0 (by decide)) rfl ?_
  refine rx_dup dX10_init_8 rfl ?_
  refine rx_Wm (mc := 2 + 48) (ms := 400 + 13050) ?_ (by decide) (by decide)
  refine rx_invI (mc := 48) (ms := 13050) (mc' := 2) (ms' := 400) (as := []) (Q' := fun v mu => v = none ∧ mu = (md 4 iI_0 iR_2)) hG okX4_init lk_RX10_9 dX10_init_9 rfl (Nat.le_of_ble_eq_true rfl) ?_ ?_
  · refine rx_meth0 (by decide +kernel) rfl (Nat.le_of_ble_eq_true rfl) ?_
    refine rx_aload_n dX4_init_0 rfl rfl ?_
    refine rx_objI hG ⟨hw_900, hw_908, hw_909⟩ dX4_init_1 (by simp [Value.category]) ?_
    refine rx_aload_n dX4_init_4 rfl rfl ?_
    refine rx_sipush (v := nI 200) dX4_init_5 rfl ?_
    refine rx_Wm (mc := 1 + 1) (ms := 200 + 200) ?_ (by decide) (by decide)
    refine mi_newa (t := 12) hG (Or.inl ⟨rfl, rfl⟩) hw_804 dX4_init_8 rfl (by decide) (zI_le zI_0 (by decide)) (zR_le zR_0 (by decide)) rfl ?_
    refine mi_putR (R' := iR_1) hG hf_RX4_9 (gw_fin rfl rfl rfl rfl hw_202) ⟨.byte, Or.inl rfl⟩ dX4_init_10 (by decide) rfl rfl ?_
    refine rx_aload_n dX4_init_13 rfl rfl ?_
    refine rx_sipush (v := nI 200) dX4_init_14 rfl ?_
    refine rx_Wm (mc := 0 + 1) (ms := 0 + 200) ?_ (by decide) (by decide)
    refine mi_newa (t := 15) hG (Or.inr (Or.inr (Or.inr ⟨rfl, rfl⟩))) hw_805 dX4_init_17 rfl (by decide) (zI_le zI_0 (by decide)) (zR_le zR_1 (by decide)) rfl ?_
    refine mi_putR (R' := iR_2) hG hf_RX4_15 (gw_fin rfl rfl rfl rfl hw_200) ⟨.boolean, Or.inl rfl⟩ dX4_init_19 (by decide) rfl rfl ?_
    exact rx_vret rfl dX4_init_22 ⟨rfl, rfl⟩
  rintro _ _ ⟨rfl, rfl⟩
  refine mi_putR (R' := iR_3) hG hf_RX10_10 (gw_fin rfl rfl rfl rfl hw_262) ⟨.int, Or.inr ⟨_, rfl⟩⟩ dX10_init_12 (by decide) rfl rfl ?_
  refine rx_aload_n dX10_init_15 rfl rfl ?_
  refine rx_Wm (mc := 47 + 1) (ms := 13037 + 13) ?_ (by decide) (by decide)
  refine mi_new hG hc_7 ⟨hw_806, hw_807, hw_49⟩ (by decide +kernel) dX10_init_16 (zI_le zI_0 (by decide)) (zR_le zR_3 (by decide)) rfl ?_
  refine rx_dup dX10_init_19 rfl ?_
  refine rx_Wm (mc := 38 + 9) (ms := 11932 + 1105) ?_ (by decide) (by decide)
  refine rx_invI (mc := 9) (ms := 1105) (mc' := 38) (ms' := 11932) (as := []) (Q' := fun v mu => v = none ∧ mu = (md 43 iI_0 iR_41)) hG okX7_init lk_RX10_18 dX10_init_20 rfl (Nat.le_of_ble_eq_true rfl) ?_ ?_
  · refine rx_meth0 (by decide +kernel) rfl (Nat.le_of_ble_eq_true rfl) ?_
    refine rx_aload_n dX7_init_0 rfl rfl ?_
    refine rx_objI hG ⟨hw_903, hw_908, hw_909⟩ dX7_init_1 (by simp [Value.category]) ?_
    refine rx_aload_n dX7_init_4 rfl rfl ?_
    refine rx_Wm (mc := 37 + 1) (ms := 11930 + 2) ?_ (by decide) (by decide)
    refine mi_new hG hc_3 ⟨hw_808, hw_809, hw_11⟩ (by decide +kernel) dX7_init_5 (zI_le zI_0 (by decide)) (zR_le zR_3 (by decide)) rfl ?_
    refine rx_dup dX7_init_8 rfl ?_
    refine rx_Wm (mc := 1 + 36) (ms := 16 + 11914) ?_ (by decide) (by decide)
    refine rx_invI (mc := 36) (ms := 11914) (mc' := 1) (ms' := 16) (as := []) (Q' := fun v mu => v = none ∧ mu = (md 7 iI_0 iR_4)) hG okX3_init lk_RX7_11 dX7_init_9 rfl (Nat.le_of_ble_eq_true rfl) ?_ ?_
    · refine rx_meth0 (by decide +kernel) rfl (Nat.le_of_ble_eq_true rfl) ?_
      refine rx_aload_n dX3_init_0 rfl rfl ?_
      refine rx_objI hG ⟨hw_899, hw_908, hw_909⟩ dX3_init_1 (by simp [Value.category]) ?_
      refine rx_aload_n dX3_init_4 rfl rfl ?_
      refine rx_bipush (v := nI 16) dX3_init_5 rfl ?_
      refine rx_Wm (mc := 0 + 1) (ms := 0 + 16) ?_ (by decide) (by decide)
      refine mi_anew (t := 17) hG (by decide) ⟨hw_810, hw_811⟩ dX3_init_7 rfl (by decide) (zI_le zI_0 (by decide)) (zR_le zR_3 (by decide)) rfl ?_
      refine mi_putR (R' := iR_4) hG hf_RX3_11 (gw_fin rfl rfl rfl rfl hw_198) ⟨(.object "LedgerMachine$Code"), Or.inl rfl⟩ dX3_init_10 (by decide) rfl rfl ?_
      exact rx_vret rfl dX3_init_13 ⟨rfl, rfl⟩
    rintro _ _ ⟨rfl, rfl⟩
    refine mi_putR (R' := iR_5) hG hf_RX7_12 (gw_fin rfl rfl rfl rfl hw_227) ⟨.int, Or.inr ⟨_, rfl⟩⟩ dX7_init_12 (by decide) rfl rfl ?_
    refine rx_aload_n dX7_init_15 rfl rfl ?_
    refine rx_Wm (mc := 35 + 1) (ms := 11913 + 1) ?_ (by decide) (by decide)
    refine mi_new hG hc_9 ⟨hw_812, hw_813, hw_78⟩ (by decide +kernel) dX7_init_16 (zI_le zI_0 (by decide)) (zR_le zR_5 (by decide)) rfl ?_
    refine rx_dup dX7_init_19 rfl ?_
    refine rx_Wm (mc := 1 + 34) (ms := 1024 + 10889) ?_ (by decide) (by decide)
    refine rx_invI (mc := 34) (ms := 10889) (mc' := 1) (ms' := 1024) (as := []) (Q' := fun v mu => v = none ∧ mu = (md 9 iI_0 iR_6)) hG okX9_init lk_RX7_20 dX7_init_20 rfl (Nat.le_of_ble_eq_true rfl) ?_ ?_
    · refine rx_meth0 (by decide +kernel) rfl (Nat.le_of_ble_eq_true rfl) ?_
      refine rx_aload_n dX9_init_0 rfl rfl ?_
      refine rx_objI hG ⟨hw_905, hw_908, hw_909⟩ dX9_init_1 (by simp [Value.category]) ?_
      refine rx_aload_n dX9_init_4 rfl rfl ?_
      refine rx_sipush (v := nI 1024) dX9_init_5 rfl ?_
      refine rx_Wm (mc := 0 + 1) (ms := 0 + 1024) ?_ (by decide) (by decide)
      refine mi_newa (t := 14) hG (Or.inr (Or.inr (Or.inl ⟨rfl, rfl⟩))) hw_814 dX9_init_8 rfl (by decide) (zI_le zI_0 (by decide)) (zR_le zR_5 (by decide)) rfl ?_
      refine mi_putR (R' := iR_6) hG hf_RX9_9 (gw_fin rfl rfl rfl rfl hw_261) ⟨.long, Or.inl rfl⟩ dX9_init_10 (by decide) rfl rfl ?_
      exact rx_vret rfl dX9_init_13 ⟨rfl, rfl⟩
    rintro _ _ ⟨rfl, rfl⟩
    refine mi_putR (R' := iR_7) hG hf_RX7_21 (gw_fin rfl rfl rfl rfl hw_241) ⟨.int, Or.inr ⟨_, rfl⟩⟩ dX7_init_23 (by decide) rfl rfl ?_
    refine rx_aload_n dX7_init_26 rfl rfl ?_
    refine rx_Wm (mc := 33 + 1) (ms := 10886 + 3) ?_ (by decide) (by decide)
    refine mi_new hG hc_5 ⟨hw_815, hw_816, hw_26⟩ (by decide +kernel) dX7_init_27 (zI_le zI_0 (by decide)) (zR_le zR_7 (by decide)) rfl ?_
    refine rx_dup dX7_init_30 rfl ?_
    refine rx_Wm (mc := 1 + 32) (ms := 240 + 10646) ?_ (by decide) (by decide)
    refine rx_invI (mc := 32) (ms := 10646) (mc' := 1) (ms' := 240) (as := []) (Q' := fun v mu => v = none ∧ mu = (md 11 iI_0 iR_8)) hG okX5_init lk_RX7_27 dX7_init_31 rfl (Nat.le_of_ble_eq_true rfl) ?_ ?_
    · refine rx_meth0 (by decide +kernel) rfl (Nat.le_of_ble_eq_true rfl) ?_
      refine rx_aload_n dX5_init_0 rfl rfl ?_
      refine rx_objI hG ⟨hw_901, hw_908, hw_909⟩ dX5_init_1 (by simp [Value.category]) ?_
      refine rx_aload_n dX5_init_4 rfl rfl ?_
      refine rx_sipush (v := nI 240) dX5_init_5 rfl ?_
      refine rx_Wm (mc := 0 + 1) (ms := 0 + 240) ?_ (by decide) (by decide)
      refine mi_newa (t := 14) hG (Or.inr (Or.inr (Or.inl ⟨rfl, rfl⟩))) hw_814 dX5_init_8 rfl (by decide) (zI_le zI_0 (by decide)) (zR_le zR_7 (by decide)) rfl ?_
      refine mi_putR (R' := iR_8) hG hf_RX5_9 (gw_fin rfl rfl rfl rfl hw_205) ⟨.long, Or.inl rfl⟩ dX5_init_10 (by decide) rfl rfl ?_
      exact rx_vret rfl dX5_init_13 ⟨rfl, rfl⟩
    rintro _ _ ⟨rfl, rfl⟩
    refine mi_putR (R' := iR_9) hG hf_RX7_28 (gw_fin rfl rfl rfl rfl hw_245) ⟨.int, Or.inr ⟨_, rfl⟩⟩ dX7_init_34 (by decide) rfl rfl ?_
    refine rx_aload_n dX7_init_37 rfl rfl ?_
    refine rx_Wm (mc := 31 + 1) (ms := 10640 + 6) ?_ (by decide) (by decide)
    refine mi_new hG hc_1 ⟨hw_817, hw_818, hw_3⟩ (by decide +kernel) dX7_init_38 (zI_le zI_0 (by decide)) (zR_le zR_9 (by decide)) rfl ?_
    refine rx_dup dX7_init_41 rfl ?_
    refine rx_Wm (mc := 0 + 31) (ms := 0 + 10640) ?_ (by decide) (by decide)
    refine rx_invI (mc := 31) (ms := 10640) (mc' := 0) (ms' := 0) (as := []) (Q' := fun v mu => v = none ∧ mu = (md 12 iI_0 iR_9)) hG okX1_init lk_RX7_34 dX7_init_42 rfl (Nat.le_of_ble_eq_true rfl) ?_ ?_
    · refine rx_meth0 (by decide +kernel) rfl (Nat.le_of_ble_eq_true rfl) ?_
      refine rx_aload_n dX1_init_0 rfl rfl ?_
      refine rx_objI hG ⟨hw_897, hw_908, hw_909⟩ dX1_init_1 (by simp [Value.category]) ?_
      exact rx_vret rfl dX1_init_4 ⟨rfl, rfl⟩
    rintro _ _ ⟨rfl, rfl⟩
    refine mi_putR (R' := iR_10) hG hf_RX7_35 (gw_fin rfl rfl rfl rfl hw_246) ⟨.int, Or.inr ⟨_, rfl⟩⟩ dX7_init_45 (by decide) rfl rfl ?_
    refine rx_aload_n dX7_init_48 rfl rfl ?_
    refine rx_bipush (v := nI 10) dX7_init_49 rfl ?_
    refine rx_Wm (mc := 30 + 1) (ms := 10630 + 10) ?_ (by decide) (by decide)
    refine mi_anew (t := 18) hG (by decide) ⟨hw_819, hw_820⟩ dX7_init_51 rfl (by decide) (zI_le zI_0 (by decide)) (zR_le zR_10 (by decide)) rfl ?_
    refine mi_putR (R' := iR_11) hG hf_RX7_41 (gw_fin rfl rfl rfl rfl hw_247) ⟨(.object "LedgerMachine$Frame"), Or.inl rfl⟩ dX7_init_54 (by decide) rfl rfl ?_
    refine rx_iconst (v := nI 0) dX7_init_57 rfl ?_
    refine rx_istore_n dX7_init_58 (by decide) ?_
    refine rx_iload_n dX7_init_59 rfl ?_
    refine rx_bipush (v := nI 10) dX7_init_60 rfl ?_
    refine rx_icmp_ge (tgt := 84) dX7_init_62 (by decide) (fun q => absurd q (by decide)) (fun _ => ?_)
    refine rx_aload_n dX7_init_65 rfl rfl ?_
    refine mi_getR (r := 12) hG hf_RX7_41 rfl dX7_init_66 (by decide) rfl (by decide +kernel) ?_
    refine rx_iload_n dX7_init_69 rfl ?_
    refine rx_Wm (mc := 29 + 1) (ms := 10615 + 15) ?_ (by decide) (by decide)
    refine mi_new hG hc_6 ⟨hw_819, hw_821, hw_33⟩ (by decide +kernel) dX7_init_70 (zI_le zI_0 (by decide)) (zR_le zR_11 (by decide)) rfl ?_
    refine rx_dup dX7_init_73 rfl ?_
    refine rx_Wm (mc := 2 + 27) (ms := 1048 + 9567) ?_ (by decide) (by decide)
    refine rx_invI (mc := 27) (ms := 9567) (mc' := 2) (ms' := 1048) (as := []) (Q' := fun v mu => v = none ∧ mu = (md 16 iI_0 iR_13)) hG okX6_init lk_RX7_45 dX7_init_74 rfl (Nat.le_of_ble_eq_true rfl) ?_ ?_
    · refine rx_meth0 (by decide +kernel) rfl (Nat.le_of_ble_eq_true rfl) ?_
      refine rx_aload_n dX6_init_0 rfl rfl ?_
      refine rx_objI hG ⟨hw_902, hw_908, hw_909⟩ dX6_init_1 (by simp [Value.category]) ?_
      refine rx_aload_n dX6_init_4 rfl rfl ?_
      refine rx_bipush (v := nI 24) dX6_init_5 rfl ?_
      refine rx_Wm (mc := 1 + 1) (ms := 1024 + 24) ?_ (by decide) (by decide)
      refine mi_newa (t := 14) hG (Or.inr (Or.inr (Or.inl ⟨rfl, rfl⟩))) hw_814 dX6_init_7 rfl (by decide) (zI_le zI_0 (by decide)) (zR_le zR_11 (by decide)) rfl ?_
      refine mi_putR (R' := iR_12) hG hf_RX6_9 (gw_fin rfl rfl rfl rfl hw_224) ⟨.long, Or.inl rfl⟩ dX6_init_9 (by decide) rfl rfl ?_
      refine rx_aload_n dX6_init_12 rfl rfl ?_
      refine rx_sipush (v := nI 1024) dX6_init_13 rfl ?_
      refine rx_Wm (mc := 0 + 1) (ms := 0 + 1024) ?_ (by decide) (by decide)
      refine mi_newa (t := 14) hG (Or.inr (Or.inr (Or.inl ⟨rfl, rfl⟩))) hw_814 dX6_init_16 rfl (by decide) (zI_le zI_0 (by decide)) (zR_le zR_12 (by decide)) rfl ?_
      refine mi_putR (R' := iR_13) hG hf_RX6_15 (gw_fin rfl rfl rfl rfl hw_206) ⟨.long, Or.inl rfl⟩ dX6_init_18 (by decide) rfl rfl ?_
      exact rx_vret rfl dX6_init_21 ⟨rfl, rfl⟩
    rintro _ _ ⟨rfl, rfl⟩
    refine mi_aast (j := 0) (R' := iR_14) hG dX7_init_77 (by decide) rfl (by decide) rfl (by decide) (by decide) (by decide) rfl rfl ?_
    refine rx_iinc (v := nI 1) dX7_init_78 rfl (nI_add _ 1) ?_
    refine rx_goto (tgt := 59) dX7_init_81 (by decide) ?_
    refine rx_iload_n dX7_init_59 rfl ?_
    refine rx_bipush (v := nI 10) dX7_init_60 rfl ?_
    refine rx_icmp_ge (tgt := 84) dX7_init_62 (by decide) (fun q => absurd q (by decide)) (fun _ => ?_)
    refine rx_aload_n dX7_init_65 rfl rfl ?_
    refine mi_getR (r := 12) hG hf_RX7_41 rfl dX7_init_66 (by decide) rfl (by decide +kernel) ?_
    refine rx_iload_n dX7_init_69 rfl ?_
    refine rx_Wm (mc := 26 + 1) (ms := 9552 + 15) ?_ (by decide) (by decide)
    refine mi_new hG hc_6 ⟨hw_819, hw_821, hw_33⟩ (by decide +kernel) dX7_init_70 (zI_le zI_0 (by decide)) (zR_le zR_14 (by decide)) rfl ?_
    refine rx_dup dX7_init_73 rfl ?_
    refine rx_Wm (mc := 2 + 24) (ms := 1048 + 8504) ?_ (by decide) (by decide)
    refine rx_invI (mc := 24) (ms := 8504) (mc' := 2) (ms' := 1048) (as := []) (Q' := fun v mu => v = none ∧ mu = (md 19 iI_0 iR_16)) hG okX6_init lk_RX7_45 dX7_init_74 rfl (Nat.le_of_ble_eq_true rfl) ?_ ?_
    · refine rx_meth0 (by decide +kernel) rfl (Nat.le_of_ble_eq_true rfl) ?_
      refine rx_aload_n dX6_init_0 rfl rfl ?_
      refine rx_objI hG ⟨hw_902, hw_908, hw_909⟩ dX6_init_1 (by simp [Value.category]) ?_
      refine rx_aload_n dX6_init_4 rfl rfl ?_
      refine rx_bipush (v := nI 24) dX6_init_5 rfl ?_
      refine rx_Wm (mc := 1 + 1) (ms := 1024 + 24) ?_ (by decide) (by decide)
      refine mi_newa (t := 14) hG (Or.inr (Or.inr (Or.inl ⟨rfl, rfl⟩))) hw_814 dX6_init_7 rfl (by decide) (zI_le zI_0 (by decide)) (zR_le zR_14 (by decide)) rfl ?_
      refine mi_putR (R' := iR_15) hG hf_RX6_9 (gw_fin rfl rfl rfl rfl hw_224) ⟨.long, Or.inl rfl⟩ dX6_init_9 (by decide) rfl rfl ?_
      refine rx_aload_n dX6_init_12 rfl rfl ?_
      refine rx_sipush (v := nI 1024) dX6_init_13 rfl ?_
      refine rx_Wm (mc := 0 + 1) (ms := 0 + 1024) ?_ (by decide) (by decide)
      refine mi_newa (t := 14) hG (Or.inr (Or.inr (Or.inl ⟨rfl, rfl⟩))) hw_814 dX6_init_16 rfl (by decide) (zI_le zI_0 (by decide)) (zR_le zR_15 (by decide)) rfl ?_
      refine mi_putR (R' := iR_16) hG hf_RX6_15 (gw_fin rfl rfl rfl rfl hw_206) ⟨.long, Or.inl rfl⟩ dX6_init_18 (by decide) rfl rfl ?_
      exact rx_vret rfl dX6_init_21 ⟨rfl, rfl⟩
    rintro _ _ ⟨rfl, rfl⟩
    refine mi_aast (j := 1) (R' := iR_17) hG dX7_init_77 (by decide) rfl (by decide) rfl (by decide) (by decide) (by decide) rfl rfl ?_
    refine rx_iinc (v := nI 2) dX7_init_78 rfl (nI_add _ 1) ?_
    refine rx_goto (tgt := 59) dX7_init_81 (by decide) ?_
    refine rx_iload_n dX7_init_59 rfl ?_
    refine rx_bipush (v := nI 10) dX7_init_60 rfl ?_
    refine rx_icmp_ge (tgt := 84) dX7_init_62 (by decide) (fun q => absurd q (by decide)) (fun _ => ?_)
    refine rx_aload_n dX7_init_65 rfl rfl ?_
    refine mi_getR (r := 12) hG hf_RX7_41 rfl dX7_init_66 (by decide) rfl (by decide +kernel) ?_
    refine rx_iload_n dX7_init_69 rfl ?_
    refine rx_Wm (mc := 23 + 1) (ms := 8489 + 15) ?_ (by decide) (by decide)
    refine mi_new hG hc_6 ⟨hw_819, hw_821, hw_33⟩ (by decide +kernel) dX7_init_70 (zI_le zI_0 (by decide)) (zR_le zR_17 (by decide)) rfl ?_
    refine rx_dup dX7_init_73 rfl ?_
    refine rx_Wm (mc := 2 + 21) (ms := 1048 + 7441) ?_ (by decide) (by decide)
    refine rx_invI (mc := 21) (ms := 7441) (mc' := 2) (ms' := 1048) (as := []) (Q' := fun v mu => v = none ∧ mu = (md 22 iI_0 iR_19)) hG okX6_init lk_RX7_45 dX7_init_74 rfl (Nat.le_of_ble_eq_true rfl) ?_ ?_
    · refine rx_meth0 (by decide +kernel) rfl (Nat.le_of_ble_eq_true rfl) ?_
      refine rx_aload_n dX6_init_0 rfl rfl ?_
      refine rx_objI hG ⟨hw_902, hw_908, hw_909⟩ dX6_init_1 (by simp [Value.category]) ?_
      refine rx_aload_n dX6_init_4 rfl rfl ?_
      refine rx_bipush (v := nI 24) dX6_init_5 rfl ?_
      refine rx_Wm (mc := 1 + 1) (ms := 1024 + 24) ?_ (by decide) (by decide)
      refine mi_newa (t := 14) hG (Or.inr (Or.inr (Or.inl ⟨rfl, rfl⟩))) hw_814 dX6_init_7 rfl (by decide) (zI_le zI_0 (by decide)) (zR_le zR_17 (by decide)) rfl ?_
      refine mi_putR (R' := iR_18) hG hf_RX6_9 (gw_fin rfl rfl rfl rfl hw_224) ⟨.long, Or.inl rfl⟩ dX6_init_9 (by decide) rfl rfl ?_
      refine rx_aload_n dX6_init_12 rfl rfl ?_
      refine rx_sipush (v := nI 1024) dX6_init_13 rfl ?_
      refine rx_Wm (mc := 0 + 1) (ms := 0 + 1024) ?_ (by decide) (by decide)
      refine mi_newa (t := 14) hG (Or.inr (Or.inr (Or.inl ⟨rfl, rfl⟩))) hw_814 dX6_init_16 rfl (by decide) (zI_le zI_0 (by decide)) (zR_le zR_18 (by decide)) rfl ?_
      refine mi_putR (R' := iR_19) hG hf_RX6_15 (gw_fin rfl rfl rfl rfl hw_206) ⟨.long, Or.inl rfl⟩ dX6_init_18 (by decide) rfl rfl ?_
      exact rx_vret rfl dX6_init_21 ⟨rfl, rfl⟩
    rintro _ _ ⟨rfl, rfl⟩
    refine mi_aast (j := 2) (R' := iR_20) hG dX7_init_77 (by decide) rfl (by decide) rfl (by decide) (by decide) (by decide) rfl rfl ?_
    refine rx_iinc (v := nI 3) dX7_init_78 rfl (nI_add _ 1) ?_
    refine rx_goto (tgt := 59) dX7_init_81 (by decide) ?_
    refine rx_iload_n dX7_init_59 rfl ?_
    refine rx_bipush (v := nI 10) dX7_init_60 rfl ?_
    refine rx_icmp_ge (tgt := 84) dX7_init_62 (by decide) (fun q => absurd q (by decide)) (fun _ => ?_)
    refine rx_aload_n dX7_init_65 rfl rfl ?_
    refine mi_getR (r := 12) hG hf_RX7_41 rfl dX7_init_66 (by decide) rfl (by decide +kernel) ?_
    refine rx_iload_n dX7_init_69 rfl ?_
    refine rx_Wm (mc := 20 + 1) (ms := 7426 + 15) ?_ (by decide) (by decide)
    refine mi_new hG hc_6 ⟨hw_819, hw_821, hw_33⟩ (by decide +kernel) dX7_init_70 (zI_le zI_0 (by decide)) (zR_le zR_20 (by decide)) rfl ?_
    refine rx_dup dX7_init_73 rfl ?_
    refine rx_Wm (mc := 2 + 18) (ms := 1048 + 6378) ?_ (by decide) (by decide)
    refine rx_invI (mc := 18) (ms := 6378) (mc' := 2) (ms' := 1048) (as := []) (Q' := fun v mu => v = none ∧ mu = (md 25 iI_0 iR_22)) hG okX6_init lk_RX7_45 dX7_init_74 rfl (Nat.le_of_ble_eq_true rfl) ?_ ?_
    · refine rx_meth0 (by decide +kernel) rfl (Nat.le_of_ble_eq_true rfl) ?_
      refine rx_aload_n dX6_init_0 rfl rfl ?_
      refine rx_objI hG ⟨hw_902, hw_908, hw_909⟩ dX6_init_1 (by simp [Value.category]) ?_
      refine rx_aload_n dX6_init_4 rfl rfl ?_
      refine rx_bipush (v := nI 24) dX6_init_5 rfl ?_
      refine rx_Wm (mc := 1 + 1) (ms := 1024 + 24) ?_ (by decide) (by decide)
      refine mi_newa (t := 14) hG (Or.inr (Or.inr (Or.inl ⟨rfl, rfl⟩))) hw_814 dX6_init_7 rfl (by decide) (zI_le zI_0 (by decide)) (zR_le zR_20 (by decide)) rfl ?_
      refine mi_putR (R' := iR_21) hG hf_RX6_9 (gw_fin rfl rfl rfl rfl hw_224) ⟨.long, Or.inl rfl⟩ dX6_init_9 (by decide) rfl rfl ?_
      refine rx_aload_n dX6_init_12 rfl rfl ?_
      refine rx_sipush (v := nI 1024) dX6_init_13 rfl ?_
      refine rx_Wm (mc := 0 + 1) (ms := 0 + 1024) ?_ (by decide) (by decide)
      refine mi_newa (t := 14) hG (Or.inr (Or.inr (Or.inl ⟨rfl, rfl⟩))) hw_814 dX6_init_16 rfl (by decide) (zI_le zI_0 (by decide)) (zR_le zR_21 (by decide)) rfl ?_
      refine mi_putR (R' := iR_22) hG hf_RX6_15 (gw_fin rfl rfl rfl rfl hw_206) ⟨.long, Or.inl rfl⟩ dX6_init_18 (by decide) rfl rfl ?_
      exact rx_vret rfl dX6_init_21 ⟨rfl, rfl⟩
    rintro _ _ ⟨rfl, rfl⟩
    refine mi_aast (j := 3) (R' := iR_23) hG dX7_init_77 (by decide) rfl (by decide) rfl (by decide) (by decide) (by decide) rfl rfl ?_
    refine rx_iinc (v := nI 4) dX7_init_78 rfl (nI_add _ 1) ?_
    refine rx_goto (tgt := 59) dX7_init_81 (by decide) ?_
    refine rx_iload_n dX7_init_59 rfl ?_
    refine rx_bipush (v := nI 10) dX7_init_60 rfl ?_
    refine rx_icmp_ge (tgt := 84) dX7_init_62 (by decide) (fun q => absurd q (by decide)) (fun _ => ?_)
    refine rx_aload_n dX7_init_65 rfl rfl ?_
    refine mi_getR (r := 12) hG hf_RX7_41 rfl dX7_init_66 (by decide) rfl (by decide +kernel) ?_
    refine rx_iload_n dX7_init_69 rfl ?_
    refine rx_Wm (mc := 17 + 1) (ms := 6363 + 15) ?_ (by decide) (by decide)
    refine mi_new hG hc_6 ⟨hw_819, hw_821, hw_33⟩ (by decide +kernel) dX7_init_70 (zI_le zI_0 (by decide)) (zR_le zR_23 (by decide)) rfl ?_
    refine rx_dup dX7_init_73 rfl ?_
    refine rx_Wm (mc := 2 + 15) (ms := 1048 + 5315) ?_ (by decide) (by decide)
    refine rx_invI (mc := 15) (ms := 5315) (mc' := 2) (ms' := 1048) (as := []) (Q' := fun v mu => v = none ∧ mu = (md 28 iI_0 iR_25)) hG okX6_init lk_RX7_45 dX7_init_74 rfl (Nat.le_of_ble_eq_true rfl) ?_ ?_
    · refine rx_meth0 (by decide +kernel) rfl (Nat.le_of_ble_eq_true rfl) ?_
      refine rx_aload_n dX6_init_0 rfl rfl ?_
      refine rx_objI hG ⟨hw_902, hw_908, hw_909⟩ dX6_init_1 (by simp [Value.category]) ?_
      refine rx_aload_n dX6_init_4 rfl rfl ?_
      refine rx_bipush (v := nI 24) dX6_init_5 rfl ?_
      refine rx_Wm (mc := 1 + 1) (ms := 1024 + 24) ?_ (by decide) (by decide)
      refine mi_newa (t := 14) hG (Or.inr (Or.inr (Or.inl ⟨rfl, rfl⟩))) hw_814 dX6_init_7 rfl (by decide) (zI_le zI_0 (by decide)) (zR_le zR_23 (by decide)) rfl ?_
      refine mi_putR (R' := iR_24) hG hf_RX6_9 (gw_fin rfl rfl rfl rfl hw_224) ⟨.long, Or.inl rfl⟩ dX6_init_9 (by decide) rfl rfl ?_
      refine rx_aload_n dX6_init_12 rfl rfl ?_
      refine rx_sipush (v := nI 1024) dX6_init_13 rfl ?_
      refine rx_Wm (mc := 0 + 1) (ms := 0 + 1024) ?_ (by decide) (by decide)
      refine mi_newa (t := 14) hG (Or.inr (Or.inr (Or.inl ⟨rfl, rfl⟩))) hw_814 dX6_init_16 rfl (by decide) (zI_le zI_0 (by decide)) (zR_le zR_24 (by decide)) rfl ?_
      refine mi_putR (R' := iR_25) hG hf_RX6_15 (gw_fin rfl rfl rfl rfl hw_206) ⟨.long, Or.inl rfl⟩ dX6_init_18 (by decide) rfl rfl ?_
      exact rx_vret rfl dX6_init_21 ⟨rfl, rfl⟩
    rintro _ _ ⟨rfl, rfl⟩
    refine mi_aast (j := 4) (R' := iR_26) hG dX7_init_77 (by decide) rfl (by decide) rfl (by decide) (by decide) (by decide) rfl rfl ?_
    refine rx_iinc (v := nI 5) dX7_init_78 rfl (nI_add _ 1) ?_
    refine rx_goto (tgt := 59) dX7_init_81 (by decide) ?_
    refine rx_iload_n dX7_init_59 rfl ?_
    refine rx_bipush (v := nI 10) dX7_init_60 rfl ?_
    refine rx_icmp_ge (tgt := 84) dX7_init_62 (by decide) (fun q => absurd q (by decide)) (fun _ => ?_)
    refine rx_aload_n dX7_init_65 rfl rfl ?_
    refine mi_getR (r := 12) hG hf_RX7_41 rfl dX7_init_66 (by decide) rfl (by decide +kernel) ?_
    refine rx_iload_n dX7_init_69 rfl ?_
    refine rx_Wm (mc := 14 + 1) (ms := 5300 + 15) ?_ (by decide) (by decide)
    refine mi_new hG hc_6 ⟨hw_819, hw_821, hw_33⟩ (by decide +kernel) dX7_init_70 (zI_le zI_0 (by decide)) (zR_le zR_26 (by decide)) rfl ?_
    refine rx_dup dX7_init_73 rfl ?_
    refine rx_Wm (mc := 2 + 12) (ms := 1048 + 4252) ?_ (by decide) (by decide)
    refine rx_invI (mc := 12) (ms := 4252) (mc' := 2) (ms' := 1048) (as := []) (Q' := fun v mu => v = none ∧ mu = (md 31 iI_0 iR_28)) hG okX6_init lk_RX7_45 dX7_init_74 rfl (Nat.le_of_ble_eq_true rfl) ?_ ?_
    · refine rx_meth0 (by decide +kernel) rfl (Nat.le_of_ble_eq_true rfl) ?_
      refine rx_aload_n dX6_init_0 rfl rfl ?_
      refine rx_objI hG ⟨hw_902, hw_908, hw_909⟩ dX6_init_1 (by simp [Value.category]) ?_
      refine rx_aload_n dX6_init_4 rfl rfl ?_
      refine rx_bipush (v := nI 24) dX6_init_5 rfl ?_
      refine rx_Wm (mc := 1 + 1) (ms := 1024 + 24) ?_ (by decide) (by decide)
      refine mi_newa (t := 14) hG (Or.inr (Or.inr (Or.inl ⟨rfl, rfl⟩))) hw_814 dX6_init_7 rfl (by decide) (zI_le zI_0 (by decide)) (zR_le zR_26 (by decide)) rfl ?_
      refine mi_putR (R' := iR_27) hG hf_RX6_9 (gw_fin rfl rfl rfl rfl hw_224) ⟨.long, Or.inl rfl⟩ dX6_init_9 (by decide) rfl rfl ?_
      refine rx_aload_n dX6_init_12 rfl rfl ?_
      refine rx_sipush (v := nI 1024) dX6_init_13 rfl ?_
      refine rx_Wm (mc := 0 + 1) (ms := 0 + 1024) ?_ (by decide) (by decide)
      refine mi_newa (t := 14) hG (Or.inr (Or.inr (Or.inl ⟨rfl, rfl⟩))) hw_814 dX6_init_16 rfl (by decide) (zI_le zI_0 (by decide)) (zR_le zR_27 (by decide)) rfl ?_
      refine mi_putR (R' := iR_28) hG hf_RX6_15 (gw_fin rfl rfl rfl rfl hw_206) ⟨.long, Or.inl rfl⟩ dX6_init_18 (by decide) rfl rfl ?_
      exact rx_vret rfl dX6_init_21 ⟨rfl, rfl⟩
    rintro _ _ ⟨rfl, rfl⟩
    refine mi_aast (j := 5) (R' := iR_29) hG dX7_init_77 (by decide) rfl (by decide) rfl (by decide) (by decide) (by decide) rfl rfl ?_
    refine rx_iinc (v := nI 6) dX7_init_78 rfl (nI_add _ 1) ?_
    refine rx_goto (tgt := 59) dX7_init_81 (by decide) ?_
    refine rx_iload_n dX7_init_59 rfl ?_
    refine rx_bipush (v := nI 10) dX7_init_60 rfl ?_
    refine rx_icmp_ge (tgt := 84) dX7_init_62 (by decide) (fun q => absurd q (by decide)) (fun _ => ?_)
    refine rx_aload_n dX7_init_65 rfl rfl ?_
    refine mi_getR (r := 12) hG hf_RX7_41 rfl dX7_init_66 (by decide) rfl (by decide +kernel) ?_
    refine rx_iload_n dX7_init_69 rfl ?_
    refine rx_Wm (mc := 11 + 1) (ms := 4237 + 15) ?_ (by decide) (by decide)
    refine mi_new hG hc_6 ⟨hw_819, hw_821, hw_33⟩ (by decide +kernel) dX7_init_70 (zI_le zI_0 (by decide)) (zR_le zR_29 (by decide)) rfl ?_
    refine rx_dup dX7_init_73 rfl ?_
    refine rx_Wm (mc := 2 + 9) (ms := 1048 + 3189) ?_ (by decide) (by decide)
    refine rx_invI (mc := 9) (ms := 3189) (mc' := 2) (ms' := 1048) (as := []) (Q' := fun v mu => v = none ∧ mu = (md 34 iI_0 iR_31)) hG okX6_init lk_RX7_45 dX7_init_74 rfl (Nat.le_of_ble_eq_true rfl) ?_ ?_
    · refine rx_meth0 (by decide +kernel) rfl (Nat.le_of_ble_eq_true rfl) ?_
      refine rx_aload_n dX6_init_0 rfl rfl ?_
      refine rx_objI hG ⟨hw_902, hw_908, hw_909⟩ dX6_init_1 (by simp [Value.category]) ?_
      refine rx_aload_n dX6_init_4 rfl rfl ?_
      refine rx_bipush (v := nI 24) dX6_init_5 rfl ?_
      refine rx_Wm (mc := 1 + 1) (ms := 1024 + 24) ?_ (by decide) (by decide)
      refine mi_newa (t := 14) hG (Or.inr (Or.inr (Or.inl ⟨rfl, rfl⟩))) hw_814 dX6_init_7 rfl (by decide) (zI_le zI_0 (by decide)) (zR_le zR_29 (by decide)) rfl ?_
      refine mi_putR (R' := iR_30) hG hf_RX6_9 (gw_fin rfl rfl rfl rfl hw_224) ⟨.long, Or.inl rfl⟩ dX6_init_9 (by decide) rfl rfl ?_
      refine rx_aload_n dX6_init_12 rfl rfl ?_
      refine rx_sipush (v := nI 1024) dX6_init_13 rfl ?_
      refine rx_Wm (mc := 0 + 1) (ms := 0 + 1024) ?_ (by decide) (by decide)
      refine mi_newa (t := 14) hG (Or.inr (Or.inr (Or.inl ⟨rfl, rfl⟩))) hw_814 dX6_init_16 rfl (by decide) (zI_le zI_0 (by decide)) (zR_le zR_30 (by decide)) rfl ?_
      refine mi_putR (R' := iR_31) hG hf_RX6_15 (gw_fin rfl rfl rfl rfl hw_206) ⟨.long, Or.inl rfl⟩ dX6_init_18 (by decide) rfl rfl ?_
      exact rx_vret rfl dX6_init_21 ⟨rfl, rfl⟩
    rintro _ _ ⟨rfl, rfl⟩
    refine mi_aast (j := 6) (R' := iR_32) hG dX7_init_77 (by decide) rfl (by decide) rfl (by decide) (by decide) (by decide) rfl rfl ?_
    refine rx_iinc (v := nI 7) dX7_init_78 rfl (nI_add _ 1) ?_
    refine rx_goto (tgt := 59) dX7_init_81 (by decide) ?_
    refine rx_iload_n dX7_init_59 rfl ?_
    refine rx_bipush (v := nI 10) dX7_init_60 rfl ?_
    refine rx_icmp_ge (tgt := 84) dX7_init_62 (by decide) (fun q => absurd q (by decide)) (fun _ => ?_)
    refine rx_aload_n dX7_init_65 rfl rfl ?_
    refine mi_getR (r := 12) hG hf_RX7_41 rfl dX7_init_66 (by decide) rfl (by decide +kernel) ?_
    refine rx_iload_n dX7_init_69 rfl ?_
    refine rx_Wm (mc := 8 + 1) (ms := 3174 + 15) ?_ (by decide) (by decide)
    refine mi_new hG hc_6 ⟨hw_819, hw_821, hw_33⟩ (by decide +kernel) dX7_init_70 (zI_le zI_0 (by decide)) (zR_le zR_32 (by decide)) rfl ?_
    refine rx_dup dX7_init_73 rfl ?_
    refine rx_Wm (mc := 2 + 6) (ms := 1048 + 2126) ?_ (by decide) (by decide)
    refine rx_invI (mc := 6) (ms := 2126) (mc' := 2) (ms' := 1048) (as := []) (Q' := fun v mu => v = none ∧ mu = (md 37 iI_0 iR_34)) hG okX6_init lk_RX7_45 dX7_init_74 rfl (Nat.le_of_ble_eq_true rfl) ?_ ?_
    · refine rx_meth0 (by decide +kernel) rfl (Nat.le_of_ble_eq_true rfl) ?_
      refine rx_aload_n dX6_init_0 rfl rfl ?_
      refine rx_objI hG ⟨hw_902, hw_908, hw_909⟩ dX6_init_1 (by simp [Value.category]) ?_
      refine rx_aload_n dX6_init_4 rfl rfl ?_
      refine rx_bipush (v := nI 24) dX6_init_5 rfl ?_
      refine rx_Wm (mc := 1 + 1) (ms := 1024 + 24) ?_ (by decide) (by decide)
      refine mi_newa (t := 14) hG (Or.inr (Or.inr (Or.inl ⟨rfl, rfl⟩))) hw_814 dX6_init_7 rfl (by decide) (zI_le zI_0 (by decide)) (zR_le zR_32 (by decide)) rfl ?_
      refine mi_putR (R' := iR_33) hG hf_RX6_9 (gw_fin rfl rfl rfl rfl hw_224) ⟨.long, Or.inl rfl⟩ dX6_init_9 (by decide) rfl rfl ?_
      refine rx_aload_n dX6_init_12 rfl rfl ?_
      refine rx_sipush (v := nI 1024) dX6_init_13 rfl ?_
      refine rx_Wm (mc := 0 + 1) (ms := 0 + 1024) ?_ (by decide) (by decide)
      refine mi_newa (t := 14) hG (Or.inr (Or.inr (Or.inl ⟨rfl, rfl⟩))) hw_814 dX6_init_16 rfl (by decide) (zI_le zI_0 (by decide)) (zR_le zR_33 (by decide)) rfl ?_
      refine mi_putR (R' := iR_34) hG hf_RX6_15 (gw_fin rfl rfl rfl rfl hw_206) ⟨.long, Or.inl rfl⟩ dX6_init_18 (by decide) rfl rfl ?_
      exact rx_vret rfl dX6_init_21 ⟨rfl, rfl⟩
    rintro _ _ ⟨rfl, rfl⟩
    refine mi_aast (j := 7) (R' := iR_35) hG dX7_init_77 (by decide) rfl (by decide) rfl (by decide) (by decide) (by decide) rfl rfl ?_
    refine rx_iinc (v := nI 8) dX7_init_78 rfl (nI_add _ 1) ?_
    refine rx_goto (tgt := 59) dX7_init_81 (by decide) ?_
    refine rx_iload_n dX7_init_59 rfl ?_
    refine rx_bipush (v := nI 10) dX7_init_60 rfl ?_
    refine rx_icmp_ge (tgt := 84) dX7_init_62 (by decide) (fun q => absurd q (by decide)) (fun _ => ?_)
    refine rx_aload_n dX7_init_65 rfl rfl ?_
    refine mi_getR (r := 12) hG hf_RX7_41 rfl dX7_init_66 (by decide) rfl (by decide +kernel) ?_
    refine rx_iload_n dX7_init_69 rfl ?_
    refine rx_Wm (mc := 5 + 1) (ms := 2111 + 15) ?_ (by decide) (by decide)
    refine mi_new hG hc_6 ⟨hw_819, hw_821, hw_33⟩ (by decide +kernel) dX7_init_70 (zI_le zI_0 (by decide)) (zR_le zR_35 (by decide)) rfl ?_
    refine rx_dup dX7_init_73 rfl ?_
    refine rx_Wm (mc := 2 + 3) (ms := 1048 + 1063) ?_ (by decide) (by decide)
    refine rx_invI (mc := 3) (ms := 1063) (mc' := 2) (ms' := 1048) (as := []) (Q' := fun v mu => v = none ∧ mu = (md 40 iI_0 iR_37)) hG okX6_init lk_RX7_45 dX7_init_74 rfl (Nat.le_of_ble_eq_true rfl) ?_ ?_
    · refine rx_meth0 (by decide +kernel) rfl (Nat.le_of_ble_eq_true rfl) ?_
      refine rx_aload_n dX6_init_0 rfl rfl ?_
      refine rx_objI hG ⟨hw_902, hw_908, hw_909⟩ dX6_init_1 (by simp [Value.category]) ?_
      refine rx_aload_n dX6_init_4 rfl rfl ?_
      refine rx_bipush (v := nI 24) dX6_init_5 rfl ?_
      refine rx_Wm (mc := 1 + 1) (ms := 1024 + 24) ?_ (by decide) (by decide)
      refine mi_newa (t := 14) hG (Or.inr (Or.inr (Or.inl ⟨rfl, rfl⟩))) hw_814 dX6_init_7 rfl (by decide) (zI_le zI_0 (by decide)) (zR_le zR_35 (by decide)) rfl ?_
      refine mi_putR (R' := iR_36) hG hf_RX6_9 (gw_fin rfl rfl rfl rfl hw_224) ⟨.long, Or.inl rfl⟩ dX6_init_9 (by decide) rfl rfl ?_
      refine rx_aload_n dX6_init_12 rfl rfl ?_
      refine rx_sipush (v := nI 1024) dX6_init_13 rfl ?_
      refine rx_Wm (mc := 0 + 1) (ms := 0 + 1024) ?_ (by decide) (by decide)
      refine mi_newa (t := 14) hG (Or.inr (Or.inr (Or.inl ⟨rfl, rfl⟩))) hw_814 dX6_init_16 rfl (by decide) (zI_le zI_0 (by decide)) (zR_le zR_36 (by decide)) rfl ?_
      refine mi_putR (R' := iR_37) hG hf_RX6_15 (gw_fin rfl rfl rfl rfl hw_206) ⟨.long, Or.inl rfl⟩ dX6_init_18 (by decide) rfl rfl ?_
      exact rx_vret rfl dX6_init_21 ⟨rfl, rfl⟩
    rintro _ _ ⟨rfl, rfl⟩
    refine mi_aast (j := 8) (R' := iR_38) hG dX7_init_77 (by decide) rfl (by decide) rfl (by decide) (by decide) (by decide) rfl rfl ?_
    refine rx_iinc (v := nI 9) dX7_init_78 rfl (nI_add _ 1) ?_
    refine rx_goto (tgt := 59) dX7_init_81 (by decide) ?_
    refine rx_iload_n dX7_init_59 rfl ?_
    refine rx_bipush (v := nI 10) dX7_init_60 rfl ?_
    refine rx_icmp_ge (tgt := 84) dX7_init_62 (by decide) (fun q => absurd q (by decide)) (fun _ => ?_)
    refine rx_aload_n dX7_init_65 rfl rfl ?_
    refine mi_getR (r := 12) hG hf_RX7_41 rfl dX7_init_66 (by decide) rfl (by decide +kernel) ?_
    refine rx_iload_n dX7_init_69 rfl ?_
    refine rx_Wm (mc := 2 + 1) (ms := 1048 + 15) ?_ (by decide) (by decide)
    refine mi_new hG hc_6 ⟨hw_819, hw_821, hw_33⟩ (by decide +kernel) dX7_init_70 (zI_le zI_0 (by decide)) (zR_le zR_38 (by decide)) rfl ?_
    refine rx_dup dX7_init_73 rfl ?_
    refine rx_Wm (mc := 2 + 0) (ms := 1048 + 0) ?_ (by decide) (by decide)
    refine rx_invI (mc := 0) (ms := 0) (mc' := 2) (ms' := 1048) (as := []) (Q' := fun v mu => v = none ∧ mu = (md 43 iI_0 iR_40)) hG okX6_init lk_RX7_45 dX7_init_74 rfl (Nat.le_of_ble_eq_true rfl) ?_ ?_
    · refine rx_meth0 (by decide +kernel) rfl (Nat.le_of_ble_eq_true rfl) ?_
      refine rx_aload_n dX6_init_0 rfl rfl ?_
      refine rx_objI hG ⟨hw_902, hw_908, hw_909⟩ dX6_init_1 (by simp [Value.category]) ?_
      refine rx_aload_n dX6_init_4 rfl rfl ?_
      refine rx_bipush (v := nI 24) dX6_init_5 rfl ?_
      refine rx_Wm (mc := 1 + 1) (ms := 1024 + 24) ?_ (by decide) (by decide)
      refine mi_newa (t := 14) hG (Or.inr (Or.inr (Or.inl ⟨rfl, rfl⟩))) hw_814 dX6_init_7 rfl (by decide) (zI_le zI_0 (by decide)) (zR_le zR_38 (by decide)) rfl ?_
      refine mi_putR (R' := iR_39) hG hf_RX6_9 (gw_fin rfl rfl rfl rfl hw_224) ⟨.long, Or.inl rfl⟩ dX6_init_9 (by decide) rfl rfl ?_
      refine rx_aload_n dX6_init_12 rfl rfl ?_
      refine rx_sipush (v := nI 1024) dX6_init_13 rfl ?_
      refine rx_Wm (mc := 0 + 1) (ms := 0 + 1024) ?_ (by decide) (by decide)
      refine mi_newa (t := 14) hG (Or.inr (Or.inr (Or.inl ⟨rfl, rfl⟩))) hw_814 dX6_init_16 rfl (by decide) (zI_le zI_0 (by decide)) (zR_le zR_39 (by decide)) rfl ?_
      refine mi_putR (R' := iR_40) hG hf_RX6_15 (gw_fin rfl rfl rfl rfl hw_206) ⟨.long, Or.inl rfl⟩ dX6_init_18 (by decide) rfl rfl ?_
      exact rx_vret rfl dX6_init_21 ⟨rfl, rfl⟩
    rintro _ _ ⟨rfl, rfl⟩
    refine mi_aast (j := 9) (R' := iR_41) hG dX7_init_77 (by decide) rfl (by decide) rfl (by decide) (by decide) (by decide) rfl rfl ?_
    refine rx_iinc (v := nI 10) dX7_init_78 rfl (nI_add _ 1) ?_
    refine rx_goto (tgt := 59) dX7_init_81 (by decide) ?_
    refine rx_iload_n dX7_init_59 rfl ?_
    refine rx_bipush (v := nI 10) dX7_init_60 rfl ?_
    refine rx_icmp_ge (tgt := 84) dX7_init_62 (by decide) (fun _ => ?_) (fun q => absurd (by decide) q)
    exact rx_vret rfl dX7_init_84 ⟨rfl, rfl⟩
  rintro _ _ ⟨rfl, rfl⟩
  refine mi_putR (R' := iR_42) hG hf_RX10_19 (gw_fin rfl rfl rfl rfl hw_269) ⟨.int, Or.inr ⟨_, rfl⟩⟩ dX10_init_23 (by decide) rfl rfl ?_
  refine rx_aload_n dX10_init_26 rfl rfl ?_
  refine rx_bipush (v := nI 10) dX10_init_27 rfl ?_
  refine rx_Wm (mc := 8 + 1) (ms := 1095 + 10) ?_ (by decide) (by decide)
  refine mi_anew (t := 19) hG (by decide) ⟨hw_822, hw_823⟩ dX10_init_29 rfl (by decide) (zI_le zI_0 (by decide)) (zR_le zR_42 (by decide)) rfl ?_
  refine mi_putR (R' := iR_43) hG hf_RX10_25 (gw_fin rfl rfl rfl rfl hw_281) ⟨(.object "LedgerMachine$Order"), Or.inl rfl⟩ dX10_init_32 (by decide) rfl rfl ?_
  refine rx_aload_n dX10_init_35 rfl rfl ?_
  refine rx_bipush (v := nI 40) dX10_init_36 rfl ?_
  refine rx_Wm (mc := 7 + 1) (ms := 1055 + 40) ?_ (by decide) (by decide)
  refine mi_anew (t := 16) hG (by decide) ⟨hw_824, hw_825⟩ dX10_init_38 rfl (by decide) (zI_le zI_0 (by decide)) (zR_le zR_43 (by decide)) rfl ?_
  refine mi_putR (R' := iR_44) hG hf_RX10_31 (gw_fin rfl rfl rfl rfl hw_289) ⟨(.object "LedgerMachine$Block"), Or.inl rfl⟩ dX10_init_41 (by decide) rfl rfl ?_
  refine rx_aload_n dX10_init_44 rfl rfl ?_
  refine mi_getR (r := 44) hG hf_RX10_31 rfl dX10_init_45 (by decide) rfl (by decide +kernel) ?_
  refine rx_iconst (v := nI 0) dX10_init_48 rfl ?_
  refine rx_Wm (mc := 6 + 1) (ms := 1048 + 7) ?_ (by decide) (by decide)
  refine mi_new hG hc_0 ⟨hw_824, hw_826, hw_1⟩ (by decide +kernel) dX10_init_49 (zI_le zI_0 (by decide)) (zR_le zR_44 (by decide)) rfl ?_
  refine rx_dup dX10_init_52 rfl ?_
  refine rx_iconst (v := -1) dX10_init_53 rfl ?_
  refine rx_iconst (v := nI 0) dX10_init_54 rfl ?_
  refine rx_sipush (v := nI 1024) dX10_init_55 rfl ?_
  refine rx_Wm (mc := 5 + 1) (ms := 24 + 1024) ?_ (by decide) (by decide)
  refine mi_newa (t := 14) hG (Or.inr (Or.inr (Or.inl ⟨rfl, rfl⟩))) hw_814 dX10_init_58 rfl (by decide) (zI_le zI_0 (by decide)) (zR_le zR_44 (by decide)) rfl ?_
  refine rx_iconst (v := nI 0) dX10_init_60 rfl ?_
  refine rx_Wm (mc := 4 + 1) (ms := 24 + 0) ?_ (by decide) (by decide)
  refine mi_newa (t := 14) hG (Or.inr (Or.inr (Or.inl ⟨rfl, rfl⟩))) hw_814 dX10_init_61 rfl (by decide) (zI_le zI_0 (by decide)) (zR_le zR_44 (by decide)) rfl ?_
  refine rx_iconst (v := nI 0) dX10_init_63 rfl ?_
  refine rx_Wm (mc := 3 + 1) (ms := 24 + 0) ?_ (by decide) (by decide)
  refine mi_newa (t := 14) hG (Or.inr (Or.inr (Or.inl ⟨rfl, rfl⟩))) hw_814 dX10_init_64 rfl (by decide) (zI_le zI_0 (by decide)) (zR_le zR_44 (by decide)) rfl ?_
  refine rx_iconst (v := nI 0) dX10_init_66 rfl ?_
  refine rx_Wm (mc := 0 + 3) (ms := 0 + 24) ?_ (by decide) (by decide)
  refine rx_invI (mc := 3) (ms := 24) (mc' := 0) (ms' := 0) (as := [.int _, .int _, .ref _, .ref _, .ref _, .int _]) (Q' := fun v mu => v = none ∧ mu = (md 49 iI_3 iR_47)) hG okX0_init lk_RX10_35 dX10_init_67 rfl (Nat.le_of_ble_eq_true rfl) ?_ ?_
  · refine rx_meth0 (by decide +kernel) rfl (Nat.le_of_ble_eq_true rfl) ?_
    refine rx_aload_n dX0_init_0 rfl rfl ?_
    refine rx_objI hG ⟨hw_896, hw_908, hw_909⟩ dX0_init_1 (by simp [Value.category]) ?_
    refine rx_aload_n dX0_init_4 rfl rfl ?_
    refine rx_iload_n dX0_init_5 rfl ?_
    refine mi_putI (I' := iI_1) hG hf_RX0_7 (gw_fin rfl rfl rfl rfl hw_190) rfl dX0_init_6 (by decide) rfl rfl rfl rfl ?_
    refine rx_aload_n dX0_init_9 rfl rfl ?_
    refine rx_iload_n dX0_init_10 rfl ?_
    refine mi_putI (I' := iI_2) hG hf_RX0_13 (gw_fin rfl rfl rfl rfl hw_185) rfl dX0_init_11 (by decide) rfl rfl rfl rfl ?_
    refine rx_aload_n dX0_init_14 rfl rfl ?_
    refine rx_aload_n dX0_init_15 rfl rfl ?_
    refine mi_putR (R' := iR_45) hG hf_RX0_16 (gw_fin rfl rfl rfl rfl hw_186) ⟨.long, Or.inl rfl⟩ dX0_init_16 (by decide) rfl rfl ?_
    refine rx_aload_n dX0_init_19 rfl rfl ?_
    refine rx_aload dX0_init_20 rfl rfl ?_
    refine mi_putR (R' := iR_46) hG hf_RX0_20 (gw_fin rfl rfl rfl rfl hw_187) ⟨.long, Or.inl rfl⟩ dX0_init_22 (by decide) rfl rfl ?_
    refine rx_aload_n dX0_init_25 rfl rfl ?_
    refine rx_aload dX0_init_26 rfl rfl ?_
    refine mi_putR (R' := iR_47) hG hf_RX0_23 (gw_fin rfl rfl rfl rfl hw_188) ⟨.long, Or.inl rfl⟩ dX0_init_28 (by decide) rfl rfl ?_
    refine rx_aload_n dX0_init_31 rfl rfl ?_
    refine rx_iload dX0_init_32 rfl ?_
    refine mi_putI (I' := iI_3) hG hf_RX0_26 (gw_fin rfl rfl rfl rfl hw_189) rfl dX0_init_34 (by decide) rfl rfl rfl rfl ?_
    exact rx_vret rfl dX0_init_37 ⟨rfl, rfl⟩
  rintro _ _ ⟨rfl, rfl⟩
  refine mi_aast (j := 0) (R' := iR_48) hG dX10_init_70 (by decide) rfl (by decide) rfl (by decide) (by decide) (by decide) rfl rfl ?_
  refine rx_aload_n dX10_init_71 rfl rfl ?_
  refine rx_iconst (v := nI 1) dX10_init_72 rfl ?_
  refine mi_putI (I' := iI_4) hG hf_RX10_38 (gw_nf rfl rfl) rfl dX10_init_73 (by decide) rfl rfl rfl rfl ?_
  refine rx_aload_n dX10_init_76 rfl rfl ?_
  refine rx_bipush (v := nI 7) dX10_init_77 rfl ?_
  refine rx_Wm (mc := 2 + 1) (ms := 17 + 7) ?_ (by decide) (by decide)
  refine mi_newa (t := 13) hG (Or.inr (Or.inl ⟨rfl, rfl⟩)) hw_827 dX10_init_79 rfl (by decide) (zI_le zI_4 (by decide)) (zR_le zR_48 (by decide)) rfl ?_
  refine mi_putR (R' := iR_49) hG hf_RX10_42 (gw_fin rfl rfl rfl rfl hw_291) ⟨.int, Or.inl rfl⟩ dX10_init_81 (by decide) rfl rfl ?_
  refine rx_aload_n dX10_init_84 rfl rfl ?_
  refine mi_getR (r := 49) hG hf_RX10_42 rfl dX10_init_85 (by decide) rfl (by decide +kernel) ?_
  refine rx_iconst (v := nI 1) dX10_init_88 rfl ?_
  refine rx_Wm (mc := 0 + 2) (ms := 0 + 17) ?_ (by decide) (by decide)
  refine rx_invS (mc := 2) (ms := 17) (mc' := 0) (ms' := 0) (as := [.ref _, .int _]) (Q' := fun v mu => v = none ∧ mu = (md 50 iI_11 iR_49)) hG okJ7_fill_53178 lk_RX10_46 dX10_init_89 rfl (Nat.le_of_ble_eq_true rfl) ?_ ?_
  · refine rx_meth0 (by decide +kernel) rfl (Nat.le_of_ble_eq_true rfl) ?_
    refine rx_iconst (v := nI 0) dJ7_fill_53178_0 rfl ?_
    refine rx_istore_n dJ7_fill_53178_1 (by decide) ?_
    refine rx_aload_n dJ7_fill_53178_2 rfl rfl ?_
    refine rx_alen (x := nI 7) hG dJ7_fill_53178_3 (show 49 < 50 by decide) (md_k (by decide) rfl) (by decide) rfl ?_
    refine rx_istore_n dJ7_fill_53178_4 (by decide) ?_
    refine rx_iload_n dJ7_fill_53178_5 rfl ?_
    refine rx_iload_n dJ7_fill_53178_6 rfl ?_
    refine rx_icmp_ge (tgt := 20) dJ7_fill_53178_7 (by decide) (fun q => absurd q (by decide)) (fun _ => ?_)
    refine rx_aload_n dJ7_fill_53178_10 rfl rfl ?_
    refine rx_iload_n dJ7_fill_53178_11 rfl ?_
    refine rx_iload_n dJ7_fill_53178_12 rfl ?_
    refine mi_iast (j := 0) (I' := iI_5) hG dJ7_fill_53178_13 (by decide) rfl rfl (by decide) (by decide) rfl ?_
    refine rx_iinc (v := nI 1) dJ7_fill_53178_14 rfl (nI_add _ 1) ?_
    refine rx_goto (tgt := 5) dJ7_fill_53178_17 (by decide) ?_
    refine rx_iload_n dJ7_fill_53178_5 rfl ?_
    refine rx_iload_n dJ7_fill_53178_6 rfl ?_
    refine rx_icmp_ge (tgt := 20) dJ7_fill_53178_7 (by decide) (fun q => absurd q (by decide)) (fun _ => ?_)
    refine rx_aload_n dJ7_fill_53178_10 rfl rfl ?_
    refine rx_iload_n dJ7_fill_53178_11 rfl ?_
    refine rx_iload_n dJ7_fill_53178_12 rfl ?_
    refine mi_iast (j := 1) (I' := iI_6) hG dJ7_fill_53178_13 (by decide) rfl rfl (by decide) (by decide) rfl ?_
    refine rx_iinc (v := nI 2) dJ7_fill_53178_14 rfl (nI_add _ 1) ?_
    refine rx_goto (tgt := 5) dJ7_fill_53178_17 (by decide) ?_
    refine rx_iload_n dJ7_fill_53178_5 rfl ?_
    refine rx_iload_n dJ7_fill_53178_6 rfl ?_
    refine rx_icmp_ge (tgt := 20) dJ7_fill_53178_7 (by decide) (fun q => absurd q (by decide)) (fun _ => ?_)
    refine rx_aload_n dJ7_fill_53178_10 rfl rfl ?_
    refine rx_iload_n dJ7_fill_53178_11 rfl ?_
    refine rx_iload_n dJ7_fill_53178_12 rfl ?_
    refine mi_iast (j := 2) (I' := iI_7) hG dJ7_fill_53178_13 (by decide) rfl rfl (by decide) (by decide) rfl ?_
    refine rx_iinc (v := nI 3) dJ7_fill_53178_14 rfl (nI_add _ 1) ?_
    refine rx_goto (tgt := 5) dJ7_fill_53178_17 (by decide) ?_
    refine rx_iload_n dJ7_fill_53178_5 rfl ?_
    refine rx_iload_n dJ7_fill_53178_6 rfl ?_
    refine rx_icmp_ge (tgt := 20) dJ7_fill_53178_7 (by decide) (fun q => absurd q (by decide)) (fun _ => ?_)
    refine rx_aload_n dJ7_fill_53178_10 rfl rfl ?_
    refine rx_iload_n dJ7_fill_53178_11 rfl ?_
    refine rx_iload_n dJ7_fill_53178_12 rfl ?_
    refine mi_iast (j := 3) (I' := iI_8) hG dJ7_fill_53178_13 (by decide) rfl rfl (by decide) (by decide) rfl ?_
    refine rx_iinc (v := nI 4) dJ7_fill_53178_14 rfl (nI_add _ 1) ?_
    refine rx_goto (tgt := 5) dJ7_fill_53178_17 (by decide) ?_
    refine rx_iload_n dJ7_fill_53178_5 rfl ?_
    refine rx_iload_n dJ7_fill_53178_6 rfl ?_
    refine rx_icmp_ge (tgt := 20) dJ7_fill_53178_7 (by decide) (fun q => absurd q (by decide)) (fun _ => ?_)
    refine rx_aload_n dJ7_fill_53178_10 rfl rfl ?_
    refine rx_iload_n dJ7_fill_53178_11 rfl ?_
    refine rx_iload_n dJ7_fill_53178_12 rfl ?_
    refine mi_iast (j := 4) (I' := iI_9) hG dJ7_fill_53178_13 (by decide) rfl rfl (by decide) (by decide) rfl ?_
    refine rx_iinc (v := nI 5) dJ7_fill_53178_14 rfl (nI_add _ 1) ?_
    refine rx_goto (tgt := 5) dJ7_fill_53178_17 (by decide) ?_
    refine rx_iload_n dJ7_fill_53178_5 rfl ?_
    refine rx_iload_n dJ7_fill_53178_6 rfl ?_
    refine rx_icmp_ge (tgt := 20) dJ7_fill_53178_7 (by decide) (fun q => absurd q (by decide)) (fun _ => ?_)
    refine rx_aload_n dJ7_fill_53178_10 rfl rfl ?_
    refine rx_iload_n dJ7_fill_53178_11 rfl ?_
    refine rx_iload_n dJ7_fill_53178_12 rfl ?_
    refine mi_iast (j := 5) (I' := iI_10) hG dJ7_fill_53178_13 (by decide) rfl rfl (by decide) (by decide) rfl ?_
    refine rx_iinc (v := nI 6) dJ7_fill_53178_14 rfl (nI_add _ 1) ?_
    refine rx_goto (tgt := 5) dJ7_fill_53178_17 (by decide) ?_
    refine rx_iload_n dJ7_fill_53178_5 rfl ?_
    refine rx_iload_n dJ7_fill_53178_6 rfl ?_
    refine rx_icmp_ge (tgt := 20) dJ7_fill_53178_7 (by decide) (fun q => absurd q (by decide)) (fun _ => ?_)
    refine rx_aload_n dJ7_fill_53178_10 rfl rfl ?_
    refine rx_iload_n dJ7_fill_53178_11 rfl ?_
    refine rx_iload_n dJ7_fill_53178_12 rfl ?_
    refine mi_iast (j := 6) (I' := iI_11) hG dJ7_fill_53178_13 (by decide) rfl rfl (by decide) (by decide) rfl ?_
    refine rx_iinc (v := nI 7) dJ7_fill_53178_14 rfl (nI_add _ 1) ?_
    refine rx_goto (tgt := 5) dJ7_fill_53178_17 (by decide) ?_
    refine rx_iload_n dJ7_fill_53178_5 rfl ?_
    refine rx_iload_n dJ7_fill_53178_6 rfl ?_
    refine rx_icmp_ge (tgt := 20) dJ7_fill_53178_7 (by decide) (fun _ => ?_) (fun q => absurd (by decide) q)
    exact rx_vret rfl dJ7_fill_53178_20 ⟨rfl, rfl⟩
  rintro _ _ ⟨rfl, rfl⟩
  refine rx_aload_n dX10_init_92 rfl rfl ?_
  refine rx_bipush (v := nI 7) dX10_init_93 rfl ?_
  refine rx_Wm (mc := 1 + 1) (ms := 10 + 7) ?_ (by decide) (by decide)
  refine mi_newa (t := 14) hG (Or.inr (Or.inr (Or.inl ⟨rfl, rfl⟩))) hw_814 dX10_init_95 rfl (by decide) (zI_le zI_11 (by decide)) (zR_le zR_49 (by decide)) rfl ?_
  refine mi_putR (R' := iR_50) hG hf_RX10_52 (gw_fin rfl rfl rfl rfl hw_292) ⟨.long, Or.inl rfl⟩ dX10_init_97 (by decide) rfl rfl ?_
  refine rx_aload_n dX10_init_100 rfl rfl ?_
  refine rx_bipush (v := nI 10) dX10_init_101 rfl ?_
  refine rx_Wm (mc := 0 + 1) (ms := 0 + 10) ?_ (by decide) (by decide)
  refine mi_newa (t := 14) hG (Or.inr (Or.inr (Or.inl ⟨rfl, rfl⟩))) hw_814 dX10_init_103 rfl (by decide) (zI_le zI_11 (by decide)) (zR_le zR_50 (by decide)) rfl ?_
  refine mi_putR (R' := iR_51) hG hf_RX10_56 (gw_fin rfl rfl rfl rfl hw_293) ⟨.long, Or.inl rfl⟩ dX10_init_105 (by decide) rfl rfl ?_
  exact rx_vret rfl dX10_init_108 ⟨rfl, rfl⟩
set_option maxRecDepth 20000 in
theorem ci_model {G : rx_E} {d : Nat} (hG : rx_OK G) : rx_C G MX11_init (d + 6) [.ref 52] (md 53 iI_11 iR_51) 48 54399 (fun v mu => v = none ∧ mu = (md 101 iI_21 iR_99)) := by
  refine rx_meth0 (by decide +kernel) rfl (Nat.le_of_ble_eq_true rfl) ?_
  refine rx_aload_n dX11_init_0 rfl rfl ?_
  refine rx_objI hG ⟨hw_907, hw_908, hw_909⟩ dX11_init_1 (by simp [Value.category]) ?_
  refine rx_aload_n dX11_init_4 rfl rfl ?_
  refine rx_sipush (v := nI 3200) dX11_init_5 rfl ?_
  refine rx_Wm (mc := 47 + 1) (ms := 51199 + 3200) ?_ (by decide) (by decide)
  refine mi_newa (t := 13) hG (Or.inr (Or.inl ⟨rfl, rfl⟩)) hw_827 dX11_init_8 rfl (by decide) (zI_le zI_11 (by decide)) (zR_le zR_51 (by decide)) rfl ?_
  refine mi_putR (R' := iR_52) hG hf_RX11_7 (gw_fin rfl rfl rfl rfl hw_349) ⟨.int, Or.inl rfl⟩ dX11_init_10 (by decide) rfl rfl ?_
  refine rx_aload_n dX11_init_13 rfl rfl ?_
  refine rx_bipush (v := nI 16) dX11_init_14 rfl ?_
  refine rx_Wm (mc := 46 + 1) (ms := 51183 + 16) ?_ (by decide) (by decide)
  refine mi_newa (t := 13) hG (Or.inr (Or.inl ⟨rfl, rfl⟩)) hw_827 dX11_init_16 rfl (by decide) (zI_le zI_11 (by decide)) (zR_le zR_52 (by decide)) rfl ?_
  refine mi_putR (R' := iR_53) hG hf_RX11_13 (gw_fin rfl rfl rfl rfl hw_305) ⟨.int, Or.inl rfl⟩ dX11_init_18 (by decide) rfl rfl ?_
  refine rx_aload_n dX11_init_21 rfl rfl ?_
  refine rx_sipush (v := nI 200) dX11_init_22 rfl ?_
  refine rx_Wm (mc := 45 + 1) (ms := 50983 + 200) ?_ (by decide) (by decide)
  refine mi_newa (t := 13) hG (Or.inr (Or.inl ⟨rfl, rfl⟩)) hw_827 dX11_init_25 rfl (by decide) (zI_le zI_11 (by decide)) (zR_le zR_53 (by decide)) rfl ?_
  refine mi_putR (R' := iR_54) hG hf_RX11_16 (gw_fin rfl rfl rfl rfl hw_315) ⟨.int, Or.inl rfl⟩ dX11_init_27 (by decide) rfl rfl ?_
  refine rx_aload_n dX11_init_30 rfl rfl ?_
  refine rx_sipush (v := nI 200) dX11_init_31 rfl ?_
  refine rx_Wm (mc := 44 + 1) (ms := 50783 + 200) ?_ (by decide) (by decide)
  refine mi_newa (t := 15) hG (Or.inr (Or.inr (Or.inr ⟨rfl, rfl⟩))) hw_805 dX11_init_34 rfl (by decide) (zI_le zI_11 (by decide)) (zR_le zR_54 (by decide)) rfl ?_
  refine mi_putR (R' := iR_55) hG hf_RX11_19 (gw_fin rfl rfl rfl rfl hw_319) ⟨.boolean, Or.inl rfl⟩ dX11_init_36 (by decide) rfl rfl ?_
  refine rx_aload_n dX11_init_39 rfl rfl ?_
  refine rx_bipush (v := nI 10) dX11_init_40 rfl ?_
  refine rx_Wm (mc := 43 + 1) (ms := 50773 + 10) ?_ (by decide) (by decide)
  refine mi_newa (t := 13) hG (Or.inr (Or.inl ⟨rfl, rfl⟩)) hw_827 dX11_init_42 rfl (by decide) (zI_le zI_11 (by decide)) (zR_le zR_55 (by decide)) rfl ?_
  refine mi_putR (R' := iR_56) hG hf_RX11_23 (gw_fin rfl rfl rfl rfl hw_328) ⟨.int, Or.inl rfl⟩ dX11_init_44 (by decide) rfl rfl ?_
  refine rx_aload_n dX11_init_47 rfl rfl ?_
  refine rx_bipush (v := nI 10) dX11_init_48 rfl ?_
  refine rx_Wm (mc := 42 + 1) (ms := 50763 + 10) ?_ (by decide) (by decide)
  refine mi_newa (t := 13) hG (Or.inr (Or.inl ⟨rfl, rfl⟩)) hw_827 dX11_init_50 rfl (by decide) (zI_le zI_11 (by decide)) (zR_le zR_56 (by decide)) rfl ?_
  refine mi_putR (R' := iR_57) hG hf_RX11_26 (gw_fin rfl rfl rfl rfl hw_329) ⟨.int, Or.inl rfl⟩ dX11_init_52 (by decide) rfl rfl ?_
  refine rx_aload_n dX11_init_55 rfl rfl ?_
  refine rx_bipush (v := nI 10) dX11_init_56 rfl ?_
  refine rx_Wm (mc := 41 + 1) (ms := 50753 + 10) ?_ (by decide) (by decide)
  refine mi_newa (t := 14) hG (Or.inr (Or.inr (Or.inl ⟨rfl, rfl⟩))) hw_814 dX11_init_58 rfl (by decide) (zI_le zI_11 (by decide)) (zR_le zR_57 (by decide)) rfl ?_
  refine mi_putR (R' := iR_58) hG hf_RX11_29 (gw_fin rfl rfl rfl rfl hw_332) ⟨.long, Or.inl rfl⟩ dX11_init_60 (by decide) rfl rfl ?_
  refine rx_aload_n dX11_init_63 rfl rfl ?_
  refine rx_bipush (v := nI 10) dX11_init_64 rfl ?_
  refine rx_Wm (mc := 40 + 1) (ms := 50743 + 10) ?_ (by decide) (by decide)
  refine mi_newa (t := 14) hG (Or.inr (Or.inr (Or.inl ⟨rfl, rfl⟩))) hw_814 dX11_init_66 rfl (by decide) (zI_le zI_11 (by decide)) (zR_le zR_58 (by decide)) rfl ?_
  refine mi_putR (R' := iR_59) hG hf_RX11_33 (gw_fin rfl rfl rfl rfl hw_333) ⟨.long, Or.inl rfl⟩ dX11_init_68 (by decide) rfl rfl ?_
  refine rx_aload_n dX11_init_71 rfl rfl ?_
  refine rx_bipush (v := nI 10) dX11_init_72 rfl ?_
  refine rx_Wm (mc := 39 + 1) (ms := 50733 + 10) ?_ (by decide) (by decide)
  refine mi_newa (t := 13) hG (Or.inr (Or.inl ⟨rfl, rfl⟩)) hw_827 dX11_init_74 rfl (by decide) (zI_le zI_11 (by decide)) (zR_le zR_59 (by decide)) rfl ?_
  refine mi_putR (R' := iR_60) hG hf_RX11_36 (gw_fin rfl rfl rfl rfl hw_337) ⟨.int, Or.inl rfl⟩ dX11_init_76 (by decide) rfl rfl ?_
  refine rx_aload_n dX11_init_79 rfl rfl ?_
  refine rx_bipush (v := nI 10) dX11_init_80 rfl ?_
  refine rx_Wm (mc := 38 + 1) (ms := 50723 + 10) ?_ (by decide) (by decide)
  refine mi_newa (t := 13) hG (Or.inr (Or.inl ⟨rfl, rfl⟩)) hw_827 dX11_init_82 rfl (by decide) (zI_le zI_11 (by decide)) (zR_le zR_60 (by decide)) rfl ?_
  refine mi_putR (R' := iR_61) hG hf_RX11_39 (gw_fin rfl rfl rfl rfl hw_338) ⟨.int, Or.inl rfl⟩ dX11_init_84 (by decide) rfl rfl ?_
  refine rx_aload_n dX11_init_87 rfl rfl ?_
  refine rx_bipush (v := nI 10) dX11_init_88 rfl ?_
  refine rx_Wm (mc := 37 + 1) (ms := 50713 + 10) ?_ (by decide) (by decide)
  refine mi_newa (t := 13) hG (Or.inr (Or.inl ⟨rfl, rfl⟩)) hw_827 dX11_init_90 rfl (by decide) (zI_le zI_11 (by decide)) (zR_le zR_61 (by decide)) rfl ?_
  refine mi_putR (R' := iR_62) hG hf_RX11_42 (gw_fin rfl rfl rfl rfl hw_339) ⟨.int, Or.inl rfl⟩ dX11_init_92 (by decide) rfl rfl ?_
  refine rx_aload_n dX11_init_95 rfl rfl ?_
  refine rx_bipush (v := nI 40) dX11_init_96 rfl ?_
  refine rx_Wm (mc := 36 + 1) (ms := 50673 + 40) ?_ (by decide) (by decide)
  refine mi_newa (t := 13) hG (Or.inr (Or.inl ⟨rfl, rfl⟩)) hw_827 dX11_init_98 rfl (by decide) (zI_le zI_11 (by decide)) (zR_le zR_62 (by decide)) rfl ?_
  refine mi_putR (R' := iR_63) hG hf_RX11_45 (gw_fin rfl rfl rfl rfl hw_340) ⟨.int, Or.inl rfl⟩ dX11_init_100 (by decide) rfl rfl ?_
  refine rx_aload_n dX11_init_103 rfl rfl ?_
  refine rx_bipush (v := nI 40) dX11_init_104 rfl ?_
  refine rx_Wm (mc := 35 + 1) (ms := 50633 + 40) ?_ (by decide) (by decide)
  refine mi_newa (t := 13) hG (Or.inr (Or.inl ⟨rfl, rfl⟩)) hw_827 dX11_init_106 rfl (by decide) (zI_le zI_11 (by decide)) (zR_le zR_63 (by decide)) rfl ?_
  refine mi_putR (R' := iR_64) hG hf_RX11_48 (gw_fin rfl rfl rfl rfl hw_341) ⟨.int, Or.inl rfl⟩ dX11_init_108 (by decide) rfl rfl ?_
  refine rx_aload_n dX11_init_111 rfl rfl ?_
  refine rx_bipush (v := nI 40) dX11_init_112 rfl ?_
  refine rx_Wm (mc := 34 + 1) (ms := 50593 + 40) ?_ (by decide) (by decide)
  refine mi_newa (t := 13) hG (Or.inr (Or.inl ⟨rfl, rfl⟩)) hw_827 dX11_init_114 rfl (by decide) (zI_le zI_11 (by decide)) (zR_le zR_64 (by decide)) rfl ?_
  refine mi_putR (R' := iR_65) hG hf_RX11_51 (gw_fin rfl rfl rfl rfl hw_342) ⟨.int, Or.inl rfl⟩ dX11_init_116 (by decide) rfl rfl ?_
  refine rx_aload_n dX11_init_119 rfl rfl ?_
  refine rx_bipush (v := nI 40) dX11_init_120 rfl ?_
  refine rx_Wm (mc := 33 + 1) (ms := 50553 + 40) ?_ (by decide) (by decide)
  refine mi_newa (t := 13) hG (Or.inr (Or.inl ⟨rfl, rfl⟩)) hw_827 dX11_init_122 rfl (by decide) (zI_le zI_11 (by decide)) (zR_le zR_65 (by decide)) rfl ?_
  refine mi_putR (R' := iR_66) hG hf_RX11_54 (gw_fin rfl rfl rfl rfl hw_343) ⟨.int, Or.inl rfl⟩ dX11_init_124 (by decide) rfl rfl ?_
  refine rx_aload_n dX11_init_127 rfl rfl ?_
  refine rx_bipush (v := nI 40) dX11_init_128 rfl ?_
  refine rx_Wm (mc := 32 + 1) (ms := 50513 + 40) ?_ (by decide) (by decide)
  refine mi_newa (t := 13) hG (Or.inr (Or.inl ⟨rfl, rfl⟩)) hw_827 dX11_init_130 rfl (by decide) (zI_le zI_11 (by decide)) (zR_le zR_66 (by decide)) rfl ?_
  refine mi_putR (R' := iR_67) hG hf_RX11_57 (gw_fin rfl rfl rfl rfl hw_344) ⟨.int, Or.inl rfl⟩ dX11_init_132 (by decide) rfl rfl ?_
  refine rx_aload_n dX11_init_135 rfl rfl ?_
  refine rx_bipush (v := nI 40) dX11_init_136 rfl ?_
  refine rx_Wm (mc := 31 + 1) (ms := 50473 + 40) ?_ (by decide) (by decide)
  refine mi_newa (t := 13) hG (Or.inr (Or.inl ⟨rfl, rfl⟩)) hw_827 dX11_init_138 rfl (by decide) (zI_le zI_11 (by decide)) (zR_le zR_67 (by decide)) rfl ?_
  refine mi_putR (R' := iR_68) hG hf_RX11_60 (gw_fin rfl rfl rfl rfl hw_345) ⟨.int, Or.inl rfl⟩ dX11_init_140 (by decide) rfl rfl ?_
  refine rx_aload_n dX11_init_143 rfl rfl ?_
  refine rx_bipush (v := nI 40) dX11_init_144 rfl ?_
  refine rx_Wm (mc := 30 + 1) (ms := 50433 + 40) ?_ (by decide) (by decide)
  refine mi_newa (t := 15) hG (Or.inr (Or.inr (Or.inr ⟨rfl, rfl⟩))) hw_805 dX11_init_146 rfl (by decide) (zI_le zI_11 (by decide)) (zR_le zR_68 (by decide)) rfl ?_
  refine mi_putR (R' := iR_69) hG hf_RX11_63 (gw_fin rfl rfl rfl rfl hw_346) ⟨.boolean, Or.inl rfl⟩ dX11_init_148 (by decide) rfl rfl ?_
  refine rx_aload_n dX11_init_151 rfl rfl ?_
  refine rx_sipush (v := nI 24320) dX11_init_152 rfl ?_
  refine rx_Wm (mc := 29 + 1) (ms := 26113 + 24320) ?_ (by decide) (by decide)
  refine mi_newa (t := 14) hG (Or.inr (Or.inr (Or.inl ⟨rfl, rfl⟩))) hw_814 dX11_init_155 rfl (by decide) (zI_le zI_11 (by decide)) (zR_le zR_69 (by decide)) rfl ?_
  refine mi_putR (R' := iR_70) hG hf_RX11_66 (gw_fin rfl rfl rfl rfl hw_347) ⟨.long, Or.inl rfl⟩ dX11_init_157 (by decide) rfl rfl ?_
  refine rx_aload_n dX11_init_160 rfl rfl ?_
  refine rx_sipush (v := nI 400) dX11_init_161 rfl ?_
  refine rx_Wm (mc := 28 + 1) (ms := 25713 + 400) ?_ (by decide) (by decide)
  refine mi_newa (t := 13) hG (Or.inr (Or.inl ⟨rfl, rfl⟩)) hw_827 dX11_init_164 rfl (by decide) (zI_le zI_11 (by decide)) (zR_le zR_70 (by decide)) rfl ?_
  refine mi_putR (R' := iR_71) hG hf_RX11_69 (gw_fin rfl rfl rfl rfl hw_348) ⟨.int, Or.inl rfl⟩ dX11_init_166 (by decide) rfl rfl ?_
  refine rx_aload_n dX11_init_169 rfl rfl ?_
  refine rx_sipush (v := nI 400) dX11_init_170 rfl ?_
  refine rx_Wm (mc := 27 + 1) (ms := 25313 + 400) ?_ (by decide) (by decide)
  refine mi_newa (t := 13) hG (Or.inr (Or.inl ⟨rfl, rfl⟩)) hw_827 dX11_init_173 rfl (by decide) (zI_le zI_11 (by decide)) (zR_le zR_71 (by decide)) rfl ?_
  refine mi_putR (R' := iR_72) hG hf_RX11_72 (gw_fin rfl rfl rfl rfl hw_350) ⟨.int, Or.inl rfl⟩ dX11_init_175 (by decide) rfl rfl ?_
  refine rx_aload_n dX11_init_178 rfl rfl ?_
  refine rx_sipush (v := nI 400) dX11_init_179 rfl ?_
  refine rx_Wm (mc := 26 + 1) (ms := 24913 + 400) ?_ (by decide) (by decide)
  refine mi_newa (t := 14) hG (Or.inr (Or.inr (Or.inl ⟨rfl, rfl⟩))) hw_814 dX11_init_182 rfl (by decide) (zI_le zI_11 (by decide)) (zR_le zR_72 (by decide)) rfl ?_
  refine mi_putR (R' := iR_73) hG hf_RX11_75 (gw_fin rfl rfl rfl rfl hw_351) ⟨.long, Or.inl rfl⟩ dX11_init_184 (by decide) rfl rfl ?_
  refine rx_aload_n dX11_init_187 rfl rfl ?_
  refine rx_sipush (v := nI 2400) dX11_init_188 rfl ?_
  refine rx_Wm (mc := 25 + 1) (ms := 22513 + 2400) ?_ (by decide) (by decide)
  refine mi_newa (t := 13) hG (Or.inr (Or.inl ⟨rfl, rfl⟩)) hw_827 dX11_init_191 rfl (by decide) (zI_le zI_11 (by decide)) (zR_le zR_73 (by decide)) rfl ?_
  refine mi_putR (R' := iR_74) hG hf_RX11_78 (gw_fin rfl rfl rfl rfl hw_352) ⟨.int, Or.inl rfl⟩ dX11_init_193 (by decide) rfl rfl ?_
  refine rx_aload_n dX11_init_196 rfl rfl ?_
  refine rx_sipush (v := nI 2400) dX11_init_197 rfl ?_
  refine rx_Wm (mc := 24 + 1) (ms := 20113 + 2400) ?_ (by decide) (by decide)
  refine mi_newa (t := 14) hG (Or.inr (Or.inr (Or.inl ⟨rfl, rfl⟩))) hw_814 dX11_init_200 rfl (by decide) (zI_le zI_11 (by decide)) (zR_le zR_74 (by decide)) rfl ?_
  refine mi_putR (R' := iR_75) hG hf_RX11_81 (gw_fin rfl rfl rfl rfl hw_353) ⟨.long, Or.inl rfl⟩ dX11_init_202 (by decide) rfl rfl ?_
  refine rx_aload_n dX11_init_205 rfl rfl ?_
  refine rx_sipush (v := nI 2400) dX11_init_206 rfl ?_
  refine rx_Wm (mc := 23 + 1) (ms := 17713 + 2400) ?_ (by decide) (by decide)
  refine mi_newa (t := 14) hG (Or.inr (Or.inr (Or.inl ⟨rfl, rfl⟩))) hw_814 dX11_init_209 rfl (by decide) (zI_le zI_11 (by decide)) (zR_le zR_75 (by decide)) rfl ?_
  refine mi_putR (R' := iR_76) hG hf_RX11_84 (gw_fin rfl rfl rfl rfl hw_354) ⟨.long, Or.inl rfl⟩ dX11_init_211 (by decide) rfl rfl ?_
  refine rx_aload_n dX11_init_214 rfl rfl ?_
  refine rx_sipush (v := nI 2400) dX11_init_215 rfl ?_
  refine rx_Wm (mc := 22 + 1) (ms := 15313 + 2400) ?_ (by decide) (by decide)
  refine mi_newa (t := 13) hG (Or.inr (Or.inl ⟨rfl, rfl⟩)) hw_827 dX11_init_218 rfl (by decide) (zI_le zI_11 (by decide)) (zR_le zR_76 (by decide)) rfl ?_
  refine mi_putR (R' := iR_77) hG hf_RX11_87 (gw_fin rfl rfl rfl rfl hw_355) ⟨.int, Or.inl rfl⟩ dX11_init_220 (by decide) rfl rfl ?_
  refine rx_aload_n dX11_init_223 rfl rfl ?_
  refine rx_bipush (v := nI 7) dX11_init_224 rfl ?_
  refine rx_Wm (mc := 21 + 1) (ms := 15306 + 7) ?_ (by decide) (by decide)
  refine mi_newa (t := 13) hG (Or.inr (Or.inl ⟨rfl, rfl⟩)) hw_827 dX11_init_226 rfl (by decide) (zI_le zI_11 (by decide)) (zR_le zR_77 (by decide)) rfl ?_
  refine mi_putR (R' := iR_78) hG hf_RX11_90 (gw_fin rfl rfl rfl rfl hw_356) ⟨.int, Or.inl rfl⟩ dX11_init_228 (by decide) rfl rfl ?_
  refine rx_aload_n dX11_init_231 rfl rfl ?_
  refine rx_sipush (v := nI 280) dX11_init_232 rfl ?_
  refine rx_Wm (mc := 20 + 1) (ms := 15026 + 280) ?_ (by decide) (by decide)
  refine mi_newa (t := 15) hG (Or.inr (Or.inr (Or.inr ⟨rfl, rfl⟩))) hw_805 dX11_init_235 rfl (by decide) (zI_le zI_11 (by decide)) (zR_le zR_78 (by decide)) rfl ?_
  refine mi_putR (R' := iR_79) hG hf_RX11_93 (gw_fin rfl rfl rfl rfl hw_357) ⟨.boolean, Or.inl rfl⟩ dX11_init_237 (by decide) rfl rfl ?_
  refine rx_aload_n dX11_init_240 rfl rfl ?_
  refine rx_bipush (v := nI 10) dX11_init_241 rfl ?_
  refine rx_Wm (mc := 19 + 1) (ms := 15016 + 10) ?_ (by decide) (by decide)
  refine mi_newa (t := 14) hG (Or.inr (Or.inr (Or.inl ⟨rfl, rfl⟩))) hw_814 dX11_init_243 rfl (by decide) (zI_le zI_11 (by decide)) (zR_le zR_79 (by decide)) rfl ?_
  refine mi_putR (R' := iR_80) hG hf_RX11_96 (gw_fin rfl rfl rfl rfl hw_358) ⟨.long, Or.inl rfl⟩ dX11_init_245 (by decide) rfl rfl ?_
  refine rx_aload_n dX11_init_248 rfl rfl ?_
  refine rx_sipush (v := nI 608) dX11_init_249 rfl ?_
  refine rx_Wm (mc := 18 + 1) (ms := 14408 + 608) ?_ (by decide) (by decide)
  refine mi_newa (t := 14) hG (Or.inr (Or.inr (Or.inl ⟨rfl, rfl⟩))) hw_814 dX11_init_252 rfl (by decide) (zI_le zI_11 (by decide)) (zR_le zR_80 (by decide)) rfl ?_
  refine mi_putR (R' := iR_81) hG hf_RX11_99 (gw_fin rfl rfl rfl rfl hw_359) ⟨.long, Or.inl rfl⟩ dX11_init_254 (by decide) rfl rfl ?_
  refine rx_aload_n dX11_init_257 rfl rfl ?_
  refine rx_sipush (v := nI 6688) dX11_init_258 rfl ?_
  refine rx_Wm (mc := 17 + 1) (ms := 7720 + 6688) ?_ (by decide) (by decide)
  refine mi_newa (t := 14) hG (Or.inr (Or.inr (Or.inl ⟨rfl, rfl⟩))) hw_814 dX11_init_261 rfl (by decide) (zI_le zI_11 (by decide)) (zR_le zR_81 (by decide)) rfl ?_
  refine mi_putR (R' := iR_82) hG hf_RX11_102 (gw_fin rfl rfl rfl rfl hw_295) ⟨.long, Or.inl rfl⟩ dX11_init_263 (by decide) rfl rfl ?_
  refine rx_aload_n dX11_init_266 rfl rfl ?_
  refine rx_bipush (v := nI 11) dX11_init_267 rfl ?_
  refine rx_Wm (mc := 16 + 1) (ms := 7709 + 11) ?_ (by decide) (by decide)
  refine mi_newa (t := 13) hG (Or.inr (Or.inl ⟨rfl, rfl⟩)) hw_827 dX11_init_269 rfl (by decide) (zI_le zI_11 (by decide)) (zR_le zR_82 (by decide)) rfl ?_
  refine mi_putR (R' := iR_83) hG hf_RX11_105 (gw_fin rfl rfl rfl rfl hw_296) ⟨.int, Or.inl rfl⟩ dX11_init_271 (by decide) rfl rfl ?_
  refine rx_aload_n dX11_init_274 rfl rfl ?_
  refine rx_bipush (v := nI 11) dX11_init_275 rfl ?_
  refine rx_Wm (mc := 15 + 1) (ms := 7698 + 11) ?_ (by decide) (by decide)
  refine mi_newa (t := 13) hG (Or.inr (Or.inl ⟨rfl, rfl⟩)) hw_827 dX11_init_277 rfl (by decide) (zI_le zI_11 (by decide)) (zR_le zR_83 (by decide)) rfl ?_
  refine mi_putR (R' := iR_84) hG hf_RX11_108 (gw_fin rfl rfl rfl rfl hw_297) ⟨.int, Or.inl rfl⟩ dX11_init_279 (by decide) rfl rfl ?_
  refine rx_aload_n dX11_init_282 rfl rfl ?_
  refine rx_bipush (v := nI 11) dX11_init_283 rfl ?_
  refine rx_Wm (mc := 14 + 1) (ms := 7687 + 11) ?_ (by decide) (by decide)
  refine mi_newa (t := 13) hG (Or.inr (Or.inl ⟨rfl, rfl⟩)) hw_827 dX11_init_285 rfl (by decide) (zI_le zI_11 (by decide)) (zR_le zR_84 (by decide)) rfl ?_
  refine mi_putR (R' := iR_85) hG hf_RX11_111 (gw_fin rfl rfl rfl rfl hw_298) ⟨.int, Or.inl rfl⟩ dX11_init_287 (by decide) rfl rfl ?_
  refine rx_aload_n dX11_init_290 rfl rfl ?_
  refine rx_bipush (v := nI 11) dX11_init_291 rfl ?_
  refine rx_Wm (mc := 13 + 1) (ms := 7676 + 11) ?_ (by decide) (by decide)
  refine mi_newa (t := 13) hG (Or.inr (Or.inl ⟨rfl, rfl⟩)) hw_827 dX11_init_293 rfl (by decide) (zI_le zI_11 (by decide)) (zR_le zR_85 (by decide)) rfl ?_
  refine mi_putR (R' := iR_86) hG hf_RX11_114 (gw_fin rfl rfl rfl rfl hw_299) ⟨.int, Or.inl rfl⟩ dX11_init_295 (by decide) rfl rfl ?_
  refine rx_aload_n dX11_init_298 rfl rfl ?_
  refine rx_bipush (v := nI 11) dX11_init_299 rfl ?_
  refine rx_Wm (mc := 12 + 1) (ms := 7665 + 11) ?_ (by decide) (by decide)
  refine mi_newa (t := 14) hG (Or.inr (Or.inr (Or.inl ⟨rfl, rfl⟩))) hw_814 dX11_init_301 rfl (by decide) (zI_le zI_11 (by decide)) (zR_le zR_86 (by decide)) rfl ?_
  refine mi_putR (R' := iR_87) hG hf_RX11_117 (gw_fin rfl rfl rfl rfl hw_300) ⟨.long, Or.inl rfl⟩ dX11_init_303 (by decide) rfl rfl ?_
  refine rx_aload_n dX11_init_306 rfl rfl ?_
  refine rx_bipush (v := nI 11) dX11_init_307 rfl ?_
  refine rx_Wm (mc := 11 + 1) (ms := 7654 + 11) ?_ (by decide) (by decide)
  refine mi_newa (t := 13) hG (Or.inr (Or.inl ⟨rfl, rfl⟩)) hw_827 dX11_init_309 rfl (by decide) (zI_le zI_11 (by decide)) (zR_le zR_87 (by decide)) rfl ?_
  refine mi_putR (R' := iR_88) hG hf_RX11_120 (gw_fin rfl rfl rfl rfl hw_301) ⟨.int, Or.inl rfl⟩ dX11_init_311 (by decide) rfl rfl ?_
  refine rx_aload_n dX11_init_314 rfl rfl ?_
  refine rx_bipush (v := nI 11) dX11_init_315 rfl ?_
  refine rx_Wm (mc := 10 + 1) (ms := 7643 + 11) ?_ (by decide) (by decide)
  refine mi_newa (t := 13) hG (Or.inr (Or.inl ⟨rfl, rfl⟩)) hw_827 dX11_init_317 rfl (by decide) (zI_le zI_11 (by decide)) (zR_le zR_88 (by decide)) rfl ?_
  refine mi_putR (R' := iR_89) hG hf_RX11_123 (gw_fin rfl rfl rfl rfl hw_302) ⟨.int, Or.inl rfl⟩ dX11_init_319 (by decide) rfl rfl ?_
  refine rx_aload_n dX11_init_322 rfl rfl ?_
  refine rx_bipush (v := nI 11) dX11_init_323 rfl ?_
  refine rx_Wm (mc := 9 + 1) (ms := 7632 + 11) ?_ (by decide) (by decide)
  refine mi_newa (t := 14) hG (Or.inr (Or.inr (Or.inl ⟨rfl, rfl⟩))) hw_814 dX11_init_325 rfl (by decide) (zI_le zI_11 (by decide)) (zR_le zR_89 (by decide)) rfl ?_
  refine mi_putR (R' := iR_90) hG hf_RX11_126 (gw_fin rfl rfl rfl rfl hw_303) ⟨.long, Or.inl rfl⟩ dX11_init_327 (by decide) rfl rfl ?_
  refine rx_aload_n dX11_init_330 rfl rfl ?_
  refine rx_bipush (v := nI 11) dX11_init_331 rfl ?_
  refine rx_Wm (mc := 8 + 1) (ms := 7621 + 11) ?_ (by decide) (by decide)
  refine mi_newa (t := 14) hG (Or.inr (Or.inr (Or.inl ⟨rfl, rfl⟩))) hw_814 dX11_init_333 rfl (by decide) (zI_le zI_11 (by decide)) (zR_le zR_90 (by decide)) rfl ?_
  refine mi_putR (R' := iR_91) hG hf_RX11_129 (gw_fin rfl rfl rfl rfl hw_304) ⟨.long, Or.inl rfl⟩ dX11_init_335 (by decide) rfl rfl ?_
  refine rx_aload_n dX11_init_338 rfl rfl ?_
  refine rx_bipush (v := nI 11) dX11_init_339 rfl ?_
  refine rx_Wm (mc := 7 + 1) (ms := 7610 + 11) ?_ (by decide) (by decide)
  refine mi_newa (t := 15) hG (Or.inr (Or.inr (Or.inr ⟨rfl, rfl⟩))) hw_805 dX11_init_341 rfl (by decide) (zI_le zI_11 (by decide)) (zR_le zR_91 (by decide)) rfl ?_
  refine mi_putR (R' := iR_92) hG hf_RX11_132 (gw_fin rfl rfl rfl rfl hw_306) ⟨.boolean, Or.inl rfl⟩ dX11_init_343 (by decide) rfl rfl ?_
  refine rx_aload_n dX11_init_346 rfl rfl ?_
  refine rx_bipush (v := nI 11) dX11_init_347 rfl ?_
  refine rx_Wm (mc := 6 + 1) (ms := 7599 + 11) ?_ (by decide) (by decide)
  refine mi_newa (t := 15) hG (Or.inr (Or.inr (Or.inr ⟨rfl, rfl⟩))) hw_805 dX11_init_349 rfl (by decide) (zI_le zI_11 (by decide)) (zR_le zR_92 (by decide)) rfl ?_
  refine mi_putR (R' := iR_93) hG hf_RX11_135 (gw_fin rfl rfl rfl rfl hw_307) ⟨.boolean, Or.inl rfl⟩ dX11_init_351 (by decide) rfl rfl ?_
  refine rx_aload_n dX11_init_354 rfl rfl ?_
  refine rx_sipush (v := nI 264) dX11_init_355 rfl ?_
  refine rx_Wm (mc := 5 + 1) (ms := 7335 + 264) ?_ (by decide) (by decide)
  refine mi_newa (t := 14) hG (Or.inr (Or.inr (Or.inl ⟨rfl, rfl⟩))) hw_814 dX11_init_358 rfl (by decide) (zI_le zI_11 (by decide)) (zR_le zR_93 (by decide)) rfl ?_
  refine mi_putR (R' := iR_94) hG hf_RX11_138 (gw_fin rfl rfl rfl rfl hw_308) ⟨.long, Or.inl rfl⟩ dX11_init_360 (by decide) rfl rfl ?_
  refine rx_aload_n dX11_init_363 rfl rfl ?_
  refine rx_bipush (v := nI 11) dX11_init_364 rfl ?_
  refine rx_Wm (mc := 4 + 1) (ms := 7324 + 11) ?_ (by decide) (by decide)
  refine mi_newa (t := 13) hG (Or.inr (Or.inl ⟨rfl, rfl⟩)) hw_827 dX11_init_366 rfl (by decide) (zI_le zI_11 (by decide)) (zR_le zR_94 (by decide)) rfl ?_
  refine mi_putR (R' := iR_95) hG hf_RX11_141 (gw_fin rfl rfl rfl rfl hw_309) ⟨.int, Or.inl rfl⟩ dX11_init_368 (by decide) rfl rfl ?_
  refine rx_aload_n dX11_init_371 rfl rfl ?_
  refine rx_sipush (v := nI 2100) dX11_init_372 rfl ?_
  refine rx_Wm (mc := 3 + 1) (ms := 5224 + 2100) ?_ (by decide) (by decide)
  refine mi_newa (t := 13) hG (Or.inr (Or.inl ⟨rfl, rfl⟩)) hw_827 dX11_init_375 rfl (by decide) (zI_le zI_11 (by decide)) (zR_le zR_95 (by decide)) rfl ?_
  refine mi_putR (R' := iR_96) hG hf_RX11_144 (gw_fin rfl rfl rfl rfl hw_310) ⟨.int, Or.inl rfl⟩ dX11_init_377 (by decide) rfl rfl ?_
  refine rx_aload_n dX11_init_380 rfl rfl ?_
  refine rx_sipush (v := nI 2100) dX11_init_381 rfl ?_
  refine rx_Wm (mc := 2 + 1) (ms := 3124 + 2100) ?_ (by decide) (by decide)
  refine mi_newa (t := 14) hG (Or.inr (Or.inr (Or.inl ⟨rfl, rfl⟩))) hw_814 dX11_init_384 rfl (by decide) (zI_le zI_11 (by decide)) (zR_le zR_96 (by decide)) rfl ?_
  refine mi_putR (R' := iR_97) hG hf_RX11_147 (gw_fin rfl rfl rfl rfl hw_311) ⟨.long, Or.inl rfl⟩ dX11_init_386 (by decide) rfl rfl ?_
  refine rx_aload_n dX11_init_389 rfl rfl ?_
  refine rx_sipush (v := nI 2100) dX11_init_390 rfl ?_
  refine rx_Wm (mc := 1 + 1) (ms := 1024 + 2100) ?_ (by decide) (by decide)
  refine mi_newa (t := 14) hG (Or.inr (Or.inr (Or.inl ⟨rfl, rfl⟩))) hw_814 dX11_init_393 rfl (by decide) (zI_le zI_11 (by decide)) (zR_le zR_97 (by decide)) rfl ?_
  refine mi_putR (R' := iR_98) hG hf_RX11_150 (gw_fin rfl rfl rfl rfl hw_312) ⟨.long, Or.inl rfl⟩ dX11_init_395 (by decide) rfl rfl ?_
  refine rx_aload_n dX11_init_398 rfl rfl ?_
  refine rx_sipush (v := nI 1024) dX11_init_399 rfl ?_
  refine rx_Wm (mc := 0 + 1) (ms := 0 + 1024) ?_ (by decide) (by decide)
  refine mi_newa (t := 14) hG (Or.inr (Or.inr (Or.inl ⟨rfl, rfl⟩))) hw_814 dX11_init_402 rfl (by decide) (zI_le zI_11 (by decide)) (zR_le zR_98 (by decide)) rfl ?_
  refine mi_putR (R' := iR_99) hG hf_RX11_153 (gw_fin rfl rfl rfl rfl hw_313) ⟨.long, Or.inl rfl⟩ dX11_init_404 (by decide) rfl rfl ?_
  refine rx_aload_n dX11_init_407 rfl rfl ?_
  refine rx_iconst (v := nI 1) dX11_init_408 rfl ?_
  refine mi_putI (I' := iI_12) hG hf_RX11_156 (gw_nf rfl rfl) rfl dX11_init_409 (by decide) rfl rfl rfl rfl ?_
  refine rx_aload_n dX11_init_412 rfl rfl ?_
  refine mi_getR (r := 64) hG hf_RX11_45 rfl dX11_init_413 (by decide) rfl (by decide +kernel) ?_
  refine rx_iconst (v := nI 0) dX11_init_416 rfl ?_
  refine rx_iconst (v := -1) dX11_init_417 rfl ?_
  refine mi_iast (j := 0) (I' := iI_13) hG dX11_init_418 (by decide) rfl rfl (by decide) (by decide) rfl ?_
  refine rx_aload_n dX11_init_419 rfl rfl ?_
  refine mi_getR (r := 70) hG hf_RX11_63 rfl dX11_init_420 (by decide) rfl (by decide +kernel) ?_
  refine rx_iconst (v := nI 0) dX11_init_423 rfl ?_
  refine rx_iconst (v := nI 1) dX11_init_424 rfl ?_
  refine mi_zast (j := 0) (I' := iI_14) hG dX11_init_425 (by decide) rfl rfl (by decide) (by decide) rfl rfl ?_
  refine rx_iconst (v := nI 0) dX11_init_426 rfl ?_
  refine rx_istore_n dX11_init_427 (by decide) ?_
  refine rx_iload_n dX11_init_428 rfl ?_
  refine rx_bipush (v := nI 7) dX11_init_429 rfl ?_
  refine rx_icmp_ge (tgt := 447) dX11_init_431 (by decide) (fun q => absurd q (by decide)) (fun _ => ?_)
  refine rx_aload_n dX11_init_434 rfl rfl ?_
  refine mi_getR (r := 79) hG hf_RX11_90 rfl dX11_init_435 (by decide) rfl (by decide +kernel) ?_
  refine rx_iload_n dX11_init_438 rfl ?_
  refine rx_iconst (v := nI 1) dX11_init_439 rfl ?_
  refine mi_iast (j := 0) (I' := iI_15) hG dX11_init_440 (by decide) rfl rfl (by decide) (by decide) rfl ?_
  refine rx_iinc (v := nI 1) dX11_init_441 rfl (nI_add _ 1) ?_
  refine rx_goto (tgt := 428) dX11_init_444 (by decide) ?_
  refine rx_iload_n dX11_init_428 rfl ?_
  refine rx_bipush (v := nI 7) dX11_init_429 rfl ?_
  refine rx_icmp_ge (tgt := 447) dX11_init_431 (by decide) (fun q => absurd q (by decide)) (fun _ => ?_)
  refine rx_aload_n dX11_init_434 rfl rfl ?_
  refine mi_getR (r := 79) hG hf_RX11_90 rfl dX11_init_435 (by decide) rfl (by decide +kernel) ?_
  refine rx_iload_n dX11_init_438 rfl ?_
  refine rx_iconst (v := nI 1) dX11_init_439 rfl ?_
  refine mi_iast (j := 1) (I' := iI_16) hG dX11_init_440 (by decide) rfl rfl (by decide) (by decide) rfl ?_
  refine rx_iinc (v := nI 2) dX11_init_441 rfl (nI_add _ 1) ?_
  refine rx_goto (tgt := 428) dX11_init_444 (by decide) ?_
  refine rx_iload_n dX11_init_428 rfl ?_
  refine rx_bipush (v := nI 7) dX11_init_429 rfl ?_
  refine rx_icmp_ge (tgt := 447) dX11_init_431 (by decide) (fun q => absurd q (by decide)) (fun _ => ?_)
  refine rx_aload_n dX11_init_434 rfl rfl ?_
  refine mi_getR (r := 79) hG hf_RX11_90 rfl dX11_init_435 (by decide) rfl (by decide +kernel) ?_
  refine rx_iload_n dX11_init_438 rfl ?_
  refine rx_iconst (v := nI 1) dX11_init_439 rfl ?_
  refine mi_iast (j := 2) (I' := iI_17) hG dX11_init_440 (by decide) rfl rfl (by decide) (by decide) rfl ?_
  refine rx_iinc (v := nI 3) dX11_init_441 rfl (nI_add _ 1) ?_
  refine rx_goto (tgt := 428) dX11_init_444 (by decide) ?_
  refine rx_iload_n dX11_init_428 rfl ?_
  refine rx_bipush (v := nI 7) dX11_init_429 rfl ?_
  refine rx_icmp_ge (tgt := 447) dX11_init_431 (by decide) (fun q => absurd q (by decide)) (fun _ => ?_)
  refine rx_aload_n dX11_init_434 rfl rfl ?_
  refine mi_getR (r := 79) hG hf_RX11_90 rfl dX11_init_435 (by decide) rfl (by decide +kernel) ?_
  refine rx_iload_n dX11_init_438 rfl ?_
  refine rx_iconst (v := nI 1) dX11_init_439 rfl ?_
  refine mi_iast (j := 3) (I' := iI_18) hG dX11_init_440 (by decide) rfl rfl (by decide) (by decide) rfl ?_
  refine rx_iinc (v := nI 4) dX11_init_441 rfl (nI_add _ 1) ?_
  refine rx_goto (tgt := 428) dX11_init_444 (by decide) ?_
  refine rx_iload_n dX11_init_428 rfl ?_
  refine rx_bipush (v := nI 7) dX11_init_429 rfl ?_
  refine rx_icmp_ge (tgt := 447) dX11_init_431 (by decide) (fun q => absurd q (by decide)) (fun _ => ?_)
  refine rx_aload_n dX11_init_434 rfl rfl ?_
  refine mi_getR (r := 79) hG hf_RX11_90 rfl dX11_init_435 (by decide) rfl (by decide +kernel) ?_
  refine rx_iload_n dX11_init_438 rfl ?_
  refine rx_iconst (v := nI 1) dX11_init_439 rfl ?_
  refine mi_iast (j := 4) (I' := iI_19) hG dX11_init_440 (by decide) rfl rfl (by decide) (by decide) rfl ?_
  refine rx_iinc (v := nI 5) dX11_init_441 rfl (nI_add _ 1) ?_
  refine rx_goto (tgt := 428) dX11_init_444 (by decide) ?_
  refine rx_iload_n dX11_init_428 rfl ?_
  refine rx_bipush (v := nI 7) dX11_init_429 rfl ?_
  refine rx_icmp_ge (tgt := 447) dX11_init_431 (by decide) (fun q => absurd q (by decide)) (fun _ => ?_)
  refine rx_aload_n dX11_init_434 rfl rfl ?_
  refine mi_getR (r := 79) hG hf_RX11_90 rfl dX11_init_435 (by decide) rfl (by decide +kernel) ?_
  refine rx_iload_n dX11_init_438 rfl ?_
  refine rx_iconst (v := nI 1) dX11_init_439 rfl ?_
  refine mi_iast (j := 5) (I' := iI_20) hG dX11_init_440 (by decide) rfl rfl (by decide) (by decide) rfl ?_
  refine rx_iinc (v := nI 6) dX11_init_441 rfl (nI_add _ 1) ?_
  refine rx_goto (tgt := 428) dX11_init_444 (by decide) ?_
  refine rx_iload_n dX11_init_428 rfl ?_
  refine rx_bipush (v := nI 7) dX11_init_429 rfl ?_
  refine rx_icmp_ge (tgt := 447) dX11_init_431 (by decide) (fun q => absurd q (by decide)) (fun _ => ?_)
  refine rx_aload_n dX11_init_434 rfl rfl ?_
  refine mi_getR (r := 79) hG hf_RX11_90 rfl dX11_init_435 (by decide) rfl (by decide +kernel) ?_
  refine rx_iload_n dX11_init_438 rfl ?_
  refine rx_iconst (v := nI 1) dX11_init_439 rfl ?_
  refine mi_iast (j := 6) (I' := iI_21) hG dX11_init_440 (by decide) rfl rfl (by decide) (by decide) rfl ?_
  refine rx_iinc (v := nI 7) dX11_init_441 rfl (nI_add _ 1) ?_
  refine rx_goto (tgt := 428) dX11_init_444 (by decide) ?_
  refine rx_iload_n dX11_init_428 rfl ?_
  refine rx_bipush (v := nI 7) dX11_init_429 rfl ?_
  refine rx_icmp_ge (tgt := 447) dX11_init_431 (by decide) (fun _ => ?_) (fun q => absurd (by decide) q)
  exact rx_vret rfl dX11_init_447 ⟨rfl, rfl⟩

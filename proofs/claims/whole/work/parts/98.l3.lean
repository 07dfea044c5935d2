set_option maxRecDepth 20000 in
theorem lw_draft {G : rx_E} {tab : List ExceptionTableEntry} {n i mc ms : Nat} {w : wW} {A : wP} {C : rx_M} {S : gs_T} {Q : Option Value → rx_M → Prop} {Z : String → rx_M → Prop} (hG : rx_OK G) (hN : rx_NC G) (hv : vW w n) (hn : n ≤ 512) (hC : rcw A C w) (hS : rmw S w) (hi : i + 10 ≤ G.2.2.2.2.2.1) (kk : ∀ A' C' S' w', vW w' (n + 1) → rcw A' C' w' → rmw S' w' → rx_W G (yL_law, cL_law, 8, some .boolean, tab) 2000 1596 [(4, .int (nI i)), (3, .ref 101), (2, .ref 52), (1, .ref 0), (0, .float 0)] [] (gl C' S') mc ms Q Z) : rx_W G (yL_law, cL_law, 8, some .boolean, tab) 2000 124 [(4, .int (nI i)), (3, .ref 101), (2, .ref 52), (1, .ref 0), (0, .float 0)] [] (gl C S) (8 + mc) (2000 + ms) Q Z := by
  obtain ⟨t, ans, w', ht, hv', hc, hm⟩ := F_draft (d := 1990) hG hN hv hn ((G.2.2.2.2.2.2 (i + 1))) ((((G.2.2.2.2.2.2 (i + 2)).toInt64 <<< ((nI 32).toInt64 &&& 63)) ||| ((G.2.2.2.2.2.2 (i + 3)).toInt64 &&& 4294967295)))
  refine rx_aload_n dL_law_124 rfl rfl ?_
  refine rx_aload_n dL_law_125 rfl rfl ?_
  refine rx_iload dL_law_126 rfl ?_
  refine rx_iconst (v := nI 1) dL_law_128 rfl ?_
  refine rx_iadd dL_law_129 ?_
  refine rx_ti (y := nI (i + 1)) (nI_add _ _) ?_
  refine rx_sld (j := i + 1) hG dL_law_130 rfl (by omega) ?_
  refine rx_aload_n dL_law_131 rfl rfl ?_
  refine rx_iload dL_law_132 rfl ?_
  refine rx_iconst (v := nI 2) dL_law_134 rfl ?_
  refine rx_iadd dL_law_135 ?_
  refine rx_ti (y := nI (i + 2)) (nI_add _ _) ?_
  refine rx_sld (j := i + 2) hG dL_law_136 rfl (by omega) ?_
  refine rx_i2l dL_law_137 ?_
  refine rx_bipush (v := nI 32) dL_law_138 rfl ?_
  refine rx_lshl dL_law_140 ?_
  refine rx_aload_n dL_law_141 rfl rfl ?_
  refine rx_iload dL_law_142 rfl ?_
  refine rx_iconst (v := nI 3) dL_law_144 rfl ?_
  refine rx_iadd dL_law_145 ?_
  refine rx_ti (y := nI (i + 3)) (nI_add _ _) ?_
  refine rx_sld (j := i + 3) hG dL_law_146 rfl (by omega) ?_
  refine rx_i2l dL_law_147 ?_
  refine rx_ldc2 hG hw_895 dL_law_148 ?_
  refine rx_land dL_law_151 ?_
  refine rx_lor dL_law_152 ?_
  refine rx_aload_n dL_law_153 rfl rfl ?_
  refine rx_invH (mc := mc) (ms := ms) (mc' := 8) (ms' := 2000) (as := [.ref _, .int _, .long _, .ref _]) hG okL_draft lk_RL_84 dL_law_154 rfl (by simp) (hc A C S hC) ?_
  rintro _ _ ⟨rfl, A', C', rfl, hC', h0⟩
  refine rx_istore dL_law_157 (Nat.le_of_ble_eq_true rfl) ?_
  refine rx_aload_n dL_law_159 rfl rfl ?_
  refine rx_aload_n dL_law_160 rfl rfl ?_
  refine rx_iload dL_law_161 rfl ?_
  refine rx_iconst (v := nI 1) dL_law_163 rfl ?_
  refine rx_iadd dL_law_164 ?_
  refine rx_ti (y := nI (i + 1)) (nI_add _ _) ?_
  refine rx_sld (j := i + 1) hG dL_law_165 rfl (by omega) ?_
  refine rx_aload_n dL_law_166 rfl rfl ?_
  refine rx_iload dL_law_167 rfl ?_
  refine rx_iconst (v := nI 2) dL_law_169 rfl ?_
  refine rx_iadd dL_law_170 ?_
  refine rx_ti (y := nI (i + 2)) (nI_add _ _) ?_
  refine rx_sld (j := i + 2) hG dL_law_171 rfl (by omega) ?_
  refine rx_i2l dL_law_172 ?_
  refine rx_bipush (v := nI 32) dL_law_173 rfl ?_
  refine rx_lshl dL_law_175 ?_
  refine rx_aload_n dL_law_176 rfl rfl ?_
  refine rx_iload dL_law_177 rfl ?_
  refine rx_iconst (v := nI 3) dL_law_179 rfl ?_
  refine rx_iadd dL_law_180 ?_
  refine rx_ti (y := nI (i + 3)) (nI_add _ _) ?_
  refine rx_sld (j := i + 3) hG dL_law_181 rfl (by omega) ?_
  refine rx_i2l dL_law_182 ?_
  refine rx_ldc2 hG hw_895 dL_law_183 ?_
  refine rx_land dL_law_186 ?_
  refine rx_lor dL_law_187 ?_
  refine gv_invV (as := [.int _, .long _]) hG okX11_draft lk_RL_89 rfl rfl dL_law_188 rfl (by simp) (hm C' S hS) ?_
  rintro _ _ ⟨S', r, rfl, rfl, hS', ht0, hr⟩
  refine rx_istore dL_law_191 (Nat.le_of_ble_eq_true rfl) ?_
  refine rx_aload_n dL_law_193 rfl rfl ?_
  refine gv_invV (as := []) hG okX11_thrown lk_RL_90 rfl rfl dL_law_194 rfl (by simp) (cm_thrown hG) ?_
  rintro _ _ ⟨rfl, rfl⟩
  refine rx_iload dL_law_197 rfl ?_
  refine rx_icmp_eq (tgt := 204) dL_law_199 (by decide) (fun _ => ?_) (fun q => absurd ht0 q)
  refine rx_iload dL_law_204 rfl ?_
  by_cases h00 : t = 0
  · subst h00
    refine rx_if_ne (tgt := 221) dL_law_206 (by decide) (fun q => absurd nI_0 q) (fun _ => ?_)
    refine rx_aload_n dL_law_209 rfl rfl ?_
    refine rx_iconst (v := nI 0) dL_law_210 rfl ?_
    refine gcv_lald (j := 0) (v := ans) hG dL_law_211 rfl rfl rfl rfl (by decide) (by decide) (h0 rfl) ?_
    refine rx_iload dL_law_212 rfl ?_
    refine rx_i2l dL_law_214 ?_
    refine rx_lc_eq (tgt := 221) dL_law_215 dL_law_216 (by decide) (fun _ => ?_) (fun q => absurd (hr rfl).symm q)
    refine rx_goto (tgt := 1596) dL_law_221 (by decide) ?_
    refine rx_lv (lv' := [(4, .int (nI i)), (3, .ref 101), (2, .ref 52), (1, .ref 0), (0, .float 0)]) ⟨rfl, rfl, rfl, rfl, rfl, trivial⟩ ?_
    exact kk A' C' S' w' hv' hC' hS'
  · refine rx_if_ne (tgt := 221) dL_law_206 (by decide) (fun _ => ?_) (fun q => absurd q (by rw [← nI_0, nI_eq (by omega) (by omega)]; exact h00))
    refine rx_goto (tgt := 1596) dL_law_221 (by decide) ?_
    refine rx_lv (lv' := [(4, .int (nI i)), (3, .ref 101), (2, .ref 52), (1, .ref 0), (0, .float 0)]) ⟨rfl, rfl, rfl, rfl, rfl, trivial⟩ ?_
    exact kk A' C' S' w' hv' hC' hS'
set_option maxRecDepth 20000 in
theorem lw_code {G : rx_E} {tab : List ExceptionTableEntry} {n i mc ms : Nat} {w : wW} {A : wP} {C : rx_M} {S : gs_T} {Q : Option Value → rx_M → Prop} {Z : String → rx_M → Prop} (hG : rx_OK G) (hN : rx_NC G) (hv : vW w n) (hn : n ≤ 512) (hC : rcw A C w) (hS : rmw S w) (hi : i + 10 ≤ G.2.2.2.2.2.1) (kk : ∀ A' C' S' w', vW w' (n + 1) → rcw A' C' w' → rmw S' w' → rx_W G (yL_law, cL_law, 8, some .boolean, tab) 2000 1596 [(4, .int (nI i)), (3, .ref 101), (2, .ref 52), (1, .ref 0), (0, .float 0)] [] (gl C' S') mc ms Q Z) : rx_W G (yL_law, cL_law, 8, some .boolean, tab) 2000 224 [(4, .int (nI i)), (3, .ref 101), (2, .ref 52), (1, .ref 0), (0, .float 0)] [] (gl C S) (8 + mc) (2000 + ms) Q Z := by
  obtain ⟨t, ans, w', ht, hv', hc, hm⟩ := F_code (d := 1990) hG hN hv hn 
  refine rx_aload_n dL_law_224 rfl rfl ?_
  refine rx_aload_n dL_law_225 rfl rfl ?_
  refine rx_invH (mc := mc) (ms := ms) (mc' := 8) (ms' := 2000) (as := [.ref _, .ref _]) hG okL_code lk_RL_93 dL_law_226 rfl (by simp) (hc A C S hC) ?_
  rintro _ _ ⟨rfl, A', C', rfl, hC', h0⟩
  refine rx_istore dL_law_229 (Nat.le_of_ble_eq_true rfl) ?_
  refine rx_aload_n dL_law_231 rfl rfl ?_
  refine gv_invV (as := []) hG okX11_code lk_RL_96 rfl rfl dL_law_232 rfl (by simp) (hm C' S hS) ?_
  rintro _ _ ⟨S', r, rfl, rfl, hS', ht0, hr⟩
  refine rx_istore dL_law_235 (Nat.le_of_ble_eq_true rfl) ?_
  refine rx_aload_n dL_law_237 rfl rfl ?_
  refine gv_invV (as := []) hG okX11_thrown lk_RL_90 rfl rfl dL_law_238 rfl (by simp) (cm_thrown hG) ?_
  rintro _ _ ⟨rfl, rfl⟩
  refine rx_iload dL_law_241 rfl ?_
  refine rx_icmp_eq (tgt := 248) dL_law_243 (by decide) (fun _ => ?_) (fun q => absurd ht0 q)
  refine rx_iload dL_law_248 rfl ?_
  by_cases h00 : t = 0
  · subst h00
    refine rx_if_ne (tgt := 265) dL_law_250 (by decide) (fun q => absurd nI_0 q) (fun _ => ?_)
    refine rx_aload_n dL_law_253 rfl rfl ?_
    refine rx_iconst (v := nI 0) dL_law_254 rfl ?_
    refine gcv_lald (j := 0) (v := ans) hG dL_law_255 rfl rfl rfl rfl (by decide) (by decide) (h0 rfl) ?_
    refine rx_iload dL_law_256 rfl ?_
    refine rx_i2l dL_law_258 ?_
    refine rx_lc_eq (tgt := 265) dL_law_259 dL_law_260 (by decide) (fun _ => ?_) (fun q => absurd (hr rfl).symm q)
    refine rx_goto (tgt := 1596) dL_law_265 (by decide) ?_
    refine rx_lv (lv' := [(4, .int (nI i)), (3, .ref 101), (2, .ref 52), (1, .ref 0), (0, .float 0)]) ⟨rfl, rfl, rfl, rfl, rfl, trivial⟩ ?_
    exact kk A' C' S' w' hv' hC' hS'
  · refine rx_if_ne (tgt := 265) dL_law_250 (by decide) (fun _ => ?_) (fun q => absurd q (by rw [← nI_0, nI_eq (by omega) (by omega)]; exact h00))
    refine rx_goto (tgt := 1596) dL_law_265 (by decide) ?_
    refine rx_lv (lv' := [(4, .int (nI i)), (3, .ref 101), (2, .ref 52), (1, .ref 0), (0, .float 0)]) ⟨rfl, rfl, rfl, rfl, rfl, trivial⟩ ?_
    exact kk A' C' S' w' hv' hC' hS'
set_option maxRecDepth 20000 in
theorem lw_endow {G : rx_E} {tab : List ExceptionTableEntry} {n i mc ms : Nat} {w : wW} {A : wP} {C : rx_M} {S : gs_T} {Q : Option Value → rx_M → Prop} {Z : String → rx_M → Prop} (hG : rx_OK G) (hN : rx_NC G) (hv : vW w n) (hn : n ≤ 512) (hC : rcw A C w) (hS : rmw S w) (hi : i + 10 ≤ G.2.2.2.2.2.1) (kk : ∀ A' C' S' w', vW w' (n + 1) → rcw A' C' w' → rmw S' w' → rx_W G (yL_law, cL_law, 8, some .boolean, tab) 2000 1596 [(4, .int (nI i)), (3, .ref 101), (2, .ref 52), (1, .ref 0), (0, .float 0)] [] (gl C' S') mc ms Q Z) : rx_W G (yL_law, cL_law, 8, some .boolean, tab) 2000 268 [(4, .int (nI i)), (3, .ref 101), (2, .ref 52), (1, .ref 0), (0, .float 0)] [] (gl C S) (8 + mc) (2000 + ms) Q Z := by
  obtain ⟨t, w', ht, hv', hc, hm⟩ := F_endow (d := 1990) hG hN hv hn ((G.2.2.2.2.2.2 (i + 1))) ((((G.2.2.2.2.2.2 (i + 2)).toInt64 <<< ((nI 32).toInt64 &&& 63)) ||| ((G.2.2.2.2.2.2 (i + 3)).toInt64 &&& 4294967295))) ((G.2.2.2.2.2.2 (i + 4)))
  refine rx_aload_n dL_law_268 rfl rfl ?_
  refine rx_aload_n dL_law_269 rfl rfl ?_
  refine rx_iload dL_law_270 rfl ?_
  refine rx_iconst (v := nI 1) dL_law_272 rfl ?_
  refine rx_iadd dL_law_273 ?_
  refine rx_ti (y := nI (i + 1)) (nI_add _ _) ?_
  refine rx_sld (j := i + 1) hG dL_law_274 rfl (by omega) ?_
  refine rx_aload_n dL_law_275 rfl rfl ?_
  refine rx_iload dL_law_276 rfl ?_
  refine rx_iconst (v := nI 2) dL_law_278 rfl ?_
  refine rx_iadd dL_law_279 ?_
  refine rx_ti (y := nI (i + 2)) (nI_add _ _) ?_
  refine rx_sld (j := i + 2) hG dL_law_280 rfl (by omega) ?_
  refine rx_i2l dL_law_281 ?_
  refine rx_bipush (v := nI 32) dL_law_282 rfl ?_
  refine rx_lshl dL_law_284 ?_
  refine rx_aload_n dL_law_285 rfl rfl ?_
  refine rx_iload dL_law_286 rfl ?_
  refine rx_iconst (v := nI 3) dL_law_288 rfl ?_
  refine rx_iadd dL_law_289 ?_
  refine rx_ti (y := nI (i + 3)) (nI_add _ _) ?_
  refine rx_sld (j := i + 3) hG dL_law_290 rfl (by omega) ?_
  refine rx_i2l dL_law_291 ?_
  refine rx_ldc2 hG hw_895 dL_law_292 ?_
  refine rx_land dL_law_295 ?_
  refine rx_lor dL_law_296 ?_
  refine rx_aload_n dL_law_297 rfl rfl ?_
  refine rx_iload dL_law_298 rfl ?_
  refine rx_iconst (v := nI 4) dL_law_300 rfl ?_
  refine rx_iadd dL_law_301 ?_
  refine rx_ti (y := nI (i + 4)) (nI_add _ _) ?_
  refine rx_sld (j := i + 4) hG dL_law_302 rfl (by omega) ?_
  refine rx_invH (mc := mc) (ms := ms) (mc' := 8) (ms' := 2000) (as := [.ref _, .int _, .long _, .int _]) hG okL_endow lk_RL_97 dL_law_303 rfl (by simp) (hc A C S hC) ?_
  rintro _ _ ⟨rfl, A', C', rfl, hC'⟩
  refine rx_istore dL_law_306 (Nat.le_of_ble_eq_true rfl) ?_
  refine rx_aload_n dL_law_308 rfl rfl ?_
  refine rx_aload_n dL_law_309 rfl rfl ?_
  refine rx_iload dL_law_310 rfl ?_
  refine rx_iconst (v := nI 1) dL_law_312 rfl ?_
  refine rx_iadd dL_law_313 ?_
  refine rx_ti (y := nI (i + 1)) (nI_add _ _) ?_
  refine rx_sld (j := i + 1) hG dL_law_314 rfl (by omega) ?_
  refine rx_aload_n dL_law_315 rfl rfl ?_
  refine rx_iload dL_law_316 rfl ?_
  refine rx_iconst (v := nI 2) dL_law_318 rfl ?_
  refine rx_iadd dL_law_319 ?_
  refine rx_ti (y := nI (i + 2)) (nI_add _ _) ?_
  refine rx_sld (j := i + 2) hG dL_law_320 rfl (by omega) ?_
  refine rx_i2l dL_law_321 ?_
  refine rx_bipush (v := nI 32) dL_law_322 rfl ?_
  refine rx_lshl dL_law_324 ?_
  refine rx_aload_n dL_law_325 rfl rfl ?_
  refine rx_iload dL_law_326 rfl ?_
  refine rx_iconst (v := nI 3) dL_law_328 rfl ?_
  refine rx_iadd dL_law_329 ?_
  refine rx_ti (y := nI (i + 3)) (nI_add _ _) ?_
  refine rx_sld (j := i + 3) hG dL_law_330 rfl (by omega) ?_
  refine rx_i2l dL_law_331 ?_
  refine rx_ldc2 hG hw_895 dL_law_332 ?_
  refine rx_land dL_law_335 ?_
  refine rx_lor dL_law_336 ?_
  refine rx_aload_n dL_law_337 rfl rfl ?_
  refine rx_iload dL_law_338 rfl ?_
  refine rx_iconst (v := nI 4) dL_law_340 rfl ?_
  refine rx_iadd dL_law_341 ?_
  refine rx_ti (y := nI (i + 4)) (nI_add _ _) ?_
  refine rx_sld (j := i + 4) hG dL_law_342 rfl (by omega) ?_
  refine gv_invV (as := [.int _, .long _, .int _]) hG okX11_endow lk_RL_100 rfl rfl dL_law_343 rfl (by simp) (hm C' S hS) ?_
  rintro _ _ ⟨S', rfl, rfl, hS', ht0⟩
  refine rx_aload_n dL_law_346 rfl rfl ?_
  refine gv_invV (as := []) hG okX11_thrown lk_RL_90 rfl rfl dL_law_347 rfl (by simp) (cm_thrown hG) ?_
  rintro _ _ ⟨rfl, rfl⟩
  refine rx_iload dL_law_350 rfl ?_
  refine rx_icmp_eq (tgt := 357) dL_law_352 (by decide) (fun _ => ?_) (fun q => absurd ht0 q)
  refine rx_goto (tgt := 1596) dL_law_357 (by decide) ?_
  refine rx_lv (lv' := [(4, .int (nI i)), (3, .ref 101), (2, .ref 52), (1, .ref 0), (0, .float 0)]) ⟨rfl, rfl, rfl, rfl, rfl, trivial⟩ ?_
  exact kk A' C' S' w' hv' hC' hS'
set_option maxRecDepth 20000 in
theorem lw_weight {G : rx_E} {tab : List ExceptionTableEntry} {n i mc ms : Nat} {w : wW} {A : wP} {C : rx_M} {S : gs_T} {Q : Option Value → rx_M → Prop} {Z : String → rx_M → Prop} (hG : rx_OK G) (hN : rx_NC G) (hv : vW w n) (hn : n ≤ 512) (hC : rcw A C w) (hS : rmw S w) (hi : i + 10 ≤ G.2.2.2.2.2.1) (kk : ∀ A' C' S' w', vW w' (n + 1) → rcw A' C' w' → rmw S' w' → rx_W G (yL_law, cL_law, 8, some .boolean, tab) 2000 1596 [(4, .int (nI i)), (3, .ref 101), (2, .ref 52), (1, .ref 0), (0, .float 0)] [] (gl C' S') mc ms Q Z) : rx_W G (yL_law, cL_law, 8, some .boolean, tab) 2000 360 [(4, .int (nI i)), (3, .ref 101), (2, .ref 52), (1, .ref 0), (0, .float 0)] [] (gl C S) (8 + mc) (2000 + ms) Q Z := by
  obtain ⟨t, w', ht, hv', hc, hm⟩ := F_weight (d := 1990) hG hN hv hn ((G.2.2.2.2.2.2 (i + 1))) ((G.2.2.2.2.2.2 (i + 2)))
  refine rx_aload_n dL_law_360 rfl rfl ?_
  refine rx_aload_n dL_law_361 rfl rfl ?_
  refine rx_iload dL_law_362 rfl ?_
  refine rx_iconst (v := nI 1) dL_law_364 rfl ?_
  refine rx_iadd dL_law_365 ?_
  refine rx_ti (y := nI (i + 1)) (nI_add _ _) ?_
  refine rx_sld (j := i + 1) hG dL_law_366 rfl (by omega) ?_
  refine rx_aload_n dL_law_367 rfl rfl ?_
  refine rx_iload dL_law_368 rfl ?_
  refine rx_iconst (v := nI 2) dL_law_370 rfl ?_
  refine rx_iadd dL_law_371 ?_
  refine rx_ti (y := nI (i + 2)) (nI_add _ _) ?_
  refine rx_sld (j := i + 2) hG dL_law_372 rfl (by omega) ?_
  refine rx_invH (mc := mc) (ms := ms) (mc' := 8) (ms' := 2000) (as := [.ref _, .int _, .int _]) hG okL_weight lk_RL_101 dL_law_373 rfl (by simp) (hc A C S hC) ?_
  rintro _ _ ⟨rfl, A', C', rfl, hC'⟩
  refine rx_istore dL_law_376 (Nat.le_of_ble_eq_true rfl) ?_
  refine rx_aload_n dL_law_378 rfl rfl ?_
  refine rx_aload_n dL_law_379 rfl rfl ?_
  refine rx_iload dL_law_380 rfl ?_
  refine rx_iconst (v := nI 1) dL_law_382 rfl ?_
  refine rx_iadd dL_law_383 ?_
  refine rx_ti (y := nI (i + 1)) (nI_add _ _) ?_
  refine rx_sld (j := i + 1) hG dL_law_384 rfl (by omega) ?_
  refine rx_aload_n dL_law_385 rfl rfl ?_
  refine rx_iload dL_law_386 rfl ?_
  refine rx_iconst (v := nI 2) dL_law_388 rfl ?_
  refine rx_iadd dL_law_389 ?_
  refine rx_ti (y := nI (i + 2)) (nI_add _ _) ?_
  refine rx_sld (j := i + 2) hG dL_law_390 rfl (by omega) ?_
  refine gv_invV (as := [.int _, .int _]) hG okX11_weight lk_RL_104 rfl rfl dL_law_391 rfl (by simp) (hm C' S hS) ?_
  rintro _ _ ⟨S', rfl, rfl, hS', ht0⟩
  refine rx_aload_n dL_law_394 rfl rfl ?_
  refine gv_invV (as := []) hG okX11_thrown lk_RL_90 rfl rfl dL_law_395 rfl (by simp) (cm_thrown hG) ?_
  rintro _ _ ⟨rfl, rfl⟩
  refine rx_iload dL_law_398 rfl ?_
  refine rx_icmp_eq (tgt := 405) dL_law_400 (by decide) (fun _ => ?_) (fun q => absurd ht0 q)
  refine rx_goto (tgt := 1596) dL_law_405 (by decide) ?_
  refine rx_lv (lv' := [(4, .int (nI i)), (3, .ref 101), (2, .ref 52), (1, .ref 0), (0, .float 0)]) ⟨rfl, rfl, rfl, rfl, rfl, trivial⟩ ?_
  exact kk A' C' S' w' hv' hC' hS'
set_option maxRecDepth 20000 in
theorem lw_order {G : rx_E} {tab : List ExceptionTableEntry} {n i mc ms : Nat} {w : wW} {A : wP} {C : rx_M} {S : gs_T} {Q : Option Value → rx_M → Prop} {Z : String → rx_M → Prop} (hG : rx_OK G) (hN : rx_NC G) (hv : vW w n) (hn : n ≤ 512) (hC : rcw A C w) (hS : rmw S w) (hi : i + 10 ≤ G.2.2.2.2.2.1) (kk : ∀ A' C' S' w', vW w' (n + 1) → rcw A' C' w' → rmw S' w' → rx_W G (yL_law, cL_law, 8, some .boolean, tab) 2000 1596 [(4, .int (nI i)), (3, .ref 101), (2, .ref 52), (1, .ref 0), (0, .float 0)] [] (gl C' S') mc ms Q Z) : rx_W G (yL_law, cL_law, 8, some .boolean, tab) 2000 408 [(4, .int (nI i)), (3, .ref 101), (2, .ref 52), (1, .ref 0), (0, .float 0)] [] (gl C S) (8 + mc) (2000 + ms) Q Z := by
  obtain ⟨t, ans, w', ht, hv', hc, hm⟩ := F_order (d := 1990) hG hN hv hn ((G.2.2.2.2.2.2 (i + 1))) ((G.2.2.2.2.2.2 (i + 2))) ((((G.2.2.2.2.2.2 (i + 3)).toInt64 <<< ((nI 32).toInt64 &&& 63)) ||| ((G.2.2.2.2.2.2 (i + 4)).toInt64 &&& 4294967295))) ((((G.2.2.2.2.2.2 (i + 5)).toInt64 <<< ((nI 32).toInt64 &&& 63)) ||| ((G.2.2.2.2.2.2 (i + 6)).toInt64 &&& 4294967295))) ((G.2.2.2.2.2.2 (i + 7))) ((G.2.2.2.2.2.2 (i + 8))) ((G.2.2.2.2.2.2 (i + 9)))
  refine rx_aload_n dL_law_408 rfl rfl ?_
  refine rx_aload_n dL_law_409 rfl rfl ?_
  refine rx_iload dL_law_410 rfl ?_
  refine rx_iconst (v := nI 1) dL_law_412 rfl ?_
  refine rx_iadd dL_law_413 ?_
  refine rx_ti (y := nI (i + 1)) (nI_add _ _) ?_
  refine rx_sld (j := i + 1) hG dL_law_414 rfl (by omega) ?_
  refine rx_aload_n dL_law_415 rfl rfl ?_
  refine rx_iload dL_law_416 rfl ?_
  refine rx_iconst (v := nI 2) dL_law_418 rfl ?_
  refine rx_iadd dL_law_419 ?_
  refine rx_ti (y := nI (i + 2)) (nI_add _ _) ?_
  refine rx_sld (j := i + 2) hG dL_law_420 rfl (by omega) ?_
  refine rx_aload_n dL_law_421 rfl rfl ?_
  refine rx_iload dL_law_422 rfl ?_
  refine rx_iconst (v := nI 3) dL_law_424 rfl ?_
  refine rx_iadd dL_law_425 ?_
  refine rx_ti (y := nI (i + 3)) (nI_add _ _) ?_
  refine rx_sld (j := i + 3) hG dL_law_426 rfl (by omega) ?_
  refine rx_i2l dL_law_427 ?_
  refine rx_bipush (v := nI 32) dL_law_428 rfl ?_
  refine rx_lshl dL_law_430 ?_
  refine rx_aload_n dL_law_431 rfl rfl ?_
  refine rx_iload dL_law_432 rfl ?_
  refine rx_iconst (v := nI 4) dL_law_434 rfl ?_
  refine rx_iadd dL_law_435 ?_
  refine rx_ti (y := nI (i + 4)) (nI_add _ _) ?_
  refine rx_sld (j := i + 4) hG dL_law_436 rfl (by omega) ?_
  refine rx_i2l dL_law_437 ?_
  refine rx_ldc2 hG hw_895 dL_law_438 ?_
  refine rx_land dL_law_441 ?_
  refine rx_lor dL_law_442 ?_
  refine rx_aload_n dL_law_443 rfl rfl ?_
  refine rx_iload dL_law_444 rfl ?_
  refine rx_iconst (v := nI 5) dL_law_446 rfl ?_
  refine rx_iadd dL_law_447 ?_
  refine rx_ti (y := nI (i + 5)) (nI_add _ _) ?_
  refine rx_sld (j := i + 5) hG dL_law_448 rfl (by omega) ?_
  refine rx_i2l dL_law_449 ?_
  refine rx_bipush (v := nI 32) dL_law_450 rfl ?_
  refine rx_lshl dL_law_452 ?_
  refine rx_aload_n dL_law_453 rfl rfl ?_
  refine rx_iload dL_law_454 rfl ?_
  refine rx_bipush (v := nI 6) dL_law_456 rfl ?_
  refine rx_iadd dL_law_458 ?_
  refine rx_ti (y := nI (i + 6)) (nI_add _ _) ?_
  refine rx_sld (j := i + 6) hG dL_law_459 rfl (by omega) ?_
  refine rx_i2l dL_law_460 ?_
  refine rx_ldc2 hG hw_895 dL_law_461 ?_
  refine rx_land dL_law_464 ?_
  refine rx_lor dL_law_465 ?_
  refine rx_aload_n dL_law_466 rfl rfl ?_
  refine rx_iload dL_law_467 rfl ?_
  refine rx_bipush (v := nI 7) dL_law_469 rfl ?_
  refine rx_iadd dL_law_471 ?_
  refine rx_ti (y := nI (i + 7)) (nI_add _ _) ?_
  refine rx_sld (j := i + 7) hG dL_law_472 rfl (by omega) ?_
  refine rx_aload_n dL_law_473 rfl rfl ?_
  refine rx_iload dL_law_474 rfl ?_
  refine rx_bipush (v := nI 8) dL_law_476 rfl ?_
  refine rx_iadd dL_law_478 ?_
  refine rx_ti (y := nI (i + 8)) (nI_add _ _) ?_
  refine rx_sld (j := i + 8) hG dL_law_479 rfl (by omega) ?_
  refine rx_aload_n dL_law_480 rfl rfl ?_
  refine rx_iload dL_law_481 rfl ?_
  refine rx_bipush (v := nI 9) dL_law_483 rfl ?_
  refine rx_iadd dL_law_485 ?_
  refine rx_ti (y := nI (i + 9)) (nI_add _ _) ?_
  refine rx_sld (j := i + 9) hG dL_law_486 rfl (by omega) ?_
  refine rx_aload_n dL_law_487 rfl rfl ?_
  refine rx_invH (mc := mc) (ms := ms) (mc' := 8) (ms' := 2000) (as := [.ref _, .int _, .int _, .long _, .long _, .int _, .int _, .int _, .ref _]) hG okL_order lk_RL_105 dL_law_488 rfl (by simp) (hc A C S hC) ?_
  rintro _ _ ⟨rfl, A', C', rfl, hC', h0⟩
  refine rx_istore dL_law_491 (Nat.le_of_ble_eq_true rfl) ?_
  refine rx_aload_n dL_law_493 rfl rfl ?_
  refine rx_aload_n dL_law_494 rfl rfl ?_
  refine rx_iload dL_law_495 rfl ?_
  refine rx_iconst (v := nI 1) dL_law_497 rfl ?_
  refine rx_iadd dL_law_498 ?_
  refine rx_ti (y := nI (i + 1)) (nI_add _ _) ?_
  refine rx_sld (j := i + 1) hG dL_law_499 rfl (by omega) ?_
  refine rx_aload_n dL_law_500 rfl rfl ?_
  refine rx_iload dL_law_501 rfl ?_
  refine rx_iconst (v := nI 2) dL_law_503 rfl ?_
  refine rx_iadd dL_law_504 ?_
  refine rx_ti (y := nI (i + 2)) (nI_add _ _) ?_
  refine rx_sld (j := i + 2) hG dL_law_505 rfl (by omega) ?_
  refine rx_aload_n dL_law_506 rfl rfl ?_
  refine rx_iload dL_law_507 rfl ?_
  refine rx_iconst (v := nI 3) dL_law_509 rfl ?_
  refine rx_iadd dL_law_510 ?_
  refine rx_ti (y := nI (i + 3)) (nI_add _ _) ?_
  refine rx_sld (j := i + 3) hG dL_law_511 rfl (by omega) ?_
  refine rx_i2l dL_law_512 ?_
  refine rx_bipush (v := nI 32) dL_law_513 rfl ?_
  refine rx_lshl dL_law_515 ?_
  refine rx_aload_n dL_law_516 rfl rfl ?_
  refine rx_iload dL_law_517 rfl ?_
  refine rx_iconst (v := nI 4) dL_law_519 rfl ?_
  refine rx_iadd dL_law_520 ?_
  refine rx_ti (y := nI (i + 4)) (nI_add _ _) ?_
  refine rx_sld (j := i + 4) hG dL_law_521 rfl (by omega) ?_
  refine rx_i2l dL_law_522 ?_
  refine rx_ldc2 hG hw_895 dL_law_523 ?_
  refine rx_land dL_law_526 ?_
  refine rx_lor dL_law_527 ?_
  refine rx_aload_n dL_law_528 rfl rfl ?_
  refine rx_iload dL_law_529 rfl ?_
  refine rx_iconst (v := nI 5) dL_law_531 rfl ?_
  refine rx_iadd dL_law_532 ?_
  refine rx_ti (y := nI (i + 5)) (nI_add _ _) ?_
  refine rx_sld (j := i + 5) hG dL_law_533 rfl (by omega) ?_
  refine rx_i2l dL_law_534 ?_
  refine rx_bipush (v := nI 32) dL_law_535 rfl ?_
  refine rx_lshl dL_law_537 ?_
  refine rx_aload_n dL_law_538 rfl rfl ?_
  refine rx_iload dL_law_539 rfl ?_
  refine rx_bipush (v := nI 6) dL_law_541 rfl ?_
  refine rx_iadd dL_law_543 ?_
  refine rx_ti (y := nI (i + 6)) (nI_add _ _) ?_
  refine rx_sld (j := i + 6) hG dL_law_544 rfl (by omega) ?_
  refine rx_i2l dL_law_545 ?_
  refine rx_ldc2 hG hw_895 dL_law_546 ?_
  refine rx_land dL_law_549 ?_
  refine rx_lor dL_law_550 ?_
  refine rx_aload_n dL_law_551 rfl rfl ?_
  refine rx_iload dL_law_552 rfl ?_
  refine rx_bipush (v := nI 7) dL_law_554 rfl ?_
  refine rx_iadd dL_law_556 ?_
  refine rx_ti (y := nI (i + 7)) (nI_add _ _) ?_
  refine rx_sld (j := i + 7) hG dL_law_557 rfl (by omega) ?_
  refine rx_aload_n dL_law_558 rfl rfl ?_
  refine rx_iload dL_law_559 rfl ?_
  refine rx_bipush (v := nI 8) dL_law_561 rfl ?_
  refine rx_iadd dL_law_563 ?_
  refine rx_ti (y := nI (i + 8)) (nI_add _ _) ?_
  refine rx_sld (j := i + 8) hG dL_law_564 rfl (by omega) ?_
  refine rx_aload_n dL_law_565 rfl rfl ?_
  refine rx_iload dL_law_566 rfl ?_
  refine rx_bipush (v := nI 9) dL_law_568 rfl ?_
  refine rx_iadd dL_law_570 ?_
  refine rx_ti (y := nI (i + 9)) (nI_add _ _) ?_
  refine rx_sld (j := i + 9) hG dL_law_571 rfl (by omega) ?_
  refine gv_invV (as := [.int _, .int _, .long _, .long _, .int _, .int _, .int _]) hG okX11_order lk_RL_108 rfl rfl dL_law_572 rfl (by simp) (hm C' S hS) ?_
  rintro _ _ ⟨S', r, rfl, rfl, hS', ht0, hr⟩
  refine rx_istore dL_law_575 (Nat.le_of_ble_eq_true rfl) ?_
  refine rx_aload_n dL_law_577 rfl rfl ?_
  refine gv_invV (as := []) hG okX11_thrown lk_RL_90 rfl rfl dL_law_578 rfl (by simp) (cm_thrown hG) ?_
  rintro _ _ ⟨rfl, rfl⟩
  refine rx_iload dL_law_581 rfl ?_
  refine rx_icmp_eq (tgt := 588) dL_law_583 (by decide) (fun _ => ?_) (fun q => absurd ht0 q)
  refine rx_iload dL_law_588 rfl ?_
  by_cases h00 : t = 0
  · subst h00
    refine rx_if_ne (tgt := 605) dL_law_590 (by decide) (fun q => absurd nI_0 q) (fun _ => ?_)
    refine rx_aload_n dL_law_593 rfl rfl ?_
    refine rx_iconst (v := nI 0) dL_law_594 rfl ?_
    refine gcv_lald (j := 0) (v := ans) hG dL_law_595 rfl rfl rfl rfl (by decide) (by decide) (h0 rfl) ?_
    refine rx_iload dL_law_596 rfl ?_
    refine rx_i2l dL_law_598 ?_
    refine rx_lc_eq (tgt := 605) dL_law_599 dL_law_600 (by decide) (fun _ => ?_) (fun q => absurd (hr rfl).symm q)
    refine rx_goto (tgt := 1596) dL_law_605 (by decide) ?_
    refine rx_lv (lv' := [(4, .int (nI i)), (3, .ref 101), (2, .ref 52), (1, .ref 0), (0, .float 0)]) ⟨rfl, rfl, rfl, rfl, rfl, trivial⟩ ?_
    exact kk A' C' S' w' hv' hC' hS'
  · refine rx_if_ne (tgt := 605) dL_law_590 (by decide) (fun _ => ?_) (fun q => absurd q (by rw [← nI_0, nI_eq (by omega) (by omega)]; exact h00))
    refine rx_goto (tgt := 1596) dL_law_605 (by decide) ?_
    refine rx_lv (lv' := [(4, .int (nI i)), (3, .ref 101), (2, .ref 52), (1, .ref 0), (0, .float 0)]) ⟨rfl, rfl, rfl, rfl, rfl, trivial⟩ ?_
    exact kk A' C' S' w' hv' hC' hS'
set_option maxRecDepth 20000 in
theorem lw_block {G : rx_E} {tab : List ExceptionTableEntry} {n i mc ms : Nat} {w : wW} {A : wP} {C : rx_M} {S : gs_T} {Q : Option Value → rx_M → Prop} {Z : String → rx_M → Prop} (hG : rx_OK G) (hN : rx_NC G) (hv : vW w n) (hn : n ≤ 512) (hC : rcw A C w) (hS : rmw S w) (hi : i + 10 ≤ G.2.2.2.2.2.1) (kk : ∀ A' C' S' w', vW w' (n + 1) → rcw A' C' w' → rmw S' w' → rx_W G (yL_law, cL_law, 8, some .boolean, tab) 2000 1596 [(4, .int (nI i)), (3, .ref 101), (2, .ref 52), (1, .ref 0), (0, .float 0)] [] (gl C' S') mc ms Q Z) : rx_W G (yL_law, cL_law, 8, some .boolean, tab) 2000 608 [(4, .int (nI i)), (3, .ref 101), (2, .ref 52), (1, .ref 0), (0, .float 0)] [] (gl C S) (8 + mc) (2000 + ms) Q Z := by
  obtain ⟨t, ans, w', ht, hc, hm⟩ := F_block (d := 1990) hG hN hv hn ((G.2.2.2.2.2.2 (i + 1))) ((G.2.2.2.2.2.2 (i + 2)))
  refine rx_aload_n dL_law_608 rfl rfl ?_
  refine rx_aload_n dL_law_609 rfl rfl ?_
  refine rx_iload dL_law_610 rfl ?_
  refine rx_iconst (v := nI 1) dL_law_612 rfl ?_
  refine rx_iadd dL_law_613 ?_
  refine rx_ti (y := nI (i + 1)) (nI_add _ _) ?_
  refine rx_sld (j := i + 1) hG dL_law_614 rfl (by omega) ?_
  refine rx_aload_n dL_law_615 rfl rfl ?_
  refine rx_iload dL_law_616 rfl ?_
  refine rx_iconst (v := nI 2) dL_law_618 rfl ?_
  refine rx_iadd dL_law_619 ?_
  refine rx_ti (y := nI (i + 2)) (nI_add _ _) ?_
  refine rx_sld (j := i + 2) hG dL_law_620 rfl (by omega) ?_
  refine rx_aload_n dL_law_621 rfl rfl ?_
  refine rx_invH (mc := mc) (ms := ms) (mc' := 8) (ms' := 2000) (as := [.ref _, .int _, .int _, .ref _]) hG okL_block lk_RL_109 dL_law_622 rfl (by simp) (hc A C S hC) ?_
  rintro _ _ ⟨⟨rfl, A', C', rfl, hC', h0⟩, hv'⟩
  refine rx_istore dL_law_625 (Nat.le_of_ble_eq_true rfl) ?_
  refine rx_aload_n dL_law_627 rfl rfl ?_
  refine rx_aload_n dL_law_628 rfl rfl ?_
  refine rx_iload dL_law_629 rfl ?_
  refine rx_iconst (v := nI 1) dL_law_631 rfl ?_
  refine rx_iadd dL_law_632 ?_
  refine rx_ti (y := nI (i + 1)) (nI_add _ _) ?_
  refine rx_sld (j := i + 1) hG dL_law_633 rfl (by omega) ?_
  refine rx_aload_n dL_law_634 rfl rfl ?_
  refine rx_iload dL_law_635 rfl ?_
  refine rx_iconst (v := nI 2) dL_law_637 rfl ?_
  refine rx_iadd dL_law_638 ?_
  refine rx_ti (y := nI (i + 2)) (nI_add _ _) ?_
  refine rx_sld (j := i + 2) hG dL_law_639 rfl (by omega) ?_
  refine gv_invV (as := [.int _, .int _]) hG okX11_block lk_RL_112 rfl rfl dL_law_640 rfl (by simp) (hm C' S hS) ?_
  rintro _ _ ⟨S', r, rfl, rfl, hS', ht0, hr⟩
  refine rx_istore dL_law_643 (Nat.le_of_ble_eq_true rfl) ?_
  refine rx_aload_n dL_law_645 rfl rfl ?_
  refine gv_invV (as := []) hG okX11_thrown lk_RL_90 rfl rfl dL_law_646 rfl (by simp) (cm_thrown hG) ?_
  rintro _ _ ⟨rfl, rfl⟩
  refine rx_iload dL_law_649 rfl ?_
  refine rx_icmp_eq (tgt := 656) dL_law_651 (by decide) (fun _ => ?_) (fun q => absurd ht0 q)
  refine rx_iload dL_law_656 rfl ?_
  by_cases h00 : t = 0
  · subst h00
    refine rx_if_ne (tgt := 673) dL_law_658 (by decide) (fun q => absurd nI_0 q) (fun _ => ?_)
    refine rx_aload_n dL_law_661 rfl rfl ?_
    refine rx_iconst (v := nI 0) dL_law_662 rfl ?_
    refine gcv_lald (j := 0) (v := ans) hG dL_law_663 rfl rfl rfl rfl (by decide) (by decide) (h0 rfl) ?_
    refine rx_iload dL_law_664 rfl ?_
    refine rx_i2l dL_law_666 ?_
    refine rx_lc_eq (tgt := 673) dL_law_667 dL_law_668 (by decide) (fun _ => ?_) (fun q => absurd (hr rfl).symm q)
    refine rx_goto (tgt := 1596) dL_law_673 (by decide) ?_
    refine rx_lv (lv' := [(4, .int (nI i)), (3, .ref 101), (2, .ref 52), (1, .ref 0), (0, .float 0)]) ⟨rfl, rfl, rfl, rfl, rfl, trivial⟩ ?_
    exact kk A' C' S' w' hv' hC' hS'
  · refine rx_if_ne (tgt := 673) dL_law_658 (by decide) (fun _ => ?_) (fun q => absurd q (by rw [← nI_0, nI_eq (by omega) (by omega)]; exact h00))
    refine rx_goto (tgt := 1596) dL_law_673 (by decide) ?_
    refine rx_lv (lv' := [(4, .int (nI i)), (3, .ref 101), (2, .ref 52), (1, .ref 0), (0, .float 0)]) ⟨rfl, rfl, rfl, rfl, rfl, trivial⟩ ?_
    exact kk A' C' S' w' hv' hC' hS'
set_option maxRecDepth 20000 in
theorem lw_told {G : rx_E} {tab : List ExceptionTableEntry} {n i mc ms : Nat} {w : wW} {A : wP} {C : rx_M} {S : gs_T} {Q : Option Value → rx_M → Prop} {Z : String → rx_M → Prop} (hG : rx_OK G) (hN : rx_NC G) (hv : vW w n) (hn : n ≤ 512) (hC : rcw A C w) (hS : rmw S w) (hi : i + 10 ≤ G.2.2.2.2.2.1) (kk : ∀ A' C' S' w', vW w' (n + 1) → rcw A' C' w' → rmw S' w' → rx_W G (yL_law, cL_law, 8, some .boolean, tab) 2000 1596 [(4, .int (nI i)), (3, .ref 101), (2, .ref 52), (1, .ref 0), (0, .float 0)] [] (gl C' S') mc ms Q Z) : rx_W G (yL_law, cL_law, 8, some .boolean, tab) 2000 676 [(4, .int (nI i)), (3, .ref 101), (2, .ref 52), (1, .ref 0), (0, .float 0)] [] (gl C S) (8 + mc) (2000 + ms) Q Z := by
  obtain ⟨t, ans, w', ht, hv', hc, hm⟩ := F_told (d := 1990) hG hN hv hn ((G.2.2.2.2.2.2 (i + 1))) ((G.2.2.2.2.2.2 (i + 2)))
  refine rx_aload_n dL_law_676 rfl rfl ?_
  refine rx_aload_n dL_law_677 rfl rfl ?_
  refine rx_iload dL_law_678 rfl ?_
  refine rx_iconst (v := nI 1) dL_law_680 rfl ?_
  refine rx_iadd dL_law_681 ?_
  refine rx_ti (y := nI (i + 1)) (nI_add _ _) ?_
  refine rx_sld (j := i + 1) hG dL_law_682 rfl (by omega) ?_
  refine rx_aload_n dL_law_683 rfl rfl ?_
  refine rx_iload dL_law_684 rfl ?_
  refine rx_iconst (v := nI 2) dL_law_686 rfl ?_
  refine rx_iadd dL_law_687 ?_
  refine rx_ti (y := nI (i + 2)) (nI_add _ _) ?_
  refine rx_sld (j := i + 2) hG dL_law_688 rfl (by omega) ?_
  refine rx_aload_n dL_law_689 rfl rfl ?_
  refine rx_invH (mc := mc) (ms := ms) (mc' := 8) (ms' := 2000) (as := [.ref _, .int _, .int _, .ref _]) hG okL_told lk_RL_113 dL_law_690 rfl (by simp) (hc A C S hC) ?_
  rintro _ _ ⟨rfl, A', C', rfl, hC', h0⟩
  refine rx_istore dL_law_693 (Nat.le_of_ble_eq_true rfl) ?_
  refine rx_aload_n dL_law_695 rfl rfl ?_
  refine rx_aload_n dL_law_696 rfl rfl ?_
  refine rx_iload dL_law_697 rfl ?_
  refine rx_iconst (v := nI 1) dL_law_699 rfl ?_
  refine rx_iadd dL_law_700 ?_
  refine rx_ti (y := nI (i + 1)) (nI_add _ _) ?_
  refine rx_sld (j := i + 1) hG dL_law_701 rfl (by omega) ?_
  refine rx_aload_n dL_law_702 rfl rfl ?_
  refine rx_iload dL_law_703 rfl ?_
  refine rx_iconst (v := nI 2) dL_law_705 rfl ?_
  refine rx_iadd dL_law_706 ?_
  refine rx_ti (y := nI (i + 2)) (nI_add _ _) ?_
  refine rx_sld (j := i + 2) hG dL_law_707 rfl (by omega) ?_
  refine gv_invV (as := [.int _, .int _]) hG okX11_told lk_RL_115 rfl rfl dL_law_708 rfl (by simp) (hm C' S hS) ?_
  rintro _ _ ⟨S', r, rfl, rfl, hS', ht0, hr⟩
  refine rx_istore dL_law_711 (Nat.le_of_ble_eq_true rfl) ?_
  refine rx_aload_n dL_law_713 rfl rfl ?_
  refine gv_invV (as := []) hG okX11_thrown lk_RL_90 rfl rfl dL_law_714 rfl (by simp) (cm_thrown hG) ?_
  rintro _ _ ⟨rfl, rfl⟩
  refine rx_iload dL_law_717 rfl ?_
  refine rx_icmp_eq (tgt := 724) dL_law_719 (by decide) (fun _ => ?_) (fun q => absurd ht0 q)
  refine rx_iload dL_law_724 rfl ?_
  by_cases h00 : t = 0
  · subst h00
    refine rx_if_ne (tgt := 741) dL_law_726 (by decide) (fun q => absurd nI_0 q) (fun _ => ?_)
    refine rx_aload_n dL_law_729 rfl rfl ?_
    refine rx_iconst (v := nI 0) dL_law_730 rfl ?_
    refine gcv_lald (j := 0) (v := ans) hG dL_law_731 rfl rfl rfl rfl (by decide) (by decide) (h0 rfl) ?_
    refine rx_iload dL_law_732 rfl ?_
    refine rx_i2l dL_law_734 ?_
    refine rx_lc_eq (tgt := 741) dL_law_735 dL_law_736 (by decide) (fun _ => ?_) (fun q => absurd (hr rfl).symm q)
    refine rx_goto (tgt := 1596) dL_law_741 (by decide) ?_
    refine rx_lv (lv' := [(4, .int (nI i)), (3, .ref 101), (2, .ref 52), (1, .ref 0), (0, .float 0)]) ⟨rfl, rfl, rfl, rfl, rfl, trivial⟩ ?_
    exact kk A' C' S' w' hv' hC' hS'
  · refine rx_if_ne (tgt := 741) dL_law_726 (by decide) (fun _ => ?_) (fun q => absurd q (by rw [← nI_0, nI_eq (by omega) (by omega)]; exact h00))
    refine rx_goto (tgt := 1596) dL_law_741 (by decide) ?_
    refine rx_lv (lv' := [(4, .int (nI i)), (3, .ref 101), (2, .ref 52), (1, .ref 0), (0, .float 0)]) ⟨rfl, rfl, rfl, rfl, rfl, trivial⟩ ?_
    exact kk A' C' S' w' hv' hC' hS'
set_option maxRecDepth 20000 in
theorem lw_receipt {G : rx_E} {tab : List ExceptionTableEntry} {n i mc ms : Nat} {w : wW} {A : wP} {C : rx_M} {S : gs_T} {Q : Option Value → rx_M → Prop} {Z : String → rx_M → Prop} (hG : rx_OK G) (hN : rx_NC G) (hv : vW w n) (hn : n ≤ 512) (hC : rcw A C w) (hS : rmw S w) (hi : i + 10 ≤ G.2.2.2.2.2.1) (kk : ∀ A' C' S' w', vW w' (n + 1) → rcw A' C' w' → rmw S' w' → rx_W G (yL_law, cL_law, 8, some .boolean, tab) 2000 1596 [(4, .int (nI i)), (3, .ref 101), (2, .ref 52), (1, .ref 0), (0, .float 0)] [] (gl C' S') mc ms Q Z) : rx_W G (yL_law, cL_law, 8, some .boolean, tab) 2000 744 [(4, .int (nI i)), (3, .ref 101), (2, .ref 52), (1, .ref 0), (0, .float 0)] [] (gl C S) (8 + mc) (2000 + ms) Q Z := by
  obtain ⟨t, ans, w', ht, hv', hc, hm⟩ := F_receipt (d := 1990) hG hN hv hn ((G.2.2.2.2.2.2 (i + 1))) ((G.2.2.2.2.2.2 (i + 2))) ((G.2.2.2.2.2.2 (i + 3)))
  refine rx_aload_n dL_law_744 rfl rfl ?_
  refine rx_aload_n dL_law_745 rfl rfl ?_
  refine rx_iload dL_law_746 rfl ?_
  refine rx_iconst (v := nI 1) dL_law_748 rfl ?_
  refine rx_iadd dL_law_749 ?_
  refine rx_ti (y := nI (i + 1)) (nI_add _ _) ?_
  refine rx_sld (j := i + 1) hG dL_law_750 rfl (by omega) ?_
  refine rx_aload_n dL_law_751 rfl rfl ?_
  refine rx_iload dL_law_752 rfl ?_
  refine rx_iconst (v := nI 2) dL_law_754 rfl ?_
  refine rx_iadd dL_law_755 ?_
  refine rx_ti (y := nI (i + 2)) (nI_add _ _) ?_
  refine rx_sld (j := i + 2) hG dL_law_756 rfl (by omega) ?_
  refine rx_aload_n dL_law_757 rfl rfl ?_
  refine rx_iload dL_law_758 rfl ?_
  refine rx_iconst (v := nI 3) dL_law_760 rfl ?_
  refine rx_iadd dL_law_761 ?_
  refine rx_ti (y := nI (i + 3)) (nI_add _ _) ?_
  refine rx_sld (j := i + 3) hG dL_law_762 rfl (by omega) ?_
  refine rx_aload_n dL_law_763 rfl rfl ?_
  refine rx_invH (mc := mc) (ms := ms) (mc' := 8) (ms' := 2000) (as := [.ref _, .int _, .int _, .int _, .ref _]) hG okL_receipt lk_RL_116 dL_law_764 rfl (by simp) (hc A C S hC) ?_
  rintro _ _ ⟨rfl, A', C', rfl, hC', h0⟩
  refine rx_istore dL_law_767 (Nat.le_of_ble_eq_true rfl) ?_
  refine rx_aload_n dL_law_769 rfl rfl ?_
  refine rx_aload_n dL_law_770 rfl rfl ?_
  refine rx_iload dL_law_771 rfl ?_
  refine rx_iconst (v := nI 1) dL_law_773 rfl ?_
  refine rx_iadd dL_law_774 ?_
  refine rx_ti (y := nI (i + 1)) (nI_add _ _) ?_
  refine rx_sld (j := i + 1) hG dL_law_775 rfl (by omega) ?_
  refine rx_aload_n dL_law_776 rfl rfl ?_
  refine rx_iload dL_law_777 rfl ?_
  refine rx_iconst (v := nI 2) dL_law_779 rfl ?_
  refine rx_iadd dL_law_780 ?_
  refine rx_ti (y := nI (i + 2)) (nI_add _ _) ?_
  refine rx_sld (j := i + 2) hG dL_law_781 rfl (by omega) ?_
  refine rx_aload_n dL_law_782 rfl rfl ?_
  refine rx_iload dL_law_783 rfl ?_
  refine rx_iconst (v := nI 3) dL_law_785 rfl ?_
  refine rx_iadd dL_law_786 ?_
  refine rx_ti (y := nI (i + 3)) (nI_add _ _) ?_
  refine rx_sld (j := i + 3) hG dL_law_787 rfl (by omega) ?_
  refine gv_invV (as := [.int _, .int _, .int _]) hG okX11_receipt lk_RL_119 rfl rfl dL_law_788 rfl (by simp) (hm C' S hS) ?_
  rintro _ _ ⟨S', r, rfl, rfl, hS', ht0, hr⟩
  refine rx_lstore dL_law_791 (Nat.le_of_ble_eq_true rfl) ?_
  refine rx_aload_n dL_law_793 rfl rfl ?_
  refine gv_invV (as := []) hG okX11_thrown lk_RL_90 rfl rfl dL_law_794 rfl (by simp) (cm_thrown hG) ?_
  rintro _ _ ⟨rfl, rfl⟩
  refine rx_iload dL_law_797 rfl ?_
  refine rx_icmp_eq (tgt := 804) dL_law_799 (by decide) (fun _ => ?_) (fun q => absurd ht0 q)
  refine rx_iload dL_law_804 rfl ?_
  by_cases h00 : t = 0
  · subst h00
    refine rx_if_ne (tgt := 820) dL_law_806 (by decide) (fun q => absurd nI_0 q) (fun _ => ?_)
    refine rx_aload_n dL_law_809 rfl rfl ?_
    refine rx_iconst (v := nI 0) dL_law_810 rfl ?_
    refine gcv_lald (j := 0) (v := ans) hG dL_law_811 rfl rfl rfl rfl (by decide) (by decide) (h0 rfl) ?_
    refine rx_lload dL_law_812 rfl ?_
    refine rx_lc_eq (tgt := 820) dL_law_814 dL_law_815 (by decide) (fun _ => ?_) (fun q => absurd (hr rfl).symm q)
    refine rx_goto (tgt := 1596) dL_law_820 (by decide) ?_
    refine rx_lv (lv' := [(4, .int (nI i)), (3, .ref 101), (2, .ref 52), (1, .ref 0), (0, .float 0)]) ⟨rfl, rfl, rfl, rfl, rfl, trivial⟩ ?_
    exact kk A' C' S' w' hv' hC' hS'
  · refine rx_if_ne (tgt := 820) dL_law_806 (by decide) (fun _ => ?_) (fun q => absurd q (by rw [← nI_0, nI_eq (by omega) (by omega)]; exact h00))
    refine rx_goto (tgt := 1596) dL_law_820 (by decide) ?_
    refine rx_lv (lv' := [(4, .int (nI i)), (3, .ref 101), (2, .ref 52), (1, .ref 0), (0, .float 0)]) ⟨rfl, rfl, rfl, rfl, rfl, trivial⟩ ?_
    exact kk A' C' S' w' hv' hC' hS'
set_option maxRecDepth 20000 in
theorem lw_event {G : rx_E} {tab : List ExceptionTableEntry} {n i mc ms : Nat} {w : wW} {A : wP} {C : rx_M} {S : gs_T} {Q : Option Value → rx_M → Prop} {Z : String → rx_M → Prop} (hG : rx_OK G) (hN : rx_NC G) (hv : vW w n) (hn : n ≤ 512) (hC : rcw A C w) (hS : rmw S w) (hi : i + 10 ≤ G.2.2.2.2.2.1) (kk : ∀ A' C' S' w', vW w' (n + 1) → rcw A' C' w' → rmw S' w' → rx_W G (yL_law, cL_law, 8, some .boolean, tab) 2000 1596 [(4, .int (nI i)), (3, .ref 101), (2, .ref 52), (1, .ref 0), (0, .float 0)] [] (gl C' S') mc ms Q Z) : rx_W G (yL_law, cL_law, 8, some .boolean, tab) 2000 823 [(4, .int (nI i)), (3, .ref 101), (2, .ref 52), (1, .ref 0), (0, .float 0)] [] (gl C S) (8 + mc) (2000 + ms) Q Z := by
  obtain ⟨t, ans, w', ht, hv', hc, hm⟩ := F_event (d := 1990) hG hN hv hn ((G.2.2.2.2.2.2 (i + 1))) ((G.2.2.2.2.2.2 (i + 2))) ((G.2.2.2.2.2.2 (i + 3)))
  refine rx_aload_n dL_law_823 rfl rfl ?_
  refine rx_aload_n dL_law_824 rfl rfl ?_
  refine rx_iload dL_law_825 rfl ?_
  refine rx_iconst (v := nI 1) dL_law_827 rfl ?_
  refine rx_iadd dL_law_828 ?_
  refine rx_ti (y := nI (i + 1)) (nI_add _ _) ?_
  refine rx_sld (j := i + 1) hG dL_law_829 rfl (by omega) ?_
  refine rx_aload_n dL_law_830 rfl rfl ?_
  refine rx_iload dL_law_831 rfl ?_
  refine rx_iconst (v := nI 2) dL_law_833 rfl ?_
  refine rx_iadd dL_law_834 ?_
  refine rx_ti (y := nI (i + 2)) (nI_add _ _) ?_
  refine rx_sld (j := i + 2) hG dL_law_835 rfl (by omega) ?_
  refine rx_aload_n dL_law_836 rfl rfl ?_
  refine rx_iload dL_law_837 rfl ?_
  refine rx_iconst (v := nI 3) dL_law_839 rfl ?_
  refine rx_iadd dL_law_840 ?_
  refine rx_ti (y := nI (i + 3)) (nI_add _ _) ?_
  refine rx_sld (j := i + 3) hG dL_law_841 rfl (by omega) ?_
  refine rx_aload_n dL_law_842 rfl rfl ?_
  refine rx_invH (mc := mc) (ms := ms) (mc' := 8) (ms' := 2000) (as := [.ref _, .int _, .int _, .int _, .ref _]) hG okL_event lk_RL_120 dL_law_843 rfl (by simp) (hc A C S hC) ?_
  rintro _ _ ⟨rfl, A', C', rfl, hC', h0⟩
  refine rx_istore dL_law_846 (Nat.le_of_ble_eq_true rfl) ?_
  refine rx_aload_n dL_law_848 rfl rfl ?_
  refine rx_aload_n dL_law_849 rfl rfl ?_
  refine rx_iload dL_law_850 rfl ?_
  refine rx_iconst (v := nI 1) dL_law_852 rfl ?_
  refine rx_iadd dL_law_853 ?_
  refine rx_ti (y := nI (i + 1)) (nI_add _ _) ?_
  refine rx_sld (j := i + 1) hG dL_law_854 rfl (by omega) ?_
  refine rx_aload_n dL_law_855 rfl rfl ?_
  refine rx_iload dL_law_856 rfl ?_
  refine rx_iconst (v := nI 2) dL_law_858 rfl ?_
  refine rx_iadd dL_law_859 ?_
  refine rx_ti (y := nI (i + 2)) (nI_add _ _) ?_
  refine rx_sld (j := i + 2) hG dL_law_860 rfl (by omega) ?_
  refine rx_aload_n dL_law_861 rfl rfl ?_
  refine rx_iload dL_law_862 rfl ?_
  refine rx_iconst (v := nI 3) dL_law_864 rfl ?_
  refine rx_iadd dL_law_865 ?_
  refine rx_ti (y := nI (i + 3)) (nI_add _ _) ?_
  refine rx_sld (j := i + 3) hG dL_law_866 rfl (by omega) ?_
  refine gv_invV (as := [.int _, .int _, .int _]) hG okX11_event lk_RL_122 rfl rfl dL_law_867 rfl (by simp) (hm C' S hS) ?_
  rintro _ _ ⟨S', r, rfl, rfl, hS', ht0, hr⟩
  refine rx_lstore dL_law_870 (Nat.le_of_ble_eq_true rfl) ?_
  refine rx_aload_n dL_law_872 rfl rfl ?_
  refine gv_invV (as := []) hG okX11_thrown lk_RL_90 rfl rfl dL_law_873 rfl (by simp) (cm_thrown hG) ?_
  rintro _ _ ⟨rfl, rfl⟩
  refine rx_iload dL_law_876 rfl ?_
  refine rx_icmp_eq (tgt := 883) dL_law_878 (by decide) (fun _ => ?_) (fun q => absurd ht0 q)
  refine rx_iload dL_law_883 rfl ?_
  by_cases h00 : t = 0
  · subst h00
    refine rx_if_ne (tgt := 899) dL_law_885 (by decide) (fun q => absurd nI_0 q) (fun _ => ?_)
    refine rx_aload_n dL_law_888 rfl rfl ?_
    refine rx_iconst (v := nI 0) dL_law_889 rfl ?_
    refine gcv_lald (j := 0) (v := ans) hG dL_law_890 rfl rfl rfl rfl (by decide) (by decide) (h0 rfl) ?_
    refine rx_lload dL_law_891 rfl ?_
    refine rx_lc_eq (tgt := 899) dL_law_893 dL_law_894 (by decide) (fun _ => ?_) (fun q => absurd (hr rfl).symm q)
    refine rx_goto (tgt := 1596) dL_law_899 (by decide) ?_
    refine rx_lv (lv' := [(4, .int (nI i)), (3, .ref 101), (2, .ref 52), (1, .ref 0), (0, .float 0)]) ⟨rfl, rfl, rfl, rfl, rfl, trivial⟩ ?_
    exact kk A' C' S' w' hv' hC' hS'
  · refine rx_if_ne (tgt := 899) dL_law_885 (by decide) (fun _ => ?_) (fun q => absurd q (by rw [← nI_0, nI_eq (by omega) (by omega)]; exact h00))
    refine rx_goto (tgt := 1596) dL_law_899 (by decide) ?_
    refine rx_lv (lv' := [(4, .int (nI i)), (3, .ref 101), (2, .ref 52), (1, .ref 0), (0, .float 0)]) ⟨rfl, rfl, rfl, rfl, rfl, trivial⟩ ?_
    exact kk A' C' S' w' hv' hC' hS'
set_option maxRecDepth 20000 in
theorem lw_leaf {G : rx_E} {tab : List ExceptionTableEntry} {n i mc ms : Nat} {w : wW} {A : wP} {C : rx_M} {S : gs_T} {Q : Option Value → rx_M → Prop} {Z : String → rx_M → Prop} (hG : rx_OK G) (hN : rx_NC G) (hv : vW w n) (hn : n ≤ 512) (hC : rcw A C w) (hS : rmw S w) (hi : i + 10 ≤ G.2.2.2.2.2.1) (kk : ∀ A' C' S' w', vW w' (n + 1) → rcw A' C' w' → rmw S' w' → rx_W G (yL_law, cL_law, 8, some .boolean, tab) 2000 1596 [(4, .int (nI i)), (3, .ref 101), (2, .ref 52), (1, .ref 0), (0, .float 0)] [] (gl C' S') mc ms Q Z) : rx_W G (yL_law, cL_law, 8, some .boolean, tab) 2000 902 [(4, .int (nI i)), (3, .ref 101), (2, .ref 52), (1, .ref 0), (0, .float 0)] [] (gl C S) (8 + mc) (2000 + ms) Q Z := by
  obtain ⟨t, ans, w', ht, hv', hc, hm⟩ := F_leaf (d := 1990) hG hN hv hn ((G.2.2.2.2.2.2 (i + 1))) ((G.2.2.2.2.2.2 (i + 2)))
  refine rx_aload_n dL_law_902 rfl rfl ?_
  refine rx_aload_n dL_law_903 rfl rfl ?_
  refine rx_iload dL_law_904 rfl ?_
  refine rx_iconst (v := nI 1) dL_law_906 rfl ?_
  refine rx_iadd dL_law_907 ?_
  refine rx_ti (y := nI (i + 1)) (nI_add _ _) ?_
  refine rx_sld (j := i + 1) hG dL_law_908 rfl (by omega) ?_
  refine rx_aload_n dL_law_909 rfl rfl ?_
  refine rx_iload dL_law_910 rfl ?_
  refine rx_iconst (v := nI 2) dL_law_912 rfl ?_
  refine rx_iadd dL_law_913 ?_
  refine rx_ti (y := nI (i + 2)) (nI_add _ _) ?_
  refine rx_sld (j := i + 2) hG dL_law_914 rfl (by omega) ?_
  refine rx_aload_n dL_law_915 rfl rfl ?_
  refine rx_invH (mc := mc) (ms := ms) (mc' := 8) (ms' := 2000) (as := [.ref _, .int _, .int _, .ref _]) hG okL_leaf lk_RL_123 dL_law_916 rfl (by simp) (hc A C S hC) ?_
  rintro _ _ ⟨rfl, A', C', rfl, hC', h0⟩
  refine rx_istore dL_law_919 (Nat.le_of_ble_eq_true rfl) ?_
  refine rx_aload_n dL_law_921 rfl rfl ?_
  refine rx_aload_n dL_law_922 rfl rfl ?_
  refine rx_iload dL_law_923 rfl ?_
  refine rx_iconst (v := nI 1) dL_law_925 rfl ?_
  refine rx_iadd dL_law_926 ?_
  refine rx_ti (y := nI (i + 1)) (nI_add _ _) ?_
  refine rx_sld (j := i + 1) hG dL_law_927 rfl (by omega) ?_
  refine rx_aload_n dL_law_928 rfl rfl ?_
  refine rx_iload dL_law_929 rfl ?_
  refine rx_iconst (v := nI 2) dL_law_931 rfl ?_
  refine rx_iadd dL_law_932 ?_
  refine rx_ti (y := nI (i + 2)) (nI_add _ _) ?_
  refine rx_sld (j := i + 2) hG dL_law_933 rfl (by omega) ?_
  refine gv_invV (as := [.int _, .int _]) hG okX11_leaf lk_RL_125 rfl rfl dL_law_934 rfl (by simp) (hm C' S hS) ?_
  rintro _ _ ⟨S', r, rfl, rfl, hS', ht0, hr⟩
  refine rx_lstore dL_law_937 (Nat.le_of_ble_eq_true rfl) ?_
  refine rx_aload_n dL_law_939 rfl rfl ?_
  refine gv_invV (as := []) hG okX11_thrown lk_RL_90 rfl rfl dL_law_940 rfl (by simp) (cm_thrown hG) ?_
  rintro _ _ ⟨rfl, rfl⟩
  refine rx_iload dL_law_943 rfl ?_
  refine rx_icmp_eq (tgt := 950) dL_law_945 (by decide) (fun _ => ?_) (fun q => absurd ht0 q)
  refine rx_iload dL_law_950 rfl ?_
  by_cases h00 : t = 0
  · subst h00
    refine rx_if_ne (tgt := 966) dL_law_952 (by decide) (fun q => absurd nI_0 q) (fun _ => ?_)
    refine rx_aload_n dL_law_955 rfl rfl ?_
    refine rx_iconst (v := nI 0) dL_law_956 rfl ?_
    refine gcv_lald (j := 0) (v := ans) hG dL_law_957 rfl rfl rfl rfl (by decide) (by decide) (h0 rfl) ?_
    refine rx_lload dL_law_958 rfl ?_
    refine rx_lc_eq (tgt := 966) dL_law_960 dL_law_961 (by decide) (fun _ => ?_) (fun q => absurd (hr rfl).symm q)
    refine rx_goto (tgt := 1596) dL_law_966 (by decide) ?_
    refine rx_lv (lv' := [(4, .int (nI i)), (3, .ref 101), (2, .ref 52), (1, .ref 0), (0, .float 0)]) ⟨rfl, rfl, rfl, rfl, rfl, trivial⟩ ?_
    exact kk A' C' S' w' hv' hC' hS'
  · refine rx_if_ne (tgt := 966) dL_law_952 (by decide) (fun _ => ?_) (fun q => absurd q (by rw [← nI_0, nI_eq (by omega) (by omega)]; exact h00))
    refine rx_goto (tgt := 1596) dL_law_966 (by decide) ?_
    refine rx_lv (lv' := [(4, .int (nI i)), (3, .ref 101), (2, .ref 52), (1, .ref 0), (0, .float 0)]) ⟨rfl, rfl, rfl, rfl, rfl, trivial⟩ ?_
    exact kk A' C' S' w' hv' hC' hS'
set_option maxRecDepth 20000 in
theorem lw_digest {G : rx_E} {tab : List ExceptionTableEntry} {n i mc ms : Nat} {w : wW} {A : wP} {C : rx_M} {S : gs_T} {Q : Option Value → rx_M → Prop} {Z : String → rx_M → Prop} (hG : rx_OK G) (hN : rx_NC G) (hv : vW w n) (hn : n ≤ 512) (hC : rcw A C w) (hS : rmw S w) (hi : i + 10 ≤ G.2.2.2.2.2.1) (kk : ∀ A' C' S' w', vW w' (n + 1) → rcw A' C' w' → rmw S' w' → rx_W G (yL_law, cL_law, 8, some .boolean, tab) 2000 1596 [(4, .int (nI i)), (3, .ref 101), (2, .ref 52), (1, .ref 0), (0, .float 0)] [] (gl C' S') mc ms Q Z) : rx_W G (yL_law, cL_law, 8, some .boolean, tab) 2000 969 [(4, .int (nI i)), (3, .ref 101), (2, .ref 52), (1, .ref 0), (0, .float 0)] [] (gl C S) (8 + mc) (2000 + ms) Q Z := by
  obtain ⟨t, ans, w', ht, hv', hc, hm⟩ := F_digest (d := 1979) hG hN hv hn ((G.2.2.2.2.2.2 (i + 1))) ((G.2.2.2.2.2.2 (i + 2))) ((G.2.2.2.2.2.2 (i + 3)))
  refine rx_aload_n dL_law_969 rfl rfl ?_
  refine rx_aload_n dL_law_970 rfl rfl ?_
  refine rx_iload dL_law_971 rfl ?_
  refine rx_iconst (v := nI 1) dL_law_973 rfl ?_
  refine rx_iadd dL_law_974 ?_
  refine rx_ti (y := nI (i + 1)) (nI_add _ _) ?_
  refine rx_sld (j := i + 1) hG dL_law_975 rfl (by omega) ?_
  refine rx_aload_n dL_law_976 rfl rfl ?_
  refine rx_iload dL_law_977 rfl ?_
  refine rx_iconst (v := nI 2) dL_law_979 rfl ?_
  refine rx_iadd dL_law_980 ?_
  refine rx_ti (y := nI (i + 2)) (nI_add _ _) ?_
  refine rx_sld (j := i + 2) hG dL_law_981 rfl (by omega) ?_
  refine rx_aload_n dL_law_982 rfl rfl ?_
  refine rx_iload dL_law_983 rfl ?_
  refine rx_iconst (v := nI 3) dL_law_985 rfl ?_
  refine rx_iadd dL_law_986 ?_
  refine rx_ti (y := nI (i + 3)) (nI_add _ _) ?_
  refine rx_sld (j := i + 3) hG dL_law_987 rfl (by omega) ?_
  refine rx_aload_n dL_law_988 rfl rfl ?_
  refine rx_invH (mc := mc) (ms := ms) (mc' := 8) (ms' := 2000) (as := [.ref _, .int _, .int _, .int _, .ref _]) hG okL_digest lk_RL_126 dL_law_989 rfl (by simp) (hc A C S hC) ?_
  rintro _ _ ⟨rfl, A', C', rfl, hC', h0⟩
  refine rx_istore dL_law_992 (Nat.le_of_ble_eq_true rfl) ?_
  refine rx_aload_n dL_law_994 rfl rfl ?_
  refine rx_aload_n dL_law_995 rfl rfl ?_
  refine rx_iload dL_law_996 rfl ?_
  refine rx_iconst (v := nI 1) dL_law_998 rfl ?_
  refine rx_iadd dL_law_999 ?_
  refine rx_ti (y := nI (i + 1)) (nI_add _ _) ?_
  refine rx_sld (j := i + 1) hG dL_law_1000 rfl (by omega) ?_
  refine rx_aload_n dL_law_1001 rfl rfl ?_
  refine rx_iload dL_law_1002 rfl ?_
  refine rx_iconst (v := nI 2) dL_law_1004 rfl ?_
  refine rx_iadd dL_law_1005 ?_
  refine rx_ti (y := nI (i + 2)) (nI_add _ _) ?_
  refine rx_sld (j := i + 2) hG dL_law_1006 rfl (by omega) ?_
  refine rx_aload_n dL_law_1007 rfl rfl ?_
  refine rx_iload dL_law_1008 rfl ?_
  refine rx_iconst (v := nI 3) dL_law_1010 rfl ?_
  refine rx_iadd dL_law_1011 ?_
  refine rx_ti (y := nI (i + 3)) (nI_add _ _) ?_
  refine rx_sld (j := i + 3) hG dL_law_1012 rfl (by omega) ?_
  refine gv_invV (as := [.int _, .int _, .int _]) hG okX11_digest lk_RL_128 rfl rfl dL_law_1013 rfl (by simp) (hm C' S hS) ?_
  rintro _ _ ⟨S', r, rfl, rfl, hS', ht0, hr⟩
  refine rx_lstore dL_law_1016 (Nat.le_of_ble_eq_true rfl) ?_
  refine rx_aload_n dL_law_1018 rfl rfl ?_
  refine gv_invV (as := []) hG okX11_thrown lk_RL_90 rfl rfl dL_law_1019 rfl (by simp) (cm_thrown hG) ?_
  rintro _ _ ⟨rfl, rfl⟩
  refine rx_iload dL_law_1022 rfl ?_
  refine rx_icmp_eq (tgt := 1029) dL_law_1024 (by decide) (fun _ => ?_) (fun q => absurd ht0 q)
  refine rx_iload dL_law_1029 rfl ?_
  by_cases h00 : t = 0
  · subst h00
    refine rx_if_ne (tgt := 1045) dL_law_1031 (by decide) (fun q => absurd nI_0 q) (fun _ => ?_)
    refine rx_aload_n dL_law_1034 rfl rfl ?_
    refine rx_iconst (v := nI 0) dL_law_1035 rfl ?_
    refine gcv_lald (j := 0) (v := ans) hG dL_law_1036 rfl rfl rfl rfl (by decide) (by decide) (h0 rfl) ?_
    refine rx_lload dL_law_1037 rfl ?_
    refine rx_lc_eq (tgt := 1045) dL_law_1039 dL_law_1040 (by decide) (fun _ => ?_) (fun q => absurd (hr rfl).symm q)
    refine rx_goto (tgt := 1596) dL_law_1045 (by decide) ?_
    refine rx_lv (lv' := [(4, .int (nI i)), (3, .ref 101), (2, .ref 52), (1, .ref 0), (0, .float 0)]) ⟨rfl, rfl, rfl, rfl, rfl, trivial⟩ ?_
    exact kk A' C' S' w' hv' hC' hS'
  · refine rx_if_ne (tgt := 1045) dL_law_1031 (by decide) (fun _ => ?_) (fun q => absurd q (by rw [← nI_0, nI_eq (by omega) (by omega)]; exact h00))
    refine rx_goto (tgt := 1596) dL_law_1045 (by decide) ?_
    refine rx_lv (lv' := [(4, .int (nI i)), (3, .ref 101), (2, .ref 52), (1, .ref 0), (0, .float 0)]) ⟨rfl, rfl, rfl, rfl, rfl, trivial⟩ ?_
    exact kk A' C' S' w' hv' hC' hS'
set_option maxRecDepth 20000 in
theorem lw_view {G : rx_E} {tab : List ExceptionTableEntry} {n i mc ms : Nat} {w : wW} {A : wP} {C : rx_M} {S : gs_T} {Q : Option Value → rx_M → Prop} {Z : String → rx_M → Prop} (hG : rx_OK G) (hN : rx_NC G) (hv : vW w n) (hn : n ≤ 512) (hC : rcw A C w) (hS : rmw S w) (hi : i + 10 ≤ G.2.2.2.2.2.1) (kk : ∀ A' C' S' w', vW w' (n + 1) → rcw A' C' w' → rmw S' w' → rx_W G (yL_law, cL_law, 8, some .boolean, tab) 2000 1596 [(4, .int (nI i)), (3, .ref 101), (2, .ref 52), (1, .ref 0), (0, .float 0)] [] (gl C' S') mc ms Q Z) : rx_W G (yL_law, cL_law, 8, some .boolean, tab) 2000 1048 [(4, .int (nI i)), (3, .ref 101), (2, .ref 52), (1, .ref 0), (0, .float 0)] [] (gl C S) (8 + mc) (2000 + ms) Q Z := by
  obtain ⟨t, ans, w', ht, hv', hc, hm⟩ := F_view (d := 1990) hG hN hv hn ((G.2.2.2.2.2.2 (i + 1))) ((G.2.2.2.2.2.2 (i + 2))) ((G.2.2.2.2.2.2 (i + 3))) ((((G.2.2.2.2.2.2 (i + 4)).toInt64 <<< ((nI 32).toInt64 &&& 63)) ||| ((G.2.2.2.2.2.2 (i + 5)).toInt64 &&& 4294967295))) ((G.2.2.2.2.2.2 (i + 6)))
  refine rx_aload_n dL_law_1048 rfl rfl ?_
  refine rx_aload_n dL_law_1049 rfl rfl ?_
  refine rx_iload dL_law_1050 rfl ?_
  refine rx_iconst (v := nI 1) dL_law_1052 rfl ?_
  refine rx_iadd dL_law_1053 ?_
  refine rx_ti (y := nI (i + 1)) (nI_add _ _) ?_
  refine rx_sld (j := i + 1) hG dL_law_1054 rfl (by omega) ?_
  refine rx_aload_n dL_law_1055 rfl rfl ?_
  refine rx_iload dL_law_1056 rfl ?_
  refine rx_iconst (v := nI 2) dL_law_1058 rfl ?_
  refine rx_iadd dL_law_1059 ?_
  refine rx_ti (y := nI (i + 2)) (nI_add _ _) ?_
  refine rx_sld (j := i + 2) hG dL_law_1060 rfl (by omega) ?_
  refine rx_aload_n dL_law_1061 rfl rfl ?_
  refine rx_iload dL_law_1062 rfl ?_
  refine rx_iconst (v := nI 3) dL_law_1064 rfl ?_
  refine rx_iadd dL_law_1065 ?_
  refine rx_ti (y := nI (i + 3)) (nI_add _ _) ?_
  refine rx_sld (j := i + 3) hG dL_law_1066 rfl (by omega) ?_
  refine rx_aload_n dL_law_1067 rfl rfl ?_
  refine rx_iload dL_law_1068 rfl ?_
  refine rx_iconst (v := nI 4) dL_law_1070 rfl ?_
  refine rx_iadd dL_law_1071 ?_
  refine rx_ti (y := nI (i + 4)) (nI_add _ _) ?_
  refine rx_sld (j := i + 4) hG dL_law_1072 rfl (by omega) ?_
  refine rx_i2l dL_law_1073 ?_
  refine rx_bipush (v := nI 32) dL_law_1074 rfl ?_
  refine rx_lshl dL_law_1076 ?_
  refine rx_aload_n dL_law_1077 rfl rfl ?_
  refine rx_iload dL_law_1078 rfl ?_
  refine rx_iconst (v := nI 5) dL_law_1080 rfl ?_
  refine rx_iadd dL_law_1081 ?_
  refine rx_ti (y := nI (i + 5)) (nI_add _ _) ?_
  refine rx_sld (j := i + 5) hG dL_law_1082 rfl (by omega) ?_
  refine rx_i2l dL_law_1083 ?_
  refine rx_ldc2 hG hw_895 dL_law_1084 ?_
  refine rx_land dL_law_1087 ?_
  refine rx_lor dL_law_1088 ?_
  refine rx_aload_n dL_law_1089 rfl rfl ?_
  refine rx_iload dL_law_1090 rfl ?_
  refine rx_bipush (v := nI 6) dL_law_1092 rfl ?_
  refine rx_iadd dL_law_1094 ?_
  refine rx_ti (y := nI (i + 6)) (nI_add _ _) ?_
  refine rx_sld (j := i + 6) hG dL_law_1095 rfl (by omega) ?_
  refine rx_aload_n dL_law_1096 rfl rfl ?_
  refine rx_invH (mc := mc) (ms := ms) (mc' := 8) (ms' := 2000) (as := [.ref _, .int _, .int _, .int _, .long _, .int _, .ref _]) hG okL_view lk_RL_129 dL_law_1097 rfl (by simp) (hc A C S hC) ?_
  rintro _ _ ⟨rfl, A', C', rfl, hC', h0⟩
  refine rx_istore dL_law_1100 (Nat.le_of_ble_eq_true rfl) ?_
  refine rx_aload_n dL_law_1102 rfl rfl ?_
  refine rx_aload_n dL_law_1103 rfl rfl ?_
  refine rx_iload dL_law_1104 rfl ?_
  refine rx_iconst (v := nI 1) dL_law_1106 rfl ?_
  refine rx_iadd dL_law_1107 ?_
  refine rx_ti (y := nI (i + 1)) (nI_add _ _) ?_
  refine rx_sld (j := i + 1) hG dL_law_1108 rfl (by omega) ?_
  refine rx_aload_n dL_law_1109 rfl rfl ?_
  refine rx_iload dL_law_1110 rfl ?_
  refine rx_iconst (v := nI 2) dL_law_1112 rfl ?_
  refine rx_iadd dL_law_1113 ?_
  refine rx_ti (y := nI (i + 2)) (nI_add _ _) ?_
  refine rx_sld (j := i + 2) hG dL_law_1114 rfl (by omega) ?_
  refine rx_aload_n dL_law_1115 rfl rfl ?_
  refine rx_iload dL_law_1116 rfl ?_
  refine rx_iconst (v := nI 3) dL_law_1118 rfl ?_
  refine rx_iadd dL_law_1119 ?_
  refine rx_ti (y := nI (i + 3)) (nI_add _ _) ?_
  refine rx_sld (j := i + 3) hG dL_law_1120 rfl (by omega) ?_
  refine rx_aload_n dL_law_1121 rfl rfl ?_
  refine rx_iload dL_law_1122 rfl ?_
  refine rx_iconst (v := nI 4) dL_law_1124 rfl ?_
  refine rx_iadd dL_law_1125 ?_
  refine rx_ti (y := nI (i + 4)) (nI_add _ _) ?_
  refine rx_sld (j := i + 4) hG dL_law_1126 rfl (by omega) ?_
  refine rx_i2l dL_law_1127 ?_
  refine rx_bipush (v := nI 32) dL_law_1128 rfl ?_
  refine rx_lshl dL_law_1130 ?_
  refine rx_aload_n dL_law_1131 rfl rfl ?_
  refine rx_iload dL_law_1132 rfl ?_
  refine rx_iconst (v := nI 5) dL_law_1134 rfl ?_
  refine rx_iadd dL_law_1135 ?_
  refine rx_ti (y := nI (i + 5)) (nI_add _ _) ?_
  refine rx_sld (j := i + 5) hG dL_law_1136 rfl (by omega) ?_
  refine rx_i2l dL_law_1137 ?_
  refine rx_ldc2 hG hw_895 dL_law_1138 ?_
  refine rx_land dL_law_1141 ?_
  refine rx_lor dL_law_1142 ?_
  refine rx_aload_n dL_law_1143 rfl rfl ?_
  refine rx_iload dL_law_1144 rfl ?_
  refine rx_bipush (v := nI 6) dL_law_1146 rfl ?_
  refine rx_iadd dL_law_1148 ?_
  refine rx_ti (y := nI (i + 6)) (nI_add _ _) ?_
  refine rx_sld (j := i + 6) hG dL_law_1149 rfl (by omega) ?_
  refine gv_invV (as := [.int _, .int _, .int _, .long _, .int _]) hG okX11_view lk_RL_132 rfl rfl dL_law_1150 rfl (by simp) (hm C' S hS) ?_
  rintro _ _ ⟨S', r, rfl, rfl, hS', ht0, hr⟩
  refine rx_lstore dL_law_1153 (Nat.le_of_ble_eq_true rfl) ?_
  refine rx_aload_n dL_law_1155 rfl rfl ?_
  refine gv_invV (as := []) hG okX11_thrown lk_RL_90 rfl rfl dL_law_1156 rfl (by simp) (cm_thrown hG) ?_
  rintro _ _ ⟨rfl, rfl⟩
  refine rx_iload dL_law_1159 rfl ?_
  refine rx_icmp_eq (tgt := 1166) dL_law_1161 (by decide) (fun _ => ?_) (fun q => absurd ht0 q)
  refine rx_iload dL_law_1166 rfl ?_
  by_cases h00 : t = 0
  · subst h00
    refine rx_if_ne (tgt := 1182) dL_law_1168 (by decide) (fun q => absurd nI_0 q) (fun _ => ?_)
    refine rx_aload_n dL_law_1171 rfl rfl ?_
    refine rx_iconst (v := nI 0) dL_law_1172 rfl ?_
    refine gcv_lald (j := 0) (v := ans) hG dL_law_1173 rfl rfl rfl rfl (by decide) (by decide) (h0 rfl) ?_
    refine rx_lload dL_law_1174 rfl ?_
    refine rx_lc_eq (tgt := 1182) dL_law_1176 dL_law_1177 (by decide) (fun _ => ?_) (fun q => absurd (hr rfl).symm q)
    refine rx_goto (tgt := 1596) dL_law_1182 (by decide) ?_
    refine rx_lv (lv' := [(4, .int (nI i)), (3, .ref 101), (2, .ref 52), (1, .ref 0), (0, .float 0)]) ⟨rfl, rfl, rfl, rfl, rfl, trivial⟩ ?_
    exact kk A' C' S' w' hv' hC' hS'
  · refine rx_if_ne (tgt := 1182) dL_law_1168 (by decide) (fun _ => ?_) (fun q => absurd q (by rw [← nI_0, nI_eq (by omega) (by omega)]; exact h00))
    refine rx_goto (tgt := 1596) dL_law_1182 (by decide) ?_
    refine rx_lv (lv' := [(4, .int (nI i)), (3, .ref 101), (2, .ref 52), (1, .ref 0), (0, .float 0)]) ⟨rfl, rfl, rfl, rfl, rfl, trivial⟩ ?_
    exact kk A' C' S' w' hv' hC' hS'
set_option maxRecDepth 20000 in
theorem lw_seen {G : rx_E} {tab : List ExceptionTableEntry} {n i mc ms : Nat} {w : wW} {A : wP} {C : rx_M} {S : gs_T} {Q : Option Value → rx_M → Prop} {Z : String → rx_M → Prop} (hG : rx_OK G) (hN : rx_NC G) (hv : vW w n) (hn : n ≤ 512) (hC : rcw A C w) (hS : rmw S w) (hi : i + 10 ≤ G.2.2.2.2.2.1) (kk : ∀ A' C' S' w', vW w' (n + 1) → rcw A' C' w' → rmw S' w' → rx_W G (yL_law, cL_law, 8, some .boolean, tab) 2000 1596 [(4, .int (nI i)), (3, .ref 101), (2, .ref 52), (1, .ref 0), (0, .float 0)] [] (gl C' S') mc ms Q Z) : rx_W G (yL_law, cL_law, 8, some .boolean, tab) 2000 1185 [(4, .int (nI i)), (3, .ref 101), (2, .ref 52), (1, .ref 0), (0, .float 0)] [] (gl C S) (8 + mc) (2000 + ms) Q Z := by
  obtain ⟨t, ans, w', ht, hv', hc, hm⟩ := F_seen (d := 1990) hG hN hv hn ((G.2.2.2.2.2.2 (i + 1)))
  refine rx_aload_n dL_law_1185 rfl rfl ?_
  refine rx_aload_n dL_law_1186 rfl rfl ?_
  refine rx_iload dL_law_1187 rfl ?_
  refine rx_iconst (v := nI 1) dL_law_1189 rfl ?_
  refine rx_iadd dL_law_1190 ?_
  refine rx_ti (y := nI (i + 1)) (nI_add _ _) ?_
  refine rx_sld (j := i + 1) hG dL_law_1191 rfl (by omega) ?_
  refine rx_aload_n dL_law_1192 rfl rfl ?_
  refine rx_invH (mc := mc) (ms := ms) (mc' := 8) (ms' := 2000) (as := [.ref _, .int _, .ref _]) hG okL_seen lk_RL_133 dL_law_1193 rfl (by simp) (hc A C S hC) ?_
  rintro _ _ ⟨rfl, A', C', rfl, hC', h0⟩
  refine rx_istore dL_law_1196 (Nat.le_of_ble_eq_true rfl) ?_
  refine rx_aload_n dL_law_1198 rfl rfl ?_
  refine rx_aload_n dL_law_1199 rfl rfl ?_
  refine rx_iload dL_law_1200 rfl ?_
  refine rx_iconst (v := nI 1) dL_law_1202 rfl ?_
  refine rx_iadd dL_law_1203 ?_
  refine rx_ti (y := nI (i + 1)) (nI_add _ _) ?_
  refine rx_sld (j := i + 1) hG dL_law_1204 rfl (by omega) ?_
  refine gv_invV (as := [.int _]) hG okX11_seen lk_RL_136 rfl rfl dL_law_1205 rfl (by simp) (hm C' S hS) ?_
  rintro _ _ ⟨S', r, rfl, rfl, hS', ht0, hr⟩
  refine rx_istore dL_law_1208 (Nat.le_of_ble_eq_true rfl) ?_
  refine rx_aload_n dL_law_1210 rfl rfl ?_
  refine gv_invV (as := []) hG okX11_thrown lk_RL_90 rfl rfl dL_law_1211 rfl (by simp) (cm_thrown hG) ?_
  rintro _ _ ⟨rfl, rfl⟩
  refine rx_iload dL_law_1214 rfl ?_
  refine rx_icmp_eq (tgt := 1221) dL_law_1216 (by decide) (fun _ => ?_) (fun q => absurd ht0 q)
  refine rx_iload dL_law_1221 rfl ?_
  by_cases h00 : t = 0
  · subst h00
    refine rx_if_ne (tgt := 1238) dL_law_1223 (by decide) (fun q => absurd nI_0 q) (fun _ => ?_)
    refine rx_aload_n dL_law_1226 rfl rfl ?_
    refine rx_iconst (v := nI 0) dL_law_1227 rfl ?_
    refine gcv_lald (j := 0) (v := ans) hG dL_law_1228 rfl rfl rfl rfl (by decide) (by decide) (h0 rfl) ?_
    refine rx_iload dL_law_1229 rfl ?_
    refine rx_i2l dL_law_1231 ?_
    refine rx_lc_eq (tgt := 1238) dL_law_1232 dL_law_1233 (by decide) (fun _ => ?_) (fun q => absurd (hr rfl).symm q)
    refine rx_goto (tgt := 1596) dL_law_1238 (by decide) ?_
    refine rx_lv (lv' := [(4, .int (nI i)), (3, .ref 101), (2, .ref 52), (1, .ref 0), (0, .float 0)]) ⟨rfl, rfl, rfl, rfl, rfl, trivial⟩ ?_
    exact kk A' C' S' w' hv' hC' hS'
  · refine rx_if_ne (tgt := 1238) dL_law_1223 (by decide) (fun _ => ?_) (fun q => absurd q (by rw [← nI_0, nI_eq (by omega) (by omega)]; exact h00))
    refine rx_goto (tgt := 1596) dL_law_1238 (by decide) ?_
    refine rx_lv (lv' := [(4, .int (nI i)), (3, .ref 101), (2, .ref 52), (1, .ref 0), (0, .float 0)]) ⟨rfl, rfl, rfl, rfl, rfl, trivial⟩ ?_
    exact kk A' C' S' w' hv' hC' hS'
set_option maxRecDepth 20000 in
theorem lw_vote {G : rx_E} {tab : List ExceptionTableEntry} {n i mc ms : Nat} {w : wW} {A : wP} {C : rx_M} {S : gs_T} {Q : Option Value → rx_M → Prop} {Z : String → rx_M → Prop} (hG : rx_OK G) (hN : rx_NC G) (hv : vW w n) (hn : n ≤ 512) (hC : rcw A C w) (hS : rmw S w) (hi : i + 10 ≤ G.2.2.2.2.2.1) (kk : ∀ A' C' S' w', vW w' (n + 1) → rcw A' C' w' → rmw S' w' → rx_W G (yL_law, cL_law, 8, some .boolean, tab) 2000 1596 [(4, .int (nI i)), (3, .ref 101), (2, .ref 52), (1, .ref 0), (0, .float 0)] [] (gl C' S') mc ms Q Z) : rx_W G (yL_law, cL_law, 8, some .boolean, tab) 2000 1241 [(4, .int (nI i)), (3, .ref 101), (2, .ref 52), (1, .ref 0), (0, .float 0)] [] (gl C S) (8 + mc) (2000 + ms) Q Z := by
  obtain ⟨t, ans, w', ht, hv', hc, hm⟩ := F_vote (d := 1990) hG hN hv hn ((G.2.2.2.2.2.2 (i + 1))) ((G.2.2.2.2.2.2 (i + 2)))
  refine rx_aload_n dL_law_1241 rfl rfl ?_
  refine rx_aload_n dL_law_1242 rfl rfl ?_
  refine rx_iload dL_law_1243 rfl ?_
  refine rx_iconst (v := nI 1) dL_law_1245 rfl ?_
  refine rx_iadd dL_law_1246 ?_
  refine rx_ti (y := nI (i + 1)) (nI_add _ _) ?_
  refine rx_sld (j := i + 1) hG dL_law_1247 rfl (by omega) ?_
  refine rx_aload_n dL_law_1248 rfl rfl ?_
  refine rx_iload dL_law_1249 rfl ?_
  refine rx_iconst (v := nI 2) dL_law_1251 rfl ?_
  refine rx_iadd dL_law_1252 ?_
  refine rx_ti (y := nI (i + 2)) (nI_add _ _) ?_
  refine rx_sld (j := i + 2) hG dL_law_1253 rfl (by omega) ?_
  refine rx_aload_n dL_law_1254 rfl rfl ?_
  refine rx_invH (mc := mc) (ms := ms) (mc' := 8) (ms' := 2000) (as := [.ref _, .int _, .int _, .ref _]) hG okL_vote lk_RL_137 dL_law_1255 rfl (by simp) (hc A C S hC) ?_
  rintro _ _ ⟨rfl, A', C', rfl, hC', h0⟩
  refine rx_istore dL_law_1258 (Nat.le_of_ble_eq_true rfl) ?_
  refine rx_aload_n dL_law_1260 rfl rfl ?_
  refine rx_aload_n dL_law_1261 rfl rfl ?_
  refine rx_iload dL_law_1262 rfl ?_
  refine rx_iconst (v := nI 1) dL_law_1264 rfl ?_
  refine rx_iadd dL_law_1265 ?_
  refine rx_ti (y := nI (i + 1)) (nI_add _ _) ?_
  refine rx_sld (j := i + 1) hG dL_law_1266 rfl (by omega) ?_
  refine rx_aload_n dL_law_1267 rfl rfl ?_
  refine rx_iload dL_law_1268 rfl ?_
  refine rx_iconst (v := nI 2) dL_law_1270 rfl ?_
  refine rx_iadd dL_law_1271 ?_
  refine rx_ti (y := nI (i + 2)) (nI_add _ _) ?_
  refine rx_sld (j := i + 2) hG dL_law_1272 rfl (by omega) ?_
  refine gv_invV (as := [.int _, .int _]) hG okX11_vote lk_RL_139 rfl rfl dL_law_1273 rfl (by simp) (hm C' S hS) ?_
  rintro _ _ ⟨S', r, rfl, rfl, hS', ht0, hr⟩
  refine rx_istore dL_law_1276 (Nat.le_of_ble_eq_true rfl) ?_
  refine rx_aload_n dL_law_1278 rfl rfl ?_
  refine gv_invV (as := []) hG okX11_thrown lk_RL_90 rfl rfl dL_law_1279 rfl (by simp) (cm_thrown hG) ?_
  rintro _ _ ⟨rfl, rfl⟩
  refine rx_iload dL_law_1282 rfl ?_
  refine rx_icmp_eq (tgt := 1289) dL_law_1284 (by decide) (fun _ => ?_) (fun q => absurd ht0 q)
  refine rx_iload dL_law_1289 rfl ?_
  by_cases h00 : t = 0
  · subst h00
    refine rx_if_ne (tgt := 1306) dL_law_1291 (by decide) (fun q => absurd nI_0 q) (fun _ => ?_)
    refine rx_aload_n dL_law_1294 rfl rfl ?_
    refine rx_iconst (v := nI 0) dL_law_1295 rfl ?_
    refine gcv_lald (j := 0) (v := ans) hG dL_law_1296 rfl rfl rfl rfl (by decide) (by decide) (h0 rfl) ?_
    refine rx_iload dL_law_1297 rfl ?_
    refine rx_i2l dL_law_1299 ?_
    refine rx_lc_eq (tgt := 1306) dL_law_1300 dL_law_1301 (by decide) (fun _ => ?_) (fun q => absurd (hr rfl).symm q)
    refine rx_goto (tgt := 1596) dL_law_1306 (by decide) ?_
    refine rx_lv (lv' := [(4, .int (nI i)), (3, .ref 101), (2, .ref 52), (1, .ref 0), (0, .float 0)]) ⟨rfl, rfl, rfl, rfl, rfl, trivial⟩ ?_
    exact kk A' C' S' w' hv' hC' hS'
  · refine rx_if_ne (tgt := 1306) dL_law_1291 (by decide) (fun _ => ?_) (fun q => absurd q (by rw [← nI_0, nI_eq (by omega) (by omega)]; exact h00))
    refine rx_goto (tgt := 1596) dL_law_1306 (by decide) ?_
    refine rx_lv (lv' := [(4, .int (nI i)), (3, .ref 101), (2, .ref 52), (1, .ref 0), (0, .float 0)]) ⟨rfl, rfl, rfl, rfl, rfl, trivial⟩ ?_
    exact kk A' C' S' w' hv' hC' hS'
set_option maxRecDepth 20000 in
theorem lw_certain {G : rx_E} {tab : List ExceptionTableEntry} {n i mc ms : Nat} {w : wW} {A : wP} {C : rx_M} {S : gs_T} {Q : Option Value → rx_M → Prop} {Z : String → rx_M → Prop} (hG : rx_OK G) (hN : rx_NC G) (hv : vW w n) (hn : n ≤ 512) (hC : rcw A C w) (hS : rmw S w) (hi : i + 10 ≤ G.2.2.2.2.2.1) (kk : ∀ A' C' S' w', vW w' (n + 1) → rcw A' C' w' → rmw S' w' → rx_W G (yL_law, cL_law, 8, some .boolean, tab) 2000 1596 [(4, .int (nI i)), (3, .ref 101), (2, .ref 52), (1, .ref 0), (0, .float 0)] [] (gl C' S') mc ms Q Z) : rx_W G (yL_law, cL_law, 8, some .boolean, tab) 2000 1309 [(4, .int (nI i)), (3, .ref 101), (2, .ref 52), (1, .ref 0), (0, .float 0)] [] (gl C S) (8 + mc) (2000 + ms) Q Z := by
  obtain ⟨t, ans, w', ht, hv', hc, hm⟩ := F_certain (d := 1990) hG hN hv hn ((G.2.2.2.2.2.2 (i + 1)))
  refine rx_aload_n dL_law_1309 rfl rfl ?_
  refine rx_aload_n dL_law_1310 rfl rfl ?_
  refine rx_iload dL_law_1311 rfl ?_
  refine rx_iconst (v := nI 1) dL_law_1313 rfl ?_
  refine rx_iadd dL_law_1314 ?_
  refine rx_ti (y := nI (i + 1)) (nI_add _ _) ?_
  refine rx_sld (j := i + 1) hG dL_law_1315 rfl (by omega) ?_
  refine rx_aload_n dL_law_1316 rfl rfl ?_
  refine rx_invH (mc := mc) (ms := ms) (mc' := 8) (ms' := 2000) (as := [.ref _, .int _, .ref _]) hG okL_certain lk_RL_140 dL_law_1317 rfl (by simp) (hc A C S hC) ?_
  rintro _ _ ⟨rfl, A', C', rfl, hC', h0⟩
  refine rx_istore dL_law_1320 (Nat.le_of_ble_eq_true rfl) ?_
  refine rx_aload_n dL_law_1322 rfl rfl ?_
  refine rx_aload_n dL_law_1323 rfl rfl ?_
  refine rx_iload dL_law_1324 rfl ?_
  refine rx_iconst (v := nI 1) dL_law_1326 rfl ?_
  refine rx_iadd dL_law_1327 ?_
  refine rx_ti (y := nI (i + 1)) (nI_add _ _) ?_
  refine rx_sld (j := i + 1) hG dL_law_1328 rfl (by omega) ?_
  refine gv_invV (as := [.int _]) hG okX11_certain lk_RL_142 rfl rfl dL_law_1329 rfl (by simp) (hm C' S hS) ?_
  rintro _ _ ⟨S', r, rfl, rfl, hS', ht0, hr⟩
  refine rx_istore dL_law_1332 (Nat.le_of_ble_eq_true rfl) ?_
  refine rx_aload_n dL_law_1334 rfl rfl ?_
  refine gv_invV (as := []) hG okX11_thrown lk_RL_90 rfl rfl dL_law_1335 rfl (by simp) (cm_thrown hG) ?_
  rintro _ _ ⟨rfl, rfl⟩
  refine rx_iload dL_law_1338 rfl ?_
  refine rx_icmp_eq (tgt := 1345) dL_law_1340 (by decide) (fun _ => ?_) (fun q => absurd ht0 q)
  refine rx_iload dL_law_1345 rfl ?_
  by_cases h00 : t = 0
  · subst h00
    refine rx_if_ne (tgt := 1362) dL_law_1347 (by decide) (fun q => absurd nI_0 q) (fun _ => ?_)
    refine rx_aload_n dL_law_1350 rfl rfl ?_
    refine rx_iconst (v := nI 0) dL_law_1351 rfl ?_
    refine gcv_lald (j := 0) (v := ans) hG dL_law_1352 rfl rfl rfl rfl (by decide) (by decide) (h0 rfl) ?_
    refine rx_iload dL_law_1353 rfl ?_
    refine rx_i2l dL_law_1355 ?_
    refine rx_lc_eq (tgt := 1362) dL_law_1356 dL_law_1357 (by decide) (fun _ => ?_) (fun q => absurd (hr rfl).symm q)
    refine rx_goto (tgt := 1596) dL_law_1362 (by decide) ?_
    refine rx_lv (lv' := [(4, .int (nI i)), (3, .ref 101), (2, .ref 52), (1, .ref 0), (0, .float 0)]) ⟨rfl, rfl, rfl, rfl, rfl, trivial⟩ ?_
    exact kk A' C' S' w' hv' hC' hS'
  · refine rx_if_ne (tgt := 1362) dL_law_1347 (by decide) (fun _ => ?_) (fun q => absurd q (by rw [← nI_0, nI_eq (by omega) (by omega)]; exact h00))
    refine rx_goto (tgt := 1596) dL_law_1362 (by decide) ?_
    refine rx_lv (lv' := [(4, .int (nI i)), (3, .ref 101), (2, .ref 52), (1, .ref 0), (0, .float 0)]) ⟨rfl, rfl, rfl, rfl, rfl, trivial⟩ ?_
    exact kk A' C' S' w' hv' hC' hS'
set_option maxRecDepth 20000 in
theorem lw_beside {G : rx_E} {tab : List ExceptionTableEntry} {n i mc ms : Nat} {w : wW} {A : wP} {C : rx_M} {S : gs_T} {Q : Option Value → rx_M → Prop} {Z : String → rx_M → Prop} (hG : rx_OK G) (hN : rx_NC G) (hv : vW w n) (hn : n ≤ 512) (hC : rcw A C w) (hS : rmw S w) (hi : i + 10 ≤ G.2.2.2.2.2.1) (kk : ∀ A' C' S' w', vW w' (n + 1) → rcw A' C' w' → rmw S' w' → rx_W G (yL_law, cL_law, 8, some .boolean, tab) 2000 1596 [(4, .int (nI i)), (3, .ref 101), (2, .ref 52), (1, .ref 0), (0, .float 0)] [] (gl C' S') mc ms Q Z) : rx_W G (yL_law, cL_law, 8, some .boolean, tab) 2000 1365 [(4, .int (nI i)), (3, .ref 101), (2, .ref 52), (1, .ref 0), (0, .float 0)] [] (gl C S) (8 + mc) (2000 + ms) Q Z := by
  obtain ⟨t, w', ht, hv', hc, hm⟩ := F_beside (d := 1990) hG hN hv hn ((G.2.2.2.2.2.2 (i + 1))) ((((G.2.2.2.2.2.2 (i + 2)).toInt64 <<< ((nI 32).toInt64 &&& 63)) ||| ((G.2.2.2.2.2.2 (i + 3)).toInt64 &&& 4294967295)))
  refine rx_aload_n dL_law_1365 rfl rfl ?_
  refine rx_aload_n dL_law_1366 rfl rfl ?_
  refine rx_iload dL_law_1367 rfl ?_
  refine rx_iconst (v := nI 1) dL_law_1369 rfl ?_
  refine rx_iadd dL_law_1370 ?_
  refine rx_ti (y := nI (i + 1)) (nI_add _ _) ?_
  refine rx_sld (j := i + 1) hG dL_law_1371 rfl (by omega) ?_
  refine rx_aload_n dL_law_1372 rfl rfl ?_
  refine rx_iload dL_law_1373 rfl ?_
  refine rx_iconst (v := nI 2) dL_law_1375 rfl ?_
  refine rx_iadd dL_law_1376 ?_
  refine rx_ti (y := nI (i + 2)) (nI_add _ _) ?_
  refine rx_sld (j := i + 2) hG dL_law_1377 rfl (by omega) ?_
  refine rx_i2l dL_law_1378 ?_
  refine rx_bipush (v := nI 32) dL_law_1379 rfl ?_
  refine rx_lshl dL_law_1381 ?_
  refine rx_aload_n dL_law_1382 rfl rfl ?_
  refine rx_iload dL_law_1383 rfl ?_
  refine rx_iconst (v := nI 3) dL_law_1385 rfl ?_
  refine rx_iadd dL_law_1386 ?_
  refine rx_ti (y := nI (i + 3)) (nI_add _ _) ?_
  refine rx_sld (j := i + 3) hG dL_law_1387 rfl (by omega) ?_
  refine rx_i2l dL_law_1388 ?_
  refine rx_ldc2 hG hw_895 dL_law_1389 ?_
  refine rx_land dL_law_1392 ?_
  refine rx_lor dL_law_1393 ?_
  refine rx_invH (mc := mc) (ms := ms) (mc' := 8) (ms' := 2000) (as := [.ref _, .int _, .long _]) hG okL_beside lk_RL_143 dL_law_1394 rfl (by simp) (hc A C S hC) ?_
  rintro _ _ ⟨rfl, A', C', rfl, hC'⟩
  refine rx_istore dL_law_1397 (Nat.le_of_ble_eq_true rfl) ?_
  refine rx_aload_n dL_law_1399 rfl rfl ?_
  refine rx_aload_n dL_law_1400 rfl rfl ?_
  refine rx_iload dL_law_1401 rfl ?_
  refine rx_iconst (v := nI 1) dL_law_1403 rfl ?_
  refine rx_iadd dL_law_1404 ?_
  refine rx_ti (y := nI (i + 1)) (nI_add _ _) ?_
  refine rx_sld (j := i + 1) hG dL_law_1405 rfl (by omega) ?_
  refine rx_aload_n dL_law_1406 rfl rfl ?_
  refine rx_iload dL_law_1407 rfl ?_
  refine rx_iconst (v := nI 2) dL_law_1409 rfl ?_
  refine rx_iadd dL_law_1410 ?_
  refine rx_ti (y := nI (i + 2)) (nI_add _ _) ?_
  refine rx_sld (j := i + 2) hG dL_law_1411 rfl (by omega) ?_
  refine rx_i2l dL_law_1412 ?_
  refine rx_bipush (v := nI 32) dL_law_1413 rfl ?_
  refine rx_lshl dL_law_1415 ?_
  refine rx_aload_n dL_law_1416 rfl rfl ?_
  refine rx_iload dL_law_1417 rfl ?_
  refine rx_iconst (v := nI 3) dL_law_1419 rfl ?_
  refine rx_iadd dL_law_1420 ?_
  refine rx_ti (y := nI (i + 3)) (nI_add _ _) ?_
  refine rx_sld (j := i + 3) hG dL_law_1421 rfl (by omega) ?_
  refine rx_i2l dL_law_1422 ?_
  refine rx_ldc2 hG hw_895 dL_law_1423 ?_
  refine rx_land dL_law_1426 ?_
  refine rx_lor dL_law_1427 ?_
  refine gv_invV (as := [.int _, .long _]) hG okX11_beside lk_RL_146 rfl rfl dL_law_1428 rfl (by simp) (hm C' S hS) ?_
  rintro _ _ ⟨S', rfl, rfl, hS', ht0⟩
  refine rx_aload_n dL_law_1431 rfl rfl ?_
  refine gv_invV (as := []) hG okX11_thrown lk_RL_90 rfl rfl dL_law_1432 rfl (by simp) (cm_thrown hG) ?_
  rintro _ _ ⟨rfl, rfl⟩
  refine rx_iload dL_law_1435 rfl ?_
  refine rx_icmp_eq (tgt := 1442) dL_law_1437 (by decide) (fun _ => ?_) (fun q => absurd ht0 q)
  refine rx_goto (tgt := 1596) dL_law_1442 (by decide) ?_
  refine rx_lv (lv' := [(4, .int (nI i)), (3, .ref 101), (2, .ref 52), (1, .ref 0), (0, .float 0)]) ⟨rfl, rfl, rfl, rfl, rfl, trivial⟩ ?_
  exact kk A' C' S' w' hv' hC' hS'
set_option maxRecDepth 20000 in
theorem lw_proves {G : rx_E} {tab : List ExceptionTableEntry} {n i mc ms : Nat} {w : wW} {A : wP} {C : rx_M} {S : gs_T} {Q : Option Value → rx_M → Prop} {Z : String → rx_M → Prop} (hG : rx_OK G) (hN : rx_NC G) (hv : vW w n) (hn : n ≤ 512) (hC : rcw A C w) (hS : rmw S w) (hi : i + 10 ≤ G.2.2.2.2.2.1) (kk : ∀ A' C' S' w', vW w' (n + 1) → rcw A' C' w' → rmw S' w' → rx_W G (yL_law, cL_law, 8, some .boolean, tab) 2000 1596 [(4, .int (nI i)), (3, .ref 101), (2, .ref 52), (1, .ref 0), (0, .float 0)] [] (gl C' S') mc ms Q Z) : rx_W G (yL_law, cL_law, 8, some .boolean, tab) 2000 1445 [(4, .int (nI i)), (3, .ref 101), (2, .ref 52), (1, .ref 0), (0, .float 0)] [] (gl C S) (8 + mc) (2000 + ms) Q Z := by
  obtain ⟨t, ans, w', ht, hv', hc, hm⟩ := F_proves (d := 1990) hG hN hv hn ((((G.2.2.2.2.2.2 (i + 1)).toInt64 <<< ((nI 32).toInt64 &&& 63)) ||| ((G.2.2.2.2.2.2 (i + 2)).toInt64 &&& 4294967295))) ((G.2.2.2.2.2.2 (i + 3))) ((((G.2.2.2.2.2.2 (i + 4)).toInt64 <<< ((nI 32).toInt64 &&& 63)) ||| ((G.2.2.2.2.2.2 (i + 5)).toInt64 &&& 4294967295)))
  refine rx_aload_n dL_law_1445 rfl rfl ?_
  refine rx_aload_n dL_law_1446 rfl rfl ?_
  refine rx_iload dL_law_1447 rfl ?_
  refine rx_iconst (v := nI 1) dL_law_1449 rfl ?_
  refine rx_iadd dL_law_1450 ?_
  refine rx_ti (y := nI (i + 1)) (nI_add _ _) ?_
  refine rx_sld (j := i + 1) hG dL_law_1451 rfl (by omega) ?_
  refine rx_i2l dL_law_1452 ?_
  refine rx_bipush (v := nI 32) dL_law_1453 rfl ?_
  refine rx_lshl dL_law_1455 ?_
  refine rx_aload_n dL_law_1456 rfl rfl ?_
  refine rx_iload dL_law_1457 rfl ?_
  refine rx_iconst (v := nI 2) dL_law_1459 rfl ?_
  refine rx_iadd dL_law_1460 ?_
  refine rx_ti (y := nI (i + 2)) (nI_add _ _) ?_
  refine rx_sld (j := i + 2) hG dL_law_1461 rfl (by omega) ?_
  refine rx_i2l dL_law_1462 ?_
  refine rx_ldc2 hG hw_895 dL_law_1463 ?_
  refine rx_land dL_law_1466 ?_
  refine rx_lor dL_law_1467 ?_
  refine rx_aload_n dL_law_1468 rfl rfl ?_
  refine rx_iload dL_law_1469 rfl ?_
  refine rx_iconst (v := nI 3) dL_law_1471 rfl ?_
  refine rx_iadd dL_law_1472 ?_
  refine rx_ti (y := nI (i + 3)) (nI_add _ _) ?_
  refine rx_sld (j := i + 3) hG dL_law_1473 rfl (by omega) ?_
  refine rx_aload_n dL_law_1474 rfl rfl ?_
  refine rx_iload dL_law_1475 rfl ?_
  refine rx_iconst (v := nI 4) dL_law_1477 rfl ?_
  refine rx_iadd dL_law_1478 ?_
  refine rx_ti (y := nI (i + 4)) (nI_add _ _) ?_
  refine rx_sld (j := i + 4) hG dL_law_1479 rfl (by omega) ?_
  refine rx_i2l dL_law_1480 ?_
  refine rx_bipush (v := nI 32) dL_law_1481 rfl ?_
  refine rx_lshl dL_law_1483 ?_
  refine rx_aload_n dL_law_1484 rfl rfl ?_
  refine rx_iload dL_law_1485 rfl ?_
  refine rx_iconst (v := nI 5) dL_law_1487 rfl ?_
  refine rx_iadd dL_law_1488 ?_
  refine rx_ti (y := nI (i + 5)) (nI_add _ _) ?_
  refine rx_sld (j := i + 5) hG dL_law_1489 rfl (by omega) ?_
  refine rx_i2l dL_law_1490 ?_
  refine rx_ldc2 hG hw_895 dL_law_1491 ?_
  refine rx_land dL_law_1494 ?_
  refine rx_lor dL_law_1495 ?_
  refine rx_aload_n dL_law_1496 rfl rfl ?_
  refine rx_invH (mc := mc) (ms := ms) (mc' := 8) (ms' := 2000) (as := [.ref _, .long _, .int _, .long _, .ref _]) hG okL_proves lk_RL_147 dL_law_1497 rfl (by simp) (hc A C S hC) ?_
  rintro _ _ ⟨rfl, A', C', rfl, hC', h0⟩
  refine rx_istore dL_law_1500 (Nat.le_of_ble_eq_true rfl) ?_
  refine rx_aload_n dL_law_1502 rfl rfl ?_
  refine rx_aload_n dL_law_1503 rfl rfl ?_
  refine rx_iload dL_law_1504 rfl ?_
  refine rx_iconst (v := nI 1) dL_law_1506 rfl ?_
  refine rx_iadd dL_law_1507 ?_
  refine rx_ti (y := nI (i + 1)) (nI_add _ _) ?_
  refine rx_sld (j := i + 1) hG dL_law_1508 rfl (by omega) ?_
  refine rx_i2l dL_law_1509 ?_
  refine rx_bipush (v := nI 32) dL_law_1510 rfl ?_
  refine rx_lshl dL_law_1512 ?_
  refine rx_aload_n dL_law_1513 rfl rfl ?_
  refine rx_iload dL_law_1514 rfl ?_
  refine rx_iconst (v := nI 2) dL_law_1516 rfl ?_
  refine rx_iadd dL_law_1517 ?_
  refine rx_ti (y := nI (i + 2)) (nI_add _ _) ?_
  refine rx_sld (j := i + 2) hG dL_law_1518 rfl (by omega) ?_
  refine rx_i2l dL_law_1519 ?_
  refine rx_ldc2 hG hw_895 dL_law_1520 ?_
  refine rx_land dL_law_1523 ?_
  refine rx_lor dL_law_1524 ?_
  refine rx_aload_n dL_law_1525 rfl rfl ?_
  refine rx_iload dL_law_1526 rfl ?_
  refine rx_iconst (v := nI 3) dL_law_1528 rfl ?_
  refine rx_iadd dL_law_1529 ?_
  refine rx_ti (y := nI (i + 3)) (nI_add _ _) ?_
  refine rx_sld (j := i + 3) hG dL_law_1530 rfl (by omega) ?_
  refine rx_aload_n dL_law_1531 rfl rfl ?_
  refine rx_iload dL_law_1532 rfl ?_
  refine rx_iconst (v := nI 4) dL_law_1534 rfl ?_
  refine rx_iadd dL_law_1535 ?_
  refine rx_ti (y := nI (i + 4)) (nI_add _ _) ?_
  refine rx_sld (j := i + 4) hG dL_law_1536 rfl (by omega) ?_
  refine rx_i2l dL_law_1537 ?_
  refine rx_bipush (v := nI 32) dL_law_1538 rfl ?_
  refine rx_lshl dL_law_1540 ?_
  refine rx_aload_n dL_law_1541 rfl rfl ?_
  refine rx_iload dL_law_1542 rfl ?_
  refine rx_iconst (v := nI 5) dL_law_1544 rfl ?_
  refine rx_iadd dL_law_1545 ?_
  refine rx_ti (y := nI (i + 5)) (nI_add _ _) ?_
  refine rx_sld (j := i + 5) hG dL_law_1546 rfl (by omega) ?_
  refine rx_i2l dL_law_1547 ?_
  refine rx_ldc2 hG hw_895 dL_law_1548 ?_
  refine rx_land dL_law_1551 ?_
  refine rx_lor dL_law_1552 ?_
  refine gv_invV (as := [.long _, .int _, .long _]) hG okX11_proves lk_RL_150 rfl rfl dL_law_1553 rfl (by simp) (hm C' S hS) ?_
  rintro _ _ ⟨S', r, rfl, rfl, hS', ht0, hr⟩
  refine rx_istore dL_law_1556 (Nat.le_of_ble_eq_true rfl) ?_
  refine rx_aload_n dL_law_1558 rfl rfl ?_
  refine gv_invV (as := []) hG okX11_thrown lk_RL_90 rfl rfl dL_law_1559 rfl (by simp) (cm_thrown hG) ?_
  rintro _ _ ⟨rfl, rfl⟩
  refine rx_iload dL_law_1562 rfl ?_
  refine rx_icmp_eq (tgt := 1569) dL_law_1564 (by decide) (fun _ => ?_) (fun q => absurd ht0 q)
  refine rx_iload dL_law_1569 rfl ?_
  by_cases h00 : t = 0
  · subst h00
    refine rx_if_ne (tgt := 1593) dL_law_1571 (by decide) (fun q => absurd nI_0 q) (fun _ => ?_)
    refine rx_aload_n dL_law_1574 rfl rfl ?_
    refine rx_iconst (v := nI 0) dL_law_1575 rfl ?_
    refine gcv_lald (j := 0) (v := ans) hG dL_law_1576 rfl rfl rfl rfl (by decide) (by decide) (h0 rfl) ?_
    refine rx_iload dL_law_1577 rfl ?_
    cases r with
    | true =>
      refine rx_if_eq (tgt := 1586) dL_law_1579 (by decide) (fun q => absurd q (by decide)) (fun _ => ?_)
      refine rx_lconst (v := 1) dL_law_1582 rfl ?_
      refine rx_goto (tgt := 1587) dL_law_1583 (by decide) ?_
      refine rx_lc_eq (tgt := 1593) dL_law_1587 dL_law_1588 (by decide) (fun _ => ?_) (fun q => absurd (show ans = 1 from (hr rfl).symm) q)
      refine rx_goto (tgt := 1596) dL_law_1593 (by decide) ?_
      refine rx_lv (lv' := [(4, .int (nI i)), (3, .ref 101), (2, .ref 52), (1, .ref 0), (0, .float 0)]) ⟨rfl, rfl, rfl, rfl, rfl, trivial⟩ ?_
      exact kk A' C' S' w' hv' hC' hS'
    | false =>
      refine rx_if_eq (tgt := 1586) dL_law_1579 (by decide) (fun _ => ?_) (fun q => absurd (by decide) q)
      refine rx_lconst (v := 0) dL_law_1586 rfl ?_
      refine rx_lc_eq (tgt := 1593) dL_law_1587 dL_law_1588 (by decide) (fun _ => ?_) (fun q => absurd (show ans = 0 from (hr rfl).symm) q)
      refine rx_goto (tgt := 1596) dL_law_1593 (by decide) ?_
      refine rx_lv (lv' := [(4, .int (nI i)), (3, .ref 101), (2, .ref 52), (1, .ref 0), (0, .float 0)]) ⟨rfl, rfl, rfl, rfl, rfl, trivial⟩ ?_
      exact kk A' C' S' w' hv' hC' hS'
  · refine rx_if_ne (tgt := 1593) dL_law_1571 (by decide) (fun _ => ?_) (fun q => absurd q (by rw [← nI_0, nI_eq (by omega) (by omega)]; exact h00))
    refine rx_goto (tgt := 1596) dL_law_1593 (by decide) ?_
    refine rx_lv (lv' := [(4, .int (nI i)), (3, .ref 101), (2, .ref 52), (1, .ref 0), (0, .float 0)]) ⟨rfl, rfl, rfl, rfl, rfl, trivial⟩ ?_
    exact kk A' C' S' w' hv' hC' hS'

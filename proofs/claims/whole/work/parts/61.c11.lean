theorem dX7_perform_0 : decode cX7_perform 0 = .ok (.iload_n 2, 1) := by decide +kernel
theorem dX7_perform_1 : decode cX7_perform 1 = .ok (.tableswitch 317 0 39 #[175, 182, 182, 182, 182, 182, 317, 317, 317, 317, 317, 317, 317, 317, 317, 317, 317, 317, 317, 189, 189, 210, 216, 317, 317, 317, 317, 317, 317, 317, 317, 230, 236, 242, 256, 266, 280, 290, 300, 310], 175) := by decide +kernel
theorem dX7_perform_176 : decode cX7_perform 176 = .ok (.aload_n 0, 1) := by decide +kernel
theorem dX7_perform_177 : decode cX7_perform 177 = .ok (.iconst 1, 1) := by decide +kernel
theorem dX7_perform_178 : decode cX7_perform 178 = .ok (.lconst 0, 1) := by decide +kernel
theorem dX7_perform_179 : decode cX7_perform 179 = .ok (.invokevirtual 202, 3) := by decide +kernel
theorem dX7_perform_182 : decode cX7_perform 182 = .ok (.ireturn, 1) := by decide +kernel
theorem dX7_perform_183 : decode cX7_perform 183 = .ok (.aload_n 1, 1) := by decide +kernel
theorem dX7_perform_184 : decode cX7_perform 184 = .ok (.iload_n 2, 1) := by decide +kernel
theorem dX7_perform_185 : decode cX7_perform 185 = .ok (.invokevirtual 206, 3) := by decide +kernel
theorem dX7_perform_188 : decode cX7_perform 188 = .ok (.iconst 0, 1) := by decide +kernel
theorem dX7_perform_189 : decode cX7_perform 189 = .ok (.ireturn, 1) := by decide +kernel
theorem dX7_perform_190 : decode cX7_perform 190 = .ok (.iload_n 2, 1) := by decide +kernel
theorem dX7_perform_191 : decode cX7_perform 191 = .ok (.bipush 19, 2) := by decide +kernel
theorem dX7_perform_193 : decode cX7_perform 193 = .ok (.if_icmp .eq 12, 3) := by decide +kernel
theorem dX7_perform_196 : decode cX7_perform 196 = .ok (.aload_n 1, 1) := by decide +kernel
theorem dX7_perform_197 : decode cX7_perform 197 = .ok (.invokevirtual 209, 3) := by decide +kernel
theorem dX7_perform_200 : decode cX7_perform 200 = .ok (.lconst 0, 1) := by decide +kernel
theorem dX7_perform_201 : decode cX7_perform 201 = .ok (.lcmp, 1) := by decide +kernel
theorem dX7_perform_202 : decode cX7_perform 202 = .ok (.ifCond .eq 7, 3) := by decide +kernel
theorem dX7_perform_205 : decode cX7_perform 205 = .ok (.aload_n 1, 1) := by decide +kernel
theorem dX7_perform_206 : decode cX7_perform 206 = .ok (.invokevirtual 213, 3) := by decide +kernel
theorem dX7_perform_209 : decode cX7_perform 209 = .ok (.iconst 0, 1) := by decide +kernel
theorem dX7_perform_210 : decode cX7_perform 210 = .ok (.ireturn, 1) := by decide +kernel
theorem dX7_perform_211 : decode cX7_perform 211 = .ok (.aload_n 0, 1) := by decide +kernel
theorem dX7_perform_212 : decode cX7_perform 212 = .ok (.aload_n 1, 1) := by decide +kernel
theorem dX7_perform_213 : decode cX7_perform 213 = .ok (.invokevirtual 216, 3) := by decide +kernel
theorem dX7_perform_216 : decode cX7_perform 216 = .ok (.ireturn, 1) := by decide +kernel
theorem dX7_perform_217 : decode cX7_perform 217 = .ok (.aload_n 0, 1) := by decide +kernel
theorem dX7_perform_218 : decode cX7_perform 218 = .ok (.aload_n 1, 1) := by decide +kernel
theorem dX7_perform_219 : decode cX7_perform 219 = .ok (.aload_n 1, 1) := by decide +kernel
theorem dX7_perform_220 : decode cX7_perform 220 = .ok (.invokevirtual 209, 3) := by decide +kernel
theorem dX7_perform_223 : decode cX7_perform 223 = .ok (.aload_n 1, 1) := by decide +kernel
theorem dX7_perform_224 : decode cX7_perform 224 = .ok (.invokevirtual 209, 3) := by decide +kernel
theorem dX7_perform_227 : decode cX7_perform 227 = .ok (.invokevirtual 220, 3) := by decide +kernel
theorem dX7_perform_230 : decode cX7_perform 230 = .ok (.ireturn, 1) := by decide +kernel
theorem dX7_perform_231 : decode cX7_perform 231 = .ok (.aload_n 0, 1) := by decide +kernel
theorem dX7_perform_232 : decode cX7_perform 232 = .ok (.aload_n 1, 1) := by decide +kernel
theorem dX7_perform_233 : decode cX7_perform 233 = .ok (.invokevirtual 224, 3) := by decide +kernel
theorem dX7_perform_236 : decode cX7_perform 236 = .ok (.ireturn, 1) := by decide +kernel
theorem dX7_perform_237 : decode cX7_perform 237 = .ok (.aload_n 0, 1) := by decide +kernel
theorem dX7_perform_238 : decode cX7_perform 238 = .ok (.aload_n 1, 1) := by decide +kernel
theorem dX7_perform_239 : decode cX7_perform 239 = .ok (.invokevirtual 227, 3) := by decide +kernel
theorem dX7_perform_242 : decode cX7_perform 242 = .ok (.ireturn, 1) := by decide +kernel
theorem dX7_perform_243 : decode cX7_perform 243 = .ok (.aload_n 0, 1) := by decide +kernel
theorem dX7_perform_244 : decode cX7_perform 244 = .ok (.aload_n 1, 1) := by decide +kernel
theorem dX7_perform_245 : decode cX7_perform 245 = .ok (.aload_n 1, 1) := by decide +kernel
theorem dX7_perform_246 : decode cX7_perform 246 = .ok (.invokevirtual 209, 3) := by decide +kernel
theorem dX7_perform_249 : decode cX7_perform 249 = .ok (.aload_n 1, 1) := by decide +kernel
theorem dX7_perform_250 : decode cX7_perform 250 = .ok (.invokevirtual 209, 3) := by decide +kernel
theorem dX7_perform_253 : decode cX7_perform 253 = .ok (.invokevirtual 230, 3) := by decide +kernel
theorem dX7_perform_256 : decode cX7_perform 256 = .ok (.ireturn, 1) := by decide +kernel
theorem dX7_perform_257 : decode cX7_perform 257 = .ok (.aload_n 0, 1) := by decide +kernel
theorem dX7_perform_258 : decode cX7_perform 258 = .ok (.aload_n 1, 1) := by decide +kernel
theorem dX7_perform_259 : decode cX7_perform 259 = .ok (.aload_n 1, 1) := by decide +kernel
theorem dX7_perform_260 : decode cX7_perform 260 = .ok (.invokevirtual 209, 3) := by decide +kernel
theorem dX7_perform_263 : decode cX7_perform 263 = .ok (.invokevirtual 233, 3) := by decide +kernel
theorem dX7_perform_266 : decode cX7_perform 266 = .ok (.ireturn, 1) := by decide +kernel
theorem dX7_perform_267 : decode cX7_perform 267 = .ok (.aload_n 0, 1) := by decide +kernel
theorem dX7_perform_268 : decode cX7_perform 268 = .ok (.aload_n 1, 1) := by decide +kernel
theorem dX7_perform_269 : decode cX7_perform 269 = .ok (.aload_n 1, 1) := by decide +kernel
theorem dX7_perform_270 : decode cX7_perform 270 = .ok (.invokevirtual 209, 3) := by decide +kernel
theorem dX7_perform_273 : decode cX7_perform 273 = .ok (.aload_n 1, 1) := by decide +kernel
theorem dX7_perform_274 : decode cX7_perform 274 = .ok (.invokevirtual 209, 3) := by decide +kernel
theorem dX7_perform_277 : decode cX7_perform 277 = .ok (.invokevirtual 237, 3) := by decide +kernel
theorem dX7_perform_280 : decode cX7_perform 280 = .ok (.ireturn, 1) := by decide +kernel
theorem dX7_perform_281 : decode cX7_perform 281 = .ok (.aload_n 0, 1) := by decide +kernel
theorem dX7_perform_282 : decode cX7_perform 282 = .ok (.iconst 1, 1) := by decide +kernel
theorem dX7_perform_283 : decode cX7_perform 283 = .ok (.aload_n 1, 1) := by decide +kernel
theorem dX7_perform_284 : decode cX7_perform 284 = .ok (.invokevirtual 209, 3) := by decide +kernel
theorem dX7_perform_287 : decode cX7_perform 287 = .ok (.invokevirtual 202, 3) := by decide +kernel
theorem dX7_perform_290 : decode cX7_perform 290 = .ok (.ireturn, 1) := by decide +kernel
theorem dX7_perform_291 : decode cX7_perform 291 = .ok (.aload_n 0, 1) := by decide +kernel
theorem dX7_perform_292 : decode cX7_perform 292 = .ok (.iconst 2, 1) := by decide +kernel
theorem dX7_perform_293 : decode cX7_perform 293 = .ok (.aload_n 1, 1) := by decide +kernel
theorem dX7_perform_294 : decode cX7_perform 294 = .ok (.invokevirtual 209, 3) := by decide +kernel
theorem dX7_perform_297 : decode cX7_perform 297 = .ok (.invokevirtual 202, 3) := by decide +kernel
theorem dX7_perform_300 : decode cX7_perform 300 = .ok (.ireturn, 1) := by decide +kernel
theorem dX7_perform_301 : decode cX7_perform 301 = .ok (.aload_n 0, 1) := by decide +kernel
theorem dX7_perform_302 : decode cX7_perform 302 = .ok (.aload_n 1, 1) := by decide +kernel
theorem dX7_perform_303 : decode cX7_perform 303 = .ok (.aload_n 1, 1) := by decide +kernel
theorem dX7_perform_304 : decode cX7_perform 304 = .ok (.invokevirtual 209, 3) := by decide +kernel
theorem dX7_perform_307 : decode cX7_perform 307 = .ok (.invokevirtual 240, 3) := by decide +kernel
theorem dX7_perform_310 : decode cX7_perform 310 = .ok (.ireturn, 1) := by decide +kernel
theorem dX7_perform_311 : decode cX7_perform 311 = .ok (.aload_n 1, 1) := by decide +kernel
theorem dX7_perform_312 : decode cX7_perform 312 = .ok (.iconst 1, 1) := by decide +kernel
theorem dX7_perform_313 : decode cX7_perform 313 = .ok (.putfield 163, 3) := by decide +kernel
theorem dX7_perform_316 : decode cX7_perform 316 = .ok (.iconst 0, 1) := by decide +kernel
theorem dX7_perform_317 : decode cX7_perform 317 = .ok (.ireturn, 1) := by decide +kernel
theorem dX7_perform_318 : decode cX7_perform 318 = .ok (.iload_n 2, 1) := by decide +kernel
theorem dX7_perform_319 : decode cX7_perform 319 = .ok (.bipush 18, 2) := by decide +kernel
theorem dX7_perform_321 : decode cX7_perform 321 = .ok (.if_icmp .gt 11, 3) := by decide +kernel
theorem dX7_perform_324 : decode cX7_perform 324 = .ok (.aload_n 1, 1) := by decide +kernel
theorem dX7_perform_325 : decode cX7_perform 325 = .ok (.iload_n 2, 1) := by decide +kernel
theorem dX7_perform_326 : decode cX7_perform 326 = .ok (.invokevirtual 243, 3) := by decide +kernel
theorem dX7_perform_329 : decode cX7_perform 329 = .ok (.goto 9, 3) := by decide +kernel
theorem dX7_perform_332 : decode cX7_perform 332 = .ok (.aload_n 0, 1) := by decide +kernel
theorem dX7_perform_333 : decode cX7_perform 333 = .ok (.aload_n 1, 1) := by decide +kernel
theorem dX7_perform_334 : decode cX7_perform 334 = .ok (.iload_n 2, 1) := by decide +kernel
theorem dX7_perform_335 : decode cX7_perform 335 = .ok (.invokevirtual 247, 3) := by decide +kernel
theorem dX7_perform_338 : decode cX7_perform 338 = .ok (.ireturn, 1) := by decide +kernel
theorem vd2_18 {X : vx_S} {c a q s k : Nat} {v r : Int64} {l o : Bool} {t : List Int64} {w : (Nat → Int64) × Nat × Nat} {fs : List vf_T} {y : Int64} : vm_do2 X 18 ((c, a, q, s, k), (v, r), (l, o), y :: t, w) fs = vm_on X ((c, a, q, s, k), (v, r), (l, o), (if y = 0 then 1 else 0) :: t, w) fs := rfl
theorem vd2_z {X : vx_S} {c a q s k : Nat} {v r : Int64} {l o : Bool} {t : List Int64} {w : (Nat → Int64) × Nat × Nat} {fs : List vf_T} {x y : Int64} {op : Nat} (h : op = 9 ∨ op = 10) (hy : y = 0) : vm_do2 X op ((c, a, q, s, k), (v, r), (l, o), y :: x :: t, w) fs = vm_end X ((c, a, q, s, k), (v, r), (l, o), t, w) fs 3 0 := by
  unfold vm_do2
  rw [if_neg (by omega), if_pos ⟨h, hy⟩]; rfl
theorem vd2 {X : vx_S} {c a q s k : Nat} {v r : Int64} {l o : Bool} {t : List Int64} {w : (Nat → Int64) × Nat × Nat} {fs : List vf_T} {x y : Int64} {op : Nat} (h18 : op ≠ 18) (h : (op = 9 ∨ op = 10) → y ≠ 0) : vm_do2 X op ((c, a, q, s, k), (v, r), (l, o), y :: x :: t, w) fs = vm_on X ((c, a, q, s, k), (v, r), (l, o), vm_bin op x y :: t, w) fs := by
  unfold vm_do2
  rw [if_neg h18, if_neg (fun q => h q.1 q.2)]; rfl
theorem vd3_20z {X : vx_S} {c a q s k : Nat} {v r : Int64} {l o : Bool} {t : List Int64} {w : (Nat → Int64) × Nat × Nat} {fs : List vf_T} {y : Int64} {mo : Nat} (h : y = 0) : vm_do3 X 20 mo ((c, a, q, s, k), (v, r), (l, o), y :: t, w) fs = vm_on X ((c, a, q, s, k), (v, r), (l, o), t, w) fs := by
  subst h; rfl
theorem vd3_20n {X : vx_S} {c a q s k : Nat} {v r : Int64} {l o : Bool} {t : List Int64} {w : (Nat → Int64) × Nat × Nat} {fs : List vf_T} {y : Int64} {mo : Nat} (h : ¬ y = 0) : vm_do3 X 20 mo ((c, a, q, s, k), (v, r), (l, o), y :: t, w) fs = vm_on X ((c, mo, q, s, k), (v, r), (l, o), t, w) fs := by
  show vm_on X (vf_set ((c, a, q, s, k), (v, r), (l, o), y :: t, w) (if y = 0 then a else mo) q t) fs = _
  rw [if_neg h]; rfl
theorem vd1_2 {X : vx_S} {c a0 q s k : Nat} {v r : Int64} {l o : Bool} {t : List Int64} {w : (Nat → Int64) × Nat × Nat} {fs : List vf_T} {cd : List Nat} {mo : Nat} : vm_do1 cd X 2 mo ((c, a0 + 9, q, s, k), (v, r), (l, o), t, w) fs = vm_on X ((c, a0 + 9, q, s, k), (v, r), (l, o), vm_big cd a0 8 :: t, w) fs := by
  show vm_on X (vm_st ((c, a0 + 9, q, s, k), (v, r), (l, o), t, w) (vm_big cd (a0 + 9 - 9) 8 :: t)) fs = _
  rw [Nat.add_sub_cancel]; rfl
theorem cpf_0 {G : rx_E} {d : Nat} {S : gs_T} {K : Nat → Nat × Nat} {C0 C : rx_M} {g : vg_T} {bs od : Nat} {n : Nat → Int64} {e : List (Nat × Int64 × Int64)} {b m c a q s k : Nat} {v r : Int64} {l o : Bool} {t : List Int64} {w : (Nat → Int64) × Nat × Nat} {fs : List vf_T} {z : Int32} (hG : rx_OK G) {mo : Nat} {cd : List Nat} (hp : fs.length < 10) (hs1 : s < 32) (hk : k < 32) (hs : ∀ f ∈ fs, fS f < 32) (hg : g.2.1 ≤ 16) (ho : g.2.2.1 < 32) (hh : g.2.2.2 < 100) (hq : q ≤ 30000) (hb : b ≤ 30001) (hod : od < 10) (hbs : bs + e.length ≤ 40000) (hY : rc_Y K C0 C g bs od (n, e, b, ((c, a, q, s, k), (v, r), (l, o), t, w) :: fs, m) z) : rx_C G MX7_perform (d + 3) [.ref 4, .ref (13 + 3 * fs.length), .int (nI 0)] (gl C S) 0 0 (rc_out S K C0 g bs od n e b m ((c, a, q, s, k), (v, r), (l, o), t, w) fs (vm_do1 cd (n, e, b, ((c, a, q, s, k), (v, r), (l, o), t, w) :: fs, m) 0 mo ((c, a, q, s, k), (v, r), (l, o), t, w) fs)) := by
  refine rx_meth0 (by decide +kernel) rfl (Nat.le_of_ble_eq_true rfl) ?_
  refine rx_iload_n dX7_perform_0 rfl ?_
  refine rx_tabIn (tgt := 176) dX7_perform_1 (by decide) (by decide) rfl (by decide) ?_
  refine rx_aload_n dX7_perform_176 rfl rfl ?_
  refine rx_iconst (v := nI 1) dX7_perform_177 rfl ?_
  refine rx_lconst (v := 0) dX7_perform_178 rfl ?_
  refine gv_invV (as := [.int _, .long _]) hG okX7_endWith lk_RX7_202 rfl rfl dX7_perform_179 rfl (by simp [Value.category]) (cp_endWith (x := 0) hG hY) ?_
  rintro _ _ ⟨rfl, _, rfl, hY1, hA⟩
  exact rx_iret rfl dX7_perform_182 (rc_outW (Or.inl rfl) rfl (fun _ => rfl) (Nat.le_refl _) hY1 hA)
theorem cpf_1 {G : rx_E} {d : Nat} {S : gs_T} {K : Nat → Nat × Nat} {C0 C : rx_M} {g : vg_T} {bs od : Nat} {n : Nat → Int64} {e : List (Nat × Int64 × Int64)} {b m c a q s k : Nat} {v r : Int64} {l o : Bool} {t : List Int64} {w : (Nat → Int64) × Nat × Nat} {fs : List vf_T} (hG : rx_OK G)  {mo a0 : Nat} {cd : List Nat} (hcd : g.1 c = cd) (hc : c < g.2.1) (hcl : cd.length ≤ 200) (hoct : ∀ k, k < cd.length → cd.getD k 0 < 256) (ha : a0 < 256) (hmo : cd.getD (a0 + 1) 0 = mo) (ht : t.length < 24) (hp : fs.length < 10) (hs1 : s < 32) (hk : k < 32) (hs : ∀ f ∈ fs, fS f < 32) (hg : g.2.1 ≤ 16) (ho : g.2.2.1 < 32) (hh : g.2.2.2 < 100) (hq : q ≤ 30000) (hb : b ≤ 30001) (hod : od < 10) (hbs : bs + e.length ≤ 40000) (hY : rc_Y K C0 C g bs od (n, e, b, ((c, a, q, s, k), (v, r), (l, o), t, w) :: fs, m) (nI (a0 + 1))) : rx_C G MX7_perform (d + 3) [.ref 4, .ref (13 + 3 * fs.length), .int (nI 1)] (gl C S) 0 0 (rc_out S K C0 g bs od n e b m ((c, a, q, s, k), (v, r), (l, o), t, w) fs (vm_do1 cd (n, e, b, ((c, a, q, s, k), (v, r), (l, o), t, w) :: fs, m) 1 mo ((c, a, q, s, k), (v, r), (l, o), t, w) fs)) := by
  refine rx_meth0 (by decide +kernel) rfl (Nat.le_of_ble_eq_true rfl) ?_
  refine rx_iload_n dX7_perform_0 rfl ?_
  refine rx_tabIn (tgt := 183) dX7_perform_1 (by decide) (by decide) rfl (by decide) ?_
  refine rx_aload_n dX7_perform_183 rfl rfl ?_
  refine rx_iload_n dX7_perform_184 rfl ?_
  refine gv_invV (as := [.int _]) hG okX6_arrange lk_RX7_206 (gkF_f hp) (gkF_k hp) dX7_perform_185 rfl (by simp [Value.category]) (cc_arr1 hG hp hcd hc hcl hoct ha hmo ht hY) ?_
  rintro _ _ ⟨rfl, _, rfl, hY1⟩
  refine rx_iconst (v := nI 0) dX7_perform_188 rfl ?_
  exact rx_iret rfl dX7_perform_189 (rc_out0 rfl hY1)
theorem cpf_2 {G : rx_E} {d : Nat} {S : gs_T} {K : Nat → Nat × Nat} {C0 C : rx_M} {g : vg_T} {bs od : Nat} {n : Nat → Int64} {e : List (Nat × Int64 × Int64)} {b m c q s k : Nat} {v r : Int64} {l o : Bool} {t : List Int64} {w : (Nat → Int64) × Nat × Nat} {fs : List vf_T} (hG : rx_OK G)  {mo a0 : Nat} {cd : List Nat} (hcd : g.1 c = cd) (hc : c < g.2.1) (hcl : cd.length ≤ 200) (hoct : ∀ k, k < cd.length → cd.getD k 0 < 256) (ha : a0 < 256) (ht : t.length < 24) (hp : fs.length < 10) (hs1 : s < 32) (hk : k < 32) (hs : ∀ f ∈ fs, fS f < 32) (hg : g.2.1 ≤ 16) (ho : g.2.2.1 < 32) (hh : g.2.2.2 < 100) (hq : q ≤ 30000) (hb : b ≤ 30001) (hod : od < 10) (hbs : bs + e.length ≤ 40000) (hY : rc_Y K C0 C g bs od (n, e, b, ((c, a0 + 9, q, s, k), (v, r), (l, o), t, w) :: fs, m) (nI (a0 + 1))) : rx_C G MX7_perform (d + 3) [.ref 4, .ref (13 + 3 * fs.length), .int (nI 2)] (gl C S) 0 0 (rc_out S K C0 g bs od n e b m ((c, a0 + 9, q, s, k), (v, r), (l, o), t, w) fs (vm_do1 cd (n, e, b, ((c, a0 + 9, q, s, k), (v, r), (l, o), t, w) :: fs, m) 2 mo ((c, a0 + 9, q, s, k), (v, r), (l, o), t, w) fs)) := by
  refine rx_meth0 (by decide +kernel) rfl (Nat.le_of_ble_eq_true rfl) ?_
  refine rx_iload_n dX7_perform_0 rfl ?_
  refine rx_tabIn (tgt := 183) dX7_perform_1 (by decide) (by decide) rfl (by decide) ?_
  refine rx_aload_n dX7_perform_183 rfl rfl ?_
  refine rx_iload_n dX7_perform_184 rfl ?_
  refine gv_invV (as := [.int _]) hG okX6_arrange lk_RX7_206 (gkF_f hp) (gkF_k hp) dX7_perform_185 rfl (by simp [Value.category]) (cc_arr2 hG hp hcd hc hcl hoct ha rfl ht hY) ?_
  rintro _ _ ⟨rfl, _, rfl, hY1⟩
  refine rx_iconst (v := nI 0) dX7_perform_188 rfl ?_
  exact rx_iret rfl dX7_perform_189 (rc_out0 vd1_2 hY1)
theorem cpf_3 {G : rx_E} {d : Nat} {S : gs_T} {K : Nat → Nat × Nat} {C0 C : rx_M} {g : vg_T} {bs od : Nat} {n : Nat → Int64} {e : List (Nat × Int64 × Int64)} {b m c a q s k : Nat} {v r : Int64} {l o : Bool} {t : List Int64} {w : (Nat → Int64) × Nat × Nat} {fs : List vf_T} (hG : rx_OK G) {y : Int64} {mo a0 : Nat} {cd : List Nat} (hcd : g.1 c = cd) (hc : c < g.2.1) (hcl : cd.length ≤ 200) (hoct : ∀ k, k < cd.length → cd.getD k 0 < 256) (ha : a0 < 256) (hp : fs.length < 10) (hs1 : s < 32) (hk : k < 32) (hs : ∀ f ∈ fs, fS f < 32) (hg : g.2.1 ≤ 16) (ho : g.2.2.1 < 32) (hh : g.2.2.2 < 100) (hq : q ≤ 30000) (hb : b ≤ 30001) (hod : od < 10) (hbs : bs + e.length ≤ 40000) (hY : rc_Y K C0 C g bs od (n, e, b, ((c, a, q, s, k), (v, r), (l, o), (y :: t), w) :: fs, m) (nI (a0 + 1))) : rx_C G MX7_perform (d + 3) [.ref 4, .ref (13 + 3 * fs.length), .int (nI 3)] (gl C S) 0 0 (rc_out S K C0 g bs od n e b m ((c, a, q, s, k), (v, r), (l, o), (y :: t), w) fs (vm_do1 cd (n, e, b, ((c, a, q, s, k), (v, r), (l, o), (y :: t), w) :: fs, m) 3 mo ((c, a, q, s, k), (v, r), (l, o), (y :: t), w) fs)) := by
  refine rx_meth0 (by decide +kernel) rfl (Nat.le_of_ble_eq_true rfl) ?_
  refine rx_iload_n dX7_perform_0 rfl ?_
  refine rx_tabIn (tgt := 183) dX7_perform_1 (by decide) (by decide) rfl (by decide) ?_
  refine rx_aload_n dX7_perform_183 rfl rfl ?_
  refine rx_iload_n dX7_perform_184 rfl ?_
  refine gv_invV (as := [.int _]) hG okX6_arrange lk_RX7_206 (gkF_f hp) (gkF_k hp) dX7_perform_185 rfl (by simp [Value.category]) (cc_arr3 hG hp hcd hc hcl hoct ha rfl hY) ?_
  rintro _ _ ⟨rfl, _, rfl, hY1⟩
  refine rx_iconst (v := nI 0) dX7_perform_188 rfl ?_
  exact rx_iret rfl dX7_perform_189 (rc_out0 rfl hY1)
theorem cpf_4 {G : rx_E} {d : Nat} {S : gs_T} {K : Nat → Nat × Nat} {C0 C : rx_M} {g : vg_T} {bs od : Nat} {n : Nat → Int64} {e : List (Nat × Int64 × Int64)} {b m c a q s k : Nat} {v r : Int64} {l o : Bool} {t : List Int64} {w : (Nat → Int64) × Nat × Nat} {fs : List vf_T} (hG : rx_OK G)  {mo a0 : Nat} {cd : List Nat} (hcd : g.1 c = cd) (hc : c < g.2.1) (hcl : cd.length ≤ 200) (hoct : ∀ k, k < cd.length → cd.getD k 0 < 256) (ha : a0 < 256) (hmo : cd.getD (a0 + 1) 0 = mo) {j : Nat} (hj : t.length = mo + 1 + j) (ht : t.length < 24) (hp : fs.length < 10) (hs1 : s < 32) (hk : k < 32) (hs : ∀ f ∈ fs, fS f < 32) (hg : g.2.1 ≤ 16) (ho : g.2.2.1 < 32) (hh : g.2.2.2 < 100) (hq : q ≤ 30000) (hb : b ≤ 30001) (hod : od < 10) (hbs : bs + e.length ≤ 40000) (hY : rc_Y K C0 C g bs od (n, e, b, ((c, a, q, s, k), (v, r), (l, o), t, w) :: fs, m) (nI (a0 + 1))) : rx_C G MX7_perform (d + 3) [.ref 4, .ref (13 + 3 * fs.length), .int (nI 4)] (gl C S) 0 0 (rc_out S K C0 g bs od n e b m ((c, a, q, s, k), (v, r), (l, o), t, w) fs (vm_do1 cd (n, e, b, ((c, a, q, s, k), (v, r), (l, o), t, w) :: fs, m) 4 mo ((c, a, q, s, k), (v, r), (l, o), t, w) fs)) := by
  refine rx_meth0 (by decide +kernel) rfl (Nat.le_of_ble_eq_true rfl) ?_
  refine rx_iload_n dX7_perform_0 rfl ?_
  refine rx_tabIn (tgt := 183) dX7_perform_1 (by decide) (by decide) rfl (by decide) ?_
  refine rx_aload_n dX7_perform_183 rfl rfl ?_
  refine rx_iload_n dX7_perform_184 rfl ?_
  refine gv_invV (as := [.int _]) hG okX6_arrange lk_RX7_206 (gkF_f hp) (gkF_k hp) dX7_perform_185 rfl (by simp [Value.category]) (cc_arr4 hG hp hcd hc hcl hoct ha hmo hj ht hY) ?_
  rintro _ _ ⟨rfl, _, rfl, hY1⟩
  refine rx_iconst (v := nI 0) dX7_perform_188 rfl ?_
  exact rx_iret rfl dX7_perform_189 (rc_out0 rfl hY1)
theorem cpf_5 {G : rx_E} {d : Nat} {S : gs_T} {K : Nat → Nat × Nat} {C0 C : rx_M} {g : vg_T} {bs od : Nat} {n : Nat → Int64} {e : List (Nat × Int64 × Int64)} {b m c a q s k : Nat} {v r : Int64} {l o : Bool} {t : List Int64} {w : (Nat → Int64) × Nat × Nat} {fs : List vf_T} (hG : rx_OK G)  {mo a0 : Nat} {cd : List Nat} (hcd : g.1 c = cd) (hc : c < g.2.1) (hcl : cd.length ≤ 200) (hoct : ∀ k, k < cd.length → cd.getD k 0 < 256) (ha : a0 < 256) (hmo : cd.getD (a0 + 1) 0 = mo) {j : Nat} (hj : t.length = mo + 1 + j) (hp : fs.length < 10) (hs1 : s < 32) (hk : k < 32) (hs : ∀ f ∈ fs, fS f < 32) (hg : g.2.1 ≤ 16) (ho : g.2.2.1 < 32) (hh : g.2.2.2 < 100) (hq : q ≤ 30000) (hb : b ≤ 30001) (hod : od < 10) (hbs : bs + e.length ≤ 40000) (hY : rc_Y K C0 C g bs od (n, e, b, ((c, a, q, s, k), (v, r), (l, o), t, w) :: fs, m) (nI (a0 + 1))) : rx_C G MX7_perform (d + 3) [.ref 4, .ref (13 + 3 * fs.length), .int (nI 5)] (gl C S) 0 0 (rc_out S K C0 g bs od n e b m ((c, a, q, s, k), (v, r), (l, o), t, w) fs (vm_do1 cd (n, e, b, ((c, a, q, s, k), (v, r), (l, o), t, w) :: fs, m) 5 mo ((c, a, q, s, k), (v, r), (l, o), t, w) fs)) := by
  refine rx_meth0 (by decide +kernel) rfl (Nat.le_of_ble_eq_true rfl) ?_
  refine rx_iload_n dX7_perform_0 rfl ?_
  refine rx_tabIn (tgt := 183) dX7_perform_1 (by decide) (by decide) rfl (by decide) ?_
  refine rx_aload_n dX7_perform_183 rfl rfl ?_
  refine rx_iload_n dX7_perform_184 rfl ?_
  refine gv_invV (as := [.int _]) hG okX6_arrange lk_RX7_206 (gkF_f hp) (gkF_k hp) dX7_perform_185 rfl (by simp [Value.category]) (cc_arr5 hG hp hcd hc hcl hoct ha hmo hj hY) ?_
  rintro _ _ ⟨rfl, _, rfl, hY1⟩
  refine rx_iconst (v := nI 0) dX7_perform_188 rfl ?_
  exact rx_iret rfl dX7_perform_189 (rc_out0 rfl hY1)
theorem cpf_6 {G : rx_E} {d : Nat} {S : gs_T} {K : Nat → Nat × Nat} {C0 C : rx_M} {g : vg_T} {bs od : Nat} {n : Nat → Int64} {e : List (Nat × Int64 × Int64)} {b m c a q s k : Nat} {v r : Int64} {l o : Bool} {t : List Int64} {w : (Nat → Int64) × Nat × Nat} {fs : List vf_T} {z : Int32} (hG : rx_OK G) {x y : Int64} (hp : fs.length < 10) (hs1 : s < 32) (hk : k < 32) (hs : ∀ f ∈ fs, fS f < 32) (hg : g.2.1 ≤ 16) (ho : g.2.2.1 < 32) (hh : g.2.2.2 < 100) (hq : q ≤ 30000) (hb : b ≤ 30001) (hod : od < 10) (hbs : bs + e.length ≤ 40000) (hY : rc_Y K C0 C g bs od (n, e, b, ((c, a, q, s, k), (v, r), (l, o), (y :: (x :: t)), w) :: fs, m) z) : rx_C G MX7_perform (d + 3) [.ref 4, .ref (13 + 3 * fs.length), .int (nI 6)] (gl C S) 0 0 (rc_out S K C0 g bs od n e b m ((c, a, q, s, k), (v, r), (l, o), (y :: (x :: t)), w) fs (vm_do2 (n, e, b, ((c, a, q, s, k), (v, r), (l, o), (y :: (x :: t)), w) :: fs, m) 6 ((c, a, q, s, k), (v, r), (l, o), (y :: (x :: t)), w) fs)) := by
  refine rx_meth0 (by decide +kernel) rfl (Nat.le_of_ble_eq_true rfl) ?_
  refine rx_iload_n dX7_perform_0 rfl ?_
  refine rx_tabIn (tgt := 318) dX7_perform_1 (by decide) (by decide) rfl (by decide) ?_
  refine rx_iload_n dX7_perform_318 rfl ?_
  refine rx_bipush (v := nI 18) dX7_perform_319 rfl ?_
  refine rx_icmp_gt (tgt := 332) dX7_perform_321 (by decide) (fun h321 => (absurd h321 (by decide))) (fun h321 => ?_)
  refine rx_aload_n dX7_perform_324 rfl rfl ?_
  refine rx_iload_n dX7_perform_325 rfl ?_
  refine gv_invV (as := [.int _]) hG okX6_reckon lk_RX7_243 (gkF_f hp) (gkF_k hp) dX7_perform_326 rfl (by simp [Value.category]) (cc_reckon hG hp (by decide) (by decide) (by decide) (by decide) hY) ?_
  rintro _ _ ⟨rfl, _, rfl, hY1⟩
  refine rx_goto (tgt := 338) dX7_perform_329 (by decide) ?_
  exact rx_iret rfl dX7_perform_338 (rc_out0 (vd2 (by decide) (fun h => absurd h (by decide))) hY1)
theorem cpf_7 {G : rx_E} {d : Nat} {S : gs_T} {K : Nat → Nat × Nat} {C0 C : rx_M} {g : vg_T} {bs od : Nat} {n : Nat → Int64} {e : List (Nat × Int64 × Int64)} {b m c a q s k : Nat} {v r : Int64} {l o : Bool} {t : List Int64} {w : (Nat → Int64) × Nat × Nat} {fs : List vf_T} {z : Int32} (hG : rx_OK G) {x y : Int64} (hp : fs.length < 10) (hs1 : s < 32) (hk : k < 32) (hs : ∀ f ∈ fs, fS f < 32) (hg : g.2.1 ≤ 16) (ho : g.2.2.1 < 32) (hh : g.2.2.2 < 100) (hq : q ≤ 30000) (hb : b ≤ 30001) (hod : od < 10) (hbs : bs + e.length ≤ 40000) (hY : rc_Y K C0 C g bs od (n, e, b, ((c, a, q, s, k), (v, r), (l, o), (y :: (x :: t)), w) :: fs, m) z) : rx_C G MX7_perform (d + 3) [.ref 4, .ref (13 + 3 * fs.length), .int (nI 7)] (gl C S) 0 0 (rc_out S K C0 g bs od n e b m ((c, a, q, s, k), (v, r), (l, o), (y :: (x :: t)), w) fs (vm_do2 (n, e, b, ((c, a, q, s, k), (v, r), (l, o), (y :: (x :: t)), w) :: fs, m) 7 ((c, a, q, s, k), (v, r), (l, o), (y :: (x :: t)), w) fs)) := by
  refine rx_meth0 (by decide +kernel) rfl (Nat.le_of_ble_eq_true rfl) ?_
  refine rx_iload_n dX7_perform_0 rfl ?_
  refine rx_tabIn (tgt := 318) dX7_perform_1 (by decide) (by decide) rfl (by decide) ?_
  refine rx_iload_n dX7_perform_318 rfl ?_
  refine rx_bipush (v := nI 18) dX7_perform_319 rfl ?_
  refine rx_icmp_gt (tgt := 332) dX7_perform_321 (by decide) (fun h321 => (absurd h321 (by decide))) (fun h321 => ?_)
  refine rx_aload_n dX7_perform_324 rfl rfl ?_
  refine rx_iload_n dX7_perform_325 rfl ?_
  refine gv_invV (as := [.int _]) hG okX6_reckon lk_RX7_243 (gkF_f hp) (gkF_k hp) dX7_perform_326 rfl (by simp [Value.category]) (cc_reckon hG hp (by decide) (by decide) (by decide) (by decide) hY) ?_
  rintro _ _ ⟨rfl, _, rfl, hY1⟩
  refine rx_goto (tgt := 338) dX7_perform_329 (by decide) ?_
  exact rx_iret rfl dX7_perform_338 (rc_out0 (vd2 (by decide) (fun h => absurd h (by decide))) hY1)
theorem cpf_8 {G : rx_E} {d : Nat} {S : gs_T} {K : Nat → Nat × Nat} {C0 C : rx_M} {g : vg_T} {bs od : Nat} {n : Nat → Int64} {e : List (Nat × Int64 × Int64)} {b m c a q s k : Nat} {v r : Int64} {l o : Bool} {t : List Int64} {w : (Nat → Int64) × Nat × Nat} {fs : List vf_T} {z : Int32} (hG : rx_OK G) {x y : Int64} (hp : fs.length < 10) (hs1 : s < 32) (hk : k < 32) (hs : ∀ f ∈ fs, fS f < 32) (hg : g.2.1 ≤ 16) (ho : g.2.2.1 < 32) (hh : g.2.2.2 < 100) (hq : q ≤ 30000) (hb : b ≤ 30001) (hod : od < 10) (hbs : bs + e.length ≤ 40000) (hY : rc_Y K C0 C g bs od (n, e, b, ((c, a, q, s, k), (v, r), (l, o), (y :: (x :: t)), w) :: fs, m) z) : rx_C G MX7_perform (d + 3) [.ref 4, .ref (13 + 3 * fs.length), .int (nI 8)] (gl C S) 0 0 (rc_out S K C0 g bs od n e b m ((c, a, q, s, k), (v, r), (l, o), (y :: (x :: t)), w) fs (vm_do2 (n, e, b, ((c, a, q, s, k), (v, r), (l, o), (y :: (x :: t)), w) :: fs, m) 8 ((c, a, q, s, k), (v, r), (l, o), (y :: (x :: t)), w) fs)) := by
  refine rx_meth0 (by decide +kernel) rfl (Nat.le_of_ble_eq_true rfl) ?_
  refine rx_iload_n dX7_perform_0 rfl ?_
  refine rx_tabIn (tgt := 318) dX7_perform_1 (by decide) (by decide) rfl (by decide) ?_
  refine rx_iload_n dX7_perform_318 rfl ?_
  refine rx_bipush (v := nI 18) dX7_perform_319 rfl ?_
  refine rx_icmp_gt (tgt := 332) dX7_perform_321 (by decide) (fun h321 => (absurd h321 (by decide))) (fun h321 => ?_)
  refine rx_aload_n dX7_perform_324 rfl rfl ?_
  refine rx_iload_n dX7_perform_325 rfl ?_
  refine gv_invV (as := [.int _]) hG okX6_reckon lk_RX7_243 (gkF_f hp) (gkF_k hp) dX7_perform_326 rfl (by simp [Value.category]) (cc_reckon hG hp (by decide) (by decide) (by decide) (by decide) hY) ?_
  rintro _ _ ⟨rfl, _, rfl, hY1⟩
  refine rx_goto (tgt := 338) dX7_perform_329 (by decide) ?_
  exact rx_iret rfl dX7_perform_338 (rc_out0 (vd2 (by decide) (fun h => absurd h (by decide))) hY1)
theorem cpf_9z {G : rx_E} {d : Nat} {S : gs_T} {K : Nat → Nat × Nat} {C0 C : rx_M} {g : vg_T} {bs od : Nat} {n : Nat → Int64} {e : List (Nat × Int64 × Int64)} {b m c a q s k : Nat} {v r : Int64} {l o : Bool} {t : List Int64} {w : (Nat → Int64) × Nat × Nat} {fs : List vf_T} {z : Int32} (hG : rx_OK G) {x y : Int64} (hy : y = 0) (hp : fs.length < 10) (hs1 : s < 32) (hk : k < 32) (hs : ∀ f ∈ fs, fS f < 32) (hg : g.2.1 ≤ 16) (ho : g.2.2.1 < 32) (hh : g.2.2.2 < 100) (hq : q ≤ 30000) (hb : b ≤ 30001) (hod : od < 10) (hbs : bs + e.length ≤ 40000) (hY : rc_Y K C0 C g bs od (n, e, b, ((c, a, q, s, k), (v, r), (l, o), (y :: (x :: t)), w) :: fs, m) z) : rx_C G MX7_perform (d + 3) [.ref 4, .ref (13 + 3 * fs.length), .int (nI 9)] (gl C S) 0 0 (rc_out S K C0 g bs od n e b m ((c, a, q, s, k), (v, r), (l, o), (y :: (x :: t)), w) fs (vm_do2 (n, e, b, ((c, a, q, s, k), (v, r), (l, o), (y :: (x :: t)), w) :: fs, m) 9 ((c, a, q, s, k), (v, r), (l, o), (y :: (x :: t)), w) fs)) := by
  refine rx_meth0 (by decide +kernel) rfl (Nat.le_of_ble_eq_true rfl) ?_
  refine rx_iload_n dX7_perform_0 rfl ?_
  refine rx_tabIn (tgt := 318) dX7_perform_1 (by decide) (by decide) rfl (by decide) ?_
  refine rx_iload_n dX7_perform_318 rfl ?_
  refine rx_bipush (v := nI 18) dX7_perform_319 rfl ?_
  refine rx_icmp_gt (tgt := 332) dX7_perform_321 (by decide) (fun h321 => (absurd h321 (by decide))) (fun h321 => ?_)
  refine rx_aload_n dX7_perform_324 rfl rfl ?_
  refine rx_iload_n dX7_perform_325 rfl ?_
  refine gv_invV (as := [.int _]) hG okX6_reckon lk_RX7_243 (gkF_f hp) (gkF_k hp) dX7_perform_326 rfl (by simp [Value.category]) (cc_reckon9z hG hp hy hY) ?_
  rintro _ _ ⟨rfl, _, rfl, hY1⟩
  refine rx_goto (tgt := 338) dX7_perform_329 (by decide) ?_
  exact rx_iret rfl dX7_perform_338 (rc_out3 (vd2_z (by decide) hy) (fun _ => rfl) (Nat.le_refl _) hY1)
theorem cpf_9 {G : rx_E} {d : Nat} {S : gs_T} {K : Nat → Nat × Nat} {C0 C : rx_M} {g : vg_T} {bs od : Nat} {n : Nat → Int64} {e : List (Nat × Int64 × Int64)} {b m c a q s k : Nat} {v r : Int64} {l o : Bool} {t : List Int64} {w : (Nat → Int64) × Nat × Nat} {fs : List vf_T} {z : Int32} (hG : rx_OK G) {x y : Int64} (hy : ¬ y = 0) (hp : fs.length < 10) (hs1 : s < 32) (hk : k < 32) (hs : ∀ f ∈ fs, fS f < 32) (hg : g.2.1 ≤ 16) (ho : g.2.2.1 < 32) (hh : g.2.2.2 < 100) (hq : q ≤ 30000) (hb : b ≤ 30001) (hod : od < 10) (hbs : bs + e.length ≤ 40000) (hY : rc_Y K C0 C g bs od (n, e, b, ((c, a, q, s, k), (v, r), (l, o), (y :: (x :: t)), w) :: fs, m) z) : rx_C G MX7_perform (d + 3) [.ref 4, .ref (13 + 3 * fs.length), .int (nI 9)] (gl C S) 0 0 (rc_out S K C0 g bs od n e b m ((c, a, q, s, k), (v, r), (l, o), (y :: (x :: t)), w) fs (vm_do2 (n, e, b, ((c, a, q, s, k), (v, r), (l, o), (y :: (x :: t)), w) :: fs, m) 9 ((c, a, q, s, k), (v, r), (l, o), (y :: (x :: t)), w) fs)) := by
  refine rx_meth0 (by decide +kernel) rfl (Nat.le_of_ble_eq_true rfl) ?_
  refine rx_iload_n dX7_perform_0 rfl ?_
  refine rx_tabIn (tgt := 318) dX7_perform_1 (by decide) (by decide) rfl (by decide) ?_
  refine rx_iload_n dX7_perform_318 rfl ?_
  refine rx_bipush (v := nI 18) dX7_perform_319 rfl ?_
  refine rx_icmp_gt (tgt := 332) dX7_perform_321 (by decide) (fun h321 => (absurd h321 (by decide))) (fun h321 => ?_)
  refine rx_aload_n dX7_perform_324 rfl rfl ?_
  refine rx_iload_n dX7_perform_325 rfl ?_
  refine gv_invV (as := [.int _]) hG okX6_reckon lk_RX7_243 (gkF_f hp) (gkF_k hp) dX7_perform_326 rfl (by simp [Value.category]) (cc_reckon9 hG hp hy hY) ?_
  rintro _ _ ⟨rfl, _, rfl, hY1⟩
  refine rx_goto (tgt := 338) dX7_perform_329 (by decide) ?_
  exact rx_iret rfl dX7_perform_338 (rc_out0 (vd2 (by decide) (fun _ => hy)) hY1)
theorem cpf_10z {G : rx_E} {d : Nat} {S : gs_T} {K : Nat → Nat × Nat} {C0 C : rx_M} {g : vg_T} {bs od : Nat} {n : Nat → Int64} {e : List (Nat × Int64 × Int64)} {b m c a q s k : Nat} {v r : Int64} {l o : Bool} {t : List Int64} {w : (Nat → Int64) × Nat × Nat} {fs : List vf_T} {z : Int32} (hG : rx_OK G) {x y : Int64} (hy : y = 0) (hp : fs.length < 10) (hs1 : s < 32) (hk : k < 32) (hs : ∀ f ∈ fs, fS f < 32) (hg : g.2.1 ≤ 16) (ho : g.2.2.1 < 32) (hh : g.2.2.2 < 100) (hq : q ≤ 30000) (hb : b ≤ 30001) (hod : od < 10) (hbs : bs + e.length ≤ 40000) (hY : rc_Y K C0 C g bs od (n, e, b, ((c, a, q, s, k), (v, r), (l, o), (y :: (x :: t)), w) :: fs, m) z) : rx_C G MX7_perform (d + 3) [.ref 4, .ref (13 + 3 * fs.length), .int (nI 10)] (gl C S) 0 0 (rc_out S K C0 g bs od n e b m ((c, a, q, s, k), (v, r), (l, o), (y :: (x :: t)), w) fs (vm_do2 (n, e, b, ((c, a, q, s, k), (v, r), (l, o), (y :: (x :: t)), w) :: fs, m) 10 ((c, a, q, s, k), (v, r), (l, o), (y :: (x :: t)), w) fs)) := by
  refine rx_meth0 (by decide +kernel) rfl (Nat.le_of_ble_eq_true rfl) ?_
  refine rx_iload_n dX7_perform_0 rfl ?_
  refine rx_tabIn (tgt := 318) dX7_perform_1 (by decide) (by decide) rfl (by decide) ?_
  refine rx_iload_n dX7_perform_318 rfl ?_
  refine rx_bipush (v := nI 18) dX7_perform_319 rfl ?_
  refine rx_icmp_gt (tgt := 332) dX7_perform_321 (by decide) (fun h321 => (absurd h321 (by decide))) (fun h321 => ?_)
  refine rx_aload_n dX7_perform_324 rfl rfl ?_
  refine rx_iload_n dX7_perform_325 rfl ?_
  refine gv_invV (as := [.int _]) hG okX6_reckon lk_RX7_243 (gkF_f hp) (gkF_k hp) dX7_perform_326 rfl (by simp [Value.category]) (cc_reckon10z hG hp hy hY) ?_
  rintro _ _ ⟨rfl, _, rfl, hY1⟩
  refine rx_goto (tgt := 338) dX7_perform_329 (by decide) ?_
  exact rx_iret rfl dX7_perform_338 (rc_out3 (vd2_z (by decide) hy) (fun _ => rfl) (Nat.le_refl _) hY1)
theorem cpf_10 {G : rx_E} {d : Nat} {S : gs_T} {K : Nat → Nat × Nat} {C0 C : rx_M} {g : vg_T} {bs od : Nat} {n : Nat → Int64} {e : List (Nat × Int64 × Int64)} {b m c a q s k : Nat} {v r : Int64} {l o : Bool} {t : List Int64} {w : (Nat → Int64) × Nat × Nat} {fs : List vf_T} {z : Int32} (hG : rx_OK G) {x y : Int64} (hy : ¬ y = 0) (hp : fs.length < 10) (hs1 : s < 32) (hk : k < 32) (hs : ∀ f ∈ fs, fS f < 32) (hg : g.2.1 ≤ 16) (ho : g.2.2.1 < 32) (hh : g.2.2.2 < 100) (hq : q ≤ 30000) (hb : b ≤ 30001) (hod : od < 10) (hbs : bs + e.length ≤ 40000) (hY : rc_Y K C0 C g bs od (n, e, b, ((c, a, q, s, k), (v, r), (l, o), (y :: (x :: t)), w) :: fs, m) z) : rx_C G MX7_perform (d + 3) [.ref 4, .ref (13 + 3 * fs.length), .int (nI 10)] (gl C S) 0 0 (rc_out S K C0 g bs od n e b m ((c, a, q, s, k), (v, r), (l, o), (y :: (x :: t)), w) fs (vm_do2 (n, e, b, ((c, a, q, s, k), (v, r), (l, o), (y :: (x :: t)), w) :: fs, m) 10 ((c, a, q, s, k), (v, r), (l, o), (y :: (x :: t)), w) fs)) := by
  refine rx_meth0 (by decide +kernel) rfl (Nat.le_of_ble_eq_true rfl) ?_
  refine rx_iload_n dX7_perform_0 rfl ?_
  refine rx_tabIn (tgt := 318) dX7_perform_1 (by decide) (by decide) rfl (by decide) ?_
  refine rx_iload_n dX7_perform_318 rfl ?_
  refine rx_bipush (v := nI 18) dX7_perform_319 rfl ?_
  refine rx_icmp_gt (tgt := 332) dX7_perform_321 (by decide) (fun h321 => (absurd h321 (by decide))) (fun h321 => ?_)
  refine rx_aload_n dX7_perform_324 rfl rfl ?_
  refine rx_iload_n dX7_perform_325 rfl ?_
  refine gv_invV (as := [.int _]) hG okX6_reckon lk_RX7_243 (gkF_f hp) (gkF_k hp) dX7_perform_326 rfl (by simp [Value.category]) (cc_reckon10 hG hp hy hY) ?_
  rintro _ _ ⟨rfl, _, rfl, hY1⟩
  refine rx_goto (tgt := 338) dX7_perform_329 (by decide) ?_
  exact rx_iret rfl dX7_perform_338 (rc_out0 (vd2 (by decide) (fun _ => hy)) hY1)
theorem cpf_11 {G : rx_E} {d : Nat} {S : gs_T} {K : Nat → Nat × Nat} {C0 C : rx_M} {g : vg_T} {bs od : Nat} {n : Nat → Int64} {e : List (Nat × Int64 × Int64)} {b m c a q s k : Nat} {v r : Int64} {l o : Bool} {t : List Int64} {w : (Nat → Int64) × Nat × Nat} {fs : List vf_T} {z : Int32} (hG : rx_OK G) {x y : Int64} (hp : fs.length < 10) (hs1 : s < 32) (hk : k < 32) (hs : ∀ f ∈ fs, fS f < 32) (hg : g.2.1 ≤ 16) (ho : g.2.2.1 < 32) (hh : g.2.2.2 < 100) (hq : q ≤ 30000) (hb : b ≤ 30001) (hod : od < 10) (hbs : bs + e.length ≤ 40000) (hY : rc_Y K C0 C g bs od (n, e, b, ((c, a, q, s, k), (v, r), (l, o), (y :: (x :: t)), w) :: fs, m) z) : rx_C G MX7_perform (d + 3) [.ref 4, .ref (13 + 3 * fs.length), .int (nI 11)] (gl C S) 0 0 (rc_out S K C0 g bs od n e b m ((c, a, q, s, k), (v, r), (l, o), (y :: (x :: t)), w) fs (vm_do2 (n, e, b, ((c, a, q, s, k), (v, r), (l, o), (y :: (x :: t)), w) :: fs, m) 11 ((c, a, q, s, k), (v, r), (l, o), (y :: (x :: t)), w) fs)) := by
  refine rx_meth0 (by decide +kernel) rfl (Nat.le_of_ble_eq_true rfl) ?_
  refine rx_iload_n dX7_perform_0 rfl ?_
  refine rx_tabIn (tgt := 318) dX7_perform_1 (by decide) (by decide) rfl (by decide) ?_
  refine rx_iload_n dX7_perform_318 rfl ?_
  refine rx_bipush (v := nI 18) dX7_perform_319 rfl ?_
  refine rx_icmp_gt (tgt := 332) dX7_perform_321 (by decide) (fun h321 => (absurd h321 (by decide))) (fun h321 => ?_)
  refine rx_aload_n dX7_perform_324 rfl rfl ?_
  refine rx_iload_n dX7_perform_325 rfl ?_
  refine gv_invV (as := [.int _]) hG okX6_reckon lk_RX7_243 (gkF_f hp) (gkF_k hp) dX7_perform_326 rfl (by simp [Value.category]) (cc_reckon hG hp (by decide) (by decide) (by decide) (by decide) hY) ?_
  rintro _ _ ⟨rfl, _, rfl, hY1⟩
  refine rx_goto (tgt := 338) dX7_perform_329 (by decide) ?_
  exact rx_iret rfl dX7_perform_338 (rc_out0 (vd2 (by decide) (fun h => absurd h (by decide))) hY1)
theorem cpf_12 {G : rx_E} {d : Nat} {S : gs_T} {K : Nat → Nat × Nat} {C0 C : rx_M} {g : vg_T} {bs od : Nat} {n : Nat → Int64} {e : List (Nat × Int64 × Int64)} {b m c a q s k : Nat} {v r : Int64} {l o : Bool} {t : List Int64} {w : (Nat → Int64) × Nat × Nat} {fs : List vf_T} {z : Int32} (hG : rx_OK G) {x y : Int64} (hp : fs.length < 10) (hs1 : s < 32) (hk : k < 32) (hs : ∀ f ∈ fs, fS f < 32) (hg : g.2.1 ≤ 16) (ho : g.2.2.1 < 32) (hh : g.2.2.2 < 100) (hq : q ≤ 30000) (hb : b ≤ 30001) (hod : od < 10) (hbs : bs + e.length ≤ 40000) (hY : rc_Y K C0 C g bs od (n, e, b, ((c, a, q, s, k), (v, r), (l, o), (y :: (x :: t)), w) :: fs, m) z) : rx_C G MX7_perform (d + 3) [.ref 4, .ref (13 + 3 * fs.length), .int (nI 12)] (gl C S) 0 0 (rc_out S K C0 g bs od n e b m ((c, a, q, s, k), (v, r), (l, o), (y :: (x :: t)), w) fs (vm_do2 (n, e, b, ((c, a, q, s, k), (v, r), (l, o), (y :: (x :: t)), w) :: fs, m) 12 ((c, a, q, s, k), (v, r), (l, o), (y :: (x :: t)), w) fs)) := by
  refine rx_meth0 (by decide +kernel) rfl (Nat.le_of_ble_eq_true rfl) ?_
  refine rx_iload_n dX7_perform_0 rfl ?_
  refine rx_tabIn (tgt := 318) dX7_perform_1 (by decide) (by decide) rfl (by decide) ?_
  refine rx_iload_n dX7_perform_318 rfl ?_
  refine rx_bipush (v := nI 18) dX7_perform_319 rfl ?_
  refine rx_icmp_gt (tgt := 332) dX7_perform_321 (by decide) (fun h321 => (absurd h321 (by decide))) (fun h321 => ?_)
  refine rx_aload_n dX7_perform_324 rfl rfl ?_
  refine rx_iload_n dX7_perform_325 rfl ?_
  refine gv_invV (as := [.int _]) hG okX6_reckon lk_RX7_243 (gkF_f hp) (gkF_k hp) dX7_perform_326 rfl (by simp [Value.category]) (cc_reckon hG hp (by decide) (by decide) (by decide) (by decide) hY) ?_
  rintro _ _ ⟨rfl, _, rfl, hY1⟩
  refine rx_goto (tgt := 338) dX7_perform_329 (by decide) ?_
  exact rx_iret rfl dX7_perform_338 (rc_out0 (vd2 (by decide) (fun h => absurd h (by decide))) hY1)
theorem cpf_13 {G : rx_E} {d : Nat} {S : gs_T} {K : Nat → Nat × Nat} {C0 C : rx_M} {g : vg_T} {bs od : Nat} {n : Nat → Int64} {e : List (Nat × Int64 × Int64)} {b m c a q s k : Nat} {v r : Int64} {l o : Bool} {t : List Int64} {w : (Nat → Int64) × Nat × Nat} {fs : List vf_T} {z : Int32} (hG : rx_OK G) {x y : Int64} (hp : fs.length < 10) (hs1 : s < 32) (hk : k < 32) (hs : ∀ f ∈ fs, fS f < 32) (hg : g.2.1 ≤ 16) (ho : g.2.2.1 < 32) (hh : g.2.2.2 < 100) (hq : q ≤ 30000) (hb : b ≤ 30001) (hod : od < 10) (hbs : bs + e.length ≤ 40000) (hY : rc_Y K C0 C g bs od (n, e, b, ((c, a, q, s, k), (v, r), (l, o), (y :: (x :: t)), w) :: fs, m) z) : rx_C G MX7_perform (d + 3) [.ref 4, .ref (13 + 3 * fs.length), .int (nI 13)] (gl C S) 0 0 (rc_out S K C0 g bs od n e b m ((c, a, q, s, k), (v, r), (l, o), (y :: (x :: t)), w) fs (vm_do2 (n, e, b, ((c, a, q, s, k), (v, r), (l, o), (y :: (x :: t)), w) :: fs, m) 13 ((c, a, q, s, k), (v, r), (l, o), (y :: (x :: t)), w) fs)) := by
  refine rx_meth0 (by decide +kernel) rfl (Nat.le_of_ble_eq_true rfl) ?_
  refine rx_iload_n dX7_perform_0 rfl ?_
  refine rx_tabIn (tgt := 318) dX7_perform_1 (by decide) (by decide) rfl (by decide) ?_
  refine rx_iload_n dX7_perform_318 rfl ?_
  refine rx_bipush (v := nI 18) dX7_perform_319 rfl ?_
  refine rx_icmp_gt (tgt := 332) dX7_perform_321 (by decide) (fun h321 => (absurd h321 (by decide))) (fun h321 => ?_)
  refine rx_aload_n dX7_perform_324 rfl rfl ?_
  refine rx_iload_n dX7_perform_325 rfl ?_
  refine gv_invV (as := [.int _]) hG okX6_reckon lk_RX7_243 (gkF_f hp) (gkF_k hp) dX7_perform_326 rfl (by simp [Value.category]) (cc_reckon hG hp (by decide) (by decide) (by decide) (by decide) hY) ?_
  rintro _ _ ⟨rfl, _, rfl, hY1⟩
  refine rx_goto (tgt := 338) dX7_perform_329 (by decide) ?_
  exact rx_iret rfl dX7_perform_338 (rc_out0 (vd2 (by decide) (fun h => absurd h (by decide))) hY1)
theorem cpf_14 {G : rx_E} {d : Nat} {S : gs_T} {K : Nat → Nat × Nat} {C0 C : rx_M} {g : vg_T} {bs od : Nat} {n : Nat → Int64} {e : List (Nat × Int64 × Int64)} {b m c a q s k : Nat} {v r : Int64} {l o : Bool} {t : List Int64} {w : (Nat → Int64) × Nat × Nat} {fs : List vf_T} {z : Int32} (hG : rx_OK G) {x y : Int64} (hp : fs.length < 10) (hs1 : s < 32) (hk : k < 32) (hs : ∀ f ∈ fs, fS f < 32) (hg : g.2.1 ≤ 16) (ho : g.2.2.1 < 32) (hh : g.2.2.2 < 100) (hq : q ≤ 30000) (hb : b ≤ 30001) (hod : od < 10) (hbs : bs + e.length ≤ 40000) (hY : rc_Y K C0 C g bs od (n, e, b, ((c, a, q, s, k), (v, r), (l, o), (y :: (x :: t)), w) :: fs, m) z) : rx_C G MX7_perform (d + 3) [.ref 4, .ref (13 + 3 * fs.length), .int (nI 14)] (gl C S) 0 0 (rc_out S K C0 g bs od n e b m ((c, a, q, s, k), (v, r), (l, o), (y :: (x :: t)), w) fs (vm_do2 (n, e, b, ((c, a, q, s, k), (v, r), (l, o), (y :: (x :: t)), w) :: fs, m) 14 ((c, a, q, s, k), (v, r), (l, o), (y :: (x :: t)), w) fs)) := by
  refine rx_meth0 (by decide +kernel) rfl (Nat.le_of_ble_eq_true rfl) ?_
  refine rx_iload_n dX7_perform_0 rfl ?_
  refine rx_tabIn (tgt := 318) dX7_perform_1 (by decide) (by decide) rfl (by decide) ?_
  refine rx_iload_n dX7_perform_318 rfl ?_
  refine rx_bipush (v := nI 18) dX7_perform_319 rfl ?_
  refine rx_icmp_gt (tgt := 332) dX7_perform_321 (by decide) (fun h321 => (absurd h321 (by decide))) (fun h321 => ?_)
  refine rx_aload_n dX7_perform_324 rfl rfl ?_
  refine rx_iload_n dX7_perform_325 rfl ?_
  refine gv_invV (as := [.int _]) hG okX6_reckon lk_RX7_243 (gkF_f hp) (gkF_k hp) dX7_perform_326 rfl (by simp [Value.category]) (cc_reckon hG hp (by decide) (by decide) (by decide) (by decide) hY) ?_
  rintro _ _ ⟨rfl, _, rfl, hY1⟩
  refine rx_goto (tgt := 338) dX7_perform_329 (by decide) ?_
  exact rx_iret rfl dX7_perform_338 (rc_out0 (vd2 (by decide) (fun h => absurd h (by decide))) hY1)
theorem cpf_15 {G : rx_E} {d : Nat} {S : gs_T} {K : Nat → Nat × Nat} {C0 C : rx_M} {g : vg_T} {bs od : Nat} {n : Nat → Int64} {e : List (Nat × Int64 × Int64)} {b m c a q s k : Nat} {v r : Int64} {l o : Bool} {t : List Int64} {w : (Nat → Int64) × Nat × Nat} {fs : List vf_T} {z : Int32} (hG : rx_OK G) {x y : Int64} (hp : fs.length < 10) (hs1 : s < 32) (hk : k < 32) (hs : ∀ f ∈ fs, fS f < 32) (hg : g.2.1 ≤ 16) (ho : g.2.2.1 < 32) (hh : g.2.2.2 < 100) (hq : q ≤ 30000) (hb : b ≤ 30001) (hod : od < 10) (hbs : bs + e.length ≤ 40000) (hY : rc_Y K C0 C g bs od (n, e, b, ((c, a, q, s, k), (v, r), (l, o), (y :: (x :: t)), w) :: fs, m) z) : rx_C G MX7_perform (d + 3) [.ref 4, .ref (13 + 3 * fs.length), .int (nI 15)] (gl C S) 0 0 (rc_out S K C0 g bs od n e b m ((c, a, q, s, k), (v, r), (l, o), (y :: (x :: t)), w) fs (vm_do2 (n, e, b, ((c, a, q, s, k), (v, r), (l, o), (y :: (x :: t)), w) :: fs, m) 15 ((c, a, q, s, k), (v, r), (l, o), (y :: (x :: t)), w) fs)) := by
  refine rx_meth0 (by decide +kernel) rfl (Nat.le_of_ble_eq_true rfl) ?_
  refine rx_iload_n dX7_perform_0 rfl ?_
  refine rx_tabIn (tgt := 318) dX7_perform_1 (by decide) (by decide) rfl (by decide) ?_
  refine rx_iload_n dX7_perform_318 rfl ?_
  refine rx_bipush (v := nI 18) dX7_perform_319 rfl ?_
  refine rx_icmp_gt (tgt := 332) dX7_perform_321 (by decide) (fun h321 => (absurd h321 (by decide))) (fun h321 => ?_)
  refine rx_aload_n dX7_perform_324 rfl rfl ?_
  refine rx_iload_n dX7_perform_325 rfl ?_
  refine gv_invV (as := [.int _]) hG okX6_reckon lk_RX7_243 (gkF_f hp) (gkF_k hp) dX7_perform_326 rfl (by simp [Value.category]) (cc_reckon hG hp (by decide) (by decide) (by decide) (by decide) hY) ?_
  rintro _ _ ⟨rfl, _, rfl, hY1⟩
  refine rx_goto (tgt := 338) dX7_perform_329 (by decide) ?_
  exact rx_iret rfl dX7_perform_338 (rc_out0 (vd2 (by decide) (fun h => absurd h (by decide))) hY1)
theorem cpf_16 {G : rx_E} {d : Nat} {S : gs_T} {K : Nat → Nat × Nat} {C0 C : rx_M} {g : vg_T} {bs od : Nat} {n : Nat → Int64} {e : List (Nat × Int64 × Int64)} {b m c a q s k : Nat} {v r : Int64} {l o : Bool} {t : List Int64} {w : (Nat → Int64) × Nat × Nat} {fs : List vf_T} {z : Int32} (hG : rx_OK G) {x y : Int64} (hp : fs.length < 10) (hs1 : s < 32) (hk : k < 32) (hs : ∀ f ∈ fs, fS f < 32) (hg : g.2.1 ≤ 16) (ho : g.2.2.1 < 32) (hh : g.2.2.2 < 100) (hq : q ≤ 30000) (hb : b ≤ 30001) (hod : od < 10) (hbs : bs + e.length ≤ 40000) (hY : rc_Y K C0 C g bs od (n, e, b, ((c, a, q, s, k), (v, r), (l, o), (y :: (x :: t)), w) :: fs, m) z) : rx_C G MX7_perform (d + 3) [.ref 4, .ref (13 + 3 * fs.length), .int (nI 16)] (gl C S) 0 0 (rc_out S K C0 g bs od n e b m ((c, a, q, s, k), (v, r), (l, o), (y :: (x :: t)), w) fs (vm_do2 (n, e, b, ((c, a, q, s, k), (v, r), (l, o), (y :: (x :: t)), w) :: fs, m) 16 ((c, a, q, s, k), (v, r), (l, o), (y :: (x :: t)), w) fs)) := by
  refine rx_meth0 (by decide +kernel) rfl (Nat.le_of_ble_eq_true rfl) ?_
  refine rx_iload_n dX7_perform_0 rfl ?_
  refine rx_tabIn (tgt := 318) dX7_perform_1 (by decide) (by decide) rfl (by decide) ?_
  refine rx_iload_n dX7_perform_318 rfl ?_
  refine rx_bipush (v := nI 18) dX7_perform_319 rfl ?_
  refine rx_icmp_gt (tgt := 332) dX7_perform_321 (by decide) (fun h321 => (absurd h321 (by decide))) (fun h321 => ?_)
  refine rx_aload_n dX7_perform_324 rfl rfl ?_
  refine rx_iload_n dX7_perform_325 rfl ?_
  refine gv_invV (as := [.int _]) hG okX6_reckon lk_RX7_243 (gkF_f hp) (gkF_k hp) dX7_perform_326 rfl (by simp [Value.category]) (cc_reckon hG hp (by decide) (by decide) (by decide) (by decide) hY) ?_
  rintro _ _ ⟨rfl, _, rfl, hY1⟩
  refine rx_goto (tgt := 338) dX7_perform_329 (by decide) ?_
  exact rx_iret rfl dX7_perform_338 (rc_out0 (vd2 (by decide) (fun h => absurd h (by decide))) hY1)
theorem cpf_17 {G : rx_E} {d : Nat} {S : gs_T} {K : Nat → Nat × Nat} {C0 C : rx_M} {g : vg_T} {bs od : Nat} {n : Nat → Int64} {e : List (Nat × Int64 × Int64)} {b m c a q s k : Nat} {v r : Int64} {l o : Bool} {t : List Int64} {w : (Nat → Int64) × Nat × Nat} {fs : List vf_T} {z : Int32} (hG : rx_OK G) {x y : Int64} (hp : fs.length < 10) (hs1 : s < 32) (hk : k < 32) (hs : ∀ f ∈ fs, fS f < 32) (hg : g.2.1 ≤ 16) (ho : g.2.2.1 < 32) (hh : g.2.2.2 < 100) (hq : q ≤ 30000) (hb : b ≤ 30001) (hod : od < 10) (hbs : bs + e.length ≤ 40000) (hY : rc_Y K C0 C g bs od (n, e, b, ((c, a, q, s, k), (v, r), (l, o), (y :: (x :: t)), w) :: fs, m) z) : rx_C G MX7_perform (d + 3) [.ref 4, .ref (13 + 3 * fs.length), .int (nI 17)] (gl C S) 0 0 (rc_out S K C0 g bs od n e b m ((c, a, q, s, k), (v, r), (l, o), (y :: (x :: t)), w) fs (vm_do2 (n, e, b, ((c, a, q, s, k), (v, r), (l, o), (y :: (x :: t)), w) :: fs, m) 17 ((c, a, q, s, k), (v, r), (l, o), (y :: (x :: t)), w) fs)) := by
  refine rx_meth0 (by decide +kernel) rfl (Nat.le_of_ble_eq_true rfl) ?_
  refine rx_iload_n dX7_perform_0 rfl ?_
  refine rx_tabIn (tgt := 318) dX7_perform_1 (by decide) (by decide) rfl (by decide) ?_
  refine rx_iload_n dX7_perform_318 rfl ?_
  refine rx_bipush (v := nI 18) dX7_perform_319 rfl ?_
  refine rx_icmp_gt (tgt := 332) dX7_perform_321 (by decide) (fun h321 => (absurd h321 (by decide))) (fun h321 => ?_)
  refine rx_aload_n dX7_perform_324 rfl rfl ?_
  refine rx_iload_n dX7_perform_325 rfl ?_
  refine gv_invV (as := [.int _]) hG okX6_reckon lk_RX7_243 (gkF_f hp) (gkF_k hp) dX7_perform_326 rfl (by simp [Value.category]) (cc_reckon hG hp (by decide) (by decide) (by decide) (by decide) hY) ?_
  rintro _ _ ⟨rfl, _, rfl, hY1⟩
  refine rx_goto (tgt := 338) dX7_perform_329 (by decide) ?_
  exact rx_iret rfl dX7_perform_338 (rc_out0 (vd2 (by decide) (fun h => absurd h (by decide))) hY1)
theorem cpf_18 {G : rx_E} {d : Nat} {S : gs_T} {K : Nat → Nat × Nat} {C0 C : rx_M} {g : vg_T} {bs od : Nat} {n : Nat → Int64} {e : List (Nat × Int64 × Int64)} {b m c a q s k : Nat} {v r : Int64} {l o : Bool} {t : List Int64} {w : (Nat → Int64) × Nat × Nat} {fs : List vf_T} {z : Int32} (hG : rx_OK G) {y : Int64} (hp : fs.length < 10) (hs1 : s < 32) (hk : k < 32) (hs : ∀ f ∈ fs, fS f < 32) (hg : g.2.1 ≤ 16) (ho : g.2.2.1 < 32) (hh : g.2.2.2 < 100) (hq : q ≤ 30000) (hb : b ≤ 30001) (hod : od < 10) (hbs : bs + e.length ≤ 40000) (hY : rc_Y K C0 C g bs od (n, e, b, ((c, a, q, s, k), (v, r), (l, o), (y :: t), w) :: fs, m) z) : rx_C G MX7_perform (d + 3) [.ref 4, .ref (13 + 3 * fs.length), .int (nI 18)] (gl C S) 0 0 (rc_out S K C0 g bs od n e b m ((c, a, q, s, k), (v, r), (l, o), (y :: t), w) fs (vm_do2 (n, e, b, ((c, a, q, s, k), (v, r), (l, o), (y :: t), w) :: fs, m) 18 ((c, a, q, s, k), (v, r), (l, o), (y :: t), w) fs)) := by
  refine rx_meth0 (by decide +kernel) rfl (Nat.le_of_ble_eq_true rfl) ?_
  refine rx_iload_n dX7_perform_0 rfl ?_
  refine rx_tabIn (tgt := 318) dX7_perform_1 (by decide) (by decide) rfl (by decide) ?_
  refine rx_iload_n dX7_perform_318 rfl ?_
  refine rx_bipush (v := nI 18) dX7_perform_319 rfl ?_
  refine rx_icmp_gt (tgt := 332) dX7_perform_321 (by decide) (fun h321 => (absurd h321 (by decide))) (fun h321 => ?_)
  refine rx_aload_n dX7_perform_324 rfl rfl ?_
  refine rx_iload_n dX7_perform_325 rfl ?_
  refine gv_invV (as := [.int _]) hG okX6_reckon lk_RX7_243 (gkF_f hp) (gkF_k hp) dX7_perform_326 rfl (by simp [Value.category]) (cc_reckon18 hG hp hY) ?_
  rintro _ _ ⟨rfl, _, rfl, hY1⟩
  refine rx_goto (tgt := 338) dX7_perform_329 (by decide) ?_
  exact rx_iret rfl dX7_perform_338 (rc_out0 vd2_18 hY1)
theorem cpf_19 {G : rx_E} {d : Nat} {S : gs_T} {K : Nat → Nat × Nat} {C0 C : rx_M} {g : vg_T} {bs od : Nat} {n : Nat → Int64} {e : List (Nat × Int64 × Int64)} {b m c a q s k : Nat} {v r : Int64} {l o : Bool} {t : List Int64} {w : (Nat → Int64) × Nat × Nat} {fs : List vf_T} (hG : rx_OK G)  {mo a0 : Nat} {cd : List Nat} (hcd : g.1 c = cd) (hc : c < g.2.1) (hcl : cd.length ≤ 200) (hoct : ∀ k, k < cd.length → cd.getD k 0 < 256) (ha : a0 < 256) (hmo : cd.getD (a0 + 1) 0 = mo) (hp : fs.length < 10) (hs1 : s < 32) (hk : k < 32) (hs : ∀ f ∈ fs, fS f < 32) (hg : g.2.1 ≤ 16) (ho : g.2.2.1 < 32) (hh : g.2.2.2 < 100) (hq : q ≤ 30000) (hb : b ≤ 30001) (hod : od < 10) (hbs : bs + e.length ≤ 40000) (hY : rc_Y K C0 C g bs od (n, e, b, ((c, a, q, s, k), (v, r), (l, o), t, w) :: fs, m) (nI (a0 + 1))) : rx_C G MX7_perform (d + 3) [.ref 4, .ref (13 + 3 * fs.length), .int (nI 19)] (gl C S) 0 0 (rc_out S K C0 g bs od n e b m ((c, a, q, s, k), (v, r), (l, o), t, w) fs (vm_do3 (n, e, b, ((c, a, q, s, k), (v, r), (l, o), t, w) :: fs, m) 19 mo ((c, a, q, s, k), (v, r), (l, o), t, w) fs)) := by
  refine rx_meth0 (by decide +kernel) rfl (Nat.le_of_ble_eq_true rfl) ?_
  refine rx_iload_n dX7_perform_0 rfl ?_
  refine rx_tabIn (tgt := 190) dX7_perform_1 (by decide) (by decide) rfl (by decide) ?_
  refine rx_iload_n dX7_perform_190 rfl ?_
  refine rx_bipush (v := nI 19) dX7_perform_191 rfl ?_
  refine rx_icmp_eq (tgt := 205) dX7_perform_193 (by decide) (fun h193 => ?_) (fun h193 => (absurd h193 (by decide))) 
  refine rx_aload_n dX7_perform_205 rfl rfl ?_
  refine gv_invV (as := []) hG okX6_jump lk_RX7_213 (gkF_f hp) (gkF_k hp) dX7_perform_206 rfl (by simp [Value.category]) (cc_jump hG hp hcd hc hcl hoct ha hmo hY) ?_
  rintro _ _ ⟨rfl, _, rfl, hY1⟩
  refine rx_iconst (v := nI 0) dX7_perform_209 rfl ?_
  exact rx_iret rfl dX7_perform_210 (rc_out0 rfl hY1)
theorem cpf_20 {G : rx_E} {d : Nat} {S : gs_T} {K : Nat → Nat × Nat} {C0 C : rx_M} {g : vg_T} {bs od : Nat} {n : Nat → Int64} {e : List (Nat × Int64 × Int64)} {b m c a q s k : Nat} {v r : Int64} {l o : Bool} {t : List Int64} {w : (Nat → Int64) × Nat × Nat} {fs : List vf_T} (hG : rx_OK G) {y : Int64} {mo a0 : Nat} {cd : List Nat} (hcd : g.1 c = cd) (hc : c < g.2.1) (hcl : cd.length ≤ 200) (hoct : ∀ k, k < cd.length → cd.getD k 0 < 256) (ha : a0 < 256) (hmo : cd.getD (a0 + 1) 0 = mo) (hp : fs.length < 10) (hs1 : s < 32) (hk : k < 32) (hs : ∀ f ∈ fs, fS f < 32) (hg : g.2.1 ≤ 16) (ho : g.2.2.1 < 32) (hh : g.2.2.2 < 100) (hq : q ≤ 30000) (hb : b ≤ 30001) (hod : od < 10) (hbs : bs + e.length ≤ 40000) (hY : rc_Y K C0 C g bs od (n, e, b, ((c, a, q, s, k), (v, r), (l, o), (y :: t), w) :: fs, m) (nI (a0 + 1))) : rx_C G MX7_perform (d + 3) [.ref 4, .ref (13 + 3 * fs.length), .int (nI 20)] (gl C S) 0 0 (rc_out S K C0 g bs od n e b m ((c, a, q, s, k), (v, r), (l, o), (y :: t), w) fs (vm_do3 (n, e, b, ((c, a, q, s, k), (v, r), (l, o), (y :: t), w) :: fs, m) 20 mo ((c, a, q, s, k), (v, r), (l, o), (y :: t), w) fs)) := by
  refine rx_meth0 (by decide +kernel) rfl (Nat.le_of_ble_eq_true rfl) ?_
  refine rx_iload_n dX7_perform_0 rfl ?_
  refine rx_tabIn (tgt := 190) dX7_perform_1 (by decide) (by decide) rfl (by decide) ?_
  refine rx_iload_n dX7_perform_190 rfl ?_
  refine rx_bipush (v := nI 19) dX7_perform_191 rfl ?_
  refine rx_icmp_eq (tgt := 205) dX7_perform_193 (by decide) (fun h193 => (absurd h193 (by decide))) (fun h193 => ?_)
  refine rx_aload_n dX7_perform_196 rfl rfl ?_
  refine gv_invV (as := []) hG okX6_pop lk_RX7_209 (gkF_f hp) (gkF_k hp) dX7_perform_197 rfl (by simp [Value.category]) (cc_pop hG hY hp) ?_
  rintro _ _ ⟨rfl, _, rfl, hY1⟩
  refine rx_lconst (v := 0) dX7_perform_200 rfl ?_
  refine rx_lc_eq (tgt := 209) dX7_perform_201 dX7_perform_202 (by decide) (fun h201 => ?_) (fun h201 => ?_)
  · refine rx_iconst (v := nI 0) dX7_perform_209 rfl ?_
    exact rx_iret rfl dX7_perform_210 (rc_out0 (vd3_20z h201) hY1)
  · refine rx_aload_n dX7_perform_205 rfl rfl ?_
    refine gv_invV (as := []) hG okX6_jump lk_RX7_213 (gkF_f hp) (gkF_k hp) dX7_perform_206 rfl (by simp [Value.category]) (cc_jump hG hp hcd hc hcl hoct ha hmo hY1) ?_
    rintro _ _ ⟨rfl, _, rfl, hY2⟩
    refine rx_iconst (v := nI 0) dX7_perform_209 rfl ?_
    exact rx_iret rfl dX7_perform_210 (rc_out0 (vd3_20n h201) hY2)
theorem cpf_21 {G : rx_E} {d : Nat} {S : gs_T} {K : Nat → Nat × Nat} {C0 C : rx_M} {g : vg_T} {bs od : Nat} {n : Nat → Int64} {e : List (Nat × Int64 × Int64)} {b m c a q s k : Nat} {v r : Int64} {l o : Bool} {t : List Int64} {w : (Nat → Int64) × Nat × Nat} {fs : List vf_T} {z : Int32} (hG : rx_OK G) {y : Int64} {mo : Nat} (ht : t.length < 24) (hp : fs.length < 10) (hs1 : s < 32) (hk : k < 32) (hs : ∀ f ∈ fs, fS f < 32) (hg : g.2.1 ≤ 16) (ho : g.2.2.1 < 32) (hh : g.2.2.2 < 100) (hq : q ≤ 30000) (hb : b ≤ 30001) (hod : od < 10) (hbs : bs + e.length ≤ 40000) (hY : rc_Y K C0 C g bs od (n, e, b, ((c, a, q, s, k), (v, r), (l, o), (y :: t), w) :: fs, m) z) : rx_C G MX7_perform (d + 3) [.ref 4, .ref (13 + 3 * fs.length), .int (nI 21)] (gl C S) 0 0 (rc_out S K C0 g bs od n e b m ((c, a, q, s, k), (v, r), (l, o), (y :: t), w) fs (vm_do3 (n, e, b, ((c, a, q, s, k), (v, r), (l, o), (y :: t), w) :: fs, m) 21 mo ((c, a, q, s, k), (v, r), (l, o), (y :: t), w) fs)) := by
  refine rx_meth0 (by decide +kernel) rfl (Nat.le_of_ble_eq_true rfl) ?_
  refine rx_iload_n dX7_perform_0 rfl ?_
  refine rx_tabIn (tgt := 211) dX7_perform_1 (by decide) (by decide) rfl (by decide) ?_
  refine rx_aload_n dX7_perform_211 rfl rfl ?_
  refine rx_aload_n dX7_perform_212 rfl rfl ?_
  refine gv_invV (as := [.ref _]) hG okX7_loadCell lk_RX7_216 rfl rfl dX7_perform_213 rfl (by simp [Value.category]) (cp_load (mo := mo) hG hp hs1 ht hY) ?_
  rintro _ _ ⟨how, rfl, C1, rfl, hO⟩
  exact rx_iret rfl dX7_perform_216 ⟨how, rfl, _, rfl, hO⟩
theorem cpf_22 {G : rx_E} {d : Nat} {S : gs_T} {K : Nat → Nat × Nat} {C0 C : rx_M} {g : vg_T} {bs od : Nat} {n : Nat → Int64} {e : List (Nat × Int64 × Int64)} {b m c a q s k : Nat} {v r : Int64} {l o : Bool} {t : List Int64} {w : (Nat → Int64) × Nat × Nat} {fs : List vf_T} {z : Int32} (hG : rx_OK G) {x y : Int64} {mo : Nat} (hp : fs.length < 10) (hs1 : s < 32) (hk : k < 32) (hs : ∀ f ∈ fs, fS f < 32) (hg : g.2.1 ≤ 16) (ho : g.2.2.1 < 32) (hh : g.2.2.2 < 100) (hq : q ≤ 30000) (hb : b ≤ 30001) (hod : od < 10) (hbs : bs + e.length ≤ 40000) (hY : rc_Y K C0 C g bs od (n, e, b, ((c, a, q, s, k), (v, r), (l, o), (x :: (y :: t)), w) :: fs, m) z) : rx_C G MX7_perform (d + 3) [.ref 4, .ref (13 + 3 * fs.length), .int (nI 22)] (gl C S) 0 0 (rc_out S K C0 g bs od n e b m ((c, a, q, s, k), (v, r), (l, o), (x :: (y :: t)), w) fs (vm_do3 (n, e, b, ((c, a, q, s, k), (v, r), (l, o), (x :: (y :: t)), w) :: fs, m) 22 mo ((c, a, q, s, k), (v, r), (l, o), (x :: (y :: t)), w) fs)) := by
  refine rx_meth0 (by decide +kernel) rfl (Nat.le_of_ble_eq_true rfl) ?_
  refine rx_iload_n dX7_perform_0 rfl ?_
  refine rx_tabIn (tgt := 217) dX7_perform_1 (by decide) (by decide) rfl (by decide) ?_
  refine rx_aload_n dX7_perform_217 rfl rfl ?_
  refine rx_aload_n dX7_perform_218 rfl rfl ?_
  refine rx_aload_n dX7_perform_219 rfl rfl ?_
  refine gv_invV (as := []) hG okX6_pop lk_RX7_209 (gkF_f hp) (gkF_k hp) dX7_perform_220 rfl (by simp [Value.category]) (cc_pop hG hY hp) ?_
  rintro _ _ ⟨rfl, _, rfl, hY1⟩
  refine rx_aload_n dX7_perform_223 rfl rfl ?_
  refine gv_invV (as := []) hG okX6_pop lk_RX7_209 (gkF_f hp) (gkF_k hp) dX7_perform_224 rfl (by simp [Value.category]) (cc_pop hG hY1 hp) ?_
  rintro _ _ ⟨rfl, _, rfl, hY2⟩
  refine gv_invV (as := [.ref _, .long _, .long _]) hG okX7_storeCell lk_RX7_220 rfl rfl dX7_perform_227 rfl (by simp [Value.category]) (cp_store (mo := mo) (t0 := x :: (y :: t)) (t2 := x :: (y :: t)) hG hp hs1 hq hb hY2) ?_
  rintro _ _ ⟨how, rfl, C1, rfl, hO⟩
  exact rx_iret rfl dX7_perform_230 ⟨how, rfl, _, rfl, hO⟩
theorem cpf_23 {G : rx_E} {d : Nat} {S : gs_T} {K : Nat → Nat × Nat} {C0 C : rx_M} {g : vg_T} {bs od : Nat} {n : Nat → Int64} {e : List (Nat × Int64 × Int64)} {b m c a q s k : Nat} {v r : Int64} {l o : Bool} {t : List Int64} {w : (Nat → Int64) × Nat × Nat} {fs : List vf_T} {z : Int32} (hG : rx_OK G) (ht : t.length < 24) (hp : fs.length < 10) (hs1 : s < 32) (hk : k < 32) (hs : ∀ f ∈ fs, fS f < 32) (hg : g.2.1 ≤ 16) (ho : g.2.2.1 < 32) (hh : g.2.2.2 < 100) (hq : q ≤ 30000) (hb : b ≤ 30001) (hod : od < 10) (hbs : bs + e.length ≤ 40000) (hY : rc_Y K C0 C g bs od (n, e, b, ((c, a, q, s, k), (v, r), (l, o), t, w) :: fs, m) z) : rx_C G MX7_perform (d + 3) [.ref 4, .ref (13 + 3 * fs.length), .int (nI 23)] (gl C S) 0 0 (rc_out S K C0 g bs od n e b m ((c, a, q, s, k), (v, r), (l, o), t, w) fs (vm_do4 g (n, e, b, ((c, a, q, s, k), (v, r), (l, o), t, w) :: fs, m) 23 ((c, a, q, s, k), (v, r), (l, o), t, w) fs)) := by
  refine rx_meth0 (by decide +kernel) rfl (Nat.le_of_ble_eq_true rfl) ?_
  refine rx_iload_n dX7_perform_0 rfl ?_
  refine rx_tabIn (tgt := 318) dX7_perform_1 (by decide) (by decide) rfl (by decide) ?_
  refine rx_iload_n dX7_perform_318 rfl ?_
  refine rx_bipush (v := nI 18) dX7_perform_319 rfl ?_
  refine rx_icmp_gt (tgt := 332) dX7_perform_321 (by decide) (fun h321 => ?_) (fun h321 => (absurd h321 (by decide))) 
  refine rx_aload_n dX7_perform_332 rfl rfl ?_
  refine rx_aload_n dX7_perform_333 rfl rfl ?_
  refine rx_iload_n dX7_perform_334 rfl ?_
  refine gv_invV (as := [.ref _, .int _]) hG okX7_tell lk_RX7_247 rfl rfl dX7_perform_335 rfl (by simp [Value.category]) (cp_tell23 hG hp hs1 hk ho hh hq ht hY) ?_
  rintro _ _ ⟨how, rfl, C1, rfl, hO⟩
  exact rx_iret rfl dX7_perform_338 ⟨how, rfl, _, rfl, hO⟩
theorem cpf_24 {G : rx_E} {d : Nat} {S : gs_T} {K : Nat → Nat × Nat} {C0 C : rx_M} {g : vg_T} {bs od : Nat} {n : Nat → Int64} {e : List (Nat × Int64 × Int64)} {b m c a q s k : Nat} {v r : Int64} {l o : Bool} {t : List Int64} {w : (Nat → Int64) × Nat × Nat} {fs : List vf_T} {z : Int32} (hG : rx_OK G) (ht : t.length < 24) (hp : fs.length < 10) (hs1 : s < 32) (hk : k < 32) (hs : ∀ f ∈ fs, fS f < 32) (hg : g.2.1 ≤ 16) (ho : g.2.2.1 < 32) (hh : g.2.2.2 < 100) (hq : q ≤ 30000) (hb : b ≤ 30001) (hod : od < 10) (hbs : bs + e.length ≤ 40000) (hY : rc_Y K C0 C g bs od (n, e, b, ((c, a, q, s, k), (v, r), (l, o), t, w) :: fs, m) z) : rx_C G MX7_perform (d + 3) [.ref 4, .ref (13 + 3 * fs.length), .int (nI 24)] (gl C S) 0 0 (rc_out S K C0 g bs od n e b m ((c, a, q, s, k), (v, r), (l, o), t, w) fs (vm_do4 g (n, e, b, ((c, a, q, s, k), (v, r), (l, o), t, w) :: fs, m) 24 ((c, a, q, s, k), (v, r), (l, o), t, w) fs)) := by
  refine rx_meth0 (by decide +kernel) rfl (Nat.le_of_ble_eq_true rfl) ?_
  refine rx_iload_n dX7_perform_0 rfl ?_
  refine rx_tabIn (tgt := 318) dX7_perform_1 (by decide) (by decide) rfl (by decide) ?_
  refine rx_iload_n dX7_perform_318 rfl ?_
  refine rx_bipush (v := nI 18) dX7_perform_319 rfl ?_
  refine rx_icmp_gt (tgt := 332) dX7_perform_321 (by decide) (fun h321 => ?_) (fun h321 => (absurd h321 (by decide))) 
  refine rx_aload_n dX7_perform_332 rfl rfl ?_
  refine rx_aload_n dX7_perform_333 rfl rfl ?_
  refine rx_iload_n dX7_perform_334 rfl ?_
  refine gv_invV (as := [.ref _, .int _]) hG okX7_tell lk_RX7_247 rfl rfl dX7_perform_335 rfl (by simp [Value.category]) (cp_tell24 hG hp hs1 hk ho hh hq ht hY) ?_
  rintro _ _ ⟨how, rfl, C1, rfl, hO⟩
  exact rx_iret rfl dX7_perform_338 ⟨how, rfl, _, rfl, hO⟩
theorem cpf_25 {G : rx_E} {d : Nat} {S : gs_T} {K : Nat → Nat × Nat} {C0 C : rx_M} {g : vg_T} {bs od : Nat} {n : Nat → Int64} {e : List (Nat × Int64 × Int64)} {b m c a q s k : Nat} {v r : Int64} {l o : Bool} {t : List Int64} {w : (Nat → Int64) × Nat × Nat} {fs : List vf_T} {z : Int32} (hG : rx_OK G) (ht : t.length < 24) (hp : fs.length < 10) (hs1 : s < 32) (hk : k < 32) (hs : ∀ f ∈ fs, fS f < 32) (hg : g.2.1 ≤ 16) (ho : g.2.2.1 < 32) (hh : g.2.2.2 < 100) (hq : q ≤ 30000) (hb : b ≤ 30001) (hod : od < 10) (hbs : bs + e.length ≤ 40000) (hY : rc_Y K C0 C g bs od (n, e, b, ((c, a, q, s, k), (v, r), (l, o), t, w) :: fs, m) z) : rx_C G MX7_perform (d + 3) [.ref 4, .ref (13 + 3 * fs.length), .int (nI 25)] (gl C S) 0 0 (rc_out S K C0 g bs od n e b m ((c, a, q, s, k), (v, r), (l, o), t, w) fs (vm_do4 g (n, e, b, ((c, a, q, s, k), (v, r), (l, o), t, w) :: fs, m) 25 ((c, a, q, s, k), (v, r), (l, o), t, w) fs)) := by
  refine rx_meth0 (by decide +kernel) rfl (Nat.le_of_ble_eq_true rfl) ?_
  refine rx_iload_n dX7_perform_0 rfl ?_
  refine rx_tabIn (tgt := 318) dX7_perform_1 (by decide) (by decide) rfl (by decide) ?_
  refine rx_iload_n dX7_perform_318 rfl ?_
  refine rx_bipush (v := nI 18) dX7_perform_319 rfl ?_
  refine rx_icmp_gt (tgt := 332) dX7_perform_321 (by decide) (fun h321 => ?_) (fun h321 => (absurd h321 (by decide))) 
  refine rx_aload_n dX7_perform_332 rfl rfl ?_
  refine rx_aload_n dX7_perform_333 rfl rfl ?_
  refine rx_iload_n dX7_perform_334 rfl ?_
  refine gv_invV (as := [.ref _, .int _]) hG okX7_tell lk_RX7_247 rfl rfl dX7_perform_335 rfl (by simp [Value.category]) (cp_tell25 hG hp hs1 hk ho hh hq ht hY) ?_
  rintro _ _ ⟨how, rfl, C1, rfl, hO⟩
  exact rx_iret rfl dX7_perform_338 ⟨how, rfl, _, rfl, hO⟩
theorem cpf_26 {G : rx_E} {d : Nat} {S : gs_T} {K : Nat → Nat × Nat} {C0 C : rx_M} {g : vg_T} {bs od : Nat} {n : Nat → Int64} {e : List (Nat × Int64 × Int64)} {b m c a q s k : Nat} {v r : Int64} {l o : Bool} {t : List Int64} {w : (Nat → Int64) × Nat × Nat} {fs : List vf_T} {z : Int32} (hG : rx_OK G) (ht : t.length < 24) (hp : fs.length < 10) (hs1 : s < 32) (hk : k < 32) (hs : ∀ f ∈ fs, fS f < 32) (hg : g.2.1 ≤ 16) (ho : g.2.2.1 < 32) (hh : g.2.2.2 < 100) (hq : q ≤ 30000) (hb : b ≤ 30001) (hod : od < 10) (hbs : bs + e.length ≤ 40000) (hY : rc_Y K C0 C g bs od (n, e, b, ((c, a, q, s, k), (v, r), (l, o), t, w) :: fs, m) z) : rx_C G MX7_perform (d + 3) [.ref 4, .ref (13 + 3 * fs.length), .int (nI 26)] (gl C S) 0 0 (rc_out S K C0 g bs od n e b m ((c, a, q, s, k), (v, r), (l, o), t, w) fs (vm_do4 g (n, e, b, ((c, a, q, s, k), (v, r), (l, o), t, w) :: fs, m) 26 ((c, a, q, s, k), (v, r), (l, o), t, w) fs)) := by
  refine rx_meth0 (by decide +kernel) rfl (Nat.le_of_ble_eq_true rfl) ?_
  refine rx_iload_n dX7_perform_0 rfl ?_
  refine rx_tabIn (tgt := 318) dX7_perform_1 (by decide) (by decide) rfl (by decide) ?_
  refine rx_iload_n dX7_perform_318 rfl ?_
  refine rx_bipush (v := nI 18) dX7_perform_319 rfl ?_
  refine rx_icmp_gt (tgt := 332) dX7_perform_321 (by decide) (fun h321 => ?_) (fun h321 => (absurd h321 (by decide))) 
  refine rx_aload_n dX7_perform_332 rfl rfl ?_
  refine rx_aload_n dX7_perform_333 rfl rfl ?_
  refine rx_iload_n dX7_perform_334 rfl ?_
  refine gv_invV (as := [.ref _, .int _]) hG okX7_tell lk_RX7_247 rfl rfl dX7_perform_335 rfl (by simp [Value.category]) (cp_tell26 hG hp hs1 hk ho hh hq ht hY) ?_
  rintro _ _ ⟨how, rfl, C1, rfl, hO⟩
  exact rx_iret rfl dX7_perform_338 ⟨how, rfl, _, rfl, hO⟩
theorem cpf_27 {G : rx_E} {d : Nat} {S : gs_T} {K : Nat → Nat × Nat} {C0 C : rx_M} {g : vg_T} {bs od : Nat} {n : Nat → Int64} {e : List (Nat × Int64 × Int64)} {b m c a q s k : Nat} {v r : Int64} {l o : Bool} {t : List Int64} {w : (Nat → Int64) × Nat × Nat} {fs : List vf_T} {z : Int32} (hG : rx_OK G) (ht : t.length < 24) (hp : fs.length < 10) (hs1 : s < 32) (hk : k < 32) (hs : ∀ f ∈ fs, fS f < 32) (hg : g.2.1 ≤ 16) (ho : g.2.2.1 < 32) (hh : g.2.2.2 < 100) (hq : q ≤ 30000) (hb : b ≤ 30001) (hod : od < 10) (hbs : bs + e.length ≤ 40000) (hY : rc_Y K C0 C g bs od (n, e, b, ((c, a, q, s, k), (v, r), (l, o), t, w) :: fs, m) z) : rx_C G MX7_perform (d + 3) [.ref 4, .ref (13 + 3 * fs.length), .int (nI 27)] (gl C S) 0 0 (rc_out S K C0 g bs od n e b m ((c, a, q, s, k), (v, r), (l, o), t, w) fs (vm_do4 g (n, e, b, ((c, a, q, s, k), (v, r), (l, o), t, w) :: fs, m) 27 ((c, a, q, s, k), (v, r), (l, o), t, w) fs)) := by
  refine rx_meth0 (by decide +kernel) rfl (Nat.le_of_ble_eq_true rfl) ?_
  refine rx_iload_n dX7_perform_0 rfl ?_
  refine rx_tabIn (tgt := 318) dX7_perform_1 (by decide) (by decide) rfl (by decide) ?_
  refine rx_iload_n dX7_perform_318 rfl ?_
  refine rx_bipush (v := nI 18) dX7_perform_319 rfl ?_
  refine rx_icmp_gt (tgt := 332) dX7_perform_321 (by decide) (fun h321 => ?_) (fun h321 => (absurd h321 (by decide))) 
  refine rx_aload_n dX7_perform_332 rfl rfl ?_
  refine rx_aload_n dX7_perform_333 rfl rfl ?_
  refine rx_iload_n dX7_perform_334 rfl ?_
  refine gv_invV (as := [.ref _, .int _]) hG okX7_tell lk_RX7_247 rfl rfl dX7_perform_335 rfl (by simp [Value.category]) (cp_tell27 hG hp hs1 hk ho hh hq ht hY) ?_
  rintro _ _ ⟨how, rfl, C1, rfl, hO⟩
  exact rx_iret rfl dX7_perform_338 ⟨how, rfl, _, rfl, hO⟩
theorem cpf_28 {G : rx_E} {d : Nat} {S : gs_T} {K : Nat → Nat × Nat} {C0 C : rx_M} {g : vg_T} {bs od : Nat} {n : Nat → Int64} {e : List (Nat × Int64 × Int64)} {b m c a q s k : Nat} {v r : Int64} {l o : Bool} {t : List Int64} {w : (Nat → Int64) × Nat × Nat} {fs : List vf_T} {z : Int32} (hG : rx_OK G) (ht : t.length < 24) (hp : fs.length < 10) (hs1 : s < 32) (hk : k < 32) (hs : ∀ f ∈ fs, fS f < 32) (hg : g.2.1 ≤ 16) (ho : g.2.2.1 < 32) (hh : g.2.2.2 < 100) (hq : q ≤ 30000) (hb : b ≤ 30001) (hod : od < 10) (hbs : bs + e.length ≤ 40000) (hY : rc_Y K C0 C g bs od (n, e, b, ((c, a, q, s, k), (v, r), (l, o), t, w) :: fs, m) z) : rx_C G MX7_perform (d + 3) [.ref 4, .ref (13 + 3 * fs.length), .int (nI 28)] (gl C S) 0 0 (rc_out S K C0 g bs od n e b m ((c, a, q, s, k), (v, r), (l, o), t, w) fs (vm_do4 g (n, e, b, ((c, a, q, s, k), (v, r), (l, o), t, w) :: fs, m) 28 ((c, a, q, s, k), (v, r), (l, o), t, w) fs)) := by
  refine rx_meth0 (by decide +kernel) rfl (Nat.le_of_ble_eq_true rfl) ?_
  refine rx_iload_n dX7_perform_0 rfl ?_
  refine rx_tabIn (tgt := 318) dX7_perform_1 (by decide) (by decide) rfl (by decide) ?_
  refine rx_iload_n dX7_perform_318 rfl ?_
  refine rx_bipush (v := nI 18) dX7_perform_319 rfl ?_
  refine rx_icmp_gt (tgt := 332) dX7_perform_321 (by decide) (fun h321 => ?_) (fun h321 => (absurd h321 (by decide))) 
  refine rx_aload_n dX7_perform_332 rfl rfl ?_
  refine rx_aload_n dX7_perform_333 rfl rfl ?_
  refine rx_iload_n dX7_perform_334 rfl ?_
  refine gv_invV (as := [.ref _, .int _]) hG okX7_tell lk_RX7_247 rfl rfl dX7_perform_335 rfl (by simp [Value.category]) (cp_tell28 hG hp hs1 hk ho hh hq ht hY) ?_
  rintro _ _ ⟨how, rfl, C1, rfl, hO⟩
  exact rx_iret rfl dX7_perform_338 ⟨how, rfl, _, rfl, hO⟩
theorem cpf_29 {G : rx_E} {d : Nat} {S : gs_T} {K : Nat → Nat × Nat} {C0 C : rx_M} {g : vg_T} {bs od : Nat} {n : Nat → Int64} {e : List (Nat × Int64 × Int64)} {b m c a q s k : Nat} {v r : Int64} {l o : Bool} {t : List Int64} {w : (Nat → Int64) × Nat × Nat} {fs : List vf_T} {z : Int32} (hG : rx_OK G) (ht : t.length < 24) (hp : fs.length < 10) (hs1 : s < 32) (hk : k < 32) (hs : ∀ f ∈ fs, fS f < 32) (hg : g.2.1 ≤ 16) (ho : g.2.2.1 < 32) (hh : g.2.2.2 < 100) (hq : q ≤ 30000) (hb : b ≤ 30001) (hod : od < 10) (hbs : bs + e.length ≤ 40000) (hY : rc_Y K C0 C g bs od (n, e, b, ((c, a, q, s, k), (v, r), (l, o), t, w) :: fs, m) z) : rx_C G MX7_perform (d + 3) [.ref 4, .ref (13 + 3 * fs.length), .int (nI 29)] (gl C S) 0 0 (rc_out S K C0 g bs od n e b m ((c, a, q, s, k), (v, r), (l, o), t, w) fs (vm_do4 g (n, e, b, ((c, a, q, s, k), (v, r), (l, o), t, w) :: fs, m) 29 ((c, a, q, s, k), (v, r), (l, o), t, w) fs)) := by
  refine rx_meth0 (by decide +kernel) rfl (Nat.le_of_ble_eq_true rfl) ?_
  refine rx_iload_n dX7_perform_0 rfl ?_
  refine rx_tabIn (tgt := 318) dX7_perform_1 (by decide) (by decide) rfl (by decide) ?_
  refine rx_iload_n dX7_perform_318 rfl ?_
  refine rx_bipush (v := nI 18) dX7_perform_319 rfl ?_
  refine rx_icmp_gt (tgt := 332) dX7_perform_321 (by decide) (fun h321 => ?_) (fun h321 => (absurd h321 (by decide))) 
  refine rx_aload_n dX7_perform_332 rfl rfl ?_
  refine rx_aload_n dX7_perform_333 rfl rfl ?_
  refine rx_iload_n dX7_perform_334 rfl ?_
  refine gv_invV (as := [.ref _, .int _]) hG okX7_tell lk_RX7_247 rfl rfl dX7_perform_335 rfl (by simp [Value.category]) (cp_tell29 hG hp hs1 hk ho hh hq ht hY) ?_
  rintro _ _ ⟨how, rfl, C1, rfl, hO⟩
  exact rx_iret rfl dX7_perform_338 ⟨how, rfl, _, rfl, hO⟩
theorem cpf_30 {G : rx_E} {d : Nat} {S : gs_T} {K : Nat → Nat × Nat} {C0 C : rx_M} {g : vg_T} {bs od : Nat} {n : Nat → Int64} {e : List (Nat × Int64 × Int64)} {b m c a q s k : Nat} {v r : Int64} {l o : Bool} {t : List Int64} {w : (Nat → Int64) × Nat × Nat} {fs : List vf_T} {z : Int32} (hG : rx_OK G) {y : Int64} (ht : t.length < 24) (hp : fs.length < 10) (hs1 : s < 32) (hk : k < 32) (hs : ∀ f ∈ fs, fS f < 32) (hg : g.2.1 ≤ 16) (ho : g.2.2.1 < 32) (hh : g.2.2.2 < 100) (hq : q ≤ 30000) (hb : b ≤ 30001) (hod : od < 10) (hbs : bs + e.length ≤ 40000) (hY : rc_Y K C0 C g bs od (n, e, b, ((c, a, q, s, k), (v, r), (l, o), (y :: t), w) :: fs, m) z) : rx_C G MX7_perform (d + 3) [.ref 4, .ref (13 + 3 * fs.length), .int (nI 30)] (gl C S) 0 0 (rc_out S K C0 g bs od n e b m ((c, a, q, s, k), (v, r), (l, o), (y :: t), w) fs (vm_do4 g (n, e, b, ((c, a, q, s, k), (v, r), (l, o), (y :: t), w) :: fs, m) 30 ((c, a, q, s, k), (v, r), (l, o), (y :: t), w) fs)) := by
  refine rx_meth0 (by decide +kernel) rfl (Nat.le_of_ble_eq_true rfl) ?_
  refine rx_iload_n dX7_perform_0 rfl ?_
  refine rx_tabIn (tgt := 318) dX7_perform_1 (by decide) (by decide) rfl (by decide) ?_
  refine rx_iload_n dX7_perform_318 rfl ?_
  refine rx_bipush (v := nI 18) dX7_perform_319 rfl ?_
  refine rx_icmp_gt (tgt := 332) dX7_perform_321 (by decide) (fun h321 => ?_) (fun h321 => (absurd h321 (by decide))) 
  refine rx_aload_n dX7_perform_332 rfl rfl ?_
  refine rx_aload_n dX7_perform_333 rfl rfl ?_
  refine rx_iload_n dX7_perform_334 rfl ?_
  refine gv_invV (as := [.ref _, .int _]) hG okX7_tell lk_RX7_247 rfl rfl dX7_perform_335 rfl (by simp [Value.category]) (cp_tell30 hG hp ht hY) ?_
  rintro _ _ ⟨how, rfl, C1, rfl, hO⟩
  exact rx_iret rfl dX7_perform_338 ⟨how, rfl, _, rfl, hO⟩
theorem cpf_31 {G : rx_E} {d : Nat} {S : gs_T} {K : Nat → Nat × Nat} {C0 C : rx_M} {g : vg_T} {bs od : Nat} {n : Nat → Int64} {e : List (Nat × Int64 × Int64)} {b m c a q s k : Nat} {v r : Int64} {l o : Bool} {t : List Int64} {w : (Nat → Int64) × Nat × Nat} {fs : List vf_T} {z : Int32} (hG : rx_OK G) {to vl ar ask : Int64} (ht : t.length ≤ 21) (hp : fs.length < 10) (hs1 : s < 32) (hk : k < 32) (hs : ∀ f ∈ fs, fS f < 32) (hg : g.2.1 ≤ 16) (ho : g.2.2.1 < 32) (hh : g.2.2.2 < 100) (hq : q ≤ 30000) (hb : b ≤ 30001) (hod : od < 10) (hbs : bs + e.length ≤ 40000) (hY : rc_Y K C0 C g bs od (n, e, b, ((c, a, q, s, k), (v, r), (l, o), (to :: (vl :: (ar :: (ask :: t)))), w) :: fs, m) z) : rx_C G MX7_perform (d + 3) [.ref 4, .ref (13 + 3 * fs.length), .int (nI 31)] (gl C S) 0 0 (rc_out S K C0 g bs od n e b m ((c, a, q, s, k), (v, r), (l, o), (to :: (vl :: (ar :: (ask :: t)))), w) fs (vm_do5 g (n, e, b, ((c, a, q, s, k), (v, r), (l, o), (to :: (vl :: (ar :: (ask :: t)))), w) :: fs, m) 31 ((c, a, q, s, k), (v, r), (l, o), (to :: (vl :: (ar :: (ask :: t)))), w) fs)) := by
  refine rx_meth0 (by decide +kernel) rfl (Nat.le_of_ble_eq_true rfl) ?_
  refine rx_iload_n dX7_perform_0 rfl ?_
  refine rx_tabIn (tgt := 231) dX7_perform_1 (by decide) (by decide) rfl (by decide) ?_
  refine rx_aload_n dX7_perform_231 rfl rfl ?_
  refine rx_aload_n dX7_perform_232 rfl rfl ?_
  refine gv_invV (as := [.ref _]) hG okX7_prepareCall lk_RX7_224 rfl rfl dX7_perform_233 rfl (by simp [Value.category]) (cp_call hG hp hq ht hY) ?_
  rintro _ _ ⟨how, rfl, C1, rfl, hO⟩
  exact rx_iret rfl dX7_perform_236 ⟨how, rfl, _, rfl, hO⟩
theorem cpf_32 {G : rx_E} {d : Nat} {S : gs_T} {K : Nat → Nat × Nat} {C0 C : rx_M} {g : vg_T} {bs od : Nat} {n : Nat → Int64} {e : List (Nat × Int64 × Int64)} {b m c a q s k : Nat} {v r : Int64} {l o : Bool} {t : List Int64} {w : (Nat → Int64) × Nat × Nat} {fs : List vf_T} {z : Int32} (hG : rx_OK G) {to ar ask : Int64} (ht : t.length ≤ 21) (hp : fs.length < 10) (hs1 : s < 32) (hk : k < 32) (hs : ∀ f ∈ fs, fS f < 32) (hg : g.2.1 ≤ 16) (ho : g.2.2.1 < 32) (hh : g.2.2.2 < 100) (hq : q ≤ 30000) (hb : b ≤ 30001) (hod : od < 10) (hbs : bs + e.length ≤ 40000) (hY : rc_Y K C0 C g bs od (n, e, b, ((c, a, q, s, k), (v, r), (l, o), (to :: (ar :: (ask :: t))), w) :: fs, m) z) : rx_C G MX7_perform (d + 3) [.ref 4, .ref (13 + 3 * fs.length), .int (nI 32)] (gl C S) 0 0 (rc_out S K C0 g bs od n e b m ((c, a, q, s, k), (v, r), (l, o), (to :: (ar :: (ask :: t))), w) fs (vm_do5 g (n, e, b, ((c, a, q, s, k), (v, r), (l, o), (to :: (ar :: (ask :: t))), w) :: fs, m) 32 ((c, a, q, s, k), (v, r), (l, o), (to :: (ar :: (ask :: t))), w) fs)) := by
  refine rx_meth0 (by decide +kernel) rfl (Nat.le_of_ble_eq_true rfl) ?_
  refine rx_iload_n dX7_perform_0 rfl ?_
  refine rx_tabIn (tgt := 237) dX7_perform_1 (by decide) (by decide) rfl (by decide) ?_
  refine rx_aload_n dX7_perform_237 rfl rfl ?_
  refine rx_aload_n dX7_perform_238 rfl rfl ?_
  refine gv_invV (as := [.ref _]) hG okX7_prepareLook lk_RX7_227 rfl rfl dX7_perform_239 rfl (by simp [Value.category]) (cp_look hG hp hq ht hY) ?_
  rintro _ _ ⟨how, rfl, C1, rfl, hO⟩
  exact rx_iret rfl dX7_perform_242 ⟨how, rfl, _, rfl, hO⟩
theorem cpf_33 {G : rx_E} {d : Nat} {S : gs_T} {K : Nat → Nat × Nat} {C0 C : rx_M} {g : vg_T} {bs od : Nat} {n : Nat → Int64} {e : List (Nat × Int64 × Int64)} {b m c a q s k : Nat} {v r : Int64} {l o : Bool} {t : List Int64} {w : (Nat → Int64) × Nat × Nat} {fs : List vf_T} {z : Int32} (hG : rx_OK G) {x y : Int64} (ht : t.length < 24) (hp : fs.length < 10) (hs1 : s < 32) (hk : k < 32) (hs : ∀ f ∈ fs, fS f < 32) (hg : g.2.1 ≤ 16) (ho : g.2.2.1 < 32) (hh : g.2.2.2 < 100) (hq : q ≤ 30000) (hb : b ≤ 30001) (hod : od < 10) (hbs : bs + e.length ≤ 40000) (hY : rc_Y K C0 C g bs od (n, e, b, ((c, a, q, s, k), (v, r), (l, o), (y :: (x :: t)), w) :: fs, m) z) : rx_C G MX7_perform (d + 3) [.ref 4, .ref (13 + 3 * fs.length), .int (nI 33)] (gl C S) 0 0 (rc_out S K C0 g bs od n e b m ((c, a, q, s, k), (v, r), (l, o), (y :: (x :: t)), w) fs (vm_do5 g (n, e, b, ((c, a, q, s, k), (v, r), (l, o), (y :: (x :: t)), w) :: fs, m) 33 ((c, a, q, s, k), (v, r), (l, o), (y :: (x :: t)), w) fs)) := by
  refine rx_meth0 (by decide +kernel) rfl (Nat.le_of_ble_eq_true rfl) ?_
  refine rx_iload_n dX7_perform_0 rfl ?_
  refine rx_tabIn (tgt := 243) dX7_perform_1 (by decide) (by decide) rfl (by decide) ?_
  refine rx_aload_n dX7_perform_243 rfl rfl ?_
  refine rx_aload_n dX7_perform_244 rfl rfl ?_
  refine rx_aload_n dX7_perform_245 rfl rfl ?_
  refine gv_invV (as := []) hG okX6_pop lk_RX7_209 (gkF_f hp) (gkF_k hp) dX7_perform_246 rfl (by simp [Value.category]) (cc_pop hG hY hp) ?_
  rintro _ _ ⟨rfl, _, rfl, hY1⟩
  refine rx_aload_n dX7_perform_249 rfl rfl ?_
  refine gv_invV (as := []) hG okX6_pop lk_RX7_209 (gkF_f hp) (gkF_k hp) dX7_perform_250 rfl (by simp [Value.category]) (cc_pop hG hY1 hp) ?_
  rintro _ _ ⟨rfl, _, rfl, hY2⟩
  refine gv_invV (as := [.ref _, .long _, .long _]) hG okX7_make lk_RX7_230 rfl rfl dX7_perform_253 rfl (by simp [Value.category]) (cp_make (t0 := y :: (x :: t)) (t2 := y :: (x :: t)) hG hp hs1 hs ho hg ht hY2) ?_
  rintro _ _ ⟨how, rfl, C1, rfl, hO⟩
  exact rx_iret rfl dX7_perform_256 ⟨how, rfl, _, rfl, hO⟩
theorem cpf_34 {G : rx_E} {d : Nat} {S : gs_T} {K : Nat → Nat × Nat} {C0 C : rx_M} {g : vg_T} {bs od : Nat} {n : Nat → Int64} {e : List (Nat × Int64 × Int64)} {b m c a q s k : Nat} {v r : Int64} {l o : Bool} {t : List Int64} {w : (Nat → Int64) × Nat × Nat} {fs : List vf_T} {z : Int32} (hG : rx_OK G) {y : Int64} (hp : fs.length < 10) (hs1 : s < 32) (hk : k < 32) (hs : ∀ f ∈ fs, fS f < 32) (hg : g.2.1 ≤ 16) (ho : g.2.2.1 < 32) (hh : g.2.2.2 < 100) (hq : q ≤ 30000) (hb : b ≤ 30001) (hod : od < 10) (hbs : bs + e.length ≤ 40000) (hY : rc_Y K C0 C g bs od (n, e, b, ((c, a, q, s, k), (v, r), (l, o), (y :: t), w) :: fs, m) z) : rx_C G MX7_perform (d + 3) [.ref 4, .ref (13 + 3 * fs.length), .int (nI 34)] (gl C S) 0 0 (rc_out S K C0 g bs od n e b m ((c, a, q, s, k), (v, r), (l, o), (y :: t), w) fs (vm_do5 g (n, e, b, ((c, a, q, s, k), (v, r), (l, o), (y :: t), w) :: fs, m) 34 ((c, a, q, s, k), (v, r), (l, o), (y :: t), w) fs)) := by
  refine rx_meth0 (by decide +kernel) rfl (Nat.le_of_ble_eq_true rfl) ?_
  refine rx_iload_n dX7_perform_0 rfl ?_
  refine rx_tabIn (tgt := 257) dX7_perform_1 (by decide) (by decide) rfl (by decide) ?_
  refine rx_aload_n dX7_perform_257 rfl rfl ?_
  refine rx_aload_n dX7_perform_258 rfl rfl ?_
  refine rx_aload_n dX7_perform_259 rfl rfl ?_
  refine gv_invV (as := []) hG okX6_pop lk_RX7_209 (gkF_f hp) (gkF_k hp) dX7_perform_260 rfl (by simp [Value.category]) (cc_pop hG hY hp) ?_
  rintro _ _ ⟨rfl, _, rfl, hY1⟩
  refine gv_invV (as := [.ref _, .long _]) hG okX7_become lk_RX7_233 rfl rfl dX7_perform_263 rfl (by simp [Value.category]) (cp_become (t0 := y :: t) (t2 := y :: t) hG hp hs1 hg hY1) ?_
  rintro _ _ ⟨how, rfl, C1, rfl, hO⟩
  exact rx_iret rfl dX7_perform_266 ⟨how, rfl, _, rfl, hO⟩
theorem cpf_35 {G : rx_E} {d : Nat} {S : gs_T} {K : Nat → Nat × Nat} {C0 C : rx_M} {g : vg_T} {bs od : Nat} {n : Nat → Int64} {e : List (Nat × Int64 × Int64)} {b m c a q s k : Nat} {v r : Int64} {l o : Bool} {t : List Int64} {w : (Nat → Int64) × Nat × Nat} {fs : List vf_T} {z : Int32} (hG : rx_OK G) {x y : Int64} (hp : fs.length < 10) (hs1 : s < 32) (hk : k < 32) (hs : ∀ f ∈ fs, fS f < 32) (hg : g.2.1 ≤ 16) (ho : g.2.2.1 < 32) (hh : g.2.2.2 < 100) (hq : q ≤ 30000) (hb : b ≤ 30001) (hod : od < 10) (hbs : bs + e.length ≤ 40000) (hY : rc_Y K C0 C g bs od (n, e, b, ((c, a, q, s, k), (v, r), (l, o), (y :: (x :: t)), w) :: fs, m) z) : rx_C G MX7_perform (d + 3) [.ref 4, .ref (13 + 3 * fs.length), .int (nI 35)] (gl C S) 0 0 (rc_out S K C0 g bs od n e b m ((c, a, q, s, k), (v, r), (l, o), (y :: (x :: t)), w) fs (vm_do5 g (n, e, b, ((c, a, q, s, k), (v, r), (l, o), (y :: (x :: t)), w) :: fs, m) 35 ((c, a, q, s, k), (v, r), (l, o), (y :: (x :: t)), w) fs)) := by
  refine rx_meth0 (by decide +kernel) rfl (Nat.le_of_ble_eq_true rfl) ?_
  refine rx_iload_n dX7_perform_0 rfl ?_
  refine rx_tabIn (tgt := 267) dX7_perform_1 (by decide) (by decide) rfl (by decide) ?_
  refine rx_aload_n dX7_perform_267 rfl rfl ?_
  refine rx_aload_n dX7_perform_268 rfl rfl ?_
  refine rx_aload_n dX7_perform_269 rfl rfl ?_
  refine gv_invV (as := []) hG okX6_pop lk_RX7_209 (gkF_f hp) (gkF_k hp) dX7_perform_270 rfl (by simp [Value.category]) (cc_pop hG hY hp) ?_
  rintro _ _ ⟨rfl, _, rfl, hY1⟩
  refine rx_aload_n dX7_perform_273 rfl rfl ?_
  refine gv_invV (as := []) hG okX6_pop lk_RX7_209 (gkF_f hp) (gkF_k hp) dX7_perform_274 rfl (by simp [Value.category]) (cc_pop hG hY1 hp) ?_
  rintro _ _ ⟨rfl, _, rfl, hY2⟩
  refine gv_invV (as := [.ref _, .long _, .long _]) hG okX7_emit lk_RX7_237 rfl rfl dX7_perform_277 rfl (by simp [Value.category]) (cp_emit (t0 := y :: (x :: t)) (t2 := y :: (x :: t)) hG hp hs1 hod hbs hY2) ?_
  rintro _ _ ⟨how, rfl, C1, rfl, hO⟩
  exact rx_iret rfl dX7_perform_280 ⟨how, rfl, _, rfl, hO⟩
theorem cpf_36 {G : rx_E} {d : Nat} {S : gs_T} {K : Nat → Nat × Nat} {C0 C : rx_M} {g : vg_T} {bs od : Nat} {n : Nat → Int64} {e : List (Nat × Int64 × Int64)} {b m c a q s k : Nat} {v r : Int64} {l o : Bool} {t : List Int64} {w : (Nat → Int64) × Nat × Nat} {fs : List vf_T} {z : Int32} (hG : rx_OK G) {y : Int64} (hp : fs.length < 10) (hs1 : s < 32) (hk : k < 32) (hs : ∀ f ∈ fs, fS f < 32) (hg : g.2.1 ≤ 16) (ho : g.2.2.1 < 32) (hh : g.2.2.2 < 100) (hq : q ≤ 30000) (hb : b ≤ 30001) (hod : od < 10) (hbs : bs + e.length ≤ 40000) (hY : rc_Y K C0 C g bs od (n, e, b, ((c, a, q, s, k), (v, r), (l, o), (y :: t), w) :: fs, m) z) : rx_C G MX7_perform (d + 3) [.ref 4, .ref (13 + 3 * fs.length), .int (nI 36)] (gl C S) 0 0 (rc_out S K C0 g bs od n e b m ((c, a, q, s, k), (v, r), (l, o), (y :: t), w) fs (vm_do5 g (n, e, b, ((c, a, q, s, k), (v, r), (l, o), (y :: t), w) :: fs, m) 36 ((c, a, q, s, k), (v, r), (l, o), (y :: t), w) fs)) := by
  refine rx_meth0 (by decide +kernel) rfl (Nat.le_of_ble_eq_true rfl) ?_
  refine rx_iload_n dX7_perform_0 rfl ?_
  refine rx_tabIn (tgt := 281) dX7_perform_1 (by decide) (by decide) rfl (by decide) ?_
  refine rx_aload_n dX7_perform_281 rfl rfl ?_
  refine rx_iconst (v := nI 1) dX7_perform_282 rfl ?_
  refine rx_aload_n dX7_perform_283 rfl rfl ?_
  refine gv_invV (as := []) hG okX6_pop lk_RX7_209 (gkF_f hp) (gkF_k hp) dX7_perform_284 rfl (by simp [Value.category]) (cc_pop hG hY hp) ?_
  rintro _ _ ⟨rfl, _, rfl, hY1⟩
  refine gv_invV (as := [.int _, .long _]) hG okX7_endWith lk_RX7_202 rfl rfl dX7_perform_287 rfl (by simp [Value.category]) (cp_endWith (x := y) hG hY1) ?_
  rintro _ _ ⟨rfl, _, rfl, hY2, hA⟩
  exact rx_iret rfl dX7_perform_290 (rc_outW (Or.inl rfl) rfl (fun _ => rfl) (Nat.le_refl _) hY2 hA)
theorem cpf_37 {G : rx_E} {d : Nat} {S : gs_T} {K : Nat → Nat × Nat} {C0 C : rx_M} {g : vg_T} {bs od : Nat} {n : Nat → Int64} {e : List (Nat × Int64 × Int64)} {b m c a q s k : Nat} {v r : Int64} {l o : Bool} {t : List Int64} {w : (Nat → Int64) × Nat × Nat} {fs : List vf_T} {z : Int32} (hG : rx_OK G) {y : Int64} (hp : fs.length < 10) (hs1 : s < 32) (hk : k < 32) (hs : ∀ f ∈ fs, fS f < 32) (hg : g.2.1 ≤ 16) (ho : g.2.2.1 < 32) (hh : g.2.2.2 < 100) (hq : q ≤ 30000) (hb : b ≤ 30001) (hod : od < 10) (hbs : bs + e.length ≤ 40000) (hY : rc_Y K C0 C g bs od (n, e, b, ((c, a, q, s, k), (v, r), (l, o), (y :: t), w) :: fs, m) z) : rx_C G MX7_perform (d + 3) [.ref 4, .ref (13 + 3 * fs.length), .int (nI 37)] (gl C S) 0 0 (rc_out S K C0 g bs od n e b m ((c, a, q, s, k), (v, r), (l, o), (y :: t), w) fs (vm_do5 g (n, e, b, ((c, a, q, s, k), (v, r), (l, o), (y :: t), w) :: fs, m) 37 ((c, a, q, s, k), (v, r), (l, o), (y :: t), w) fs)) := by
  refine rx_meth0 (by decide +kernel) rfl (Nat.le_of_ble_eq_true rfl) ?_
  refine rx_iload_n dX7_perform_0 rfl ?_
  refine rx_tabIn (tgt := 291) dX7_perform_1 (by decide) (by decide) rfl (by decide) ?_
  refine rx_aload_n dX7_perform_291 rfl rfl ?_
  refine rx_iconst (v := nI 2) dX7_perform_292 rfl ?_
  refine rx_aload_n dX7_perform_293 rfl rfl ?_
  refine gv_invV (as := []) hG okX6_pop lk_RX7_209 (gkF_f hp) (gkF_k hp) dX7_perform_294 rfl (by simp [Value.category]) (cc_pop hG hY hp) ?_
  rintro _ _ ⟨rfl, _, rfl, hY1⟩
  refine gv_invV (as := [.int _, .long _]) hG okX7_endWith lk_RX7_202 rfl rfl dX7_perform_297 rfl (by simp [Value.category]) (cp_endWith (x := y) hG hY1) ?_
  rintro _ _ ⟨rfl, _, rfl, hY2, hA⟩
  exact rx_iret rfl dX7_perform_300 (rc_outW (Or.inr rfl) rfl (fun _ => rfl) (Nat.le_refl _) hY2 hA)
theorem cpf_38 {G : rx_E} {d : Nat} {S : gs_T} {K : Nat → Nat × Nat} {C0 C : rx_M} {g : vg_T} {bs od : Nat} {n : Nat → Int64} {e : List (Nat × Int64 × Int64)} {b m c a q s k : Nat} {v r : Int64} {l o : Bool} {t : List Int64} {w : (Nat → Int64) × Nat × Nat} {fs : List vf_T} {z : Int32} (hG : rx_OK G) {y : Int64} (hl : l = false) (hp : fs.length < 10) (hs1 : s < 32) (hk : k < 32) (hs : ∀ f ∈ fs, fS f < 32) (hg : g.2.1 ≤ 16) (ho : g.2.2.1 < 32) (hh : g.2.2.2 < 100) (hq : q ≤ 30000) (hb : b ≤ 30001) (hod : od < 10) (hbs : bs + e.length ≤ 40000) (hY : rc_Y K C0 C g bs od (n, e, b, ((c, a, q, s, k), (v, r), (l, o), (y :: t), w) :: fs, m) z) : rx_C G MX7_perform (d + 3) [.ref 4, .ref (13 + 3 * fs.length), .int (nI 38)] (gl C S) 0 0 (rc_out S K C0 g bs od n e b m ((c, a, q, s, k), (v, r), (l, o), (y :: t), w) fs (vm_do5 g (n, e, b, ((c, a, q, s, k), (v, r), (l, o), (y :: t), w) :: fs, m) 38 ((c, a, q, s, k), (v, r), (l, o), (y :: t), w) fs)) := by
  refine rx_meth0 (by decide +kernel) rfl (Nat.le_of_ble_eq_true rfl) ?_
  refine rx_iload_n dX7_perform_0 rfl ?_
  refine rx_tabIn (tgt := 301) dX7_perform_1 (by decide) (by decide) rfl (by decide) ?_
  refine rx_aload_n dX7_perform_301 rfl rfl ?_
  refine rx_aload_n dX7_perform_302 rfl rfl ?_
  refine rx_aload_n dX7_perform_303 rfl rfl ?_
  refine gv_invV (as := []) hG okX6_pop lk_RX7_209 (gkF_f hp) (gkF_k hp) dX7_perform_304 rfl (by simp [Value.category]) (cc_pop hG hY hp) ?_
  rintro _ _ ⟨rfl, _, rfl, hY1⟩
  refine gv_invV (as := [.ref _, .long _]) hG okX7_close lk_RX7_240 rfl rfl dX7_perform_307 rfl (by simp [Value.category]) (cp_close (t0 := y :: t) (t2 := y :: t) hG hp hs1 hl hY1) ?_
  rintro _ _ ⟨how, rfl, C1, rfl, hO⟩
  exact rx_iret rfl dX7_perform_310 ⟨how, rfl, _, rfl, hO⟩
theorem cpf_39 {G : rx_E} {d : Nat} {S : gs_T} {K : Nat → Nat × Nat} {C0 C : rx_M} {g : vg_T} {bs od : Nat} {n : Nat → Int64} {e : List (Nat × Int64 × Int64)} {b m c a q s k : Nat} {v r : Int64} {l o : Bool} {t : List Int64} {w : (Nat → Int64) × Nat × Nat} {fs : List vf_T} {z : Int32} (hG : rx_OK G)  (hp : fs.length < 10) (hs1 : s < 32) (hk : k < 32) (hs : ∀ f ∈ fs, fS f < 32) (hg : g.2.1 ≤ 16) (ho : g.2.2.1 < 32) (hh : g.2.2.2 < 100) (hq : q ≤ 30000) (hb : b ≤ 30001) (hod : od < 10) (hbs : bs + e.length ≤ 40000) (hY : rc_Y K C0 C g bs od (n, e, b, ((c, a, q, s, k), (v, r), (l, o), t, w) :: fs, m) z) : rx_C G MX7_perform (d + 3) [.ref 4, .ref (13 + 3 * fs.length), .int (nI 39)] (gl C S) 0 0 (rc_out S K C0 g bs od n e b m ((c, a, q, s, k), (v, r), (l, o), t, w) fs (vm_do5 g (n, e, b, ((c, a, q, s, k), (v, r), (l, o), t, w) :: fs, m) 39 ((c, a, q, s, k), (v, r), (l, o), t, w) fs)) := by
  refine rx_meth0 (by decide +kernel) rfl (Nat.le_of_ble_eq_true rfl) ?_
  refine rx_iload_n dX7_perform_0 rfl ?_
  refine rx_tabIn (tgt := 311) dX7_perform_1 (by decide) (by decide) rfl (by decide) ?_
  refine rx_aload_n dX7_perform_311 rfl rfl ?_
  refine rx_iconst (v := nI 1) dX7_perform_312 rfl ?_
  refine gc_putI hG hf_RX7_163 (gw_nf rfl rfl) rfl dX7_perform_313 (gkF_m hp) (gkF_f hp) (gkF_k hp) rfl rfl ?_
  refine rcY_ab (rcY_setLock hY hp) (fun _ hY1 => ?_)
  refine rx_iconst (v := nI 0) dX7_perform_316 rfl ?_
  exact rx_iret rfl dX7_perform_317 (rc_out0 rfl hY1)
theorem cp_do1 {G : rx_E} {d : Nat} {S : gs_T} {K : Nat → Nat × Nat} {C0 C : rx_M} {g : vg_T} {bs od : Nat} {n : Nat → Int64} {e : List (Nat × Int64 × Int64)} {b m c q s k : Nat} {v r : Int64} {l o : Bool} {t : List Int64} {w : (Nat → Int64) × Nat × Nat} {fs : List vf_T} (hG : rx_OK G) {op mo a0 : Nat} {cd : List Nat} {F0 : vf_T} (hp : fs.length < 10) (hs1 : s < 32) (hk : k < 32) (hs : ∀ f ∈ fs, fS f < 32) (hg : g.2.1 ≤ 16) (ho : g.2.2.1 < 32) (hh : g.2.2.2 < 100) (hq : q ≤ 30000) (hb : b ≤ 30001) (hod : od < 10) (hbs : bs + e.length ≤ 40000) (hcd : g.1 c = cd) (hc : c < g.2.1) (hcl : cd.length ≤ 200) (hoct : ∀ k, k < cd.length → cd.getD k 0 < 256) (ha : a0 < 256) (hmo : (if 1 < vm_size op then cd.getD (a0 + 1) 0 else 0) = mo) (h3 : ¬ (t.length < vm_takes op ∨ 24 < t.length - vm_takes op + vm_gives op ∨ ((op = 4 ∨ op = 5) ∧ t.length ≤ mo) ∨ (l = true ∧ vm_bars op = true))) (hlo : 0 ≤ op) (hhi : op ≤ 5) (hY : rc_Y K C0 C g bs od (n, e, b, ((c, a0 + vm_size op, q, s, k), (v, r), (l, o), t, w) :: fs, m) (nI (a0 + 1))) : rx_C G MX7_perform (d + 3) [.ref 4, .ref (13 + 3 * fs.length), .int (nI op)] (gl C S) 0 0 (rc_out S K C0 g bs od n e b m ((c, a0 + vm_size op, q, s, k), (v, r), (l, o), t, w) fs (vm_do1 cd (n, e, b, F0 :: fs, m) op mo ((c, a0 + vm_size op, q, s, k), (v, r), (l, o), t, w) fs)) := by
  have hT : vm_takes op ≤ t.length := Nat.le_of_not_lt fun h => h3 (Or.inl h)
  have hV : t.length - vm_takes op + vm_gives op ≤ 24 := Nat.le_of_not_lt fun h => h3 (Or.inr (Or.inl h))
  have hc6 : op = 0 ∨ op = 1 ∨ op = 2 ∨ op = 3 ∨ op = 4 ∨ op = 5 := by omega
  rcases hc6 with rfl | rfl | rfl | rfl | rfl | rfl
  · exact cpf_0 hG hp hs1 hk hs hg ho hh hq hb hod hbs hY
  · exact cpf_1 hG hcd hc hcl hoct ha hmo (by simp [vm_takes, vm_gives] at hV; omega) hp hs1 hk hs hg ho hh hq hb hod hbs hY
  · exact cpf_2 hG hcd hc hcl hoct ha (by simp [vm_takes, vm_gives] at hV; omega) hp hs1 hk hs hg ho hh hq hb hod hbs hY
  · obtain ⟨y, t', rfl⟩ := lst1 (t := t) (by simp [vm_takes] at hT; omega)
    exact cpf_3 hG hcd hc hcl hoct ha hp hs1 hk hs hg ho hh hq hb hod hbs hY
  · obtain ⟨j, hj⟩ : ∃ j, t.length = mo + 1 + j := ⟨t.length - mo - 1, by have : ¬ t.length ≤ mo := fun h => h3 (Or.inr (Or.inr (Or.inl ⟨by decide, h⟩))); omega⟩
    exact cpf_4 hG hcd hc hcl hoct ha hmo hj (by simp [vm_takes, vm_gives] at hV; omega) hp hs1 hk hs hg ho hh hq hb hod hbs hY
  · obtain ⟨j, hj⟩ : ∃ j, t.length = mo + 1 + j := ⟨t.length - mo - 1, by have : ¬ t.length ≤ mo := fun h => h3 (Or.inr (Or.inr (Or.inl ⟨by decide, h⟩))); omega⟩
    exact cpf_5 hG hcd hc hcl hoct ha hmo hj hp hs1 hk hs hg ho hh hq hb hod hbs hY
theorem cp_do2 {G : rx_E} {d : Nat} {S : gs_T} {K : Nat → Nat × Nat} {C0 C : rx_M} {g : vg_T} {bs od : Nat} {n : Nat → Int64} {e : List (Nat × Int64 × Int64)} {b m c q s k : Nat} {v r : Int64} {l o : Bool} {t : List Int64} {w : (Nat → Int64) × Nat × Nat} {fs : List vf_T} (hG : rx_OK G) {op mo a0 : Nat} {cd : List Nat} {F0 : vf_T} (hp : fs.length < 10) (hs1 : s < 32) (hk : k < 32) (hs : ∀ f ∈ fs, fS f < 32) (hg : g.2.1 ≤ 16) (ho : g.2.2.1 < 32) (hh : g.2.2.2 < 100) (hq : q ≤ 30000) (hb : b ≤ 30001) (hod : od < 10) (hbs : bs + e.length ≤ 40000) (hcd : g.1 c = cd) (hc : c < g.2.1) (hcl : cd.length ≤ 200) (hoct : ∀ k, k < cd.length → cd.getD k 0 < 256) (ha : a0 < 256) (hmo : (if 1 < vm_size op then cd.getD (a0 + 1) 0 else 0) = mo) (h3 : ¬ (t.length < vm_takes op ∨ 24 < t.length - vm_takes op + vm_gives op ∨ ((op = 4 ∨ op = 5) ∧ t.length ≤ mo) ∨ (l = true ∧ vm_bars op = true))) (hlo : 6 ≤ op) (hhi : op ≤ 18) (hY : rc_Y K C0 C g bs od (n, e, b, ((c, a0 + vm_size op, q, s, k), (v, r), (l, o), t, w) :: fs, m) (nI (a0 + 1))) : rx_C G MX7_perform (d + 3) [.ref 4, .ref (13 + 3 * fs.length), .int (nI op)] (gl C S) 0 0 (rc_out S K C0 g bs od n e b m ((c, a0 + vm_size op, q, s, k), (v, r), (l, o), t, w) fs (vm_do2 (n, e, b, F0 :: fs, m) op ((c, a0 + vm_size op, q, s, k), (v, r), (l, o), t, w) fs)) := by
  have hT : vm_takes op ≤ t.length := Nat.le_of_not_lt fun h => h3 (Or.inl h)
  have hV : t.length - vm_takes op + vm_gives op ≤ 24 := Nat.le_of_not_lt fun h => h3 (Or.inr (Or.inl h))
  have hc6 : op = 6 ∨ op = 7 ∨ op = 8 ∨ op = 9 ∨ op = 10 ∨ op = 11 ∨ op = 12 ∨ op = 13 ∨ op = 14 ∨ op = 15 ∨ op = 16 ∨ op = 17 ∨ op = 18 := by omega
  rcases hc6 with rfl | rfl | rfl | rfl | rfl | rfl | rfl | rfl | rfl | rfl | rfl | rfl | rfl
  · obtain ⟨y, x, t', rfl⟩ := lst2 (t := t) (by simp [vm_takes] at hT; omega)
    exact cpf_6 hG hp hs1 hk hs hg ho hh hq hb hod hbs hY
  · obtain ⟨y, x, t', rfl⟩ := lst2 (t := t) (by simp [vm_takes] at hT; omega)
    exact cpf_7 hG hp hs1 hk hs hg ho hh hq hb hod hbs hY
  · obtain ⟨y, x, t', rfl⟩ := lst2 (t := t) (by simp [vm_takes] at hT; omega)
    exact cpf_8 hG hp hs1 hk hs hg ho hh hq hb hod hbs hY
  · obtain ⟨y, x, t', rfl⟩ := lst2 (t := t) (by simp [vm_takes] at hT; omega)
    by_cases hy : y = 0
    · exact cpf_9z hG hy hp hs1 hk hs hg ho hh hq hb hod hbs hY
    · exact cpf_9 hG hy hp hs1 hk hs hg ho hh hq hb hod hbs hY
  · obtain ⟨y, x, t', rfl⟩ := lst2 (t := t) (by simp [vm_takes] at hT; omega)
    by_cases hy : y = 0
    · exact cpf_10z hG hy hp hs1 hk hs hg ho hh hq hb hod hbs hY
    · exact cpf_10 hG hy hp hs1 hk hs hg ho hh hq hb hod hbs hY
  · obtain ⟨y, x, t', rfl⟩ := lst2 (t := t) (by simp [vm_takes] at hT; omega)
    exact cpf_11 hG hp hs1 hk hs hg ho hh hq hb hod hbs hY
  · obtain ⟨y, x, t', rfl⟩ := lst2 (t := t) (by simp [vm_takes] at hT; omega)
    exact cpf_12 hG hp hs1 hk hs hg ho hh hq hb hod hbs hY
  · obtain ⟨y, x, t', rfl⟩ := lst2 (t := t) (by simp [vm_takes] at hT; omega)
    exact cpf_13 hG hp hs1 hk hs hg ho hh hq hb hod hbs hY
  · obtain ⟨y, x, t', rfl⟩ := lst2 (t := t) (by simp [vm_takes] at hT; omega)
    exact cpf_14 hG hp hs1 hk hs hg ho hh hq hb hod hbs hY
  · obtain ⟨y, x, t', rfl⟩ := lst2 (t := t) (by simp [vm_takes] at hT; omega)
    exact cpf_15 hG hp hs1 hk hs hg ho hh hq hb hod hbs hY
  · obtain ⟨y, x, t', rfl⟩ := lst2 (t := t) (by simp [vm_takes] at hT; omega)
    exact cpf_16 hG hp hs1 hk hs hg ho hh hq hb hod hbs hY
  · obtain ⟨y, x, t', rfl⟩ := lst2 (t := t) (by simp [vm_takes] at hT; omega)
    exact cpf_17 hG hp hs1 hk hs hg ho hh hq hb hod hbs hY
  · obtain ⟨y, t', rfl⟩ := lst1 (t := t) (by simp [vm_takes] at hT; omega)
    exact cpf_18 hG hp hs1 hk hs hg ho hh hq hb hod hbs hY
theorem cp_do3 {G : rx_E} {d : Nat} {S : gs_T} {K : Nat → Nat × Nat} {C0 C : rx_M} {g : vg_T} {bs od : Nat} {n : Nat → Int64} {e : List (Nat × Int64 × Int64)} {b m c q s k : Nat} {v r : Int64} {l o : Bool} {t : List Int64} {w : (Nat → Int64) × Nat × Nat} {fs : List vf_T} (hG : rx_OK G) {op mo a0 : Nat} {cd : List Nat} {F0 : vf_T} (hp : fs.length < 10) (hs1 : s < 32) (hk : k < 32) (hs : ∀ f ∈ fs, fS f < 32) (hg : g.2.1 ≤ 16) (ho : g.2.2.1 < 32) (hh : g.2.2.2 < 100) (hq : q ≤ 30000) (hb : b ≤ 30001) (hod : od < 10) (hbs : bs + e.length ≤ 40000) (hcd : g.1 c = cd) (hc : c < g.2.1) (hcl : cd.length ≤ 200) (hoct : ∀ k, k < cd.length → cd.getD k 0 < 256) (ha : a0 < 256) (hmo : (if 1 < vm_size op then cd.getD (a0 + 1) 0 else 0) = mo) (h3 : ¬ (t.length < vm_takes op ∨ 24 < t.length - vm_takes op + vm_gives op ∨ ((op = 4 ∨ op = 5) ∧ t.length ≤ mo) ∨ (l = true ∧ vm_bars op = true))) (hlo : 19 ≤ op) (hhi : op ≤ 22) (hY : rc_Y K C0 C g bs od (n, e, b, ((c, a0 + vm_size op, q, s, k), (v, r), (l, o), t, w) :: fs, m) (nI (a0 + 1))) : rx_C G MX7_perform (d + 3) [.ref 4, .ref (13 + 3 * fs.length), .int (nI op)] (gl C S) 0 0 (rc_out S K C0 g bs od n e b m ((c, a0 + vm_size op, q, s, k), (v, r), (l, o), t, w) fs (vm_do3 (n, e, b, F0 :: fs, m) op mo ((c, a0 + vm_size op, q, s, k), (v, r), (l, o), t, w) fs)) := by
  have hT : vm_takes op ≤ t.length := Nat.le_of_not_lt fun h => h3 (Or.inl h)
  have hV : t.length - vm_takes op + vm_gives op ≤ 24 := Nat.le_of_not_lt fun h => h3 (Or.inr (Or.inl h))
  have hc6 : op = 19 ∨ op = 20 ∨ op = 21 ∨ op = 22 := by omega
  rcases hc6 with rfl | rfl | rfl | rfl
  · exact cpf_19 hG hcd hc hcl hoct ha hmo hp hs1 hk hs hg ho hh hq hb hod hbs hY
  · obtain ⟨y, t', rfl⟩ := lst1 (t := t) (by simp [vm_takes] at hT; omega)
    exact cpf_20 hG hcd hc hcl hoct ha hmo hp hs1 hk hs hg ho hh hq hb hod hbs hY
  · obtain ⟨y, t', rfl⟩ := lst1 (t := t) (by simp [vm_takes] at hT; omega)
    exact cpf_21 hG (by simp [vm_takes, vm_gives] at hV; omega) hp hs1 hk hs hg ho hh hq hb hod hbs hY
  · obtain ⟨y, x, t', rfl⟩ := lst2 (t := t) (by simp [vm_takes] at hT; omega)
    exact cpf_22 hG hp hs1 hk hs hg ho hh hq hb hod hbs hY
theorem cp_do4 {G : rx_E} {d : Nat} {S : gs_T} {K : Nat → Nat × Nat} {C0 C : rx_M} {g : vg_T} {bs od : Nat} {n : Nat → Int64} {e : List (Nat × Int64 × Int64)} {b m c q s k : Nat} {v r : Int64} {l o : Bool} {t : List Int64} {w : (Nat → Int64) × Nat × Nat} {fs : List vf_T} (hG : rx_OK G) {op mo a0 : Nat} {cd : List Nat} {F0 : vf_T} (hp : fs.length < 10) (hs1 : s < 32) (hk : k < 32) (hs : ∀ f ∈ fs, fS f < 32) (hg : g.2.1 ≤ 16) (ho : g.2.2.1 < 32) (hh : g.2.2.2 < 100) (hq : q ≤ 30000) (hb : b ≤ 30001) (hod : od < 10) (hbs : bs + e.length ≤ 40000) (hcd : g.1 c = cd) (hc : c < g.2.1) (hcl : cd.length ≤ 200) (hoct : ∀ k, k < cd.length → cd.getD k 0 < 256) (ha : a0 < 256) (hmo : (if 1 < vm_size op then cd.getD (a0 + 1) 0 else 0) = mo) (h3 : ¬ (t.length < vm_takes op ∨ 24 < t.length - vm_takes op + vm_gives op ∨ ((op = 4 ∨ op = 5) ∧ t.length ≤ mo) ∨ (l = true ∧ vm_bars op = true))) (hlo : 23 ≤ op) (hhi : op ≤ 30) (hY : rc_Y K C0 C g bs od (n, e, b, ((c, a0 + vm_size op, q, s, k), (v, r), (l, o), t, w) :: fs, m) (nI (a0 + 1))) : rx_C G MX7_perform (d + 3) [.ref 4, .ref (13 + 3 * fs.length), .int (nI op)] (gl C S) 0 0 (rc_out S K C0 g bs od n e b m ((c, a0 + vm_size op, q, s, k), (v, r), (l, o), t, w) fs (vm_do4 g (n, e, b, F0 :: fs, m) op ((c, a0 + vm_size op, q, s, k), (v, r), (l, o), t, w) fs)) := by
  have hT : vm_takes op ≤ t.length := Nat.le_of_not_lt fun h => h3 (Or.inl h)
  have hV : t.length - vm_takes op + vm_gives op ≤ 24 := Nat.le_of_not_lt fun h => h3 (Or.inr (Or.inl h))
  have hc6 : op = 23 ∨ op = 24 ∨ op = 25 ∨ op = 26 ∨ op = 27 ∨ op = 28 ∨ op = 29 ∨ op = 30 := by omega
  rcases hc6 with rfl | rfl | rfl | rfl | rfl | rfl | rfl | rfl
  · exact cpf_23 hG (by simp [vm_takes, vm_gives] at hV; omega) hp hs1 hk hs hg ho hh hq hb hod hbs hY
  · exact cpf_24 hG (by simp [vm_takes, vm_gives] at hV; omega) hp hs1 hk hs hg ho hh hq hb hod hbs hY
  · exact cpf_25 hG (by simp [vm_takes, vm_gives] at hV; omega) hp hs1 hk hs hg ho hh hq hb hod hbs hY
  · exact cpf_26 hG (by simp [vm_takes, vm_gives] at hV; omega) hp hs1 hk hs hg ho hh hq hb hod hbs hY
  · exact cpf_27 hG (by simp [vm_takes, vm_gives] at hV; omega) hp hs1 hk hs hg ho hh hq hb hod hbs hY
  · exact cpf_28 hG (by simp [vm_takes, vm_gives] at hV; omega) hp hs1 hk hs hg ho hh hq hb hod hbs hY
  · exact cpf_29 hG (by simp [vm_takes, vm_gives] at hV; omega) hp hs1 hk hs hg ho hh hq hb hod hbs hY
  · obtain ⟨y, t', rfl⟩ := lst1 (t := t) (by simp [vm_takes] at hT; omega)
    exact cpf_30 hG (by simp [vm_takes, vm_gives] at hV; omega) hp hs1 hk hs hg ho hh hq hb hod hbs hY
theorem cp_do5 {G : rx_E} {d : Nat} {S : gs_T} {K : Nat → Nat × Nat} {C0 C : rx_M} {g : vg_T} {bs od : Nat} {n : Nat → Int64} {e : List (Nat × Int64 × Int64)} {b m c q s k : Nat} {v r : Int64} {l o : Bool} {t : List Int64} {w : (Nat → Int64) × Nat × Nat} {fs : List vf_T} (hG : rx_OK G) {op mo a0 : Nat} {cd : List Nat} {F0 : vf_T} (hp : fs.length < 10) (hs1 : s < 32) (hk : k < 32) (hs : ∀ f ∈ fs, fS f < 32) (hg : g.2.1 ≤ 16) (ho : g.2.2.1 < 32) (hh : g.2.2.2 < 100) (hq : q ≤ 30000) (hb : b ≤ 30001) (hod : od < 10) (hbs : bs + e.length ≤ 40000) (hcd : g.1 c = cd) (hc : c < g.2.1) (hcl : cd.length ≤ 200) (hoct : ∀ k, k < cd.length → cd.getD k 0 < 256) (ha : a0 < 256) (hmo : (if 1 < vm_size op then cd.getD (a0 + 1) 0 else 0) = mo) (h3 : ¬ (t.length < vm_takes op ∨ 24 < t.length - vm_takes op + vm_gives op ∨ ((op = 4 ∨ op = 5) ∧ t.length ≤ mo) ∨ (l = true ∧ vm_bars op = true))) (hlo : 31 ≤ op) (hhi : op ≤ 39) (hY : rc_Y K C0 C g bs od (n, e, b, ((c, a0 + vm_size op, q, s, k), (v, r), (l, o), t, w) :: fs, m) (nI (a0 + 1))) : rx_C G MX7_perform (d + 3) [.ref 4, .ref (13 + 3 * fs.length), .int (nI op)] (gl C S) 0 0 (rc_out S K C0 g bs od n e b m ((c, a0 + vm_size op, q, s, k), (v, r), (l, o), t, w) fs (vm_do5 g (n, e, b, F0 :: fs, m) op ((c, a0 + vm_size op, q, s, k), (v, r), (l, o), t, w) fs)) := by
  have hT : vm_takes op ≤ t.length := Nat.le_of_not_lt fun h => h3 (Or.inl h)
  have hV : t.length - vm_takes op + vm_gives op ≤ 24 := Nat.le_of_not_lt fun h => h3 (Or.inr (Or.inl h))
  have hc6 : op = 31 ∨ op = 32 ∨ op = 33 ∨ op = 34 ∨ op = 35 ∨ op = 36 ∨ op = 37 ∨ op = 38 ∨ op = 39 := by omega
  rcases hc6 with rfl | rfl | rfl | rfl | rfl | rfl | rfl | rfl | rfl
  · obtain ⟨y, x, z', u, t', rfl⟩ := lst4 (t := t) (by simp [vm_takes] at hT; omega)
    exact cpf_31 hG (by have := rc_n hY; simp at this; omega) hp hs1 hk hs hg ho hh hq hb hod hbs hY
  · obtain ⟨y, x, z', t', rfl⟩ := lst3 (t := t) (by simp [vm_takes] at hT; omega)
    exact cpf_32 hG (by have := rc_n hY; simp at this; omega) hp hs1 hk hs hg ho hh hq hb hod hbs hY
  · obtain ⟨y, x, t', rfl⟩ := lst2 (t := t) (by simp [vm_takes] at hT; omega)
    exact cpf_33 hG (by simp [vm_takes, vm_gives] at hV; omega) hp hs1 hk hs hg ho hh hq hb hod hbs hY
  · obtain ⟨y, t', rfl⟩ := lst1 (t := t) (by simp [vm_takes] at hT; omega)
    exact cpf_34 hG hp hs1 hk hs hg ho hh hq hb hod hbs hY
  · obtain ⟨y, x, t', rfl⟩ := lst2 (t := t) (by simp [vm_takes] at hT; omega)
    exact cpf_35 hG hp hs1 hk hs hg ho hh hq hb hod hbs hY
  · obtain ⟨y, t', rfl⟩ := lst1 (t := t) (by simp [vm_takes] at hT; omega)
    exact cpf_36 hG hp hs1 hk hs hg ho hh hq hb hod hbs hY
  · obtain ⟨y, t', rfl⟩ := lst1 (t := t) (by simp [vm_takes] at hT; omega)
    exact cpf_37 hG hp hs1 hk hs hg ho hh hq hb hod hbs hY
  · obtain ⟨y, t', rfl⟩ := lst1 (t := t) (by simp [vm_takes] at hT; omega)
    have hl : l = false := by cases l with | false => rfl | true => exact absurd (Or.inr (Or.inr (Or.inr ⟨rfl, by decide⟩))) h3
    exact cpf_38 hG hl hp hs1 hk hs hg ho hh hq hb hod hbs hY
  · exact cpf_39 hG hp hs1 hk hs hg ho hh hq hb hod hbs hY

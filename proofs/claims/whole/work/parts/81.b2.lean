/-- the class's cells while an order is done: since C0 the leaves, the events' count, the order, the receipts' row rc may differ -/
def oB (K : Nat → Nat × Nat) (C0 C : rx_M) (cs : Nat → List Nat) (N h bs od : Nat) (n : Nat → Int64) (oa rc on : Nat) (q : wO) : Prop :=
  rc_agE (fun a => a = 9 ∨ a = rc) (fun _ => False) C0 C ∧ rc_P K C (cs, N, 0, h) bs od n ∧ cO1 C oa q ∧ (rk C rc 14 (3 * on) ∧ 102 ≤ rc)
section OB
variable {K : Nat → Nat × Nat} {C0 C C' : rx_M} {cs : Nat → List Nat} {N h bs od oa rc on : Nat} {n n' : Nat → Int64} {q : wO}
theorem oB_leaf {j : Nat} {x : Int64} (hb : oB K C0 C cs N h bs od n oa rc on q) (hn : ∀ k, lf n' k = if k = j then x else lf n k) : oB K C0 (C.1, rx_u C.2.1 8 j x, C.2.2) cs N h bs od n' oa rc on q := by
  obtain ⟨h1, ⟨⟨p1, p2, p3⟩, p4, p5, p6⟩, ⟨o1, o2, o3, o4⟩, h4, h5⟩ := hb
  refine ⟨⟨fun a hE ha hn => ⟨(h1.1 a hE ha hn).1, (rx_une _ (by omega)).trans (h1.1 a hE ha hn).2⟩, h1.2⟩, ⟨⟨p1, p2, p3⟩, fun k hk => ?_, p5, p6⟩, ⟨o1, o2, ?_, o4⟩, h4, h5⟩
  · show rx_u C.2.1 8 j x 8 k = lf n' k
    rw [rx_ru, if_pos rfl, hn k]
    split
    · rfl
    · exact p4 k hk
  · show C.1 oa 0 = _ ∧ C.1 oa 1 = _ ∧ rx_u C.2.1 8 j x oa 2 = _ ∧ rx_u C.2.1 8 j x oa 3 = _
    rw [rx_une _ (by omega)]; exact o3
theorem oB_od {x : Nat} (hb : oB K C0 C cs N h bs od n oa rc on q) : oB K C0 (rx_u C.1 9 2 (nI x), C.2) cs N h bs x n oa rc on q := by
  obtain ⟨h1, ⟨⟨p1, p2, p3⟩, p4, p5, p6⟩, ⟨o1, o2, o3, o4⟩, h4, h5⟩ := hb
  refine ⟨⟨fun a hE ha hn => ⟨(rx_une _ (fun e => hE (Or.inl e))).trans (h1.1 a hE ha hn).1, (h1.1 a hE ha hn).2⟩, h1.2⟩, ⟨⟨fun c hc => ⟨(p1 c hc).1, ?_⟩, ?_, ?_⟩, p4, ?_, ?_⟩, ⟨o1, o2, ?_, ?_⟩, h4, h5⟩
  · exact rc_K_congr (C := C) (p1 c hc).2 (fun a ha => rx_une _ (by omega)) (fun _ _ => rfl) rfl
  · simpa [rx_ru] using p2
  · simpa [rx_ru] using p3
  · simpa [rx_ru] using p5
  · simp [rx_ru]
  · show rx_u C.1 9 2 _ oa 0 = _ ∧ rx_u C.1 9 2 _ oa 1 = _ ∧ _ ∧ _
    rw [rx_une _ (by omega)]; exact o3
  · show rx_u C.1 9 2 _ oa 4 = _ ∧ rx_u C.1 9 2 _ oa 5 = _ ∧ rx_u C.1 9 2 _ oa 6 = _
    rw [rx_une _ (by omega)]; exact o4
theorem oB_run {X : vx_S} {o : Nat} {z : Int32} (hb : oB K C0 C cs N h bs od n oa rc on q) (hf : X.2.2.2.1 = []) (hY : rc_Y K C C' (cs, N, o, h) bs od X z) : oB K C0 C' cs N h (bs + X.2.1.length) od X.1 oa rc on q := by
  obtain ⟨h1, h2, h3, h4, h5⟩ := hb
  obtain ⟨⟨⟨g1, g2, g3, g4⟩, y2, ⟨y3, y4, y5⟩, y6, y7, y8⟩, ⟨r1, r2, r3, r4⟩, -⟩ := hY
  have hg : rc_agE (fun a => a = 9) (fun _ => False) C C' := ⟨fun a hE ha hn => by
    have hE : ¬ a = 9 := hE
    exact r1 a (by omega), fun a _ ha hn => r2 a (by omega), fun a ha hn => by rw [r3], by rw [r3]; exact Nat.le_refl _⟩
  have hn0 := h1.2.2.2
  refine ⟨⟨fun a hE ha hn => ?_, fun a hF ha hn => ?_, fun a ha hn => ?_, by rw [r3]; exact hn0⟩, ⟨⟨g1, g2, g4⟩, y2, y3, y4⟩, cO1_agE h3 hg (fun a ha => by show ¬ a = 9; omega), rk_agE h4 hg, h5⟩
  · have e := hg.1 a (fun e => hE (Or.inl e)) ha (by omega)
    exact ⟨e.1.trans (h1.1 a hE ha hn).1, e.2.trans (h1.1 a hE ha hn).2⟩
  · exact (hg.2.1 a (noF a) ha (by omega)).trans (h1.2.1 a hF ha hn)
  · exact (hg.2.2.1 a ha (by omega)).trans (h1.2.2.1 a ha hn)
end OB
theorem oB_ab {G : rx_E} {M : rx_Me} {d pc mc ms : Nat} {lv : List (Nat × Value)} {st : List Value} {C : rx_M} {S : gs_T} {Q : Option Value → rx_M → Prop} {Z : String → rx_M → Prop} {P : rx_M → Prop} (h : P C) (k : ∀ C', P C' → rx_W G M d pc lv st (gl C' S) mc ms Q Z) : rx_W G M d pc lv st (gl C S) mc ms Q Z := k C h
theorem u8_10 {f : Nat → Nat → Int64} {i : Nat} {x : Int64} : rx_u f 8 i x 10 = f 10 := rx_une _ (by decide)
theorem lf_u1 {n : Nat → Int64} {a : Nat} (x : Int64) (k : Nat) : lf (up1 n (19 * a + 1) x) k = if k = 32 * a + 1 then x else lf n k := lf_up0 (i := 1) (by decide) x k
/-- the events' rows and the receipts' as they were -/
def oK (C0 C : rx_M) (bs rc : Nat) : Prop := (∀ j, j < 4 * bs → C.2.1 10 j = C0.2.1 10 j) ∧ C.2.1 rc = C0.2.1 rc
theorem oK_leaf {C0 C : rx_M} {bs rc j : Nat} {x : Int64} (h : oK C0 C bs rc) (hrc : 102 ≤ rc) : oK C0 (C.1, rx_u C.2.1 8 j x, C.2.2) bs rc := by
  refine ⟨fun i hi => ?_, ?_⟩
  · show rx_u C.2.1 8 j x 10 i = _
    rw [u8_10]; exact h.1 i hi
  · show rx_u C.2.1 8 j x rc = _
    rw [rx_une _ (by omega)]; exact h.2
theorem rcE_leaf {C : rx_M} {bs od j : Nat} {x : Int64} {e : List (Nat × Int64 × Int64)} (h : rc_E C bs od e) : rc_E (C.1, rx_u C.2.1 8 j x, C.2.2) bs od e := rc_E_congr (C := C) (fun i _ => by show rx_u C.2.1 8 j x 10 i = _; rw [u8_10]) h
theorem o_usedE {g u bk : Nat} : (nI g - nI u) - (if (nI g - nI u) / nI 5 < nI bk then (nI g - nI u) / nI 5 else nI bk) = o_used g u bk := by
  unfold o_used
  congr 1
  by_cases a : (nI g - nI u) / nI 5 < nI bk
  · rw [if_pos a, if_neg (fun b => by rw [Int32.lt_iff_toInt_lt] at a b; omega)]
  · rw [if_neg a]
    by_cases b : nI bk < (nI g - nI u) / nI 5
    · rw [if_pos b]
    · rw [if_neg b]
      apply Int32.toInt_inj.mp
      rw [Int32.lt_iff_toInt_lt] at a b
      omega
theorem rx_u3 {α : Type} {f : Nat → Nat → α} {a rc i j k : Nat} {x y z : α} (h : a ≠ rc) : rx_u (rx_u (rx_u f rc i x) rc j y) rc k z a = f a := by rw [rx_une _ h, rx_une _ h, rx_une _ h]
theorem oB_rc {K : Nat → Nat × Nat} {C0 C C' : rx_M} {cs : Nat → List Nat} {N h bs od oa rc on i j k : Nat} {n : Nat → Int64} {q : wO} {x y z : Int64} (hb : oB K C0 C cs N h bs od n oa rc on q) (hC : C' = (C.1, rx_u (rx_u (rx_u C.2.1 rc i x) rc j y) rc k z, C.2.2)) : rc_agE (fun a => a = 9 ∨ a = rc) (fun _ => False) C0 C' ∧ rc_P K C' (cs, N, 0, h) bs od n := by
  subst hC
  obtain ⟨h1, ⟨⟨p1, p2, p3⟩, p4, p5, p6⟩, -, h4, h5⟩ := hb
  refine ⟨⟨fun a hE ha hn => ⟨(h1.1 a hE ha hn).1, (rx_u3 (fun e => hE (Or.inr e))).trans (h1.1 a hE ha hn).2⟩, h1.2⟩, ⟨⟨p1, p2, p3⟩, fun k hk => (congrFun (rx_u3 (by omega)) k).trans (p4 k hk), p5, p6⟩⟩
theorem rc_rcp {f f0 : Nat → Nat → Int64} {rc i : Nat} {x y z : Int64} (h : f rc = f0 rc) : ∀ j, rx_u (rx_u (rx_u f rc (3 * i) x) rc (3 * i + 1) y) rc (3 * i + 2) z rc j = if j = 3 * i then x else if j = 3 * i + 1 then y else if j = 3 * i + 2 then z else f0 rc j := by
  intro j
  rw [rx_ru, if_pos rfl, rx_ru, if_pos rfl, rx_ru, if_pos rfl, ← h]
  by_cases a : j = 3 * i
  · rw [if_pos a, if_neg (by omega), if_neg (by omega), if_pos a]
  · rw [if_neg a, if_neg a]
    by_cases b : j = 3 * i + 1
    · rw [if_pos b, if_neg (by omega), if_pos b]
    · rw [if_neg b, if_neg b]
set_option maxHeartbeats 2000000 in
theorem cf_doOrder {G : rx_E} {d : Nat} {C : rx_M} {S : gs_T} (hG : rx_OK G) {K : Nat → Nat × Nat} {cs : Nat → List Nat} {N h bs od i mk oa rc on : Nat} {n : Nat → Int64} {q : wO} {left : Int32} (hi10 : i < 10) (hon : i < on) (hon2 : on ≤ 10) (hmk : mk < 32) (hbs : bs ≤ 30000) (hr : C.2.2.1 43 i = some oa) (hO : cO1 C oa q) (hf : q.1.1 < 32) (hto : q.1.2.1 < 32) (hgs : q.2.1 ≤ 30000) (hps : q.2.2.1 ≤ 1000000) (hP : rc_P K C (cs, N, 0, h) bs od n) (hrk : rk C rc 14 (3 * on)) (hrc2 : 102 ≤ rc) (hvg : vw_G (cs, N, q.1.1, h)) (hvc : ∀ n, vw_codes (cs, N, q.1.1, h) n → vw_codes (cs, N, q.1.1, h) (o_n1 n q)) (hcd : vw_codes (cs, N, q.1.1, h) n) {Q : Option Value → rx_M → Prop} (hK0 : o_void n q left → Q (some (.int (nI 0))) (gl C S)) (hK : ∀ C' X' how x u, o_run cs N h n q = (X', some (how, x, u)) → vw_E (cs, N, q.1.1, h) X' how u → ¬ o_void n q left → rc_agE (fun a => a = 9 ∨ a = rc) (fun _ => False) C C' → rc_P K C' (cs, N, 0, h) (bs + X'.2.1.length) i (o_n5 X'.1 q mk (o_used q.2.1 u X'.2.2.1)) → (∀ j, j < 4 * bs → C'.2.1 10 j = C.2.1 10 j) → rc_E C' bs i X'.2.1 → (∀ j, C'.2.1 rc j = if j = 3 * i then lN how else if j = 3 * i + 1 then (o_used q.2.1 u X'.2.2.1).toInt64 else if j = 3 * i + 2 then x else C.2.1 rc j) → Q (some (.int (o_used q.2.1 u X'.2.2.1))) (gl C' S)) : rx_C G MX10_doOrder (d + 5) [.ref 0, .int (nI i), .int (nI mk), .int left, .ref rc] (gl C S) 0 0 Q := by
  refine rx_meth0 (by decide +kernel) rfl (Nat.le_of_ble_eq_true rfl) ?_
  have hlv := hP.2.1
  have hrc : (10 : Nat) ≠ rc := by omega
  have hB0 : oB K C C cs N h bs od n oa rc on q := ⟨⟨fun _ _ _ _ => ⟨rfl, rfl⟩, fun _ _ _ _ => rfl, fun _ _ _ => rfl, Nat.le_refl _⟩, hP, hO, hrk, hrc2⟩
  refine rx_aload_n dX10_doOrder_0 rfl rfl ?_
  refine g_getR hG hf_RX10_25 rfl dX10_doOrder_1 rfl rfl rfl ?_
  refine rx_iload_n dX10_doOrder_4 rfl ?_
  refine gd_aald hG dX10_doOrder_5 rfl rfl (by decide) rfl (show i < 10 by omega) (by decide) (gk43 (by omega)) hr ?_
  refine rx_astore dX10_doOrder_6 (by decide) rfl ?_
  refine rx_aload_n dX10_doOrder_8 rfl rfl ?_
  refine rx_aload dX10_doOrder_9 rfl rfl ?_
  refine rx_iload_n dX10_doOrder_11 rfl ?_
  refine gv_invV (as := [.ref _, .int _]) hG okX10_isVoid lk_RX10_266 rfl rfl dX10_doOrder_12 rfl (by simp [Value.category]) (cf_void hG hO hf hgs hps hlv) ?_
  rintro _ _ ⟨⟨r, hr2, rfl⟩, rfl⟩
  rcases hr2 with ⟨rfl, hvo⟩ | ⟨rfl, hvo⟩
  · refine rx_if_eq (tgt := 20) dX10_doOrder_15 (by decide) (fun h15 => (absurd h15 (by decide))) (fun h15 => ?_)
    refine rx_iconst (v := nI 0) dX10_doOrder_18 rfl ?_
    exact rx_iret rfl dX10_doOrder_19 (hK0 hvo)
  have h25 : 25 ≤ q.2.1 := Nat.le_of_not_lt fun e => hvo (Or.inr (Or.inl e))
  refine rx_if_eq (tgt := 20) dX10_doOrder_15 (by decide) (fun h15 => ?_) (fun h15 => (absurd h15 (by decide))) 
  refine rx_aload_n dX10_doOrder_20 rfl rfl ?_
  refine g_getR hG hf_RX10_19 rfl dX10_doOrder_21 rfl rfl rfl ?_
  refine g_getR hG hf_RX10_168 rfl dX10_doOrder_24 rfl rfl rfl ?_
  refine rx_astore dX10_doOrder_27 (by decide) rfl ?_
  refine rx_aload dX10_doOrder_29 rfl rfl ?_
  refine rx_aload dX10_doOrder_31 rfl rfl ?_
  refine gy_getI (v := nI q.1.1) hG hf_RX10_270 rfl dX10_doOrder_33 hO.1 hO.2.2.1.1 ?_
  refine gv_invV (as := [.int _]) hG okX9_raiseNonce lk_RX10_273 rfl rfl dX10_doOrder_36 rfl (by simp [Value.category]) (cs_raiseX hG hf) ?_
  rintro _ _ ⟨rfl, rfl⟩
  have e1 : C.2.1 8 (32 * q.1.1 + 1) + 1 = n (19 * q.1.1 + 1) + 1 := by rw [hlv _ (by omega), lf_bal (by decide)]
  rw [e1]
  refine oB_ab (P := fun C' => oB K C C' cs N h bs od (up1 n (19 * q.1.1 + 1) (n (19 * q.1.1 + 1) + 1)) oa rc on q ∧ oK C C' bs rc) ⟨oB_leaf hB0 (lf_u1 _), oK_leaf ⟨fun _ _ => rfl, rfl⟩ hrc2⟩ (fun C1 hB1 => ?_)
  refine rx_aload dX10_doOrder_39 rfl rfl ?_
  refine rx_aload dX10_doOrder_41 rfl rfl ?_
  refine gy_getI (v := nI q.1.1) hG hf_RX10_270 rfl dX10_doOrder_43 hB1.1.2.2.1.1 hB1.1.2.2.1.2.2.1.1 ?_
  refine rx_aload dX10_doOrder_46 rfl rfl ?_
  refine rx_aload dX10_doOrder_48 rfl rfl ?_
  refine gy_getI (v := nI q.2.1) hG hf_RX10_277 rfl dX10_doOrder_50 hB1.1.2.2.1.1 hB1.1.2.2.1.2.2.2.1 ?_
  refine rx_invV0 (as := [.int _]) hG okX8_priceOf lk_RX10_280 (rk_n hB1.1.2.2.1.1) (congrArg Prod.fst (rk_k hB1.1.2.2.1.1)) dX10_doOrder_53 rfl (by simp [Value.category]) (cf_price hG hB1.1.2.2.1.1 hB1.1.2.2.1.2.2.2.2.1 (by omega)) ?_
  rintro _ _ ⟨rfl, rfl⟩
  refine rx_lneg dX10_doOrder_56 ?_
  refine gv_invV (as := [.int _, .long _]) hG okX9_addToBalance lk_RX10_284 rfl rfl dX10_doOrder_57 rfl (by simp [Value.category]) (cs_addE hG hf) ?_
  rintro _ _ ⟨rfl, rfl⟩
  have e2 : C1.2.1 8 (32 * q.1.1) + -((nI q.2.1).toInt64 * lN q.2.2.1) = (up1 n (19 * q.1.1 + 1) (n (19 * q.1.1 + 1) + 1)) (19 * q.1.1) - o_pays q := by rw [hB1.1.2.1.2.1 _ (by omega), lf_b0, Int64.sub_eq_add_neg, nI_l (by omega)]; rfl
  rw [e2]
  refine oB_ab (P := fun C' => oB K C C' cs N h bs od (o_n1 n q) oa rc on q ∧ oK C C' bs rc) ⟨oB_leaf hB1.1 (lf_u0 _), oK_leaf hB1.2 hrc2⟩ (fun C2 hB2 => ?_)
  refine rx_aload_n dX10_doOrder_60 rfl rfl ?_
  refine g_getR hG hf_RX10_19 rfl dX10_doOrder_61 rfl rfl rfl ?_
  refine g_getR hG hf_RX10_178 rfl dX10_doOrder_64 rfl rfl rfl ?_
  refine rx_iload_n dX10_doOrder_67 rfl ?_
  refine gv_invV (as := [.int _]) hG okX5_beginOrder lk_RX10_288 rfl rfl dX10_doOrder_68 rfl (by simp [Value.category]) (cs_beginX hG) ?_
  rintro _ _ ⟨rfl, rfl⟩
  refine oB_ab (P := fun C' => oB K C C' cs N h bs i (o_n1 n q) oa rc on q ∧ oK C C' bs rc) ⟨oB_od hB2.1, hB2.2⟩ (fun C3 hB3 => ?_)
  refine rx_aload_n dX10_doOrder_71 rfl rfl ?_
  refine g_getR hG hf_RX10_19 rfl dX10_doOrder_72 rfl rfl rfl ?_
  refine rx_aload dX10_doOrder_75 rfl rfl ?_
  refine gy_getI (v := nI q.1.1) hG hf_RX10_270 rfl dX10_doOrder_77 hB3.1.2.2.1.1 hB3.1.2.2.1.2.2.1.1 ?_
  refine rx_aload dX10_doOrder_80 rfl rfl ?_
  refine gy_getI (v := nI q.1.2.1) hG hf_RX10_291 rfl dX10_doOrder_82 hB3.1.2.2.1.1 hB3.1.2.2.1.2.2.1.2.1 ?_
  refine rx_aload dX10_doOrder_85 rfl rfl ?_
  refine gy_getL (v := q.1.2.2.1) hG hf_RX10_294 rfl dX10_doOrder_87 hB3.1.2.2.1.1 hB3.1.2.2.1.2.2.1.2.2.1 ?_
  refine rx_aload dX10_doOrder_90 rfl rfl ?_
  refine gy_getL (v := q.1.2.2.2) hG hf_RX10_297 rfl dX10_doOrder_92 hB3.1.2.2.1.1 hB3.1.2.2.1.2.2.1.2.2.2 ?_
  refine rx_aload dX10_doOrder_95 rfl rfl ?_
  refine gy_getI (v := nI q.2.1) hG hf_RX10_277 rfl dX10_doOrder_97 hB3.1.2.2.1.1 hB3.1.2.2.1.2.2.2.1 ?_
  refine rx_bipush (v := nI 25) dX10_doOrder_100 rfl ?_
  refine rx_isub dX10_doOrder_102 ?_
  refine rx_ti (y := nI (q.2.1 - 25)) (pk_sub (by omega)) ?_
  refine rx_iconst (v := nI 0) dX10_doOrder_103 rfl ?_
  refine gv_invV (as := [.int _, .int _, .long _, .long _, .int _, .int _]) hG okX7_run lk_RX10_222 rfl rfl dX10_doOrder_104 rfl (by simp [Value.category]) (cc_run (l := false) (K := K) (g := (cs, N, q.1.1, h)) (n := o_n1 n q) hG hi10 hbs hvg (hvc n hcd) (by omega) hto (fun e => absurd e (by decide)) hB3.1.2.1) ?_
  rintro _ _ ⟨rfl, C4, X', how, x, u, rfl, hR, hE, ⟨z, hU⟩, hF⟩
  have hbk : C4.1 4 8 = nI X'.2.2.1 := rc_back (n := X'.1) (e := X'.2.1) (gs := X'.2.2.2.1) (m := X'.2.2.2.2) hU
  have hB4 : oB K C C4 cs N h (bs + X'.2.1.length) i X'.1 oa rc on q ∧ oK C C4 bs rc ∧ rc_E C4 bs i X'.2.1 ∧ rc_fin C4 how x u := ⟨oB_run hB3.1 hE.2.1 hU, ⟨fun j hj => (hU.2.1.2.2.2 j hj).trans (hB3.2.1 j hj), ((hU.2.1.1 rc (by omega)).2).trans hB3.2.2⟩, hU.1.2.2.1.2.2, hF⟩
  refine rx_aload dX10_doOrder_107 rfl rfl ?_
  refine gy_getI (v := nI q.2.1) hG hf_RX10_277 rfl dX10_doOrder_109 hB4.1.2.2.1.1 hB4.1.2.2.1.2.2.2.1 ?_
  refine rx_aload_n dX10_doOrder_112 rfl rfl ?_
  refine g_getR hG hf_RX10_19 rfl dX10_doOrder_113 rfl rfl rfl ?_
  refine gcv_getI (v := nI u) hG hf_RX10_232 rfl dX10_doOrder_116 rfl rfl rfl hB4.2.2.2.2.2 ?_
  refine rx_isub dX10_doOrder_119 ?_
  refine rx_istore dX10_doOrder_120 (by decide) ?_
  refine rx_iload dX10_doOrder_122 rfl ?_
  refine rx_aload_n dX10_doOrder_124 rfl rfl ?_
  refine g_getR hG hf_RX10_19 rfl dX10_doOrder_125 rfl rfl rfl ?_
  refine gcv_getI (v := nI X'.2.2.1) hG hf_RX10_300 rfl dX10_doOrder_128 rfl rfl rfl hbk ?_
  refine rx_iload dX10_doOrder_131 rfl ?_
  refine rx_iconst (v := nI 5) dX10_doOrder_133 rfl ?_
  refine rx_idiv dX10_doOrder_134 (by decide) ?_
  refine rx_mmin hG ⟨hw_605, hw_378, hw_178, hw_179⟩ dX10_doOrder_135 (by simp [Value.category]) ?_
  refine rx_isub dX10_doOrder_138 ?_
  refine rx_ti (y := o_used q.2.1 u X'.2.2.1) o_usedE ?_
  refine rx_istore dX10_doOrder_139 (by decide) ?_
  refine rx_aload dX10_doOrder_141 rfl rfl ?_
  refine rx_aload dX10_doOrder_143 rfl rfl ?_
  refine gy_getI (v := nI q.1.1) hG hf_RX10_270 rfl dX10_doOrder_145 hB4.1.2.2.1.1 hB4.1.2.2.1.2.2.1.1 ?_
  refine rx_aload dX10_doOrder_148 rfl rfl ?_
  refine rx_aload dX10_doOrder_150 rfl rfl ?_
  refine gy_getI (v := nI q.2.1) hG hf_RX10_277 rfl dX10_doOrder_152 hB4.1.2.2.1.1 hB4.1.2.2.1.2.2.2.1 ?_
  refine rx_iload dX10_doOrder_155 rfl ?_
  refine rx_isub dX10_doOrder_157 ?_
  refine rx_invV0 (as := [.int _]) hG okX8_priceOf lk_RX10_280 (rk_n hB4.1.2.2.1.1) (congrArg Prod.fst (rk_k hB4.1.2.2.1.1)) dX10_doOrder_158 rfl (by simp [Value.category]) (cf_price hG hB4.1.2.2.1.1 hB4.1.2.2.1.2.2.2.2.1 (by omega)) ?_
  rintro _ _ ⟨rfl, rfl⟩
  refine gv_invV (as := [.int _, .long _]) hG okX9_addToBalance lk_RX10_284 rfl rfl dX10_doOrder_161 rfl (by simp [Value.category]) (cs_addE hG hf) ?_
  rintro _ _ ⟨rfl, rfl⟩
  have e3 : C4.2.1 8 (32 * q.1.1) = X'.1 (19 * q.1.1) := by rw [hB4.1.2.1.2.1 _ (by omega), lf_b0]
  rw [e3]
  refine oB_ab (P := fun C' => oB K C C' cs N h (bs + X'.2.1.length) i (up1 X'.1 (19 * q.1.1) (X'.1 (19 * q.1.1) + (nI q.2.1 - o_used q.2.1 u X'.2.2.1).toInt64 * lN q.2.2.1)) oa rc on q ∧ oK C C' bs rc ∧ rc_E C' bs i X'.2.1 ∧ rc_fin C' how x u) ⟨oB_leaf hB4.1 (lf_u0 _), oK_leaf hB4.2.1 hrc2, rcE_leaf hB4.2.2.1, hB4.2.2.2⟩ (fun C5 hB5 => ?_)
  refine rx_aload dX10_doOrder_164 rfl rfl ?_
  refine rx_iload_n dX10_doOrder_166 rfl ?_
  refine rx_aload dX10_doOrder_167 rfl rfl ?_
  refine rx_iload dX10_doOrder_169 rfl ?_
  refine rx_invV0 (as := [.int _]) hG okX8_priceOf lk_RX10_280 (rk_n hB5.1.2.2.1.1) (congrArg Prod.fst (rk_k hB5.1.2.2.1.1)) dX10_doOrder_171 rfl (by simp [Value.category]) (cf_price hG hB5.1.2.2.1.1 hB5.1.2.2.1.2.2.2.2.1 (by omega)) ?_
  rintro _ _ ⟨rfl, rfl⟩
  refine gv_invV (as := [.int _, .long _]) hG okX9_addToBalance lk_RX10_284 rfl rfl dX10_doOrder_174 rfl (by simp [Value.category]) (cs_addE hG hmk) ?_
  rintro _ _ ⟨rfl, rfl⟩
  have e4 : C5.2.1 8 (32 * mk) = (up1 X'.1 (19 * q.1.1) (X'.1 (19 * q.1.1) + (nI q.2.1 - o_used q.2.1 u X'.2.2.1).toInt64 * lN q.2.2.1)) (19 * mk) := by rw [hB5.1.2.1.2.1 _ (by omega), lf_b0]
  rw [e4]
  refine oB_ab (P := fun C' => oB K C C' cs N h (bs + X'.2.1.length) i (o_n5 X'.1 q mk (o_used q.2.1 u X'.2.2.1)) oa rc on q ∧ oK C C' bs rc ∧ rc_E C' bs i X'.2.1 ∧ rc_fin C' how x u) ⟨oB_leaf hB5.1 (lf_u0 _), oK_leaf hB5.2.1 hrc2, rcE_leaf hB5.2.2.1, hB5.2.2.2⟩ (fun C6 hB6 => ?_)
  refine rx_aload dX10_doOrder_177 rfl rfl ?_
  refine rx_iconst (v := nI 3) dX10_doOrder_179 rfl ?_
  refine rx_iload_n dX10_doOrder_180 rfl ?_
  refine rx_imul dX10_doOrder_181 ?_
  refine rx_ti (y := nI (3 * i)) ((pk_mul _ _).trans (congrArg nI (by omega))) ?_
  refine rx_aload_n dX10_doOrder_182 rfl rfl ?_
  refine g_getR hG hf_RX10_19 rfl dX10_doOrder_183 rfl rfl rfl ?_
  refine gcv_getI (v := nI how) hG hf_RX10_226 rfl dX10_doOrder_186 rfl rfl rfl hB6.2.2.2.1 ?_
  refine rx_i2l dX10_doOrder_189 ?_
  refine rx_tl (y := lN how) (nI_l (by have := hE.2.2.1.2; omega)) ?_
  refine gy_last (j := 3 * i) hG dX10_doOrder_190 hB6.1.2.2.2.1 rfl (by omega) (by omega) ?_
  refine rx_aload dX10_doOrder_191 rfl rfl ?_
  refine rx_iconst (v := nI 3) dX10_doOrder_193 rfl ?_
  refine rx_iload_n dX10_doOrder_194 rfl ?_
  refine rx_imul dX10_doOrder_195 ?_
  refine rx_ti (y := nI (3 * i)) ((pk_mul _ _).trans (congrArg nI (by omega))) ?_
  refine rx_iconst (v := nI 1) dX10_doOrder_196 rfl ?_
  refine rx_iadd dX10_doOrder_197 ?_
  refine rx_ti (y := nI (3 * i + 1)) ((nI_add _ _).trans (congrArg nI (by omega))) ?_
  refine rx_iload dX10_doOrder_198 rfl ?_
  refine rx_i2l dX10_doOrder_200 ?_
  refine gy_last (j := 3 * i + 1) hG dX10_doOrder_201 hB6.1.2.2.2.1 rfl (by omega) (by omega) ?_
  refine rx_aload dX10_doOrder_202 rfl rfl ?_
  refine rx_iconst (v := nI 3) dX10_doOrder_204 rfl ?_
  refine rx_iload_n dX10_doOrder_205 rfl ?_
  refine rx_imul dX10_doOrder_206 ?_
  refine rx_ti (y := nI (3 * i)) ((pk_mul _ _).trans (congrArg nI (by omega))) ?_
  refine rx_iconst (v := nI 2) dX10_doOrder_207 rfl ?_
  refine rx_iadd dX10_doOrder_208 ?_
  refine rx_ti (y := nI (3 * i + 2)) ((nI_add _ _).trans (congrArg nI (by omega))) ?_
  refine rx_aload_n dX10_doOrder_209 rfl rfl ?_
  refine g_getR hG hf_RX10_19 rfl dX10_doOrder_210 rfl rfl rfl ?_
  refine gcv_getL (v := x) hG hf_RX10_244 rfl dX10_doOrder_213 rfl rfl rfl (show rx_u (rx_u C6.2.1 rc (3 * i) (lN how)) rc (3 * i + 1) (o_used q.2.1 u X'.2.2.1).toInt64 4 11 = x by rw [rx_une _ (by omega), rx_une _ (by omega)]; exact hB6.2.2.2.2.1) ?_
  refine gy_last (j := 3 * i + 2) hG dX10_doOrder_216 hB6.1.2.2.2.1 rfl (by omega) (by omega) ?_
  refine rx_iload dX10_doOrder_217 rfl ?_
  exact rx_iret rfl dX10_doOrder_219 (hK _ X' how x u hR hE hvo (oB_rc hB6.1 rfl).1 (oB_rc hB6.1 rfl).2 (fun j hj => (congrFun (rx_u3 hrc) j).trans (hB6.2.1.1 j hj)) (rc_E_congr (C := C6) (fun j _ => congrFun (rx_u3 hrc) j) hB6.2.2.1) (rc_rcp hB6.2.1.2))

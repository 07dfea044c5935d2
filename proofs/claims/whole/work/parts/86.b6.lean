theorem dX5_copyRows_0 : decode cX5_copyRows 0 = .ok (.aload_n 0, 1) := by decide +kernel
theorem dX5_copyRows_1 : decode cX5_copyRows 1 = .ok (.getfield 9, 3) := by decide +kernel
theorem dX5_copyRows_4 : decode cX5_copyRows 4 = .ok (.iconst 4, 1) := by decide +kernel
theorem dX5_copyRows_5 : decode cX5_copyRows 5 = .ok (.aload_n 0, 1) := by decide +kernel
theorem dX5_copyRows_6 : decode cX5_copyRows 6 = .ok (.getfield 15, 3) := by decide +kernel
theorem dX5_copyRows_9 : decode cX5_copyRows 9 = .ok (.bipush 60, 2) := by decide +kernel
theorem dX5_copyRows_11 : decode cX5_copyRows 11 = .ok (.invokestatic 22, 3) := by decide +kernel
theorem dX5_copyRows_14 : decode cX5_copyRows 14 = .ok (.imul, 1) := by decide +kernel
theorem dX5_copyRows_15 : decode cX5_copyRows 15 = .ok (.invokestatic 28, 3) := by decide +kernel
theorem dX5_copyRows_18 : decode cX5_copyRows 18 = .ok (.areturn, 1) := by decide +kernel
theorem dJ7_copyOf_c38d5_0 : decode cJ7_copyOf_c38d5 0 = .ok (.iload_n 1, 1) := by decide +kernel
theorem dJ7_copyOf_c38d5_1 : decode cJ7_copyOf_c38d5 1 = .ok (.aload_n 0, 1) := by decide +kernel
theorem dJ7_copyOf_c38d5_2 : decode cJ7_copyOf_c38d5 2 = .ok (.arraylength, 1) := by decide +kernel
theorem dJ7_copyOf_c38d5_3 : decode cJ7_copyOf_c38d5 3 = .ok (.if_icmp .ne 11, 3) := by decide +kernel
theorem dJ7_copyOf_c38d5_6 : decode cJ7_copyOf_c38d5 6 = .ok (.aload_n 0, 1) := by decide +kernel
theorem dJ7_copyOf_c38d5_7 : decode cJ7_copyOf_c38d5 7 = .ok (.invokevirtual 319, 3) := by decide +kernel
theorem dJ7_copyOf_c38d5_10 : decode cJ7_copyOf_c38d5 10 = .ok (.checkcast 320, 3) := by decide +kernel
theorem dJ7_copyOf_c38d5_13 : decode cJ7_copyOf_c38d5 13 = .ok (.areturn, 1) := by decide +kernel
theorem dJ7_copyOf_c38d5_14 : decode cJ7_copyOf_c38d5 14 = .ok (.iload_n 1, 1) := by decide +kernel
theorem dJ7_copyOf_c38d5_15 : decode cJ7_copyOf_c38d5 15 = .ok (.newarray .long, 2) := by decide +kernel
theorem dJ7_copyOf_c38d5_17 : decode cJ7_copyOf_c38d5 17 = .ok (.astore_n 2, 1) := by decide +kernel
theorem dJ7_copyOf_c38d5_18 : decode cJ7_copyOf_c38d5 18 = .ok (.aload_n 0, 1) := by decide +kernel
theorem dJ7_copyOf_c38d5_19 : decode cJ7_copyOf_c38d5 19 = .ok (.iconst 0, 1) := by decide +kernel
theorem dJ7_copyOf_c38d5_20 : decode cJ7_copyOf_c38d5 20 = .ok (.aload_n 2, 1) := by decide +kernel
theorem dJ7_copyOf_c38d5_21 : decode cJ7_copyOf_c38d5 21 = .ok (.iconst 0, 1) := by decide +kernel
theorem dJ7_copyOf_c38d5_22 : decode cJ7_copyOf_c38d5 22 = .ok (.aload_n 0, 1) := by decide +kernel
theorem dJ7_copyOf_c38d5_23 : decode cJ7_copyOf_c38d5 23 = .ok (.arraylength, 1) := by decide +kernel
theorem dJ7_copyOf_c38d5_24 : decode cJ7_copyOf_c38d5 24 = .ok (.iload_n 1, 1) := by decide +kernel
theorem dJ7_copyOf_c38d5_25 : decode cJ7_copyOf_c38d5 25 = .ok (.invokestatic 304, 3) := by decide +kernel
theorem dJ7_copyOf_c38d5_28 : decode cJ7_copyOf_c38d5 28 = .ok (.invokestatic 150, 3) := by decide +kernel
theorem dJ7_copyOf_c38d5_31 : decode cJ7_copyOf_c38d5 31 = .ok (.aload_n 2, 1) := by decide +kernel
theorem dJ7_copyOf_c38d5_32 : decode cJ7_copyOf_c38d5 32 = .ok (.areturn, 1) := by decide +kernel
/-- a copy of a row of longs -/
def ccl (C : rx_M) (a n : Nat) : rx_M := (rx_k1 C.1 (102 + C.2.2.2.2) (C.1 a), rx_k1 C.2.1 (102 + C.2.2.2.2) (C.2.1 a), rx_k1 C.2.2.1 (102 + C.2.2.2.2) (fun _ => none), rx_k1 C.2.2.2.1 (102 + C.2.2.2.2) (14, n), C.2.2.2.2 + 1)
theorem gl_cl {C : rx_M} {S : gs_T} {a n : Nat} (hma : gk_m a = false) (hk : (gl C S).2.2.2.1 a = (14, n)) : rx_cl (gl C S) a = gl (ccl C a n) S := by
  have hm : gk_m (102 + C.2.2.2.2) = false := gkX_m (by omega)
  have hf : gk_f (102 + C.2.2.2.2) = false := gkX_f (by omega)
  refine Prod.ext (funext fun b => ?_) (Prod.ext (funext fun b => ?_) (Prod.ext (funext fun b => funext fun k => ?_) (Prod.ext (funext fun b => ?_) ?_)))
  · show rx_k1 (gl C S).1 (102 + C.2.2.2.2) ((gl C S).1 a) b = (bif gk_m b then S.1 b else rx_k1 C.1 (102 + C.2.2.2.2) (C.1 a) b)
    by_cases h : b = (102 + C.2.2.2.2)
    · subst h; rw [k1_eq, hm, k1_eq, gl_IC hma]; rfl
    · rw [k1_ne _ h, k1_ne _ h]; rfl
  · show rx_k1 (gl C S).2.1 (102 + C.2.2.2.2) ((gl C S).2.1 a) b = (bif gk_m b then S.2 b else rx_k1 C.2.1 (102 + C.2.2.2.2) (C.2.1 a) b)
    by_cases h : b = (102 + C.2.2.2.2)
    · subst h; rw [k1_eq, hm, k1_eq, gl_LC hma]; rfl
    · rw [k1_ne _ h, k1_ne _ h]; rfl
  · show rx_k1 (gl C S).2.2.1 (102 + C.2.2.2.2) (fun _ => none) b k = (gk_R b k).elim (rx_k1 C.2.2.1 (102 + C.2.2.2.2) (fun _ => none) b k) some
    by_cases h : b = (102 + C.2.2.2.2)
    · subst h; rw [k1_eq, k1_eq, gkX_R (by omega)]; rfl
    · rw [k1_ne _ h, k1_ne _ h]; rfl
  · show rx_k1 (gl C S).2.2.2.1 (102 + C.2.2.2.2) ((gl C S).2.2.2.1 a) b = (bif gk_f b then gk_K b else rx_k1 C.2.2.2.1 (102 + C.2.2.2.2) (14, n) b)
    by_cases h : b = (102 + C.2.2.2.2)
    · subst h; rw [k1_eq, hf, k1_eq, hk]; rfl
    · rw [k1_ne _ h, k1_ne _ h]; rfl
  · rfl
theorem ccl_ag {C : rx_M} {a n : Nat} : rc_ag C (ccl C a n) := ⟨fun a _ h => ⟨k1_ne _ (by omega), k1_ne _ (by omega)⟩, fun a _ h => k1_ne _ (by omega), fun a _ h => k1_ne _ (by omega), Nat.le_succ _⟩
theorem ccl_rk {C : rx_M} {a n : Nat} : rk (ccl C a n) (102 + C.2.2.2.2) 14 n := by
  refine ⟨⟨?_, gkX_m (by omega), fun k => gkX_R (by omega)⟩, ?_⟩
  · show (102 + C.2.2.2.2) < 102 + (C.2.2.2.2 + 1)
    omega
  · rw [gkX_f (by omega)]
    exact k1_eq _
theorem cf_copyLeaves {G : rx_E} {d : Nat} {C : rx_M} {S : gs_T} (hG : rx_OK G) : rx_C G MX9_copyLeaves (d + 1) [.ref 7] (gl C S) 1 1024 (fun v mu => v = some (.ref (102 + C.2.2.2.2)) ∧ mu = gl (ccl C 8 1024) S) := by
  refine rx_meth0 (by decide +kernel) rfl (Nat.le_of_ble_eq_true rfl) ?_
  refine rx_aload_n dX9_copyLeaves_0 rfl rfl ?_
  refine g_getR hG hf_RX9_9 rfl dX9_copyLeaves_1 rfl rfl rfl ?_
  refine rx_Wm (mc := 0 + 1) (ms := 0 + 1024) ?_ (by decide) (by decide)
  refine rx_cloneJ (n := 1024) hG ⟨hw_921, hw_922, hw_912, hw_913, hw_923, hw_867, hw_868⟩ dX9_copyLeaves_4 dX9_copyLeaves_7 (gl_n rfl) (gl_k rfl rfl) (by simp [Value.category]) ?_
  rw [gl_cl (n := 1024) rfl (gl_k rfl rfl)]
  exact rx_aret ⟨_, rfl⟩ dX9_copyLeaves_10 ⟨rfl, rfl⟩
/-- the first m of the events' rows, in a row of their own -/
def cpy10 (C C' : rx_M) (m : Nat) : Prop := rc_ag C C' ∧ rk C' (102 + C.2.2.2.2) 14 m ∧ (∀ j, j < m → C'.2.1 (102 + C.2.2.2.2) j = C.2.1 10 j) ∧ C'.2.2.2.2 = C.2.2.2.2 + 1
theorem cf_copyOf {G : rx_E} {d : Nat} {C : rx_M} {S : gs_T} {m : Nat} (hG : rx_OK G) (hm : m ≤ 240) : rx_C G MJ7_copyOf_c38d5 (d + 1) [.ref 10, .int (nI m)] (gl C S) 1 240 (fun v mu => v = some (.ref (102 + C.2.2.2.2)) ∧ ∃ C', mu = gl C' S ∧ cpy10 C C' m) := by
  refine rx_meth0 (by decide +kernel) rfl (Nat.le_of_ble_eq_true rfl) ?_
  refine rx_iload_n dJ7_copyOf_c38d5_0 rfl ?_
  refine rx_aload_n dJ7_copyOf_c38d5_1 rfl rfl ?_
  refine rx_alen hG dJ7_copyOf_c38d5_2 (gl_n rfl) (gl_k rfl rfl) (by decide) rfl ?_
  by_cases h : m = 240
  · subst h
    refine rx_icmp_ne (tgt := 14) dJ7_copyOf_c38d5_3 (by decide) (fun q => absurd rfl q) (fun _ => ?_)
    refine rx_aload_n dJ7_copyOf_c38d5_6 rfl rfl ?_
    refine rx_Wm (mc := 0 + 1) (ms := 0 + 240) ?_ (by decide) (by decide)
    refine rx_cloneJ (n := 240) hG ⟨hw_924, hw_922, hw_912, hw_913, hw_923, hw_867, hw_869⟩ dJ7_copyOf_c38d5_7 dJ7_copyOf_c38d5_10 (gl_n rfl) (gl_k rfl rfl) (by simp [Value.category]) ?_
    rw [gl_cl (n := 240) rfl (gl_k rfl rfl)]
    exact rx_aret ⟨_, rfl⟩ dJ7_copyOf_c38d5_13 ⟨rfl, _, rfl, ccl_ag, ccl_rk, fun j _ => by show rx_k1 C.2.1 (102 + C.2.2.2.2) (C.2.1 10) (102 + C.2.2.2.2) j = _; rw [k1_eq], rfl⟩
  · refine rx_icmp_ne (tgt := 14) dJ7_copyOf_c38d5_3 (by decide) (fun _ => ?_) (fun q => absurd (show nI m = nI 240 from q) (by rw [nI_eq (by omega) (by omega)]; exact h))
    refine rx_iload_n dJ7_copyOf_c38d5_14 rfl ?_
    refine rx_Wm (mc := 0 + 1) (ms := 0 + m) ?_ (by decide) (by omega)
    refine ga_newa (t := 14) hG (Or.inr (Or.inr (Or.inl ⟨rfl, rfl⟩))) hw_814 dJ7_copyOf_c38d5_15 rfl (by omega) ?_
    refine rx_astore_n dJ7_copyOf_c38d5_17 (by decide) rfl ?_
    refine rx_aload_n dJ7_copyOf_c38d5_18 rfl rfl ?_
    refine rx_iconst (v := nI 0) dJ7_copyOf_c38d5_19 rfl ?_
    refine rx_aload_n dJ7_copyOf_c38d5_20 rfl rfl ?_
    refine rx_iconst (v := nI 0) dJ7_copyOf_c38d5_21 rfl ?_
    refine rx_aload_n dJ7_copyOf_c38d5_22 rfl rfl ?_
    refine rx_alen (x := nI 240) hG dJ7_copyOf_c38d5_23 (gl_n rfl) (gl_k rfl rfl) (by decide) rfl ?_
    refine rx_iload_n dJ7_copyOf_c38d5_24 rfl ?_
    refine rx_mmin hG ⟨hw_682, hw_378, hw_178, hw_179⟩ dJ7_copyOf_c38d5_25 (by simp [Value.category]) ?_
    refine rx_ti (y := nI m) (if_pos (by rw [nI_ltI (by omega) (by omega)]; omega)) ?_
    refine rx_copyJ (sp := 0) (dp := 0) (n := m) (n0 := 240) (n1 := m) hG ⟨hw_915, hw_917, hw_916, hw_798⟩ dJ7_copyOf_c38d5_28 (gl_n rfl) (gl_k rfl rfl) (rk_n ca_rk) (rk_k ca_rk) rfl rfl rfl (by omega) (by omega) ⟨by decide, by omega⟩ (by simp [Value.category]) ?_
    rw [gl_kL (gkX_m (by omega))]
    refine rx_aload_n dJ7_copyOf_c38d5_31 rfl rfl ?_
    refine rx_aret ⟨_, rfl⟩ dJ7_copyOf_c38d5_32 ⟨rfl, _, rfl, ⟨fun a h1 h2 => ⟨((ca_ag (C := C) (t := 14) (n := m)).1 a h1 h2).1, (k1_ne _ (by omega)).trans ((ca_ag (C := C) (t := 14) (n := m)).1 a h1 h2).2⟩, (ca_ag (C := C) (t := 14) (n := m)).2⟩, ca_rk, fun j hj => ?_, rfl⟩
    show rx_k1 (ca C 14 m).2.1 (102 + C.2.2.2.2) (va_cpy ((gl (ca C 14 m) S).2.1 10) ((gl (ca C 14 m) S).2.1 (102 + C.2.2.2.2)) 0 0 m) (102 + C.2.2.2.2) j = _
    rw [k1_eq, pk_cpy_in (by omega) (by omega), show 0 + (j - 0) = j by omega, gl_LC rfl]
    exact congrFun (k1_ne _ (by omega)) j
theorem cf_copyRows {G : rx_E} {d : Nat} {C : rx_M} {S : gs_T} {ec : Nat} (hG : rx_OK G) (he : C.1 9 1 = nI ec) (hec : ec < 2 ^ 30) : rx_C G MX5_copyRows (d + 2) [.ref 9] (gl C S) 1 240 (fun v mu => v = some (.ref (102 + C.2.2.2.2)) ∧ ∃ C', mu = gl C' S ∧ cpy10 C C' (4 * min 60 ec)) := by
  refine rx_meth0 (by decide +kernel) rfl (Nat.le_of_ble_eq_true rfl) ?_
  refine rx_aload_n dX5_copyRows_0 rfl rfl ?_
  refine g_getR hG hf_RX5_9 rfl dX5_copyRows_1 rfl rfl rfl ?_
  refine rx_iconst (v := nI 4) dX5_copyRows_4 rfl ?_
  refine rx_aload_n dX5_copyRows_5 rfl rfl ?_
  refine gcv_getI (v := nI ec) hG hf_RX5_15 rfl dX5_copyRows_6 rfl rfl rfl he ?_
  refine rx_bipush (v := nI 60) dX5_copyRows_9 rfl ?_
  refine rx_mmin hG ⟨hw_377, hw_378, hw_178, hw_179⟩ dX5_copyRows_11 (by simp [Value.category]) ?_
  refine rx_ti (y := nI (min 60 ec)) (by
    by_cases h : 60 < ec
    · rw [if_pos (by rw [nI_ltI (by omega) (by omega)]; exact h)]; exact congrArg nI (by omega)
    · rw [if_neg (by rw [nI_ltI (by omega) (by omega)]; exact h)]; exact congrArg nI (by omega)) ?_
  refine rx_imul dX5_copyRows_14 ?_
  refine rx_ti (y := nI (4 * min 60 ec)) (pk_mul _ _) ?_
  refine rx_invS (mc := 0) (ms := 0) (mc' := 1) (ms' := 240) (as := [.ref _, .int _]) hG okJ7_copyOf_c38d5 lk_RX5_28 dX5_copyRows_15 rfl (by simp [Value.category]) (cf_copyOf hG (by omega)) ?_
  rintro _ _ ⟨rfl, C', rfl, hc⟩
  exact rx_aret ⟨_, rfl⟩ dX5_copyRows_18 ⟨rfl, C', rfl, hc⟩
def w_block (w : wW) (q : wB) : wW := (w.1, (0, w.2.1.2), (w.2.2.1.1 + 1, fun b => if b = w.2.2.1.1 then q else w.2.2.1.2 b), w.2.2.2)
theorem rcw_block {A : wP} {C C' : rx_M} {w : wW} {q : wB} {a : wA} (h : rcw A C w) (hg : rc_agE (fun a => a = 9 ∨ a = 0) (fun a => a = 44) C C') (h3 : C'.1 0 3 = nI 0) (h5 : C'.1 0 5 = nI (w.2.2.1.1 + 1)) (h0 : C'.1 0 9 = C.1 0 9 ∧ C'.1 0 10 = C.1 0 10 ∧ C'.1 0 11 = C.1 0 11) (hT : cT C') (h44 : ∀ k, C'.2.2.1 44 k = if k = w.2.2.1.1 then some a.1 else C.2.2.1 44 k) (hq : cB1 C' a q) (ha : 102 + C.2.2.2.2 ≤ a.1) (h1 : 1 ≤ w.2.2.1.1) : rcw (A.1, A.2.1, fun b => if b = w.2.2.1.1 then a else A.2.2 b) C' (w_block w q) := by
  obtain ⟨hD, hK, hO, hB, hV, hS, hN⟩ := h
  refine ⟨cD_agE hD hg (by decide) (by decide), cK_agE hK hg (by decide) (by decide) (fun a ha => by show ¬ (a = 9 ∨ a = 0); omega) (fun a ha => by show ¬ a = 44; omega), ⟨h3, fun i hi => absurd hi (Nat.not_lt_zero _)⟩, ⟨h5, fun b hb => ?_, fun b b' hb hb' he => ?_, ?_, hT⟩, cV_agE hV hg (by decide) (by decide), cS_agE hS hg (by decide), ⟨h0.1.trans hN.1, h0.2.1.trans hN.2.1, h0.2.2.trans hN.2.2⟩⟩
  · have hb' : b < w.2.2.1.1 + 1 := hb
    show C'.2.2.1 44 b = some (if b = w.2.2.1.1 then a else A.2.2 b).1 ∧ cB1 C' (if b = w.2.2.1.1 then a else A.2.2 b) (if b = w.2.2.1.1 then q else w.2.2.1.2 b)
    rw [h44]
    by_cases e : b = w.2.2.1.1
    · rw [if_pos e, if_pos e, if_pos e]; exact ⟨rfl, hq⟩
    · rw [if_neg e, if_neg e, if_neg e]
      exact ⟨(hB.2.1 b (by omega)).1, cB1_agE (hB.2.1 b (by omega)).2 hg (fun a h1 _ => by show ¬ (a = 9 ∨ a = 0); omega) (fun a h1 _ => by show ¬ a = 44; omega)⟩
  · have hb1 : b < w.2.2.1.1 + 1 := hb
    have hb2 : b' < w.2.2.1.1 + 1 := hb'
    have he : (if b = w.2.2.1.1 then a else A.2.2 b).1 = (if b' = w.2.2.1.1 then a else A.2.2 b').1 := he
    by_cases e : b = w.2.2.1.1
    · by_cases e' : b' = w.2.2.1.1
      · omega
      · rw [if_pos e, if_neg e'] at he
        have := (hB.2.1 b' (by omega)).2.1.1.1.1
        omega
    · by_cases e' : b' = w.2.2.1.1
      · rw [if_neg e, if_pos e'] at he
        have := (hB.2.1 b (by omega)).2.1.1.1.1
        omega
      · rw [if_neg e, if_neg e'] at he
        exact hB.2.2.1 b b' (by omega) (by omega) he
  · show (if 0 = w.2.2.1.1 then a else A.2.2 0).2.1 = 46
    rw [if_neg (by omega)]; exact hB.2.2.2.1

def w_dr (w : wW) : wW := (([], w.1.2), w.2)
def w_code (w : wW) (ds : List Nat) : wW := ((w.1.1, (fun c => if c = w.1.2.2 then ds else w.1.2.1 c), w.1.2.2 + 1), w.2)
theorem rcw_dr {A : wP} {C C' : rx_M} {w : wW} (h : rcw A C w) (hg : rc_agE (fun a => a = 1 ∨ a = 3) (fun _ => False) C C') (h1 : C'.1 1 2 = nI 0) : rcw A C' (w_dr w) :=
  ⟨⟨h1, fun k hk => absurd hk (Nat.not_lt_zero _)⟩, cK_agE h.2.1 hg (by decide) (noF 6) (fun a ha => by show ¬ (a = 1 ∨ a = 3); omega) (fun a _ => noF a), cO_agE h.2.2.1 hg (by decide) (noF 43) (fun a ha => by show ¬ (a = 1 ∨ a = 3); omega), cB_agE h.2.2.2.1 hg (by decide) (by decide) (noF 44) (fun a h1 _ => by show ¬ (a = 1 ∨ a = 3); omega) (fun a _ _ => noF a), cV_agE h.2.2.2.2.1 hg (by decide) (by decide), cS_agE h.2.2.2.2.2.1 hg (by decide), cN_agE h.2.2.2.2.2.2 hg (by decide)⟩
theorem rcw_code {A : wP} {C C' : rx_M} {w : wW} {a : Nat × Nat} {ds : List Nat} (h : rcw A C w) (hg : rc_agE (fun a => a = 5) (fun a => a = 6) C C') (h5 : C'.1 5 1 = nI (w.1.2.2 + 1)) (h6 : ∀ k, C'.2.2.1 6 k = if k = w.1.2.2 then some a.1 else C.2.2.1 6 k) (hK : rc_K C' a ds) : rcw ((fun c => if c = w.1.2.2 then a else A.1 c), A.2) C' (w_code w ds) := by
  refine ⟨cD_agE h.1 hg (by decide) (by decide), ⟨fun c hc => ?_, h5⟩, cO_agE h.2.2.1 hg (by decide) (by decide) (fun a ha => by show ¬ a = 5; omega), cB_agE h.2.2.2.1 hg (by decide) (by decide) (by decide) (fun a h1 _ => by show ¬ a = 5; omega) (fun a h1 _ => by show ¬ a = 6; omega), cV_agE h.2.2.2.2.1 hg (by decide) (by decide), cS_agE h.2.2.2.2.2.1 hg (by decide), cN_agE h.2.2.2.2.2.2 hg (by decide)⟩
  have hc' : c < w.1.2.2 + 1 := hc
  show C'.2.2.1 6 c = some (if c = w.1.2.2 then a else A.1 c).1 ∧ rc_K C' (if c = w.1.2.2 then a else A.1 c) (if c = w.1.2.2 then ds else w.1.2.1 c)
  rw [h6]
  by_cases e : c = w.1.2.2
  · rw [if_pos e, if_pos e, if_pos e]; exact ⟨rfl, hK⟩
  · rw [if_neg e, if_neg e, if_neg e]
    exact ⟨(h.2.1.1 c (by omega)).1, rc_K_agE (h.2.1.1 c (by omega)).2 hg (fun a ha => by show ¬ a = 5; omega) (fun a ha => by show ¬ a = 6; omega)⟩
theorem cf_code_s {G : rx_E} {d : Nat} {C : rx_M} {S : gs_T} (hG : rx_OK G) {n : Nat} (h5 : C.1 5 1 = nI n) (hn : n = 16) : rx_X G MX10_code (d + 8) [.ref 0] (gl C S) 8 2000 (fun _ _ => False) (zq C S "java/lang/IllegalStateException") := by
  refine rx_meth (by decide +kernel) rfl (Nat.le_of_ble_eq_true rfl) ?_
  refine rx_aload_n dX10_code_0 rfl rfl ?_
  refine g_getR hG hf_RX10_19 rfl dX10_code_1 rfl rfl rfl ?_
  refine g_getR hG hf_RX10_74 rfl dX10_code_4 rfl rfl rfl ?_
  refine gv_invV (as := []) hG okX3_isFull lk_RX10_78 rfl rfl dX10_code_7 rfl (by simp [Value.category]) (cf_fullT hG h5 hn) ?_
  rintro _ _ ⟨rfl, rfl⟩
  refine rx_if_eq (tgt := 23) dX10_code_10 (by decide) (fun h10 => (absurd h10 (by decide))) (fun h10 => ?_)
  exact gx_throw hG rfl rfl th_s hw_840 dX10_code_13 dX10_code_16 dX10_code_17 dX10_code_19 dX10_code_22
theorem code_g {A : wP} {C C' : rx_M} {w : wW} {R : Nat → Int32} (hC : rcw A C w) (hc : cpyB (rx_k1 C.1 3 R, C.2) C' w.1.1.length) : rcw A (rx_u C'.1 1 2 (nI 0), C'.2) (w_dr w) := by
  obtain ⟨g, _, _, n⟩ := hc
  have n : C'.2.2.2.2 = C.2.2.2.2 + 1 := n
  refine rcw_dr hC ⟨fun a hE ha hn => ?_, fun a _ ha hn => g.2.1 a ha hn, fun a ha hn => g.2.2.1 a ha hn, by show C.2.2.2.2 ≤ C'.2.2.2.2; omega⟩ (by simp [rx_ru])
  have hE : ¬ (a = 1 ∨ a = 3) := hE
  have := g.1 a ha hn
  exact ⟨(rx_une _ (by omega)).trans (this.1.trans (k1_ne _ (by omega))), this.2⟩
theorem code_fin {A : wP} {C C' : rx_M} {w : wW} {R : Nat → Int32} (hC : rcw A C w) (hc : cpyB (rx_k1 C.1 3 R, C.2) C' w.1.1.length) : rcw ((fun c => if c = w.1.2.2 then ((102 + C'.2.2.2.2), (102 + C.2.2.2.2)) else A.1 c), A.2) (rx_u (ca (rx_u C'.1 1 2 (nI 0), C'.2) 2 1).1 5 1 (nI (w.1.2.2 + 1)), (ca (rx_u C'.1 1 2 (nI 0), C'.2) 2 1).2.1, rx_u (rx_u (ca (rx_u C'.1 1 2 (nI 0), C'.2) 2 1).2.2.1 (102 + C'.2.2.2.2) 0 (some (102 + C.2.2.2.2))) 6 w.1.2.2 (some (102 + C'.2.2.2.2)), (ca (rx_u C'.1 1 2 (nI 0), C'.2) 2 1).2.2.2) (w_code (w_dr w) w.1.1) := by
  have h2 := code_g hC hc
  obtain ⟨g, k, v, n⟩ := hc
  have n : C'.2.2.2.2 = C.2.2.2.2 + 1 := n
  have hne : ∀ x, x < (102 + C'.2.2.2.2) → x ≠ (102 + C'.2.2.2.2) := fun x hx => by omega
  refine rcw_code (a := ((102 + C'.2.2.2.2), (102 + C.2.2.2.2))) h2 ⟨fun x hE hx hn => ?_, fun x hF hx hn => ?_, fun x hx hn => ?_, ?_⟩ (by simp [rx_ru]; rfl) (fun kx => ?_) ⟨⟨⟨?_, ?_⟩, ?_, ?_⟩, ⟨⟨?_, ?_⟩, ?_, fun j hj => ?_⟩⟩
  · have hE : ¬ x = 5 := hE
    exact ⟨(rx_une _ hE).trans (k1_ne _ (hne x hn)), k1_ne _ (hne x hn)⟩
  · have hF : ¬ x = 6 := hF
    exact (rx_une _ hF).trans ((rx_une _ (hne x hn)).trans (k1_ne _ (hne x hn)))
  · exact k1_ne _ (hne x hn)
  · show C'.2.2.2.2 ≤ C'.2.2.2.2 + 1
    omega
  · show rx_u (rx_u (ca (rx_u C'.1 1 2 (nI 0), C'.2) 2 1).2.2.1 (102 + C'.2.2.2.2) 0 (some (102 + C.2.2.2.2))) 6 w.1.2.2 (some (102 + C'.2.2.2.2)) 6 kx = if kx = w.1.2.2 then some (102 + C'.2.2.2.2) else C'.2.2.1 6 kx
    rw [rx_ru, if_pos rfl, rx_une _ (by omega)]
    exact congrArg (fun z => if kx = w.1.2.2 then some (102 + C'.2.2.2.2) else z) (congrFun (k1_ne _ (by show 6 ≠ 102 + C'.2.2.2.2; omega)) kx)
  · show 102 ≤ (102 + C'.2.2.2.2)
    omega
  · show (102 + C'.2.2.2.2) < 102 + (C'.2.2.2.2 + 1)
    omega
  · show (rx_k1 C'.2.2.2.1 (102 + C'.2.2.2.2) (2, 1) (102 + C'.2.2.2.2)).1 = 2
    rw [k1_eq]
  · show rx_u (rx_u (ca (rx_u C'.1 1 2 (nI 0), C'.2) 2 1).2.2.1 (102 + C'.2.2.2.2) 0 (some (102 + C.2.2.2.2))) 6 w.1.2.2 (some (102 + C'.2.2.2.2)) (102 + C'.2.2.2.2) 0 = _
    rw [rx_une _ (by omega), rx_ru, if_pos rfl, if_pos rfl]
  · show 102 ≤ (102 + C.2.2.2.2)
    omega
  · show (102 + C.2.2.2.2) < 102 + (C'.2.2.2.2 + 1)
    omega
  · show rx_k1 C'.2.2.2.1 (102 + C'.2.2.2.2) (2, 1) (102 + C.2.2.2.2) = _
    rw [k1_ne _ (by omega)]
    have k2 : (bif gk_f (102 + C.2.2.2.2) then gk_K (102 + C.2.2.2.2) else C'.2.2.2.1 (102 + C.2.2.2.2)) = (12, w.1.1.length) := k.2
    rw [gkX_f (by omega)] at k2
    exact k2
  · show rx_u (rx_k1 (rx_u C'.1 1 2 (nI 0)) (102 + C'.2.2.2.2) (fun _ => 0)) 5 1 (nI (w.1.2.2 + 1)) (102 + C.2.2.2.2) j = _
    rw [rx_une _ (by omega), k1_ne _ (by omega), rx_une _ (by omega), v j hj]
    show rx_k1 C.1 3 R 2 j = _
    rw [k1_ne _ (by decide)]
    exact hC.1.2 j hj
set_option maxHeartbeats 1000000 in
theorem cf_code {G : rx_E} {d : Nat} {C : rx_M} {S : gs_T} (hG : rx_OK G) {A : wP} {w : wW} (hC : rcw A C w) (hn : w.1.2.2 < 16) (hl : w.1.1.length ≤ 200) (hb : ∀ k, k < w.1.1.length → w.1.1.getD k 0 < 256) {Q : Option Value → rx_M → Prop} (hK1 : ∀ p C', jA w.1.1 = some p → rcw A C' (w_dr w) → Q (some (.int (-2 - nI p))) (gl C' S)) (hK2 : ∀ A' C', jA w.1.1 = none → rcw A' C' (w_code (w_dr w) w.1.1) → Q (some (.int (nI w.1.2.2))) (gl C' S)) : rx_X G MX10_code (d + 8) [.ref 0] (gl C S) 8 2000 Q (fun _ _ => False) := by
  refine rx_meth (by decide +kernel) rfl (Nat.le_of_ble_eq_true rfl) ?_
  refine rx_aload_n dX10_code_0 rfl rfl ?_
  refine g_getR hG hf_RX10_19 rfl dX10_code_1 rfl rfl rfl ?_
  refine g_getR hG hf_RX10_74 rfl dX10_code_4 rfl rfl rfl ?_
  refine gv_invV (as := []) hG okX3_isFull lk_RX10_78 rfl rfl dX10_code_7 rfl (by simp [Value.category]) (cf_fullN hG hC.2.1.2 hn) ?_
  rintro _ _ ⟨rfl, rfl⟩
  refine rx_if_eq (tgt := 23) dX10_code_10 (by decide) (fun _ => ?_) (fun q => absurd (by decide) q)
  refine rx_aload_n dX10_code_23 rfl rfl ?_
  refine g_getR hG hf_RX10_10 rfl dX10_code_24 rfl rfl rfl ?_
  refine gv_invV (as := []) hG okX4_fault lk_RX10_89 rfl rfl dX10_code_27 rfl (by simp [Value.category]) (cf_fault hG hC.1 hl hb) ?_
  rintro _ _ ⟨rfl, R, rfl⟩
  refine rx_istore_n dX10_code_30 (by decide) ?_
  refine rx_aload_n dX10_code_31 rfl rfl ?_
  refine g_getR hG hf_RX10_10 rfl dX10_code_32 rfl rfl rfl ?_
  refine rx_Wm (mc := 1 + 7) (ms := 200 + 1800) ?_ (by decide) (by decide)
  refine rx_invV (as := []) hG okX4_take lk_RX10_93 (gl_n rfl) rfl dX10_code_35 rfl (Nat.le_of_ble_eq_true rfl) (cf_take (m := w.1.1.length) hG ?_ hl (fun i hi => ?_)) ?_
  · show rx_k1 C.1 3 R 1 2 = _; rw [k1_ne _ (by decide)]; exact hC.1.1
  · show fits .byte (.int (rx_k1 C.1 3 R 2 i)) = true; rw [k1_ne _ (by decide), hC.1.2 i hi]; exact oc_fit _ (hb i hi)
  rintro _ _ ⟨rfl, C', rfl, hc⟩
  refine rx_astore_n dX10_code_38 (by decide) rfl ?_
  refine rx_iload_n dX10_code_39 rfl ?_
  refine rx_iconst (v := -1) dX10_code_40 rfl ?_
  cases hj : jA w.1.1 with
  | some p =>
    have hp := jA_lt hj hl
    refine rx_icmp_ne (tgt := 65) dX10_code_41 (by decide) (fun _ => ?_) (fun q => absurd (show nI p = -1 from q) (nI_n1 (by omega)))
    refine rx_bipush (v := -2) dX10_code_65 rfl ?_
    refine rx_iload_n dX10_code_67 rfl ?_
    refine rx_isub dX10_code_68 ?_
    refine rx_ti (y := -2 - nI p) rfl ?_
    exact rx_iret rfl dX10_code_69 (hK1 p _ hj (code_g hC hc))
  | none =>
    refine rx_icmp_ne (tgt := 65) dX10_code_41 (by decide) (fun q => absurd (show jI none = -1 from rfl) q) (fun _ => ?_)
    refine rx_aload_n dX10_code_44 rfl rfl ?_
    refine g_getR hG hf_RX10_19 rfl dX10_code_45 rfl rfl rfl ?_
    refine g_getR hG hf_RX10_74 rfl dX10_code_48 rfl rfl rfl ?_
    refine rx_Wm (mc := 6 + 1) (ms := 1799 + 1) ?_ (by decide) (by decide)
    refine ga_new hG hc_2 ⟨hw_843, hw_844, hw_6⟩ (by decide +kernel) dX10_code_51 ?_
    refine rx_dup dX10_code_54 rfl ?_
    refine rx_aload_n dX10_code_55 rfl rfl ?_
    refine rx_invI (mc := 6) (ms := 1799) (mc' := 0) (ms' := 0) (as := [.ref _]) hG okX2_init lk_RX10_99 dX10_code_56 rfl (Nat.le_of_ble_eq_true rfl) (ci_code hG ca_rk) ?_
    rintro _ _ ⟨rfl, rfl⟩
    have e5 : (ca (rx_u C'.1 1 2 (nI 0), C'.2) 2 1).1 5 1 = nI w.1.2.2 := by
      show rx_k1 (rx_u C'.1 1 2 (nI 0)) (102 + C'.2.2.2.2) (fun _ => 0) 5 1 = _
      rw [k1_ne _ (by omega), rx_une _ (by decide), (hc.1.1 5 (by omega) (by omega)).1]
      show rx_k1 C.1 3 R 5 1 = _
      rw [k1_ne _ (by decide)]; exact hC.2.1.2
    refine gv_invV (as := [.ref _]) hG okX3_add lk_RX10_102 rfl rfl dX10_code_59 rfl (by simp [Value.category]) (cf_add hG e5 hn ca_rk) ?_
    rintro _ _ ⟨rfl, rfl⟩
    refine rx_goto (tgt := 69) dX10_code_62 (by decide) ?_
    exact rx_iret rfl dX10_code_69 (hK2 _ _ hj (code_fin (C := C) (R := R) hC hc))

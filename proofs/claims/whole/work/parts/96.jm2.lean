theorem mf_code_s {G : rx_E} {d : Nat} {C : rx_M} {S : gs_T} (hG : rx_OK G) (h3 : S.1 52 3 = nI 16) : rx_C G MX11_code d [.ref 52] (gl C S) 0 0 (fun vv mu => vv = some (.int (nI 0)) ∧ mu = gl C (rx_u S.1 52 0 (nI 1), S.2)) := by
  refine rx_meth0 (by decide +kernel) rfl (Nat.le_of_ble_eq_true rfl) ?_
  refine rx_aload_n dX11_code_0 rfl rfl ?_
  refine rx_aload_n dX11_code_1 rfl rfl ?_
  refine gmv_getI (v := nI 16) hG hf_RX11_172 rfl dX11_code_2 rfl rfl rfl h3 ?_
  refine rx_bipush (v := nI 16) dX11_code_5 rfl ?_
  refine rx_icmp_ne (tgt := 14) dX11_code_7 (by decide) (fun h7 => (absurd h7 (by decide))) (fun h7 => ?_)
  refine rx_iconst (v := nI 1) dX11_code_10 rfl ?_
  refine rx_goto (tgt := 15) dX11_code_11 (by decide) ?_
  refine gm_putI hG hf_RX11_160 (gw_nf rfl rfl) rfl dX11_code_15 rfl rfl rfl rfl rfl ?_
  refine rx_aload_n dX11_code_18 rfl rfl ?_
  refine gmv_getI (v := nI 1) hG hf_RX11_160 rfl dX11_code_19 rfl rfl rfl (by simp [rx_ru]) ?_
  refine rx_if_le (tgt := 27) dX11_code_22 (by decide) (fun h22 => (absurd h22 (by decide))) (fun h22 => ?_)
  refine rx_iconst (v := nI 0) dX11_code_25 rfl ?_
  exact rx_iret rfl dX11_code_26 ⟨rfl, rfl⟩
/-- a row of octets laid behind others -/
def mC (S S' : gs_T) (N i : Nat) (ds : List Nat) : Prop := S'.2 = S.2 ∧ (∀ a, a ≠ 53 → S'.1 a = S.1 a) ∧ (∀ j, j < 200 * N → S'.1 53 j = S.1 53 j) ∧ ∀ t, t < i → S'.1 53 (200 * N + t) = nI (ds.getD t 0)
theorem lm_jc {G : rx_E} {d mc ms : Nat} {C : rx_M} {S : gs_T} {ds : List Nat} {N : Nat} {x1 : Int32} {Q : Option Value → rx_M → Prop} {Z : String → rx_M → Prop} (hG : rx_OK G) (hN : N < 16) (hl : ds.length ≤ 200) (h3 : S.1 52 3 = nI N) (h5 : ∀ k, k < ds.length → S.1 55 k = nI (ds.getD k 0)) (kk : ∀ S', mC S S' N ds.length ds → rx_W G MX11_code d 86 [(3, .int (nI ds.length)), (2, .int (nI ds.length)), (1, .int x1), (0, .ref 52)] [] (gl C S') mc ms Q Z) : ∀ (m i : Nat) (S' : gs_T), i + m = ds.length → mC S S' N i ds → rx_W G MX11_code d 54 [(3, .int (nI i)), (2, .int (nI ds.length)), (1, .int x1), (0, .ref 52)] [] (gl C S') mc ms Q Z := by
  intro m
  induction m with
  | zero =>
    intro i S' hi hm
    have hi : i = ds.length := by omega
    subst hi
    refine rx_iload_n dX11_code_54 rfl ?_
    refine rx_iload_n dX11_code_55 rfl ?_
    refine rx_icmp_ge (tgt := 86) dX11_code_56 (by decide) (fun _ => ?_) (fun q => absurd (by rw [nI_leI (by omega) (by omega)]; omega) q)
    exact kk S' hm
  | succ m ih =>
    intro i S' hi hm
    have h3S : S'.1 52 3 = nI N := by rw [hm.2.1 52 (by decide)]; exact h3
    have h5S : S'.1 55 i = nI (ds.getD i 0) := by rw [hm.2.1 55 (by decide)]; exact h5 i (by omega)
    refine rx_iload_n dX11_code_54 rfl ?_
    refine rx_iload_n dX11_code_55 rfl ?_
    refine rx_icmp_ge (tgt := 86) dX11_code_56 (by decide) (fun h56 => (absurd h56 (by rw [nI_leI (by omega) (by omega)]; omega))) (fun h56 => ?_)
    refine rx_aload_n dX11_code_59 rfl rfl ?_
    refine g_getR hG hf_RX11_7 rfl dX11_code_60 rfl rfl rfl ?_
    refine rx_sipush (v := nI 200) dX11_code_63 rfl ?_
    refine rx_aload_n dX11_code_66 rfl rfl ?_
    refine gmv_getI (v := nI N) hG hf_RX11_172 rfl dX11_code_67 rfl rfl rfl h3S ?_
    refine rx_imul dX11_code_70 ?_
    refine rx_ti (y := nI (200 * N)) ((pk_mul _ _).trans (congrArg nI (by omega))) ?_
    refine rx_iload_n dX11_code_71 rfl ?_
    refine rx_iadd dX11_code_72 ?_
    refine rx_ti (y := nI (200 * N + i)) ((nI_add _ _).trans (congrArg nI (by omega))) ?_
    refine rx_aload_n dX11_code_73 rfl rfl ?_
    refine g_getR hG hf_RX11_16 rfl dX11_code_74 rfl rfl rfl ?_
    refine rx_iload_n dX11_code_77 rfl ?_
    refine gmv_iald (j := i) (v := nI (ds.getD i 0)) hG dX11_code_78 rfl rfl rfl rfl (by omega) (by decide) h5S ?_
    refine gm_iast (j := 200 * N + i) hG dX11_code_79 rfl rfl rfl (congrArg nI (by omega)) (by omega) (by decide) ?_
    refine rx_iinc (v := nI (i + 1)) dX11_code_80 rfl ((nI_add _ 1).trans (congrArg nI (by omega))) ?_
    refine rx_goto (tgt := 54) dX11_code_83 (by decide) ?_
    refine rx_lv (lv' := [(3, .int (nI (i + 1))), (2, .int (nI ds.length)), (1, .int x1), (0, .ref 52)]) ⟨rfl, rfl, rfl, rfl, trivial⟩ ?_
    refine ih (i + 1) _ (by omega) ⟨hm.1, fun a ha => (rx_une _ ha).trans (hm.2.1 a ha), fun j hj => ?_, fun t ht => ?_⟩
    · show rx_u S'.1 53 (200 * N + i) _ 53 j = _
      rw [rx_ru, if_pos rfl, if_neg (by omega)]
      exact hm.2.2.1 j hj
    · show rx_u S'.1 53 (200 * N + i) _ 53 (200 * N + t) = _
      rw [rx_ru, if_pos rfl]
      split
      · rename_i q; rw [show t = i by omega]
      · exact hm.2.2.2 t (by omega)
theorem rmw_dr {S : gs_T} {w : wW} {R : Nat → Int32} (h : rmw S w) : rmw (rx_u (rx_k1 (rx_u S.1 52 0 (nI 0)) 56 R) 52 5 (nI 0), S.2) (w_dr w) := by
  have hg : rm_agE (fun _ => False) (fun k => k = 5) S (rx_u (rx_k1 (rx_u S.1 52 0 (nI 0)) 56 R) 52 5 (nI 0), S.2) := by
    refine ⟨fun a _ h1 h2 h3 => ⟨(rx_une _ (by omega)).trans ((k1_ne _ h3).trans (rx_une _ (by omega))), rfl⟩, fun k hF hk => ?_⟩
    have hF : ¬ k = 5 := hF
    show rx_u (rx_k1 (rx_u S.1 52 0 (nI 0)) 56 R) 52 5 (nI 0) 52 k = _
    rw [rx_ru, if_pos rfl, if_neg hF, k1_ne _ (by decide), rx_ru, if_pos rfl, if_neg (by omega)]
  exact ⟨⟨by simp [rx_ru, w_dr], fun k hk => absurd hk (Nat.not_lt_zero _)⟩, mK_agE h.2.1 hg (noF 53) (noF 54) (by decide), mO_agE h.2.2.1 hg (fun a _ _ => noF a) (by decide), mB_agE h.2.2.2.1 hg (fun a _ _ => noF a) (by decide), mV_agE h.2.2.2.2.1 hg (noF 79) (noF 80), mS_agE h.2.2.2.2.2.1 hg (noF 81), mN_agE h.2.2.2.2.2.2 hg (fun k h1 h2 => by show ¬ k = 5; omega)⟩
theorem rmw_code {S S' : gs_T} {w : wW} {ds : List Nat} (h : rmw S w) (hm : mC S S' w.1.2.2 ds.length ds) (hc : ∀ c, c < w.1.2.2 → (w.1.2.1 c).length ≤ 200) : rmw (rx_u (rx_u S'.1 54 w.1.2.2 (nI ds.length)) 52 3 (nI (w.1.2.2 + 1)), S'.2) (w_code w ds) := by
  have hg : rm_agE (fun a => a = 53 ∨ a = 54) (fun k => k = 3) S (rx_u (rx_u S'.1 54 w.1.2.2 (nI ds.length)) 52 3 (nI (w.1.2.2 + 1)), S'.2) := by
    refine ⟨fun a hE h1 h2 h3 => ?_, fun k hF hk => ?_⟩
    · have hE : ¬ (a = 53 ∨ a = 54) := hE
      exact ⟨(rx_une _ (by omega)).trans ((rx_une _ (by omega)).trans (hm.2.1 a (by omega))), congrFun hm.1 a⟩
    · have hF : ¬ k = 3 := hF
      show rx_u (rx_u S'.1 54 w.1.2.2 (nI ds.length)) 52 3 (nI (w.1.2.2 + 1)) 52 k = _
      rw [rx_ru, if_pos rfl, if_neg hF, rx_une _ (by decide), hm.2.1 52 (by decide)]
  refine ⟨mD_agE h.1 hg (by decide) (by decide), ⟨fun c hc' => ?_, by simp [rx_ru]; rfl⟩, mO_agE h.2.2.1 hg (fun a h1 h2 => by show ¬ (a = 53 ∨ a = 54); omega) (by decide), mB_agE h.2.2.2.1 hg (fun a h1 h2 => by show ¬ (a = 53 ∨ a = 54); omega) (by decide), mV_agE h.2.2.2.2.1 hg (by decide) (by decide), mS_agE h.2.2.2.2.2.1 hg (by decide), mN_agE h.2.2.2.2.2.2 hg (fun k h1 h2 => by show ¬ k = 3; omega)⟩
  have hc2 : c < w.1.2.2 + 1 := hc'
  show rx_u (rx_u S'.1 54 w.1.2.2 (nI ds.length)) 52 3 (nI (w.1.2.2 + 1)) 54 c = nI (if c = w.1.2.2 then ds else w.1.2.1 c).length ∧ ∀ k, k < (if c = w.1.2.2 then ds else w.1.2.1 c).length → rx_u (rx_u S'.1 54 w.1.2.2 (nI ds.length)) 52 3 (nI (w.1.2.2 + 1)) 53 (200 * c + k) = nI ((if c = w.1.2.2 then ds else w.1.2.1 c).getD k 0)
  have e53 : rx_u (rx_u S'.1 54 w.1.2.2 (nI ds.length)) 52 3 (nI (w.1.2.2 + 1)) 53 = S'.1 53 := (rx_une _ (by decide)).trans (rx_une _ (by decide))
  rw [e53, rx_une _ (by decide), rx_ru, if_pos rfl]
  by_cases e : c = w.1.2.2
  · rw [if_pos e, if_pos e, e]; exact ⟨rfl, fun k hk => hm.2.2.2 k hk⟩
  · rw [if_neg e, if_neg e]
    have h1 := h.2.1.1 c (by omega)
    have h2 := hc c (by omega)
    exact ⟨by rw [hm.2.1 54 (by decide)]; exact h1.1, fun k hk => by rw [hm.2.2.1 _ (by omega)]; exact h1.2 k hk⟩
set_option maxHeartbeats 1000000 in
theorem mf_code {G : rx_E} {d : Nat} {C : rx_M} {S : gs_T} (hG : rx_OK G) {w : wW} (hS : rmw S w) (hn : w.1.2.2 < 16) (hl : w.1.1.length ≤ 200) (hb : ∀ k, k < w.1.1.length → w.1.1.getD k 0 < 256) (hc : ∀ c, c < w.1.2.2 → (w.1.2.1 c).length ≤ 200) {Q : Option Value → rx_M → Prop} (hK1 : ∀ p S', jA w.1.1 = some p → rmw S' (w_dr w) → S'.1 52 0 = nI 0 → Q (some (.int (-2 - nI p))) (gl C S')) (hK2 : ∀ S', jA w.1.1 = none → rmw S' (w_code (w_dr w) w.1.1) → S'.1 52 0 = nI 0 → Q (some (.int (nI w.1.2.2))) (gl C S')) : rx_C G MX11_code (d + 2) [.ref 52] (gl C S) 0 0 Q := by
  refine rx_meth0 (by decide +kernel) rfl (Nat.le_of_ble_eq_true rfl) ?_
  refine rx_aload_n dX11_code_0 rfl rfl ?_
  refine rx_aload_n dX11_code_1 rfl rfl ?_
  refine gmv_getI (v := nI w.1.2.2) hG hf_RX11_172 rfl dX11_code_2 rfl rfl rfl hS.2.1.2 ?_
  refine rx_bipush (v := nI 16) dX11_code_5 rfl ?_
  refine rx_icmp_ne (tgt := 14) dX11_code_7 (by decide) (fun h7 => ?_) (fun h7 => (absurd h7 (by rw [nI_eq (by omega) (by omega)]; omega))) 
  refine rx_iconst (v := nI 0) dX11_code_14 rfl ?_
  refine gm_putI hG hf_RX11_160 (gw_nf rfl rfl) rfl dX11_code_15 rfl rfl rfl rfl rfl ?_
  refine rx_aload_n dX11_code_18 rfl rfl ?_
  refine gmv_getI (v := nI 0) hG hf_RX11_160 rfl dX11_code_19 rfl rfl rfl (by simp [rx_ru]) ?_
  refine rx_if_le (tgt := 27) dX11_code_22 (by decide) (fun h22 => ?_) (fun h22 => (absurd h22 (by decide))) 
  refine rx_aload_n dX11_code_27 rfl rfl ?_
  refine gv_invV (as := []) hG okX11_judged lk_RX11_175 rfl rfl dX11_code_28 rfl (by simp [Value.category]) (mf_judged (ds := w.1.1) hG ⟨by simpa [rx_ru] using hS.1.1, fun k hk => by simpa [rx_ru] using hS.1.2 k hk⟩ hl hb) ?_
  rintro _ _ ⟨rfl, R, rfl⟩
  refine rx_istore_n dX11_code_31 (by decide) ?_
  refine rx_aload_n dX11_code_32 rfl rfl ?_
  refine gmv_getI (v := nI w.1.1.length) hG hf_RX11_163 rfl dX11_code_33 rfl rfl rfl (by show rx_k1 (rx_u S.1 52 0 (nI 0)) 56 R 52 5 = _; rw [k1_ne _ (by decide)]; simpa [rx_ru] using hS.1.1) ?_
  refine rx_istore_n dX11_code_36 (by decide) ?_
  refine rx_aload_n dX11_code_37 rfl rfl ?_
  refine rx_iconst (v := nI 0) dX11_code_38 rfl ?_
  refine gm_putI hG hf_RX11_163 (gw_nf rfl rfl) rfl dX11_code_39 rfl rfl rfl rfl rfl ?_
  refine rx_iload_n dX11_code_42 rfl ?_
  refine rx_iconst (v := -1) dX11_code_43 rfl ?_
  have e0 : (rx_u (rx_k1 (rx_u S.1 52 0 (nI 0)) 56 R) 52 5 (nI 0), S.2).1 52 0 = nI 0 := by
    show rx_u (rx_k1 (rx_u S.1 52 0 (nI 0)) 56 R) 52 5 (nI 0) 52 0 = _
    rw [rx_ru, if_pos rfl, if_neg (by decide), k1_ne _ (by decide), rx_ru, if_pos rfl, if_pos rfl]
  cases hj : jA w.1.1 with
  | some p =>
    have hp := jA_lt hj hl
    refine rx_icmp_eq (tgt := 52) dX11_code_44 (by decide) (fun q => absurd (show nI p = -1 from q) (nI_n1 (by omega))) (fun _ => ?_)
    refine rx_bipush (v := -2) dX11_code_47 rfl ?_
    refine rx_iload_n dX11_code_49 rfl ?_
    refine rx_isub dX11_code_50 ?_
    refine rx_ti (y := -2 - nI p) rfl ?_
    exact rx_iret rfl dX11_code_51 (hK1 p _ hj (rmw_dr hS) e0)
  | none =>
    refine rx_icmp_eq (tgt := 52) dX11_code_44 (by decide) (fun _ => ?_) (fun q => absurd (show jI none = -1 from rfl) q)
    refine rx_iconst (v := nI 0) dX11_code_52 rfl ?_
    refine rx_istore_n dX11_code_53 (by decide) ?_
    refine rx_lv (lv' := [(3, .int (nI 0)), (2, .int (nI w.1.1.length)), (1, .int (jI none)), (0, .ref 52)]) ⟨rfl, rfl, rfl, rfl, trivial⟩ ?_
    have e3 : (rx_u (rx_k1 (rx_u S.1 52 0 (nI 0)) 56 R) 52 5 (nI 0), S.2).1 52 3 = nI w.1.2.2 := by
      show rx_u (rx_k1 (rx_u S.1 52 0 (nI 0)) 56 R) 52 5 (nI 0) 52 3 = _
      rw [rx_ru, if_pos rfl, if_neg (by decide), k1_ne _ (by decide), rx_ru, if_pos rfl, if_neg (by decide)]; exact hS.2.1.2
    refine lm_jc (S := (rx_u (rx_k1 (rx_u S.1 52 0 (nI 0)) 56 R) 52 5 (nI 0), S.2)) (N := w.1.2.2) (ds := w.1.1) hG hn hl e3 (fun k hk => ?_) (fun S' hm => ?_) w.1.1.length 0 _ (by omega) ⟨rfl, fun _ _ => rfl, fun _ _ => rfl, fun t ht => absurd ht (Nat.not_lt_zero _)⟩
    · show rx_u (rx_k1 (rx_u S.1 52 0 (nI 0)) 56 R) 52 5 (nI 0) 55 k = _
      rw [rx_une _ (by decide), k1_ne _ (by decide), rx_une _ (by decide)]; exact hS.1.2 k hk
    have e3S : S'.1 52 3 = nI w.1.2.2 := by rw [hm.2.1 52 (by decide)]; exact e3
    refine rx_aload_n dX11_code_86 rfl rfl ?_
    refine g_getR hG hf_RX11_13 rfl dX11_code_87 rfl rfl rfl ?_
    refine rx_aload_n dX11_code_90 rfl rfl ?_
    refine gmv_getI (v := nI w.1.2.2) hG hf_RX11_172 rfl dX11_code_91 rfl rfl rfl e3S ?_
    refine rx_iload_n dX11_code_94 rfl ?_
    refine gm_iast (j := w.1.2.2) hG dX11_code_95 rfl rfl rfl rfl hn (by decide) ?_
    refine rx_aload_n dX11_code_96 rfl rfl ?_
    refine rx_dup dX11_code_97 rfl ?_
    refine gmv_getI (v := nI w.1.2.2) hG hf_RX11_172 rfl dX11_code_98 rfl rfl rfl (by simpa [rx_ru] using e3S) ?_
    refine rx_iconst (v := nI 1) dX11_code_101 rfl ?_
    refine rx_iadd dX11_code_102 ?_
    refine rx_ti (y := nI (w.1.2.2 + 1)) (nI_add _ _) ?_
    refine gm_putI hG hf_RX11_172 (gw_nf rfl rfl) rfl dX11_code_103 rfl rfl rfl rfl rfl ?_
    refine rx_aload_n dX11_code_106 rfl rfl ?_
    refine gmv_getI (v := nI (w.1.2.2 + 1)) hG hf_RX11_172 rfl dX11_code_107 rfl rfl rfl (by simp [rx_ru]) ?_
    refine rx_iconst (v := nI 1) dX11_code_110 rfl ?_
    refine rx_isub dX11_code_111 ?_
    refine rx_ti (y := nI w.1.2.2) ((pk_sub (by omega)).trans (congrArg nI (by omega))) ?_
    refine rx_iret rfl dX11_code_112 (hK2 _ hj (rmw_code (rmw_dr (R := R) hS) hm hc) ?_)
    show rx_u (rx_u S'.1 54 w.1.2.2 (nI w.1.1.length)) 52 3 (nI (w.1.2.2 + 1)) 52 0 = _
    rw [rx_ru, if_pos rfl, if_neg (by decide), rx_une _ (by decide), hm.2.1 52 (by decide)]; exact e0
theorem F_code {G : rx_E} {d n : Nat} {w : wW} (hG : rx_OK G) (hN : rx_NC G) (hv : vW w n) (hn : n ≤ 512)  : fP n w (fun C S Q => rx_H G ML_code hL_code (d + 9) [.ref 0, .ref 101] (gl C S) 8 2000 Q) (fun C S Q => rx_C G MX11_code (d + 9) [.ref 52] (gl C S) 0 0 Q) mRI := by
  have hnb := hv.2.2.2.1.1.2
  have hl := hv.1.1
  have hb := hv.1.2
  by_cases h16 : w.1.2.2 = 16
  · exact ⟨1, 0, w, by decide, vW_up hv (Nat.le_succ n), fun A C S hC => rx_Hm (HL_code_s hG hN (cf_code_s hG hC.2.1.2 h16)) (hR_x hC (by decide)), fun C S hS => rx_Cm (mf_code_s hG (by rw [← h16]; exact hS.2.1.2)) (mRI_t hS (fun h => absurd h (by decide)))⟩
  have hn16 : w.1.2.2 < 16 := by have := hv.2.1.1; omega
  have hc : ∀ c, c < w.1.2.2 → (w.1.2.1 c).length ≤ 200 := fun c hc => (hv.2.1.2 c hc).1
  have hup := vW_up hv (Nat.le_succ n)
  cases hj : jA w.1.1 with
  | some p =>
    refine ⟨0, (-2 - nI p).toInt64, w_dr w, by decide, ⟨⟨Nat.zero_le _, fun k hk => absurd hk (Nat.not_lt_zero _)⟩, hup.2⟩, fun A C S hC => ?_, fun C S hS => ?_⟩
    · refine rx_Hm (HL_code (r := -2 - nI p) (P := fun C' => rcw A C' (w_dr w)) hG (cf_code hG hC hn16 hl hb (fun p' C' hp hC' => ?_) (fun A' C' hp _ => ?_))) ?_
      · rw [hj] at hp; cases hp; exact ⟨rfl, C', rfl, hC'⟩
      · rw [hj] at hp; cases hp
      · rintro _ _ ⟨rfl, C', rfl, hA⟩
        exact ⟨rfl, A, _, rfl, rcw_ag hA rc_ag_out, fun _ => by simp [rx_ru]⟩
    · refine mf_code hG hS hn16 hl hb hc (fun p' S' hp hS' h0 => ?_) (fun S' hp _ _ => ?_)
      · rw [hj] at hp; cases hp; exact ⟨S', _, rfl, rfl, hS', h0, fun _ => rfl⟩
      · rw [hj] at hp; cases hp
  | none =>
    refine ⟨0, (nI w.1.2.2).toInt64, w_code (w_dr w) w.1.1, by decide, ⟨⟨Nat.zero_le _, fun k hk => absurd hk (Nat.not_lt_zero _)⟩, ⟨hn16, fun c hc' => ?_⟩, hup.2.2.1, ⟨hup.2.2.2.1.1, fun b hb' => ?_, hup.2.2.2.1.2.2⟩, hup.2.2.2.2⟩, fun A C S hC => ?_, fun C S hS => ?_⟩
    · have hc2 : c < w.1.2.2 + 1 := hc'
      show vw_code (if c = w.1.2.2 then w.1.1 else w.1.2.1 c)
      by_cases e : c = w.1.2.2
      · rw [if_pos e]; exact jv_code hj hl hb
      · rw [if_neg e]; exact hv.2.1.2 c (by omega)
    · obtain ⟨q1, q2, q3⟩ := hup.2.2.2.1.2.1 b hb'
      refine ⟨q1, fun a ha => ?_, q3⟩
      obtain ⟨c, hc1, hc2⟩ := q2 a ha
      have hc1 : c ≤ w.1.2.2 := hc1
      exact ⟨c, by show c ≤ w.1.2.2 + 1; omega, hc2⟩
    · refine rx_Hm (HL_code (r := nI w.1.2.2) (P := fun C' => ∃ A', rcw A' C' (w_code (w_dr w) w.1.1)) hG (cf_code hG hC hn16 hl hb (fun p' C' hp _ => ?_) (fun A' C' hp hC' => ?_))) ?_
      · rw [hj] at hp; cases hp
      · exact ⟨rfl, C', rfl, A', hC'⟩
      · rintro _ _ ⟨rfl, C', rfl, A', hA⟩
        exact ⟨rfl, A', _, rfl, rcw_ag hA rc_ag_out, fun _ => by simp [rx_ru]⟩
    · refine mf_code hG hS hn16 hl hb hc (fun p' S' hp _ _ => ?_) (fun S' hp hS' h0 => ?_)
      · rw [hj] at hp; cases hp
      · exact ⟨S', _, rfl, rfl, hS', h0, fun _ => rfl⟩

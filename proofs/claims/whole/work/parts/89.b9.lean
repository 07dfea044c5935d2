theorem mf_block_b {G : rx_E} {d : Nat} {C : rx_M} {S : gs_T} (hG : rx_OK G) {nb : Nat} (h15 : S.1 52 15 = nI nb) (hnb : nb ≤ 40) {x y : Int32} (hx : wi_out x nb) : rx_C G MX11_block (d + 2) [.ref 52, .int x, .int y] (gl C S) 0 0 (fun vv mu => vv = some (.int (nI 0)) ∧ mu = gl C (rx_u S.1 52 0 (nI 1), S.2)) := by
  refine rx_meth0 (by decide +kernel) rfl (Nat.le_of_ble_eq_true rfl) ?_
  refine rx_aload_n dX11_block_0 rfl rfl ?_
  refine rx_iload_n dX11_block_1 rfl ?_
  refine rx_if_lt (tgt := 21) dX11_block_2 (by decide) (fun h2 => ?_) (fun h2 => ?_)
  · refine rx_iconst (v := nI 1) dX11_block_21 rfl ?_
    refine rx_goto (tgt := 39) dX11_block_22 (by decide) ?_
    refine gm_putI hG hf_RX11_160 (gw_nf rfl rfl) rfl dX11_block_39 rfl rfl rfl rfl rfl ?_
    refine rx_aload_n dX11_block_42 rfl rfl ?_
    refine gmv_getI (v := nI 1) hG hf_RX11_160 rfl dX11_block_43 rfl rfl rfl (by simp [rx_ru]) ?_
    refine rx_if_le (tgt := 51) dX11_block_46 (by decide) (fun h46 => (absurd h46 (by decide))) (fun h46 => ?_)
    refine rx_iconst (v := nI 0) dX11_block_49 rfl ?_
    exact rx_iret rfl dX11_block_50 ⟨rfl, rfl⟩
  · refine rx_iload_n dX11_block_5 rfl ?_
    refine rx_aload_n dX11_block_6 rfl rfl ?_
    refine gmv_getI (v := nI nb) hG hf_RX11_156 rfl dX11_block_7 rfl rfl rfl h15 ?_
    refine rx_icmp_ge (tgt := 21) dX11_block_10 (by decide) (fun h10 => ?_) (fun h10 => wi_d1 hx h2 h10) 
    refine rx_iconst (v := nI 1) dX11_block_21 rfl ?_
    refine rx_goto (tgt := 39) dX11_block_22 (by decide) ?_
    refine gm_putI hG hf_RX11_160 (gw_nf rfl rfl) rfl dX11_block_39 rfl rfl rfl rfl rfl ?_
    refine rx_aload_n dX11_block_42 rfl rfl ?_
    refine gmv_getI (v := nI 1) hG hf_RX11_160 rfl dX11_block_43 rfl rfl rfl (by simp [rx_ru]) ?_
    refine rx_if_le (tgt := 51) dX11_block_46 (by decide) (fun h46 => (absurd h46 (by decide))) (fun h46 => ?_)
    refine rx_iconst (v := nI 0) dX11_block_49 rfl ?_
    exact rx_iret rfl dX11_block_50 ⟨rfl, rfl⟩
theorem mf_block_m {G : rx_E} {d : Nat} {C : rx_M} {S : gs_T} (hG : rx_OK G) {nb : Nat} (h15 : S.1 52 15 = nI nb) (hnb : nb ≤ 40) {b : Nat} {y : Int32} (hb : b < nb) (hy : wi_out y 32) : rx_C G MX11_block (d + 2) [.ref 52, .int (nI b), .int y] (gl C S) 0 0 (fun vv mu => vv = some (.int (nI 0)) ∧ mu = gl C (rx_u S.1 52 0 (nI 1), S.2)) := by
  refine rx_meth0 (by decide +kernel) rfl (Nat.le_of_ble_eq_true rfl) ?_
  refine rx_aload_n dX11_block_0 rfl rfl ?_
  refine rx_iload_n dX11_block_1 rfl ?_
  refine rx_if_lt (tgt := 21) dX11_block_2 (by decide) (fun h2 => (absurd h2 (nI_pos (by omega)))) (fun h2 => ?_)
  refine rx_iload_n dX11_block_5 rfl ?_
  refine rx_aload_n dX11_block_6 rfl rfl ?_
  refine gmv_getI (v := nI nb) hG hf_RX11_156 rfl dX11_block_7 rfl rfl rfl h15 ?_
  refine rx_icmp_ge (tgt := 21) dX11_block_10 (by decide) (fun h10 => (absurd h10 (by rw [nI_leI (by omega) (by omega)]; omega))) (fun h10 => ?_)
  refine rx_iload_n dX11_block_13 rfl ?_
  refine rx_i2l dX11_block_14 ?_
  refine rx_invS0 (as := [.long _]) hG okX11_isAccount lk_RX11_181 dX11_block_15 rfl (by simp [Value.category]) (cm_isAccountF hG (acct_out hy)) ?_
  rintro _ _ ⟨rfl, rfl⟩
  refine rx_if_ne (tgt := 25) dX11_block_18 (by decide) (fun h18 => (absurd h18 (by decide))) (fun h18 => ?_)
  refine rx_iconst (v := nI 1) dX11_block_21 rfl ?_
  refine rx_goto (tgt := 39) dX11_block_22 (by decide) ?_
  refine gm_putI hG hf_RX11_160 (gw_nf rfl rfl) rfl dX11_block_39 rfl rfl rfl rfl rfl ?_
  refine rx_aload_n dX11_block_42 rfl rfl ?_
  refine gmv_getI (v := nI 1) hG hf_RX11_160 rfl dX11_block_43 rfl rfl rfl (by simp [rx_ru]) ?_
  refine rx_if_le (tgt := 51) dX11_block_46 (by decide) (fun h46 => (absurd h46 (by decide))) (fun h46 => ?_)
  refine rx_iconst (v := nI 0) dX11_block_49 rfl ?_
  exact rx_iret rfl dX11_block_50 ⟨rfl, rfl⟩
theorem mf_block_s {G : rx_E} {d : Nat} {C : rx_M} {S : gs_T} (hG : rx_OK G) {nb : Nat} (h15 : S.1 52 15 = nI nb) (hnb : nb ≤ 40) {b mk : Nat} (hb : b < nb) (hmk : mk < 32) (h40 : nb = 40) : rx_C G MX11_block (d + 2) [.ref 52, .int (nI b), .int (nI mk)] (gl C S) 0 0 (fun vv mu => vv = some (.int (nI 0)) ∧ mu = gl C (rx_u S.1 52 0 (nI 2), S.2)) := by
  refine rx_meth0 (by decide +kernel) rfl (Nat.le_of_ble_eq_true rfl) ?_
  subst h40
  refine rx_aload_n dX11_block_0 rfl rfl ?_
  refine rx_iload_n dX11_block_1 rfl ?_
  refine rx_if_lt (tgt := 21) dX11_block_2 (by decide) (fun h2 => (absurd h2 (nI_pos (by omega)))) (fun h2 => ?_)
  refine rx_iload_n dX11_block_5 rfl ?_
  refine rx_aload_n dX11_block_6 rfl rfl ?_
  refine gmv_getI (v := nI 40) hG hf_RX11_156 rfl dX11_block_7 rfl rfl rfl h15 ?_
  refine rx_icmp_ge (tgt := 21) dX11_block_10 (by decide) (fun h10 => (absurd h10 (by rw [nI_leI (by omega) (by omega)]; omega))) (fun h10 => ?_)
  refine rx_iload_n dX11_block_13 rfl ?_
  refine rx_i2l dX11_block_14 ?_
  refine rx_tl (y := lN mk) (nI_l (by omega)) ?_
  refine rx_invS0 (as := [.long _]) hG okX11_isAccount lk_RX11_181 dX11_block_15 rfl (by simp [Value.category]) (cm_isAccountT hG (lN_isacct hmk)) ?_
  rintro _ _ ⟨rfl, rfl⟩
  refine rx_if_ne (tgt := 25) dX11_block_18 (by decide) (fun h18 => ?_) (fun h18 => (absurd h18 (by decide))) 
  refine rx_aload_n dX11_block_25 rfl rfl ?_
  refine gmv_getI (v := nI 40) hG hf_RX11_156 rfl dX11_block_26 rfl rfl rfl h15 ?_
  refine rx_bipush (v := nI 40) dX11_block_29 rfl ?_
  refine rx_icmp_ne (tgt := 38) dX11_block_31 (by decide) (fun h31 => (absurd h31 (by decide))) (fun h31 => ?_)
  refine rx_iconst (v := nI 2) dX11_block_34 rfl ?_
  refine rx_goto (tgt := 39) dX11_block_35 (by decide) ?_
  refine gm_putI hG hf_RX11_160 (gw_nf rfl rfl) rfl dX11_block_39 rfl rfl rfl rfl rfl ?_
  refine rx_aload_n dX11_block_42 rfl rfl ?_
  refine gmv_getI (v := nI 2) hG hf_RX11_160 rfl dX11_block_43 rfl rfl rfl (by simp [rx_ru]) ?_
  refine rx_if_le (tgt := 51) dX11_block_46 (by decide) (fun h46 => (absurd h46 (by decide))) (fun h46 => ?_)
  refine rx_iconst (v := nI 0) dX11_block_49 rfl ?_
  exact rx_iret rfl dX11_block_50 ⟨rfl, rfl⟩
theorem lm_bcopy {G : rx_E} {d mc ms : Nat} {C : rx_M} {S : gs_T} {p mk b : Nat} {n : Nat → Int64} {Q : Option Value → rx_M → Prop} {Z : String → rx_M → Prop} (hG : rx_OK G) (hb40 : p < 40) (hst : ∀ k, k < 608 → S.2 71 (608 * p + k) = n k) (kk : ∀ S', mzr 82 S S' → (∀ t, t < 608 → S'.2 82 t = n t) → rx_W G MX11_block d 134 [(4, .int (nI 608)), (0, .ref 52), (1, .int (nI p)), (2, .int (nI mk)), (3, .int (nI b))] [] (gl C S') mc ms Q Z) : ∀ (m k : Nat) (S' : gs_T), k + m = 608 → mzr 82 S S' → (∀ t, t < k → S'.2 82 t = n t) → rx_W G MX11_block d 100 [(4, .int (nI k)), (0, .ref 52), (1, .int (nI p)), (2, .int (nI mk)), (3, .int (nI b))] [] (gl C S') mc ms Q Z := by
  intro m
  induction m with
  | zero =>
    intro k S' hk hm hd
    have hk : k = 608 := by omega
    subst hk
    refine rx_iload dX11_block_100 rfl ?_
    refine rx_sipush (v := nI 608) dX11_block_102 rfl ?_
    refine rx_icmp_ge (tgt := 134) dX11_block_105 (by decide) (fun _ => ?_) (fun q => absurd (by decide) q)
    exact kk S' hm hd
  | succ m ih =>
    intro k S' hk hm hd
    refine rx_iload dX11_block_100 rfl ?_
    refine rx_sipush (v := nI 608) dX11_block_102 rfl ?_
    refine rx_icmp_ge (tgt := 134) dX11_block_105 (by decide) (fun h105 => (absurd h105 (by rw [nI_leI (by omega) (by omega)]; omega))) (fun h105 => ?_)
    refine rx_aload_n dX11_block_108 rfl rfl ?_
    refine g_getR hG hf_RX11_99 rfl dX11_block_109 rfl rfl rfl ?_
    refine rx_iload dX11_block_112 rfl ?_
    refine rx_aload_n dX11_block_114 rfl rfl ?_
    refine g_getR hG hf_RX11_66 rfl dX11_block_115 rfl rfl rfl ?_
    refine rx_sipush (v := nI 608) dX11_block_118 rfl ?_
    refine rx_iload_n dX11_block_121 rfl ?_
    refine rx_imul dX11_block_122 ?_
    refine rx_ti (y := nI (608 * p)) ((pk_mul _ _).trans (congrArg nI (by omega))) ?_
    refine rx_iload dX11_block_123 rfl ?_
    refine rx_iadd dX11_block_125 ?_
    refine rx_ti (y := nI (k + 608 * p)) ((nI_add _ _).trans (congrArg nI (by omega))) ?_
    refine gmv_lald (j := 608 * p + k) (v := n k) hG dX11_block_126 rfl rfl rfl (congrArg nI (by omega)) (by omega) (by decide) ((congrFun (hm.2 71 (by decide)) _).trans (hst k (by omega))) ?_
    refine gm_last (j := k) hG dX11_block_127 rfl rfl rfl rfl (by omega) (by decide) ?_
    refine rx_iinc (v := nI (k + 1)) dX11_block_128 rfl ((nI_add _ 1).trans (congrArg nI (by omega))) ?_
    refine rx_goto (tgt := 100) dX11_block_131 (by decide) ?_
    refine rx_lv (lv' := [(4, .int (nI (k + 1))), (0, .ref 52), (1, .int (nI p)), (2, .int (nI mk)), (3, .int (nI b))]) ⟨rfl, rfl, rfl, rfl, rfl, trivial⟩ ?_
    refine ih (k + 1) _ (by omega) (mzr_u hm) (fun t ht => ?_)
    show rx_u S'.2 82 k _ 82 t = _
    rw [rx_ru, if_pos rfl]
    split
    · rename_i q; subst q; rfl
    · exact hd t (by omega)
theorem lm_bback {G : rx_E} {d mc ms : Nat} {C : rx_M} {S : gs_T} {p mk b : Nat} {lx : Int32} {n : Nat → Int64} {Q : Option Value → rx_M → Prop} {Z : String → rx_M → Prop} (hG : rx_OK G) (hb40 : b < 40) (hst : ∀ k, k < 608 → S.2 82 k = n k) (kk : ∀ S', mzr 71 S S' → (∀ j, j < 608 * b → S'.2 71 j = S.2 71 j) → (∀ t, t < 608 → S'.2 71 (608 * b + t) = n t) → rx_W G MX11_block d 266 [(5, .int (nI 608)), (4, .int lx), (0, .ref 52), (1, .int (nI p)), (2, .int (nI mk)), (3, .int (nI b))] [] (gl C S') mc ms Q Z) : ∀ (m k : Nat) (S' : gs_T), k + m = 608 → mzr 71 S S' → (∀ j, j < 608 * b → S'.2 71 j = S.2 71 j) → (∀ t, t < k → S'.2 71 (608 * b + t) = n t) → rx_W G MX11_block d 232 [(5, .int (nI k)), (4, .int lx), (0, .ref 52), (1, .int (nI p)), (2, .int (nI mk)), (3, .int (nI b))] [] (gl C S') mc ms Q Z := by
  intro m
  induction m with
  | zero =>
    intro k S' hk hm hl hd
    have hk : k = 608 := by omega
    subst hk
    refine rx_iload dX11_block_232 rfl ?_
    refine rx_sipush (v := nI 608) dX11_block_234 rfl ?_
    refine rx_icmp_ge (tgt := 266) dX11_block_237 (by decide) (fun _ => ?_) (fun q => absurd (by decide) q)
    exact kk S' hm hl hd
  | succ m ih =>
    intro k S' hk hm hl hd
    refine rx_iload dX11_block_232 rfl ?_
    refine rx_sipush (v := nI 608) dX11_block_234 rfl ?_
    refine rx_icmp_ge (tgt := 266) dX11_block_237 (by decide) (fun h237 => (absurd h237 (by rw [nI_leI (by omega) (by omega)]; omega))) (fun h237 => ?_)
    refine rx_aload_n dX11_block_240 rfl rfl ?_
    refine g_getR hG hf_RX11_66 rfl dX11_block_241 rfl rfl rfl ?_
    refine rx_sipush (v := nI 608) dX11_block_244 rfl ?_
    refine rx_iload_n dX11_block_247 rfl ?_
    refine rx_imul dX11_block_248 ?_
    refine rx_ti (y := nI (608 * b)) ((pk_mul _ _).trans (congrArg nI (by omega))) ?_
    refine rx_iload dX11_block_249 rfl ?_
    refine rx_iadd dX11_block_251 ?_
    refine rx_ti (y := nI (608 * b + k)) ((nI_add _ _).trans (congrArg nI (by omega))) ?_
    refine rx_aload_n dX11_block_252 rfl rfl ?_
    refine g_getR hG hf_RX11_99 rfl dX11_block_253 rfl rfl rfl ?_
    refine rx_iload dX11_block_256 rfl ?_
    refine gmv_lald (j := k) (v := n k) hG dX11_block_258 rfl rfl rfl rfl (by omega) (by decide) ((congrFun (hm.2 82 (by decide)) _).trans (hst k (by omega))) ?_
    refine gm_last (j := 608 * b + k) hG dX11_block_259 rfl rfl rfl (congrArg nI (by omega)) (by omega) (by decide) ?_
    refine rx_iinc (v := nI (k + 1)) dX11_block_260 rfl ((nI_add _ 1).trans (congrArg nI (by omega))) ?_
    refine rx_goto (tgt := 232) dX11_block_263 (by decide) ?_
    refine rx_lv (lv' := [(5, .int (nI (k + 1))), (4, .int lx), (0, .ref 52), (1, .int (nI p)), (2, .int (nI mk)), (3, .int (nI b))]) ⟨rfl, rfl, rfl, rfl, rfl, rfl, trivial⟩ ?_
    refine ih (k + 1) _ (by omega) (mzr_u hm) (fun j hj => ?_) (fun t ht => ?_)
    · show rx_u S'.2 71 (608 * b + k) _ 71 j = _
      rw [rx_ru, if_pos rfl, if_neg (by omega)]
      exact hl j hj
    · show rx_u S'.2 71 (608 * b + k) _ 71 (608 * b + t) = _
      rw [rx_ru, if_pos rfl]
      split
      · rename_i q; rw [show t = k by omega]
      · exact hd t (by omega)
/-- the rows of the blocks before nb, and all that is no block's, are as they were -/
def mBk (S S' : gs_T) (nb : Nat) : Prop :=
  (∀ a, 53 ≤ a → a < 82 → ¬ (64 ≤ a ∧ a ≤ 78) → S'.1 a = S.1 a ∧ S'.2 a = S.2 a) ∧ (∀ k, (k = 3 ∨ k = 5 ∨ k = 61 ∨ k = 62 ∨ k = 63) → S'.1 52 k = S.1 52 k) ∧ (S'.1 52 7 = nI 0 ∧ S'.1 52 15 = nI (nb + 1)) ∧ (∀ a, 64 ≤ a → a ≤ 70 → ∀ j, j < nb → S'.1 a j = S.1 a j) ∧ (∀ j, j < 608 * nb → S'.2 71 j = S.2 71 j) ∧ (∀ j, j < 10 * nb → S'.1 72 j = S.1 72 j ∧ S'.1 73 j = S.1 73 j ∧ S'.2 74 j = S.2 74 j) ∧ ∀ j, j < 60 * nb → S'.1 75 j = S.1 75 j ∧ S'.2 76 j = S.2 76 j ∧ S'.2 77 j = S.2 77 j ∧ S'.1 78 j = S.1 78 j
theorem rmw_block {S S' : gs_T} {w : wW} {q : wB} (h : rmw S w) (hk : mBk S S' w.2.2.1.1) (hq : mB1 S' w.2.2.1.1 q) (h70 : S'.1 70 w.2.2.1.1 = bI false) (hc : q.2.2.2.2.2 = 0) (h1 : 1 ≤ w.2.2.1.1) (hbm : ∀ b, b < w.2.2.1.1 → (w.2.2.1.2 b).1.2.2.1 ≤ 10 ∧ (w.2.2.1.2 b).1.2.2.2 ≤ 60) : rmw S' (w_block w q) := by
  obtain ⟨k1, k2, ⟨k3, k4⟩, k5, k6, k7, k8⟩ := hk
  obtain ⟨h1', h2, h3, h4, h5, h6, h7⟩ := h
  have e := fun a x y z => (k1 a x y z)
  refine ⟨?_, ?_, ⟨k3, fun i hi => absurd hi (Nat.not_lt_zero _)⟩, ⟨k4, fun b hb => ?_⟩, ?_, ?_, ?_⟩
  · unfold mD; rw [k2 5 (by omega), (e 55 (by decide) (by decide) (by decide)).1]; exact h1'
  · unfold mK; rw [k2 3 (by omega), (e 53 (by decide) (by decide) (by decide)).1, (e 54 (by decide) (by decide) (by decide)).1]; exact h2
  · have hb' : b < w.2.2.1.1 + 1 := hb
    show mB1 S' b (if b = w.2.2.1.1 then q else w.2.2.1.2 b) ∧ S'.1 70 b = bI (decide (b = 0 ∨ 2 * w_all w.2.2.2.1.1 < 3 * (if b = w.2.2.1.1 then q else w.2.2.1.2 b).2.2.2.2.2))
    by_cases eb : b = w.2.2.1.1
    · rw [if_pos eb]
      subst eb
      refine ⟨hq, ?_⟩
      rw [h70, hc, decide_eq_false (by omega)]
    · rw [if_neg eb]
      have hb2 : b < w.2.2.1.1 := by omega
      obtain ⟨⟨⟨a1, a2, a3, a4, a5, a6⟩, a7, a8, a9⟩, a10⟩ := h4.2 b hb2
      obtain ⟨m1, m2⟩ := hbm b hb2
      refine ⟨⟨⟨?_, ?_, ?_, ?_, ?_, ?_⟩, fun k hk => ?_, fun i hi => ?_, fun i hi => ?_⟩, ?_⟩
      · rw [k5 64 (by decide) (by decide) b hb2]; exact a1
      · rw [k5 65 (by decide) (by decide) b hb2]; exact a2
      · rw [k5 66 (by decide) (by decide) b hb2]; exact a3
      · rw [k5 67 (by decide) (by decide) b hb2]; exact a4
      · rw [k5 68 (by decide) (by decide) b hb2]; exact a5
      · rw [k5 69 (by decide) (by decide) b hb2]; exact a6
      · rw [k6 _ (by omega)]; exact a7 k hk
      · obtain ⟨q1, q2, q3⟩ := k7 (10 * b + i) (by omega)
        rw [q1, q2, q3]; exact a8 i hi
      · obtain ⟨q1, q2, q3, q4⟩ := k8 (60 * b + i) (by omega)
        rw [q1, q2, q3, q4]; exact a9 i hi
      · rw [k5 70 (by decide) (by decide) b hb2]; exact a10
  · unfold mV; rw [(e 79 (by decide) (by decide) (by decide)).1, (e 80 (by decide) (by decide) (by decide)).1]; exact h5
  · unfold mS; rw [(e 81 (by decide) (by decide) (by decide)).2]; exact h6
  · unfold mN; rw [k2 61 (by omega), k2 62 (by omega), k2 63 (by omega)]; exact h7
theorem mblk_fin {S S1 S3 S4 : gs_T} {w : wW} {p mk : Nat} {q0 : wB} (hS : rmw S w) (hm : mzr 82 (rx_u (rx_u (rx_u (rx_u (rx_u S.1 52 0 (nI 0)) 52 15 (nI (w.2.2.1.1 + 1))) 64 w.2.2.1.1 (nI p)) 65 w.2.2.1.1 (nI (q0.1.2.1 + 1))) 66 w.2.2.1.1 (nI w.2.1.1), S.2) S1) (hL : mL (rx_u (rx_u (rx_u S1.1 67 w.2.2.1.1 (nI 0)) 52 51 (nI (q0.1.2.1 + 1))) 68 w.2.2.1.1 (nI 0), S1.2) S3 w.2.2.1.1 w.2.1.1 (o_all w.1.2.1 w.1.2.2 (q0.1.2.1 + 1) mk w.2.1.2 (q0.2.1, 0, (fun _ => (0, 0, 0, 0)), (fun _ => (0, 0, 0)), nI 0) w.2.1.1)) (hm4 : mzr 71 S3 S4) (hl4 : ∀ j, j < 608 * w.2.2.1.1 → S4.2 71 j = S3.2 71 j) (hd4 : ∀ k, k < 608 → S4.2 71 (608 * w.2.2.1.1 + k) = (o_all w.1.2.1 w.1.2.2 (q0.1.2.1 + 1) mk w.2.1.2 (q0.2.1, 0, (fun _ => (0, 0, 0, 0)), (fun _ => (0, 0, 0)), nI 0) w.2.1.1).1 k) (h1b : 1 ≤ w.2.2.1.1) (hbm : ∀ b, b < w.2.2.1.1 → (w.2.2.1.2 b).1.2.2.1 ≤ 10 ∧ (w.2.2.1.2 b).1.2.2.2 ≤ 60) (h10 : w.2.1.1 ≤ 10) : rmw (rx_u (rx_u (rx_u S4.1 52 7 (nI 0)) 69 w.2.2.1.1 (nI 0)) 70 w.2.2.1.1 (nI 0), S4.2) (w_block w ((nI p, (q0.1.2.1 + 1), w.2.1.1, min 60 (o_all w.1.2.1 w.1.2.2 (q0.1.2.1 + 1) mk w.2.1.2 (q0.2.1, 0, (fun _ => (0, 0, 0, 0)), (fun _ => (0, 0, 0)), nI 0) w.2.1.1).2.1), (o_all w.1.2.1 w.1.2.2 (q0.1.2.1 + 1) mk w.2.1.2 (q0.2.1, 0, (fun _ => (0, 0, 0, 0)), (fun _ => (0, 0, 0)), nI 0) w.2.1.1).1, (o_all w.1.2.1 w.1.2.2 (q0.1.2.1 + 1) mk w.2.1.2 (q0.2.1, 0, (fun _ => (0, 0, 0, 0)), (fun _ => (0, 0, 0)), nI 0) w.2.1.1).2.2.2.1, (o_all w.1.2.1 w.1.2.2 (q0.1.2.1 + 1) mk w.2.1.2 (q0.2.1, 0, (fun _ => (0, 0, 0, 0)), (fun _ => (0, 0, 0)), nI 0) w.2.1.1).2.2.1, ((o_all w.1.2.1 w.1.2.2 (q0.1.2.1 + 1) mk w.2.1.2 (q0.2.1, 0, (fun _ => (0, 0, 0, 0)), (fun _ => (0, 0, 0)), nI 0) w.2.1.1).2.2.2.2, 0))) := by
  have e1 : S1.1 = (rx_u (rx_u (rx_u (rx_u (rx_u S.1 52 0 (nI 0)) 52 15 (nI (w.2.2.1.1 + 1))) 64 w.2.2.1.1 (nI p)) 65 w.2.2.1.1 (nI (q0.1.2.1 + 1))) 66 w.2.2.1.1 (nI w.2.1.1), S.2).1 := hm.1
  have e4 : S4.1 = S3.1 := hm4.1
  have eI : ∀ a, 53 ≤ a → a ≠ 64 → a ≠ 65 → a ≠ 66 → a ≠ 67 → a ≠ 68 → (rx_u (rx_u (rx_u S1.1 67 w.2.2.1.1 (nI 0)) 52 51 (nI (q0.1.2.1 + 1))) 68 w.2.2.1.1 (nI 0), S1.2).1 a = S.1 a := fun a h1 h2 h3 h4 h5 h6 => by
    show rx_u (rx_u (rx_u S1.1 67 w.2.2.1.1 (nI 0)) 52 51 (nI (q0.1.2.1 + 1))) 68 w.2.2.1.1 (nI 0) a = _
    rw [rx_une _ h6, rx_une _ (by omega), rx_une _ h5, e1]
    show rx_u (rx_u (rx_u (rx_u (rx_u S.1 52 0 (nI 0)) 52 15 (nI (w.2.2.1.1 + 1))) 64 w.2.2.1.1 (nI p)) 65 w.2.2.1.1 (nI (q0.1.2.1 + 1))) 66 w.2.2.1.1 (nI w.2.1.1) a = _
    rw [rx_une _ h4, rx_une _ h3, rx_une _ h2, rx_une _ (by omega), rx_une _ (by omega)]
  have eL : ∀ a, a ≠ 82 → (rx_u (rx_u (rx_u S1.1 67 w.2.2.1.1 (nI 0)) 52 51 (nI (q0.1.2.1 + 1))) 68 w.2.2.1.1 (nI 0), S1.2).2 a = S.2 a := fun a ha => hm.2 a ha
  have eJ : ∀ a, 64 ≤ a → a ≤ 68 → ∀ j, j ≠ w.2.2.1.1 → (rx_u (rx_u (rx_u S1.1 67 w.2.2.1.1 (nI 0)) 52 51 (nI (q0.1.2.1 + 1))) 68 w.2.2.1.1 (nI 0), S1.2).1 a j = S.1 a j := fun a h1 h2 j hj => by
    show rx_u (rx_u (rx_u S1.1 67 w.2.2.1.1 (nI 0)) 52 51 (nI (q0.1.2.1 + 1))) 68 w.2.2.1.1 (nI 0) a j = _
    rw [e1]
    have q52 : ¬ a = 52 := by omega
    simp [rx_ru, q52, hj]
  have e52 : ∀ k, k ≠ 0 → k ≠ 15 → k ≠ 51 → (rx_u (rx_u (rx_u S1.1 67 w.2.2.1.1 (nI 0)) 52 51 (nI (q0.1.2.1 + 1))) 68 w.2.2.1.1 (nI 0), S1.2).1 52 k = S.1 52 k := fun k h1 h2 h3 => by
    show rx_u (rx_u (rx_u S1.1 67 w.2.2.1.1 (nI 0)) 52 51 (nI (q0.1.2.1 + 1))) 68 w.2.2.1.1 (nI 0) 52 k = _
    rw [e1]
    simp [rx_ru, h1, h2, h3]
  have e15 : (rx_u (rx_u (rx_u S1.1 67 w.2.2.1.1 (nI 0)) 52 51 (nI (q0.1.2.1 + 1))) 68 w.2.2.1.1 (nI 0), S1.2).1 52 15 = nI (w.2.2.1.1 + 1) := by
    show rx_u (rx_u (rx_u S1.1 67 w.2.2.1.1 (nI 0)) 52 51 (nI (q0.1.2.1 + 1))) 68 w.2.2.1.1 (nI 0) 52 15 = _
    rw [e1]
    simp [rx_ru]
  have eN : (rx_u (rx_u (rx_u S1.1 67 w.2.2.1.1 (nI 0)) 52 51 (nI (q0.1.2.1 + 1))) 68 w.2.2.1.1 (nI 0), S1.2).1 64 w.2.2.1.1 = nI p ∧ (rx_u (rx_u (rx_u S1.1 67 w.2.2.1.1 (nI 0)) 52 51 (nI (q0.1.2.1 + 1))) 68 w.2.2.1.1 (nI 0), S1.2).1 65 w.2.2.1.1 = nI (q0.1.2.1 + 1) ∧ (rx_u (rx_u (rx_u S1.1 67 w.2.2.1.1 (nI 0)) 52 51 (nI (q0.1.2.1 + 1))) 68 w.2.2.1.1 (nI 0), S1.2).1 66 w.2.2.1.1 = nI w.2.1.1 := by
    refine ⟨?_, ?_, ?_⟩
    · show rx_u (rx_u (rx_u S1.1 67 w.2.2.1.1 (nI 0)) 52 51 (nI (q0.1.2.1 + 1))) 68 w.2.2.1.1 (nI 0) 64 _ = _
      rw [e1]; simp [rx_ru]
    · show rx_u (rx_u (rx_u S1.1 67 w.2.2.1.1 (nI 0)) 52 51 (nI (q0.1.2.1 + 1))) 68 w.2.2.1.1 (nI 0) 65 _ = _
      rw [e1]; simp [rx_ru]
    · show rx_u (rx_u (rx_u S1.1 67 w.2.2.1.1 (nI 0)) 52 51 (nI (q0.1.2.1 + 1))) 68 w.2.2.1.1 (nI 0) 66 _ = _
      rw [e1]; simp [rx_ru]
  obtain ⟨a1, a2, a3, ⟨a4, a5⟩, ⟨a6, a7⟩, a8, a9⟩ := hL
  have f1 : ∀ a, a ≠ 52 → a ≠ 69 → a ≠ 70 → (rx_u (rx_u (rx_u S4.1 52 7 (nI 0)) 69 w.2.2.1.1 (nI 0)) 70 w.2.2.1.1 (nI 0), S4.2).1 a = S3.1 a := fun a h1 h2 h3 => by
    show rx_u (rx_u (rx_u S4.1 52 7 (nI 0)) 69 w.2.2.1.1 (nI 0)) 70 w.2.2.1.1 (nI 0) a = _
    rw [rx_une _ h3, rx_une _ h2, rx_une _ h1, e4]
  have f2 : ∀ a, a ≠ 71 → (rx_u (rx_u (rx_u S4.1 52 7 (nI 0)) 69 w.2.2.1.1 (nI 0)) 70 w.2.2.1.1 (nI 0), S4.2).2 a = S3.2 a := fun a h => hm4.2 a h
  have a1' : ∀ a, 53 ≤ a → a < 82 → ¬ (67 ≤ a ∧ a ≤ 68) → ¬ (72 ≤ a ∧ a ≤ 78) → S3.1 a = (rx_u (rx_u (rx_u S1.1 67 w.2.2.1.1 (nI 0)) 52 51 (nI (q0.1.2.1 + 1))) 68 w.2.2.1.1 (nI 0), S1.2).1 a ∧ S3.2 a = (rx_u (rx_u (rx_u S1.1 67 w.2.2.1.1 (nI 0)) 52 51 (nI (q0.1.2.1 + 1))) 68 w.2.2.1.1 (nI 0), S1.2).2 a := fun a h1 h2 h3 h4 => a1 a h1 h2 (by omega) (by omega) (by omega) (by omega) (by omega) (by omega) (by omega) (by omega) (by omega)
  refine rmw_block hS ⟨fun a h1 h2 h3 => ⟨?_, ?_⟩, fun k hk => ?_, ⟨by simp [rx_ru], ?_⟩, fun a h1 h2 j hj => ?_, fun j hj => ?_, fun j hj => ⟨?_, ?_, ?_⟩, fun j hj => ⟨?_, ?_, ?_, ?_⟩⟩ ⟨⟨?_, ?_, ?_, ?_, ?_, by simp [rx_ru]⟩, fun k hk => hd4 k hk, fun i hi => ?_, fun i hi => ?_⟩ (by rw [show bI false = nI 0 from by decide]; simp [rx_ru]) rfl h1b hbm
  · exact (f1 a (by omega) (by omega) (by omega)).trans ((a1' a h1 h2 (by omega) (by omega)).1.trans (eI a h1 (by omega) (by omega) (by omega) (by omega) (by omega)))
  · exact (f2 a (by omega)).trans ((a1' a h1 h2 (by omega) (by omega)).2.trans (eL a (by omega)))
  · refine Eq.trans ?_ ((a2 k (by omega) (by omega) (by omega) (by omega) (by omega) (by omega) (by omega) (by omega)).trans (e52 k (by omega) (by omega) (by omega)))
    have n7 : ¬ k = 7 := by omega
    show rx_u (rx_u (rx_u S4.1 52 7 (nI 0)) 69 w.2.2.1.1 (nI 0)) 70 w.2.2.1.1 (nI 0) 52 k = _
    rw [e4]; simp [rx_ru, n7]
  · refine Eq.trans ?_ ((a2 15 (by decide) (by decide) (by decide) (by decide) (by decide) (by decide) (by decide) (by decide)).trans e15)
    show rx_u (rx_u (rx_u S4.1 52 7 (nI 0)) 69 w.2.2.1.1 (nI 0)) 70 w.2.2.1.1 (nI 0) 52 15 = _
    rw [e4]; simp [rx_ru]
  · have hne : j ≠ w.2.2.1.1 := by omega
    have g1 : (rx_u (rx_u (rx_u S4.1 52 7 (nI 0)) 69 w.2.2.1.1 (nI 0)) 70 w.2.2.1.1 (nI 0), S4.2).1 a j = S3.1 a j := by
      show rx_u (rx_u (rx_u S4.1 52 7 (nI 0)) 69 w.2.2.1.1 (nI 0)) 70 w.2.2.1.1 (nI 0) a j = _
      have q52 : ¬ a = 52 := by omega
      rw [e4]; simp [rx_ru, q52, hne]
    refine g1.trans ?_
    by_cases q1 : 67 ≤ a ∧ a ≤ 68
    · refine Eq.trans ?_ (eJ a h1 (by omega) j hne)
      by_cases q2 : a = 67
      · rw [q2]; exact (a4 j hne).1
      · rw [show a = 68 by omega]; exact (a4 j hne).2
    · refine (congrFun (a1' a (by omega) (by omega) q1 (by omega)).1 j).trans ?_
      by_cases q2 : a ≤ 66
      · exact eJ a h1 (by omega) j hne
      · exact congrFun (eI a (by omega) (by omega) (by omega) (by omega) (by omega) (by omega)) j
  · exact (hl4 j hj).trans ((congrFun (a1' 71 (by decide) (by decide) (by decide) (by decide)).2 j).trans (congrFun (eL 71 (by decide)) j))
  · exact (congrFun (f1 72 (by decide) (by decide) (by decide)) j).trans ((a8 j hj).1.trans (congrFun (eI 72 (by decide) (by decide) (by decide) (by decide) (by decide) (by decide)) j))
  · exact (congrFun (f1 73 (by decide) (by decide) (by decide)) j).trans ((a8 j hj).2.1.trans (congrFun (eI 73 (by decide) (by decide) (by decide) (by decide) (by decide) (by decide)) j))
  · exact (congrFun (f2 74 (by decide)) j).trans ((a8 j hj).2.2.trans (congrFun (eL 74 (by decide)) j))
  · exact (congrFun (f1 75 (by decide) (by decide) (by decide)) j).trans ((a6 j hj).1.trans (congrFun (eI 75 (by decide) (by decide) (by decide) (by decide) (by decide) (by decide)) j))
  · exact (congrFun (f2 76 (by decide)) j).trans ((a6 j hj).2.1.trans (congrFun (eL 76 (by decide)) j))
  · exact (congrFun (f2 77 (by decide)) j).trans ((a6 j hj).2.2.1.trans (congrFun (eL 77 (by decide)) j))
  · exact (congrFun (f1 78 (by decide) (by decide) (by decide)) j).trans ((a6 j hj).2.2.2.trans (congrFun (eI 78 (by decide) (by decide) (by decide) (by decide) (by decide) (by decide)) j))
  · exact (congrFun (f1 64 (by decide) (by decide) (by decide)) _).trans ((congrFun (a1' 64 (by decide) (by decide) (by decide) (by decide)).1 _).trans eN.1)
  · exact (congrFun (f1 65 (by decide) (by decide) (by decide)) _).trans ((congrFun (a1' 65 (by decide) (by decide) (by decide) (by decide)).1 _).trans eN.2.1)
  · exact (congrFun (f1 66 (by decide) (by decide) (by decide)) _).trans ((congrFun (a1' 66 (by decide) (by decide) (by decide) (by decide)).1 _).trans eN.2.2)
  · exact (congrFun (f1 67 (by decide) (by decide) (by decide)) _).trans a7.1
  · exact (congrFun (f1 68 (by decide) (by decide) (by decide)) _).trans a5
  · rw [f1 72 (by decide) (by decide) (by decide), f1 73 (by decide) (by decide) (by decide), f2 74 (by decide)]
    exact a9 i hi
  · rw [f1 75 (by decide) (by decide) (by decide), f2 76 (by decide), f2 77 (by decide), f1 78 (by decide) (by decide) (by decide)]
    exact a7.2 i hi
set_option maxHeartbeats 2000000 in
theorem mf_block {G : rx_E} {d : Nat} {C : rx_M} {S : gs_T} (hG : rx_OK G) {w : wW} {p mk : Nat} {q0 : wB} (hS : rmw S w) (h40 : w.2.2.1.1 < 40) (h1b : 1 ≤ w.2.2.1.1) (hon : w.2.1.1 ≤ 10) (h10 : w.2.1.1 ≤ 10) (hp : p < w.2.2.1.1) (hmk : mk < 32) (hB : mB1 S p q0) (hh : q0.1.2.1 < 40) (hbm : ∀ b, b < w.2.2.1.1 → (w.2.2.1.2 b).1.2.2.1 ≤ 10 ∧ (w.2.2.1.2 b).1.2.2.2 ≤ 60) (hvg : ∀ o, o < 32 → vw_G (w.1.2.1, w.1.2.2, o, (q0.1.2.1 + 1))) (hob : ∀ i, i < w.2.1.1 → ((w.2.1.2 i).1.1 < 32 ∧ (w.2.1.2 i).1.2.1 < 32) ∧ (w.2.1.2 i).2.1 ≤ 30000 ∧ (w.2.1.2 i).2.2.1 ≤ 1000000) (hcd : vw_codes (w.1.2.1, w.1.2.2, 0, 0) q0.2.1) {Q : Option Value → rx_M → Prop} (hK : ∀ S', rmw S' (w_block w ((nI p, (q0.1.2.1 + 1), w.2.1.1, min 60 (o_all w.1.2.1 w.1.2.2 (q0.1.2.1 + 1) mk w.2.1.2 (q0.2.1, 0, (fun _ => (0, 0, 0, 0)), (fun _ => (0, 0, 0)), nI 0) w.2.1.1).2.1), (o_all w.1.2.1 w.1.2.2 (q0.1.2.1 + 1) mk w.2.1.2 (q0.2.1, 0, (fun _ => (0, 0, 0, 0)), (fun _ => (0, 0, 0)), nI 0) w.2.1.1).1, (o_all w.1.2.1 w.1.2.2 (q0.1.2.1 + 1) mk w.2.1.2 (q0.2.1, 0, (fun _ => (0, 0, 0, 0)), (fun _ => (0, 0, 0)), nI 0) w.2.1.1).2.2.2.1, (o_all w.1.2.1 w.1.2.2 (q0.1.2.1 + 1) mk w.2.1.2 (q0.2.1, 0, (fun _ => (0, 0, 0, 0)), (fun _ => (0, 0, 0)), nI 0) w.2.1.1).2.2.1, ((o_all w.1.2.1 w.1.2.2 (q0.1.2.1 + 1) mk w.2.1.2 (q0.2.1, 0, (fun _ => (0, 0, 0, 0)), (fun _ => (0, 0, 0)), nI 0) w.2.1.1).2.2.2.2, 0))) → S'.1 52 0 = nI 0 → Q (some (.int (nI w.2.2.1.1))) (gl C S')) : rx_C G MX11_block (d + 8) [.ref 52, .int (nI p), .int (nI mk)] (gl C S) 0 0 Q := by
  refine rx_meth0 (by decide +kernel) rfl (Nat.le_of_ble_eq_true rfl) ?_
  refine rx_aload_n dX11_block_0 rfl rfl ?_
  refine rx_iload_n dX11_block_1 rfl ?_
  refine rx_if_lt (tgt := 21) dX11_block_2 (by decide) (fun h2 => (absurd h2 (nI_pos (by omega)))) (fun h2 => ?_)
  refine rx_iload_n dX11_block_5 rfl ?_
  refine rx_aload_n dX11_block_6 rfl rfl ?_
  refine gmv_getI (v := nI w.2.2.1.1) hG hf_RX11_156 rfl dX11_block_7 rfl rfl rfl hS.2.2.2.1.1 ?_
  refine rx_icmp_ge (tgt := 21) dX11_block_10 (by decide) (fun h10 => (absurd h10 (by rw [nI_leI (by omega) (by omega)]; omega))) (fun h10 => ?_)
  refine rx_iload_n dX11_block_13 rfl ?_
  refine rx_i2l dX11_block_14 ?_
  refine rx_tl (y := lN mk) (nI_l (by omega)) ?_
  refine rx_invS0 (as := [.long _]) hG okX11_isAccount lk_RX11_181 dX11_block_15 rfl (by simp [Value.category]) (cm_isAccountT hG (lN_isacct hmk)) ?_
  rintro _ _ ⟨rfl, rfl⟩
  refine rx_if_ne (tgt := 25) dX11_block_18 (by decide) (fun h18 => ?_) (fun h18 => (absurd h18 (by decide))) 
  refine rx_aload_n dX11_block_25 rfl rfl ?_
  refine gmv_getI (v := nI w.2.2.1.1) hG hf_RX11_156 rfl dX11_block_26 rfl rfl rfl hS.2.2.2.1.1 ?_
  refine rx_bipush (v := nI 40) dX11_block_29 rfl ?_
  refine rx_icmp_ne (tgt := 38) dX11_block_31 (by decide) (fun h31 => ?_) (fun h31 => (absurd h31 (by rw [nI_eq (by omega) (by omega)]; omega))) 
  refine rx_iconst (v := nI 0) dX11_block_38 rfl ?_
  refine gm_putI hG hf_RX11_160 (gw_nf rfl rfl) rfl dX11_block_39 rfl rfl rfl rfl rfl ?_
  refine rx_aload_n dX11_block_42 rfl rfl ?_
  refine gmv_getI (v := nI 0) hG hf_RX11_160 rfl dX11_block_43 rfl rfl rfl (by simp [rx_ru]) ?_
  refine rx_if_le (tgt := 51) dX11_block_46 (by decide) (fun h46 => ?_) (fun h46 => (absurd h46 (by decide))) 
  refine rx_aload_n dX11_block_51 rfl rfl ?_
  refine gmv_getI (v := nI w.2.2.1.1) hG hf_RX11_156 rfl dX11_block_52 rfl rfl rfl (by simpa [rx_ru] using hS.2.2.2.1.1) ?_
  refine rx_istore_n dX11_block_55 (by decide) ?_
  refine rx_aload_n dX11_block_56 rfl rfl ?_
  refine rx_dup dX11_block_57 rfl ?_
  refine gmv_getI (v := nI w.2.2.1.1) hG hf_RX11_156 rfl dX11_block_58 rfl rfl rfl (by simpa [rx_ru] using hS.2.2.2.1.1) ?_
  refine rx_iconst (v := nI 1) dX11_block_61 rfl ?_
  refine rx_iadd dX11_block_62 ?_
  refine rx_ti (y := nI (w.2.2.1.1 + 1)) ((nI_add _ _).trans (congrArg nI (by omega))) ?_
  refine gm_putI hG hf_RX11_156 (gw_nf rfl rfl) rfl dX11_block_63 rfl rfl rfl rfl rfl ?_
  refine rx_aload_n dX11_block_66 rfl rfl ?_
  refine g_getR hG hf_RX11_45 rfl dX11_block_67 rfl rfl rfl ?_
  refine rx_iload_n dX11_block_70 rfl ?_
  refine rx_iload_n dX11_block_71 rfl ?_
  refine gm_iast (j := w.2.2.1.1) hG dX11_block_72 rfl rfl rfl rfl (by omega) (by decide) ?_
  refine rx_aload_n dX11_block_73 rfl rfl ?_
  refine g_getR hG hf_RX11_48 rfl dX11_block_74 rfl rfl rfl ?_
  refine rx_iload_n dX11_block_77 rfl ?_
  refine rx_aload_n dX11_block_78 rfl rfl ?_
  refine g_getR hG hf_RX11_48 rfl dX11_block_79 rfl rfl rfl ?_
  refine rx_iload_n dX11_block_82 rfl ?_
  refine gmv_iald (j := p) (v := nI q0.1.2.1) hG dX11_block_83 rfl rfl rfl rfl (by omega) (by decide) (by simpa [rx_ru] using hB.1.2.1) ?_
  refine rx_iconst (v := nI 1) dX11_block_84 rfl ?_
  refine rx_iadd dX11_block_85 ?_
  refine rx_ti (y := nI (q0.1.2.1 + 1)) ((nI_add _ _).trans (congrArg nI (by omega))) ?_
  refine gm_iast (j := w.2.2.1.1) hG dX11_block_86 rfl rfl rfl rfl (by omega) (by decide) ?_
  refine rx_aload_n dX11_block_87 rfl rfl ?_
  refine g_getR hG hf_RX11_51 rfl dX11_block_88 rfl rfl rfl ?_
  refine rx_iload_n dX11_block_91 rfl ?_
  refine rx_aload_n dX11_block_92 rfl rfl ?_
  refine gmv_getI (v := nI w.2.1.1) hG hf_RX11_190 rfl dX11_block_93 rfl rfl rfl (by simpa [rx_ru] using hS.2.2.1.1) ?_
  refine gm_iast (j := w.2.2.1.1) hG dX11_block_96 rfl rfl rfl rfl (by omega) (by decide) ?_
  refine rx_iconst (v := nI 0) dX11_block_97 rfl ?_
  refine rx_istore dX11_block_98 (by decide) ?_
  refine rx_lv (lv' := [(4, .int (nI 0)), (0, .ref 52), (1, .int (nI p)), (2, .int (nI mk)), (3, .int (nI w.2.2.1.1))]) ⟨rfl, rfl, rfl, rfl, rfl, trivial⟩ ?_
  refine lm_bcopy (S := (rx_u (rx_u (rx_u (rx_u (rx_u S.1 52 0 (nI 0)) 52 15 (nI (w.2.2.1.1 + 1))) 64 w.2.2.1.1 (nI p)) 65 w.2.2.1.1 (nI (q0.1.2.1 + 1))) 66 w.2.2.1.1 (nI w.2.1.1), S.2)) (n := q0.2.1) hG (by omega) (fun k hk => hB.2.1 k hk) (fun S1 hm hd => ?_) 608 0 _ rfl mzr_r (fun _ q => absurd q (Nat.not_lt_zero _))
  have e1 : S1.1 = (rx_u (rx_u (rx_u (rx_u (rx_u S.1 52 0 (nI 0)) 52 15 (nI (w.2.2.1.1 + 1))) 64 w.2.2.1.1 (nI p)) 65 w.2.2.1.1 (nI (q0.1.2.1 + 1))) 66 w.2.2.1.1 (nI w.2.1.1), S.2).1 := hm.1
  refine rx_aload_n dX11_block_134 rfl rfl ?_
  refine g_getR hG hf_RX11_54 rfl dX11_block_135 rfl rfl rfl ?_
  refine rx_iload_n dX11_block_138 rfl ?_
  refine rx_iconst (v := nI 0) dX11_block_139 rfl ?_
  refine gm_iast (j := w.2.2.1.1) hG dX11_block_140 rfl rfl rfl rfl (by omega) (by decide) ?_
  refine rx_aload_n dX11_block_141 rfl rfl ?_
  refine rx_aload_n dX11_block_142 rfl rfl ?_
  refine g_getR hG hf_RX11_48 rfl dX11_block_143 rfl rfl rfl ?_
  refine rx_iload_n dX11_block_146 rfl ?_
  refine gmv_iald (j := w.2.2.1.1) (v := nI (q0.1.2.1 + 1)) hG dX11_block_147 rfl rfl rfl rfl (by omega) (by decide) (by rw [e1]; simp [rx_ru]) ?_
  refine gm_putI hG hf_RX11_275 (gw_nf rfl rfl) rfl dX11_block_148 rfl rfl rfl rfl rfl ?_
  refine rx_sipush (v := nI 30000) dX11_block_151 rfl ?_
  refine rx_ti (y := nI 30000 - nI 0) (by decide) ?_
  refine rx_istore dX11_block_154 (by decide) ?_
  refine rx_aload_n dX11_block_156 rfl rfl ?_
  refine g_getR hG hf_RX11_57 rfl dX11_block_157 rfl rfl rfl ?_
  refine rx_iload_n dX11_block_160 rfl ?_
  refine rx_iconst (v := nI 0) dX11_block_161 rfl ?_
  refine gm_iast (j := w.2.2.1.1) hG dX11_block_162 rfl rfl rfl rfl (by omega) (by decide) ?_
  refine rx_iconst (v := nI 0) dX11_block_163 rfl ?_
  refine rx_istore dX11_block_164 (by decide) ?_
  refine rx_lv (lv' := [(4, .int (nI 30000 - (nI 0))), (5, .int (nI 0)), (0, .ref 52), (1, .int (nI p)), (2, .int (nI mk)), (3, .int (nI w.2.2.1.1))]) ⟨rfl, rfl, rfl, rfl, rfl, rfl, trivial⟩ ?_
  have eI : ∀ a, 53 ≤ a → a ≠ 64 → a ≠ 65 → a ≠ 66 → a ≠ 67 → a ≠ 68 → (rx_u (rx_u (rx_u S1.1 67 w.2.2.1.1 (nI 0)) 52 51 (nI (q0.1.2.1 + 1))) 68 w.2.2.1.1 (nI 0), S1.2).1 a = S.1 a := fun a h1 h2 h3 h4 h5 h6 => by
    show rx_u (rx_u (rx_u S1.1 67 w.2.2.1.1 (nI 0)) 52 51 (nI (q0.1.2.1 + 1))) 68 w.2.2.1.1 (nI 0) a = _
    rw [rx_une _ h6, rx_une _ (by omega), rx_une _ h5, e1]
    show rx_u (rx_u (rx_u (rx_u (rx_u S.1 52 0 (nI 0)) 52 15 (nI (w.2.2.1.1 + 1))) 64 w.2.2.1.1 (nI p)) 65 w.2.2.1.1 (nI (q0.1.2.1 + 1))) 66 w.2.2.1.1 (nI w.2.1.1) a = _
    rw [rx_une _ h4, rx_une _ h3, rx_une _ h2, rx_une _ (by omega), rx_une _ (by omega)]
  have eL : ∀ a, a ≠ 82 → (rx_u (rx_u (rx_u S1.1 67 w.2.2.1.1 (nI 0)) 52 51 (nI (q0.1.2.1 + 1))) 68 w.2.2.1.1 (nI 0), S1.2).2 a = S.2 a := fun a ha => hm.2 a ha
  have eJ : ∀ a, 64 ≤ a → a ≤ 68 → ∀ j, j ≠ w.2.2.1.1 → (rx_u (rx_u (rx_u S1.1 67 w.2.2.1.1 (nI 0)) 52 51 (nI (q0.1.2.1 + 1))) 68 w.2.2.1.1 (nI 0), S1.2).1 a j = S.1 a j := fun a h1 h2 j hj => by
    show rx_u (rx_u (rx_u S1.1 67 w.2.2.1.1 (nI 0)) 52 51 (nI (q0.1.2.1 + 1))) 68 w.2.2.1.1 (nI 0) a j = _
    rw [e1]
    have q52 : ¬ a = 52 := by omega
    simp [rx_ru, q52, hj]
  have e52 : ∀ k, k ≠ 0 → k ≠ 15 → k ≠ 51 → (rx_u (rx_u (rx_u S1.1 67 w.2.2.1.1 (nI 0)) 52 51 (nI (q0.1.2.1 + 1))) 68 w.2.2.1.1 (nI 0), S1.2).1 52 k = S.1 52 k := fun k h1 h2 h3 => by
    show rx_u (rx_u (rx_u S1.1 67 w.2.2.1.1 (nI 0)) 52 51 (nI (q0.1.2.1 + 1))) 68 w.2.2.1.1 (nI 0) 52 k = _
    rw [e1]
    simp [rx_ru, h1, h2, h3]
  refine lm_block (S0 := (rx_u (rx_u (rx_u S1.1 67 w.2.2.1.1 (nI 0)) 52 51 (nI (q0.1.2.1 + 1))) 68 w.2.2.1.1 (nI 0), S1.2)) (T0 := (q0.2.1, 0, (fun _ => (0, 0, 0, 0)), (fun _ => (0, 0, 0)), nI 0)) (cs := w.1.2.1) (N := w.1.2.2) (f := w.2.1.2) (h := (q0.1.2.1 + 1)) (on := w.2.1.1) hG hon hmk h40 ((e52 7 (by decide) (by decide) (by decide)).trans hS.2.2.1.1) (fun i hi => ?_) ?_ (by simp [rx_ru]) hvg hob (fun S3 hL => ?_) w.2.1.1 0 _ (by omega) ⟨fun _ _ _ _ _ _ _ _ _ _ _ _ => ⟨rfl, rfl⟩, fun _ _ _ _ _ _ _ _ _ => rfl, hd, ⟨fun _ _ => ⟨rfl, rfl⟩, by simp [rx_ru, o_all]⟩, ⟨fun _ _ => ⟨rfl, rfl, rfl, rfl⟩, by simp [rx_ru, o_all], fun j hj => absurd hj (by simp [o_all])⟩, fun _ _ => ⟨rfl, rfl, rfl⟩, fun j hj => absurd hj (Nat.not_lt_zero _)⟩ ⟨hcd, Nat.le_refl _, fun j hj => absurd hj (Nat.not_lt_zero _), fun j hj => absurd hj (Nat.not_lt_zero _)⟩
  · rw [eI 57 (by decide) (by decide) (by decide) (by decide) (by decide) (by decide), eI 58 (by decide) (by decide) (by decide) (by decide) (by decide) (by decide), eI 61 (by decide) (by decide) (by decide) (by decide) (by decide) (by decide), eI 62 (by decide) (by decide) (by decide) (by decide) (by decide) (by decide), eI 63 (by decide) (by decide) (by decide) (by decide) (by decide) (by decide), eL 59 (by decide), eL 60 (by decide)]
    exact hS.2.2.1.2 i hi
  · have hK0 := hS.2.1
    unfold mK at hK0 ⊢
    rw [eI 53 (by decide) (by decide) (by decide) (by decide) (by decide) (by decide), eI 54 (by decide) (by decide) (by decide) (by decide) (by decide) (by decide), e52 3 (by decide) (by decide) (by decide)]
    exact hK0
  refine rx_iconst (v := nI 0) dX11_block_229 rfl ?_
  refine rx_istore dX11_block_230 (by decide) ?_
  refine rx_lv (lv' := [(5, .int (nI 0)), (4, .int (nI 30000 - (o_all w.1.2.1 w.1.2.2 (q0.1.2.1 + 1) mk w.2.1.2 (q0.2.1, 0, (fun _ => (0, 0, 0, 0)), (fun _ => (0, 0, 0)), nI 0) w.2.1.1).2.2.2.2)), (0, .ref 52), (1, .int (nI p)), (2, .int (nI mk)), (3, .int (nI w.2.2.1.1))]) ⟨rfl, rfl, rfl, rfl, rfl, rfl, trivial⟩ ?_
  refine lm_bback (S := S3) (n := (o_all w.1.2.1 w.1.2.2 (q0.1.2.1 + 1) mk w.2.1.2 (q0.2.1, 0, (fun _ => (0, 0, 0, 0)), (fun _ => (0, 0, 0)), nI 0) w.2.1.1).1) hG h40 hL.2.2.1 (fun S4 hm4 hl4 hd4 => ?_) 608 0 _ rfl mzr_r (fun _ _ => rfl) (fun _ q => absurd q (Nat.not_lt_zero _))
  refine rx_aload_n dX11_block_266 rfl rfl ?_
  refine rx_iconst (v := nI 0) dX11_block_267 rfl ?_
  refine gm_putI hG hf_RX11_190 (gw_nf rfl rfl) rfl dX11_block_268 rfl rfl rfl rfl rfl ?_
  refine rx_aload_n dX11_block_271 rfl rfl ?_
  refine g_getR hG hf_RX11_60 rfl dX11_block_272 rfl rfl rfl ?_
  refine rx_iload_n dX11_block_275 rfl ?_
  refine rx_iconst (v := nI 0) dX11_block_276 rfl ?_
  refine gm_iast (j := w.2.2.1.1) hG dX11_block_277 rfl rfl rfl rfl (by omega) (by decide) ?_
  refine rx_aload_n dX11_block_278 rfl rfl ?_
  refine g_getR hG hf_RX11_63 rfl dX11_block_279 rfl rfl rfl ?_
  refine rx_iload_n dX11_block_282 rfl ?_
  refine rx_iconst (v := nI 0) dX11_block_283 rfl ?_
  refine gm_zast (j := w.2.2.1.1) hG dX11_block_284 rfl rfl rfl rfl (by omega) (by decide) rfl ?_
  refine rx_iload_n dX11_block_285 rfl ?_
  refine rx_iret rfl dX11_block_286 (hK _ ?_ ?_)
  · exact mblk_fin hS hm hL hm4 hl4 hd4 h1b hbm hon
  · have e4 : S4.1 = S3.1 := hm4.1
    simp [rx_ru]; rw [e4, hL.2.1 0 (by decide) (by decide) (by decide) (by decide) (by decide) (by decide) (by decide) (by decide)]
    show rx_u (rx_u (rx_u S1.1 67 w.2.2.1.1 (nI 0)) 52 51 (nI (q0.1.2.1 + 1))) 68 w.2.2.1.1 (nI 0) 52 0 = _
    rw [e1]; simp [rx_ru]

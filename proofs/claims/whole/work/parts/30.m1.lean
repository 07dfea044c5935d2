theorem dX11_thrown_0 : decode cX11_thrown 0 = .ok (.aload_n 0, 1) := by decide +kernel
theorem dX11_thrown_1 : decode cX11_thrown 1 = .ok (.getfield 160, 3) := by decide +kernel
theorem dX11_thrown_4 : decode cX11_thrown 4 = .ok (.ireturn, 1) := by decide +kernel
theorem dX11_push_0 : decode cX11_push 0 = .ok (.aload_n 0, 1) := by decide +kernel
theorem dX11_push_1 : decode cX11_push 1 = .ok (.getfield 203, 3) := by decide +kernel
theorem dX11_push_4 : decode cX11_push 4 = .ok (.iconst 1, 1) := by decide +kernel
theorem dX11_push_5 : decode cX11_push 5 = .ok (.isub, 1) := by decide +kernel
theorem dX11_push_6 : decode cX11_push 6 = .ok (.istore_n 3, 1) := by decide +kernel
theorem dX11_push_7 : decode cX11_push 7 = .ok (.aload_n 0, 1) := by decide +kernel
theorem dX11_push_8 : decode cX11_push 8 = .ok (.getfield 138, 3) := by decide +kernel
theorem dX11_push_11 : decode cX11_push 11 = .ok (.bipush 24, 2) := by decide +kernel
theorem dX11_push_13 : decode cX11_push 13 = .ok (.iload_n 3, 1) := by decide +kernel
theorem dX11_push_14 : decode cX11_push 14 = .ok (.imul, 1) := by decide +kernel
theorem dX11_push_15 : decode cX11_push 15 = .ok (.aload_n 0, 1) := by decide +kernel
theorem dX11_push_16 : decode cX11_push 16 = .ok (.getfield 141, 3) := by decide +kernel
theorem dX11_push_19 : decode cX11_push 19 = .ok (.iload_n 3, 1) := by decide +kernel
theorem dX11_push_20 : decode cX11_push 20 = .ok (.iaload, 1) := by decide +kernel
theorem dX11_push_21 : decode cX11_push 21 = .ok (.iadd, 1) := by decide +kernel
theorem dX11_push_22 : decode cX11_push 22 = .ok (.lload_n 1, 1) := by decide +kernel
theorem dX11_push_23 : decode cX11_push 23 = .ok (.lastore, 1) := by decide +kernel
theorem dX11_push_24 : decode cX11_push 24 = .ok (.aload_n 0, 1) := by decide +kernel
theorem dX11_push_25 : decode cX11_push 25 = .ok (.getfield 141, 3) := by decide +kernel
theorem dX11_push_28 : decode cX11_push 28 = .ok (.iload_n 3, 1) := by decide +kernel
theorem dX11_push_29 : decode cX11_push 29 = .ok (.dup2, 1) := by decide +kernel
theorem dX11_push_30 : decode cX11_push 30 = .ok (.iaload, 1) := by decide +kernel
theorem dX11_push_31 : decode cX11_push 31 = .ok (.iconst 1, 1) := by decide +kernel
theorem dX11_push_32 : decode cX11_push 32 = .ok (.iadd, 1) := by decide +kernel
theorem dX11_push_33 : decode cX11_push 33 = .ok (.iastore, 1) := by decide +kernel
theorem dX11_push_34 : decode cX11_push 34 = .ok (.return_, 1) := by decide +kernel
theorem dX11_pop_0 : decode cX11_pop 0 = .ok (.aload_n 0, 1) := by decide +kernel
theorem dX11_pop_1 : decode cX11_pop 1 = .ok (.getfield 203, 3) := by decide +kernel
theorem dX11_pop_4 : decode cX11_pop 4 = .ok (.iconst 1, 1) := by decide +kernel
theorem dX11_pop_5 : decode cX11_pop 5 = .ok (.isub, 1) := by decide +kernel
theorem dX11_pop_6 : decode cX11_pop 6 = .ok (.istore_n 1, 1) := by decide +kernel
theorem dX11_pop_7 : decode cX11_pop 7 = .ok (.aload_n 0, 1) := by decide +kernel
theorem dX11_pop_8 : decode cX11_pop 8 = .ok (.getfield 141, 3) := by decide +kernel
theorem dX11_pop_11 : decode cX11_pop 11 = .ok (.iload_n 1, 1) := by decide +kernel
theorem dX11_pop_12 : decode cX11_pop 12 = .ok (.dup2, 1) := by decide +kernel
theorem dX11_pop_13 : decode cX11_pop 13 = .ok (.iaload, 1) := by decide +kernel
theorem dX11_pop_14 : decode cX11_pop 14 = .ok (.iconst 1, 1) := by decide +kernel
theorem dX11_pop_15 : decode cX11_pop 15 = .ok (.isub, 1) := by decide +kernel
theorem dX11_pop_16 : decode cX11_pop 16 = .ok (.iastore, 1) := by decide +kernel
theorem dX11_pop_17 : decode cX11_pop 17 = .ok (.aload_n 0, 1) := by decide +kernel
theorem dX11_pop_18 : decode cX11_pop 18 = .ok (.getfield 138, 3) := by decide +kernel
theorem dX11_pop_21 : decode cX11_pop 21 = .ok (.bipush 24, 2) := by decide +kernel
theorem dX11_pop_23 : decode cX11_pop 23 = .ok (.iload_n 1, 1) := by decide +kernel
theorem dX11_pop_24 : decode cX11_pop 24 = .ok (.imul, 1) := by decide +kernel
theorem dX11_pop_25 : decode cX11_pop 25 = .ok (.aload_n 0, 1) := by decide +kernel
theorem dX11_pop_26 : decode cX11_pop 26 = .ok (.getfield 141, 3) := by decide +kernel
theorem dX11_pop_29 : decode cX11_pop 29 = .ok (.iload_n 1, 1) := by decide +kernel
theorem dX11_pop_30 : decode cX11_pop 30 = .ok (.iaload, 1) := by decide +kernel
theorem dX11_pop_31 : decode cX11_pop 31 = .ok (.iadd, 1) := by decide +kernel
theorem dX11_pop_32 : decode cX11_pop 32 = .ok (.laload, 1) := by decide +kernel
theorem dX11_pop_33 : decode cX11_pop 33 = .ok (.lreturn, 1) := by decide +kernel
theorem dX11_end_0 : decode cX11_end 0 = .ok (.aload_n 0, 1) := by decide +kernel
theorem dX11_end_1 : decode cX11_end 1 = .ok (.iload_n 1, 1) := by decide +kernel
theorem dX11_end_2 : decode cX11_end 2 = .ok (.putfield 193, 3) := by decide +kernel
theorem dX11_end_5 : decode cX11_end 5 = .ok (.aload_n 0, 1) := by decide +kernel
theorem dX11_end_6 : decode cX11_end 6 = .ok (.lload_n 2, 1) := by decide +kernel
theorem dX11_end_7 : decode cX11_end 7 = .ok (.putfield 196, 3) := by decide +kernel
theorem dX11_end_10 : decode cX11_end 10 = .ok (.aload_n 0, 1) := by decide +kernel
theorem dX11_end_11 : decode cX11_end 11 = .ok (.lload 4, 2) := by decide +kernel
theorem dX11_end_13 : decode cX11_end 13 = .ok (.putfield 200, 3) := by decide +kernel
theorem dX11_end_16 : decode cX11_end 16 = .ok (.return_, 1) := by decide +kernel
theorem cm_thrown {G : rx_E} {d : Nat} {C : rx_M} {S : gs_T} (hG : rx_OK G)  : rx_C G MX11_thrown d [.ref 52] (gl C S) 0 0 (fun v mu => v = some (.int (S.1 52 0)) ∧ mu = gl C S) := by
  refine rx_meth0 (by decide +kernel) rfl (Nat.le_of_ble_eq_true rfl) ?_
  refine rx_aload_n dX11_thrown_0 rfl rfl ?_
  refine gmv_getI (v := S.1 52 0) hG hf_RX11_160 rfl dX11_thrown_1 rfl rfl rfl rfl ?_
  exact rx_iret rfl dX11_thrown_4 ⟨rfl, rfl⟩
theorem cm_end {G : rx_E} {d : Nat} {C : rx_M} {S : gs_T} (hG : rx_OK G) (how : Int32) (vl gs : Int64) : rx_C G MX11_end d [.ref 52, .int how, .long vl, .long gs] (gl C S) 0 0 (fun v mu => v = none ∧ mu = gl C ((rx_u S.1 52 58 how), (rx_u (rx_u S.2 52 59 vl) 52 60 gs))) := by
  refine rx_meth0 (by decide +kernel) rfl (Nat.le_of_ble_eq_true rfl) ?_
  refine rx_aload_n dX11_end_0 rfl rfl ?_
  refine rx_iload_n dX11_end_1 rfl ?_
  refine gm_putI hG hf_RX11_193 (gw_nf rfl rfl) rfl dX11_end_2 rfl rfl rfl rfl rfl ?_
  refine rx_aload_n dX11_end_5 rfl rfl ?_
  refine rx_lload_n dX11_end_6 rfl ?_
  refine gm_putL hG hf_RX11_196 (gw_nf rfl rfl) dX11_end_7 rfl rfl rfl ?_
  refine rx_aload_n dX11_end_10 rfl rfl ?_
  refine rx_lload dX11_end_11 rfl ?_
  refine gm_putL hG hf_RX11_200 (gw_nf rfl rfl) dX11_end_13 rfl rfl rfl ?_
  exact rx_vret rfl dX11_end_16 ⟨rfl, rfl⟩
theorem cm_push {G : rx_E} {d : Nat} {C : rx_M} {S : gs_T} (hG : rx_OK G) {p t : Nat} (hp : S.1 52 49 = nI (p + 1)) (ht : S.1 96 p = nI t) (hp1 : p < 11) (ht1 : t < 24) (vl : Int64) : rx_C G MX11_push d [.ref 52, .long vl] (gl C S) 0 0 (fun v mu => v = none ∧ mu = gl C ((rx_u S.1 96 p (nI (t + 1))), (rx_u S.2 95 (24 * p + t) vl))) := by
  refine rx_meth0 (by decide +kernel) rfl (Nat.le_of_ble_eq_true rfl) ?_
  refine rx_aload_n dX11_push_0 rfl rfl ?_
  refine gmv_getI (v := nI (p + 1)) hG hf_RX11_203 rfl dX11_push_1 rfl rfl rfl hp ?_
  refine rx_iconst (v := nI 1) dX11_push_4 rfl ?_
  refine rx_isub dX11_push_5 ?_
  refine rx_ti (y := nI p) ((pk_sub (by omega)).trans (congrArg nI (by omega))) ?_
  refine rx_istore_n dX11_push_6 (by decide) ?_
  refine rx_aload_n dX11_push_7 rfl rfl ?_
  refine g_getR hG hf_RX11_138 rfl dX11_push_8 rfl rfl rfl ?_
  refine rx_bipush (v := nI 24) dX11_push_11 rfl ?_
  refine rx_iload_n dX11_push_13 rfl ?_
  refine rx_imul dX11_push_14 ?_
  refine rx_ti (y := nI (24 * p)) ((pk_mul _ _).trans (congrArg nI (by omega))) ?_
  refine rx_aload_n dX11_push_15 rfl rfl ?_
  refine g_getR hG hf_RX11_141 rfl dX11_push_16 rfl rfl rfl ?_
  refine rx_iload_n dX11_push_19 rfl ?_
  refine gmv_iald (j := p) (v := nI t) hG dX11_push_20 rfl rfl rfl rfl (by omega) (by decide) ht ?_
  refine rx_iadd dX11_push_21 ?_
  refine rx_ti (y := nI (24 * p + t)) ((nI_add _ _).trans (congrArg nI (by omega))) ?_
  refine rx_lload_n dX11_push_22 rfl ?_
  refine gm_last (j := 24 * p + t) hG dX11_push_23 rfl rfl rfl rfl (by omega) (by decide) ?_
  refine rx_aload_n dX11_push_24 rfl rfl ?_
  refine g_getR hG hf_RX11_141 rfl dX11_push_25 rfl rfl rfl ?_
  refine rx_iload_n dX11_push_28 rfl ?_
  refine rx_dup2 dX11_push_29 rfl rfl ?_
  refine gmv_iald (j := p) (v := nI t) hG dX11_push_30 rfl rfl rfl rfl (by omega) (by decide) ht ?_
  refine rx_iconst (v := nI 1) dX11_push_31 rfl ?_
  refine rx_iadd dX11_push_32 ?_
  refine rx_ti (y := nI (t + 1)) ((nI_add _ _).trans (congrArg nI (by omega))) ?_
  refine gm_iast (j := p) hG dX11_push_33 rfl rfl rfl rfl (by omega) (by decide) ?_
  exact rx_vret rfl dX11_push_34 ⟨rfl, rfl⟩
theorem cm_pop {G : rx_E} {d : Nat} {C : rx_M} {S : gs_T} (hG : rx_OK G) {p t : Nat} (hp : S.1 52 49 = nI (p + 1)) (ht : S.1 96 p = nI (t + 1)) (hp1 : p < 11) (ht1 : t < 24) : rx_C G MX11_pop d [.ref 52] (gl C S) 0 0 (fun v mu => v = some (.long (S.2 95 (24 * p + t))) ∧ mu = gl C ((rx_u S.1 96 p (nI t)), S.2)) := by
  refine rx_meth0 (by decide +kernel) rfl (Nat.le_of_ble_eq_true rfl) ?_
  refine rx_aload_n dX11_pop_0 rfl rfl ?_
  refine gmv_getI (v := nI (p + 1)) hG hf_RX11_203 rfl dX11_pop_1 rfl rfl rfl hp ?_
  refine rx_iconst (v := nI 1) dX11_pop_4 rfl ?_
  refine rx_isub dX11_pop_5 ?_
  refine rx_ti (y := nI p) ((pk_sub (by omega)).trans (congrArg nI (by omega))) ?_
  refine rx_istore_n dX11_pop_6 (by decide) ?_
  refine rx_aload_n dX11_pop_7 rfl rfl ?_
  refine g_getR hG hf_RX11_141 rfl dX11_pop_8 rfl rfl rfl ?_
  refine rx_iload_n dX11_pop_11 rfl ?_
  refine rx_dup2 dX11_pop_12 rfl rfl ?_
  refine gmv_iald (j := p) (v := nI (t + 1)) hG dX11_pop_13 rfl rfl rfl rfl (by omega) (by decide) ht ?_
  refine rx_iconst (v := nI 1) dX11_pop_14 rfl ?_
  refine rx_isub dX11_pop_15 ?_
  refine rx_ti (y := nI t) ((pk_sub (by omega)).trans (congrArg nI (by omega))) ?_
  refine gm_iast (j := p) hG dX11_pop_16 rfl rfl rfl rfl (by omega) (by decide) ?_
  refine rx_aload_n dX11_pop_17 rfl rfl ?_
  refine g_getR hG hf_RX11_138 rfl dX11_pop_18 rfl rfl rfl ?_
  refine rx_bipush (v := nI 24) dX11_pop_21 rfl ?_
  refine rx_iload_n dX11_pop_23 rfl ?_
  refine rx_imul dX11_pop_24 ?_
  refine rx_ti (y := nI (24 * p)) ((pk_mul _ _).trans (congrArg nI (by omega))) ?_
  refine rx_aload_n dX11_pop_25 rfl rfl ?_
  refine g_getR hG hf_RX11_141 rfl dX11_pop_26 rfl rfl rfl ?_
  refine rx_iload_n dX11_pop_29 rfl ?_
  refine gmv_iald (j := p) (v := nI t) hG dX11_pop_30 rfl rfl rfl rfl (by omega) (by decide) (by simp [rx_ru, hp, ht]) ?_
  refine rx_iadd dX11_pop_31 ?_
  refine rx_ti (y := nI (24 * p + t)) ((nI_add _ _).trans (congrArg nI (by omega))) ?_
  refine gmv_lald (j := 24 * p + t) (v := S.2 95 (24 * p + t)) hG dX11_pop_32 rfl rfl rfl rfl (by omega) (by decide) rfl ?_
  exact rx_lret rfl dX11_pop_33 ⟨rfl, rfl⟩

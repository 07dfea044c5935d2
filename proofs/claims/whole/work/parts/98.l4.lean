theorem nI_lt10 : ∀ l, l < 10 → nI l - nI 10 < nI 0 := by decide
theorem nI_and31 (x : Int32) : ∃ k, k < 32 ∧ x &&& nI 31 = nI k := by
  refine ⟨(x &&& nI 31).toBitVec.toNat, ?_, ?_⟩
  · have h : (x &&& nI 31).toBitVec = x.toBitVec &&& (31#32) := rfl
    rw [h, BitVec.toNat_and]
    exact Nat.lt_of_le_of_lt Nat.and_le_right (by decide)
  · apply Int32.toBitVec_inj.mp
    show (x &&& nI 31).toBitVec = BitVec.ofNat 32 _
    rw [BitVec.ofNat_toNat, BitVec.setWidth_eq]
theorem law_out {G : rx_E} {tab : List ExceptionTableEntry} {i mc ms : Nat} {mu : rx_M} {Z : String → rx_M → Prop} : rx_W G (yL_law, cL_law, 8, some .boolean, tab) 2000 1602 [(4, .int (nI i)), (3, .ref 101), (2, .ref 52), (1, .ref 0), (0, .float 0)] [] mu mc ms (fun v _ => v = some (.int 1)) Z := by
  refine rx_iconst (v := 1) dL_law_1602 rfl ?_
  exact rx_zret rfl rfl dL_law_1603 rfl
set_option maxRecDepth 20000 in
theorem law_loop {G : rx_E} {tab : List ExceptionTableEntry} {Z : String → rx_M → Prop} (hG : rx_OK G) (hN : rx_NC G) (hL : G.2.2.2.2.2.1 ≤ 5120) : ∀ (m n : Nat) (w : wW) (A : wP) (C : rx_M) (S : gs_T), n + m = 512 → vW w n → rcw A C w → rmw S w → rx_W G (yL_law, cL_law, 8, some .boolean, tab) 2000 23 [(4, .int (nI (10 * n))), (3, .ref 101), (2, .ref 52), (1, .ref 0), (0, .float 0)] [] (gl C S) (8 * m) (2000 * m) (fun v _ => v = some (.int 1)) Z := by
  intro m
  induction m with
  | zero =>
    intro n w A C S hn hv hC hS
    refine rx_iload dL_law_23 rfl ?_
    refine rx_aload_n dL_law_25 rfl rfl ?_
    refine rx_slen hG dL_law_26 ?_
    refine rx_bipush (v := nI 10) dL_law_27 rfl ?_
    refine rx_isub dL_law_29 ?_
    refine rx_icmp_gt (tgt := 1602) dL_law_30 (by decide) (fun _ => law_out) (fun q => absurd ?_ q)
    by_cases h10 : G.2.2.2.2.2.1 < 10
    · exact Int32.lt_of_lt_of_le (nI_lt10 _ h10) (by rw [nI_leI (by omega) (by omega)]; omega)
    · rw [pk_sub (by omega), nI_ltI (by omega) (by omega)]; omega
  | succ m ih =>
    intro n w A C S hn hv hC hS
    refine rx_iload dL_law_23 rfl ?_
    refine rx_aload_n dL_law_25 rfl rfl ?_
    refine rx_slen hG dL_law_26 ?_
    refine rx_bipush (v := nI 10) dL_law_27 rfl ?_
    refine rx_isub dL_law_29 ?_
    refine rx_icmp_gt (tgt := 1602) dL_law_30 (by decide) (fun _ => law_out) (fun hq => ?_)
    have hle : 10 * n + 10 ≤ G.2.2.2.2.2.1 := by
      by_cases h10 : G.2.2.2.2.2.1 < 10
      · exact absurd (Int32.lt_of_lt_of_le (nI_lt10 _ h10) (by rw [nI_leI (by omega) (by omega)]; omega)) hq
      · rw [pk_sub (by omega), nI_ltI (by omega) (by omega)] at hq; omega
    have next : ∀ A' C' S' w', vW w' (n + 1) → rcw A' C' w' → rmw S' w' → rx_W G (yL_law, cL_law, 8, some .boolean, tab) 2000 1596 [(4, .int (nI (10 * n))), (3, .ref 101), (2, .ref 52), (1, .ref 0), (0, .float 0)] [] (gl C' S') (8 * m) (2000 * m) (fun v _ => v = some (.int 1)) Z := fun A' C' S' w' hv' hC' hS' => by
      refine rx_iinc (v := nI (10 * (n + 1))) dL_law_1596 rfl ((nI_add _ 10).trans (congrArg nI (by omega))) ?_
      refine rx_goto (tgt := 23) dL_law_1599 (by decide) ?_
      refine rx_lv (lv' := [(4, .int (nI (10 * (n + 1)))), (3, .ref 101), (2, .ref 52), (1, .ref 0), (0, .float 0)]) ⟨rfl, rfl, rfl, rfl, rfl, trivial⟩ ?_
      exact ih (n + 1) w' A' C' S' (by omega) hv' hC' hS'
    refine rx_aload_n dL_law_33 rfl rfl ?_
    refine rx_iload dL_law_34 rfl ?_
    refine rx_sld (j := 10 * n) hG dL_law_36 rfl (by omega) ?_
    refine rx_bipush (v := nI 31) dL_law_37 rfl ?_
    refine rx_iand dL_law_39 ?_
    obtain ⟨k, hk, ek⟩ := nI_and31 (G.2.2.2.2.2.2 (10 * n))
    refine rx_ti (y := nI k) ek ?_
    refine rx_Wm (mc := 8 + 8 * m) (ms := 2000 + 2000 * m) ?_ (by omega) (by omega)
    have hc : k = 0 ∨ k = 1 ∨ k = 2 ∨ k = 3 ∨ k = 4 ∨ k = 5 ∨ k = 6 ∨ k = 7 ∨ k = 8 ∨ k = 9 ∨ k = 10 ∨ k = 11 ∨ k = 12 ∨ k = 13 ∨ k = 14 ∨ k = 15 ∨ k = 16 ∨ k = 17 ∨ k = 18 ∨ k = 19 ∨ k = 20 ∨ k = 21 ∨ k = 22 ∨ k = 23 ∨ k = 24 ∨ k = 25 ∨ k = 26 ∨ k = 27 ∨ k = 28 ∨ k = 29 ∨ k = 30 ∨ k = 31 := by omega
    rcases hc with rfl | rfl | rfl | rfl | rfl | rfl | rfl | rfl | rfl | rfl | rfl | rfl | rfl | rfl | rfl | rfl | rfl | rfl | rfl | rfl | rfl | rfl | rfl | rfl | rfl | rfl | rfl | rfl | rfl | rfl | rfl | rfl
    · exact rx_tabIn (tgt := 124) dL_law_40 (by decide) (by decide) rfl (by decide) (lw_draft hG hN hv (by omega) hC hS hle next)
    · exact rx_tabIn (tgt := 224) dL_law_40 (by decide) (by decide) rfl (by decide) (lw_code hG hN hv (by omega) hC hS hle next)
    · exact rx_tabIn (tgt := 268) dL_law_40 (by decide) (by decide) rfl (by decide) (lw_endow hG hN hv (by omega) hC hS hle next)
    · exact rx_tabIn (tgt := 360) dL_law_40 (by decide) (by decide) rfl (by decide) (lw_weight hG hN hv (by omega) hC hS hle next)
    · exact rx_tabIn (tgt := 408) dL_law_40 (by decide) (by decide) rfl (by decide) (lw_order hG hN hv (by omega) hC hS hle next)
    · exact rx_tabIn (tgt := 608) dL_law_40 (by decide) (by decide) rfl (by decide) (lw_block hG hN hv (by omega) hC hS hle next)
    · exact rx_tabIn (tgt := 676) dL_law_40 (by decide) (by decide) rfl (by decide) (lw_told hG hN hv (by omega) hC hS hle next)
    · exact rx_tabIn (tgt := 744) dL_law_40 (by decide) (by decide) rfl (by decide) (lw_receipt hG hN hv (by omega) hC hS hle next)
    · exact rx_tabIn (tgt := 823) dL_law_40 (by decide) (by decide) rfl (by decide) (lw_event hG hN hv (by omega) hC hS hle next)
    · exact rx_tabIn (tgt := 902) dL_law_40 (by decide) (by decide) rfl (by decide) (lw_leaf hG hN hv (by omega) hC hS hle next)
    · exact rx_tabIn (tgt := 969) dL_law_40 (by decide) (by decide) rfl (by decide) (lw_digest hG hN hv (by omega) hC hS hle next)
    · exact rx_tabIn (tgt := 1048) dL_law_40 (by decide) (by decide) rfl (by decide) (lw_view hG hN hv (by omega) hC hS hle next)
    · exact rx_tabIn (tgt := 1185) dL_law_40 (by decide) (by decide) rfl (by decide) (lw_seen hG hN hv (by omega) hC hS hle next)
    · exact rx_tabIn (tgt := 1241) dL_law_40 (by decide) (by decide) rfl (by decide) (lw_vote hG hN hv (by omega) hC hS hle next)
    · exact rx_tabIn (tgt := 1309) dL_law_40 (by decide) (by decide) rfl (by decide) (lw_certain hG hN hv (by omega) hC hS hle next)
    · exact rx_tabIn (tgt := 1365) dL_law_40 (by decide) (by decide) rfl (by decide) (lw_beside hG hN hv (by omega) hC hS hle next)
    · exact rx_tabIn (tgt := 1445) dL_law_40 (by decide) (by decide) rfl (by decide) (lw_proves hG hN hv (by omega) hC hS hle next)
    · refine rx_tabOut (tgt := 1596) dL_law_40 (by decide) (by decide) ?_
      exact rx_Wm (next A C S w (vW_up hv (Nat.le_succ _)) hC hS) (by omega) (by omega)
    · refine rx_tabOut (tgt := 1596) dL_law_40 (by decide) (by decide) ?_
      exact rx_Wm (next A C S w (vW_up hv (Nat.le_succ _)) hC hS) (by omega) (by omega)
    · refine rx_tabOut (tgt := 1596) dL_law_40 (by decide) (by decide) ?_
      exact rx_Wm (next A C S w (vW_up hv (Nat.le_succ _)) hC hS) (by omega) (by omega)
    · refine rx_tabOut (tgt := 1596) dL_law_40 (by decide) (by decide) ?_
      exact rx_Wm (next A C S w (vW_up hv (Nat.le_succ _)) hC hS) (by omega) (by omega)
    · refine rx_tabOut (tgt := 1596) dL_law_40 (by decide) (by decide) ?_
      exact rx_Wm (next A C S w (vW_up hv (Nat.le_succ _)) hC hS) (by omega) (by omega)
    · refine rx_tabOut (tgt := 1596) dL_law_40 (by decide) (by decide) ?_
      exact rx_Wm (next A C S w (vW_up hv (Nat.le_succ _)) hC hS) (by omega) (by omega)
    · refine rx_tabOut (tgt := 1596) dL_law_40 (by decide) (by decide) ?_
      exact rx_Wm (next A C S w (vW_up hv (Nat.le_succ _)) hC hS) (by omega) (by omega)
    · refine rx_tabOut (tgt := 1596) dL_law_40 (by decide) (by decide) ?_
      exact rx_Wm (next A C S w (vW_up hv (Nat.le_succ _)) hC hS) (by omega) (by omega)
    · refine rx_tabOut (tgt := 1596) dL_law_40 (by decide) (by decide) ?_
      exact rx_Wm (next A C S w (vW_up hv (Nat.le_succ _)) hC hS) (by omega) (by omega)
    · refine rx_tabOut (tgt := 1596) dL_law_40 (by decide) (by decide) ?_
      exact rx_Wm (next A C S w (vW_up hv (Nat.le_succ _)) hC hS) (by omega) (by omega)
    · refine rx_tabOut (tgt := 1596) dL_law_40 (by decide) (by decide) ?_
      exact rx_Wm (next A C S w (vW_up hv (Nat.le_succ _)) hC hS) (by omega) (by omega)
    · refine rx_tabOut (tgt := 1596) dL_law_40 (by decide) (by decide) ?_
      exact rx_Wm (next A C S w (vW_up hv (Nat.le_succ _)) hC hS) (by omega) (by omega)
    · refine rx_tabOut (tgt := 1596) dL_law_40 (by decide) (by decide) ?_
      exact rx_Wm (next A C S w (vW_up hv (Nat.le_succ _)) hC hS) (by omega) (by omega)
    · refine rx_tabOut (tgt := 1596) dL_law_40 (by decide) (by decide) ?_
      exact rx_Wm (next A C S w (vW_up hv (Nat.le_succ _)) hC hS) (by omega) (by omega)
    · refine rx_tabOut (tgt := 1596) dL_law_40 (by decide) (by decide) ?_
      exact rx_Wm (next A C S w (vW_up hv (Nat.le_succ _)) hC hS) (by omega) (by omega)
theorem rx_law : rx_Law := fun G tab hG hN => by
  have hL : G.2.2.2.2.2.1 ≤ 5120 := hG.2.2.2.2.2.2.1
  refine law_begin hG ?_
  refine rx_Wm (mc := 8 * 512) (ms := 2000 * 512) ?_ (by decide) (by decide)
  exact law_loop hG hN hL 512 0 iW iA iC iS rfl iV iRc iRm

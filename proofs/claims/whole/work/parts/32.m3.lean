theorem dX11_isLocked_0 : decode cX11_isLocked 0 = .ok (.iconst 0, 1) := by decide +kernel
theorem dX11_isLocked_1 : decode cX11_isLocked 1 = .ok (.istore_n 3, 1) := by decide +kernel
theorem dX11_isLocked_2 : decode cX11_isLocked 2 = .ok (.iconst 0, 1) := by decide +kernel
theorem dX11_isLocked_3 : decode cX11_isLocked 3 = .ok (.istore 4, 2) := by decide +kernel
theorem dX11_isLocked_5 : decode cX11_isLocked 5 = .ok (.iload 4, 2) := by decide +kernel
theorem dX11_isLocked_7 : decode cX11_isLocked 7 = .ok (.aload_n 0, 1) := by decide +kernel
theorem dX11_isLocked_8 : decode cX11_isLocked 8 = .ok (.getfield 203, 3) := by decide +kernel
theorem dX11_isLocked_11 : decode cX11_isLocked 11 = .ok (.if_icmp .ge 42, 3) := by decide +kernel
theorem dX11_isLocked_14 : decode cX11_isLocked 14 = .ok (.iload_n 3, 1) := by decide +kernel
theorem dX11_isLocked_15 : decode cX11_isLocked 15 = .ok (.ifCond .ne 26, 3) := by decide +kernel
theorem dX11_isLocked_18 : decode cX11_isLocked 18 = .ok (.aload_n 0, 1) := by decide +kernel
theorem dX11_isLocked_19 : decode cX11_isLocked 19 = .ok (.getfield 135, 3) := by decide +kernel
theorem dX11_isLocked_22 : decode cX11_isLocked 22 = .ok (.iload 4, 2) := by decide +kernel
theorem dX11_isLocked_24 : decode cX11_isLocked 24 = .ok (.baload, 1) := by decide +kernel
theorem dX11_isLocked_25 : decode cX11_isLocked 25 = .ok (.ifCond .eq 20, 3) := by decide +kernel
theorem dX11_isLocked_28 : decode cX11_isLocked 28 = .ok (.aload_n 0, 1) := by decide +kernel
theorem dX11_isLocked_29 : decode cX11_isLocked 29 = .ok (.getfield 120, 3) := by decide +kernel
theorem dX11_isLocked_32 : decode cX11_isLocked 32 = .ok (.iload 4, 2) := by decide +kernel
theorem dX11_isLocked_34 : decode cX11_isLocked 34 = .ok (.iaload, 1) := by decide +kernel
theorem dX11_isLocked_35 : decode cX11_isLocked 35 = .ok (.i2l, 1) := by decide +kernel
theorem dX11_isLocked_36 : decode cX11_isLocked 36 = .ok (.lload_n 1, 1) := by decide +kernel
theorem dX11_isLocked_37 : decode cX11_isLocked 37 = .ok (.lcmp, 1) := by decide +kernel
theorem dX11_isLocked_38 : decode cX11_isLocked 38 = .ok (.ifCond .ne 7, 3) := by decide +kernel
theorem dX11_isLocked_41 : decode cX11_isLocked 41 = .ok (.iconst 1, 1) := by decide +kernel
theorem dX11_isLocked_42 : decode cX11_isLocked 42 = .ok (.goto 4, 3) := by decide +kernel
theorem dX11_isLocked_45 : decode cX11_isLocked 45 = .ok (.iconst 0, 1) := by decide +kernel
theorem dX11_isLocked_46 : decode cX11_isLocked 46 = .ok (.istore_n 3, 1) := by decide +kernel
theorem dX11_isLocked_47 : decode cX11_isLocked 47 = .ok (.iinc 4 1, 3) := by decide +kernel
theorem dX11_isLocked_50 : decode cX11_isLocked 50 = .ok (.goto (-45), 3) := by decide +kernel
theorem dX11_isLocked_53 : decode cX11_isLocked 53 = .ok (.iload_n 3, 1) := by decide +kernel
theorem dX11_isLocked_54 : decode cX11_isLocked 54 = .ok (.ireturn, 1) := by decide +kernel
theorem dX11_hasFrame_0 : decode cX11_hasFrame 0 = .ok (.iconst 0, 1) := by decide +kernel
theorem dX11_hasFrame_1 : decode cX11_hasFrame 1 = .ok (.istore_n 2, 1) := by decide +kernel
theorem dX11_hasFrame_2 : decode cX11_hasFrame 2 = .ok (.iconst 0, 1) := by decide +kernel
theorem dX11_hasFrame_3 : decode cX11_hasFrame 3 = .ok (.istore_n 3, 1) := by decide +kernel
theorem dX11_hasFrame_4 : decode cX11_hasFrame 4 = .ok (.iload_n 3, 1) := by decide +kernel
theorem dX11_hasFrame_5 : decode cX11_hasFrame 5 = .ok (.aload_n 0, 1) := by decide +kernel
theorem dX11_hasFrame_6 : decode cX11_hasFrame 6 = .ok (.getfield 203, 3) := by decide +kernel
theorem dX11_hasFrame_9 : decode cX11_hasFrame 9 = .ok (.if_icmp .ge 29, 3) := by decide +kernel
theorem dX11_hasFrame_12 : decode cX11_hasFrame 12 = .ok (.iload_n 2, 1) := by decide +kernel
theorem dX11_hasFrame_13 : decode cX11_hasFrame 13 = .ok (.ifCond .ne 13, 3) := by decide +kernel
theorem dX11_hasFrame_16 : decode cX11_hasFrame 16 = .ok (.aload_n 0, 1) := by decide +kernel
theorem dX11_hasFrame_17 : decode cX11_hasFrame 17 = .ok (.getfield 120, 3) := by decide +kernel
theorem dX11_hasFrame_20 : decode cX11_hasFrame 20 = .ok (.iload_n 3, 1) := by decide +kernel
theorem dX11_hasFrame_21 : decode cX11_hasFrame 21 = .ok (.iaload, 1) := by decide +kernel
theorem dX11_hasFrame_22 : decode cX11_hasFrame 22 = .ok (.iload_n 1, 1) := by decide +kernel
theorem dX11_hasFrame_23 : decode cX11_hasFrame 23 = .ok (.if_icmp .ne 7, 3) := by decide +kernel
theorem dX11_hasFrame_26 : decode cX11_hasFrame 26 = .ok (.iconst 1, 1) := by decide +kernel
theorem dX11_hasFrame_27 : decode cX11_hasFrame 27 = .ok (.goto 4, 3) := by decide +kernel
theorem dX11_hasFrame_30 : decode cX11_hasFrame 30 = .ok (.iconst 0, 1) := by decide +kernel
theorem dX11_hasFrame_31 : decode cX11_hasFrame 31 = .ok (.istore_n 2, 1) := by decide +kernel
theorem dX11_hasFrame_32 : decode cX11_hasFrame 32 = .ok (.iinc 3 1, 3) := by decide +kernel
theorem dX11_hasFrame_35 : decode cX11_hasFrame 35 = .ok (.goto (-31), 3) := by decide +kernel
theorem dX11_hasFrame_38 : decode cX11_hasFrame 38 = .ok (.iload_n 2, 1) := by decide +kernel
theorem dX11_hasFrame_39 : decode cX11_hasFrame 39 = .ok (.ireturn, 1) := by decide +kernel
theorem dX11_isEmpty_0 : decode cX11_isEmpty 0 = .ok (.iconst 1, 1) := by decide +kernel
theorem dX11_isEmpty_1 : decode cX11_isEmpty 1 = .ok (.istore_n 2, 1) := by decide +kernel
theorem dX11_isEmpty_2 : decode cX11_isEmpty 2 = .ok (.iconst 0, 1) := by decide +kernel
theorem dX11_isEmpty_3 : decode cX11_isEmpty 3 = .ok (.istore_n 3, 1) := by decide +kernel
theorem dX11_isEmpty_4 : decode cX11_isEmpty 4 = .ok (.iload_n 3, 1) := by decide +kernel
theorem dX11_isEmpty_5 : decode cX11_isEmpty 5 = .ok (.bipush 19, 2) := by decide +kernel
theorem dX11_isEmpty_7 : decode cX11_isEmpty 7 = .ok (.if_icmp .ge 35, 3) := by decide +kernel
theorem dX11_isEmpty_10 : decode cX11_isEmpty 10 = .ok (.iload_n 2, 1) := by decide +kernel
theorem dX11_isEmpty_11 : decode cX11_isEmpty 11 = .ok (.ifCond .eq 23, 3) := by decide +kernel
theorem dX11_isEmpty_14 : decode cX11_isEmpty 14 = .ok (.aload_n 0, 1) := by decide +kernel
theorem dX11_isEmpty_15 : decode cX11_isEmpty 15 = .ok (.getfield 99, 3) := by decide +kernel
theorem dX11_isEmpty_18 : decode cX11_isEmpty 18 = .ok (.bipush 19, 2) := by decide +kernel
theorem dX11_isEmpty_20 : decode cX11_isEmpty 20 = .ok (.iload_n 1, 1) := by decide +kernel
theorem dX11_isEmpty_21 : decode cX11_isEmpty 21 = .ok (.imul, 1) := by decide +kernel
theorem dX11_isEmpty_22 : decode cX11_isEmpty 22 = .ok (.iload_n 3, 1) := by decide +kernel
theorem dX11_isEmpty_23 : decode cX11_isEmpty 23 = .ok (.iadd, 1) := by decide +kernel
theorem dX11_isEmpty_24 : decode cX11_isEmpty 24 = .ok (.laload, 1) := by decide +kernel
theorem dX11_isEmpty_25 : decode cX11_isEmpty 25 = .ok (.lconst 0, 1) := by decide +kernel
theorem dX11_isEmpty_26 : decode cX11_isEmpty 26 = .ok (.lcmp, 1) := by decide +kernel
theorem dX11_isEmpty_27 : decode cX11_isEmpty 27 = .ok (.ifCond .ne 7, 3) := by decide +kernel
theorem dX11_isEmpty_30 : decode cX11_isEmpty 30 = .ok (.iconst 1, 1) := by decide +kernel
theorem dX11_isEmpty_31 : decode cX11_isEmpty 31 = .ok (.goto 4, 3) := by decide +kernel
theorem dX11_isEmpty_34 : decode cX11_isEmpty 34 = .ok (.iconst 0, 1) := by decide +kernel
theorem dX11_isEmpty_35 : decode cX11_isEmpty 35 = .ok (.istore_n 2, 1) := by decide +kernel
theorem dX11_isEmpty_36 : decode cX11_isEmpty 36 = .ok (.iinc 3 1, 3) := by decide +kernel
theorem dX11_isEmpty_39 : decode cX11_isEmpty 39 = .ok (.goto (-35), 3) := by decide +kernel
theorem dX11_isEmpty_42 : decode cX11_isEmpty 42 = .ok (.iload_n 2, 1) := by decide +kernel
theorem dX11_isEmpty_43 : decode cX11_isEmpty 43 = .ok (.ireturn, 1) := by decide +kernel
theorem lm_isLocked {G : rx_E} {d mc ms : Nat} {C : rx_M} {S : gs_T} {Q : Option Value → rx_M → Prop} {Z : String → rx_M → Prop} (hG : rx_OK G) {n : Nat} {x : Int64} (hn : S.1 52 49 = nI n) (hn1 : n ≤ 11) (hQ : ∀ v, (v = 1 ∧ (∃ j, j < n ∧ (S.1 94 j ≠ 0 ∧ (S.1 89 j).toInt64 = x))) ∨ (v = 0 ∧ ¬ ∃ j, j < n ∧ (S.1 94 j ≠ 0 ∧ (S.1 89 j).toInt64 = x)) → Q (some (.int (nI v))) (gl C S)) : ∀ (k i v : Nat), i + k = n → ((v = 1 ∧ ∃ j, j < i ∧ (S.1 94 j ≠ 0 ∧ (S.1 89 j).toInt64 = x)) ∨ (v = 0 ∧ ¬ ∃ j, j < i ∧ (S.1 94 j ≠ 0 ∧ (S.1 89 j).toInt64 = x))) → rx_W G MX11_isLocked d 5 [(4, .int (nI i)), (3, .int (nI v)), (1, .long x), (0, .ref 52)] [] (gl C S) mc ms Q Z := by
  intro k
  induction k with
  | zero =>
    intro i v hi hv
    have hi : i = n := by omega
    subst hi
    refine rx_iload dX11_isLocked_5 rfl ?_
    refine rx_aload_n dX11_isLocked_7 rfl rfl ?_
    refine gmv_getI (v := nI i) hG hf_RX11_203 rfl dX11_isLocked_8 rfl rfl rfl hn ?_
    refine rx_icmp_ge (tgt := 53) dX11_isLocked_11 (by decide) (fun h11 => ?_) (fun h11 => absurd (by rw [nI_leI (by omega) (by omega)]; omega) h11) 
    refine rx_iload_n dX11_isLocked_53 rfl ?_
    exact rx_zret rfl (by rcases hv with ⟨rfl, -⟩ | ⟨rfl, -⟩ <;> rfl) dX11_isLocked_54 (hQ v hv)
  | succ k ih =>
    intro i v hi hv
    rcases hv with ⟨rfl, hv⟩ | ⟨rfl, hv⟩
    · refine rx_iload dX11_isLocked_5 rfl ?_
      refine rx_aload_n dX11_isLocked_7 rfl rfl ?_
      refine gmv_getI (v := nI n) hG hf_RX11_203 rfl dX11_isLocked_8 rfl rfl rfl hn ?_
      refine rx_icmp_ge (tgt := 53) dX11_isLocked_11 (by decide) (fun h11 => absurd h11 (by rw [nI_leI (by omega) (by omega)]; omega)) (fun h11 => ?_)
      refine rx_iload_n dX11_isLocked_14 rfl ?_
      refine rx_if_ne (tgt := 41) dX11_isLocked_15 (by decide) (fun h15 => ?_) (fun h15 => (absurd h15 (by decide))) 
      refine rx_iconst (v := nI 1) dX11_isLocked_41 rfl ?_
      refine rx_goto (tgt := 46) dX11_isLocked_42 (by decide) ?_
      refine rx_istore_n dX11_isLocked_46 (by decide) ?_
      refine rx_iinc (v := nI (i + 1)) dX11_isLocked_47 rfl ((nI_add _ 1).trans (congrArg nI (by omega))) ?_
      refine rx_goto (tgt := 5) dX11_isLocked_50 (by decide) ?_
      refine rx_lv (lv' := [(4, .int (nI (i + 1))), (3, .int (nI 1)), (1, .long x), (0, .ref 52)]) ⟨rfl, rfl, rfl, rfl, trivial⟩ ?_
      exact ih (i + 1) 1 (by omega) (Or.inl ⟨rfl, by obtain ⟨j, h1, h2⟩ := hv; exact ⟨j, by omega, h2⟩⟩)
    · refine rx_iload dX11_isLocked_5 rfl ?_
      refine rx_aload_n dX11_isLocked_7 rfl rfl ?_
      refine gmv_getI (v := nI n) hG hf_RX11_203 rfl dX11_isLocked_8 rfl rfl rfl hn ?_
      refine rx_icmp_ge (tgt := 53) dX11_isLocked_11 (by decide) (fun h11 => absurd h11 (by rw [nI_leI (by omega) (by omega)]; omega)) (fun h11 => ?_)
      refine rx_iload_n dX11_isLocked_14 rfl ?_
      refine rx_if_ne (tgt := 41) dX11_isLocked_15 (by decide) (fun h15 => (absurd h15 (by decide))) (fun h15 => ?_)
      refine rx_aload_n dX11_isLocked_18 rfl rfl ?_
      refine g_getR hG hf_RX11_135 rfl dX11_isLocked_19 rfl rfl rfl ?_
      refine rx_iload dX11_isLocked_22 rfl ?_
      refine gmv_zald (j := i) (v := S.1 94 i) hG dX11_isLocked_24 rfl rfl rfl rfl (by omega) (by decide) rfl ?_
      refine rx_if_eq (tgt := 45) dX11_isLocked_25 (by decide) (fun h25 => ?_) (fun h25 => ?_)
      · refine rx_iconst (v := nI 0) dX11_isLocked_45 rfl ?_
        refine rx_istore_n dX11_isLocked_46 (by decide) ?_
        refine rx_iinc (v := nI (i + 1)) dX11_isLocked_47 rfl ((nI_add _ 1).trans (congrArg nI (by omega))) ?_
        refine rx_goto (tgt := 5) dX11_isLocked_50 (by decide) ?_
        refine rx_lv (lv' := [(4, .int (nI (i + 1))), (3, .int (nI 0)), (1, .long x), (0, .ref 52)]) ⟨rfl, rfl, rfl, rfl, trivial⟩ ?_
        exact ih (i + 1) 0 (by omega) (Or.inr ⟨rfl, fun ⟨j, h1, h2⟩ => by by_cases e : j = i; (subst e; exact h2.1 h25); exact hv ⟨j, by omega, h2⟩⟩)
      · refine rx_aload_n dX11_isLocked_28 rfl rfl ?_
        refine g_getR hG hf_RX11_120 rfl dX11_isLocked_29 rfl rfl rfl ?_
        refine rx_iload dX11_isLocked_32 rfl ?_
        refine gmv_iald (j := i) (v := S.1 89 i) hG dX11_isLocked_34 rfl rfl rfl rfl (by omega) (by decide) rfl ?_
        refine rx_i2l dX11_isLocked_35 ?_
        refine rx_lload_n dX11_isLocked_36 rfl ?_
        refine rx_lc_ne (tgt := 45) dX11_isLocked_37 dX11_isLocked_38 (by decide) (fun h37 => ?_) (fun h37 => ?_)
        · refine rx_iconst (v := nI 0) dX11_isLocked_45 rfl ?_
          refine rx_istore_n dX11_isLocked_46 (by decide) ?_
          refine rx_iinc (v := nI (i + 1)) dX11_isLocked_47 rfl ((nI_add _ 1).trans (congrArg nI (by omega))) ?_
          refine rx_goto (tgt := 5) dX11_isLocked_50 (by decide) ?_
          refine rx_lv (lv' := [(4, .int (nI (i + 1))), (3, .int (nI 0)), (1, .long x), (0, .ref 52)]) ⟨rfl, rfl, rfl, rfl, trivial⟩ ?_
          exact ih (i + 1) 0 (by omega) (Or.inr ⟨rfl, fun ⟨j, h1, h2⟩ => by by_cases e : j = i; (subst e; exact h37 h2.2); exact hv ⟨j, by omega, h2⟩⟩)
        · refine rx_iconst (v := nI 1) dX11_isLocked_41 rfl ?_
          refine rx_goto (tgt := 46) dX11_isLocked_42 (by decide) ?_
          refine rx_istore_n dX11_isLocked_46 (by decide) ?_
          refine rx_iinc (v := nI (i + 1)) dX11_isLocked_47 rfl ((nI_add _ 1).trans (congrArg nI (by omega))) ?_
          refine rx_goto (tgt := 5) dX11_isLocked_50 (by decide) ?_
          refine rx_lv (lv' := [(4, .int (nI (i + 1))), (3, .int (nI 1)), (1, .long x), (0, .ref 52)]) ⟨rfl, rfl, rfl, rfl, trivial⟩ ?_
          exact ih (i + 1) 1 (by omega) (Or.inl ⟨rfl, i, by omega, h25, h37⟩)
theorem cm_isLocked {G : rx_E} {d : Nat} {C : rx_M} {S : gs_T} (hG : rx_OK G) {n : Nat} {x : Int64} (hn : S.1 52 49 = nI n) (hn1 : n ≤ 11) : rx_C G MX11_isLocked d [.ref 52, .long x] (gl C S) 0 0 (fun v mu => (∃ r, ((r = 1 ∧ ∃ j, j < n ∧ (S.1 94 j ≠ 0 ∧ (S.1 89 j).toInt64 = x)) ∨ (r = 0 ∧ ¬ ∃ j, j < n ∧ (S.1 94 j ≠ 0 ∧ (S.1 89 j).toInt64 = x))) ∧ v = some (.int (nI r))) ∧ mu = gl C S) := by
  refine rx_meth0 (by decide +kernel) rfl (Nat.le_of_ble_eq_true rfl) ?_
  refine rx_iconst (v := nI 0) dX11_isLocked_0 rfl ?_
  refine rx_istore_n dX11_isLocked_1 (by decide) ?_
  refine rx_iconst (v := nI 0) dX11_isLocked_2 rfl ?_
  refine rx_istore dX11_isLocked_3 (by decide) ?_
  refine rx_lv (lv' := [(4, .int (nI 0)), (3, .int (nI 0)), (1, .long x), (0, .ref 52)]) ⟨rfl, rfl, rfl, rfl, trivial⟩ ?_
  refine lm_isLocked (x := x) hG hn hn1 ?_ n 0 0 (by omega) (Or.inr ⟨rfl, fun ⟨j, h1, _⟩ => by omega⟩)
  exact fun v hv => ⟨⟨v, hv, rfl⟩, rfl⟩
theorem lm_hasFrame {G : rx_E} {d mc ms : Nat} {C : rx_M} {S : gs_T} {Q : Option Value → rx_M → Prop} {Z : String → rx_M → Prop} (hG : rx_OK G) {n a : Nat} (hn : S.1 52 49 = nI n) (hn1 : n ≤ 11) (hQ : ∀ v, (v = 1 ∧ (∃ j, j < n ∧ (S.1 89 j = nI a))) ∨ (v = 0 ∧ ¬ ∃ j, j < n ∧ (S.1 89 j = nI a)) → Q (some (.int (nI v))) (gl C S)) : ∀ (k i v : Nat), i + k = n → ((v = 1 ∧ ∃ j, j < i ∧ (S.1 89 j = nI a)) ∨ (v = 0 ∧ ¬ ∃ j, j < i ∧ (S.1 89 j = nI a))) → rx_W G MX11_hasFrame d 4 [(3, .int (nI i)), (2, .int (nI v)), (1, .int (nI a)), (0, .ref 52)] [] (gl C S) mc ms Q Z := by
  intro k
  induction k with
  | zero =>
    intro i v hi hv
    have hi : i = n := by omega
    subst hi
    refine rx_iload_n dX11_hasFrame_4 rfl ?_
    refine rx_aload_n dX11_hasFrame_5 rfl rfl ?_
    refine gmv_getI (v := nI i) hG hf_RX11_203 rfl dX11_hasFrame_6 rfl rfl rfl hn ?_
    refine rx_icmp_ge (tgt := 38) dX11_hasFrame_9 (by decide) (fun h9 => ?_) (fun h9 => absurd (by rw [nI_leI (by omega) (by omega)]; omega) h9) 
    refine rx_iload_n dX11_hasFrame_38 rfl ?_
    exact rx_zret rfl (by rcases hv with ⟨rfl, -⟩ | ⟨rfl, -⟩ <;> rfl) dX11_hasFrame_39 (hQ v hv)
  | succ k ih =>
    intro i v hi hv
    rcases hv with ⟨rfl, hv⟩ | ⟨rfl, hv⟩
    · refine rx_iload_n dX11_hasFrame_4 rfl ?_
      refine rx_aload_n dX11_hasFrame_5 rfl rfl ?_
      refine gmv_getI (v := nI n) hG hf_RX11_203 rfl dX11_hasFrame_6 rfl rfl rfl hn ?_
      refine rx_icmp_ge (tgt := 38) dX11_hasFrame_9 (by decide) (fun h9 => absurd h9 (by rw [nI_leI (by omega) (by omega)]; omega)) (fun h9 => ?_)
      refine rx_iload_n dX11_hasFrame_12 rfl ?_
      refine rx_if_ne (tgt := 26) dX11_hasFrame_13 (by decide) (fun h13 => ?_) (fun h13 => (absurd h13 (by decide))) 
      refine rx_iconst (v := nI 1) dX11_hasFrame_26 rfl ?_
      refine rx_goto (tgt := 31) dX11_hasFrame_27 (by decide) ?_
      refine rx_istore_n dX11_hasFrame_31 (by decide) ?_
      refine rx_iinc (v := nI (i + 1)) dX11_hasFrame_32 rfl ((nI_add _ 1).trans (congrArg nI (by omega))) ?_
      refine rx_goto (tgt := 4) dX11_hasFrame_35 (by decide) ?_
      refine rx_lv (lv' := [(3, .int (nI (i + 1))), (2, .int (nI 1)), (1, .int (nI a)), (0, .ref 52)]) ⟨rfl, rfl, rfl, rfl, trivial⟩ ?_
      exact ih (i + 1) 1 (by omega) (Or.inl ⟨rfl, by obtain ⟨j, h1, h2⟩ := hv; exact ⟨j, by omega, h2⟩⟩)
    · refine rx_iload_n dX11_hasFrame_4 rfl ?_
      refine rx_aload_n dX11_hasFrame_5 rfl rfl ?_
      refine gmv_getI (v := nI n) hG hf_RX11_203 rfl dX11_hasFrame_6 rfl rfl rfl hn ?_
      refine rx_icmp_ge (tgt := 38) dX11_hasFrame_9 (by decide) (fun h9 => absurd h9 (by rw [nI_leI (by omega) (by omega)]; omega)) (fun h9 => ?_)
      refine rx_iload_n dX11_hasFrame_12 rfl ?_
      refine rx_if_ne (tgt := 26) dX11_hasFrame_13 (by decide) (fun h13 => (absurd h13 (by decide))) (fun h13 => ?_)
      refine rx_aload_n dX11_hasFrame_16 rfl rfl ?_
      refine g_getR hG hf_RX11_120 rfl dX11_hasFrame_17 rfl rfl rfl ?_
      refine rx_iload_n dX11_hasFrame_20 rfl ?_
      refine gmv_iald (j := i) (v := S.1 89 i) hG dX11_hasFrame_21 rfl rfl rfl rfl (by omega) (by decide) rfl ?_
      refine rx_iload_n dX11_hasFrame_22 rfl ?_
      refine rx_icmp_ne (tgt := 30) dX11_hasFrame_23 (by decide) (fun h23 => ?_) (fun h23 => ?_)
      · refine rx_iconst (v := nI 0) dX11_hasFrame_30 rfl ?_
        refine rx_istore_n dX11_hasFrame_31 (by decide) ?_
        refine rx_iinc (v := nI (i + 1)) dX11_hasFrame_32 rfl ((nI_add _ 1).trans (congrArg nI (by omega))) ?_
        refine rx_goto (tgt := 4) dX11_hasFrame_35 (by decide) ?_
        refine rx_lv (lv' := [(3, .int (nI (i + 1))), (2, .int (nI 0)), (1, .int (nI a)), (0, .ref 52)]) ⟨rfl, rfl, rfl, rfl, trivial⟩ ?_
        exact ih (i + 1) 0 (by omega) (Or.inr ⟨rfl, fun ⟨j, h1, h2⟩ => by by_cases e : j = i; (subst e; exact h23 h2); exact hv ⟨j, by omega, h2⟩⟩)
      · refine rx_iconst (v := nI 1) dX11_hasFrame_26 rfl ?_
        refine rx_goto (tgt := 31) dX11_hasFrame_27 (by decide) ?_
        refine rx_istore_n dX11_hasFrame_31 (by decide) ?_
        refine rx_iinc (v := nI (i + 1)) dX11_hasFrame_32 rfl ((nI_add _ 1).trans (congrArg nI (by omega))) ?_
        refine rx_goto (tgt := 4) dX11_hasFrame_35 (by decide) ?_
        refine rx_lv (lv' := [(3, .int (nI (i + 1))), (2, .int (nI 1)), (1, .int (nI a)), (0, .ref 52)]) ⟨rfl, rfl, rfl, rfl, trivial⟩ ?_
        exact ih (i + 1) 1 (by omega) (Or.inl ⟨rfl, i, by omega, h23⟩)
theorem cm_hasFrame {G : rx_E} {d : Nat} {C : rx_M} {S : gs_T} (hG : rx_OK G) {n a : Nat} (hn : S.1 52 49 = nI n) (hn1 : n ≤ 11) : rx_C G MX11_hasFrame d [.ref 52, .int (nI a)] (gl C S) 0 0 (fun v mu => (∃ r, ((r = 1 ∧ ∃ j, j < n ∧ (S.1 89 j = nI a)) ∨ (r = 0 ∧ ¬ ∃ j, j < n ∧ (S.1 89 j = nI a))) ∧ v = some (.int (nI r))) ∧ mu = gl C S) := by
  refine rx_meth0 (by decide +kernel) rfl (Nat.le_of_ble_eq_true rfl) ?_
  refine rx_iconst (v := nI 0) dX11_hasFrame_0 rfl ?_
  refine rx_istore_n dX11_hasFrame_1 (by decide) ?_
  refine rx_iconst (v := nI 0) dX11_hasFrame_2 rfl ?_
  refine rx_istore_n dX11_hasFrame_3 (by decide) ?_
  refine rx_lv (lv' := [(3, .int (nI 0)), (2, .int (nI 0)), (1, .int (nI a)), (0, .ref 52)]) ⟨rfl, rfl, rfl, rfl, trivial⟩ ?_
  refine lm_hasFrame (a := a) hG hn hn1 ?_ n 0 0 (by omega) (Or.inr ⟨rfl, fun ⟨j, h1, _⟩ => by omega⟩)
  exact fun v hv => ⟨⟨v, hv, rfl⟩, rfl⟩

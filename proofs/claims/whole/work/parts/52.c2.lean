theorem dX10_isWithin_0 : decode cX10_isWithin 0 = .ok (.lload_n 0, 1) := by decide +kernel
theorem dX10_isWithin_1 : decode cX10_isWithin 1 = .ok (.lconst 0, 1) := by decide +kernel
theorem dX10_isWithin_2 : decode cX10_isWithin 2 = .ok (.lcmp, 1) := by decide +kernel
theorem dX10_isWithin_3 : decode cX10_isWithin 3 = .ok (.ifCond .lt 14, 3) := by decide +kernel
theorem dX10_isWithin_6 : decode cX10_isWithin 6 = .ok (.lload_n 0, 1) := by decide +kernel
theorem dX10_isWithin_7 : decode cX10_isWithin 7 = .ok (.iload_n 2, 1) := by decide +kernel
theorem dX10_isWithin_8 : decode cX10_isWithin 8 = .ok (.i2l, 1) := by decide +kernel
theorem dX10_isWithin_9 : decode cX10_isWithin 9 = .ok (.lcmp, 1) := by decide +kernel
theorem dX10_isWithin_10 : decode cX10_isWithin 10 = .ok (.ifCond .ge 7, 3) := by decide +kernel
theorem dX10_isWithin_13 : decode cX10_isWithin 13 = .ok (.iconst 1, 1) := by decide +kernel
theorem dX10_isWithin_14 : decode cX10_isWithin 14 = .ok (.goto 4, 3) := by decide +kernel
theorem dX10_isWithin_17 : decode cX10_isWithin 17 = .ok (.iconst 0, 1) := by decide +kernel
theorem dX10_isWithin_18 : decode cX10_isWithin 18 = .ok (.ireturn, 1) := by decide +kernel
theorem dX10_isAccount_0 : decode cX10_isAccount 0 = .ok (.lload_n 0, 1) := by decide +kernel
theorem dX10_isAccount_1 : decode cX10_isAccount 1 = .ok (.bipush 32, 2) := by decide +kernel
theorem dX10_isAccount_3 : decode cX10_isAccount 3 = .ok (.invokestatic 127, 3) := by decide +kernel
theorem dX10_isAccount_6 : decode cX10_isAccount 6 = .ok (.ireturn, 1) := by decide +kernel
theorem dX2_octetAt_0 : decode cX2_octetAt 0 = .ok (.iload_n 1, 1) := by decide +kernel
theorem dX2_octetAt_1 : decode cX2_octetAt 1 = .ok (.ifCond .lt 25, 3) := by decide +kernel
theorem dX2_octetAt_4 : decode cX2_octetAt 4 = .ok (.iload_n 1, 1) := by decide +kernel
theorem dX2_octetAt_5 : decode cX2_octetAt 5 = .ok (.aload_n 0, 1) := by decide +kernel
theorem dX2_octetAt_6 : decode cX2_octetAt 6 = .ok (.getfield 9, 3) := by decide +kernel
theorem dX2_octetAt_9 : decode cX2_octetAt 9 = .ok (.arraylength, 1) := by decide +kernel
theorem dX2_octetAt_10 : decode cX2_octetAt 10 = .ok (.if_icmp .ge 16, 3) := by decide +kernel
theorem dX2_octetAt_13 : decode cX2_octetAt 13 = .ok (.aload_n 0, 1) := by decide +kernel
theorem dX2_octetAt_14 : decode cX2_octetAt 14 = .ok (.getfield 9, 3) := by decide +kernel
theorem dX2_octetAt_17 : decode cX2_octetAt 17 = .ok (.iload_n 1, 1) := by decide +kernel
theorem dX2_octetAt_18 : decode cX2_octetAt 18 = .ok (.baload, 1) := by decide +kernel
theorem dX2_octetAt_19 : decode cX2_octetAt 19 = .ok (.sipush 255, 3) := by decide +kernel
theorem dX2_octetAt_22 : decode cX2_octetAt 22 = .ok (.iand, 1) := by decide +kernel
theorem dX2_octetAt_23 : decode cX2_octetAt 23 = .ok (.goto 4, 3) := by decide +kernel
theorem dX2_octetAt_26 : decode cX2_octetAt 26 = .ok (.iconst 0, 1) := by decide +kernel
theorem dX2_octetAt_27 : decode cX2_octetAt 27 = .ok (.ireturn, 1) := by decide +kernel
theorem dX2_numberAt_0 : decode cX2_numberAt 0 = .ok (.lconst 0, 1) := by decide +kernel
theorem dX2_numberAt_1 : decode cX2_numberAt 1 = .ok (.lstore_n 2, 1) := by decide +kernel
theorem dX2_numberAt_2 : decode cX2_numberAt 2 = .ok (.iconst 0, 1) := by decide +kernel
theorem dX2_numberAt_3 : decode cX2_numberAt 3 = .ok (.istore 4, 2) := by decide +kernel
theorem dX2_numberAt_5 : decode cX2_numberAt 5 = .ok (.iload 4, 2) := by decide +kernel
theorem dX2_numberAt_7 : decode cX2_numberAt 7 = .ok (.bipush 8, 2) := by decide +kernel
theorem dX2_numberAt_9 : decode cX2_numberAt 9 = .ok (.if_icmp .ge 24, 3) := by decide +kernel
theorem dX2_numberAt_12 : decode cX2_numberAt 12 = .ok (.lload_n 2, 1) := by decide +kernel
theorem dX2_numberAt_13 : decode cX2_numberAt 13 = .ok (.bipush 8, 2) := by decide +kernel
theorem dX2_numberAt_15 : decode cX2_numberAt 15 = .ok (.lshl, 1) := by decide +kernel
theorem dX2_numberAt_16 : decode cX2_numberAt 16 = .ok (.aload_n 0, 1) := by decide +kernel
theorem dX2_numberAt_17 : decode cX2_numberAt 17 = .ok (.iload_n 1, 1) := by decide +kernel
theorem dX2_numberAt_18 : decode cX2_numberAt 18 = .ok (.iload 4, 2) := by decide +kernel
theorem dX2_numberAt_20 : decode cX2_numberAt 20 = .ok (.iadd, 1) := by decide +kernel
theorem dX2_numberAt_21 : decode cX2_numberAt 21 = .ok (.invokevirtual 15, 3) := by decide +kernel
theorem dX2_numberAt_24 : decode cX2_numberAt 24 = .ok (.i2l, 1) := by decide +kernel
theorem dX2_numberAt_25 : decode cX2_numberAt 25 = .ok (.lor, 1) := by decide +kernel
theorem dX2_numberAt_26 : decode cX2_numberAt 26 = .ok (.lstore_n 2, 1) := by decide +kernel
theorem dX2_numberAt_27 : decode cX2_numberAt 27 = .ok (.iinc 4 1, 3) := by decide +kernel
theorem dX2_numberAt_30 : decode cX2_numberAt 30 = .ok (.goto (-25), 3) := by decide +kernel
theorem dX2_numberAt_33 : decode cX2_numberAt 33 = .ok (.lload_n 2, 1) := by decide +kernel
theorem dX2_numberAt_34 : decode cX2_numberAt 34 = .ok (.lreturn, 1) := by decide +kernel
theorem dX2_octetsBehind_0 : decode cX2_octetsBehind 0 = .ok (.iload_n 0, 1) := by decide +kernel
theorem dX2_octetsBehind_1 : decode cX2_octetsBehind 1 = .ok (.tableswitch 100 1 20 #[95, 97, 100, 95, 95, 100, 100, 100, 100, 100, 100, 100, 100, 100, 100, 100, 100, 100, 95, 95], 95) := by decide +kernel
theorem dX2_octetsBehind_96 : decode cX2_octetsBehind 96 = .ok (.iconst 1, 1) := by decide +kernel
theorem dX2_octetsBehind_97 : decode cX2_octetsBehind 97 = .ok (.ireturn, 1) := by decide +kernel
theorem dX2_octetsBehind_98 : decode cX2_octetsBehind 98 = .ok (.bipush 8, 2) := by decide +kernel
theorem dX2_octetsBehind_100 : decode cX2_octetsBehind 100 = .ok (.ireturn, 1) := by decide +kernel
theorem dX2_octetsBehind_101 : decode cX2_octetsBehind 101 = .ok (.iconst 0, 1) := by decide +kernel
theorem dX2_octetsBehind_102 : decode cX2_octetsBehind 102 = .ok (.ireturn, 1) := by decide +kernel
theorem dX3_has_0 : decode cX3_has 0 = .ok (.lload_n 1, 1) := by decide +kernel
theorem dX3_has_1 : decode cX3_has 1 = .ok (.aload_n 0, 1) := by decide +kernel
theorem dX3_has_2 : decode cX3_has 2 = .ok (.getfield 17, 3) := by decide +kernel
theorem dX3_has_5 : decode cX3_has 5 = .ok (.invokestatic 21, 3) := by decide +kernel
theorem dX3_has_8 : decode cX3_has 8 = .ok (.ireturn, 1) := by decide +kernel
theorem dX6_push_0 : decode cX6_push 0 = .ok (.aload_n 0, 1) := by decide +kernel
theorem dX6_push_1 : decode cX6_push 1 = .ok (.getfield 9, 3) := by decide +kernel
theorem dX6_push_4 : decode cX6_push 4 = .ok (.aload_n 0, 1) := by decide +kernel
theorem dX6_push_5 : decode cX6_push 5 = .ok (.getfield 56, 3) := by decide +kernel
theorem dX6_push_8 : decode cX6_push 8 = .ok (.lload_n 1, 1) := by decide +kernel
theorem dX6_push_9 : decode cX6_push 9 = .ok (.lastore, 1) := by decide +kernel
theorem dX6_push_10 : decode cX6_push 10 = .ok (.aload_n 0, 1) := by decide +kernel
theorem dX6_push_11 : decode cX6_push 11 = .ok (.dup, 1) := by decide +kernel
theorem dX6_push_12 : decode cX6_push 12 = .ok (.getfield 56, 3) := by decide +kernel
theorem dX6_push_15 : decode cX6_push 15 = .ok (.iconst 1, 1) := by decide +kernel
theorem dX6_push_16 : decode cX6_push 16 = .ok (.iadd, 1) := by decide +kernel
theorem dX6_push_17 : decode cX6_push 17 = .ok (.putfield 56, 3) := by decide +kernel
theorem dX6_push_20 : decode cX6_push 20 = .ok (.return_, 1) := by decide +kernel
theorem dX6_pop_0 : decode cX6_pop 0 = .ok (.aload_n 0, 1) := by decide +kernel
theorem dX6_pop_1 : decode cX6_pop 1 = .ok (.dup, 1) := by decide +kernel
theorem dX6_pop_2 : decode cX6_pop 2 = .ok (.getfield 56, 3) := by decide +kernel
theorem dX6_pop_5 : decode cX6_pop 5 = .ok (.iconst 1, 1) := by decide +kernel
theorem dX6_pop_6 : decode cX6_pop 6 = .ok (.isub, 1) := by decide +kernel
theorem dX6_pop_7 : decode cX6_pop 7 = .ok (.putfield 56, 3) := by decide +kernel
theorem dX6_pop_10 : decode cX6_pop 10 = .ok (.aload_n 0, 1) := by decide +kernel
theorem dX6_pop_11 : decode cX6_pop 11 = .ok (.getfield 9, 3) := by decide +kernel
theorem dX6_pop_14 : decode cX6_pop 14 = .ok (.aload_n 0, 1) := by decide +kernel
theorem dX6_pop_15 : decode cX6_pop 15 = .ok (.getfield 56, 3) := by decide +kernel
theorem dX6_pop_18 : decode cX6_pop 18 = .ok (.laload, 1) := by decide +kernel
theorem dX6_pop_19 : decode cX6_pop 19 = .ok (.lreturn, 1) := by decide +kernel
theorem dX6_pays_0 : decode cX6_pays 0 = .ok (.aload_n 0, 1) := by decide +kernel
theorem dX6_pays_1 : decode cX6_pays 1 = .ok (.getfield 47, 3) := by decide +kernel
theorem dX6_pays_4 : decode cX6_pays 4 = .ok (.iload_n 1, 1) := by decide +kernel
theorem dX6_pays_5 : decode cX6_pays 5 = .ok (.if_icmp .ge 5, 3) := by decide +kernel
theorem dX6_pays_8 : decode cX6_pays 8 = .ok (.iconst 0, 1) := by decide +kernel
theorem dX6_pays_9 : decode cX6_pays 9 = .ok (.ireturn, 1) := by decide +kernel
theorem dX6_pays_10 : decode cX6_pays 10 = .ok (.aload_n 0, 1) := by decide +kernel
theorem dX6_pays_11 : decode cX6_pays 11 = .ok (.dup, 1) := by decide +kernel
theorem dX6_pays_12 : decode cX6_pays 12 = .ok (.getfield 47, 3) := by decide +kernel
theorem dX6_pays_15 : decode cX6_pays 15 = .ok (.iload_n 1, 1) := by decide +kernel
theorem dX6_pays_16 : decode cX6_pays 16 = .ok (.isub, 1) := by decide +kernel
theorem dX6_pays_17 : decode cX6_pays 17 = .ok (.putfield 47, 3) := by decide +kernel
theorem dX6_pays_20 : decode cX6_pays 20 = .ok (.iconst 1, 1) := by decide +kernel
theorem dX6_pays_21 : decode cX6_pays 21 = .ok (.ireturn, 1) := by decide +kernel
theorem dX6_operand_0 : decode cX6_operand 0 = .ok (.aload_n 0, 1) := by decide +kernel
theorem dX6_operand_1 : decode cX6_operand 1 = .ok (.getfield 18, 3) := by decide +kernel
theorem dX6_operand_4 : decode cX6_operand 4 = .ok (.aload_n 0, 1) := by decide +kernel
theorem dX6_operand_5 : decode cX6_operand 5 = .ok (.getfield 68, 3) := by decide +kernel
theorem dX6_operand_8 : decode cX6_operand 8 = .ok (.invokevirtual 62, 3) := by decide +kernel
theorem dX6_operand_11 : decode cX6_operand 11 = .ok (.ireturn, 1) := by decide +kernel
theorem dX6_leavesOneMore_0 : decode cX6_leavesOneMore 0 = .ok (.iload_n 0, 1) := by decide +kernel
theorem dX6_leavesOneMore_1 : decode cX6_leavesOneMore 1 = .ok (.iconst 1, 1) := by decide +kernel
theorem dX6_leavesOneMore_2 : decode cX6_leavesOneMore 2 = .ok (.if_icmp .eq 25, 3) := by decide +kernel
theorem dX6_leavesOneMore_5 : decode cX6_leavesOneMore 5 = .ok (.iload_n 0, 1) := by decide +kernel
theorem dX6_leavesOneMore_6 : decode cX6_leavesOneMore 6 = .ok (.iconst 2, 1) := by decide +kernel
theorem dX6_leavesOneMore_7 : decode cX6_leavesOneMore 7 = .ok (.if_icmp .eq 20, 3) := by decide +kernel
theorem dX6_leavesOneMore_10 : decode cX6_leavesOneMore 10 = .ok (.iload_n 0, 1) := by decide +kernel
theorem dX6_leavesOneMore_11 : decode cX6_leavesOneMore 11 = .ok (.iconst 4, 1) := by decide +kernel
theorem dX6_leavesOneMore_12 : decode cX6_leavesOneMore 12 = .ok (.if_icmp .eq 15, 3) := by decide +kernel
theorem dX6_leavesOneMore_15 : decode cX6_leavesOneMore 15 = .ok (.iload_n 0, 1) := by decide +kernel
theorem dX6_leavesOneMore_16 : decode cX6_leavesOneMore 16 = .ok (.bipush 23, 2) := by decide +kernel
theorem dX6_leavesOneMore_18 : decode cX6_leavesOneMore 18 = .ok (.if_icmp .lt 13, 3) := by decide +kernel
theorem dX6_leavesOneMore_21 : decode cX6_leavesOneMore 21 = .ok (.iload_n 0, 1) := by decide +kernel
theorem dX6_leavesOneMore_22 : decode cX6_leavesOneMore 22 = .ok (.bipush 29, 2) := by decide +kernel
theorem dX6_leavesOneMore_24 : decode cX6_leavesOneMore 24 = .ok (.if_icmp .gt 7, 3) := by decide +kernel
theorem dX6_leavesOneMore_27 : decode cX6_leavesOneMore 27 = .ok (.iconst 1, 1) := by decide +kernel
theorem dX6_leavesOneMore_28 : decode cX6_leavesOneMore 28 = .ok (.goto 4, 3) := by decide +kernel
theorem dX6_leavesOneMore_31 : decode cX6_leavesOneMore 31 = .ok (.iconst 0, 1) := by decide +kernel
theorem dX6_leavesOneMore_32 : decode cX6_leavesOneMore 32 = .ok (.ireturn, 1) := by decide +kernel
theorem dX6_nextAct_0 : decode cX6_nextAct 0 = .ok (.aload_n 0, 1) := by decide +kernel
theorem dX6_nextAct_1 : decode cX6_nextAct 1 = .ok (.getfield 18, 3) := by decide +kernel
theorem dX6_nextAct_4 : decode cX6_nextAct 4 = .ok (.aload_n 0, 1) := by decide +kernel
theorem dX6_nextAct_5 : decode cX6_nextAct 5 = .ok (.getfield 59, 3) := by decide +kernel
theorem dX6_nextAct_8 : decode cX6_nextAct 8 = .ok (.invokevirtual 62, 3) := by decide +kernel
theorem dX6_nextAct_11 : decode cX6_nextAct 11 = .ok (.istore_n 1, 1) := by decide +kernel
theorem dX6_nextAct_12 : decode cX6_nextAct 12 = .ok (.aload_n 0, 1) := by decide +kernel
theorem dX6_nextAct_13 : decode cX6_nextAct 13 = .ok (.aload_n 0, 1) := by decide +kernel
theorem dX6_nextAct_14 : decode cX6_nextAct 14 = .ok (.getfield 59, 3) := by decide +kernel
theorem dX6_nextAct_17 : decode cX6_nextAct 17 = .ok (.iconst 1, 1) := by decide +kernel
theorem dX6_nextAct_18 : decode cX6_nextAct 18 = .ok (.iadd, 1) := by decide +kernel
theorem dX6_nextAct_19 : decode cX6_nextAct 19 = .ok (.putfield 68, 3) := by decide +kernel
theorem dX6_nextAct_22 : decode cX6_nextAct 22 = .ok (.aload_n 0, 1) := by decide +kernel
theorem dX6_nextAct_23 : decode cX6_nextAct 23 = .ok (.dup, 1) := by decide +kernel
theorem dX6_nextAct_24 : decode cX6_nextAct 24 = .ok (.getfield 59, 3) := by decide +kernel
theorem dX6_nextAct_27 : decode cX6_nextAct 27 = .ok (.iconst 1, 1) := by decide +kernel
theorem dX6_nextAct_28 : decode cX6_nextAct 28 = .ok (.iload_n 1, 1) := by decide +kernel
theorem dX6_nextAct_29 : decode cX6_nextAct 29 = .ok (.invokestatic 71, 3) := by decide +kernel
theorem dX6_nextAct_32 : decode cX6_nextAct 32 = .ok (.iadd, 1) := by decide +kernel
theorem dX6_nextAct_33 : decode cX6_nextAct 33 = .ok (.iadd, 1) := by decide +kernel
theorem dX6_nextAct_34 : decode cX6_nextAct 34 = .ok (.putfield 59, 3) := by decide +kernel
theorem dX6_nextAct_37 : decode cX6_nextAct 37 = .ok (.iload_n 1, 1) := by decide +kernel
theorem dX6_nextAct_38 : decode cX6_nextAct 38 = .ok (.ireturn, 1) := by decide +kernel
theorem cc_within {G : rx_E} {d : Nat} {x : Int64} {N : Int32} {mu : rx_M} (hG : rx_OK G) : rx_C G MX10_isWithin d [.long x, .int N] mu 0 0 (fun v m => (∃ r, ((r = 1 ∧ ¬ x < 0 ∧ x < N.toInt64) ∨ (r = 0 ∧ ¬ (¬ x < 0 ∧ x < N.toInt64))) ∧ v = some (.int (nI r))) ∧ m = mu) := by
  refine rx_meth0 (by decide +kernel) rfl (Nat.le_of_ble_eq_true rfl) ?_
  refine rx_lload_n dX10_isWithin_0 rfl ?_
  refine rx_lconst (v := 0) dX10_isWithin_1 rfl ?_
  refine rx_lc_lt (tgt := 17) dX10_isWithin_2 dX10_isWithin_3 (by decide) (fun h2 => ?_) (fun h2 => ?_)
  · refine rx_iconst (v := nI 0) dX10_isWithin_17 rfl ?_
    exact rx_zret rfl rfl dX10_isWithin_18 ⟨⟨0, Or.inr ⟨rfl, fun h => h.1 h2⟩, rfl⟩, rfl⟩
  · refine rx_lload_n dX10_isWithin_6 rfl ?_
    refine rx_iload_n dX10_isWithin_7 rfl ?_
    refine rx_i2l dX10_isWithin_8 ?_
    refine rx_tl (y := N.toInt64) rfl ?_
    refine rx_lc_ge (tgt := 17) dX10_isWithin_9 dX10_isWithin_10 (by decide) (fun h9 => ?_) (fun h9 => ?_)
    · refine rx_iconst (v := nI 0) dX10_isWithin_17 rfl ?_
      exact rx_zret rfl rfl dX10_isWithin_18 ⟨⟨0, Or.inr ⟨rfl, fun h => absurd h9 (Int64.not_le.mpr h.2)⟩, rfl⟩, rfl⟩
    · refine rx_iconst (v := nI 1) dX10_isWithin_13 rfl ?_
      refine rx_goto (tgt := 18) dX10_isWithin_14 (by decide) ?_
      exact rx_zret rfl rfl dX10_isWithin_18 ⟨⟨1, Or.inl ⟨rfl, Int64.not_lt.mpr (Int64.not_lt.mp h2), Int64.not_le.mp h9⟩, rfl⟩, rfl⟩
theorem cc_isAccount {G : rx_E} {d : Nat} {x : Int64} {mu : rx_M} (hG : rx_OK G) : rx_C G MX10_isAccount (d + 1) [.long x] mu 0 0 (fun v m => (∃ r, ((r = 1 ∧ vm_acct x) ∨ (r = 0 ∧ ¬ vm_acct x)) ∧ v = some (.int (nI r))) ∧ m = mu) := by
  refine rx_meth0 (by decide +kernel) rfl (Nat.le_of_ble_eq_true rfl) ?_
  refine rx_lload_n dX10_isAccount_0 rfl ?_
  refine rx_bipush (v := nI 32) dX10_isAccount_1 rfl ?_
  refine rx_invS0 (as := [.long _, .int _]) hG okX10_isWithin lk_RX10_127 dX10_isAccount_3 rfl (by simp [Value.category]) (cc_within hG) ?_
  rintro _ _ ⟨⟨r, hr, rfl⟩, rfl⟩
  refine rx_zret rfl (by rcases hr with ⟨rfl, -⟩ | ⟨rfl, -⟩ <;> rfl) dX10_isAccount_6 ⟨⟨r, ?_, rfl⟩, rfl⟩
  rw [show (nI 32).toInt64 = (32 : Int64) from rfl] at hr
  rcases hr with ⟨rfl, h1, h2⟩ | ⟨rfl, h1⟩
  · exact Or.inl ⟨rfl, Int64.not_lt.mp h1, h2⟩
  · exact Or.inr ⟨rfl, fun h => h1 ⟨Int64.not_lt.mpr h.1, h.2⟩⟩
theorem cc_has {G : rx_E} {d : Nat} {S : gs_T} {C : rx_M} {N : Nat} {x : Int64} (hG : rx_OK G) (hN : C.1 5 1 = nI N) (hN2 : N ≤ 16) : rx_C G MX3_has (d + 1) [.ref 5, .long x] (gl C S) 0 0 (fun v m => (∃ r, ((r = 1 ∧ ¬ x < 0 ∧ ¬ lN N ≤ x) ∨ (r = 0 ∧ (x < 0 ∨ lN N ≤ x))) ∧ v = some (.int (nI r))) ∧ m = gl C S) := by
  refine rx_meth0 (by decide +kernel) rfl (Nat.le_of_ble_eq_true rfl) ?_
  refine rx_lload_n dX3_has_0 rfl ?_
  refine rx_aload_n dX3_has_1 rfl rfl ?_
  refine gcv_getI (v := nI N) hG hf_RX3_17 rfl dX3_has_2 rfl rfl rfl hN ?_
  refine rx_invS0 (as := [.long _, .int _]) hG okX10_isWithin lk_RX3_21 dX3_has_5 rfl (by simp [Value.category]) (cc_within hG) ?_
  rintro _ _ ⟨⟨r, hr, rfl⟩, rfl⟩
  refine rx_zret rfl (by rcases hr with ⟨rfl, -⟩ | ⟨rfl, -⟩ <;> rfl) dX3_has_8 ⟨⟨r, ?_, rfl⟩, rfl⟩
  rw [nI_l (by omega)] at hr
  rcases hr with ⟨rfl, h1, h2⟩ | ⟨rfl, h1⟩
  · exact Or.inl ⟨rfl, h1, Int64.not_le.mpr h2⟩
  · refine Or.inr ⟨rfl, ?_⟩
    by_cases h0 : x < 0
    · exact Or.inl h0
    · exact Or.inr (Int64.not_lt.mp (fun h => h1 ⟨h0, h⟩))
theorem oc_and : ∀ j, j < 256 → (nI j).toInt8.toInt32 &&& nI 255 = nI j := by decide +kernel
theorem cc_octetAt {G : rx_E} {d : Nat} {S : gs_T} {C : rx_M} {w : Nat × Nat} {cd : List Nat} {p : Nat} (hG : rx_OK G) (hK : rc_K C w cd) (hcl : cd.length ≤ 200) (hoct : ∀ k, k < cd.length → cd.getD k 0 < 256) (hp : p < 2 ^ 30) : rx_C G MX2_octetAt d [.ref w.1, .int (nI p)] (gl C S) 0 0 (fun v m => v = some (.int (nI (cd.getD p 0))) ∧ m = gl C S) := by
  refine rx_meth0 (by decide +kernel) rfl (Nat.le_of_ble_eq_true rfl) ?_
  refine rx_iload_n dX2_octetAt_0 rfl ?_
  refine rx_if_lt (tgt := 26) dX2_octetAt_1 (by decide) (fun h => absurd h (nI_pos (by omega))) (fun _ => ?_)
  refine rx_iload_n dX2_octetAt_4 rfl ?_
  refine rx_aload_n dX2_octetAt_5 rfl rfl ?_
  refine gx_getR hG hf_RX2_9 rfl dX2_octetAt_6 hK.1.1 hK.1.2.1 hK.1.2.2 ?_
  refine gx_alen hG dX2_octetAt_9 hK.2.1 hK.2.2.1 (by decide) ?_
  refine rx_icmp_ge (tgt := 26) dX2_octetAt_10 (by decide) (fun h10 => ?_) (fun h10 => ?_)
  · rw [nI_leI (by omega) (by omega)] at h10
    refine rx_iconst (v := nI 0) dX2_octetAt_26 rfl ?_
    refine rx_iret rfl dX2_octetAt_27 ⟨?_, rfl⟩
    rw [List.getD_eq_getElem?_getD, List.getElem?_eq_none h10]; rfl
  · rw [nI_leI (by omega) (by omega)] at h10
    refine rx_aload_n dX2_octetAt_13 rfl rfl ?_
    refine gx_getR hG hf_RX2_9 rfl dX2_octetAt_14 hK.1.1 hK.1.2.1 hK.1.2.2 ?_
    refine rx_iload_n dX2_octetAt_17 rfl ?_
    refine gx_bald hG dX2_octetAt_18 hK.2.1 hK.2.2.1 rfl (by omega) (by omega) (hK.2.2.2 p (by omega)) ?_
    refine rx_sipush (v := nI 255) dX2_octetAt_19 rfl ?_
    refine rx_iand dX2_octetAt_22 ?_
    refine rx_ti (y := nI (cd.getD p 0)) (oc_and _ (hoct p (by omega))) ?_
    refine rx_goto (tgt := 27) dX2_octetAt_23 (by decide) ?_
    exact rx_iret rfl dX2_octetAt_27 ⟨rfl, rfl⟩
theorem oc256 {cd : List Nat} (hoct : ∀ k, k < cd.length → cd.getD k 0 < 256) (p : Nat) : cd.getD p 0 < 256 := by
  by_cases h : p < cd.length
  · exact hoct p h
  · rw [List.getD_eq_getElem?_getD, List.getElem?_eq_none (by omega)]; decide
theorem cc_numberAt {G : rx_E} {d : Nat} {S : gs_T} {C : rx_M} {w : Nat × Nat} {cd : List Nat} {a0 : Nat} (hG : rx_OK G) (hK : rc_K C w cd) (hcl : cd.length ≤ 200) (hoct : ∀ k, k < cd.length → cd.getD k 0 < 256) (ha : a0 < 2 ^ 20) : rx_C G MX2_numberAt (d + 1) [.ref w.1, .int (nI (a0 + 1))] (gl C S) 0 0 (fun v m => v = some (.long (vm_big cd a0 8)) ∧ m = gl C S) := by
  refine rx_meth0 (by decide +kernel) rfl (Nat.le_of_ble_eq_true rfl) ?_
  refine rx_lconst (v := 0) dX2_numberAt_0 rfl ?_
  refine rx_lstore_n dX2_numberAt_1 (by decide) ?_
  refine rx_iconst (v := nI 0) dX2_numberAt_2 rfl ?_
  refine rx_istore dX2_numberAt_3 (by decide) ?_
  refine rx_lv (lv' := [(4, .int (nI 0)), (2, .long (vm_big cd a0 0)), (1, .int (nI (a0 + 1))), (0, .ref w.1)]) ⟨rfl, rfl, rfl, rfl, trivial⟩ ?_
  refine rx_iload dX2_numberAt_5 rfl ?_
  refine rx_bipush (v := nI 8) dX2_numberAt_7 rfl ?_
  refine rx_icmp_ge (tgt := 33) dX2_numberAt_9 (by decide) (fun h => absurd h (by decide)) (fun _ => ?_)
  refine rx_lload_n dX2_numberAt_12 rfl ?_
  refine rx_bipush (v := nI 8) dX2_numberAt_13 rfl ?_
  refine rx_lshl dX2_numberAt_15 ?_
  refine rx_tl (y := vm_big cd a0 0 <<< (8 : Int64)) rfl ?_
  refine rx_aload_n dX2_numberAt_16 rfl rfl ?_
  refine rx_iload_n dX2_numberAt_17 rfl ?_
  refine rx_iload dX2_numberAt_18 rfl ?_
  refine rx_iadd dX2_numberAt_20 ?_
  refine rx_ti (y := nI (a0 + 1)) ((nI_add _ _).trans (congrArg nI (by omega))) ?_
  refine gx_invV (as := [.int _]) hG okX2_octetAt lk_RX2_15 hK.1.1 hK.1.2.1 dX2_numberAt_21 rfl (by simp [Value.category]) (cc_octetAt hG hK hcl hoct (by omega)) ?_
  rintro _ _ ⟨rfl, rfl⟩
  refine rx_i2l dX2_numberAt_24 ?_
  refine rx_tl (y := lN (cd.getD (a0 + 1 + 0) 0)) (by rw [show a0 + 1 = a0 + 1 + 0 by omega]; exact nI_l (Nat.lt_trans (oc256 hoct _) (by decide))) ?_
  refine rx_lor dX2_numberAt_25 ?_
  refine rx_tl (y := vm_big cd a0 1) rfl ?_
  refine rx_lstore_n dX2_numberAt_26 (by decide) ?_
  refine rx_iinc (v := nI 1) dX2_numberAt_27 rfl (nI_add _ 1) ?_
  refine rx_goto (tgt := 5) dX2_numberAt_30 (by decide) ?_
  refine rx_lv (lv' := [(4, .int (nI 1)), (2, .long (vm_big cd a0 1)), (1, .int (nI (a0 + 1))), (0, .ref w.1)]) ⟨rfl, rfl, rfl, rfl, trivial⟩ ?_
  refine rx_iload dX2_numberAt_5 rfl ?_
  refine rx_bipush (v := nI 8) dX2_numberAt_7 rfl ?_
  refine rx_icmp_ge (tgt := 33) dX2_numberAt_9 (by decide) (fun h => absurd h (by decide)) (fun _ => ?_)
  refine rx_lload_n dX2_numberAt_12 rfl ?_
  refine rx_bipush (v := nI 8) dX2_numberAt_13 rfl ?_
  refine rx_lshl dX2_numberAt_15 ?_
  refine rx_tl (y := vm_big cd a0 1 <<< (8 : Int64)) rfl ?_
  refine rx_aload_n dX2_numberAt_16 rfl rfl ?_
  refine rx_iload_n dX2_numberAt_17 rfl ?_
  refine rx_iload dX2_numberAt_18 rfl ?_
  refine rx_iadd dX2_numberAt_20 ?_
  refine rx_ti (y := nI (a0 + 2)) ((nI_add _ _).trans (congrArg nI (by omega))) ?_
  refine gx_invV (as := [.int _]) hG okX2_octetAt lk_RX2_15 hK.1.1 hK.1.2.1 dX2_numberAt_21 rfl (by simp [Value.category]) (cc_octetAt hG hK hcl hoct (by omega)) ?_
  rintro _ _ ⟨rfl, rfl⟩
  refine rx_i2l dX2_numberAt_24 ?_
  refine rx_tl (y := lN (cd.getD (a0 + 1 + 1) 0)) (by rw [show a0 + 2 = a0 + 1 + 1 by omega]; exact nI_l (Nat.lt_trans (oc256 hoct _) (by decide))) ?_
  refine rx_lor dX2_numberAt_25 ?_
  refine rx_tl (y := vm_big cd a0 2) rfl ?_
  refine rx_lstore_n dX2_numberAt_26 (by decide) ?_
  refine rx_iinc (v := nI 2) dX2_numberAt_27 rfl (nI_add _ 1) ?_
  refine rx_goto (tgt := 5) dX2_numberAt_30 (by decide) ?_
  refine rx_lv (lv' := [(4, .int (nI 2)), (2, .long (vm_big cd a0 2)), (1, .int (nI (a0 + 1))), (0, .ref w.1)]) ⟨rfl, rfl, rfl, rfl, trivial⟩ ?_
  refine rx_iload dX2_numberAt_5 rfl ?_
  refine rx_bipush (v := nI 8) dX2_numberAt_7 rfl ?_
  refine rx_icmp_ge (tgt := 33) dX2_numberAt_9 (by decide) (fun h => absurd h (by decide)) (fun _ => ?_)
  refine rx_lload_n dX2_numberAt_12 rfl ?_
  refine rx_bipush (v := nI 8) dX2_numberAt_13 rfl ?_
  refine rx_lshl dX2_numberAt_15 ?_
  refine rx_tl (y := vm_big cd a0 2 <<< (8 : Int64)) rfl ?_
  refine rx_aload_n dX2_numberAt_16 rfl rfl ?_
  refine rx_iload_n dX2_numberAt_17 rfl ?_
  refine rx_iload dX2_numberAt_18 rfl ?_
  refine rx_iadd dX2_numberAt_20 ?_
  refine rx_ti (y := nI (a0 + 3)) ((nI_add _ _).trans (congrArg nI (by omega))) ?_
  refine gx_invV (as := [.int _]) hG okX2_octetAt lk_RX2_15 hK.1.1 hK.1.2.1 dX2_numberAt_21 rfl (by simp [Value.category]) (cc_octetAt hG hK hcl hoct (by omega)) ?_
  rintro _ _ ⟨rfl, rfl⟩
  refine rx_i2l dX2_numberAt_24 ?_
  refine rx_tl (y := lN (cd.getD (a0 + 1 + 2) 0)) (by rw [show a0 + 3 = a0 + 1 + 2 by omega]; exact nI_l (Nat.lt_trans (oc256 hoct _) (by decide))) ?_
  refine rx_lor dX2_numberAt_25 ?_
  refine rx_tl (y := vm_big cd a0 3) rfl ?_
  refine rx_lstore_n dX2_numberAt_26 (by decide) ?_
  refine rx_iinc (v := nI 3) dX2_numberAt_27 rfl (nI_add _ 1) ?_
  refine rx_goto (tgt := 5) dX2_numberAt_30 (by decide) ?_
  refine rx_lv (lv' := [(4, .int (nI 3)), (2, .long (vm_big cd a0 3)), (1, .int (nI (a0 + 1))), (0, .ref w.1)]) ⟨rfl, rfl, rfl, rfl, trivial⟩ ?_
  refine rx_iload dX2_numberAt_5 rfl ?_
  refine rx_bipush (v := nI 8) dX2_numberAt_7 rfl ?_
  refine rx_icmp_ge (tgt := 33) dX2_numberAt_9 (by decide) (fun h => absurd h (by decide)) (fun _ => ?_)
  refine rx_lload_n dX2_numberAt_12 rfl ?_
  refine rx_bipush (v := nI 8) dX2_numberAt_13 rfl ?_
  refine rx_lshl dX2_numberAt_15 ?_
  refine rx_tl (y := vm_big cd a0 3 <<< (8 : Int64)) rfl ?_
  refine rx_aload_n dX2_numberAt_16 rfl rfl ?_
  refine rx_iload_n dX2_numberAt_17 rfl ?_
  refine rx_iload dX2_numberAt_18 rfl ?_
  refine rx_iadd dX2_numberAt_20 ?_
  refine rx_ti (y := nI (a0 + 4)) ((nI_add _ _).trans (congrArg nI (by omega))) ?_
  refine gx_invV (as := [.int _]) hG okX2_octetAt lk_RX2_15 hK.1.1 hK.1.2.1 dX2_numberAt_21 rfl (by simp [Value.category]) (cc_octetAt hG hK hcl hoct (by omega)) ?_
  rintro _ _ ⟨rfl, rfl⟩
  refine rx_i2l dX2_numberAt_24 ?_
  refine rx_tl (y := lN (cd.getD (a0 + 1 + 3) 0)) (by rw [show a0 + 4 = a0 + 1 + 3 by omega]; exact nI_l (Nat.lt_trans (oc256 hoct _) (by decide))) ?_
  refine rx_lor dX2_numberAt_25 ?_
  refine rx_tl (y := vm_big cd a0 4) rfl ?_
  refine rx_lstore_n dX2_numberAt_26 (by decide) ?_
  refine rx_iinc (v := nI 4) dX2_numberAt_27 rfl (nI_add _ 1) ?_
  refine rx_goto (tgt := 5) dX2_numberAt_30 (by decide) ?_
  refine rx_lv (lv' := [(4, .int (nI 4)), (2, .long (vm_big cd a0 4)), (1, .int (nI (a0 + 1))), (0, .ref w.1)]) ⟨rfl, rfl, rfl, rfl, trivial⟩ ?_
  refine rx_iload dX2_numberAt_5 rfl ?_
  refine rx_bipush (v := nI 8) dX2_numberAt_7 rfl ?_
  refine rx_icmp_ge (tgt := 33) dX2_numberAt_9 (by decide) (fun h => absurd h (by decide)) (fun _ => ?_)
  refine rx_lload_n dX2_numberAt_12 rfl ?_
  refine rx_bipush (v := nI 8) dX2_numberAt_13 rfl ?_
  refine rx_lshl dX2_numberAt_15 ?_
  refine rx_tl (y := vm_big cd a0 4 <<< (8 : Int64)) rfl ?_
  refine rx_aload_n dX2_numberAt_16 rfl rfl ?_
  refine rx_iload_n dX2_numberAt_17 rfl ?_
  refine rx_iload dX2_numberAt_18 rfl ?_
  refine rx_iadd dX2_numberAt_20 ?_
  refine rx_ti (y := nI (a0 + 5)) ((nI_add _ _).trans (congrArg nI (by omega))) ?_
  refine gx_invV (as := [.int _]) hG okX2_octetAt lk_RX2_15 hK.1.1 hK.1.2.1 dX2_numberAt_21 rfl (by simp [Value.category]) (cc_octetAt hG hK hcl hoct (by omega)) ?_
  rintro _ _ ⟨rfl, rfl⟩
  refine rx_i2l dX2_numberAt_24 ?_
  refine rx_tl (y := lN (cd.getD (a0 + 1 + 4) 0)) (by rw [show a0 + 5 = a0 + 1 + 4 by omega]; exact nI_l (Nat.lt_trans (oc256 hoct _) (by decide))) ?_
  refine rx_lor dX2_numberAt_25 ?_
  refine rx_tl (y := vm_big cd a0 5) rfl ?_
  refine rx_lstore_n dX2_numberAt_26 (by decide) ?_
  refine rx_iinc (v := nI 5) dX2_numberAt_27 rfl (nI_add _ 1) ?_
  refine rx_goto (tgt := 5) dX2_numberAt_30 (by decide) ?_
  refine rx_lv (lv' := [(4, .int (nI 5)), (2, .long (vm_big cd a0 5)), (1, .int (nI (a0 + 1))), (0, .ref w.1)]) ⟨rfl, rfl, rfl, rfl, trivial⟩ ?_
  refine rx_iload dX2_numberAt_5 rfl ?_
  refine rx_bipush (v := nI 8) dX2_numberAt_7 rfl ?_
  refine rx_icmp_ge (tgt := 33) dX2_numberAt_9 (by decide) (fun h => absurd h (by decide)) (fun _ => ?_)
  refine rx_lload_n dX2_numberAt_12 rfl ?_
  refine rx_bipush (v := nI 8) dX2_numberAt_13 rfl ?_
  refine rx_lshl dX2_numberAt_15 ?_
  refine rx_tl (y := vm_big cd a0 5 <<< (8 : Int64)) rfl ?_
  refine rx_aload_n dX2_numberAt_16 rfl rfl ?_
  refine rx_iload_n dX2_numberAt_17 rfl ?_
  refine rx_iload dX2_numberAt_18 rfl ?_
  refine rx_iadd dX2_numberAt_20 ?_
  refine rx_ti (y := nI (a0 + 6)) ((nI_add _ _).trans (congrArg nI (by omega))) ?_
  refine gx_invV (as := [.int _]) hG okX2_octetAt lk_RX2_15 hK.1.1 hK.1.2.1 dX2_numberAt_21 rfl (by simp [Value.category]) (cc_octetAt hG hK hcl hoct (by omega)) ?_
  rintro _ _ ⟨rfl, rfl⟩
  refine rx_i2l dX2_numberAt_24 ?_
  refine rx_tl (y := lN (cd.getD (a0 + 1 + 5) 0)) (by rw [show a0 + 6 = a0 + 1 + 5 by omega]; exact nI_l (Nat.lt_trans (oc256 hoct _) (by decide))) ?_
  refine rx_lor dX2_numberAt_25 ?_
  refine rx_tl (y := vm_big cd a0 6) rfl ?_
  refine rx_lstore_n dX2_numberAt_26 (by decide) ?_
  refine rx_iinc (v := nI 6) dX2_numberAt_27 rfl (nI_add _ 1) ?_
  refine rx_goto (tgt := 5) dX2_numberAt_30 (by decide) ?_
  refine rx_lv (lv' := [(4, .int (nI 6)), (2, .long (vm_big cd a0 6)), (1, .int (nI (a0 + 1))), (0, .ref w.1)]) ⟨rfl, rfl, rfl, rfl, trivial⟩ ?_
  refine rx_iload dX2_numberAt_5 rfl ?_
  refine rx_bipush (v := nI 8) dX2_numberAt_7 rfl ?_
  refine rx_icmp_ge (tgt := 33) dX2_numberAt_9 (by decide) (fun h => absurd h (by decide)) (fun _ => ?_)
  refine rx_lload_n dX2_numberAt_12 rfl ?_
  refine rx_bipush (v := nI 8) dX2_numberAt_13 rfl ?_
  refine rx_lshl dX2_numberAt_15 ?_
  refine rx_tl (y := vm_big cd a0 6 <<< (8 : Int64)) rfl ?_
  refine rx_aload_n dX2_numberAt_16 rfl rfl ?_
  refine rx_iload_n dX2_numberAt_17 rfl ?_
  refine rx_iload dX2_numberAt_18 rfl ?_
  refine rx_iadd dX2_numberAt_20 ?_
  refine rx_ti (y := nI (a0 + 7)) ((nI_add _ _).trans (congrArg nI (by omega))) ?_
  refine gx_invV (as := [.int _]) hG okX2_octetAt lk_RX2_15 hK.1.1 hK.1.2.1 dX2_numberAt_21 rfl (by simp [Value.category]) (cc_octetAt hG hK hcl hoct (by omega)) ?_
  rintro _ _ ⟨rfl, rfl⟩
  refine rx_i2l dX2_numberAt_24 ?_
  refine rx_tl (y := lN (cd.getD (a0 + 1 + 6) 0)) (by rw [show a0 + 7 = a0 + 1 + 6 by omega]; exact nI_l (Nat.lt_trans (oc256 hoct _) (by decide))) ?_
  refine rx_lor dX2_numberAt_25 ?_
  refine rx_tl (y := vm_big cd a0 7) rfl ?_
  refine rx_lstore_n dX2_numberAt_26 (by decide) ?_
  refine rx_iinc (v := nI 7) dX2_numberAt_27 rfl (nI_add _ 1) ?_
  refine rx_goto (tgt := 5) dX2_numberAt_30 (by decide) ?_
  refine rx_lv (lv' := [(4, .int (nI 7)), (2, .long (vm_big cd a0 7)), (1, .int (nI (a0 + 1))), (0, .ref w.1)]) ⟨rfl, rfl, rfl, rfl, trivial⟩ ?_
  refine rx_iload dX2_numberAt_5 rfl ?_
  refine rx_bipush (v := nI 8) dX2_numberAt_7 rfl ?_
  refine rx_icmp_ge (tgt := 33) dX2_numberAt_9 (by decide) (fun h => absurd h (by decide)) (fun _ => ?_)
  refine rx_lload_n dX2_numberAt_12 rfl ?_
  refine rx_bipush (v := nI 8) dX2_numberAt_13 rfl ?_
  refine rx_lshl dX2_numberAt_15 ?_
  refine rx_tl (y := vm_big cd a0 7 <<< (8 : Int64)) rfl ?_
  refine rx_aload_n dX2_numberAt_16 rfl rfl ?_
  refine rx_iload_n dX2_numberAt_17 rfl ?_
  refine rx_iload dX2_numberAt_18 rfl ?_
  refine rx_iadd dX2_numberAt_20 ?_
  refine rx_ti (y := nI (a0 + 8)) ((nI_add _ _).trans (congrArg nI (by omega))) ?_
  refine gx_invV (as := [.int _]) hG okX2_octetAt lk_RX2_15 hK.1.1 hK.1.2.1 dX2_numberAt_21 rfl (by simp [Value.category]) (cc_octetAt hG hK hcl hoct (by omega)) ?_
  rintro _ _ ⟨rfl, rfl⟩
  refine rx_i2l dX2_numberAt_24 ?_
  refine rx_tl (y := lN (cd.getD (a0 + 1 + 7) 0)) (by rw [show a0 + 8 = a0 + 1 + 7 by omega]; exact nI_l (Nat.lt_trans (oc256 hoct _) (by decide))) ?_
  refine rx_lor dX2_numberAt_25 ?_
  refine rx_tl (y := vm_big cd a0 8) rfl ?_
  refine rx_lstore_n dX2_numberAt_26 (by decide) ?_
  refine rx_iinc (v := nI 8) dX2_numberAt_27 rfl (nI_add _ 1) ?_
  refine rx_goto (tgt := 5) dX2_numberAt_30 (by decide) ?_
  refine rx_lv (lv' := [(4, .int (nI 8)), (2, .long (vm_big cd a0 8)), (1, .int (nI (a0 + 1))), (0, .ref w.1)]) ⟨rfl, rfl, rfl, rfl, trivial⟩ ?_
  refine rx_iload dX2_numberAt_5 rfl ?_
  refine rx_bipush (v := nI 8) dX2_numberAt_7 rfl ?_
  refine rx_icmp_ge (tgt := 33) dX2_numberAt_9 (by decide) (fun _ => ?_) (fun h => absurd (by decide) h)
  refine rx_lload_n dX2_numberAt_33 rfl ?_
  exact rx_lret rfl dX2_numberAt_34 ⟨rfl, rfl⟩
theorem cc_behind {G : rx_E} {d : Nat} {op : Nat} {mu : rx_M} (hG : rx_OK G) (hop : op < 40) : rx_C G MX2_octetsBehind d [.int (nI op)] mu 0 0 (fun v m => v = some (.int (nI (vm_size op - 1))) ∧ m = mu) := by
  refine rx_meth0 (by decide +kernel) rfl (Nat.le_of_ble_eq_true rfl) ?_
  have hc : op = 0 ∨ op = 1 ∨ op = 2 ∨ op = 3 ∨ op = 4 ∨ op = 5 ∨ op = 6 ∨ op = 7 ∨ op = 8 ∨ op = 9 ∨ op = 10 ∨ op = 11 ∨ op = 12 ∨ op = 13 ∨ op = 14 ∨ op = 15 ∨ op = 16 ∨ op = 17 ∨ op = 18 ∨ op = 19 ∨ op = 20 ∨ op = 21 ∨ op = 22 ∨ op = 23 ∨ op = 24 ∨ op = 25 ∨ op = 26 ∨ op = 27 ∨ op = 28 ∨ op = 29 ∨ op = 30 ∨ op = 31 ∨ op = 32 ∨ op = 33 ∨ op = 34 ∨ op = 35 ∨ op = 36 ∨ op = 37 ∨ op = 38 ∨ op = 39 := by omega
  rcases hc with rfl | rfl | rfl | rfl | rfl | rfl | rfl | rfl | rfl | rfl | rfl | rfl | rfl | rfl | rfl | rfl | rfl | rfl | rfl | rfl | rfl | rfl | rfl | rfl | rfl | rfl | rfl | rfl | rfl | rfl | rfl | rfl | rfl | rfl | rfl | rfl | rfl | rfl | rfl | rfl
  · refine rx_iload_n dX2_octetsBehind_0 rfl ?_
    refine rx_tabOut (tgt := 101) dX2_octetsBehind_1 (by decide) (by decide) ?_
    refine rx_iconst (v := nI 0) dX2_octetsBehind_101 rfl ?_
    exact rx_iret rfl dX2_octetsBehind_102 ⟨rfl, rfl⟩
  · refine rx_iload_n dX2_octetsBehind_0 rfl ?_
    refine rx_tabIn (tgt := 96) dX2_octetsBehind_1 (by decide) (by decide) rfl (by decide) ?_
    refine rx_iconst (v := nI 1) dX2_octetsBehind_96 rfl ?_
    exact rx_iret rfl dX2_octetsBehind_97 ⟨rfl, rfl⟩
  · refine rx_iload_n dX2_octetsBehind_0 rfl ?_
    refine rx_tabIn (tgt := 98) dX2_octetsBehind_1 (by decide) (by decide) rfl (by decide) ?_
    refine rx_bipush (v := nI 8) dX2_octetsBehind_98 rfl ?_
    exact rx_iret rfl dX2_octetsBehind_100 ⟨rfl, rfl⟩
  · refine rx_iload_n dX2_octetsBehind_0 rfl ?_
    refine rx_tabIn (tgt := 101) dX2_octetsBehind_1 (by decide) (by decide) rfl (by decide) ?_
    refine rx_iconst (v := nI 0) dX2_octetsBehind_101 rfl ?_
    exact rx_iret rfl dX2_octetsBehind_102 ⟨rfl, rfl⟩
  · refine rx_iload_n dX2_octetsBehind_0 rfl ?_
    refine rx_tabIn (tgt := 96) dX2_octetsBehind_1 (by decide) (by decide) rfl (by decide) ?_
    refine rx_iconst (v := nI 1) dX2_octetsBehind_96 rfl ?_
    exact rx_iret rfl dX2_octetsBehind_97 ⟨rfl, rfl⟩
  · refine rx_iload_n dX2_octetsBehind_0 rfl ?_
    refine rx_tabIn (tgt := 96) dX2_octetsBehind_1 (by decide) (by decide) rfl (by decide) ?_
    refine rx_iconst (v := nI 1) dX2_octetsBehind_96 rfl ?_
    exact rx_iret rfl dX2_octetsBehind_97 ⟨rfl, rfl⟩
  · refine rx_iload_n dX2_octetsBehind_0 rfl ?_
    refine rx_tabIn (tgt := 101) dX2_octetsBehind_1 (by decide) (by decide) rfl (by decide) ?_
    refine rx_iconst (v := nI 0) dX2_octetsBehind_101 rfl ?_
    exact rx_iret rfl dX2_octetsBehind_102 ⟨rfl, rfl⟩
  · refine rx_iload_n dX2_octetsBehind_0 rfl ?_
    refine rx_tabIn (tgt := 101) dX2_octetsBehind_1 (by decide) (by decide) rfl (by decide) ?_
    refine rx_iconst (v := nI 0) dX2_octetsBehind_101 rfl ?_
    exact rx_iret rfl dX2_octetsBehind_102 ⟨rfl, rfl⟩
  · refine rx_iload_n dX2_octetsBehind_0 rfl ?_
    refine rx_tabIn (tgt := 101) dX2_octetsBehind_1 (by decide) (by decide) rfl (by decide) ?_
    refine rx_iconst (v := nI 0) dX2_octetsBehind_101 rfl ?_
    exact rx_iret rfl dX2_octetsBehind_102 ⟨rfl, rfl⟩
  · refine rx_iload_n dX2_octetsBehind_0 rfl ?_
    refine rx_tabIn (tgt := 101) dX2_octetsBehind_1 (by decide) (by decide) rfl (by decide) ?_
    refine rx_iconst (v := nI 0) dX2_octetsBehind_101 rfl ?_
    exact rx_iret rfl dX2_octetsBehind_102 ⟨rfl, rfl⟩
  · refine rx_iload_n dX2_octetsBehind_0 rfl ?_
    refine rx_tabIn (tgt := 101) dX2_octetsBehind_1 (by decide) (by decide) rfl (by decide) ?_
    refine rx_iconst (v := nI 0) dX2_octetsBehind_101 rfl ?_
    exact rx_iret rfl dX2_octetsBehind_102 ⟨rfl, rfl⟩
  · refine rx_iload_n dX2_octetsBehind_0 rfl ?_
    refine rx_tabIn (tgt := 101) dX2_octetsBehind_1 (by decide) (by decide) rfl (by decide) ?_
    refine rx_iconst (v := nI 0) dX2_octetsBehind_101 rfl ?_
    exact rx_iret rfl dX2_octetsBehind_102 ⟨rfl, rfl⟩
  · refine rx_iload_n dX2_octetsBehind_0 rfl ?_
    refine rx_tabIn (tgt := 101) dX2_octetsBehind_1 (by decide) (by decide) rfl (by decide) ?_
    refine rx_iconst (v := nI 0) dX2_octetsBehind_101 rfl ?_
    exact rx_iret rfl dX2_octetsBehind_102 ⟨rfl, rfl⟩
  · refine rx_iload_n dX2_octetsBehind_0 rfl ?_
    refine rx_tabIn (tgt := 101) dX2_octetsBehind_1 (by decide) (by decide) rfl (by decide) ?_
    refine rx_iconst (v := nI 0) dX2_octetsBehind_101 rfl ?_
    exact rx_iret rfl dX2_octetsBehind_102 ⟨rfl, rfl⟩
  · refine rx_iload_n dX2_octetsBehind_0 rfl ?_
    refine rx_tabIn (tgt := 101) dX2_octetsBehind_1 (by decide) (by decide) rfl (by decide) ?_
    refine rx_iconst (v := nI 0) dX2_octetsBehind_101 rfl ?_
    exact rx_iret rfl dX2_octetsBehind_102 ⟨rfl, rfl⟩
  · refine rx_iload_n dX2_octetsBehind_0 rfl ?_
    refine rx_tabIn (tgt := 101) dX2_octetsBehind_1 (by decide) (by decide) rfl (by decide) ?_
    refine rx_iconst (v := nI 0) dX2_octetsBehind_101 rfl ?_
    exact rx_iret rfl dX2_octetsBehind_102 ⟨rfl, rfl⟩
  · refine rx_iload_n dX2_octetsBehind_0 rfl ?_
    refine rx_tabIn (tgt := 101) dX2_octetsBehind_1 (by decide) (by decide) rfl (by decide) ?_
    refine rx_iconst (v := nI 0) dX2_octetsBehind_101 rfl ?_
    exact rx_iret rfl dX2_octetsBehind_102 ⟨rfl, rfl⟩
  · refine rx_iload_n dX2_octetsBehind_0 rfl ?_
    refine rx_tabIn (tgt := 101) dX2_octetsBehind_1 (by decide) (by decide) rfl (by decide) ?_
    refine rx_iconst (v := nI 0) dX2_octetsBehind_101 rfl ?_
    exact rx_iret rfl dX2_octetsBehind_102 ⟨rfl, rfl⟩
  · refine rx_iload_n dX2_octetsBehind_0 rfl ?_
    refine rx_tabIn (tgt := 101) dX2_octetsBehind_1 (by decide) (by decide) rfl (by decide) ?_
    refine rx_iconst (v := nI 0) dX2_octetsBehind_101 rfl ?_
    exact rx_iret rfl dX2_octetsBehind_102 ⟨rfl, rfl⟩
  · refine rx_iload_n dX2_octetsBehind_0 rfl ?_
    refine rx_tabIn (tgt := 96) dX2_octetsBehind_1 (by decide) (by decide) rfl (by decide) ?_
    refine rx_iconst (v := nI 1) dX2_octetsBehind_96 rfl ?_
    exact rx_iret rfl dX2_octetsBehind_97 ⟨rfl, rfl⟩
  · refine rx_iload_n dX2_octetsBehind_0 rfl ?_
    refine rx_tabIn (tgt := 96) dX2_octetsBehind_1 (by decide) (by decide) rfl (by decide) ?_
    refine rx_iconst (v := nI 1) dX2_octetsBehind_96 rfl ?_
    exact rx_iret rfl dX2_octetsBehind_97 ⟨rfl, rfl⟩
  · refine rx_iload_n dX2_octetsBehind_0 rfl ?_
    refine rx_tabOut (tgt := 101) dX2_octetsBehind_1 (by decide) (by decide) ?_
    refine rx_iconst (v := nI 0) dX2_octetsBehind_101 rfl ?_
    exact rx_iret rfl dX2_octetsBehind_102 ⟨rfl, rfl⟩
  · refine rx_iload_n dX2_octetsBehind_0 rfl ?_
    refine rx_tabOut (tgt := 101) dX2_octetsBehind_1 (by decide) (by decide) ?_
    refine rx_iconst (v := nI 0) dX2_octetsBehind_101 rfl ?_
    exact rx_iret rfl dX2_octetsBehind_102 ⟨rfl, rfl⟩
  · refine rx_iload_n dX2_octetsBehind_0 rfl ?_
    refine rx_tabOut (tgt := 101) dX2_octetsBehind_1 (by decide) (by decide) ?_
    refine rx_iconst (v := nI 0) dX2_octetsBehind_101 rfl ?_
    exact rx_iret rfl dX2_octetsBehind_102 ⟨rfl, rfl⟩
  · refine rx_iload_n dX2_octetsBehind_0 rfl ?_
    refine rx_tabOut (tgt := 101) dX2_octetsBehind_1 (by decide) (by decide) ?_
    refine rx_iconst (v := nI 0) dX2_octetsBehind_101 rfl ?_
    exact rx_iret rfl dX2_octetsBehind_102 ⟨rfl, rfl⟩
  · refine rx_iload_n dX2_octetsBehind_0 rfl ?_
    refine rx_tabOut (tgt := 101) dX2_octetsBehind_1 (by decide) (by decide) ?_
    refine rx_iconst (v := nI 0) dX2_octetsBehind_101 rfl ?_
    exact rx_iret rfl dX2_octetsBehind_102 ⟨rfl, rfl⟩
  · refine rx_iload_n dX2_octetsBehind_0 rfl ?_
    refine rx_tabOut (tgt := 101) dX2_octetsBehind_1 (by decide) (by decide) ?_
    refine rx_iconst (v := nI 0) dX2_octetsBehind_101 rfl ?_
    exact rx_iret rfl dX2_octetsBehind_102 ⟨rfl, rfl⟩
  · refine rx_iload_n dX2_octetsBehind_0 rfl ?_
    refine rx_tabOut (tgt := 101) dX2_octetsBehind_1 (by decide) (by decide) ?_
    refine rx_iconst (v := nI 0) dX2_octetsBehind_101 rfl ?_
    exact rx_iret rfl dX2_octetsBehind_102 ⟨rfl, rfl⟩
  · refine rx_iload_n dX2_octetsBehind_0 rfl ?_
    refine rx_tabOut (tgt := 101) dX2_octetsBehind_1 (by decide) (by decide) ?_
    refine rx_iconst (v := nI 0) dX2_octetsBehind_101 rfl ?_
    exact rx_iret rfl dX2_octetsBehind_102 ⟨rfl, rfl⟩
  · refine rx_iload_n dX2_octetsBehind_0 rfl ?_
    refine rx_tabOut (tgt := 101) dX2_octetsBehind_1 (by decide) (by decide) ?_
    refine rx_iconst (v := nI 0) dX2_octetsBehind_101 rfl ?_
    exact rx_iret rfl dX2_octetsBehind_102 ⟨rfl, rfl⟩
  · refine rx_iload_n dX2_octetsBehind_0 rfl ?_
    refine rx_tabOut (tgt := 101) dX2_octetsBehind_1 (by decide) (by decide) ?_
    refine rx_iconst (v := nI 0) dX2_octetsBehind_101 rfl ?_
    exact rx_iret rfl dX2_octetsBehind_102 ⟨rfl, rfl⟩
  · refine rx_iload_n dX2_octetsBehind_0 rfl ?_
    refine rx_tabOut (tgt := 101) dX2_octetsBehind_1 (by decide) (by decide) ?_
    refine rx_iconst (v := nI 0) dX2_octetsBehind_101 rfl ?_
    exact rx_iret rfl dX2_octetsBehind_102 ⟨rfl, rfl⟩
  · refine rx_iload_n dX2_octetsBehind_0 rfl ?_
    refine rx_tabOut (tgt := 101) dX2_octetsBehind_1 (by decide) (by decide) ?_
    refine rx_iconst (v := nI 0) dX2_octetsBehind_101 rfl ?_
    exact rx_iret rfl dX2_octetsBehind_102 ⟨rfl, rfl⟩
  · refine rx_iload_n dX2_octetsBehind_0 rfl ?_
    refine rx_tabOut (tgt := 101) dX2_octetsBehind_1 (by decide) (by decide) ?_
    refine rx_iconst (v := nI 0) dX2_octetsBehind_101 rfl ?_
    exact rx_iret rfl dX2_octetsBehind_102 ⟨rfl, rfl⟩
  · refine rx_iload_n dX2_octetsBehind_0 rfl ?_
    refine rx_tabOut (tgt := 101) dX2_octetsBehind_1 (by decide) (by decide) ?_
    refine rx_iconst (v := nI 0) dX2_octetsBehind_101 rfl ?_
    exact rx_iret rfl dX2_octetsBehind_102 ⟨rfl, rfl⟩
  · refine rx_iload_n dX2_octetsBehind_0 rfl ?_
    refine rx_tabOut (tgt := 101) dX2_octetsBehind_1 (by decide) (by decide) ?_
    refine rx_iconst (v := nI 0) dX2_octetsBehind_101 rfl ?_
    exact rx_iret rfl dX2_octetsBehind_102 ⟨rfl, rfl⟩
  · refine rx_iload_n dX2_octetsBehind_0 rfl ?_
    refine rx_tabOut (tgt := 101) dX2_octetsBehind_1 (by decide) (by decide) ?_
    refine rx_iconst (v := nI 0) dX2_octetsBehind_101 rfl ?_
    exact rx_iret rfl dX2_octetsBehind_102 ⟨rfl, rfl⟩
  · refine rx_iload_n dX2_octetsBehind_0 rfl ?_
    refine rx_tabOut (tgt := 101) dX2_octetsBehind_1 (by decide) (by decide) ?_
    refine rx_iconst (v := nI 0) dX2_octetsBehind_101 rfl ?_
    exact rx_iret rfl dX2_octetsBehind_102 ⟨rfl, rfl⟩
  · refine rx_iload_n dX2_octetsBehind_0 rfl ?_
    refine rx_tabOut (tgt := 101) dX2_octetsBehind_1 (by decide) (by decide) ?_
    refine rx_iconst (v := nI 0) dX2_octetsBehind_101 rfl ?_
    exact rx_iret rfl dX2_octetsBehind_102 ⟨rfl, rfl⟩
  · refine rx_iload_n dX2_octetsBehind_0 rfl ?_
    refine rx_tabOut (tgt := 101) dX2_octetsBehind_1 (by decide) (by decide) ?_
    refine rx_iconst (v := nI 0) dX2_octetsBehind_101 rfl ?_
    exact rx_iret rfl dX2_octetsBehind_102 ⟨rfl, rfl⟩
theorem cc_push {G : rx_E} {d : Nat} {S : gs_T} {K : Nat → Nat × Nat} {C0 C : rx_M} {g : vg_T} {bs od : Nat} {n : Nat → Int64} {e : List (Nat × Int64 × Int64)} {b m c a q s k : Nat} {v r : Int64} {l o : Bool} {t : List Int64} {w : (Nat → Int64) × Nat × Nat} {fs : List vf_T} {z : Int32} (hG : rx_OK G)  (hY : rc_Y K C0 C g bs od (n, e, b, ((c, a, q, s, k), (v, r), (l, o), t, w) :: fs, m) z) (hp : fs.length < 10) (ht : t.length < 24) (x : Int64) : rx_C G MX6_push d [.ref (13 + 3 * fs.length), .long x] (gl C S) 0 0 (rcq S K C0 g bs od (n, e, b, ((c, a, q, s, k), (v, r), (l, o), (x :: t), w) :: fs, m) z none) := by
  refine rx_meth0 (by decide +kernel) rfl (Nat.le_of_ble_eq_true rfl) ?_
  refine rx_aload_n dX6_push_0 rfl rfl ?_
  refine g_getR hG hf_RX6_9 rfl dX6_push_1 (gkF_f hp) (gkF_k hp) (gkF_r0 hp) ?_
  refine rx_aload_n dX6_push_4 rfl rfl ?_
  refine gcv_getI (v := nI t.length) hG hf_RX6_56 rfl dX6_push_5 (gkF_m hp) (gkF_f hp) (gkF_k hp) (rc_size hY) ?_
  refine rx_lload_n dX6_push_8 rfl ?_
  refine gc_last (j := t.length) hG dX6_push_9 (gkT_m hp) (gkT_f hp) (gkT_k hp) rfl (by omega) (by decide) ?_
  refine rx_aload_n dX6_push_10 rfl rfl ?_
  refine rx_dup dX6_push_11 rfl ?_
  refine gcv_getI (v := nI t.length) hG hf_RX6_56 rfl dX6_push_12 (gkF_m hp) (gkF_f hp) (gkF_k hp) (show C.1 (13 + 3 * fs.length) 4 = _ from rc_size hY) ?_
  refine rx_iconst (v := nI 1) dX6_push_15 rfl ?_
  refine rx_iadd dX6_push_16 ?_
  refine rx_ti (y := nI (t.length + 1)) ((nI_add _ _).trans (congrArg nI (by omega))) ?_
  refine gc_putI hG hf_RX6_56 (gw_nf rfl rfl) rfl dX6_push_17 (gkF_m hp) (gkF_f hp) (gkF_k hp) rfl rfl ?_
  refine rcY_ab (rcY_pushed hY hp ht x) (fun _ hY1 => ?_)
  exact rx_vret rfl dX6_push_20 ⟨rfl, _, rfl, hY1⟩
theorem cc_pop {G : rx_E} {d : Nat} {S : gs_T} {K : Nat → Nat × Nat} {C0 C : rx_M} {g : vg_T} {bs od : Nat} {n : Nat → Int64} {e : List (Nat × Int64 × Int64)} {b m c a q s k : Nat} {v r : Int64} {l o : Bool} {t : List Int64} {w : (Nat → Int64) × Nat × Nat} {fs : List vf_T} {z : Int32} (hG : rx_OK G) {x : Int64} (hY : rc_Y K C0 C g bs od (n, e, b, ((c, a, q, s, k), (v, r), (l, o), (x :: t), w) :: fs, m) z) (hp : fs.length < 10) : rx_C G MX6_pop d [.ref (13 + 3 * fs.length)] (gl C S) 0 0 (rcq S K C0 g bs od (n, e, b, ((c, a, q, s, k), (v, r), (l, o), t, w) :: fs, m) z (some (.long x))) := by
  refine rx_meth0 (by decide +kernel) rfl (Nat.le_of_ble_eq_true rfl) ?_
  have ht : t.length + 1 ≤ 24 := rc_n hY
  have hx := (rc_stk hY).1
  refine rx_aload_n dX6_pop_0 rfl rfl ?_
  refine rx_dup dX6_pop_1 rfl ?_
  refine gcv_getI (v := nI (t.length + 1)) hG hf_RX6_56 rfl dX6_pop_2 (gkF_m hp) (gkF_f hp) (gkF_k hp) (rc_size hY) ?_
  refine rx_iconst (v := nI 1) dX6_pop_5 rfl ?_
  refine rx_isub dX6_pop_6 ?_
  refine rx_ti (y := nI t.length) ((pk_sub (by omega)).trans (congrArg nI (by omega))) ?_
  refine gc_putI hG hf_RX6_56 (gw_nf rfl rfl) rfl dX6_pop_7 (gkF_m hp) (gkF_f hp) (gkF_k hp) rfl rfl ?_
  refine rx_aload_n dX6_pop_10 rfl rfl ?_
  refine g_getR hG hf_RX6_9 rfl dX6_pop_11 (gkF_f hp) (gkF_k hp) (gkF_r0 hp) ?_
  refine rx_aload_n dX6_pop_14 rfl rfl ?_
  refine gcv_getI (v := nI t.length) hG hf_RX6_56 rfl dX6_pop_15 (gkF_m hp) (gkF_f hp) (gkF_k hp) (by simp [rx_ru]) ?_
  refine gcv_lald (j := t.length) (v := x) hG dX6_pop_18 (gkT_m hp) (gkT_f hp) (gkT_k hp) rfl (by omega) (by decide) hx ?_
  exact rx_lret rfl dX6_pop_19 ⟨rfl, _, rfl, rcY_popped hY hp⟩

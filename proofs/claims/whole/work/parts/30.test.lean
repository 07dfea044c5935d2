theorem tz_add {G : rx_E} {d acc : Nat} {amt : Int64} {mu : rx_M} {Q : Option Value → rx_M → Prop} (hG : rx_OK G) (h7 : 7 < mu.2.2.2.2) (k7 : mu.2.2.2.1 7 = (9, 1)) (r7 : mu.2.2.1 7 0 = some 8) (h8 : 8 < mu.2.2.2.2) (k8 : mu.2.2.2.1 8 = (14, 1024)) (ha : acc < 32)
    (k : Q none (mu.1, rx_u mu.2.1 8 (32 * acc) (mu.2.1 8 (32 * acc) + amt), mu.2.2)) : rx_C G MX9_addToBalance d [.ref 7, .int (nI acc), .long amt] mu 0 0 Q := by
  refine rx_meth0 (by decide +kernel) rfl (Nat.le_of_ble_eq_true rfl) ?_
  refine rx_aload_n dX9_addToBalance_0 rfl rfl ?_
  refine rx_getR hG hf_RX9_9 rfl dX9_addToBalance_1 h7 (congrArg Prod.fst k7) r7 ?_
  refine rx_bipush (v := nI 32) dX9_addToBalance_4 rfl ?_
  refine rx_iload_n dX9_addToBalance_6 rfl ?_
  refine rx_imul dX9_addToBalance_7 ?_
  refine rx_dup2 dX9_addToBalance_8 rfl rfl ?_
  refine rx_lald (j := 32 * acc) hG dX9_addToBalance_9 h8 k8 (pk_mul 32 acc) (by omega) (by decide) ?_
  refine rx_lload_n dX9_addToBalance_10 rfl ?_
  refine rx_ladd dX9_addToBalance_11 ?_
  refine rx_last (j := 32 * acc) hG dX9_addToBalance_12 h8 k8 (pk_mul 32 acc) (by omega) (by decide) ?_
  exact rx_vret rfl dX9_addToBalance_13 k

theorem dL_beside_0 : decode cL_beside 0 = .ok (.aload_n 0, 1) := by decide +kernel
theorem dL_beside_1 : decode cL_beside 1 = .ok (.iload_n 1, 1) := by decide +kernel
theorem dL_beside_2 : decode cL_beside 2 = .ok (.lload_n 2, 1) := by decide +kernel
theorem dL_beside_3 : decode cL_beside 3 = .ok (.invokevirtual 70, 3) := by decide +kernel
theorem dL_beside_6 : decode cL_beside 6 = .ok (.goto 7, 3) := by decide +kernel
theorem dL_beside_9 : decode cL_beside 9 = .ok (.astore 4, 2) := by decide +kernel
theorem dL_beside_11 : decode cL_beside 11 = .ok (.iconst 1, 1) := by decide +kernel
theorem dL_beside_12 : decode cL_beside 12 = .ok (.ireturn, 1) := by decide +kernel
theorem dL_beside_13 : decode cL_beside 13 = .ok (.iconst 0, 1) := by decide +kernel
theorem dL_beside_14 : decode cL_beside 14 = .ok (.ireturn, 1) := by decide +kernel
theorem dL_block_0 : decode cL_block 0 = .ok (.aload_n 3, 1) := by decide +kernel
theorem dL_block_1 : decode cL_block 1 = .ok (.iconst 0, 1) := by decide +kernel
theorem dL_block_2 : decode cL_block 2 = .ok (.aload_n 0, 1) := by decide +kernel
theorem dL_block_3 : decode cL_block 3 = .ok (.iload_n 1, 1) := by decide +kernel
theorem dL_block_4 : decode cL_block 4 = .ok (.iload_n 2, 1) := by decide +kernel
theorem dL_block_5 : decode cL_block 5 = .ok (.invokevirtual 35, 3) := by decide +kernel
theorem dL_block_8 : decode cL_block 8 = .ok (.i2l, 1) := by decide +kernel
theorem dL_block_9 : decode cL_block 9 = .ok (.lastore, 1) := by decide +kernel
theorem dL_block_10 : decode cL_block 10 = .ok (.goto 11, 3) := by decide +kernel
theorem dL_block_13 : decode cL_block 13 = .ok (.astore 4, 2) := by decide +kernel
theorem dL_block_15 : decode cL_block 15 = .ok (.iconst 1, 1) := by decide +kernel
theorem dL_block_16 : decode cL_block 16 = .ok (.ireturn, 1) := by decide +kernel
theorem dL_block_17 : decode cL_block 17 = .ok (.astore 4, 2) := by decide +kernel
theorem dL_block_19 : decode cL_block 19 = .ok (.iconst 2, 1) := by decide +kernel
theorem dL_block_20 : decode cL_block 20 = .ok (.ireturn, 1) := by decide +kernel
theorem dL_block_21 : decode cL_block 21 = .ok (.iconst 0, 1) := by decide +kernel
theorem dL_block_22 : decode cL_block 22 = .ok (.ireturn, 1) := by decide +kernel
theorem dL_certain_0 : decode cL_certain 0 = .ok (.aload_n 2, 1) := by decide +kernel
theorem dL_certain_1 : decode cL_certain 1 = .ok (.iconst 0, 1) := by decide +kernel
theorem dL_certain_2 : decode cL_certain 2 = .ok (.aload_n 0, 1) := by decide +kernel
theorem dL_certain_3 : decode cL_certain 3 = .ok (.iload_n 1, 1) := by decide +kernel
theorem dL_certain_4 : decode cL_certain 4 = .ok (.invokevirtual 67, 3) := by decide +kernel
theorem dL_certain_7 : decode cL_certain 7 = .ok (.i2l, 1) := by decide +kernel
theorem dL_certain_8 : decode cL_certain 8 = .ok (.lastore, 1) := by decide +kernel
theorem dL_certain_9 : decode cL_certain 9 = .ok (.goto 6, 3) := by decide +kernel
theorem dL_certain_12 : decode cL_certain 12 = .ok (.astore_n 3, 1) := by decide +kernel
theorem dL_certain_13 : decode cL_certain 13 = .ok (.iconst 1, 1) := by decide +kernel
theorem dL_certain_14 : decode cL_certain 14 = .ok (.ireturn, 1) := by decide +kernel
theorem dL_certain_15 : decode cL_certain 15 = .ok (.iconst 0, 1) := by decide +kernel
theorem dL_certain_16 : decode cL_certain 16 = .ok (.ireturn, 1) := by decide +kernel
theorem dL_code_0 : decode cL_code 0 = .ok (.aload_n 1, 1) := by decide +kernel
theorem dL_code_1 : decode cL_code 1 = .ok (.iconst 0, 1) := by decide +kernel
theorem dL_code_2 : decode cL_code 2 = .ok (.aload_n 0, 1) := by decide +kernel
theorem dL_code_3 : decode cL_code 3 = .ok (.invokevirtual 15, 3) := by decide +kernel
theorem dL_code_6 : decode cL_code 6 = .ok (.i2l, 1) := by decide +kernel
theorem dL_code_7 : decode cL_code 7 = .ok (.lastore, 1) := by decide +kernel
theorem dL_code_8 : decode cL_code 8 = .ok (.goto 6, 3) := by decide +kernel
theorem dL_code_11 : decode cL_code 11 = .ok (.astore_n 2, 1) := by decide +kernel
theorem dL_code_12 : decode cL_code 12 = .ok (.iconst 1, 1) := by decide +kernel
theorem dL_code_13 : decode cL_code 13 = .ok (.ireturn, 1) := by decide +kernel
theorem dL_code_14 : decode cL_code 14 = .ok (.iconst 0, 1) := by decide +kernel
theorem dL_code_15 : decode cL_code 15 = .ok (.ireturn, 1) := by decide +kernel
theorem dL_digest_0 : decode cL_digest 0 = .ok (.aload 4, 2) := by decide +kernel
theorem dL_digest_2 : decode cL_digest 2 = .ok (.iconst 0, 1) := by decide +kernel
theorem dL_digest_3 : decode cL_digest 3 = .ok (.aload_n 0, 1) := by decide +kernel
theorem dL_digest_4 : decode cL_digest 4 = .ok (.iload_n 1, 1) := by decide +kernel
theorem dL_digest_5 : decode cL_digest 5 = .ok (.iload_n 2, 1) := by decide +kernel
theorem dL_digest_6 : decode cL_digest 6 = .ok (.iload_n 3, 1) := by decide +kernel
theorem dL_digest_7 : decode cL_digest 7 = .ok (.invokevirtual 53, 3) := by decide +kernel
theorem dL_digest_10 : decode cL_digest 10 = .ok (.lastore, 1) := by decide +kernel
theorem dL_digest_11 : decode cL_digest 11 = .ok (.goto 7, 3) := by decide +kernel
theorem dL_digest_14 : decode cL_digest 14 = .ok (.astore 5, 2) := by decide +kernel
theorem dL_digest_16 : decode cL_digest 16 = .ok (.iconst 1, 1) := by decide +kernel
theorem dL_digest_17 : decode cL_digest 17 = .ok (.ireturn, 1) := by decide +kernel
theorem dL_digest_18 : decode cL_digest 18 = .ok (.iconst 0, 1) := by decide +kernel
theorem dL_digest_19 : decode cL_digest 19 = .ok (.ireturn, 1) := by decide +kernel
theorem dL_draft_0 : decode cL_draft 0 = .ok (.aload 4, 2) := by decide +kernel
theorem dL_draft_2 : decode cL_draft 2 = .ok (.iconst 0, 1) := by decide +kernel
theorem dL_draft_3 : decode cL_draft 3 = .ok (.aload_n 0, 1) := by decide +kernel
theorem dL_draft_4 : decode cL_draft 4 = .ok (.iload_n 1, 1) := by decide +kernel
theorem dL_draft_5 : decode cL_draft 5 = .ok (.lload_n 2, 1) := by decide +kernel
theorem dL_draft_6 : decode cL_draft 6 = .ok (.invokevirtual 7, 3) := by decide +kernel
theorem dL_draft_9 : decode cL_draft 9 = .ok (.i2l, 1) := by decide +kernel
theorem dL_draft_10 : decode cL_draft 10 = .ok (.lastore, 1) := by decide +kernel
theorem dL_draft_11 : decode cL_draft 11 = .ok (.goto 7, 3) := by decide +kernel
theorem dL_draft_14 : decode cL_draft 14 = .ok (.astore 5, 2) := by decide +kernel
theorem dL_draft_16 : decode cL_draft 16 = .ok (.iconst 1, 1) := by decide +kernel
theorem dL_draft_17 : decode cL_draft 17 = .ok (.ireturn, 1) := by decide +kernel
theorem dL_draft_18 : decode cL_draft 18 = .ok (.iconst 0, 1) := by decide +kernel
theorem dL_draft_19 : decode cL_draft 19 = .ok (.ireturn, 1) := by decide +kernel
theorem dL_endow_0 : decode cL_endow 0 = .ok (.aload_n 0, 1) := by decide +kernel
theorem dL_endow_1 : decode cL_endow 1 = .ok (.iload_n 1, 1) := by decide +kernel
theorem dL_endow_2 : decode cL_endow 2 = .ok (.lload_n 2, 1) := by decide +kernel
theorem dL_endow_3 : decode cL_endow 3 = .ok (.iload 4, 2) := by decide +kernel
theorem dL_endow_5 : decode cL_endow 5 = .ok (.invokevirtual 21, 3) := by decide +kernel
theorem dL_endow_8 : decode cL_endow 8 = .ok (.goto 15, 3) := by decide +kernel
theorem dL_endow_11 : decode cL_endow 11 = .ok (.astore 5, 2) := by decide +kernel
theorem dL_endow_13 : decode cL_endow 13 = .ok (.iconst 1, 1) := by decide +kernel
theorem dL_endow_14 : decode cL_endow 14 = .ok (.ireturn, 1) := by decide +kernel
theorem dL_endow_15 : decode cL_endow 15 = .ok (.astore 5, 2) := by decide +kernel
theorem dL_endow_17 : decode cL_endow 17 = .ok (.iconst 2, 1) := by decide +kernel
theorem dL_endow_18 : decode cL_endow 18 = .ok (.ireturn, 1) := by decide +kernel
theorem dL_endow_19 : decode cL_endow 19 = .ok (.astore 5, 2) := by decide +kernel
theorem dL_endow_21 : decode cL_endow 21 = .ok (.iconst 3, 1) := by decide +kernel
theorem dL_endow_22 : decode cL_endow 22 = .ok (.ireturn, 1) := by decide +kernel
theorem dL_endow_23 : decode cL_endow 23 = .ok (.iconst 0, 1) := by decide +kernel
theorem dL_endow_24 : decode cL_endow 24 = .ok (.ireturn, 1) := by decide +kernel
theorem dL_event_0 : decode cL_event 0 = .ok (.aload 4, 2) := by decide +kernel
theorem dL_event_2 : decode cL_event 2 = .ok (.iconst 0, 1) := by decide +kernel
theorem dL_event_3 : decode cL_event 3 = .ok (.aload_n 0, 1) := by decide +kernel
theorem dL_event_4 : decode cL_event 4 = .ok (.iload_n 1, 1) := by decide +kernel
theorem dL_event_5 : decode cL_event 5 = .ok (.iload_n 2, 1) := by decide +kernel
theorem dL_event_6 : decode cL_event 6 = .ok (.iload_n 3, 1) := by decide +kernel
theorem dL_event_7 : decode cL_event 7 = .ok (.invokevirtual 46, 3) := by decide +kernel
theorem dL_event_10 : decode cL_event 10 = .ok (.lastore, 1) := by decide +kernel
theorem dL_event_11 : decode cL_event 11 = .ok (.goto 7, 3) := by decide +kernel
theorem dL_event_14 : decode cL_event 14 = .ok (.astore 5, 2) := by decide +kernel
theorem dL_event_16 : decode cL_event 16 = .ok (.iconst 1, 1) := by decide +kernel
theorem dL_event_17 : decode cL_event 17 = .ok (.ireturn, 1) := by decide +kernel
theorem dL_event_18 : decode cL_event 18 = .ok (.iconst 0, 1) := by decide +kernel
theorem dL_event_19 : decode cL_event 19 = .ok (.ireturn, 1) := by decide +kernel
theorem dL_leaf_0 : decode cL_leaf 0 = .ok (.aload_n 3, 1) := by decide +kernel
theorem dL_leaf_1 : decode cL_leaf 1 = .ok (.iconst 0, 1) := by decide +kernel
theorem dL_leaf_2 : decode cL_leaf 2 = .ok (.aload_n 0, 1) := by decide +kernel
theorem dL_leaf_3 : decode cL_leaf 3 = .ok (.iload_n 1, 1) := by decide +kernel
theorem dL_leaf_4 : decode cL_leaf 4 = .ok (.iload_n 2, 1) := by decide +kernel
theorem dL_leaf_5 : decode cL_leaf 5 = .ok (.invokevirtual 49, 3) := by decide +kernel
theorem dL_leaf_8 : decode cL_leaf 8 = .ok (.lastore, 1) := by decide +kernel
theorem dL_leaf_9 : decode cL_leaf 9 = .ok (.goto 7, 3) := by decide +kernel
theorem dL_leaf_12 : decode cL_leaf 12 = .ok (.astore 4, 2) := by decide +kernel
theorem dL_leaf_14 : decode cL_leaf 14 = .ok (.iconst 1, 1) := by decide +kernel
theorem dL_leaf_15 : decode cL_leaf 15 = .ok (.ireturn, 1) := by decide +kernel
theorem dL_leaf_16 : decode cL_leaf 16 = .ok (.iconst 0, 1) := by decide +kernel
theorem dL_leaf_17 : decode cL_leaf 17 = .ok (.ireturn, 1) := by decide +kernel
theorem dL_order_0 : decode cL_order 0 = .ok (.aload 10, 2) := by decide +kernel
theorem dL_order_2 : decode cL_order 2 = .ok (.iconst 0, 1) := by decide +kernel
theorem dL_order_3 : decode cL_order 3 = .ok (.aload_n 0, 1) := by decide +kernel
theorem dL_order_4 : decode cL_order 4 = .ok (.iload_n 1, 1) := by decide +kernel
theorem dL_order_5 : decode cL_order 5 = .ok (.iload_n 2, 1) := by decide +kernel
theorem dL_order_6 : decode cL_order 6 = .ok (.lload_n 3, 1) := by decide +kernel
theorem dL_order_7 : decode cL_order 7 = .ok (.lload 5, 2) := by decide +kernel
theorem dL_order_9 : decode cL_order 9 = .ok (.iload 7, 2) := by decide +kernel
theorem dL_order_11 : decode cL_order 11 = .ok (.iload 8, 2) := by decide +kernel
theorem dL_order_13 : decode cL_order 13 = .ok (.iload 9, 2) := by decide +kernel
theorem dL_order_15 : decode cL_order 15 = .ok (.invokevirtual 31, 3) := by decide +kernel
theorem dL_order_18 : decode cL_order 18 = .ok (.i2l, 1) := by decide +kernel
theorem dL_order_19 : decode cL_order 19 = .ok (.lastore, 1) := by decide +kernel
theorem dL_order_20 : decode cL_order 20 = .ok (.goto 15, 3) := by decide +kernel
theorem dL_order_23 : decode cL_order 23 = .ok (.astore 11, 2) := by decide +kernel
theorem dL_order_25 : decode cL_order 25 = .ok (.iconst 1, 1) := by decide +kernel
theorem dL_order_26 : decode cL_order 26 = .ok (.ireturn, 1) := by decide +kernel
theorem dL_order_27 : decode cL_order 27 = .ok (.astore 11, 2) := by decide +kernel
theorem dL_order_29 : decode cL_order 29 = .ok (.iconst 2, 1) := by decide +kernel
theorem dL_order_30 : decode cL_order 30 = .ok (.ireturn, 1) := by decide +kernel
theorem dL_order_31 : decode cL_order 31 = .ok (.astore 11, 2) := by decide +kernel
theorem dL_order_33 : decode cL_order 33 = .ok (.iconst 3, 1) := by decide +kernel
theorem dL_order_34 : decode cL_order 34 = .ok (.ireturn, 1) := by decide +kernel
theorem dL_order_35 : decode cL_order 35 = .ok (.iconst 0, 1) := by decide +kernel
theorem dL_order_36 : decode cL_order 36 = .ok (.ireturn, 1) := by decide +kernel
theorem dL_proves_0 : decode cL_proves 0 = .ok (.aload 6, 2) := by decide +kernel
theorem dL_proves_2 : decode cL_proves 2 = .ok (.iconst 0, 1) := by decide +kernel
theorem dL_proves_3 : decode cL_proves 3 = .ok (.aload_n 0, 1) := by decide +kernel
theorem dL_proves_4 : decode cL_proves 4 = .ok (.lload_n 1, 1) := by decide +kernel
theorem dL_proves_5 : decode cL_proves 5 = .ok (.iload_n 3, 1) := by decide +kernel
theorem dL_proves_6 : decode cL_proves 6 = .ok (.lload 4, 2) := by decide +kernel
theorem dL_proves_8 : decode cL_proves 8 = .ok (.invokevirtual 74, 3) := by decide +kernel
theorem dL_proves_11 : decode cL_proves 11 = .ok (.ifCond .eq 7, 3) := by decide +kernel
theorem dL_proves_14 : decode cL_proves 14 = .ok (.lconst 1, 1) := by decide +kernel
theorem dL_proves_15 : decode cL_proves 15 = .ok (.goto 4, 3) := by decide +kernel
theorem dL_proves_18 : decode cL_proves 18 = .ok (.lconst 0, 1) := by decide +kernel
theorem dL_proves_19 : decode cL_proves 19 = .ok (.lastore, 1) := by decide +kernel
theorem dL_proves_20 : decode cL_proves 20 = .ok (.goto 7, 3) := by decide +kernel
theorem dL_proves_23 : decode cL_proves 23 = .ok (.astore 7, 2) := by decide +kernel
theorem dL_proves_25 : decode cL_proves 25 = .ok (.iconst 1, 1) := by decide +kernel
theorem dL_proves_26 : decode cL_proves 26 = .ok (.ireturn, 1) := by decide +kernel
theorem dL_proves_27 : decode cL_proves 27 = .ok (.iconst 0, 1) := by decide +kernel
theorem dL_proves_28 : decode cL_proves 28 = .ok (.ireturn, 1) := by decide +kernel
theorem dL_receipt_0 : decode cL_receipt 0 = .ok (.aload 4, 2) := by decide +kernel
theorem dL_receipt_2 : decode cL_receipt 2 = .ok (.iconst 0, 1) := by decide +kernel
theorem dL_receipt_3 : decode cL_receipt 3 = .ok (.aload_n 0, 1) := by decide +kernel
theorem dL_receipt_4 : decode cL_receipt 4 = .ok (.iload_n 1, 1) := by decide +kernel
theorem dL_receipt_5 : decode cL_receipt 5 = .ok (.iload_n 2, 1) := by decide +kernel
theorem dL_receipt_6 : decode cL_receipt 6 = .ok (.iload_n 3, 1) := by decide +kernel
theorem dL_receipt_7 : decode cL_receipt 7 = .ok (.invokevirtual 42, 3) := by decide +kernel
theorem dL_receipt_10 : decode cL_receipt 10 = .ok (.lastore, 1) := by decide +kernel
theorem dL_receipt_11 : decode cL_receipt 11 = .ok (.goto 7, 3) := by decide +kernel
theorem dL_receipt_14 : decode cL_receipt 14 = .ok (.astore 5, 2) := by decide +kernel
theorem dL_receipt_16 : decode cL_receipt 16 = .ok (.iconst 1, 1) := by decide +kernel
theorem dL_receipt_17 : decode cL_receipt 17 = .ok (.ireturn, 1) := by decide +kernel
theorem dL_receipt_18 : decode cL_receipt 18 = .ok (.iconst 0, 1) := by decide +kernel
theorem dL_receipt_19 : decode cL_receipt 19 = .ok (.ireturn, 1) := by decide +kernel
theorem dL_seen_0 : decode cL_seen 0 = .ok (.aload_n 2, 1) := by decide +kernel
theorem dL_seen_1 : decode cL_seen 1 = .ok (.iconst 0, 1) := by decide +kernel
theorem dL_seen_2 : decode cL_seen 2 = .ok (.aload_n 0, 1) := by decide +kernel
theorem dL_seen_3 : decode cL_seen 3 = .ok (.iload_n 1, 1) := by decide +kernel
theorem dL_seen_4 : decode cL_seen 4 = .ok (.invokevirtual 60, 3) := by decide +kernel
theorem dL_seen_7 : decode cL_seen 7 = .ok (.i2l, 1) := by decide +kernel
theorem dL_seen_8 : decode cL_seen 8 = .ok (.lastore, 1) := by decide +kernel
theorem dL_seen_9 : decode cL_seen 9 = .ok (.goto 6, 3) := by decide +kernel
theorem dL_seen_12 : decode cL_seen 12 = .ok (.astore_n 3, 1) := by decide +kernel
theorem dL_seen_13 : decode cL_seen 13 = .ok (.iconst 1, 1) := by decide +kernel
theorem dL_seen_14 : decode cL_seen 14 = .ok (.ireturn, 1) := by decide +kernel
theorem dL_seen_15 : decode cL_seen 15 = .ok (.iconst 0, 1) := by decide +kernel
theorem dL_seen_16 : decode cL_seen 16 = .ok (.ireturn, 1) := by decide +kernel
theorem dL_told_0 : decode cL_told 0 = .ok (.aload_n 3, 1) := by decide +kernel
theorem dL_told_1 : decode cL_told 1 = .ok (.iconst 0, 1) := by decide +kernel
theorem dL_told_2 : decode cL_told 2 = .ok (.aload_n 0, 1) := by decide +kernel
theorem dL_told_3 : decode cL_told 3 = .ok (.iload_n 1, 1) := by decide +kernel
theorem dL_told_4 : decode cL_told 4 = .ok (.iload_n 2, 1) := by decide +kernel
theorem dL_told_5 : decode cL_told 5 = .ok (.invokevirtual 39, 3) := by decide +kernel
theorem dL_told_8 : decode cL_told 8 = .ok (.i2l, 1) := by decide +kernel
theorem dL_told_9 : decode cL_told 9 = .ok (.lastore, 1) := by decide +kernel
theorem dL_told_10 : decode cL_told 10 = .ok (.goto 7, 3) := by decide +kernel
theorem dL_told_13 : decode cL_told 13 = .ok (.astore 4, 2) := by decide +kernel
theorem dL_told_15 : decode cL_told 15 = .ok (.iconst 1, 1) := by decide +kernel
theorem dL_told_16 : decode cL_told 16 = .ok (.ireturn, 1) := by decide +kernel
theorem dL_told_17 : decode cL_told 17 = .ok (.iconst 0, 1) := by decide +kernel
theorem dL_told_18 : decode cL_told 18 = .ok (.ireturn, 1) := by decide +kernel
theorem dL_view_0 : decode cL_view 0 = .ok (.aload 7, 2) := by decide +kernel
theorem dL_view_2 : decode cL_view 2 = .ok (.iconst 0, 1) := by decide +kernel
theorem dL_view_3 : decode cL_view 3 = .ok (.aload_n 0, 1) := by decide +kernel
theorem dL_view_4 : decode cL_view 4 = .ok (.iload_n 1, 1) := by decide +kernel
theorem dL_view_5 : decode cL_view 5 = .ok (.iload_n 2, 1) := by decide +kernel
theorem dL_view_6 : decode cL_view 6 = .ok (.iload_n 3, 1) := by decide +kernel
theorem dL_view_7 : decode cL_view 7 = .ok (.lload 4, 2) := by decide +kernel
theorem dL_view_9 : decode cL_view 9 = .ok (.iload 6, 2) := by decide +kernel
theorem dL_view_11 : decode cL_view 11 = .ok (.invokevirtual 56, 3) := by decide +kernel
theorem dL_view_14 : decode cL_view 14 = .ok (.lastore, 1) := by decide +kernel
theorem dL_view_15 : decode cL_view 15 = .ok (.goto 11, 3) := by decide +kernel
theorem dL_view_18 : decode cL_view 18 = .ok (.astore 8, 2) := by decide +kernel
theorem dL_view_20 : decode cL_view 20 = .ok (.iconst 1, 1) := by decide +kernel
theorem dL_view_21 : decode cL_view 21 = .ok (.ireturn, 1) := by decide +kernel
theorem dL_view_22 : decode cL_view 22 = .ok (.astore 8, 2) := by decide +kernel
theorem dL_view_24 : decode cL_view 24 = .ok (.iconst 2, 1) := by decide +kernel
theorem dL_view_25 : decode cL_view 25 = .ok (.ireturn, 1) := by decide +kernel
theorem dL_view_26 : decode cL_view 26 = .ok (.iconst 0, 1) := by decide +kernel
theorem dL_view_27 : decode cL_view 27 = .ok (.ireturn, 1) := by decide +kernel
theorem dL_vote_0 : decode cL_vote 0 = .ok (.aload_n 3, 1) := by decide +kernel
theorem dL_vote_1 : decode cL_vote 1 = .ok (.iconst 0, 1) := by decide +kernel
theorem dL_vote_2 : decode cL_vote 2 = .ok (.aload_n 0, 1) := by decide +kernel
theorem dL_vote_3 : decode cL_vote 3 = .ok (.iload_n 1, 1) := by decide +kernel
theorem dL_vote_4 : decode cL_vote 4 = .ok (.iload_n 2, 1) := by decide +kernel
theorem dL_vote_5 : decode cL_vote 5 = .ok (.invokevirtual 64, 3) := by decide +kernel
theorem dL_vote_8 : decode cL_vote 8 = .ok (.i2l, 1) := by decide +kernel
theorem dL_vote_9 : decode cL_vote 9 = .ok (.lastore, 1) := by decide +kernel
theorem dL_vote_10 : decode cL_vote 10 = .ok (.goto 7, 3) := by decide +kernel
theorem dL_vote_13 : decode cL_vote 13 = .ok (.astore 4, 2) := by decide +kernel
theorem dL_vote_15 : decode cL_vote 15 = .ok (.iconst 1, 1) := by decide +kernel
theorem dL_vote_16 : decode cL_vote 16 = .ok (.ireturn, 1) := by decide +kernel
theorem dL_vote_17 : decode cL_vote 17 = .ok (.iconst 0, 1) := by decide +kernel
theorem dL_vote_18 : decode cL_vote 18 = .ok (.ireturn, 1) := by decide +kernel
theorem dL_weight_0 : decode cL_weight 0 = .ok (.aload_n 0, 1) := by decide +kernel
theorem dL_weight_1 : decode cL_weight 1 = .ok (.iload_n 1, 1) := by decide +kernel
theorem dL_weight_2 : decode cL_weight 2 = .ok (.iload_n 2, 1) := by decide +kernel
theorem dL_weight_3 : decode cL_weight 3 = .ok (.invokevirtual 27, 3) := by decide +kernel
theorem dL_weight_6 : decode cL_weight 6 = .ok (.goto 12, 3) := by decide +kernel
theorem dL_weight_9 : decode cL_weight 9 = .ok (.astore_n 3, 1) := by decide +kernel
theorem dL_weight_10 : decode cL_weight 10 = .ok (.iconst 1, 1) := by decide +kernel
theorem dL_weight_11 : decode cL_weight 11 = .ok (.ireturn, 1) := by decide +kernel
theorem dL_weight_12 : decode cL_weight 12 = .ok (.astore_n 3, 1) := by decide +kernel
theorem dL_weight_13 : decode cL_weight 13 = .ok (.iconst 2, 1) := by decide +kernel
theorem dL_weight_14 : decode cL_weight 14 = .ok (.ireturn, 1) := by decide +kernel
theorem dL_weight_15 : decode cL_weight 15 = .ok (.astore_n 3, 1) := by decide +kernel
theorem dL_weight_16 : decode cL_weight 16 = .ok (.iconst 3, 1) := by decide +kernel
theorem dL_weight_17 : decode cL_weight 17 = .ok (.ireturn, 1) := by decide +kernel
theorem dL_weight_18 : decode cL_weight 18 = .ok (.iconst 0, 1) := by decide +kernel
theorem dL_weight_19 : decode cL_weight 19 = .ok (.ireturn, 1) := by decide +kernel
abbrev hL_beside : List (Nat × Nat × Nat × Nat) := [(0, 6, 9, 25)]
abbrev ML_beside : rx_Me := (yL_beside, cL_beside, 5, (some .int), tableOf hL_beside)
theorem okL_beside : Cond.codeWith ML_beside.1 ML_beside.2.1 ML_beside.2.2.1 ML_beside.2.2.2.1 hL_beside ∈ lw_tbl ∧ Cond.initialized ML_beside.1.cls ∈ lw_tbl ∧ ML_beside.2.2.1 ≤ 21 ∧ (ML_beside.1.cls ≠ "java/lang/invoke/MethodHandle" ∧ ML_beside.1.cls ≠ "java/lang/invoke/VarHandle") ∧ (parseMethodDescriptor ML_beside.1.desc).map (fun q => q.parameters.length) = some 3 := ⟨(ht_5 _ (List.mem_of_getElem? (i := 12) rfl)), hw_792, by decide, ⟨by decide +kernel, by decide +kernel⟩, by decide +kernel⟩
abbrev hL_block : List (Nat × Nat × Nat × Nat) := [(0, 10, 13, 25), (0, 10, 17, 19)]
abbrev ML_block : rx_Me := (yL_block, cL_block, 5, (some .int), tableOf hL_block)
theorem okL_block : Cond.codeWith ML_block.1 ML_block.2.1 ML_block.2.2.1 ML_block.2.2.2.1 hL_block ∈ lw_tbl ∧ Cond.initialized ML_block.1.cls ∈ lw_tbl ∧ ML_block.2.2.1 ≤ 21 ∧ (ML_block.1.cls ≠ "java/lang/invoke/MethodHandle" ∧ ML_block.1.cls ≠ "java/lang/invoke/VarHandle") ∧ (parseMethodDescriptor ML_block.1.desc).map (fun q => q.parameters.length) = some 4 := ⟨(ht_3 _ (List.mem_of_getElem? (i := 102) rfl)), hw_792, by decide, ⟨by decide +kernel, by decide +kernel⟩, by decide +kernel⟩
abbrev hL_certain : List (Nat × Nat × Nat × Nat) := [(0, 9, 12, 25)]
abbrev ML_certain : rx_Me := (yL_certain, cL_certain, 4, (some .int), tableOf hL_certain)
theorem okL_certain : Cond.codeWith ML_certain.1 ML_certain.2.1 ML_certain.2.2.1 ML_certain.2.2.2.1 hL_certain ∈ lw_tbl ∧ Cond.initialized ML_certain.1.cls ∈ lw_tbl ∧ ML_certain.2.2.1 ≤ 21 ∧ (ML_certain.1.cls ≠ "java/lang/invoke/MethodHandle" ∧ ML_certain.1.cls ≠ "java/lang/invoke/VarHandle") ∧ (parseMethodDescriptor ML_certain.1.desc).map (fun q => q.parameters.length) = some 3 := ⟨(ht_5 _ (List.mem_of_getElem? (i := 4) rfl)), hw_792, by decide, ⟨by decide +kernel, by decide +kernel⟩, by decide +kernel⟩
abbrev hL_code : List (Nat × Nat × Nat × Nat) := [(0, 8, 11, 19)]
abbrev ML_code : rx_Me := (yL_code, cL_code, 3, (some .int), tableOf hL_code)
theorem okL_code : Cond.codeWith ML_code.1 ML_code.2.1 ML_code.2.2.1 ML_code.2.2.2.1 hL_code ∈ lw_tbl ∧ Cond.initialized ML_code.1.cls ∈ lw_tbl ∧ ML_code.2.2.1 ≤ 21 ∧ (ML_code.1.cls ≠ "java/lang/invoke/MethodHandle" ∧ ML_code.1.cls ≠ "java/lang/invoke/VarHandle") ∧ (parseMethodDescriptor ML_code.1.desc).map (fun q => q.parameters.length) = some 2 := ⟨(ht_2 _ (List.mem_of_getElem? (i := 165) rfl)), hw_792, by decide, ⟨by decide +kernel, by decide +kernel⟩, by decide +kernel⟩
abbrev hL_digest : List (Nat × Nat × Nat × Nat) := [(0, 11, 14, 25)]
abbrev ML_digest : rx_Me := (yL_digest, cL_digest, 6, (some .int), tableOf hL_digest)
theorem okL_digest : Cond.codeWith ML_digest.1 ML_digest.2.1 ML_digest.2.2.1 ML_digest.2.2.2.1 hL_digest ∈ lw_tbl ∧ Cond.initialized ML_digest.1.cls ∈ lw_tbl ∧ ML_digest.2.2.1 ≤ 21 ∧ (ML_digest.1.cls ≠ "java/lang/invoke/MethodHandle" ∧ ML_digest.1.cls ≠ "java/lang/invoke/VarHandle") ∧ (parseMethodDescriptor ML_digest.1.desc).map (fun q => q.parameters.length) = some 5 := ⟨(ht_4 _ (List.mem_of_getElem? (i := 195) rfl)), hw_792, by decide, ⟨by decide +kernel, by decide +kernel⟩, by decide +kernel⟩
abbrev hL_draft : List (Nat × Nat × Nat × Nat) := [(0, 11, 14, 13)]
abbrev ML_draft : rx_Me := (yL_draft, cL_draft, 6, (some .int), tableOf hL_draft)
theorem okL_draft : Cond.codeWith ML_draft.1 ML_draft.2.1 ML_draft.2.2.1 ML_draft.2.2.2.1 hL_draft ∈ lw_tbl ∧ Cond.initialized ML_draft.1.cls ∈ lw_tbl ∧ ML_draft.2.2.1 ≤ 21 ∧ (ML_draft.1.cls ≠ "java/lang/invoke/MethodHandle" ∧ ML_draft.1.cls ≠ "java/lang/invoke/VarHandle") ∧ (parseMethodDescriptor ML_draft.1.desc).map (fun q => q.parameters.length) = some 4 := ⟨(ht_2 _ (List.mem_of_getElem? (i := 82) rfl)), hw_792, by decide, ⟨by decide +kernel, by decide +kernel⟩, by decide +kernel⟩
abbrev hL_endow : List (Nat × Nat × Nat × Nat) := [(0, 8, 11, 25), (0, 8, 15, 13), (0, 8, 19, 19)]
abbrev ML_endow : rx_Me := (yL_endow, cL_endow, 6, (some .int), tableOf hL_endow)
theorem okL_endow : Cond.codeWith ML_endow.1 ML_endow.2.1 ML_endow.2.2.1 ML_endow.2.2.2.1 hL_endow ∈ lw_tbl ∧ Cond.initialized ML_endow.1.cls ∈ lw_tbl ∧ ML_endow.2.2.1 ≤ 21 ∧ (ML_endow.1.cls ≠ "java/lang/invoke/MethodHandle" ∧ ML_endow.1.cls ≠ "java/lang/invoke/VarHandle") ∧ (parseMethodDescriptor ML_endow.1.desc).map (fun q => q.parameters.length) = some 4 := ⟨(ht_3 _ (List.mem_of_getElem? (i := 10) rfl)), hw_792, by decide, ⟨by decide +kernel, by decide +kernel⟩, by decide +kernel⟩
abbrev hL_event : List (Nat × Nat × Nat × Nat) := [(0, 11, 14, 25)]
abbrev ML_event : rx_Me := (yL_event, cL_event, 6, (some .int), tableOf hL_event)
theorem okL_event : Cond.codeWith ML_event.1 ML_event.2.1 ML_event.2.2.1 ML_event.2.2.2.1 hL_event ∈ lw_tbl ∧ Cond.initialized ML_event.1.cls ∈ lw_tbl ∧ ML_event.2.2.1 ≤ 21 ∧ (ML_event.1.cls ≠ "java/lang/invoke/MethodHandle" ∧ ML_event.1.cls ≠ "java/lang/invoke/VarHandle") ∧ (parseMethodDescriptor ML_event.1.desc).map (fun q => q.parameters.length) = some 5 := ⟨(ht_4 _ (List.mem_of_getElem? (i := 179) rfl)), hw_792, by decide, ⟨by decide +kernel, by decide +kernel⟩, by decide +kernel⟩
abbrev hL_leaf : List (Nat × Nat × Nat × Nat) := [(0, 9, 12, 25)]
abbrev ML_leaf : rx_Me := (yL_leaf, cL_leaf, 5, (some .int), tableOf hL_leaf)
theorem okL_leaf : Cond.codeWith ML_leaf.1 ML_leaf.2.1 ML_leaf.2.2.1 ML_leaf.2.2.2.1 hL_leaf ∈ lw_tbl ∧ Cond.initialized ML_leaf.1.cls ∈ lw_tbl ∧ ML_leaf.2.2.1 ≤ 21 ∧ (ML_leaf.1.cls ≠ "java/lang/invoke/MethodHandle" ∧ ML_leaf.1.cls ≠ "java/lang/invoke/VarHandle") ∧ (parseMethodDescriptor ML_leaf.1.desc).map (fun q => q.parameters.length) = some 4 := ⟨(ht_4 _ (List.mem_of_getElem? (i := 187) rfl)), hw_792, by decide, ⟨by decide +kernel, by decide +kernel⟩, by decide +kernel⟩
abbrev hL_order : List (Nat × Nat × Nat × Nat) := [(0, 20, 23, 25), (0, 20, 27, 13), (0, 20, 31, 19)]
abbrev ML_order : rx_Me := (yL_order, cL_order, 12, (some .int), tableOf hL_order)
theorem okL_order : Cond.codeWith ML_order.1 ML_order.2.1 ML_order.2.2.1 ML_order.2.2.2.1 hL_order ∈ lw_tbl ∧ Cond.initialized ML_order.1.cls ∈ lw_tbl ∧ ML_order.2.2.1 ≤ 21 ∧ (ML_order.1.cls ≠ "java/lang/invoke/MethodHandle" ∧ ML_order.1.cls ≠ "java/lang/invoke/VarHandle") ∧ (parseMethodDescriptor ML_order.1.desc).map (fun q => q.parameters.length) = some 9 := ⟨(ht_3 _ (List.mem_of_getElem? (i := 57) rfl)), hw_792, by decide, ⟨by decide +kernel, by decide +kernel⟩, by decide +kernel⟩
abbrev hL_proves : List (Nat × Nat × Nat × Nat) := [(0, 20, 23, 25)]
abbrev ML_proves : rx_Me := (yL_proves, cL_proves, 8, (some .int), tableOf hL_proves)
theorem okL_proves : Cond.codeWith ML_proves.1 ML_proves.2.1 ML_proves.2.2.1 ML_proves.2.2.2.1 hL_proves ∈ lw_tbl ∧ Cond.initialized ML_proves.1.cls ∈ lw_tbl ∧ ML_proves.2.2.1 ≤ 21 ∧ (ML_proves.1.cls ≠ "java/lang/invoke/MethodHandle" ∧ ML_proves.1.cls ≠ "java/lang/invoke/VarHandle") ∧ (parseMethodDescriptor ML_proves.1.desc).map (fun q => q.parameters.length) = some 5 := ⟨(ht_5 _ (List.mem_of_getElem? (i := 20) rfl)), hw_792, by decide, ⟨by decide +kernel, by decide +kernel⟩, by decide +kernel⟩
abbrev hL_receipt : List (Nat × Nat × Nat × Nat) := [(0, 11, 14, 25)]
abbrev ML_receipt : rx_Me := (yL_receipt, cL_receipt, 6, (some .int), tableOf hL_receipt)
theorem okL_receipt : Cond.codeWith ML_receipt.1 ML_receipt.2.1 ML_receipt.2.2.1 ML_receipt.2.2.2.1 hL_receipt ∈ lw_tbl ∧ Cond.initialized ML_receipt.1.cls ∈ lw_tbl ∧ ML_receipt.2.2.1 ≤ 21 ∧ (ML_receipt.1.cls ≠ "java/lang/invoke/MethodHandle" ∧ ML_receipt.1.cls ≠ "java/lang/invoke/VarHandle") ∧ (parseMethodDescriptor ML_receipt.1.desc).map (fun q => q.parameters.length) = some 5 := ⟨(ht_4 _ (List.mem_of_getElem? (i := 171) rfl)), hw_792, by decide, ⟨by decide +kernel, by decide +kernel⟩, by decide +kernel⟩
abbrev hL_seen : List (Nat × Nat × Nat × Nat) := [(0, 9, 12, 25)]
abbrev ML_seen : rx_Me := (yL_seen, cL_seen, 4, (some .int), tableOf hL_seen)
theorem okL_seen : Cond.codeWith ML_seen.1 ML_seen.2.1 ML_seen.2.2.1 ML_seen.2.2.2.1 hL_seen ∈ lw_tbl ∧ Cond.initialized ML_seen.1.cls ∈ lw_tbl ∧ ML_seen.2.2.1 ≤ 21 ∧ (ML_seen.1.cls ≠ "java/lang/invoke/MethodHandle" ∧ ML_seen.1.cls ≠ "java/lang/invoke/VarHandle") ∧ (parseMethodDescriptor ML_seen.1.desc).map (fun q => q.parameters.length) = some 3 := ⟨(ht_4 _ (List.mem_of_getElem? (i := 228) rfl)), hw_792, by decide, ⟨by decide +kernel, by decide +kernel⟩, by decide +kernel⟩
abbrev hL_told : List (Nat × Nat × Nat × Nat) := [(0, 10, 13, 25)]
abbrev ML_told : rx_Me := (yL_told, cL_told, 5, (some .int), tableOf hL_told)
theorem okL_told : Cond.codeWith ML_told.1 ML_told.2.1 ML_told.2.2.1 ML_told.2.2.2.1 hL_told ∈ lw_tbl ∧ Cond.initialized ML_told.1.cls ∈ lw_tbl ∧ ML_told.2.2.1 ≤ 21 ∧ (ML_told.1.cls ≠ "java/lang/invoke/MethodHandle" ∧ ML_told.1.cls ≠ "java/lang/invoke/VarHandle") ∧ (parseMethodDescriptor ML_told.1.desc).map (fun q => q.parameters.length) = some 4 := ⟨(ht_4 _ (List.mem_of_getElem? (i := 159) rfl)), hw_792, by decide, ⟨by decide +kernel, by decide +kernel⟩, by decide +kernel⟩
abbrev hL_view : List (Nat × Nat × Nat × Nat) := [(0, 15, 18, 25), (0, 15, 22, 13)]
abbrev ML_view : rx_Me := (yL_view, cL_view, 9, (some .int), tableOf hL_view)
theorem okL_view : Cond.codeWith ML_view.1 ML_view.2.1 ML_view.2.2.1 ML_view.2.2.2.1 hL_view ∈ lw_tbl ∧ Cond.initialized ML_view.1.cls ∈ lw_tbl ∧ ML_view.2.2.1 ≤ 21 ∧ (ML_view.1.cls ≠ "java/lang/invoke/MethodHandle" ∧ ML_view.1.cls ≠ "java/lang/invoke/VarHandle") ∧ (parseMethodDescriptor ML_view.1.desc).map (fun q => q.parameters.length) = some 7 := ⟨(ht_4 _ (List.mem_of_getElem? (i := 219) rfl)), hw_792, by decide, ⟨by decide +kernel, by decide +kernel⟩, by decide +kernel⟩
abbrev hL_vote : List (Nat × Nat × Nat × Nat) := [(0, 10, 13, 25)]
abbrev ML_vote : rx_Me := (yL_vote, cL_vote, 5, (some .int), tableOf hL_vote)
theorem okL_vote : Cond.codeWith ML_vote.1 ML_vote.2.1 ML_vote.2.2.1 ML_vote.2.2.2.1 hL_vote ∈ lw_tbl ∧ Cond.initialized ML_vote.1.cls ∈ lw_tbl ∧ ML_vote.2.2.1 ≤ 21 ∧ (ML_vote.1.cls ≠ "java/lang/invoke/MethodHandle" ∧ ML_vote.1.cls ≠ "java/lang/invoke/VarHandle") ∧ (parseMethodDescriptor ML_vote.1.desc).map (fun q => q.parameters.length) = some 4 := ⟨(ht_4 _ (List.mem_of_getElem? (i := 236) rfl)), hw_792, by decide, ⟨by decide +kernel, by decide +kernel⟩, by decide +kernel⟩
abbrev hL_weight : List (Nat × Nat × Nat × Nat) := [(0, 6, 9, 25), (0, 6, 12, 13), (0, 6, 15, 19)]
abbrev ML_weight : rx_Me := (yL_weight, cL_weight, 4, (some .int), tableOf hL_weight)
theorem okL_weight : Cond.codeWith ML_weight.1 ML_weight.2.1 ML_weight.2.2.1 ML_weight.2.2.2.1 hL_weight ∈ lw_tbl ∧ Cond.initialized ML_weight.1.cls ∈ lw_tbl ∧ ML_weight.2.2.1 ≤ 21 ∧ (ML_weight.1.cls ≠ "java/lang/invoke/MethodHandle" ∧ ML_weight.1.cls ≠ "java/lang/invoke/VarHandle") ∧ (parseMethodDescriptor ML_weight.1.desc).map (fun q => q.parameters.length) = some 3 := ⟨(ht_3 _ (List.mem_of_getElem? (i := 48) rfl)), hw_792, by decide, ⟨by decide +kernel, by decide +kernel⟩, by decide +kernel⟩
theorem lk_RL_101 : Cond.static ML_weight.1 ∈ lw_tbl ∧ Cond.methodLink RL 101 ML_weight.1 ∈ lw_tbl := ⟨(ht_3 _ (List.mem_of_getElem? (i := 47) rfl)), (ht_3 _ (List.mem_of_getElem? (i := 46) rfl))⟩
theorem lk_RL_105 : Cond.static ML_order.1 ∈ lw_tbl ∧ Cond.methodLink RL 105 ML_order.1 ∈ lw_tbl := ⟨(ht_3 _ (List.mem_of_getElem? (i := 56) rfl)), (ht_3 _ (List.mem_of_getElem? (i := 55) rfl))⟩
theorem lk_RL_109 : Cond.static ML_block.1 ∈ lw_tbl ∧ Cond.methodLink RL 109 ML_block.1 ∈ lw_tbl := ⟨(ht_3 _ (List.mem_of_getElem? (i := 101) rfl)), (ht_3 _ (List.mem_of_getElem? (i := 100) rfl))⟩
theorem lk_RL_113 : Cond.static ML_told.1 ∈ lw_tbl ∧ Cond.methodLink RL 113 ML_told.1 ∈ lw_tbl := ⟨(ht_4 _ (List.mem_of_getElem? (i := 158) rfl)), (ht_4 _ (List.mem_of_getElem? (i := 157) rfl))⟩
theorem lk_RL_116 : Cond.static ML_receipt.1 ∈ lw_tbl ∧ Cond.methodLink RL 116 ML_receipt.1 ∈ lw_tbl := ⟨(ht_4 _ (List.mem_of_getElem? (i := 170) rfl)), (ht_4 _ (List.mem_of_getElem? (i := 169) rfl))⟩
theorem lk_RL_120 : Cond.static ML_event.1 ∈ lw_tbl ∧ Cond.methodLink RL 120 ML_event.1 ∈ lw_tbl := ⟨(ht_4 _ (List.mem_of_getElem? (i := 178) rfl)), (ht_4 _ (List.mem_of_getElem? (i := 177) rfl))⟩
theorem lk_RL_123 : Cond.static ML_leaf.1 ∈ lw_tbl ∧ Cond.methodLink RL 123 ML_leaf.1 ∈ lw_tbl := ⟨(ht_4 _ (List.mem_of_getElem? (i := 186) rfl)), (ht_4 _ (List.mem_of_getElem? (i := 185) rfl))⟩
theorem lk_RL_126 : Cond.static ML_digest.1 ∈ lw_tbl ∧ Cond.methodLink RL 126 ML_digest.1 ∈ lw_tbl := ⟨(ht_4 _ (List.mem_of_getElem? (i := 194) rfl)), (ht_4 _ (List.mem_of_getElem? (i := 193) rfl))⟩
theorem lk_RL_129 : Cond.static ML_view.1 ∈ lw_tbl ∧ Cond.methodLink RL 129 ML_view.1 ∈ lw_tbl := ⟨(ht_4 _ (List.mem_of_getElem? (i := 218) rfl)), (ht_4 _ (List.mem_of_getElem? (i := 217) rfl))⟩
theorem lk_RL_133 : Cond.static ML_seen.1 ∈ lw_tbl ∧ Cond.methodLink RL 133 ML_seen.1 ∈ lw_tbl := ⟨(ht_4 _ (List.mem_of_getElem? (i := 227) rfl)), (ht_4 _ (List.mem_of_getElem? (i := 226) rfl))⟩
theorem lk_RL_137 : Cond.static ML_vote.1 ∈ lw_tbl ∧ Cond.methodLink RL 137 ML_vote.1 ∈ lw_tbl := ⟨(ht_4 _ (List.mem_of_getElem? (i := 235) rfl)), (ht_4 _ (List.mem_of_getElem? (i := 234) rfl))⟩
theorem lk_RL_140 : Cond.static ML_certain.1 ∈ lw_tbl ∧ Cond.methodLink RL 140 ML_certain.1 ∈ lw_tbl := ⟨(ht_5 _ (List.mem_of_getElem? (i := 3) rfl)), (ht_5 _ (List.mem_of_getElem? (i := 2) rfl))⟩
theorem lk_RL_143 : Cond.static ML_beside.1 ∈ lw_tbl ∧ Cond.methodLink RL 143 ML_beside.1 ∈ lw_tbl := ⟨(ht_5 _ (List.mem_of_getElem? (i := 11) rfl)), (ht_5 _ (List.mem_of_getElem? (i := 10) rfl))⟩
theorem lk_RL_147 : Cond.static ML_proves.1 ∈ lw_tbl ∧ Cond.methodLink RL 147 ML_proves.1 ∈ lw_tbl := ⟨(ht_5 _ (List.mem_of_getElem? (i := 19) rfl)), (ht_5 _ (List.mem_of_getElem? (i := 18) rfl))⟩
theorem lk_RL_84 : Cond.static ML_draft.1 ∈ lw_tbl ∧ Cond.methodLink RL 84 ML_draft.1 ∈ lw_tbl := ⟨(ht_2 _ (List.mem_of_getElem? (i := 81) rfl)), (ht_2 _ (List.mem_of_getElem? (i := 80) rfl))⟩
theorem lk_RL_93 : Cond.static ML_code.1 ∈ lw_tbl ∧ Cond.methodLink RL 93 ML_code.1 ∈ lw_tbl := ⟨(ht_2 _ (List.mem_of_getElem? (i := 164) rfl)), (ht_2 _ (List.mem_of_getElem? (i := 163) rfl))⟩
theorem lk_RL_97 : Cond.static ML_endow.1 ∈ lw_tbl ∧ Cond.methodLink RL 97 ML_endow.1 ∈ lw_tbl := ⟨(ht_3 _ (List.mem_of_getElem? (i := 9) rfl)), (ht_3 _ (List.mem_of_getElem? (i := 8) rfl))⟩
set_option maxRecDepth 100000 in
theorem thw_x : (Cond.classLink RX10 113 "java/lang/IndexOutOfBoundsException" :: Cond.initialized "java/lang/IndexOutOfBoundsException" :: vx_atS RX10 117 "java/lang/IndexOutOfBoundsException" ["java/lang/RuntimeException", "java/lang/Exception"]).all (fun w => decide (w ∈ lw_tbl) && rx_gd w && vx_ot w) = true := by decide +kernel
theorem th_x : rx_Th 113 117 "java/lang/IndexOutOfBoundsException" := ⟨by decide +kernel, fun w h => by have := List.all_eq_true.mp thw_x w h; rw [Bool.and_eq_true, Bool.and_eq_true] at this; exact ⟨of_decide_eq_true this.1.1, this.1.2, this.2⟩⟩
set_option maxRecDepth 100000 in
theorem thw_a : (Cond.classLink RX10 63 "java/lang/IllegalArgumentException" :: Cond.initialized "java/lang/IllegalArgumentException" :: vx_atS RX10 67 "java/lang/IllegalArgumentException" ["java/lang/RuntimeException", "java/lang/Exception"]).all (fun w => decide (w ∈ lw_tbl) && rx_gd w && vx_ot w) = true := by decide +kernel
theorem th_a : rx_Th 63 67 "java/lang/IllegalArgumentException" := ⟨by decide +kernel, fun w h => by have := List.all_eq_true.mp thw_a w h; rw [Bool.and_eq_true, Bool.and_eq_true] at this; exact ⟨of_decide_eq_true this.1.1, this.1.2, this.2⟩⟩
set_option maxRecDepth 100000 in
theorem thw_s : (Cond.classLink RX10 84 "java/lang/IllegalStateException" :: Cond.initialized "java/lang/IllegalStateException" :: vx_atS RX10 88 "java/lang/IllegalStateException" ["java/lang/RuntimeException", "java/lang/Exception"]).all (fun w => decide (w ∈ lw_tbl) && rx_gd w && vx_ot w) = true := by decide +kernel
theorem th_s : rx_Th 84 88 "java/lang/IllegalStateException" := ⟨by decide +kernel, fun w h => by have := List.all_eq_true.mp thw_s w h; rw [Bool.and_eq_true, Bool.and_eq_true] at this; exact ⟨of_decide_eq_true this.1.1, this.1.2, this.2⟩⟩
section HFACE
variable {G : rx_E} {M : rx_Me} {d pc mc ms : Nat} {lv : List (Nat × Value)} {st : List Value} {C : rx_M} {S : gs_T} {mu : rx_M} {Q : Option Value → rx_M → Prop} {Z : String → rx_M → Prop}
theorem rx_Wm {mc' ms' : Nat} (h : rx_W G M d pc lv st mu mc ms Q Z) (h1 : mc ≤ mc') (h2 : ms ≤ ms') : rx_W G M d pc lv st mu mc' ms' Q Z := by
  intro p e R s m args below meth c H locs cells slots MC MS ls C h3 h4 h5 h6 h7
  exact h p e R s m args below meth c H locs cells slots MC MS ls C ⟨h3.1, h3.2.1, by omega, by omega, h3.2.2.2.2⟩ h4 h5 h6 h7
/-- what a throw of E leaves -/
def zq (C : rx_M) (S : gs_T) (E0 : String) (E : String) (mu : rx_M) : Prop := E = E0 ∧ ∃ C', mu = gl C' S ∧ rc_ag C C'
theorem gx_throw {ik is ic : Nat} {cls text : String} {Q : Option Value → rx_M → Prop} (hG : rx_OK G) (hM : M.1.cls = RX10) (hM0 : M.2.2.2.2 = []) (hT : rx_Th ik ic cls) (hstr : Cond.stringRef RX10 is text ∈ lw_tbl)
    (d0 : decode M.2.1 pc = .ok (.new ik, 3)) (d3 : decode M.2.1 (pc + 3) = .ok (.dup, 1)) (d4 : decode M.2.1 (pc + 4) = .ok (.ldc is, 2)) (d6 : decode M.2.1 (pc + 6) = .ok (.invokespecial ic, 3)) (d9 : decode M.2.1 (pc + 9) = .ok (.athrow, 1)) : rx_W G M (d + 8) pc lv [] (gl C S) 8 2000 Q (zq C S cls) :=
  rx_Wm (mc := 0 + 1) (ms := 0 + 6) (rx_throw hG hM hM0 hT hstr d0 d3 d4 d6 d9 (fun n hn => ⟨rfl, _, gl_gap hn, rc_ag_gap hn⟩)) (by decide) (by decide)
theorem HL_beside {p1 : Int32} {p2 : Int64}  {P : rx_M → Prop} (hG : rx_OK G) (hX : rx_X G MX10_beside d [.ref 0, .int p1, .long p2] (gl C S) 8 2000 (fun v mu => v = none ∧ ∃ C', mu = gl C' S ∧ P C') (fun _ _ => False)) : rx_H G ML_beside hL_beside (d + 1) [.ref 0, .int p1, .long p2] (gl C S) 8 2000 (fun v mu => v = some (.int (nI 0)) ∧ ∃ C', mu = gl C' S ∧ P C') := by
  refine rx_methH (by decide +kernel) rfl (Nat.le_of_ble_eq_true rfl) ?_
  refine rx_aload_n dL_beside_0 rfl rfl ?_
  refine rx_iload_n dL_beside_1 rfl ?_
  refine rx_lload_n dL_beside_2 rfl ?_
  refine rx_invVX (mc := 0) (ms := 0) (mc' := 8) (ms' := 2000) (as := [.int _, .long _]) hG okX10_beside ⟨⟨_, _, hc_10⟩, hw_729, hw_730, hw_728⟩ (gl_n rfl) rfl dL_beside_3 rfl (by simp [Value.category]) hX ?_ (fun E mu' h => h.elim)
  rintro _ _ ⟨rfl, C', rfl, hP⟩
  refine rx_goto (tgt := 13) dL_beside_6 (by decide) ?_
  refine rx_iconst (v := nI 0) dL_beside_13 rfl ?_
  exact rx_iret rfl dL_beside_14 ⟨rfl, C', rfl, hP⟩
theorem caL_beside_x (hN : rx_NC G) : rx_Ca G ML_beside 3 "java/lang/IndexOutOfBoundsException" 11 := ⟨[], ⟨0, 6, 9, 25⟩, [], "java/lang/IndexOutOfBoundsException", rfl, fun z hz => absurd hz List.not_mem_nil, rfl, by decide, (ht_3 _ (List.mem_of_getElem? (i := 11) rfl)), hw_848, Or.inr ⟨4, dL_beside_9, by decide, rfl⟩⟩
theorem HL_beside_x {p1 : Int32} {p2 : Int64} (hG : rx_OK G) (hN : rx_NC G) (hX : rx_X G MX10_beside d [.ref 0, .int p1, .long p2] (gl C S) 8 2000 (fun _ _ => False) (zq C S "java/lang/IndexOutOfBoundsException")) : rx_H G ML_beside hL_beside (d + 1) [.ref 0, .int p1, .long p2] (gl C S) 8 2000 (fun v mu => v = some (.int (nI 1)) ∧ ∃ C', mu = gl C' S ∧ rc_ag C C') := by
  refine rx_methH (by decide +kernel) rfl (Nat.le_of_ble_eq_true rfl) ?_
  refine rx_aload_n dL_beside_0 rfl rfl ?_
  refine rx_iload_n dL_beside_1 rfl ?_
  refine rx_lload_n dL_beside_2 rfl ?_
  refine rx_invVX (mc := 0) (ms := 0) (mc' := 8) (ms' := 2000) (as := [.int _, .long _]) hG okX10_beside ⟨⟨_, _, hc_10⟩, hw_729, hw_730, hw_728⟩ (gl_n rfl) rfl dL_beside_3 rfl (by simp [Value.category]) hX (fun v mu' h => h.elim) ?_
  rintro _ _ ⟨rfl, C', rfl, hP⟩
  refine ⟨11, caL_beside_x hN, ?_⟩
  refine rx_iconst (v := nI 1) dL_beside_11 rfl ?_
  exact rx_iret rfl dL_beside_12 ⟨rfl, C', rfl, hP⟩
theorem HL_block {p1 : Int32} {p2 : Int32} {r : Int32} {P : rx_M → Prop} (hG : rx_OK G) (hX : rx_X G MX10_block d [.ref 0, .int p1, .int p2] (gl C S) 8 2000 (fun v mu => v = some (.int r) ∧ ∃ C', mu = gl C' S ∧ P C') (fun _ _ => False)) : rx_H G ML_block hL_block (d + 1) [.ref 0, .int p1, .int p2, .ref 101] (gl C S) 8 2000 (fun v mu => v = some (.int (nI 0)) ∧ ∃ C', mu = gl (C'.1, rx_u C'.2.1 101 0 r.toInt64, C'.2.2) S ∧ P C') := by
  refine rx_methH (by decide +kernel) rfl (Nat.le_of_ble_eq_true rfl) ?_
  refine rx_aload_n dL_block_0 rfl rfl ?_
  refine rx_iconst (v := nI 0) dL_block_1 rfl ?_
  refine rx_aload_n dL_block_2 rfl rfl ?_
  refine rx_iload_n dL_block_3 rfl ?_
  refine rx_iload_n dL_block_4 rfl ?_
  refine rx_invVX (mc := 0) (ms := 0) (mc' := 8) (ms' := 2000) (as := [.int _, .int _]) hG okX10_block ⟨⟨_, _, hc_10⟩, hw_699, hw_700, hw_698⟩ (gl_n rfl) rfl dL_block_5 rfl (by simp [Value.category]) hX ?_ (fun E mu' h => h.elim)
  rintro _ _ ⟨rfl, C', rfl, hP⟩
  refine rx_i2l dL_block_8 ?_
  refine gc_last (j := 0) hG dL_block_9 rfl rfl rfl rfl (by decide) (by decide) ?_
  refine rx_goto (tgt := 21) dL_block_10 (by decide) ?_
  refine rx_iconst (v := nI 0) dL_block_21 rfl ?_
  exact rx_iret rfl dL_block_22 ⟨rfl, C', rfl, hP⟩
theorem caL_block_x (hN : rx_NC G) : rx_Ca G ML_block 5 "java/lang/IndexOutOfBoundsException" 15 := ⟨[], ⟨0, 10, 13, 25⟩, [⟨0, 10, 17, 19⟩], "java/lang/IndexOutOfBoundsException", rfl, fun z hz => absurd hz List.not_mem_nil, rfl, by decide, (ht_3 _ (List.mem_of_getElem? (i := 11) rfl)), hw_848, Or.inr ⟨4, dL_block_13, by decide, rfl⟩⟩
theorem HL_block_x {p1 : Int32} {p2 : Int32} (hG : rx_OK G) (hN : rx_NC G) (hX : rx_X G MX10_block d [.ref 0, .int p1, .int p2] (gl C S) 8 2000 (fun _ _ => False) (zq C S "java/lang/IndexOutOfBoundsException")) : rx_H G ML_block hL_block (d + 1) [.ref 0, .int p1, .int p2, .ref 101] (gl C S) 8 2000 (fun v mu => v = some (.int (nI 1)) ∧ ∃ C', mu = gl C' S ∧ rc_ag C C') := by
  refine rx_methH (by decide +kernel) rfl (Nat.le_of_ble_eq_true rfl) ?_
  refine rx_aload_n dL_block_0 rfl rfl ?_
  refine rx_iconst (v := nI 0) dL_block_1 rfl ?_
  refine rx_aload_n dL_block_2 rfl rfl ?_
  refine rx_iload_n dL_block_3 rfl ?_
  refine rx_iload_n dL_block_4 rfl ?_
  refine rx_invVX (mc := 0) (ms := 0) (mc' := 8) (ms' := 2000) (as := [.int _, .int _]) hG okX10_block ⟨⟨_, _, hc_10⟩, hw_699, hw_700, hw_698⟩ (gl_n rfl) rfl dL_block_5 rfl (by simp [Value.category]) hX (fun v mu' h => h.elim) ?_
  rintro _ _ ⟨rfl, C', rfl, hP⟩
  refine ⟨15, caL_block_x hN, ?_⟩
  refine rx_iconst (v := nI 1) dL_block_15 rfl ?_
  exact rx_iret rfl dL_block_16 ⟨rfl, C', rfl, hP⟩
theorem caL_block_s (hN : rx_NC G) : rx_Ca G ML_block 5 "java/lang/IllegalStateException" 19 := ⟨[⟨0, 10, 13, 25⟩], ⟨0, 10, 17, 19⟩, [], "java/lang/IllegalStateException", rfl, fun z hz => by rw [List.mem_singleton] at hz; subst hz; exact Or.inr ⟨by decide, _, (ht_3 _ (List.mem_of_getElem? (i := 11) rfl)), hN.2.1⟩, rfl, by decide, (ht_2 _ (List.mem_of_getElem? (i := 166) rfl)), hw_839, Or.inr ⟨4, dL_block_17, by decide, rfl⟩⟩
theorem HL_block_s {p1 : Int32} {p2 : Int32} (hG : rx_OK G) (hN : rx_NC G) (hX : rx_X G MX10_block d [.ref 0, .int p1, .int p2] (gl C S) 8 2000 (fun _ _ => False) (zq C S "java/lang/IllegalStateException")) : rx_H G ML_block hL_block (d + 1) [.ref 0, .int p1, .int p2, .ref 101] (gl C S) 8 2000 (fun v mu => v = some (.int (nI 2)) ∧ ∃ C', mu = gl C' S ∧ rc_ag C C') := by
  refine rx_methH (by decide +kernel) rfl (Nat.le_of_ble_eq_true rfl) ?_
  refine rx_aload_n dL_block_0 rfl rfl ?_
  refine rx_iconst (v := nI 0) dL_block_1 rfl ?_
  refine rx_aload_n dL_block_2 rfl rfl ?_
  refine rx_iload_n dL_block_3 rfl ?_
  refine rx_iload_n dL_block_4 rfl ?_
  refine rx_invVX (mc := 0) (ms := 0) (mc' := 8) (ms' := 2000) (as := [.int _, .int _]) hG okX10_block ⟨⟨_, _, hc_10⟩, hw_699, hw_700, hw_698⟩ (gl_n rfl) rfl dL_block_5 rfl (by simp [Value.category]) hX (fun v mu' h => h.elim) ?_
  rintro _ _ ⟨rfl, C', rfl, hP⟩
  refine ⟨19, caL_block_s hN, ?_⟩
  refine rx_iconst (v := nI 2) dL_block_19 rfl ?_
  exact rx_iret rfl dL_block_20 ⟨rfl, C', rfl, hP⟩
theorem HL_certain {p1 : Int32} {r : Int32} {P : rx_M → Prop} (hG : rx_OK G) (hX : rx_X G MX10_certain d [.ref 0, .int p1] (gl C S) 8 2000 (fun v mu => v = some (.int r) ∧ ∃ C', mu = gl C' S ∧ P C') (fun _ _ => False)) : rx_H G ML_certain hL_certain (d + 1) [.ref 0, .int p1, .ref 101] (gl C S) 8 2000 (fun v mu => v = some (.int (nI 0)) ∧ ∃ C', mu = gl (C'.1, rx_u C'.2.1 101 0 r.toInt64, C'.2.2) S ∧ P C') := by
  refine rx_methH (by decide +kernel) rfl (Nat.le_of_ble_eq_true rfl) ?_
  refine rx_aload_n dL_certain_0 rfl rfl ?_
  refine rx_iconst (v := nI 0) dL_certain_1 rfl ?_
  refine rx_aload_n dL_certain_2 rfl rfl ?_
  refine rx_iload_n dL_certain_3 rfl ?_
  refine rx_invVX (mc := 0) (ms := 0) (mc' := 8) (ms' := 2000) (as := [.int _]) hG okX10_certain ⟨⟨_, _, hc_10⟩, hw_726, hw_727, hw_725⟩ (gl_n rfl) rfl dL_certain_4 rfl (by simp [Value.category]) hX ?_ (fun E mu' h => h.elim)
  rintro _ _ ⟨rfl, C', rfl, hP⟩
  refine rx_i2l dL_certain_7 ?_
  refine gc_last (j := 0) hG dL_certain_8 rfl rfl rfl rfl (by decide) (by decide) ?_
  refine rx_goto (tgt := 15) dL_certain_9 (by decide) ?_
  refine rx_iconst (v := nI 0) dL_certain_15 rfl ?_
  exact rx_iret rfl dL_certain_16 ⟨rfl, C', rfl, hP⟩
theorem caL_certain_x (hN : rx_NC G) : rx_Ca G ML_certain 4 "java/lang/IndexOutOfBoundsException" 13 := ⟨[], ⟨0, 9, 12, 25⟩, [], "java/lang/IndexOutOfBoundsException", rfl, fun z hz => absurd hz List.not_mem_nil, rfl, by decide, (ht_3 _ (List.mem_of_getElem? (i := 11) rfl)), hw_848, Or.inl ⟨3, dL_certain_12, by decide, rfl⟩⟩
theorem HL_certain_x {p1 : Int32} (hG : rx_OK G) (hN : rx_NC G) (hX : rx_X G MX10_certain d [.ref 0, .int p1] (gl C S) 8 2000 (fun _ _ => False) (zq C S "java/lang/IndexOutOfBoundsException")) : rx_H G ML_certain hL_certain (d + 1) [.ref 0, .int p1, .ref 101] (gl C S) 8 2000 (fun v mu => v = some (.int (nI 1)) ∧ ∃ C', mu = gl C' S ∧ rc_ag C C') := by
  refine rx_methH (by decide +kernel) rfl (Nat.le_of_ble_eq_true rfl) ?_
  refine rx_aload_n dL_certain_0 rfl rfl ?_
  refine rx_iconst (v := nI 0) dL_certain_1 rfl ?_
  refine rx_aload_n dL_certain_2 rfl rfl ?_
  refine rx_iload_n dL_certain_3 rfl ?_
  refine rx_invVX (mc := 0) (ms := 0) (mc' := 8) (ms' := 2000) (as := [.int _]) hG okX10_certain ⟨⟨_, _, hc_10⟩, hw_726, hw_727, hw_725⟩ (gl_n rfl) rfl dL_certain_4 rfl (by simp [Value.category]) hX (fun v mu' h => h.elim) ?_
  rintro _ _ ⟨rfl, C', rfl, hP⟩
  refine ⟨13, caL_certain_x hN, ?_⟩
  refine rx_iconst (v := nI 1) dL_certain_13 rfl ?_
  exact rx_iret rfl dL_certain_14 ⟨rfl, C', rfl, hP⟩
theorem HL_code  {r : Int32} {P : rx_M → Prop} (hG : rx_OK G) (hX : rx_X G MX10_code d [.ref 0] (gl C S) 8 2000 (fun v mu => v = some (.int r) ∧ ∃ C', mu = gl C' S ∧ P C') (fun _ _ => False)) : rx_H G ML_code hL_code (d + 1) [.ref 0, .ref 101] (gl C S) 8 2000 (fun v mu => v = some (.int (nI 0)) ∧ ∃ C', mu = gl (C'.1, rx_u C'.2.1 101 0 r.toInt64, C'.2.2) S ∧ P C') := by
  refine rx_methH (by decide +kernel) rfl (Nat.le_of_ble_eq_true rfl) ?_
  refine rx_aload_n dL_code_0 rfl rfl ?_
  refine rx_iconst (v := nI 0) dL_code_1 rfl ?_
  refine rx_aload_n dL_code_2 rfl rfl ?_
  refine rx_invVX (mc := 0) (ms := 0) (mc' := 8) (ms' := 2000) (as := []) hG okX10_code ⟨⟨_, _, hc_10⟩, hw_687, hw_688, hw_686⟩ (gl_n rfl) rfl dL_code_3 rfl (by simp [Value.category]) hX ?_ (fun E mu' h => h.elim)
  rintro _ _ ⟨rfl, C', rfl, hP⟩
  refine rx_i2l dL_code_6 ?_
  refine gc_last (j := 0) hG dL_code_7 rfl rfl rfl rfl (by decide) (by decide) ?_
  refine rx_goto (tgt := 14) dL_code_8 (by decide) ?_
  refine rx_iconst (v := nI 0) dL_code_14 rfl ?_
  exact rx_iret rfl dL_code_15 ⟨rfl, C', rfl, hP⟩
theorem caL_code_s (hN : rx_NC G) : rx_Ca G ML_code 3 "java/lang/IllegalStateException" 12 := ⟨[], ⟨0, 8, 11, 19⟩, [], "java/lang/IllegalStateException", rfl, fun z hz => absurd hz List.not_mem_nil, rfl, by decide, (ht_2 _ (List.mem_of_getElem? (i := 166) rfl)), hw_839, Or.inl ⟨2, dL_code_11, by decide, rfl⟩⟩
theorem HL_code_s  (hG : rx_OK G) (hN : rx_NC G) (hX : rx_X G MX10_code d [.ref 0] (gl C S) 8 2000 (fun _ _ => False) (zq C S "java/lang/IllegalStateException")) : rx_H G ML_code hL_code (d + 1) [.ref 0, .ref 101] (gl C S) 8 2000 (fun v mu => v = some (.int (nI 1)) ∧ ∃ C', mu = gl C' S ∧ rc_ag C C') := by
  refine rx_methH (by decide +kernel) rfl (Nat.le_of_ble_eq_true rfl) ?_
  refine rx_aload_n dL_code_0 rfl rfl ?_
  refine rx_iconst (v := nI 0) dL_code_1 rfl ?_
  refine rx_aload_n dL_code_2 rfl rfl ?_
  refine rx_invVX (mc := 0) (ms := 0) (mc' := 8) (ms' := 2000) (as := []) hG okX10_code ⟨⟨_, _, hc_10⟩, hw_687, hw_688, hw_686⟩ (gl_n rfl) rfl dL_code_3 rfl (by simp [Value.category]) hX (fun v mu' h => h.elim) ?_
  rintro _ _ ⟨rfl, C', rfl, hP⟩
  refine ⟨12, caL_code_s hN, ?_⟩
  refine rx_iconst (v := nI 1) dL_code_12 rfl ?_
  exact rx_iret rfl dL_code_13 ⟨rfl, C', rfl, hP⟩
theorem HL_digest {p1 : Int32} {p2 : Int32} {p3 : Int32} {r : Int64} {P : rx_M → Prop} (hG : rx_OK G) (hX : rx_X G MX10_digest d [.ref 0, .int p1, .int p2, .int p3] (gl C S) 8 2000 (fun v mu => v = some (.long r) ∧ ∃ C', mu = gl C' S ∧ P C') (fun _ _ => False)) : rx_H G ML_digest hL_digest (d + 1) [.ref 0, .int p1, .int p2, .int p3, .ref 101] (gl C S) 8 2000 (fun v mu => v = some (.int (nI 0)) ∧ ∃ C', mu = gl (C'.1, rx_u C'.2.1 101 0 r, C'.2.2) S ∧ P C') := by
  refine rx_methH (by decide +kernel) rfl (Nat.le_of_ble_eq_true rfl) ?_
  refine rx_aload dL_digest_0 rfl rfl ?_
  refine rx_iconst (v := nI 0) dL_digest_2 rfl ?_
  refine rx_aload_n dL_digest_3 rfl rfl ?_
  refine rx_iload_n dL_digest_4 rfl ?_
  refine rx_iload_n dL_digest_5 rfl ?_
  refine rx_iload_n dL_digest_6 rfl ?_
  refine rx_invVX (mc := 0) (ms := 0) (mc' := 8) (ms' := 2000) (as := [.int _, .int _, .int _]) hG okX10_digest ⟨⟨_, _, hc_10⟩, hw_714, hw_715, hw_713⟩ (gl_n rfl) rfl dL_digest_7 rfl (by simp [Value.category]) hX ?_ (fun E mu' h => h.elim)
  rintro _ _ ⟨rfl, C', rfl, hP⟩
  refine gc_last (j := 0) hG dL_digest_10 rfl rfl rfl rfl (by decide) (by decide) ?_
  refine rx_goto (tgt := 18) dL_digest_11 (by decide) ?_
  refine rx_iconst (v := nI 0) dL_digest_18 rfl ?_
  exact rx_iret rfl dL_digest_19 ⟨rfl, C', rfl, hP⟩
theorem caL_digest_x (hN : rx_NC G) : rx_Ca G ML_digest 7 "java/lang/IndexOutOfBoundsException" 16 := ⟨[], ⟨0, 11, 14, 25⟩, [], "java/lang/IndexOutOfBoundsException", rfl, fun z hz => absurd hz List.not_mem_nil, rfl, by decide, (ht_3 _ (List.mem_of_getElem? (i := 11) rfl)), hw_848, Or.inr ⟨5, dL_digest_14, by decide, rfl⟩⟩
theorem HL_digest_x {p1 : Int32} {p2 : Int32} {p3 : Int32} (hG : rx_OK G) (hN : rx_NC G) (hX : rx_X G MX10_digest d [.ref 0, .int p1, .int p2, .int p3] (gl C S) 8 2000 (fun _ _ => False) (zq C S "java/lang/IndexOutOfBoundsException")) : rx_H G ML_digest hL_digest (d + 1) [.ref 0, .int p1, .int p2, .int p3, .ref 101] (gl C S) 8 2000 (fun v mu => v = some (.int (nI 1)) ∧ ∃ C', mu = gl C' S ∧ rc_ag C C') := by
  refine rx_methH (by decide +kernel) rfl (Nat.le_of_ble_eq_true rfl) ?_
  refine rx_aload dL_digest_0 rfl rfl ?_
  refine rx_iconst (v := nI 0) dL_digest_2 rfl ?_
  refine rx_aload_n dL_digest_3 rfl rfl ?_
  refine rx_iload_n dL_digest_4 rfl ?_
  refine rx_iload_n dL_digest_5 rfl ?_
  refine rx_iload_n dL_digest_6 rfl ?_
  refine rx_invVX (mc := 0) (ms := 0) (mc' := 8) (ms' := 2000) (as := [.int _, .int _, .int _]) hG okX10_digest ⟨⟨_, _, hc_10⟩, hw_714, hw_715, hw_713⟩ (gl_n rfl) rfl dL_digest_7 rfl (by simp [Value.category]) hX (fun v mu' h => h.elim) ?_
  rintro _ _ ⟨rfl, C', rfl, hP⟩
  refine ⟨16, caL_digest_x hN, ?_⟩
  refine rx_iconst (v := nI 1) dL_digest_16 rfl ?_
  exact rx_iret rfl dL_digest_17 ⟨rfl, C', rfl, hP⟩
theorem HL_draft {p1 : Int32} {p2 : Int64} {r : Int32} {P : rx_M → Prop} (hG : rx_OK G) (hX : rx_X G MX10_draft d [.ref 0, .int p1, .long p2] (gl C S) 8 2000 (fun v mu => v = some (.int r) ∧ ∃ C', mu = gl C' S ∧ P C') (fun _ _ => False)) : rx_H G ML_draft hL_draft (d + 1) [.ref 0, .int p1, .long p2, .ref 101] (gl C S) 8 2000 (fun v mu => v = some (.int (nI 0)) ∧ ∃ C', mu = gl (C'.1, rx_u C'.2.1 101 0 r.toInt64, C'.2.2) S ∧ P C') := by
  refine rx_methH (by decide +kernel) rfl (Nat.le_of_ble_eq_true rfl) ?_
  refine rx_aload dL_draft_0 rfl rfl ?_
  refine rx_iconst (v := nI 0) dL_draft_2 rfl ?_
  refine rx_aload_n dL_draft_3 rfl rfl ?_
  refine rx_iload_n dL_draft_4 rfl ?_
  refine rx_lload_n dL_draft_5 rfl ?_
  refine rx_invVX (mc := 0) (ms := 0) (mc' := 8) (ms' := 2000) (as := [.int _, .long _]) hG okX10_draft ⟨⟨_, _, hc_10⟩, hw_684, hw_685, hw_683⟩ (gl_n rfl) rfl dL_draft_6 rfl (by simp [Value.category]) hX ?_ (fun E mu' h => h.elim)
  rintro _ _ ⟨rfl, C', rfl, hP⟩
  refine rx_i2l dL_draft_9 ?_
  refine gc_last (j := 0) hG dL_draft_10 rfl rfl rfl rfl (by decide) (by decide) ?_
  refine rx_goto (tgt := 18) dL_draft_11 (by decide) ?_
  refine rx_iconst (v := nI 0) dL_draft_18 rfl ?_
  exact rx_iret rfl dL_draft_19 ⟨rfl, C', rfl, hP⟩
theorem caL_draft_a (hN : rx_NC G) : rx_Ca G ML_draft 6 "java/lang/IllegalArgumentException" 16 := ⟨[], ⟨0, 11, 14, 13⟩, [], "java/lang/IllegalArgumentException", rfl, fun z hz => absurd hz List.not_mem_nil, rfl, by decide, (ht_2 _ (List.mem_of_getElem? (i := 83) rfl)), hw_831, Or.inr ⟨5, dL_draft_14, by decide, rfl⟩⟩
theorem HL_draft_a {p1 : Int32} {p2 : Int64} (hG : rx_OK G) (hN : rx_NC G) (hX : rx_X G MX10_draft d [.ref 0, .int p1, .long p2] (gl C S) 8 2000 (fun _ _ => False) (zq C S "java/lang/IllegalArgumentException")) : rx_H G ML_draft hL_draft (d + 1) [.ref 0, .int p1, .long p2, .ref 101] (gl C S) 8 2000 (fun v mu => v = some (.int (nI 1)) ∧ ∃ C', mu = gl C' S ∧ rc_ag C C') := by
  refine rx_methH (by decide +kernel) rfl (Nat.le_of_ble_eq_true rfl) ?_
  refine rx_aload dL_draft_0 rfl rfl ?_
  refine rx_iconst (v := nI 0) dL_draft_2 rfl ?_
  refine rx_aload_n dL_draft_3 rfl rfl ?_
  refine rx_iload_n dL_draft_4 rfl ?_
  refine rx_lload_n dL_draft_5 rfl ?_
  refine rx_invVX (mc := 0) (ms := 0) (mc' := 8) (ms' := 2000) (as := [.int _, .long _]) hG okX10_draft ⟨⟨_, _, hc_10⟩, hw_684, hw_685, hw_683⟩ (gl_n rfl) rfl dL_draft_6 rfl (by simp [Value.category]) hX (fun v mu' h => h.elim) ?_
  rintro _ _ ⟨rfl, C', rfl, hP⟩
  refine ⟨16, caL_draft_a hN, ?_⟩
  refine rx_iconst (v := nI 1) dL_draft_16 rfl ?_
  exact rx_iret rfl dL_draft_17 ⟨rfl, C', rfl, hP⟩
theorem HL_endow {p1 : Int32} {p2 : Int64} {p3 : Int32}  {P : rx_M → Prop} (hG : rx_OK G) (hX : rx_X G MX10_endow d [.ref 0, .int p1, .long p2, .int p3] (gl C S) 8 2000 (fun v mu => v = none ∧ ∃ C', mu = gl C' S ∧ P C') (fun _ _ => False)) : rx_H G ML_endow hL_endow (d + 1) [.ref 0, .int p1, .long p2, .int p3] (gl C S) 8 2000 (fun v mu => v = some (.int (nI 0)) ∧ ∃ C', mu = gl C' S ∧ P C') := by
  refine rx_methH (by decide +kernel) rfl (Nat.le_of_ble_eq_true rfl) ?_
  refine rx_aload_n dL_endow_0 rfl rfl ?_
  refine rx_iload_n dL_endow_1 rfl ?_
  refine rx_lload_n dL_endow_2 rfl ?_
  refine rx_iload dL_endow_3 rfl ?_
  refine rx_invVX (mc := 0) (ms := 0) (mc' := 8) (ms' := 2000) (as := [.int _, .long _, .int _]) hG okX10_endow ⟨⟨_, _, hc_10⟩, hw_690, hw_691, hw_689⟩ (gl_n rfl) rfl dL_endow_5 rfl (by simp [Value.category]) hX ?_ (fun E mu' h => h.elim)
  rintro _ _ ⟨rfl, C', rfl, hP⟩
  refine rx_goto (tgt := 23) dL_endow_8 (by decide) ?_
  refine rx_iconst (v := nI 0) dL_endow_23 rfl ?_
  exact rx_iret rfl dL_endow_24 ⟨rfl, C', rfl, hP⟩
theorem caL_endow_x (hN : rx_NC G) : rx_Ca G ML_endow 5 "java/lang/IndexOutOfBoundsException" 13 := ⟨[], ⟨0, 8, 11, 25⟩, [⟨0, 8, 15, 13⟩, ⟨0, 8, 19, 19⟩], "java/lang/IndexOutOfBoundsException", rfl, fun z hz => absurd hz List.not_mem_nil, rfl, by decide, (ht_3 _ (List.mem_of_getElem? (i := 11) rfl)), hw_848, Or.inr ⟨5, dL_endow_11, by decide, rfl⟩⟩
theorem HL_endow_x {p1 : Int32} {p2 : Int64} {p3 : Int32} (hG : rx_OK G) (hN : rx_NC G) (hX : rx_X G MX10_endow d [.ref 0, .int p1, .long p2, .int p3] (gl C S) 8 2000 (fun _ _ => False) (zq C S "java/lang/IndexOutOfBoundsException")) : rx_H G ML_endow hL_endow (d + 1) [.ref 0, .int p1, .long p2, .int p3] (gl C S) 8 2000 (fun v mu => v = some (.int (nI 1)) ∧ ∃ C', mu = gl C' S ∧ rc_ag C C') := by
  refine rx_methH (by decide +kernel) rfl (Nat.le_of_ble_eq_true rfl) ?_
  refine rx_aload_n dL_endow_0 rfl rfl ?_
  refine rx_iload_n dL_endow_1 rfl ?_
  refine rx_lload_n dL_endow_2 rfl ?_
  refine rx_iload dL_endow_3 rfl ?_
  refine rx_invVX (mc := 0) (ms := 0) (mc' := 8) (ms' := 2000) (as := [.int _, .long _, .int _]) hG okX10_endow ⟨⟨_, _, hc_10⟩, hw_690, hw_691, hw_689⟩ (gl_n rfl) rfl dL_endow_5 rfl (by simp [Value.category]) hX (fun v mu' h => h.elim) ?_
  rintro _ _ ⟨rfl, C', rfl, hP⟩
  refine ⟨13, caL_endow_x hN, ?_⟩
  refine rx_iconst (v := nI 1) dL_endow_13 rfl ?_
  exact rx_iret rfl dL_endow_14 ⟨rfl, C', rfl, hP⟩
theorem caL_endow_a (hN : rx_NC G) : rx_Ca G ML_endow 5 "java/lang/IllegalArgumentException" 17 := ⟨[⟨0, 8, 11, 25⟩], ⟨0, 8, 15, 13⟩, [⟨0, 8, 19, 19⟩], "java/lang/IllegalArgumentException", rfl, fun z hz => by rw [List.mem_singleton] at hz; subst hz; exact Or.inr ⟨by decide, _, (ht_3 _ (List.mem_of_getElem? (i := 11) rfl)), hN.1⟩, rfl, by decide, (ht_2 _ (List.mem_of_getElem? (i := 83) rfl)), hw_831, Or.inr ⟨5, dL_endow_15, by decide, rfl⟩⟩
theorem HL_endow_a {p1 : Int32} {p2 : Int64} {p3 : Int32} (hG : rx_OK G) (hN : rx_NC G) (hX : rx_X G MX10_endow d [.ref 0, .int p1, .long p2, .int p3] (gl C S) 8 2000 (fun _ _ => False) (zq C S "java/lang/IllegalArgumentException")) : rx_H G ML_endow hL_endow (d + 1) [.ref 0, .int p1, .long p2, .int p3] (gl C S) 8 2000 (fun v mu => v = some (.int (nI 2)) ∧ ∃ C', mu = gl C' S ∧ rc_ag C C') := by
  refine rx_methH (by decide +kernel) rfl (Nat.le_of_ble_eq_true rfl) ?_
  refine rx_aload_n dL_endow_0 rfl rfl ?_
  refine rx_iload_n dL_endow_1 rfl ?_
  refine rx_lload_n dL_endow_2 rfl ?_
  refine rx_iload dL_endow_3 rfl ?_
  refine rx_invVX (mc := 0) (ms := 0) (mc' := 8) (ms' := 2000) (as := [.int _, .long _, .int _]) hG okX10_endow ⟨⟨_, _, hc_10⟩, hw_690, hw_691, hw_689⟩ (gl_n rfl) rfl dL_endow_5 rfl (by simp [Value.category]) hX (fun v mu' h => h.elim) ?_
  rintro _ _ ⟨rfl, C', rfl, hP⟩
  refine ⟨17, caL_endow_a hN, ?_⟩
  refine rx_iconst (v := nI 2) dL_endow_17 rfl ?_
  exact rx_iret rfl dL_endow_18 ⟨rfl, C', rfl, hP⟩
theorem caL_endow_s (hN : rx_NC G) : rx_Ca G ML_endow 5 "java/lang/IllegalStateException" 21 := ⟨[⟨0, 8, 11, 25⟩, ⟨0, 8, 15, 13⟩], ⟨0, 8, 19, 19⟩, [], "java/lang/IllegalStateException", rfl, fun z hz => by rcases List.mem_cons.mp hz with rfl | hz; (exact Or.inr ⟨by decide, _, (ht_3 _ (List.mem_of_getElem? (i := 11) rfl)), hN.2.1⟩); rw [List.mem_singleton] at hz; subst hz; exact Or.inr ⟨by decide, _, (ht_2 _ (List.mem_of_getElem? (i := 83) rfl)), hN.2.2⟩, rfl, by decide, (ht_2 _ (List.mem_of_getElem? (i := 166) rfl)), hw_839, Or.inr ⟨5, dL_endow_19, by decide, rfl⟩⟩
theorem HL_endow_s {p1 : Int32} {p2 : Int64} {p3 : Int32} (hG : rx_OK G) (hN : rx_NC G) (hX : rx_X G MX10_endow d [.ref 0, .int p1, .long p2, .int p3] (gl C S) 8 2000 (fun _ _ => False) (zq C S "java/lang/IllegalStateException")) : rx_H G ML_endow hL_endow (d + 1) [.ref 0, .int p1, .long p2, .int p3] (gl C S) 8 2000 (fun v mu => v = some (.int (nI 3)) ∧ ∃ C', mu = gl C' S ∧ rc_ag C C') := by
  refine rx_methH (by decide +kernel) rfl (Nat.le_of_ble_eq_true rfl) ?_
  refine rx_aload_n dL_endow_0 rfl rfl ?_
  refine rx_iload_n dL_endow_1 rfl ?_
  refine rx_lload_n dL_endow_2 rfl ?_
  refine rx_iload dL_endow_3 rfl ?_
  refine rx_invVX (mc := 0) (ms := 0) (mc' := 8) (ms' := 2000) (as := [.int _, .long _, .int _]) hG okX10_endow ⟨⟨_, _, hc_10⟩, hw_690, hw_691, hw_689⟩ (gl_n rfl) rfl dL_endow_5 rfl (by simp [Value.category]) hX (fun v mu' h => h.elim) ?_
  rintro _ _ ⟨rfl, C', rfl, hP⟩
  refine ⟨21, caL_endow_s hN, ?_⟩
  refine rx_iconst (v := nI 3) dL_endow_21 rfl ?_
  exact rx_iret rfl dL_endow_22 ⟨rfl, C', rfl, hP⟩
theorem HL_event {p1 : Int32} {p2 : Int32} {p3 : Int32} {r : Int64} {P : rx_M → Prop} (hG : rx_OK G) (hX : rx_X G MX10_event d [.ref 0, .int p1, .int p2, .int p3] (gl C S) 8 2000 (fun v mu => v = some (.long r) ∧ ∃ C', mu = gl C' S ∧ P C') (fun _ _ => False)) : rx_H G ML_event hL_event (d + 1) [.ref 0, .int p1, .int p2, .int p3, .ref 101] (gl C S) 8 2000 (fun v mu => v = some (.int (nI 0)) ∧ ∃ C', mu = gl (C'.1, rx_u C'.2.1 101 0 r, C'.2.2) S ∧ P C') := by
  refine rx_methH (by decide +kernel) rfl (Nat.le_of_ble_eq_true rfl) ?_
  refine rx_aload dL_event_0 rfl rfl ?_
  refine rx_iconst (v := nI 0) dL_event_2 rfl ?_
  refine rx_aload_n dL_event_3 rfl rfl ?_
  refine rx_iload_n dL_event_4 rfl ?_
  refine rx_iload_n dL_event_5 rfl ?_
  refine rx_iload_n dL_event_6 rfl ?_
  refine rx_invVX (mc := 0) (ms := 0) (mc' := 8) (ms' := 2000) (as := [.int _, .int _, .int _]) hG okX10_event ⟨⟨_, _, hc_10⟩, hw_708, hw_709, hw_707⟩ (gl_n rfl) rfl dL_event_7 rfl (by simp [Value.category]) hX ?_ (fun E mu' h => h.elim)
  rintro _ _ ⟨rfl, C', rfl, hP⟩
  refine gc_last (j := 0) hG dL_event_10 rfl rfl rfl rfl (by decide) (by decide) ?_
  refine rx_goto (tgt := 18) dL_event_11 (by decide) ?_
  refine rx_iconst (v := nI 0) dL_event_18 rfl ?_
  exact rx_iret rfl dL_event_19 ⟨rfl, C', rfl, hP⟩
theorem caL_event_x (hN : rx_NC G) : rx_Ca G ML_event 7 "java/lang/IndexOutOfBoundsException" 16 := ⟨[], ⟨0, 11, 14, 25⟩, [], "java/lang/IndexOutOfBoundsException", rfl, fun z hz => absurd hz List.not_mem_nil, rfl, by decide, (ht_3 _ (List.mem_of_getElem? (i := 11) rfl)), hw_848, Or.inr ⟨5, dL_event_14, by decide, rfl⟩⟩
theorem HL_event_x {p1 : Int32} {p2 : Int32} {p3 : Int32} (hG : rx_OK G) (hN : rx_NC G) (hX : rx_X G MX10_event d [.ref 0, .int p1, .int p2, .int p3] (gl C S) 8 2000 (fun _ _ => False) (zq C S "java/lang/IndexOutOfBoundsException")) : rx_H G ML_event hL_event (d + 1) [.ref 0, .int p1, .int p2, .int p3, .ref 101] (gl C S) 8 2000 (fun v mu => v = some (.int (nI 1)) ∧ ∃ C', mu = gl C' S ∧ rc_ag C C') := by
  refine rx_methH (by decide +kernel) rfl (Nat.le_of_ble_eq_true rfl) ?_
  refine rx_aload dL_event_0 rfl rfl ?_
  refine rx_iconst (v := nI 0) dL_event_2 rfl ?_
  refine rx_aload_n dL_event_3 rfl rfl ?_
  refine rx_iload_n dL_event_4 rfl ?_
  refine rx_iload_n dL_event_5 rfl ?_
  refine rx_iload_n dL_event_6 rfl ?_
  refine rx_invVX (mc := 0) (ms := 0) (mc' := 8) (ms' := 2000) (as := [.int _, .int _, .int _]) hG okX10_event ⟨⟨_, _, hc_10⟩, hw_708, hw_709, hw_707⟩ (gl_n rfl) rfl dL_event_7 rfl (by simp [Value.category]) hX (fun v mu' h => h.elim) ?_
  rintro _ _ ⟨rfl, C', rfl, hP⟩
  refine ⟨16, caL_event_x hN, ?_⟩
  refine rx_iconst (v := nI 1) dL_event_16 rfl ?_
  exact rx_iret rfl dL_event_17 ⟨rfl, C', rfl, hP⟩
theorem HL_leaf {p1 : Int32} {p2 : Int32} {r : Int64} {P : rx_M → Prop} (hG : rx_OK G) (hX : rx_X G MX10_leaf d [.ref 0, .int p1, .int p2] (gl C S) 8 2000 (fun v mu => v = some (.long r) ∧ ∃ C', mu = gl C' S ∧ P C') (fun _ _ => False)) : rx_H G ML_leaf hL_leaf (d + 1) [.ref 0, .int p1, .int p2, .ref 101] (gl C S) 8 2000 (fun v mu => v = some (.int (nI 0)) ∧ ∃ C', mu = gl (C'.1, rx_u C'.2.1 101 0 r, C'.2.2) S ∧ P C') := by
  refine rx_methH (by decide +kernel) rfl (Nat.le_of_ble_eq_true rfl) ?_
  refine rx_aload_n dL_leaf_0 rfl rfl ?_
  refine rx_iconst (v := nI 0) dL_leaf_1 rfl ?_
  refine rx_aload_n dL_leaf_2 rfl rfl ?_
  refine rx_iload_n dL_leaf_3 rfl ?_
  refine rx_iload_n dL_leaf_4 rfl ?_
  refine rx_invVX (mc := 0) (ms := 0) (mc' := 8) (ms' := 2000) (as := [.int _, .int _]) hG okX10_leaf ⟨⟨_, _, hc_10⟩, hw_711, hw_712, hw_710⟩ (gl_n rfl) rfl dL_leaf_5 rfl (by simp [Value.category]) hX ?_ (fun E mu' h => h.elim)
  rintro _ _ ⟨rfl, C', rfl, hP⟩
  refine gc_last (j := 0) hG dL_leaf_8 rfl rfl rfl rfl (by decide) (by decide) ?_
  refine rx_goto (tgt := 16) dL_leaf_9 (by decide) ?_
  refine rx_iconst (v := nI 0) dL_leaf_16 rfl ?_
  exact rx_iret rfl dL_leaf_17 ⟨rfl, C', rfl, hP⟩
theorem caL_leaf_x (hN : rx_NC G) : rx_Ca G ML_leaf 5 "java/lang/IndexOutOfBoundsException" 14 := ⟨[], ⟨0, 9, 12, 25⟩, [], "java/lang/IndexOutOfBoundsException", rfl, fun z hz => absurd hz List.not_mem_nil, rfl, by decide, (ht_3 _ (List.mem_of_getElem? (i := 11) rfl)), hw_848, Or.inr ⟨4, dL_leaf_12, by decide, rfl⟩⟩
theorem HL_leaf_x {p1 : Int32} {p2 : Int32} (hG : rx_OK G) (hN : rx_NC G) (hX : rx_X G MX10_leaf d [.ref 0, .int p1, .int p2] (gl C S) 8 2000 (fun _ _ => False) (zq C S "java/lang/IndexOutOfBoundsException")) : rx_H G ML_leaf hL_leaf (d + 1) [.ref 0, .int p1, .int p2, .ref 101] (gl C S) 8 2000 (fun v mu => v = some (.int (nI 1)) ∧ ∃ C', mu = gl C' S ∧ rc_ag C C') := by
  refine rx_methH (by decide +kernel) rfl (Nat.le_of_ble_eq_true rfl) ?_
  refine rx_aload_n dL_leaf_0 rfl rfl ?_
  refine rx_iconst (v := nI 0) dL_leaf_1 rfl ?_
  refine rx_aload_n dL_leaf_2 rfl rfl ?_
  refine rx_iload_n dL_leaf_3 rfl ?_
  refine rx_iload_n dL_leaf_4 rfl ?_
  refine rx_invVX (mc := 0) (ms := 0) (mc' := 8) (ms' := 2000) (as := [.int _, .int _]) hG okX10_leaf ⟨⟨_, _, hc_10⟩, hw_711, hw_712, hw_710⟩ (gl_n rfl) rfl dL_leaf_5 rfl (by simp [Value.category]) hX (fun v mu' h => h.elim) ?_
  rintro _ _ ⟨rfl, C', rfl, hP⟩
  refine ⟨14, caL_leaf_x hN, ?_⟩
  refine rx_iconst (v := nI 1) dL_leaf_14 rfl ?_
  exact rx_iret rfl dL_leaf_15 ⟨rfl, C', rfl, hP⟩
theorem HL_order {p1 : Int32} {p2 : Int32} {p3 : Int64} {p4 : Int64} {p5 : Int32} {p6 : Int32} {p7 : Int32} {r : Int32} {P : rx_M → Prop} (hG : rx_OK G) (hX : rx_X G MX10_order d [.ref 0, .int p1, .int p2, .long p3, .long p4, .int p5, .int p6, .int p7] (gl C S) 8 2000 (fun v mu => v = some (.int r) ∧ ∃ C', mu = gl C' S ∧ P C') (fun _ _ => False)) : rx_H G ML_order hL_order (d + 1) [.ref 0, .int p1, .int p2, .long p3, .long p4, .int p5, .int p6, .int p7, .ref 101] (gl C S) 8 2000 (fun v mu => v = some (.int (nI 0)) ∧ ∃ C', mu = gl (C'.1, rx_u C'.2.1 101 0 r.toInt64, C'.2.2) S ∧ P C') := by
  refine rx_methH (by decide +kernel) rfl (Nat.le_of_ble_eq_true rfl) ?_
  refine rx_aload dL_order_0 rfl rfl ?_
  refine rx_iconst (v := nI 0) dL_order_2 rfl ?_
  refine rx_aload_n dL_order_3 rfl rfl ?_
  refine rx_iload_n dL_order_4 rfl ?_
  refine rx_iload_n dL_order_5 rfl ?_
  refine rx_lload_n dL_order_6 rfl ?_
  refine rx_lload dL_order_7 rfl ?_
  refine rx_iload dL_order_9 rfl ?_
  refine rx_iload dL_order_11 rfl ?_
  refine rx_iload dL_order_13 rfl ?_
  refine rx_invVX (mc := 0) (ms := 0) (mc' := 8) (ms' := 2000) (as := [.int _, .int _, .long _, .long _, .int _, .int _, .int _]) hG okX10_order ⟨⟨_, _, hc_10⟩, hw_696, hw_697, hw_695⟩ (gl_n rfl) rfl dL_order_15 rfl (by simp [Value.category]) hX ?_ (fun E mu' h => h.elim)
  rintro _ _ ⟨rfl, C', rfl, hP⟩
  refine rx_i2l dL_order_18 ?_
  refine gc_last (j := 0) hG dL_order_19 rfl rfl rfl rfl (by decide) (by decide) ?_
  refine rx_goto (tgt := 35) dL_order_20 (by decide) ?_
  refine rx_iconst (v := nI 0) dL_order_35 rfl ?_
  exact rx_iret rfl dL_order_36 ⟨rfl, C', rfl, hP⟩
theorem caL_order_x (hN : rx_NC G) : rx_Ca G ML_order 15 "java/lang/IndexOutOfBoundsException" 25 := ⟨[], ⟨0, 20, 23, 25⟩, [⟨0, 20, 27, 13⟩, ⟨0, 20, 31, 19⟩], "java/lang/IndexOutOfBoundsException", rfl, fun z hz => absurd hz List.not_mem_nil, rfl, by decide, (ht_3 _ (List.mem_of_getElem? (i := 11) rfl)), hw_848, Or.inr ⟨11, dL_order_23, by decide, rfl⟩⟩
theorem HL_order_x {p1 : Int32} {p2 : Int32} {p3 : Int64} {p4 : Int64} {p5 : Int32} {p6 : Int32} {p7 : Int32} (hG : rx_OK G) (hN : rx_NC G) (hX : rx_X G MX10_order d [.ref 0, .int p1, .int p2, .long p3, .long p4, .int p5, .int p6, .int p7] (gl C S) 8 2000 (fun _ _ => False) (zq C S "java/lang/IndexOutOfBoundsException")) : rx_H G ML_order hL_order (d + 1) [.ref 0, .int p1, .int p2, .long p3, .long p4, .int p5, .int p6, .int p7, .ref 101] (gl C S) 8 2000 (fun v mu => v = some (.int (nI 1)) ∧ ∃ C', mu = gl C' S ∧ rc_ag C C') := by
  refine rx_methH (by decide +kernel) rfl (Nat.le_of_ble_eq_true rfl) ?_
  refine rx_aload dL_order_0 rfl rfl ?_
  refine rx_iconst (v := nI 0) dL_order_2 rfl ?_
  refine rx_aload_n dL_order_3 rfl rfl ?_
  refine rx_iload_n dL_order_4 rfl ?_
  refine rx_iload_n dL_order_5 rfl ?_
  refine rx_lload_n dL_order_6 rfl ?_
  refine rx_lload dL_order_7 rfl ?_
  refine rx_iload dL_order_9 rfl ?_
  refine rx_iload dL_order_11 rfl ?_
  refine rx_iload dL_order_13 rfl ?_
  refine rx_invVX (mc := 0) (ms := 0) (mc' := 8) (ms' := 2000) (as := [.int _, .int _, .long _, .long _, .int _, .int _, .int _]) hG okX10_order ⟨⟨_, _, hc_10⟩, hw_696, hw_697, hw_695⟩ (gl_n rfl) rfl dL_order_15 rfl (by simp [Value.category]) hX (fun v mu' h => h.elim) ?_
  rintro _ _ ⟨rfl, C', rfl, hP⟩
  refine ⟨25, caL_order_x hN, ?_⟩
  refine rx_iconst (v := nI 1) dL_order_25 rfl ?_
  exact rx_iret rfl dL_order_26 ⟨rfl, C', rfl, hP⟩
theorem caL_order_a (hN : rx_NC G) : rx_Ca G ML_order 15 "java/lang/IllegalArgumentException" 29 := ⟨[⟨0, 20, 23, 25⟩], ⟨0, 20, 27, 13⟩, [⟨0, 20, 31, 19⟩], "java/lang/IllegalArgumentException", rfl, fun z hz => by rw [List.mem_singleton] at hz; subst hz; exact Or.inr ⟨by decide, _, (ht_3 _ (List.mem_of_getElem? (i := 11) rfl)), hN.1⟩, rfl, by decide, (ht_2 _ (List.mem_of_getElem? (i := 83) rfl)), hw_831, Or.inr ⟨11, dL_order_27, by decide, rfl⟩⟩
theorem HL_order_a {p1 : Int32} {p2 : Int32} {p3 : Int64} {p4 : Int64} {p5 : Int32} {p6 : Int32} {p7 : Int32} (hG : rx_OK G) (hN : rx_NC G) (hX : rx_X G MX10_order d [.ref 0, .int p1, .int p2, .long p3, .long p4, .int p5, .int p6, .int p7] (gl C S) 8 2000 (fun _ _ => False) (zq C S "java/lang/IllegalArgumentException")) : rx_H G ML_order hL_order (d + 1) [.ref 0, .int p1, .int p2, .long p3, .long p4, .int p5, .int p6, .int p7, .ref 101] (gl C S) 8 2000 (fun v mu => v = some (.int (nI 2)) ∧ ∃ C', mu = gl C' S ∧ rc_ag C C') := by
  refine rx_methH (by decide +kernel) rfl (Nat.le_of_ble_eq_true rfl) ?_
  refine rx_aload dL_order_0 rfl rfl ?_
  refine rx_iconst (v := nI 0) dL_order_2 rfl ?_
  refine rx_aload_n dL_order_3 rfl rfl ?_
  refine rx_iload_n dL_order_4 rfl ?_
  refine rx_iload_n dL_order_5 rfl ?_
  refine rx_lload_n dL_order_6 rfl ?_
  refine rx_lload dL_order_7 rfl ?_
  refine rx_iload dL_order_9 rfl ?_
  refine rx_iload dL_order_11 rfl ?_
  refine rx_iload dL_order_13 rfl ?_
  refine rx_invVX (mc := 0) (ms := 0) (mc' := 8) (ms' := 2000) (as := [.int _, .int _, .long _, .long _, .int _, .int _, .int _]) hG okX10_order ⟨⟨_, _, hc_10⟩, hw_696, hw_697, hw_695⟩ (gl_n rfl) rfl dL_order_15 rfl (by simp [Value.category]) hX (fun v mu' h => h.elim) ?_
  rintro _ _ ⟨rfl, C', rfl, hP⟩
  refine ⟨29, caL_order_a hN, ?_⟩
  refine rx_iconst (v := nI 2) dL_order_29 rfl ?_
  exact rx_iret rfl dL_order_30 ⟨rfl, C', rfl, hP⟩
theorem caL_order_s (hN : rx_NC G) : rx_Ca G ML_order 15 "java/lang/IllegalStateException" 33 := ⟨[⟨0, 20, 23, 25⟩, ⟨0, 20, 27, 13⟩], ⟨0, 20, 31, 19⟩, [], "java/lang/IllegalStateException", rfl, fun z hz => by rcases List.mem_cons.mp hz with rfl | hz; (exact Or.inr ⟨by decide, _, (ht_3 _ (List.mem_of_getElem? (i := 11) rfl)), hN.2.1⟩); rw [List.mem_singleton] at hz; subst hz; exact Or.inr ⟨by decide, _, (ht_2 _ (List.mem_of_getElem? (i := 83) rfl)), hN.2.2⟩, rfl, by decide, (ht_2 _ (List.mem_of_getElem? (i := 166) rfl)), hw_839, Or.inr ⟨11, dL_order_31, by decide, rfl⟩⟩
theorem HL_order_s {p1 : Int32} {p2 : Int32} {p3 : Int64} {p4 : Int64} {p5 : Int32} {p6 : Int32} {p7 : Int32} (hG : rx_OK G) (hN : rx_NC G) (hX : rx_X G MX10_order d [.ref 0, .int p1, .int p2, .long p3, .long p4, .int p5, .int p6, .int p7] (gl C S) 8 2000 (fun _ _ => False) (zq C S "java/lang/IllegalStateException")) : rx_H G ML_order hL_order (d + 1) [.ref 0, .int p1, .int p2, .long p3, .long p4, .int p5, .int p6, .int p7, .ref 101] (gl C S) 8 2000 (fun v mu => v = some (.int (nI 3)) ∧ ∃ C', mu = gl C' S ∧ rc_ag C C') := by
  refine rx_methH (by decide +kernel) rfl (Nat.le_of_ble_eq_true rfl) ?_
  refine rx_aload dL_order_0 rfl rfl ?_
  refine rx_iconst (v := nI 0) dL_order_2 rfl ?_
  refine rx_aload_n dL_order_3 rfl rfl ?_
  refine rx_iload_n dL_order_4 rfl ?_
  refine rx_iload_n dL_order_5 rfl ?_
  refine rx_lload_n dL_order_6 rfl ?_
  refine rx_lload dL_order_7 rfl ?_
  refine rx_iload dL_order_9 rfl ?_
  refine rx_iload dL_order_11 rfl ?_
  refine rx_iload dL_order_13 rfl ?_
  refine rx_invVX (mc := 0) (ms := 0) (mc' := 8) (ms' := 2000) (as := [.int _, .int _, .long _, .long _, .int _, .int _, .int _]) hG okX10_order ⟨⟨_, _, hc_10⟩, hw_696, hw_697, hw_695⟩ (gl_n rfl) rfl dL_order_15 rfl (by simp [Value.category]) hX (fun v mu' h => h.elim) ?_
  rintro _ _ ⟨rfl, C', rfl, hP⟩
  refine ⟨33, caL_order_s hN, ?_⟩
  refine rx_iconst (v := nI 3) dL_order_33 rfl ?_
  exact rx_iret rfl dL_order_34 ⟨rfl, C', rfl, hP⟩
theorem HL_proves {p1 : Int64} {p2 : Int32} {p3 : Int64} {r : Bool} {P : rx_M → Prop} (hG : rx_OK G) (hX : rx_X G MX10_proves d [.ref 0, .long p1, .int p2, .long p3] (gl C S) 8 2000 (fun v mu => v = some (.int (bI r)) ∧ ∃ C', mu = gl C' S ∧ P C') (fun _ _ => False)) : rx_H G ML_proves hL_proves (d + 1) [.ref 0, .long p1, .int p2, .long p3, .ref 101] (gl C S) 8 2000 (fun v mu => v = some (.int (nI 0)) ∧ ∃ C', mu = gl (C'.1, rx_u C'.2.1 101 0 (if r then 1 else 0), C'.2.2) S ∧ P C') := by
  refine rx_methH (by decide +kernel) rfl (Nat.le_of_ble_eq_true rfl) ?_
  refine rx_aload dL_proves_0 rfl rfl ?_
  refine rx_iconst (v := nI 0) dL_proves_2 rfl ?_
  refine rx_aload_n dL_proves_3 rfl rfl ?_
  refine rx_lload_n dL_proves_4 rfl ?_
  refine rx_iload_n dL_proves_5 rfl ?_
  refine rx_lload dL_proves_6 rfl ?_
  refine rx_invVX (mc := 0) (ms := 0) (mc' := 8) (ms' := 2000) (as := [.long _, .int _, .long _]) hG okX10_proves ⟨⟨_, _, hc_10⟩, hw_732, hw_733, hw_731⟩ (gl_n rfl) rfl dL_proves_8 rfl (by simp [Value.category]) hX ?_ (fun E mu' h => h.elim)
  rintro _ _ ⟨rfl, C', rfl, hP⟩
  cases r
  · refine rx_if_eq (tgt := 18) dL_proves_11 (by decide) (fun _ => ?_) (fun h => absurd rfl h)
    refine rx_lconst (v := 0) dL_proves_18 rfl ?_
    refine gc_last (j := 0) hG dL_proves_19 rfl rfl rfl rfl (by decide) (by decide) ?_
    refine rx_goto (tgt := 27) dL_proves_20 (by decide) ?_
    refine rx_iconst (v := nI 0) dL_proves_27 rfl ?_
    exact rx_iret rfl dL_proves_28 ⟨rfl, C', rfl, hP⟩
  · refine rx_if_eq (tgt := 18) dL_proves_11 (by decide) (fun h => absurd h (by decide)) (fun _ => ?_)
    refine rx_lconst (v := 1) dL_proves_14 rfl ?_
    refine rx_goto (tgt := 19) dL_proves_15 (by decide) ?_
    refine gc_last (j := 0) hG dL_proves_19 rfl rfl rfl rfl (by decide) (by decide) ?_
    refine rx_goto (tgt := 27) dL_proves_20 (by decide) ?_
    refine rx_iconst (v := nI 0) dL_proves_27 rfl ?_
    exact rx_iret rfl dL_proves_28 ⟨rfl, C', rfl, hP⟩
theorem caL_proves_x (hN : rx_NC G) : rx_Ca G ML_proves 8 "java/lang/IndexOutOfBoundsException" 25 := ⟨[], ⟨0, 20, 23, 25⟩, [], "java/lang/IndexOutOfBoundsException", rfl, fun z hz => absurd hz List.not_mem_nil, rfl, by decide, (ht_3 _ (List.mem_of_getElem? (i := 11) rfl)), hw_848, Or.inr ⟨7, dL_proves_23, by decide, rfl⟩⟩
theorem HL_proves_x {p1 : Int64} {p2 : Int32} {p3 : Int64} (hG : rx_OK G) (hN : rx_NC G) (hX : rx_X G MX10_proves d [.ref 0, .long p1, .int p2, .long p3] (gl C S) 8 2000 (fun _ _ => False) (zq C S "java/lang/IndexOutOfBoundsException")) : rx_H G ML_proves hL_proves (d + 1) [.ref 0, .long p1, .int p2, .long p3, .ref 101] (gl C S) 8 2000 (fun v mu => v = some (.int (nI 1)) ∧ ∃ C', mu = gl C' S ∧ rc_ag C C') := by
  refine rx_methH (by decide +kernel) rfl (Nat.le_of_ble_eq_true rfl) ?_
  refine rx_aload dL_proves_0 rfl rfl ?_
  refine rx_iconst (v := nI 0) dL_proves_2 rfl ?_
  refine rx_aload_n dL_proves_3 rfl rfl ?_
  refine rx_lload_n dL_proves_4 rfl ?_
  refine rx_iload_n dL_proves_5 rfl ?_
  refine rx_lload dL_proves_6 rfl ?_
  refine rx_invVX (mc := 0) (ms := 0) (mc' := 8) (ms' := 2000) (as := [.long _, .int _, .long _]) hG okX10_proves ⟨⟨_, _, hc_10⟩, hw_732, hw_733, hw_731⟩ (gl_n rfl) rfl dL_proves_8 rfl (by simp [Value.category]) hX (fun v mu' h => h.elim) ?_
  rintro _ _ ⟨rfl, C', rfl, hP⟩
  refine ⟨25, caL_proves_x hN, ?_⟩
  refine rx_iconst (v := nI 1) dL_proves_25 rfl ?_
  exact rx_iret rfl dL_proves_26 ⟨rfl, C', rfl, hP⟩
theorem HL_receipt {p1 : Int32} {p2 : Int32} {p3 : Int32} {r : Int64} {P : rx_M → Prop} (hG : rx_OK G) (hX : rx_X G MX10_receipt d [.ref 0, .int p1, .int p2, .int p3] (gl C S) 8 2000 (fun v mu => v = some (.long r) ∧ ∃ C', mu = gl C' S ∧ P C') (fun _ _ => False)) : rx_H G ML_receipt hL_receipt (d + 1) [.ref 0, .int p1, .int p2, .int p3, .ref 101] (gl C S) 8 2000 (fun v mu => v = some (.int (nI 0)) ∧ ∃ C', mu = gl (C'.1, rx_u C'.2.1 101 0 r, C'.2.2) S ∧ P C') := by
  refine rx_methH (by decide +kernel) rfl (Nat.le_of_ble_eq_true rfl) ?_
  refine rx_aload dL_receipt_0 rfl rfl ?_
  refine rx_iconst (v := nI 0) dL_receipt_2 rfl ?_
  refine rx_aload_n dL_receipt_3 rfl rfl ?_
  refine rx_iload_n dL_receipt_4 rfl ?_
  refine rx_iload_n dL_receipt_5 rfl ?_
  refine rx_iload_n dL_receipt_6 rfl ?_
  refine rx_invVX (mc := 0) (ms := 0) (mc' := 8) (ms' := 2000) (as := [.int _, .int _, .int _]) hG okX10_receipt ⟨⟨_, _, hc_10⟩, hw_705, hw_706, hw_704⟩ (gl_n rfl) rfl dL_receipt_7 rfl (by simp [Value.category]) hX ?_ (fun E mu' h => h.elim)
  rintro _ _ ⟨rfl, C', rfl, hP⟩
  refine gc_last (j := 0) hG dL_receipt_10 rfl rfl rfl rfl (by decide) (by decide) ?_
  refine rx_goto (tgt := 18) dL_receipt_11 (by decide) ?_
  refine rx_iconst (v := nI 0) dL_receipt_18 rfl ?_
  exact rx_iret rfl dL_receipt_19 ⟨rfl, C', rfl, hP⟩
theorem caL_receipt_x (hN : rx_NC G) : rx_Ca G ML_receipt 7 "java/lang/IndexOutOfBoundsException" 16 := ⟨[], ⟨0, 11, 14, 25⟩, [], "java/lang/IndexOutOfBoundsException", rfl, fun z hz => absurd hz List.not_mem_nil, rfl, by decide, (ht_3 _ (List.mem_of_getElem? (i := 11) rfl)), hw_848, Or.inr ⟨5, dL_receipt_14, by decide, rfl⟩⟩
theorem HL_receipt_x {p1 : Int32} {p2 : Int32} {p3 : Int32} (hG : rx_OK G) (hN : rx_NC G) (hX : rx_X G MX10_receipt d [.ref 0, .int p1, .int p2, .int p3] (gl C S) 8 2000 (fun _ _ => False) (zq C S "java/lang/IndexOutOfBoundsException")) : rx_H G ML_receipt hL_receipt (d + 1) [.ref 0, .int p1, .int p2, .int p3, .ref 101] (gl C S) 8 2000 (fun v mu => v = some (.int (nI 1)) ∧ ∃ C', mu = gl C' S ∧ rc_ag C C') := by
  refine rx_methH (by decide +kernel) rfl (Nat.le_of_ble_eq_true rfl) ?_
  refine rx_aload dL_receipt_0 rfl rfl ?_
  refine rx_iconst (v := nI 0) dL_receipt_2 rfl ?_
  refine rx_aload_n dL_receipt_3 rfl rfl ?_
  refine rx_iload_n dL_receipt_4 rfl ?_
  refine rx_iload_n dL_receipt_5 rfl ?_
  refine rx_iload_n dL_receipt_6 rfl ?_
  refine rx_invVX (mc := 0) (ms := 0) (mc' := 8) (ms' := 2000) (as := [.int _, .int _, .int _]) hG okX10_receipt ⟨⟨_, _, hc_10⟩, hw_705, hw_706, hw_704⟩ (gl_n rfl) rfl dL_receipt_7 rfl (by simp [Value.category]) hX (fun v mu' h => h.elim) ?_
  rintro _ _ ⟨rfl, C', rfl, hP⟩
  refine ⟨16, caL_receipt_x hN, ?_⟩
  refine rx_iconst (v := nI 1) dL_receipt_16 rfl ?_
  exact rx_iret rfl dL_receipt_17 ⟨rfl, C', rfl, hP⟩
theorem HL_seen {p1 : Int32} {r : Int32} {P : rx_M → Prop} (hG : rx_OK G) (hX : rx_X G MX10_seen d [.ref 0, .int p1] (gl C S) 8 2000 (fun v mu => v = some (.int r) ∧ ∃ C', mu = gl C' S ∧ P C') (fun _ _ => False)) : rx_H G ML_seen hL_seen (d + 1) [.ref 0, .int p1, .ref 101] (gl C S) 8 2000 (fun v mu => v = some (.int (nI 0)) ∧ ∃ C', mu = gl (C'.1, rx_u C'.2.1 101 0 r.toInt64, C'.2.2) S ∧ P C') := by
  refine rx_methH (by decide +kernel) rfl (Nat.le_of_ble_eq_true rfl) ?_
  refine rx_aload_n dL_seen_0 rfl rfl ?_
  refine rx_iconst (v := nI 0) dL_seen_1 rfl ?_
  refine rx_aload_n dL_seen_2 rfl rfl ?_
  refine rx_iload_n dL_seen_3 rfl ?_
  refine rx_invVX (mc := 0) (ms := 0) (mc' := 8) (ms' := 2000) (as := [.int _]) hG okX10_seen ⟨⟨_, _, hc_10⟩, hw_720, hw_721, hw_719⟩ (gl_n rfl) rfl dL_seen_4 rfl (by simp [Value.category]) hX ?_ (fun E mu' h => h.elim)
  rintro _ _ ⟨rfl, C', rfl, hP⟩
  refine rx_i2l dL_seen_7 ?_
  refine gc_last (j := 0) hG dL_seen_8 rfl rfl rfl rfl (by decide) (by decide) ?_
  refine rx_goto (tgt := 15) dL_seen_9 (by decide) ?_
  refine rx_iconst (v := nI 0) dL_seen_15 rfl ?_
  exact rx_iret rfl dL_seen_16 ⟨rfl, C', rfl, hP⟩
theorem caL_seen_x (hN : rx_NC G) : rx_Ca G ML_seen 4 "java/lang/IndexOutOfBoundsException" 13 := ⟨[], ⟨0, 9, 12, 25⟩, [], "java/lang/IndexOutOfBoundsException", rfl, fun z hz => absurd hz List.not_mem_nil, rfl, by decide, (ht_3 _ (List.mem_of_getElem? (i := 11) rfl)), hw_848, Or.inl ⟨3, dL_seen_12, by decide, rfl⟩⟩
theorem HL_seen_x {p1 : Int32} (hG : rx_OK G) (hN : rx_NC G) (hX : rx_X G MX10_seen d [.ref 0, .int p1] (gl C S) 8 2000 (fun _ _ => False) (zq C S "java/lang/IndexOutOfBoundsException")) : rx_H G ML_seen hL_seen (d + 1) [.ref 0, .int p1, .ref 101] (gl C S) 8 2000 (fun v mu => v = some (.int (nI 1)) ∧ ∃ C', mu = gl C' S ∧ rc_ag C C') := by
  refine rx_methH (by decide +kernel) rfl (Nat.le_of_ble_eq_true rfl) ?_
  refine rx_aload_n dL_seen_0 rfl rfl ?_
  refine rx_iconst (v := nI 0) dL_seen_1 rfl ?_
  refine rx_aload_n dL_seen_2 rfl rfl ?_
  refine rx_iload_n dL_seen_3 rfl ?_
  refine rx_invVX (mc := 0) (ms := 0) (mc' := 8) (ms' := 2000) (as := [.int _]) hG okX10_seen ⟨⟨_, _, hc_10⟩, hw_720, hw_721, hw_719⟩ (gl_n rfl) rfl dL_seen_4 rfl (by simp [Value.category]) hX (fun v mu' h => h.elim) ?_
  rintro _ _ ⟨rfl, C', rfl, hP⟩
  refine ⟨13, caL_seen_x hN, ?_⟩
  refine rx_iconst (v := nI 1) dL_seen_13 rfl ?_
  exact rx_iret rfl dL_seen_14 ⟨rfl, C', rfl, hP⟩
theorem HL_told {p1 : Int32} {p2 : Int32} {r : Int32} {P : rx_M → Prop} (hG : rx_OK G) (hX : rx_X G MX10_told d [.ref 0, .int p1, .int p2] (gl C S) 8 2000 (fun v mu => v = some (.int r) ∧ ∃ C', mu = gl C' S ∧ P C') (fun _ _ => False)) : rx_H G ML_told hL_told (d + 1) [.ref 0, .int p1, .int p2, .ref 101] (gl C S) 8 2000 (fun v mu => v = some (.int (nI 0)) ∧ ∃ C', mu = gl (C'.1, rx_u C'.2.1 101 0 r.toInt64, C'.2.2) S ∧ P C') := by
  refine rx_methH (by decide +kernel) rfl (Nat.le_of_ble_eq_true rfl) ?_
  refine rx_aload_n dL_told_0 rfl rfl ?_
  refine rx_iconst (v := nI 0) dL_told_1 rfl ?_
  refine rx_aload_n dL_told_2 rfl rfl ?_
  refine rx_iload_n dL_told_3 rfl ?_
  refine rx_iload_n dL_told_4 rfl ?_
  refine rx_invVX (mc := 0) (ms := 0) (mc' := 8) (ms' := 2000) (as := [.int _, .int _]) hG okX10_told ⟨⟨_, _, hc_10⟩, hw_702, hw_703, hw_701⟩ (gl_n rfl) rfl dL_told_5 rfl (by simp [Value.category]) hX ?_ (fun E mu' h => h.elim)
  rintro _ _ ⟨rfl, C', rfl, hP⟩
  refine rx_i2l dL_told_8 ?_
  refine gc_last (j := 0) hG dL_told_9 rfl rfl rfl rfl (by decide) (by decide) ?_
  refine rx_goto (tgt := 17) dL_told_10 (by decide) ?_
  refine rx_iconst (v := nI 0) dL_told_17 rfl ?_
  exact rx_iret rfl dL_told_18 ⟨rfl, C', rfl, hP⟩
theorem caL_told_x (hN : rx_NC G) : rx_Ca G ML_told 5 "java/lang/IndexOutOfBoundsException" 15 := ⟨[], ⟨0, 10, 13, 25⟩, [], "java/lang/IndexOutOfBoundsException", rfl, fun z hz => absurd hz List.not_mem_nil, rfl, by decide, (ht_3 _ (List.mem_of_getElem? (i := 11) rfl)), hw_848, Or.inr ⟨4, dL_told_13, by decide, rfl⟩⟩
theorem HL_told_x {p1 : Int32} {p2 : Int32} (hG : rx_OK G) (hN : rx_NC G) (hX : rx_X G MX10_told d [.ref 0, .int p1, .int p2] (gl C S) 8 2000 (fun _ _ => False) (zq C S "java/lang/IndexOutOfBoundsException")) : rx_H G ML_told hL_told (d + 1) [.ref 0, .int p1, .int p2, .ref 101] (gl C S) 8 2000 (fun v mu => v = some (.int (nI 1)) ∧ ∃ C', mu = gl C' S ∧ rc_ag C C') := by
  refine rx_methH (by decide +kernel) rfl (Nat.le_of_ble_eq_true rfl) ?_
  refine rx_aload_n dL_told_0 rfl rfl ?_
  refine rx_iconst (v := nI 0) dL_told_1 rfl ?_
  refine rx_aload_n dL_told_2 rfl rfl ?_
  refine rx_iload_n dL_told_3 rfl ?_
  refine rx_iload_n dL_told_4 rfl ?_
  refine rx_invVX (mc := 0) (ms := 0) (mc' := 8) (ms' := 2000) (as := [.int _, .int _]) hG okX10_told ⟨⟨_, _, hc_10⟩, hw_702, hw_703, hw_701⟩ (gl_n rfl) rfl dL_told_5 rfl (by simp [Value.category]) hX (fun v mu' h => h.elim) ?_
  rintro _ _ ⟨rfl, C', rfl, hP⟩
  refine ⟨15, caL_told_x hN, ?_⟩
  refine rx_iconst (v := nI 1) dL_told_15 rfl ?_
  exact rx_iret rfl dL_told_16 ⟨rfl, C', rfl, hP⟩
theorem HL_view {p1 : Int32} {p2 : Int32} {p3 : Int32} {p4 : Int64} {p5 : Int32} {r : Int64} {P : rx_M → Prop} (hG : rx_OK G) (hX : rx_X G MX10_view d [.ref 0, .int p1, .int p2, .int p3, .long p4, .int p5] (gl C S) 8 2000 (fun v mu => v = some (.long r) ∧ ∃ C', mu = gl C' S ∧ P C') (fun _ _ => False)) : rx_H G ML_view hL_view (d + 1) [.ref 0, .int p1, .int p2, .int p3, .long p4, .int p5, .ref 101] (gl C S) 8 2000 (fun v mu => v = some (.int (nI 0)) ∧ ∃ C', mu = gl (C'.1, rx_u C'.2.1 101 0 r, C'.2.2) S ∧ P C') := by
  refine rx_methH (by decide +kernel) rfl (Nat.le_of_ble_eq_true rfl) ?_
  refine rx_aload dL_view_0 rfl rfl ?_
  refine rx_iconst (v := nI 0) dL_view_2 rfl ?_
  refine rx_aload_n dL_view_3 rfl rfl ?_
  refine rx_iload_n dL_view_4 rfl ?_
  refine rx_iload_n dL_view_5 rfl ?_
  refine rx_iload_n dL_view_6 rfl ?_
  refine rx_lload dL_view_7 rfl ?_
  refine rx_iload dL_view_9 rfl ?_
  refine rx_invVX (mc := 0) (ms := 0) (mc' := 8) (ms' := 2000) (as := [.int _, .int _, .int _, .long _, .int _]) hG okX10_view ⟨⟨_, _, hc_10⟩, hw_717, hw_718, hw_716⟩ (gl_n rfl) rfl dL_view_11 rfl (by simp [Value.category]) hX ?_ (fun E mu' h => h.elim)
  rintro _ _ ⟨rfl, C', rfl, hP⟩
  refine gc_last (j := 0) hG dL_view_14 rfl rfl rfl rfl (by decide) (by decide) ?_
  refine rx_goto (tgt := 26) dL_view_15 (by decide) ?_
  refine rx_iconst (v := nI 0) dL_view_26 rfl ?_
  exact rx_iret rfl dL_view_27 ⟨rfl, C', rfl, hP⟩
theorem caL_view_x (hN : rx_NC G) : rx_Ca G ML_view 11 "java/lang/IndexOutOfBoundsException" 20 := ⟨[], ⟨0, 15, 18, 25⟩, [⟨0, 15, 22, 13⟩], "java/lang/IndexOutOfBoundsException", rfl, fun z hz => absurd hz List.not_mem_nil, rfl, by decide, (ht_3 _ (List.mem_of_getElem? (i := 11) rfl)), hw_848, Or.inr ⟨8, dL_view_18, by decide, rfl⟩⟩
theorem HL_view_x {p1 : Int32} {p2 : Int32} {p3 : Int32} {p4 : Int64} {p5 : Int32} (hG : rx_OK G) (hN : rx_NC G) (hX : rx_X G MX10_view d [.ref 0, .int p1, .int p2, .int p3, .long p4, .int p5] (gl C S) 8 2000 (fun _ _ => False) (zq C S "java/lang/IndexOutOfBoundsException")) : rx_H G ML_view hL_view (d + 1) [.ref 0, .int p1, .int p2, .int p3, .long p4, .int p5, .ref 101] (gl C S) 8 2000 (fun v mu => v = some (.int (nI 1)) ∧ ∃ C', mu = gl C' S ∧ rc_ag C C') := by
  refine rx_methH (by decide +kernel) rfl (Nat.le_of_ble_eq_true rfl) ?_
  refine rx_aload dL_view_0 rfl rfl ?_
  refine rx_iconst (v := nI 0) dL_view_2 rfl ?_
  refine rx_aload_n dL_view_3 rfl rfl ?_
  refine rx_iload_n dL_view_4 rfl ?_
  refine rx_iload_n dL_view_5 rfl ?_
  refine rx_iload_n dL_view_6 rfl ?_
  refine rx_lload dL_view_7 rfl ?_
  refine rx_iload dL_view_9 rfl ?_
  refine rx_invVX (mc := 0) (ms := 0) (mc' := 8) (ms' := 2000) (as := [.int _, .int _, .int _, .long _, .int _]) hG okX10_view ⟨⟨_, _, hc_10⟩, hw_717, hw_718, hw_716⟩ (gl_n rfl) rfl dL_view_11 rfl (by simp [Value.category]) hX (fun v mu' h => h.elim) ?_
  rintro _ _ ⟨rfl, C', rfl, hP⟩
  refine ⟨20, caL_view_x hN, ?_⟩
  refine rx_iconst (v := nI 1) dL_view_20 rfl ?_
  exact rx_iret rfl dL_view_21 ⟨rfl, C', rfl, hP⟩
theorem caL_view_a (hN : rx_NC G) : rx_Ca G ML_view 11 "java/lang/IllegalArgumentException" 24 := ⟨[⟨0, 15, 18, 25⟩], ⟨0, 15, 22, 13⟩, [], "java/lang/IllegalArgumentException", rfl, fun z hz => by rw [List.mem_singleton] at hz; subst hz; exact Or.inr ⟨by decide, _, (ht_3 _ (List.mem_of_getElem? (i := 11) rfl)), hN.1⟩, rfl, by decide, (ht_2 _ (List.mem_of_getElem? (i := 83) rfl)), hw_831, Or.inr ⟨8, dL_view_22, by decide, rfl⟩⟩
theorem HL_view_a {p1 : Int32} {p2 : Int32} {p3 : Int32} {p4 : Int64} {p5 : Int32} (hG : rx_OK G) (hN : rx_NC G) (hX : rx_X G MX10_view d [.ref 0, .int p1, .int p2, .int p3, .long p4, .int p5] (gl C S) 8 2000 (fun _ _ => False) (zq C S "java/lang/IllegalArgumentException")) : rx_H G ML_view hL_view (d + 1) [.ref 0, .int p1, .int p2, .int p3, .long p4, .int p5, .ref 101] (gl C S) 8 2000 (fun v mu => v = some (.int (nI 2)) ∧ ∃ C', mu = gl C' S ∧ rc_ag C C') := by
  refine rx_methH (by decide +kernel) rfl (Nat.le_of_ble_eq_true rfl) ?_
  refine rx_aload dL_view_0 rfl rfl ?_
  refine rx_iconst (v := nI 0) dL_view_2 rfl ?_
  refine rx_aload_n dL_view_3 rfl rfl ?_
  refine rx_iload_n dL_view_4 rfl ?_
  refine rx_iload_n dL_view_5 rfl ?_
  refine rx_iload_n dL_view_6 rfl ?_
  refine rx_lload dL_view_7 rfl ?_
  refine rx_iload dL_view_9 rfl ?_
  refine rx_invVX (mc := 0) (ms := 0) (mc' := 8) (ms' := 2000) (as := [.int _, .int _, .int _, .long _, .int _]) hG okX10_view ⟨⟨_, _, hc_10⟩, hw_717, hw_718, hw_716⟩ (gl_n rfl) rfl dL_view_11 rfl (by simp [Value.category]) hX (fun v mu' h => h.elim) ?_
  rintro _ _ ⟨rfl, C', rfl, hP⟩
  refine ⟨24, caL_view_a hN, ?_⟩
  refine rx_iconst (v := nI 2) dL_view_24 rfl ?_
  exact rx_iret rfl dL_view_25 ⟨rfl, C', rfl, hP⟩
theorem HL_vote {p1 : Int32} {p2 : Int32} {r : Int32} {P : rx_M → Prop} (hG : rx_OK G) (hX : rx_X G MX10_vote d [.ref 0, .int p1, .int p2] (gl C S) 8 2000 (fun v mu => v = some (.int r) ∧ ∃ C', mu = gl C' S ∧ P C') (fun _ _ => False)) : rx_H G ML_vote hL_vote (d + 1) [.ref 0, .int p1, .int p2, .ref 101] (gl C S) 8 2000 (fun v mu => v = some (.int (nI 0)) ∧ ∃ C', mu = gl (C'.1, rx_u C'.2.1 101 0 r.toInt64, C'.2.2) S ∧ P C') := by
  refine rx_methH (by decide +kernel) rfl (Nat.le_of_ble_eq_true rfl) ?_
  refine rx_aload_n dL_vote_0 rfl rfl ?_
  refine rx_iconst (v := nI 0) dL_vote_1 rfl ?_
  refine rx_aload_n dL_vote_2 rfl rfl ?_
  refine rx_iload_n dL_vote_3 rfl ?_
  refine rx_iload_n dL_vote_4 rfl ?_
  refine rx_invVX (mc := 0) (ms := 0) (mc' := 8) (ms' := 2000) (as := [.int _, .int _]) hG okX10_vote ⟨⟨_, _, hc_10⟩, hw_723, hw_724, hw_722⟩ (gl_n rfl) rfl dL_vote_5 rfl (by simp [Value.category]) hX ?_ (fun E mu' h => h.elim)
  rintro _ _ ⟨rfl, C', rfl, hP⟩
  refine rx_i2l dL_vote_8 ?_
  refine gc_last (j := 0) hG dL_vote_9 rfl rfl rfl rfl (by decide) (by decide) ?_
  refine rx_goto (tgt := 17) dL_vote_10 (by decide) ?_
  refine rx_iconst (v := nI 0) dL_vote_17 rfl ?_
  exact rx_iret rfl dL_vote_18 ⟨rfl, C', rfl, hP⟩
theorem caL_vote_x (hN : rx_NC G) : rx_Ca G ML_vote 5 "java/lang/IndexOutOfBoundsException" 15 := ⟨[], ⟨0, 10, 13, 25⟩, [], "java/lang/IndexOutOfBoundsException", rfl, fun z hz => absurd hz List.not_mem_nil, rfl, by decide, (ht_3 _ (List.mem_of_getElem? (i := 11) rfl)), hw_848, Or.inr ⟨4, dL_vote_13, by decide, rfl⟩⟩
theorem HL_vote_x {p1 : Int32} {p2 : Int32} (hG : rx_OK G) (hN : rx_NC G) (hX : rx_X G MX10_vote d [.ref 0, .int p1, .int p2] (gl C S) 8 2000 (fun _ _ => False) (zq C S "java/lang/IndexOutOfBoundsException")) : rx_H G ML_vote hL_vote (d + 1) [.ref 0, .int p1, .int p2, .ref 101] (gl C S) 8 2000 (fun v mu => v = some (.int (nI 1)) ∧ ∃ C', mu = gl C' S ∧ rc_ag C C') := by
  refine rx_methH (by decide +kernel) rfl (Nat.le_of_ble_eq_true rfl) ?_
  refine rx_aload_n dL_vote_0 rfl rfl ?_
  refine rx_iconst (v := nI 0) dL_vote_1 rfl ?_
  refine rx_aload_n dL_vote_2 rfl rfl ?_
  refine rx_iload_n dL_vote_3 rfl ?_
  refine rx_iload_n dL_vote_4 rfl ?_
  refine rx_invVX (mc := 0) (ms := 0) (mc' := 8) (ms' := 2000) (as := [.int _, .int _]) hG okX10_vote ⟨⟨_, _, hc_10⟩, hw_723, hw_724, hw_722⟩ (gl_n rfl) rfl dL_vote_5 rfl (by simp [Value.category]) hX (fun v mu' h => h.elim) ?_
  rintro _ _ ⟨rfl, C', rfl, hP⟩
  refine ⟨15, caL_vote_x hN, ?_⟩
  refine rx_iconst (v := nI 1) dL_vote_15 rfl ?_
  exact rx_iret rfl dL_vote_16 ⟨rfl, C', rfl, hP⟩
theorem HL_weight {p1 : Int32} {p2 : Int32}  {P : rx_M → Prop} (hG : rx_OK G) (hX : rx_X G MX10_weight d [.ref 0, .int p1, .int p2] (gl C S) 8 2000 (fun v mu => v = none ∧ ∃ C', mu = gl C' S ∧ P C') (fun _ _ => False)) : rx_H G ML_weight hL_weight (d + 1) [.ref 0, .int p1, .int p2] (gl C S) 8 2000 (fun v mu => v = some (.int (nI 0)) ∧ ∃ C', mu = gl C' S ∧ P C') := by
  refine rx_methH (by decide +kernel) rfl (Nat.le_of_ble_eq_true rfl) ?_
  refine rx_aload_n dL_weight_0 rfl rfl ?_
  refine rx_iload_n dL_weight_1 rfl ?_
  refine rx_iload_n dL_weight_2 rfl ?_
  refine rx_invVX (mc := 0) (ms := 0) (mc' := 8) (ms' := 2000) (as := [.int _, .int _]) hG okX10_weight ⟨⟨_, _, hc_10⟩, hw_693, hw_694, hw_692⟩ (gl_n rfl) rfl dL_weight_3 rfl (by simp [Value.category]) hX ?_ (fun E mu' h => h.elim)
  rintro _ _ ⟨rfl, C', rfl, hP⟩
  refine rx_goto (tgt := 18) dL_weight_6 (by decide) ?_
  refine rx_iconst (v := nI 0) dL_weight_18 rfl ?_
  exact rx_iret rfl dL_weight_19 ⟨rfl, C', rfl, hP⟩
theorem caL_weight_x (hN : rx_NC G) : rx_Ca G ML_weight 3 "java/lang/IndexOutOfBoundsException" 10 := ⟨[], ⟨0, 6, 9, 25⟩, [⟨0, 6, 12, 13⟩, ⟨0, 6, 15, 19⟩], "java/lang/IndexOutOfBoundsException", rfl, fun z hz => absurd hz List.not_mem_nil, rfl, by decide, (ht_3 _ (List.mem_of_getElem? (i := 11) rfl)), hw_848, Or.inl ⟨3, dL_weight_9, by decide, rfl⟩⟩
theorem HL_weight_x {p1 : Int32} {p2 : Int32} (hG : rx_OK G) (hN : rx_NC G) (hX : rx_X G MX10_weight d [.ref 0, .int p1, .int p2] (gl C S) 8 2000 (fun _ _ => False) (zq C S "java/lang/IndexOutOfBoundsException")) : rx_H G ML_weight hL_weight (d + 1) [.ref 0, .int p1, .int p2] (gl C S) 8 2000 (fun v mu => v = some (.int (nI 1)) ∧ ∃ C', mu = gl C' S ∧ rc_ag C C') := by
  refine rx_methH (by decide +kernel) rfl (Nat.le_of_ble_eq_true rfl) ?_
  refine rx_aload_n dL_weight_0 rfl rfl ?_
  refine rx_iload_n dL_weight_1 rfl ?_
  refine rx_iload_n dL_weight_2 rfl ?_
  refine rx_invVX (mc := 0) (ms := 0) (mc' := 8) (ms' := 2000) (as := [.int _, .int _]) hG okX10_weight ⟨⟨_, _, hc_10⟩, hw_693, hw_694, hw_692⟩ (gl_n rfl) rfl dL_weight_3 rfl (by simp [Value.category]) hX (fun v mu' h => h.elim) ?_
  rintro _ _ ⟨rfl, C', rfl, hP⟩
  refine ⟨10, caL_weight_x hN, ?_⟩
  refine rx_iconst (v := nI 1) dL_weight_10 rfl ?_
  exact rx_iret rfl dL_weight_11 ⟨rfl, C', rfl, hP⟩
theorem caL_weight_a (hN : rx_NC G) : rx_Ca G ML_weight 3 "java/lang/IllegalArgumentException" 13 := ⟨[⟨0, 6, 9, 25⟩], ⟨0, 6, 12, 13⟩, [⟨0, 6, 15, 19⟩], "java/lang/IllegalArgumentException", rfl, fun z hz => by rw [List.mem_singleton] at hz; subst hz; exact Or.inr ⟨by decide, _, (ht_3 _ (List.mem_of_getElem? (i := 11) rfl)), hN.1⟩, rfl, by decide, (ht_2 _ (List.mem_of_getElem? (i := 83) rfl)), hw_831, Or.inl ⟨3, dL_weight_12, by decide, rfl⟩⟩
theorem HL_weight_a {p1 : Int32} {p2 : Int32} (hG : rx_OK G) (hN : rx_NC G) (hX : rx_X G MX10_weight d [.ref 0, .int p1, .int p2] (gl C S) 8 2000 (fun _ _ => False) (zq C S "java/lang/IllegalArgumentException")) : rx_H G ML_weight hL_weight (d + 1) [.ref 0, .int p1, .int p2] (gl C S) 8 2000 (fun v mu => v = some (.int (nI 2)) ∧ ∃ C', mu = gl C' S ∧ rc_ag C C') := by
  refine rx_methH (by decide +kernel) rfl (Nat.le_of_ble_eq_true rfl) ?_
  refine rx_aload_n dL_weight_0 rfl rfl ?_
  refine rx_iload_n dL_weight_1 rfl ?_
  refine rx_iload_n dL_weight_2 rfl ?_
  refine rx_invVX (mc := 0) (ms := 0) (mc' := 8) (ms' := 2000) (as := [.int _, .int _]) hG okX10_weight ⟨⟨_, _, hc_10⟩, hw_693, hw_694, hw_692⟩ (gl_n rfl) rfl dL_weight_3 rfl (by simp [Value.category]) hX (fun v mu' h => h.elim) ?_
  rintro _ _ ⟨rfl, C', rfl, hP⟩
  refine ⟨13, caL_weight_a hN, ?_⟩
  refine rx_iconst (v := nI 2) dL_weight_13 rfl ?_
  exact rx_iret rfl dL_weight_14 ⟨rfl, C', rfl, hP⟩
theorem caL_weight_s (hN : rx_NC G) : rx_Ca G ML_weight 3 "java/lang/IllegalStateException" 16 := ⟨[⟨0, 6, 9, 25⟩, ⟨0, 6, 12, 13⟩], ⟨0, 6, 15, 19⟩, [], "java/lang/IllegalStateException", rfl, fun z hz => by rcases List.mem_cons.mp hz with rfl | hz; (exact Or.inr ⟨by decide, _, (ht_3 _ (List.mem_of_getElem? (i := 11) rfl)), hN.2.1⟩); rw [List.mem_singleton] at hz; subst hz; exact Or.inr ⟨by decide, _, (ht_2 _ (List.mem_of_getElem? (i := 83) rfl)), hN.2.2⟩, rfl, by decide, (ht_2 _ (List.mem_of_getElem? (i := 166) rfl)), hw_839, Or.inl ⟨3, dL_weight_15, by decide, rfl⟩⟩
theorem HL_weight_s {p1 : Int32} {p2 : Int32} (hG : rx_OK G) (hN : rx_NC G) (hX : rx_X G MX10_weight d [.ref 0, .int p1, .int p2] (gl C S) 8 2000 (fun _ _ => False) (zq C S "java/lang/IllegalStateException")) : rx_H G ML_weight hL_weight (d + 1) [.ref 0, .int p1, .int p2] (gl C S) 8 2000 (fun v mu => v = some (.int (nI 3)) ∧ ∃ C', mu = gl C' S ∧ rc_ag C C') := by
  refine rx_methH (by decide +kernel) rfl (Nat.le_of_ble_eq_true rfl) ?_
  refine rx_aload_n dL_weight_0 rfl rfl ?_
  refine rx_iload_n dL_weight_1 rfl ?_
  refine rx_iload_n dL_weight_2 rfl ?_
  refine rx_invVX (mc := 0) (ms := 0) (mc' := 8) (ms' := 2000) (as := [.int _, .int _]) hG okX10_weight ⟨⟨_, _, hc_10⟩, hw_693, hw_694, hw_692⟩ (gl_n rfl) rfl dL_weight_3 rfl (by simp [Value.category]) hX (fun v mu' h => h.elim) ?_
  rintro _ _ ⟨rfl, C', rfl, hP⟩
  refine ⟨16, caL_weight_s hN, ?_⟩
  refine rx_iconst (v := nI 3) dL_weight_16 rfl ?_
  exact rx_iret rfl dL_weight_17 ⟨rfl, C', rfl, hP⟩
end HFACE

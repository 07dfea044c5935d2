theorem dX10_isBlock_0 : decode cX10_isBlock 0 = .ok (.iload_n 1, 1) := by decide +kernel
theorem dX10_isBlock_1 : decode cX10_isBlock 1 = .ok (.i2l, 1) := by decide +kernel
theorem dX10_isBlock_2 : decode cX10_isBlock 2 = .ok (.aload_n 0, 1) := by decide +kernel
theorem dX10_isBlock_3 : decode cX10_isBlock 3 = .ok (.getfield 38, 3) := by decide +kernel
theorem dX10_isBlock_6 : decode cX10_isBlock 6 = .ok (.invokestatic 127, 3) := by decide +kernel
theorem dX10_isBlock_9 : decode cX10_isBlock 9 = .ok (.ireturn, 1) := by decide +kernel
theorem dX10_isCertain_0 : decode cX10_isCertain 0 = .ok (.iload_n 1, 1) := by decide +kernel
theorem dX10_isCertain_1 : decode cX10_isCertain 1 = .ok (.ifCond .ne 5, 3) := by decide +kernel
theorem dX10_isCertain_4 : decode cX10_isCertain 4 = .ok (.iconst 1, 1) := by decide +kernel
theorem dX10_isCertain_5 : decode cX10_isCertain 5 = .ok (.ireturn, 1) := by decide +kernel
theorem dX10_isCertain_6 : decode cX10_isCertain 6 = .ok (.iconst 0, 1) := by decide +kernel
theorem dX10_isCertain_7 : decode cX10_isCertain 7 = .ok (.istore_n 2, 1) := by decide +kernel
theorem dX10_isCertain_8 : decode cX10_isCertain 8 = .ok (.iconst 0, 1) := by decide +kernel
theorem dX10_isCertain_9 : decode cX10_isCertain 9 = .ok (.istore_n 3, 1) := by decide +kernel
theorem dX10_isCertain_10 : decode cX10_isCertain 10 = .ok (.iload_n 3, 1) := by decide +kernel
theorem dX10_isCertain_11 : decode cX10_isCertain 11 = .ok (.bipush 7, 2) := by decide +kernel
theorem dX10_isCertain_13 : decode cX10_isCertain 13 = .ok (.if_icmp .ge 18, 3) := by decide +kernel
theorem dX10_isCertain_16 : decode cX10_isCertain 16 = .ok (.iload_n 2, 1) := by decide +kernel
theorem dX10_isCertain_17 : decode cX10_isCertain 17 = .ok (.aload_n 0, 1) := by decide +kernel
theorem dX10_isCertain_18 : decode cX10_isCertain 18 = .ok (.getfield 42, 3) := by decide +kernel
theorem dX10_isCertain_21 : decode cX10_isCertain 21 = .ok (.iload_n 3, 1) := by decide +kernel
theorem dX10_isCertain_22 : decode cX10_isCertain 22 = .ok (.iaload, 1) := by decide +kernel
theorem dX10_isCertain_23 : decode cX10_isCertain 23 = .ok (.iadd, 1) := by decide +kernel
theorem dX10_isCertain_24 : decode cX10_isCertain 24 = .ok (.istore_n 2, 1) := by decide +kernel
theorem dX10_isCertain_25 : decode cX10_isCertain 25 = .ok (.iinc 3 1, 3) := by decide +kernel
theorem dX10_isCertain_28 : decode cX10_isCertain 28 = .ok (.goto (-18), 3) := by decide +kernel
theorem dX10_isCertain_31 : decode cX10_isCertain 31 = .ok (.aload_n 0, 1) := by decide +kernel
theorem dX10_isCertain_32 : decode cX10_isCertain 32 = .ok (.iload_n 1, 1) := by decide +kernel
theorem dX10_isCertain_33 : decode cX10_isCertain 33 = .ok (.invokevirtual 150, 3) := by decide +kernel
theorem dX10_isCertain_36 : decode cX10_isCertain 36 = .ok (.ifCond .eq 24, 3) := by decide +kernel
theorem dX10_isCertain_39 : decode cX10_isCertain 39 = .ok (.iconst 3, 1) := by decide +kernel
theorem dX10_isCertain_40 : decode cX10_isCertain 40 = .ok (.aload_n 0, 1) := by decide +kernel
theorem dX10_isCertain_41 : decode cX10_isCertain 41 = .ok (.getfield 31, 3) := by decide +kernel
theorem dX10_isCertain_44 : decode cX10_isCertain 44 = .ok (.iload_n 1, 1) := by decide +kernel
theorem dX10_isCertain_45 : decode cX10_isCertain 45 = .ok (.aaload, 1) := by decide +kernel
theorem dX10_isCertain_46 : decode cX10_isCertain 46 = .ok (.getfield 200, 3) := by decide +kernel
theorem dX10_isCertain_49 : decode cX10_isCertain 49 = .ok (.imul, 1) := by decide +kernel
theorem dX10_isCertain_50 : decode cX10_isCertain 50 = .ok (.iconst 2, 1) := by decide +kernel
theorem dX10_isCertain_51 : decode cX10_isCertain 51 = .ok (.iload_n 2, 1) := by decide +kernel
theorem dX10_isCertain_52 : decode cX10_isCertain 52 = .ok (.imul, 1) := by decide +kernel
theorem dX10_isCertain_53 : decode cX10_isCertain 53 = .ok (.if_icmp .le 7, 3) := by decide +kernel
theorem dX10_isCertain_56 : decode cX10_isCertain 56 = .ok (.iconst 1, 1) := by decide +kernel
theorem dX10_isCertain_57 : decode cX10_isCertain 57 = .ok (.goto 4, 3) := by decide +kernel
theorem dX10_isCertain_60 : decode cX10_isCertain 60 = .ok (.iconst 0, 1) := by decide +kernel
theorem dX10_isCertain_61 : decode cX10_isCertain 61 = .ok (.ireturn, 1) := by decide +kernel
theorem dX10_told_0 : decode cX10_told 0 = .ok (.aload_n 0, 1) := by decide +kernel
theorem dX10_told_1 : decode cX10_told 1 = .ok (.iload_n 1, 1) := by decide +kernel
theorem dX10_told_2 : decode cX10_told 2 = .ok (.invokevirtual 150, 3) := by decide +kernel
theorem dX10_told_5 : decode cX10_told 5 = .ok (.ifCond .eq 13, 3) := by decide +kernel
theorem dX10_told_8 : decode cX10_told 8 = .ok (.iload_n 2, 1) := by decide +kernel
theorem dX10_told_9 : decode cX10_told 9 = .ok (.i2l, 1) := by decide +kernel
theorem dX10_told_10 : decode cX10_told 10 = .ok (.bipush 7, 2) := by decide +kernel
theorem dX10_told_12 : decode cX10_told 12 = .ok (.invokestatic 127, 3) := by decide +kernel
theorem dX10_told_15 : decode cX10_told 15 = .ok (.ifCond .ne 13, 3) := by decide +kernel
theorem dX10_told_18 : decode cX10_told 18 = .ok (.new 113, 3) := by decide +kernel
theorem dX10_told_21 : decode cX10_told 21 = .ok (.dup, 1) := by decide +kernel
theorem dX10_told_22 : decode cX10_told 22 = .ok (.ldc 187, 2) := by decide +kernel
theorem dX10_told_24 : decode cX10_told 24 = .ok (.invokespecial 117, 3) := by decide +kernel
theorem dX10_told_27 : decode cX10_told 27 = .ok (.athrow, 1) := by decide +kernel
theorem dX10_told_28 : decode cX10_told 28 = .ok (.aload_n 0, 1) := by decide +kernel
theorem dX10_told_29 : decode cX10_told 29 = .ok (.getfield 31, 3) := by decide +kernel
theorem dX10_told_32 : decode cX10_told 32 = .ok (.iload_n 1, 1) := by decide +kernel
theorem dX10_told_33 : decode cX10_told 33 = .ok (.aaload, 1) := by decide +kernel
theorem dX10_told_34 : decode cX10_told 34 = .ok (.astore_n 3, 1) := by decide +kernel
theorem dX10_told_35 : decode cX10_told 35 = .ok (.iload_n 2, 1) := by decide +kernel
theorem dX10_told_36 : decode cX10_told 36 = .ok (.tableswitch 76 0 5 #[40, 45, 50, 58, 66, 71], 40) := by decide +kernel
theorem dX10_told_76 : decode cX10_told 76 = .ok (.aload_n 3, 1) := by decide +kernel
theorem dX10_told_77 : decode cX10_told 77 = .ok (.getfield 189, 3) := by decide +kernel
theorem dX10_told_80 : decode cX10_told 80 = .ok (.ireturn, 1) := by decide +kernel
theorem dX10_told_81 : decode cX10_told 81 = .ok (.aload_n 3, 1) := by decide +kernel
theorem dX10_told_82 : decode cX10_told 82 = .ok (.getfield 157, 3) := by decide +kernel
theorem dX10_told_85 : decode cX10_told 85 = .ok (.ireturn, 1) := by decide +kernel
theorem dX10_told_86 : decode cX10_told 86 = .ok (.aload_n 3, 1) := by decide +kernel
theorem dX10_told_87 : decode cX10_told 87 = .ok (.getfield 192, 3) := by decide +kernel
theorem dX10_told_90 : decode cX10_told 90 = .ok (.arraylength, 1) := by decide +kernel
theorem dX10_told_91 : decode cX10_told 91 = .ok (.iconst 3, 1) := by decide +kernel
theorem dX10_told_92 : decode cX10_told 92 = .ok (.idiv, 1) := by decide +kernel
theorem dX10_told_93 : decode cX10_told 93 = .ok (.ireturn, 1) := by decide +kernel
theorem dX10_told_94 : decode cX10_told 94 = .ok (.aload_n 3, 1) := by decide +kernel
theorem dX10_told_95 : decode cX10_told 95 = .ok (.getfield 195, 3) := by decide +kernel
theorem dX10_told_98 : decode cX10_told 98 = .ok (.arraylength, 1) := by decide +kernel
theorem dX10_told_99 : decode cX10_told 99 = .ok (.iconst 4, 1) := by decide +kernel
theorem dX10_told_100 : decode cX10_told 100 = .ok (.idiv, 1) := by decide +kernel
theorem dX10_told_101 : decode cX10_told 101 = .ok (.ireturn, 1) := by decide +kernel
theorem dX10_told_102 : decode cX10_told 102 = .ok (.aload_n 3, 1) := by decide +kernel
theorem dX10_told_103 : decode cX10_told 103 = .ok (.getfield 197, 3) := by decide +kernel
theorem dX10_told_106 : decode cX10_told 106 = .ok (.ireturn, 1) := by decide +kernel
theorem dX10_told_107 : decode cX10_told 107 = .ok (.aload_n 3, 1) := by decide +kernel
theorem dX10_told_108 : decode cX10_told 108 = .ok (.getfield 200, 3) := by decide +kernel
theorem dX10_told_111 : decode cX10_told 111 = .ok (.ireturn, 1) := by decide +kernel
theorem dX10_told_112 : decode cX10_told 112 = .ok (.aload_n 0, 1) := by decide +kernel
theorem dX10_told_113 : decode cX10_told 113 = .ok (.iload_n 1, 1) := by decide +kernel
theorem dX10_told_114 : decode cX10_told 114 = .ok (.invokevirtual 203, 3) := by decide +kernel
theorem dX10_told_117 : decode cX10_told 117 = .ok (.ifCond .eq 7, 3) := by decide +kernel
theorem dX10_told_120 : decode cX10_told 120 = .ok (.iconst 1, 1) := by decide +kernel
theorem dX10_told_121 : decode cX10_told 121 = .ok (.goto 4, 3) := by decide +kernel
theorem dX10_told_124 : decode cX10_told 124 = .ok (.iconst 0, 1) := by decide +kernel
theorem dX10_told_125 : decode cX10_told 125 = .ok (.ireturn, 1) := by decide +kernel
theorem dX10_receipt_0 : decode cX10_receipt 0 = .ok (.aload_n 0, 1) := by decide +kernel
theorem dX10_receipt_1 : decode cX10_receipt 1 = .ok (.iload_n 1, 1) := by decide +kernel
theorem dX10_receipt_2 : decode cX10_receipt 2 = .ok (.invokevirtual 150, 3) := by decide +kernel
theorem dX10_receipt_5 : decode cX10_receipt 5 = .ok (.ifCond .eq 32, 3) := by decide +kernel
theorem dX10_receipt_8 : decode cX10_receipt 8 = .ok (.iload_n 2, 1) := by decide +kernel
theorem dX10_receipt_9 : decode cX10_receipt 9 = .ok (.i2l, 1) := by decide +kernel
theorem dX10_receipt_10 : decode cX10_receipt 10 = .ok (.aload_n 0, 1) := by decide +kernel
theorem dX10_receipt_11 : decode cX10_receipt 11 = .ok (.getfield 31, 3) := by decide +kernel
theorem dX10_receipt_14 : decode cX10_receipt 14 = .ok (.iload_n 1, 1) := by decide +kernel
theorem dX10_receipt_15 : decode cX10_receipt 15 = .ok (.aaload, 1) := by decide +kernel
theorem dX10_receipt_16 : decode cX10_receipt 16 = .ok (.getfield 192, 3) := by decide +kernel
theorem dX10_receipt_19 : decode cX10_receipt 19 = .ok (.arraylength, 1) := by decide +kernel
theorem dX10_receipt_20 : decode cX10_receipt 20 = .ok (.iconst 3, 1) := by decide +kernel
theorem dX10_receipt_21 : decode cX10_receipt 21 = .ok (.idiv, 1) := by decide +kernel
theorem dX10_receipt_22 : decode cX10_receipt 22 = .ok (.invokestatic 127, 3) := by decide +kernel
theorem dX10_receipt_25 : decode cX10_receipt 25 = .ok (.ifCond .eq 12, 3) := by decide +kernel
theorem dX10_receipt_28 : decode cX10_receipt 28 = .ok (.iload_n 3, 1) := by decide +kernel
theorem dX10_receipt_29 : decode cX10_receipt 29 = .ok (.i2l, 1) := by decide +kernel
theorem dX10_receipt_30 : decode cX10_receipt 30 = .ok (.iconst 3, 1) := by decide +kernel
theorem dX10_receipt_31 : decode cX10_receipt 31 = .ok (.invokestatic 127, 3) := by decide +kernel
theorem dX10_receipt_34 : decode cX10_receipt 34 = .ok (.ifCond .ne 13, 3) := by decide +kernel
theorem dX10_receipt_37 : decode cX10_receipt 37 = .ok (.new 113, 3) := by decide +kernel
theorem dX10_receipt_40 : decode cX10_receipt 40 = .ok (.dup, 1) := by decide +kernel
theorem dX10_receipt_41 : decode cX10_receipt 41 = .ok (.ldc 206, 2) := by decide +kernel
theorem dX10_receipt_43 : decode cX10_receipt 43 = .ok (.invokespecial 117, 3) := by decide +kernel
theorem dX10_receipt_46 : decode cX10_receipt 46 = .ok (.athrow, 1) := by decide +kernel
theorem dX10_receipt_47 : decode cX10_receipt 47 = .ok (.aload_n 0, 1) := by decide +kernel
theorem dX10_receipt_48 : decode cX10_receipt 48 = .ok (.getfield 31, 3) := by decide +kernel
theorem dX10_receipt_51 : decode cX10_receipt 51 = .ok (.iload_n 1, 1) := by decide +kernel
theorem dX10_receipt_52 : decode cX10_receipt 52 = .ok (.aaload, 1) := by decide +kernel
theorem dX10_receipt_53 : decode cX10_receipt 53 = .ok (.getfield 192, 3) := by decide +kernel
theorem dX10_receipt_56 : decode cX10_receipt 56 = .ok (.iconst 3, 1) := by decide +kernel
theorem dX10_receipt_57 : decode cX10_receipt 57 = .ok (.iload_n 2, 1) := by decide +kernel
theorem dX10_receipt_58 : decode cX10_receipt 58 = .ok (.imul, 1) := by decide +kernel
theorem dX10_receipt_59 : decode cX10_receipt 59 = .ok (.iload_n 3, 1) := by decide +kernel
theorem dX10_receipt_60 : decode cX10_receipt 60 = .ok (.iadd, 1) := by decide +kernel
theorem dX10_receipt_61 : decode cX10_receipt 61 = .ok (.laload, 1) := by decide +kernel
theorem dX10_receipt_62 : decode cX10_receipt 62 = .ok (.lreturn, 1) := by decide +kernel
theorem dX10_event_0 : decode cX10_event 0 = .ok (.aload_n 0, 1) := by decide +kernel
theorem dX10_event_1 : decode cX10_event 1 = .ok (.iload_n 1, 1) := by decide +kernel
theorem dX10_event_2 : decode cX10_event 2 = .ok (.invokevirtual 150, 3) := by decide +kernel
theorem dX10_event_5 : decode cX10_event 5 = .ok (.ifCond .eq 32, 3) := by decide +kernel
theorem dX10_event_8 : decode cX10_event 8 = .ok (.iload_n 2, 1) := by decide +kernel
theorem dX10_event_9 : decode cX10_event 9 = .ok (.i2l, 1) := by decide +kernel
theorem dX10_event_10 : decode cX10_event 10 = .ok (.aload_n 0, 1) := by decide +kernel
theorem dX10_event_11 : decode cX10_event 11 = .ok (.getfield 31, 3) := by decide +kernel
theorem dX10_event_14 : decode cX10_event 14 = .ok (.iload_n 1, 1) := by decide +kernel
theorem dX10_event_15 : decode cX10_event 15 = .ok (.aaload, 1) := by decide +kernel
theorem dX10_event_16 : decode cX10_event 16 = .ok (.getfield 195, 3) := by decide +kernel
theorem dX10_event_19 : decode cX10_event 19 = .ok (.arraylength, 1) := by decide +kernel
theorem dX10_event_20 : decode cX10_event 20 = .ok (.iconst 4, 1) := by decide +kernel
theorem dX10_event_21 : decode cX10_event 21 = .ok (.idiv, 1) := by decide +kernel
theorem dX10_event_22 : decode cX10_event 22 = .ok (.invokestatic 127, 3) := by decide +kernel
theorem dX10_event_25 : decode cX10_event 25 = .ok (.ifCond .eq 12, 3) := by decide +kernel
theorem dX10_event_28 : decode cX10_event 28 = .ok (.iload_n 3, 1) := by decide +kernel
theorem dX10_event_29 : decode cX10_event 29 = .ok (.i2l, 1) := by decide +kernel
theorem dX10_event_30 : decode cX10_event 30 = .ok (.iconst 4, 1) := by decide +kernel
theorem dX10_event_31 : decode cX10_event 31 = .ok (.invokestatic 127, 3) := by decide +kernel
theorem dX10_event_34 : decode cX10_event 34 = .ok (.ifCond .ne 13, 3) := by decide +kernel
theorem dX10_event_37 : decode cX10_event 37 = .ok (.new 113, 3) := by decide +kernel
theorem dX10_event_40 : decode cX10_event 40 = .ok (.dup, 1) := by decide +kernel
theorem dX10_event_41 : decode cX10_event 41 = .ok (.ldc 208, 2) := by decide +kernel
theorem dX10_event_43 : decode cX10_event 43 = .ok (.invokespecial 117, 3) := by decide +kernel
theorem dX10_event_46 : decode cX10_event 46 = .ok (.athrow, 1) := by decide +kernel
theorem dX10_event_47 : decode cX10_event 47 = .ok (.aload_n 0, 1) := by decide +kernel
theorem dX10_event_48 : decode cX10_event 48 = .ok (.getfield 31, 3) := by decide +kernel
theorem dX10_event_51 : decode cX10_event 51 = .ok (.iload_n 1, 1) := by decide +kernel
theorem dX10_event_52 : decode cX10_event 52 = .ok (.aaload, 1) := by decide +kernel
theorem dX10_event_53 : decode cX10_event 53 = .ok (.getfield 195, 3) := by decide +kernel
theorem dX10_event_56 : decode cX10_event 56 = .ok (.iconst 4, 1) := by decide +kernel
theorem dX10_event_57 : decode cX10_event 57 = .ok (.iload_n 2, 1) := by decide +kernel
theorem dX10_event_58 : decode cX10_event 58 = .ok (.imul, 1) := by decide +kernel
theorem dX10_event_59 : decode cX10_event 59 = .ok (.iload_n 3, 1) := by decide +kernel
theorem dX10_event_60 : decode cX10_event 60 = .ok (.iadd, 1) := by decide +kernel
theorem dX10_event_61 : decode cX10_event 61 = .ok (.laload, 1) := by decide +kernel
theorem dX10_event_62 : decode cX10_event 62 = .ok (.lreturn, 1) := by decide +kernel
theorem dX10_leaf_0 : decode cX10_leaf 0 = .ok (.aload_n 0, 1) := by decide +kernel
theorem dX10_leaf_1 : decode cX10_leaf 1 = .ok (.iload_n 1, 1) := by decide +kernel
theorem dX10_leaf_2 : decode cX10_leaf 2 = .ok (.invokevirtual 150, 3) := by decide +kernel
theorem dX10_leaf_5 : decode cX10_leaf 5 = .ok (.ifCond .eq 14, 3) := by decide +kernel
theorem dX10_leaf_8 : decode cX10_leaf 8 = .ok (.iload_n 2, 1) := by decide +kernel
theorem dX10_leaf_9 : decode cX10_leaf 9 = .ok (.i2l, 1) := by decide +kernel
theorem dX10_leaf_10 : decode cX10_leaf 10 = .ok (.sipush 1024, 3) := by decide +kernel
theorem dX10_leaf_13 : decode cX10_leaf 13 = .ok (.invokestatic 127, 3) := by decide +kernel
theorem dX10_leaf_16 : decode cX10_leaf 16 = .ok (.ifCond .ne 13, 3) := by decide +kernel
theorem dX10_leaf_19 : decode cX10_leaf 19 = .ok (.new 113, 3) := by decide +kernel
theorem dX10_leaf_22 : decode cX10_leaf 22 = .ok (.dup, 1) := by decide +kernel
theorem dX10_leaf_23 : decode cX10_leaf 23 = .ok (.ldc 210, 2) := by decide +kernel
theorem dX10_leaf_25 : decode cX10_leaf 25 = .ok (.invokespecial 117, 3) := by decide +kernel
theorem dX10_leaf_28 : decode cX10_leaf 28 = .ok (.athrow, 1) := by decide +kernel
theorem dX10_leaf_29 : decode cX10_leaf 29 = .ok (.aload_n 0, 1) := by decide +kernel
theorem dX10_leaf_30 : decode cX10_leaf 30 = .ok (.getfield 31, 3) := by decide +kernel
theorem dX10_leaf_33 : decode cX10_leaf 33 = .ok (.iload_n 1, 1) := by decide +kernel
theorem dX10_leaf_34 : decode cX10_leaf 34 = .ok (.aaload, 1) := by decide +kernel
theorem dX10_leaf_35 : decode cX10_leaf 35 = .ok (.getfield 124, 3) := by decide +kernel
theorem dX10_leaf_38 : decode cX10_leaf 38 = .ok (.iload_n 2, 1) := by decide +kernel
theorem dX10_leaf_39 : decode cX10_leaf 39 = .ok (.laload, 1) := by decide +kernel
theorem dX10_leaf_40 : decode cX10_leaf 40 = .ok (.lreturn, 1) := by decide +kernel
theorem dX10_seen_0 : decode cX10_seen 0 = .ok (.iload_n 1, 1) := by decide +kernel
theorem dX10_seen_1 : decode cX10_seen 1 = .ok (.i2l, 1) := by decide +kernel
theorem dX10_seen_2 : decode cX10_seen 2 = .ok (.iconst 3, 1) := by decide +kernel
theorem dX10_seen_3 : decode cX10_seen 3 = .ok (.invokestatic 127, 3) := by decide +kernel
theorem dX10_seen_6 : decode cX10_seen 6 = .ok (.ifCond .ne 13, 3) := by decide +kernel
theorem dX10_seen_9 : decode cX10_seen 9 = .ok (.new 113, 3) := by decide +kernel
theorem dX10_seen_12 : decode cX10_seen 12 = .ok (.dup, 1) := by decide +kernel
theorem dX10_seen_13 : decode cX10_seen 13 = .ok (.ldc 248, 2) := by decide +kernel
theorem dX10_seen_15 : decode cX10_seen 15 = .ok (.invokespecial 117, 3) := by decide +kernel
theorem dX10_seen_18 : decode cX10_seen 18 = .ok (.athrow, 1) := by decide +kernel
theorem dX10_seen_19 : decode cX10_seen 19 = .ok (.iload_n 1, 1) := by decide +kernel
theorem dX10_seen_20 : decode cX10_seen 20 = .ok (.ifCond .ne 8, 3) := by decide +kernel
theorem dX10_seen_23 : decode cX10_seen 23 = .ok (.aload_n 0, 1) := by decide +kernel
theorem dX10_seen_24 : decode cX10_seen 24 = .ok (.getfield 229, 3) := by decide +kernel
theorem dX10_seen_27 : decode cX10_seen 27 = .ok (.ireturn, 1) := by decide +kernel
theorem dX10_seen_28 : decode cX10_seen 28 = .ok (.iload_n 1, 1) := by decide +kernel
theorem dX10_seen_29 : decode cX10_seen 29 = .ok (.iconst 1, 1) := by decide +kernel
theorem dX10_seen_30 : decode cX10_seen 30 = .ok (.if_icmp .ne 10, 3) := by decide +kernel
theorem dX10_seen_33 : decode cX10_seen 33 = .ok (.aload_n 0, 1) := by decide +kernel
theorem dX10_seen_34 : decode cX10_seen 34 = .ok (.getfield 235, 3) := by decide +kernel
theorem dX10_seen_37 : decode cX10_seen 37 = .ok (.goto 7, 3) := by decide +kernel
theorem dX10_seen_40 : decode cX10_seen 40 = .ok (.aload_n 0, 1) := by decide +kernel
theorem dX10_seen_41 : decode cX10_seen 41 = .ok (.getfield 241, 3) := by decide +kernel
theorem dX10_seen_44 : decode cX10_seen 44 = .ok (.ireturn, 1) := by decide +kernel
theorem dX10_beside_0 : decode cX10_beside 0 = .ok (.iload_n 1, 1) := by decide +kernel
theorem dX10_beside_1 : decode cX10_beside 1 = .ok (.i2l, 1) := by decide +kernel
theorem dX10_beside_2 : decode cX10_beside 2 = .ok (.bipush 10, 2) := by decide +kernel
theorem dX10_beside_4 : decode cX10_beside 4 = .ok (.invokestatic 127, 3) := by decide +kernel
theorem dX10_beside_7 : decode cX10_beside 7 = .ok (.ifCond .ne 13, 3) := by decide +kernel
theorem dX10_beside_10 : decode cX10_beside 10 = .ok (.new 113, 3) := by decide +kernel
theorem dX10_beside_13 : decode cX10_beside 13 = .ok (.dup, 1) := by decide +kernel
theorem dX10_beside_14 : decode cX10_beside 14 = .ok (.ldc 254, 2) := by decide +kernel
theorem dX10_beside_16 : decode cX10_beside 16 = .ok (.invokespecial 117, 3) := by decide +kernel
theorem dX10_beside_19 : decode cX10_beside 19 = .ok (.athrow, 1) := by decide +kernel
theorem dX10_beside_20 : decode cX10_beside 20 = .ok (.aload_n 0, 1) := by decide +kernel
theorem dX10_beside_21 : decode cX10_beside 21 = .ok (.getfield 56, 3) := by decide +kernel
theorem dX10_beside_24 : decode cX10_beside 24 = .ok (.iload_n 1, 1) := by decide +kernel
theorem dX10_beside_25 : decode cX10_beside 25 = .ok (.lload_n 2, 1) := by decide +kernel
theorem dX10_beside_26 : decode cX10_beside 26 = .ok (.lastore, 1) := by decide +kernel
theorem dX10_beside_27 : decode cX10_beside 27 = .ok (.return_, 1) := by decide +kernel
theorem dX11_isBlock_0 : decode cX11_isBlock 0 = .ok (.iload_n 1, 1) := by decide +kernel
theorem dX11_isBlock_1 : decode cX11_isBlock 1 = .ok (.ifCond .lt 15, 3) := by decide +kernel
theorem dX11_isBlock_4 : decode cX11_isBlock 4 = .ok (.iload_n 1, 1) := by decide +kernel
theorem dX11_isBlock_5 : decode cX11_isBlock 5 = .ok (.aload_n 0, 1) := by decide +kernel
theorem dX11_isBlock_6 : decode cX11_isBlock 6 = .ok (.getfield 156, 3) := by decide +kernel
theorem dX11_isBlock_9 : decode cX11_isBlock 9 = .ok (.if_icmp .ge 7, 3) := by decide +kernel
theorem dX11_isBlock_12 : decode cX11_isBlock 12 = .ok (.iconst 1, 1) := by decide +kernel
theorem dX11_isBlock_13 : decode cX11_isBlock 13 = .ok (.goto 4, 3) := by decide +kernel
theorem dX11_isBlock_16 : decode cX11_isBlock 16 = .ok (.iconst 0, 1) := by decide +kernel
theorem dX11_isBlock_17 : decode cX11_isBlock 17 = .ok (.ireturn, 1) := by decide +kernel
theorem dX11_told_0 : decode cX11_told 0 = .ok (.aload_n 0, 1) := by decide +kernel
theorem dX11_told_1 : decode cX11_told 1 = .ok (.aload_n 0, 1) := by decide +kernel
theorem dX11_told_2 : decode cX11_told 2 = .ok (.iload_n 1, 1) := by decide +kernel
theorem dX11_told_3 : decode cX11_told 3 = .ok (.invokevirtual 318, 3) := by decide +kernel
theorem dX11_told_6 : decode cX11_told 6 = .ok (.ifCond .eq 17, 3) := by decide +kernel
theorem dX11_told_9 : decode cX11_told 9 = .ok (.iload_n 2, 1) := by decide +kernel
theorem dX11_told_10 : decode cX11_told 10 = .ok (.ifCond .lt 13, 3) := by decide +kernel
theorem dX11_told_13 : decode cX11_told 13 = .ok (.iload_n 2, 1) := by decide +kernel
theorem dX11_told_14 : decode cX11_told 14 = .ok (.bipush 6, 2) := by decide +kernel
theorem dX11_told_16 : decode cX11_told 16 = .ok (.if_icmp .gt 7, 3) := by decide +kernel
theorem dX11_told_19 : decode cX11_told 19 = .ok (.iconst 0, 1) := by decide +kernel
theorem dX11_told_20 : decode cX11_told 20 = .ok (.goto 4, 3) := by decide +kernel
theorem dX11_told_23 : decode cX11_told 23 = .ok (.iconst 1, 1) := by decide +kernel
theorem dX11_told_24 : decode cX11_told 24 = .ok (.putfield 160, 3) := by decide +kernel
theorem dX11_told_27 : decode cX11_told 27 = .ok (.aload_n 0, 1) := by decide +kernel
theorem dX11_told_28 : decode cX11_told 28 = .ok (.getfield 160, 3) := by decide +kernel
theorem dX11_told_31 : decode cX11_told 31 = .ok (.ifCond .le 5, 3) := by decide +kernel
theorem dX11_told_34 : decode cX11_told 34 = .ok (.iconst 0, 1) := by decide +kernel
theorem dX11_told_35 : decode cX11_told 35 = .ok (.ireturn, 1) := by decide +kernel
theorem dX11_told_36 : decode cX11_told 36 = .ok (.iload_n 2, 1) := by decide +kernel
theorem dX11_told_37 : decode cX11_told 37 = .ok (.tableswitch 81 0 5 #[39, 46, 53, 60, 67, 74], 39) := by decide +kernel
theorem dX11_told_76 : decode cX11_told 76 = .ok (.aload_n 0, 1) := by decide +kernel
theorem dX11_told_77 : decode cX11_told 77 = .ok (.getfield 45, 3) := by decide +kernel
theorem dX11_told_80 : decode cX11_told 80 = .ok (.iload_n 1, 1) := by decide +kernel
theorem dX11_told_81 : decode cX11_told 81 = .ok (.iaload, 1) := by decide +kernel
theorem dX11_told_82 : decode cX11_told 82 = .ok (.ireturn, 1) := by decide +kernel
theorem dX11_told_83 : decode cX11_told 83 = .ok (.aload_n 0, 1) := by decide +kernel
theorem dX11_told_84 : decode cX11_told 84 = .ok (.getfield 48, 3) := by decide +kernel
theorem dX11_told_87 : decode cX11_told 87 = .ok (.iload_n 1, 1) := by decide +kernel
theorem dX11_told_88 : decode cX11_told 88 = .ok (.iaload, 1) := by decide +kernel
theorem dX11_told_89 : decode cX11_told 89 = .ok (.ireturn, 1) := by decide +kernel
theorem dX11_told_90 : decode cX11_told 90 = .ok (.aload_n 0, 1) := by decide +kernel
theorem dX11_told_91 : decode cX11_told 91 = .ok (.getfield 51, 3) := by decide +kernel
theorem dX11_told_94 : decode cX11_told 94 = .ok (.iload_n 1, 1) := by decide +kernel
theorem dX11_told_95 : decode cX11_told 95 = .ok (.iaload, 1) := by decide +kernel
theorem dX11_told_96 : decode cX11_told 96 = .ok (.ireturn, 1) := by decide +kernel
theorem dX11_told_97 : decode cX11_told 97 = .ok (.aload_n 0, 1) := by decide +kernel
theorem dX11_told_98 : decode cX11_told 98 = .ok (.getfield 54, 3) := by decide +kernel
theorem dX11_told_101 : decode cX11_told 101 = .ok (.iload_n 1, 1) := by decide +kernel
theorem dX11_told_102 : decode cX11_told 102 = .ok (.iaload, 1) := by decide +kernel
theorem dX11_told_103 : decode cX11_told 103 = .ok (.ireturn, 1) := by decide +kernel
theorem dX11_told_104 : decode cX11_told 104 = .ok (.aload_n 0, 1) := by decide +kernel
theorem dX11_told_105 : decode cX11_told 105 = .ok (.getfield 57, 3) := by decide +kernel
theorem dX11_told_108 : decode cX11_told 108 = .ok (.iload_n 1, 1) := by decide +kernel
theorem dX11_told_109 : decode cX11_told 109 = .ok (.iaload, 1) := by decide +kernel
theorem dX11_told_110 : decode cX11_told 110 = .ok (.ireturn, 1) := by decide +kernel
theorem dX11_told_111 : decode cX11_told 111 = .ok (.aload_n 0, 1) := by decide +kernel
theorem dX11_told_112 : decode cX11_told 112 = .ok (.getfield 60, 3) := by decide +kernel
theorem dX11_told_115 : decode cX11_told 115 = .ok (.iload_n 1, 1) := by decide +kernel
theorem dX11_told_116 : decode cX11_told 116 = .ok (.iaload, 1) := by decide +kernel
theorem dX11_told_117 : decode cX11_told 117 = .ok (.ireturn, 1) := by decide +kernel
theorem dX11_told_118 : decode cX11_told 118 = .ok (.aload_n 0, 1) := by decide +kernel
theorem dX11_told_119 : decode cX11_told 119 = .ok (.getfield 63, 3) := by decide +kernel
theorem dX11_told_122 : decode cX11_told 122 = .ok (.iload_n 1, 1) := by decide +kernel
theorem dX11_told_123 : decode cX11_told 123 = .ok (.baload, 1) := by decide +kernel
theorem dX11_told_124 : decode cX11_told 124 = .ok (.ifCond .eq 7, 3) := by decide +kernel
theorem dX11_told_127 : decode cX11_told 127 = .ok (.iconst 1, 1) := by decide +kernel
theorem dX11_told_128 : decode cX11_told 128 = .ok (.goto 4, 3) := by decide +kernel
theorem dX11_told_131 : decode cX11_told 131 = .ok (.iconst 0, 1) := by decide +kernel
theorem dX11_told_132 : decode cX11_told 132 = .ok (.ireturn, 1) := by decide +kernel
theorem dX11_receipt_0 : decode cX11_receipt 0 = .ok (.aload_n 0, 1) := by decide +kernel
theorem dX11_receipt_1 : decode cX11_receipt 1 = .ok (.aload_n 0, 1) := by decide +kernel
theorem dX11_receipt_2 : decode cX11_receipt 2 = .ok (.iload_n 1, 1) := by decide +kernel
theorem dX11_receipt_3 : decode cX11_receipt 3 = .ok (.invokevirtual 318, 3) := by decide +kernel
theorem dX11_receipt_6 : decode cX11_receipt 6 = .ok (.ifCond .eq 30, 3) := by decide +kernel
theorem dX11_receipt_9 : decode cX11_receipt 9 = .ok (.iload_n 2, 1) := by decide +kernel
theorem dX11_receipt_10 : decode cX11_receipt 10 = .ok (.ifCond .lt 26, 3) := by decide +kernel
theorem dX11_receipt_13 : decode cX11_receipt 13 = .ok (.iload_n 3, 1) := by decide +kernel
theorem dX11_receipt_14 : decode cX11_receipt 14 = .ok (.ifCond .lt 22, 3) := by decide +kernel
theorem dX11_receipt_17 : decode cX11_receipt 17 = .ok (.iload_n 3, 1) := by decide +kernel
theorem dX11_receipt_18 : decode cX11_receipt 18 = .ok (.iconst 2, 1) := by decide +kernel
theorem dX11_receipt_19 : decode cX11_receipt 19 = .ok (.if_icmp .gt 17, 3) := by decide +kernel
theorem dX11_receipt_22 : decode cX11_receipt 22 = .ok (.iload_n 2, 1) := by decide +kernel
theorem dX11_receipt_23 : decode cX11_receipt 23 = .ok (.aload_n 0, 1) := by decide +kernel
theorem dX11_receipt_24 : decode cX11_receipt 24 = .ok (.getfield 51, 3) := by decide +kernel
theorem dX11_receipt_27 : decode cX11_receipt 27 = .ok (.iload_n 1, 1) := by decide +kernel
theorem dX11_receipt_28 : decode cX11_receipt 28 = .ok (.iaload, 1) := by decide +kernel
theorem dX11_receipt_29 : decode cX11_receipt 29 = .ok (.if_icmp .ge 7, 3) := by decide +kernel
theorem dX11_receipt_32 : decode cX11_receipt 32 = .ok (.iconst 0, 1) := by decide +kernel
theorem dX11_receipt_33 : decode cX11_receipt 33 = .ok (.goto 4, 3) := by decide +kernel
theorem dX11_receipt_36 : decode cX11_receipt 36 = .ok (.iconst 1, 1) := by decide +kernel
theorem dX11_receipt_37 : decode cX11_receipt 37 = .ok (.putfield 160, 3) := by decide +kernel
theorem dX11_receipt_40 : decode cX11_receipt 40 = .ok (.aload_n 0, 1) := by decide +kernel
theorem dX11_receipt_41 : decode cX11_receipt 41 = .ok (.getfield 160, 3) := by decide +kernel
theorem dX11_receipt_44 : decode cX11_receipt 44 = .ok (.ifCond .le 5, 3) := by decide +kernel
theorem dX11_receipt_47 : decode cX11_receipt 47 = .ok (.lconst 0, 1) := by decide +kernel
theorem dX11_receipt_48 : decode cX11_receipt 48 = .ok (.lreturn, 1) := by decide +kernel
theorem dX11_receipt_49 : decode cX11_receipt 49 = .ok (.bipush 10, 2) := by decide +kernel
theorem dX11_receipt_51 : decode cX11_receipt 51 = .ok (.iload_n 1, 1) := by decide +kernel
theorem dX11_receipt_52 : decode cX11_receipt 52 = .ok (.imul, 1) := by decide +kernel
theorem dX11_receipt_53 : decode cX11_receipt 53 = .ok (.iload_n 2, 1) := by decide +kernel
theorem dX11_receipt_54 : decode cX11_receipt 54 = .ok (.iadd, 1) := by decide +kernel
theorem dX11_receipt_55 : decode cX11_receipt 55 = .ok (.istore 4, 2) := by decide +kernel
theorem dX11_receipt_57 : decode cX11_receipt 57 = .ok (.iload_n 3, 1) := by decide +kernel
theorem dX11_receipt_58 : decode cX11_receipt 58 = .ok (.ifCond .ne 14, 3) := by decide +kernel
theorem dX11_receipt_61 : decode cX11_receipt 61 = .ok (.aload_n 0, 1) := by decide +kernel
theorem dX11_receipt_62 : decode cX11_receipt 62 = .ok (.getfield 69, 3) := by decide +kernel
theorem dX11_receipt_65 : decode cX11_receipt 65 = .ok (.iload 4, 2) := by decide +kernel
theorem dX11_receipt_67 : decode cX11_receipt 67 = .ok (.iaload, 1) := by decide +kernel
theorem dX11_receipt_68 : decode cX11_receipt 68 = .ok (.i2l, 1) := by decide +kernel
theorem dX11_receipt_69 : decode cX11_receipt 69 = .ok (.goto 26, 3) := by decide +kernel
theorem dX11_receipt_72 : decode cX11_receipt 72 = .ok (.iload_n 3, 1) := by decide +kernel
theorem dX11_receipt_73 : decode cX11_receipt 73 = .ok (.iconst 1, 1) := by decide +kernel
theorem dX11_receipt_74 : decode cX11_receipt 74 = .ok (.if_icmp .ne 14, 3) := by decide +kernel
theorem dX11_receipt_77 : decode cX11_receipt 77 = .ok (.aload_n 0, 1) := by decide +kernel
theorem dX11_receipt_78 : decode cX11_receipt 78 = .ok (.getfield 72, 3) := by decide +kernel
theorem dX11_receipt_81 : decode cX11_receipt 81 = .ok (.iload 4, 2) := by decide +kernel
theorem dX11_receipt_83 : decode cX11_receipt 83 = .ok (.iaload, 1) := by decide +kernel
theorem dX11_receipt_84 : decode cX11_receipt 84 = .ok (.i2l, 1) := by decide +kernel
theorem dX11_receipt_85 : decode cX11_receipt 85 = .ok (.goto 10, 3) := by decide +kernel
theorem dX11_receipt_88 : decode cX11_receipt 88 = .ok (.aload_n 0, 1) := by decide +kernel
theorem dX11_receipt_89 : decode cX11_receipt 89 = .ok (.getfield 75, 3) := by decide +kernel
theorem dX11_receipt_92 : decode cX11_receipt 92 = .ok (.iload 4, 2) := by decide +kernel
theorem dX11_receipt_94 : decode cX11_receipt 94 = .ok (.laload, 1) := by decide +kernel
theorem dX11_receipt_95 : decode cX11_receipt 95 = .ok (.lreturn, 1) := by decide +kernel
theorem dX11_event_0 : decode cX11_event 0 = .ok (.aload_n 0, 1) := by decide +kernel
theorem dX11_event_1 : decode cX11_event 1 = .ok (.aload_n 0, 1) := by decide +kernel
theorem dX11_event_2 : decode cX11_event 2 = .ok (.iload_n 1, 1) := by decide +kernel
theorem dX11_event_3 : decode cX11_event 3 = .ok (.invokevirtual 318, 3) := by decide +kernel
theorem dX11_event_6 : decode cX11_event 6 = .ok (.ifCond .eq 30, 3) := by decide +kernel
theorem dX11_event_9 : decode cX11_event 9 = .ok (.iload_n 2, 1) := by decide +kernel
theorem dX11_event_10 : decode cX11_event 10 = .ok (.ifCond .lt 26, 3) := by decide +kernel
theorem dX11_event_13 : decode cX11_event 13 = .ok (.iload_n 3, 1) := by decide +kernel
theorem dX11_event_14 : decode cX11_event 14 = .ok (.ifCond .lt 22, 3) := by decide +kernel
theorem dX11_event_17 : decode cX11_event 17 = .ok (.iload_n 3, 1) := by decide +kernel
theorem dX11_event_18 : decode cX11_event 18 = .ok (.iconst 3, 1) := by decide +kernel
theorem dX11_event_19 : decode cX11_event 19 = .ok (.if_icmp .gt 17, 3) := by decide +kernel
theorem dX11_event_22 : decode cX11_event 22 = .ok (.iload_n 2, 1) := by decide +kernel
theorem dX11_event_23 : decode cX11_event 23 = .ok (.aload_n 0, 1) := by decide +kernel
theorem dX11_event_24 : decode cX11_event 24 = .ok (.getfield 54, 3) := by decide +kernel
theorem dX11_event_27 : decode cX11_event 27 = .ok (.iload_n 1, 1) := by decide +kernel
theorem dX11_event_28 : decode cX11_event 28 = .ok (.iaload, 1) := by decide +kernel
theorem dX11_event_29 : decode cX11_event 29 = .ok (.if_icmp .ge 7, 3) := by decide +kernel
theorem dX11_event_32 : decode cX11_event 32 = .ok (.iconst 0, 1) := by decide +kernel
theorem dX11_event_33 : decode cX11_event 33 = .ok (.goto 4, 3) := by decide +kernel
theorem dX11_event_36 : decode cX11_event 36 = .ok (.iconst 1, 1) := by decide +kernel
theorem dX11_event_37 : decode cX11_event 37 = .ok (.putfield 160, 3) := by decide +kernel
theorem dX11_event_40 : decode cX11_event 40 = .ok (.aload_n 0, 1) := by decide +kernel
theorem dX11_event_41 : decode cX11_event 41 = .ok (.getfield 160, 3) := by decide +kernel
theorem dX11_event_44 : decode cX11_event 44 = .ok (.ifCond .le 5, 3) := by decide +kernel
theorem dX11_event_47 : decode cX11_event 47 = .ok (.lconst 0, 1) := by decide +kernel
theorem dX11_event_48 : decode cX11_event 48 = .ok (.lreturn, 1) := by decide +kernel
theorem dX11_event_49 : decode cX11_event 49 = .ok (.bipush 60, 2) := by decide +kernel
theorem dX11_event_51 : decode cX11_event 51 = .ok (.iload_n 1, 1) := by decide +kernel
theorem dX11_event_52 : decode cX11_event 52 = .ok (.imul, 1) := by decide +kernel
theorem dX11_event_53 : decode cX11_event 53 = .ok (.iload_n 2, 1) := by decide +kernel
theorem dX11_event_54 : decode cX11_event 54 = .ok (.iadd, 1) := by decide +kernel
theorem dX11_event_55 : decode cX11_event 55 = .ok (.istore 4, 2) := by decide +kernel
theorem dX11_event_57 : decode cX11_event 57 = .ok (.iload_n 3, 1) := by decide +kernel
theorem dX11_event_58 : decode cX11_event 58 = .ok (.ifCond .ne 14, 3) := by decide +kernel
theorem dX11_event_61 : decode cX11_event 61 = .ok (.aload_n 0, 1) := by decide +kernel
theorem dX11_event_62 : decode cX11_event 62 = .ok (.getfield 78, 3) := by decide +kernel
theorem dX11_event_65 : decode cX11_event 65 = .ok (.iload 4, 2) := by decide +kernel
theorem dX11_event_67 : decode cX11_event 67 = .ok (.iaload, 1) := by decide +kernel
theorem dX11_event_68 : decode cX11_event 68 = .ok (.i2l, 1) := by decide +kernel
theorem dX11_event_69 : decode cX11_event 69 = .ok (.goto 41, 3) := by decide +kernel
theorem dX11_event_72 : decode cX11_event 72 = .ok (.iload_n 3, 1) := by decide +kernel
theorem dX11_event_73 : decode cX11_event 73 = .ok (.iconst 1, 1) := by decide +kernel
theorem dX11_event_74 : decode cX11_event 74 = .ok (.if_icmp .ne 13, 3) := by decide +kernel
theorem dX11_event_77 : decode cX11_event 77 = .ok (.aload_n 0, 1) := by decide +kernel
theorem dX11_event_78 : decode cX11_event 78 = .ok (.getfield 81, 3) := by decide +kernel
theorem dX11_event_81 : decode cX11_event 81 = .ok (.iload 4, 2) := by decide +kernel
theorem dX11_event_83 : decode cX11_event 83 = .ok (.laload, 1) := by decide +kernel
theorem dX11_event_84 : decode cX11_event 84 = .ok (.goto 26, 3) := by decide +kernel
theorem dX11_event_87 : decode cX11_event 87 = .ok (.iload_n 3, 1) := by decide +kernel
theorem dX11_event_88 : decode cX11_event 88 = .ok (.iconst 2, 1) := by decide +kernel
theorem dX11_event_89 : decode cX11_event 89 = .ok (.if_icmp .ne 13, 3) := by decide +kernel
theorem dX11_event_92 : decode cX11_event 92 = .ok (.aload_n 0, 1) := by decide +kernel
theorem dX11_event_93 : decode cX11_event 93 = .ok (.getfield 84, 3) := by decide +kernel
theorem dX11_event_96 : decode cX11_event 96 = .ok (.iload 4, 2) := by decide +kernel
theorem dX11_event_98 : decode cX11_event 98 = .ok (.laload, 1) := by decide +kernel
theorem dX11_event_99 : decode cX11_event 99 = .ok (.goto 11, 3) := by decide +kernel
theorem dX11_event_102 : decode cX11_event 102 = .ok (.aload_n 0, 1) := by decide +kernel
theorem dX11_event_103 : decode cX11_event 103 = .ok (.getfield 87, 3) := by decide +kernel
theorem dX11_event_106 : decode cX11_event 106 = .ok (.iload 4, 2) := by decide +kernel
theorem dX11_event_108 : decode cX11_event 108 = .ok (.iaload, 1) := by decide +kernel
theorem dX11_event_109 : decode cX11_event 109 = .ok (.i2l, 1) := by decide +kernel
theorem dX11_event_110 : decode cX11_event 110 = .ok (.lreturn, 1) := by decide +kernel
theorem dX11_leaf_0 : decode cX11_leaf 0 = .ok (.aload_n 0, 1) := by decide +kernel
theorem dX11_leaf_1 : decode cX11_leaf 1 = .ok (.aload_n 0, 1) := by decide +kernel
theorem dX11_leaf_2 : decode cX11_leaf 2 = .ok (.iload_n 1, 1) := by decide +kernel
theorem dX11_leaf_3 : decode cX11_leaf 3 = .ok (.invokevirtual 318, 3) := by decide +kernel
theorem dX11_leaf_6 : decode cX11_leaf 6 = .ok (.ifCond .eq 18, 3) := by decide +kernel
theorem dX11_leaf_9 : decode cX11_leaf 9 = .ok (.iload_n 2, 1) := by decide +kernel
theorem dX11_leaf_10 : decode cX11_leaf 10 = .ok (.ifCond .lt 14, 3) := by decide +kernel
theorem dX11_leaf_13 : decode cX11_leaf 13 = .ok (.iload_n 2, 1) := by decide +kernel
theorem dX11_leaf_14 : decode cX11_leaf 14 = .ok (.sipush 1024, 3) := by decide +kernel
theorem dX11_leaf_17 : decode cX11_leaf 17 = .ok (.if_icmp .ge 7, 3) := by decide +kernel
theorem dX11_leaf_20 : decode cX11_leaf 20 = .ok (.iconst 0, 1) := by decide +kernel
theorem dX11_leaf_21 : decode cX11_leaf 21 = .ok (.goto 4, 3) := by decide +kernel
theorem dX11_leaf_24 : decode cX11_leaf 24 = .ok (.iconst 1, 1) := by decide +kernel
theorem dX11_leaf_25 : decode cX11_leaf 25 = .ok (.putfield 160, 3) := by decide +kernel
theorem dX11_leaf_28 : decode cX11_leaf 28 = .ok (.aload_n 0, 1) := by decide +kernel
theorem dX11_leaf_29 : decode cX11_leaf 29 = .ok (.getfield 160, 3) := by decide +kernel
theorem dX11_leaf_32 : decode cX11_leaf 32 = .ok (.ifCond .le 7, 3) := by decide +kernel
theorem dX11_leaf_35 : decode cX11_leaf 35 = .ok (.lconst 0, 1) := by decide +kernel
theorem dX11_leaf_36 : decode cX11_leaf 36 = .ok (.goto 9, 3) := by decide +kernel
theorem dX11_leaf_39 : decode cX11_leaf 39 = .ok (.aload_n 0, 1) := by decide +kernel
theorem dX11_leaf_40 : decode cX11_leaf 40 = .ok (.iload_n 1, 1) := by decide +kernel
theorem dX11_leaf_41 : decode cX11_leaf 41 = .ok (.iload_n 2, 1) := by decide +kernel
theorem dX11_leaf_42 : decode cX11_leaf 42 = .ok (.invokevirtual 327, 3) := by decide +kernel
theorem dX11_leaf_45 : decode cX11_leaf 45 = .ok (.lreturn, 1) := by decide +kernel
theorem dX11_seen_0 : decode cX11_seen 0 = .ok (.aload_n 0, 1) := by decide +kernel
theorem dX11_seen_1 : decode cX11_seen 1 = .ok (.iload_n 1, 1) := by decide +kernel
theorem dX11_seen_2 : decode cX11_seen 2 = .ok (.ifCond .lt 12, 3) := by decide +kernel
theorem dX11_seen_5 : decode cX11_seen 5 = .ok (.iload_n 1, 1) := by decide +kernel
theorem dX11_seen_6 : decode cX11_seen 6 = .ok (.iconst 2, 1) := by decide +kernel
theorem dX11_seen_7 : decode cX11_seen 7 = .ok (.if_icmp .gt 7, 3) := by decide +kernel
theorem dX11_seen_10 : decode cX11_seen 10 = .ok (.iconst 0, 1) := by decide +kernel
theorem dX11_seen_11 : decode cX11_seen 11 = .ok (.goto 4, 3) := by decide +kernel
theorem dX11_seen_14 : decode cX11_seen 14 = .ok (.iconst 1, 1) := by decide +kernel
theorem dX11_seen_15 : decode cX11_seen 15 = .ok (.putfield 160, 3) := by decide +kernel
theorem dX11_seen_18 : decode cX11_seen 18 = .ok (.iload_n 1, 1) := by decide +kernel
theorem dX11_seen_19 : decode cX11_seen 19 = .ok (.ifCond .ne 10, 3) := by decide +kernel
theorem dX11_seen_22 : decode cX11_seen 22 = .ok (.aload_n 0, 1) := by decide +kernel
theorem dX11_seen_23 : decode cX11_seen 23 = .ok (.getfield 338, 3) := by decide +kernel
theorem dX11_seen_26 : decode cX11_seen 26 = .ok (.goto 28, 3) := by decide +kernel
theorem dX11_seen_29 : decode cX11_seen 29 = .ok (.iload_n 1, 1) := by decide +kernel
theorem dX11_seen_30 : decode cX11_seen 30 = .ok (.iconst 1, 1) := by decide +kernel
theorem dX11_seen_31 : decode cX11_seen 31 = .ok (.if_icmp .ne 10, 3) := by decide +kernel
theorem dX11_seen_34 : decode cX11_seen 34 = .ok (.aload_n 0, 1) := by decide +kernel
theorem dX11_seen_35 : decode cX11_seen 35 = .ok (.getfield 341, 3) := by decide +kernel
theorem dX11_seen_38 : decode cX11_seen 38 = .ok (.goto 16, 3) := by decide +kernel
theorem dX11_seen_41 : decode cX11_seen 41 = .ok (.iload_n 1, 1) := by decide +kernel
theorem dX11_seen_42 : decode cX11_seen 42 = .ok (.iconst 2, 1) := by decide +kernel
theorem dX11_seen_43 : decode cX11_seen 43 = .ok (.if_icmp .ne 10, 3) := by decide +kernel
theorem dX11_seen_46 : decode cX11_seen 46 = .ok (.aload_n 0, 1) := by decide +kernel
theorem dX11_seen_47 : decode cX11_seen 47 = .ok (.getfield 344, 3) := by decide +kernel
theorem dX11_seen_50 : decode cX11_seen 50 = .ok (.goto 4, 3) := by decide +kernel
theorem dX11_seen_53 : decode cX11_seen 53 = .ok (.iconst 0, 1) := by decide +kernel
theorem dX11_seen_54 : decode cX11_seen 54 = .ok (.ireturn, 1) := by decide +kernel
theorem dX11_beside_0 : decode cX11_beside 0 = .ok (.aload_n 0, 1) := by decide +kernel
theorem dX11_beside_1 : decode cX11_beside 1 = .ok (.iload_n 1, 1) := by decide +kernel
theorem dX11_beside_2 : decode cX11_beside 2 = .ok (.ifCond .lt 13, 3) := by decide +kernel
theorem dX11_beside_5 : decode cX11_beside 5 = .ok (.iload_n 1, 1) := by decide +kernel
theorem dX11_beside_6 : decode cX11_beside 6 = .ok (.bipush 9, 2) := by decide +kernel
theorem dX11_beside_8 : decode cX11_beside 8 = .ok (.if_icmp .gt 7, 3) := by decide +kernel
theorem dX11_beside_11 : decode cX11_beside 11 = .ok (.iconst 0, 1) := by decide +kernel
theorem dX11_beside_12 : decode cX11_beside 12 = .ok (.goto 4, 3) := by decide +kernel
theorem dX11_beside_15 : decode cX11_beside 15 = .ok (.iconst 1, 1) := by decide +kernel
theorem dX11_beside_16 : decode cX11_beside 16 = .ok (.putfield 160, 3) := by decide +kernel
theorem dX11_beside_19 : decode cX11_beside 19 = .ok (.aload_n 0, 1) := by decide +kernel
theorem dX11_beside_20 : decode cX11_beside 20 = .ok (.getfield 160, 3) := by decide +kernel
theorem dX11_beside_23 : decode cX11_beside 23 = .ok (.ifCond .ne 10, 3) := by decide +kernel
theorem dX11_beside_26 : decode cX11_beside 26 = .ok (.aload_n 0, 1) := by decide +kernel
theorem dX11_beside_27 : decode cX11_beside 27 = .ok (.getfield 96, 3) := by decide +kernel
theorem dX11_beside_30 : decode cX11_beside 30 = .ok (.iload_n 1, 1) := by decide +kernel
theorem dX11_beside_31 : decode cX11_beside 31 = .ok (.lload_n 2, 1) := by decide +kernel
theorem dX11_beside_32 : decode cX11_beside 32 = .ok (.lastore, 1) := by decide +kernel
theorem dX11_beside_33 : decode cX11_beside 33 = .ok (.return_, 1) := by decide +kernel
theorem dX11_valueOf_0 : decode cX11_valueOf 0 = .ok (.sipush 608, 3) := by decide +kernel
theorem dX11_valueOf_3 : decode cX11_valueOf 3 = .ok (.iload_n 1, 1) := by decide +kernel
theorem dX11_valueOf_4 : decode cX11_valueOf 4 = .ok (.imul, 1) := by decide +kernel
theorem dX11_valueOf_5 : decode cX11_valueOf 5 = .ok (.bipush 19, 2) := by decide +kernel
theorem dX11_valueOf_7 : decode cX11_valueOf 7 = .ok (.iload_n 2, 1) := by decide +kernel
theorem dX11_valueOf_8 : decode cX11_valueOf 8 = .ok (.bipush 32, 2) := by decide +kernel
theorem dX11_valueOf_10 : decode cX11_valueOf 10 = .ok (.idiv, 1) := by decide +kernel
theorem dX11_valueOf_11 : decode cX11_valueOf 11 = .ok (.imul, 1) := by decide +kernel
theorem dX11_valueOf_12 : decode cX11_valueOf 12 = .ok (.iadd, 1) := by decide +kernel
theorem dX11_valueOf_13 : decode cX11_valueOf 13 = .ok (.istore_n 3, 1) := by decide +kernel
theorem dX11_valueOf_14 : decode cX11_valueOf 14 = .ok (.iload_n 2, 1) := by decide +kernel
theorem dX11_valueOf_15 : decode cX11_valueOf 15 = .ok (.bipush 32, 2) := by decide +kernel
theorem dX11_valueOf_17 : decode cX11_valueOf 17 = .ok (.irem, 1) := by decide +kernel
theorem dX11_valueOf_18 : decode cX11_valueOf 18 = .ok (.istore 4, 2) := by decide +kernel
theorem dX11_valueOf_20 : decode cX11_valueOf 20 = .ok (.iload 4, 2) := by decide +kernel
theorem dX11_valueOf_22 : decode cX11_valueOf 22 = .ok (.iconst 3, 1) := by decide +kernel
theorem dX11_valueOf_23 : decode cX11_valueOf 23 = .ok (.if_icmp .ge 15, 3) := by decide +kernel
theorem dX11_valueOf_26 : decode cX11_valueOf 26 = .ok (.aload_n 0, 1) := by decide +kernel
theorem dX11_valueOf_27 : decode cX11_valueOf 27 = .ok (.getfield 66, 3) := by decide +kernel
theorem dX11_valueOf_30 : decode cX11_valueOf 30 = .ok (.iload_n 3, 1) := by decide +kernel
theorem dX11_valueOf_31 : decode cX11_valueOf 31 = .ok (.iload 4, 2) := by decide +kernel
theorem dX11_valueOf_33 : decode cX11_valueOf 33 = .ok (.iadd, 1) := by decide +kernel
theorem dX11_valueOf_34 : decode cX11_valueOf 34 = .ok (.laload, 1) := by decide +kernel
theorem dX11_valueOf_35 : decode cX11_valueOf 35 = .ok (.goto 28, 3) := by decide +kernel
theorem dX11_valueOf_38 : decode cX11_valueOf 38 = .ok (.iload 4, 2) := by decide +kernel
theorem dX11_valueOf_40 : decode cX11_valueOf 40 = .ok (.bipush 16, 2) := by decide +kernel
theorem dX11_valueOf_42 : decode cX11_valueOf 42 = .ok (.if_icmp .lt 20, 3) := by decide +kernel
theorem dX11_valueOf_45 : decode cX11_valueOf 45 = .ok (.aload_n 0, 1) := by decide +kernel
theorem dX11_valueOf_46 : decode cX11_valueOf 46 = .ok (.getfield 66, 3) := by decide +kernel
theorem dX11_valueOf_49 : decode cX11_valueOf 49 = .ok (.iload_n 3, 1) := by decide +kernel
theorem dX11_valueOf_50 : decode cX11_valueOf 50 = .ok (.iconst 3, 1) := by decide +kernel
theorem dX11_valueOf_51 : decode cX11_valueOf 51 = .ok (.iadd, 1) := by decide +kernel
theorem dX11_valueOf_52 : decode cX11_valueOf 52 = .ok (.iload 4, 2) := by decide +kernel
theorem dX11_valueOf_54 : decode cX11_valueOf 54 = .ok (.iadd, 1) := by decide +kernel
theorem dX11_valueOf_55 : decode cX11_valueOf 55 = .ok (.bipush 16, 2) := by decide +kernel
theorem dX11_valueOf_57 : decode cX11_valueOf 57 = .ok (.isub, 1) := by decide +kernel
theorem dX11_valueOf_58 : decode cX11_valueOf 58 = .ok (.laload, 1) := by decide +kernel
theorem dX11_valueOf_59 : decode cX11_valueOf 59 = .ok (.goto 4, 3) := by decide +kernel
theorem dX11_valueOf_62 : decode cX11_valueOf 62 = .ok (.lconst 0, 1) := by decide +kernel
theorem dX11_valueOf_63 : decode cX11_valueOf 63 = .ok (.lreturn, 1) := by decide +kernel
/-- an int that is none of 0 .. N - 1 -/
def wi_out (x : Int32) (N : Nat) : Prop := x < 0 ∨ nI N ≤ x
theorem wi_ix (x : Int32) {N : Nat} (hN : N < 2 ^ 31) : wi_out x N ∨ ∃ j, j < N ∧ x = nI j := by
  rcases pk_ix x hN with h | h | h
  · exact Or.inl (Or.inl h)
  · exact Or.inl (Or.inr h)
  · exact Or.inr h
theorem wi_le {x : Int32} {a b : Nat} (h : nI a ≤ x) (hab : b ≤ a) (ha : a < 2 ^ 31) : nI b ≤ x := by
  rw [Int32.le_iff_toInt_le, nI_toInt ha] at h
  rw [Int32.le_iff_toInt_le, nI_toInt (by omega)]
  omega
theorem wi_gt {x : Int32} {a b : Nat} (h : nI a ≤ x) (hab : b < a) (ha : a < 2 ^ 31) : nI b < x := by
  rw [Int32.le_iff_toInt_le, nI_toInt ha] at h
  rw [Int32.lt_iff_toInt_lt, nI_toInt (by omega)]
  omega
/-- the roads that can't be -/
theorem wi_d1 {x : Int32} {N : Nat} {P : Prop} (h : wi_out x N) (h1 : ¬ x < 0) (h2 : ¬ nI N ≤ x) : P := (h.elim h1 h2).elim
theorem wi_d2 {x : Int32} {N k : Nat} {P : Prop} (h : wi_out x N) (hk : k < N) (hN : N < 2 ^ 31) (h1 : ¬ x < 0) (h2 : ¬ nI k < x) : P := (h.elim h1 (fun q => h2 (wi_gt q hk hN))).elim
theorem wi_d3 {x : Int32} {N k : Nat} {P : Prop} (h : wi_out x N) (hk : k < N) (hN : N < 2 ^ 31) (h1 : ¬ x < 0) (h2 : x ≤ nI k) : P := (h.elim h1 (fun q => by
  have := wi_gt q hk hN
  rw [Int32.lt_iff_toInt_lt] at this
  rw [Int32.le_iff_toInt_le] at h2
  omega)).elim
theorem wi_l {x : Int32} {N : Nat} (hN : N < 2 ^ 31) (h : wi_out x N) : ¬ (¬ x.toInt64 < 0 ∧ x.toInt64 < (nI N).toInt64) := by
  rintro ⟨h1, h2⟩
  rw [nI_l hN] at h2
  rw [Int64.lt_iff_toInt_lt, Int32.toInt_toInt64] at h1 h2
  rw [lN_toInt hN] at h2
  rcases h with h | h
  · rw [Int32.lt_iff_toInt_lt] at h
    exact h1 h
  · rw [Int32.le_iff_toInt_le, nI_toInt hN] at h
    omega
theorem cw_in {G : rx_E} {d : Nat} {j N : Nat} {mu : rx_M} (hG : rx_OK G) (hj : j < N) (hN : N < 2 ^ 31) : rx_C G MX10_isWithin d [.long (lN j), .int (nI N)] mu 0 0 (fun v m => v = some (.int (nI 1)) ∧ m = mu) := by
  refine rx_Cm (cc_within hG) ?_
  rintro _ _ ⟨⟨r, hr, rfl⟩, rfl⟩
  rcases hr with ⟨rfl, _⟩ | ⟨rfl, hr⟩
  · exact ⟨rfl, rfl⟩
  · refine absurd ⟨?_, ?_⟩ hr
    · rw [show (0 : Int64) = lN 0 from rfl, lN_lt (by omega) (by omega)]; omega
    · rw [nI_l hN, lN_lt (by omega) (by omega)]; exact hj
theorem cw_out {G : rx_E} {d : Nat} {x : Int32} {N : Nat} {mu : rx_M} (hG : rx_OK G) (hx : wi_out x N) (hN : N < 2 ^ 31) : rx_C G MX10_isWithin d [.long x.toInt64, .int (nI N)] mu 0 0 (fun v m => v = some (.int (nI 0)) ∧ m = mu) := by
  refine rx_Cm (cc_within hG) ?_
  rintro _ _ ⟨⟨r, hr, rfl⟩, rfl⟩
  rcases hr with ⟨rfl, hr⟩ | ⟨rfl, _⟩
  · exact absurd hr (wi_l hN hx)
  · exact ⟨rfl, rfl⟩
theorem acct_out {x : Int32} (h : wi_out x 32) : ¬ vm_acct x.toInt64 := fun q => wi_l (by decide) h ⟨fun e => by have := q.1; rw [Int64.le_iff_toInt_le] at this; rw [Int64.lt_iff_toInt_lt] at e; omega, q.2⟩
theorem cw_acct {G : rx_E} {d : Nat} {j : Nat} {mu : rx_M} (hG : rx_OK G) (hj : j < 32) : rx_C G MX10_isAccount (d + 1) [.long (lN j)] mu 0 0 (fun v m => v = some (.int (nI 1)) ∧ m = mu) := by
  refine rx_Cm (cc_isAccount hG) ?_
  rintro _ _ ⟨⟨r, hr, rfl⟩, rfl⟩
  rcases hr with ⟨rfl, _⟩ | ⟨rfl, hr⟩
  · exact ⟨rfl, rfl⟩
  · exact absurd (lN_isacct hj) hr
theorem cw_acctO {G : rx_E} {d : Nat} {x : Int32} {mu : rx_M} (hG : rx_OK G) (hx : wi_out x 32) : rx_C G MX10_isAccount (d + 1) [.long x.toInt64] mu 0 0 (fun v m => v = some (.int (nI 0)) ∧ m = mu) := by
  refine rx_Cm (cc_isAccount hG) ?_
  rintro _ _ ⟨⟨r, hr, rfl⟩, rfl⟩
  rcases hr with ⟨rfl, hr⟩ | ⟨rfl, _⟩
  · exact absurd hr (acct_out hx)
  · exact ⟨rfl, rfl⟩
theorem cf_isBlock {G : rx_E} {d : Nat} {C : rx_M} {S : gs_T} (hG : rx_OK G) {nb : Nat} (h05 : C.1 0 5 = nI nb) (hnb : nb ≤ 40) {b : Nat} (hb : b < nb) : rx_C G MX10_isBlock (d + 1) [.ref 0, .int (nI b)] (gl C S) 0 0 (fun v mu => v = some (.int (nI 1)) ∧ mu = gl C S) := by
  refine rx_meth0 (by decide +kernel) rfl (Nat.le_of_ble_eq_true rfl) ?_
  refine rx_iload_n dX10_isBlock_0 rfl ?_
  refine rx_i2l dX10_isBlock_1 ?_
  refine rx_tl (y := lN b) (nI_l (by omega)) ?_
  refine rx_aload_n dX10_isBlock_2 rfl rfl ?_
  refine gcv_getI (v := nI nb) hG hf_RX10_38 rfl dX10_isBlock_3 rfl rfl rfl h05 ?_
  refine rx_invS0 (as := [.long _, .int _]) hG okX10_isWithin lk_RX10_127 dX10_isBlock_6 rfl (by simp [Value.category]) (cw_in hG hb (by omega)) ?_
  rintro _ _ ⟨rfl, rfl⟩
  exact rx_zret rfl rfl dX10_isBlock_9 ⟨rfl, rfl⟩
theorem cf_isBlockO {G : rx_E} {d : Nat} {C : rx_M} {S : gs_T} (hG : rx_OK G) {nb : Nat} (h05 : C.1 0 5 = nI nb) (hnb : nb ≤ 40) {x : Int32} (hx : wi_out x nb) : rx_C G MX10_isBlock (d + 1) [.ref 0, .int x] (gl C S) 0 0 (fun v mu => v = some (.int (nI 0)) ∧ mu = gl C S) := by
  refine rx_meth0 (by decide +kernel) rfl (Nat.le_of_ble_eq_true rfl) ?_
  refine rx_iload_n dX10_isBlock_0 rfl ?_
  refine rx_i2l dX10_isBlock_1 ?_
  refine rx_aload_n dX10_isBlock_2 rfl rfl ?_
  refine gcv_getI (v := nI nb) hG hf_RX10_38 rfl dX10_isBlock_3 rfl rfl rfl h05 ?_
  refine rx_invS0 (as := [.long _, .int _]) hG okX10_isWithin lk_RX10_127 dX10_isBlock_6 rfl (by simp [Value.category]) (cw_out hG hx (by omega)) ?_
  rintro _ _ ⟨rfl, rfl⟩
  exact rx_zret rfl rfl dX10_isBlock_9 ⟨rfl, rfl⟩
theorem mf_isBlock {G : rx_E} {d : Nat} {C : rx_M} {S : gs_T} (hG : rx_OK G) {nb : Nat} (h15 : S.1 52 15 = nI nb) (hnb : nb ≤ 40) {b : Nat} (hb : b < nb) : rx_C G MX11_isBlock d [.ref 52, .int (nI b)] (gl C S) 0 0 (fun v mu => v = some (.int (nI 1)) ∧ mu = gl C S) := by
  refine rx_meth0 (by decide +kernel) rfl (Nat.le_of_ble_eq_true rfl) ?_
  refine rx_iload_n dX11_isBlock_0 rfl ?_
  refine rx_if_lt (tgt := 16) dX11_isBlock_1 (by decide) (fun h1 => (absurd h1 (nI_pos (by omega)))) (fun h1 => ?_)
  refine rx_iload_n dX11_isBlock_4 rfl ?_
  refine rx_aload_n dX11_isBlock_5 rfl rfl ?_
  refine gmv_getI (v := nI nb) hG hf_RX11_156 rfl dX11_isBlock_6 rfl rfl rfl h15 ?_
  refine rx_icmp_ge (tgt := 16) dX11_isBlock_9 (by decide) (fun h9 => (absurd h9 (by rw [nI_leI (by omega) (by omega)]; omega))) (fun h9 => ?_)
  refine rx_iconst (v := nI 1) dX11_isBlock_12 rfl ?_
  refine rx_goto (tgt := 17) dX11_isBlock_13 (by decide) ?_
  exact rx_zret rfl rfl dX11_isBlock_17 ⟨rfl, rfl⟩
theorem mf_isBlockO {G : rx_E} {d : Nat} {C : rx_M} {S : gs_T} (hG : rx_OK G) {nb : Nat} (h15 : S.1 52 15 = nI nb) (hnb : nb ≤ 40) {x : Int32} (hx : wi_out x nb) : rx_C G MX11_isBlock d [.ref 52, .int x] (gl C S) 0 0 (fun v mu => v = some (.int (nI 0)) ∧ mu = gl C S) := by
  refine rx_meth0 (by decide +kernel) rfl (Nat.le_of_ble_eq_true rfl) ?_
  refine rx_iload_n dX11_isBlock_0 rfl ?_
  refine rx_if_lt (tgt := 16) dX11_isBlock_1 (by decide) (fun h1 => ?_) (fun h1 => ?_)
  · refine rx_iconst (v := nI 0) dX11_isBlock_16 rfl ?_
    exact rx_zret rfl rfl dX11_isBlock_17 ⟨rfl, rfl⟩
  · refine rx_iload_n dX11_isBlock_4 rfl ?_
    refine rx_aload_n dX11_isBlock_5 rfl rfl ?_
    refine gmv_getI (v := nI nb) hG hf_RX11_156 rfl dX11_isBlock_6 rfl rfl rfl h15 ?_
    refine rx_icmp_ge (tgt := 16) dX11_isBlock_9 (by decide) (fun h9 => ?_) (fun h9 => wi_d1 hx h1 h9) 
    refine rx_iconst (v := nI 0) dX11_isBlock_16 rfl ?_
    exact rx_zret rfl rfl dX11_isBlock_17 ⟨rfl, rfl⟩
theorem gk44 : ∀ {j : Nat}, j < 40 → gk_R 44 j = none := by decide
theorem gk43 : ∀ {j : Nat}, j < 10 → gk_R 43 j = none := by decide
theorem cf_told_b {G : rx_E} {d : Nat} {C : rx_M} {S : gs_T} (hG : rx_OK G) {nb : Nat} (h05 : C.1 0 5 = nI nb) (hnb : nb ≤ 40) {x : Int32} {y2 : Int32} (hx : wi_out x nb) : rx_X G MX10_told (d + 8) [.ref 0, .int x, .int y2] (gl C S) 8 2000 (fun _ _ => False) (zq C S "java/lang/IndexOutOfBoundsException") := by
  refine rx_meth (by decide +kernel) rfl (Nat.le_of_ble_eq_true rfl) ?_
  refine rx_aload_n dX10_told_0 rfl rfl ?_
  refine rx_iload_n dX10_told_1 rfl ?_
  refine gv_invV (as := [.int _]) hG okX10_isBlock lk_RX10_150 rfl rfl dX10_told_2 rfl (by simp [Value.category]) (cf_isBlockO hG h05 hnb hx) ?_
  rintro _ _ ⟨rfl, rfl⟩
  refine rx_if_eq (tgt := 18) dX10_told_5 (by decide) (fun h5 => ?_) (fun h5 => (absurd h5 (by decide))) 
  exact gx_throw hG rfl rfl th_x hw_870 dX10_told_18 dX10_told_21 dX10_told_22 dX10_told_24 dX10_told_27
theorem cf_receipt_b {G : rx_E} {d : Nat} {C : rx_M} {S : gs_T} (hG : rx_OK G) {nb : Nat} (h05 : C.1 0 5 = nI nb) (hnb : nb ≤ 40) {x : Int32} {y2 : Int32} {y3 : Int32} (hx : wi_out x nb) : rx_X G MX10_receipt (d + 8) [.ref 0, .int x, .int y2, .int y3] (gl C S) 8 2000 (fun _ _ => False) (zq C S "java/lang/IndexOutOfBoundsException") := by
  refine rx_meth (by decide +kernel) rfl (Nat.le_of_ble_eq_true rfl) ?_
  refine rx_aload_n dX10_receipt_0 rfl rfl ?_
  refine rx_iload_n dX10_receipt_1 rfl ?_
  refine gv_invV (as := [.int _]) hG okX10_isBlock lk_RX10_150 rfl rfl dX10_receipt_2 rfl (by simp [Value.category]) (cf_isBlockO hG h05 hnb hx) ?_
  rintro _ _ ⟨rfl, rfl⟩
  refine rx_if_eq (tgt := 37) dX10_receipt_5 (by decide) (fun h5 => ?_) (fun h5 => (absurd h5 (by decide))) 
  exact gx_throw hG rfl rfl th_x hw_871 dX10_receipt_37 dX10_receipt_40 dX10_receipt_41 dX10_receipt_43 dX10_receipt_46
theorem cf_event_b {G : rx_E} {d : Nat} {C : rx_M} {S : gs_T} (hG : rx_OK G) {nb : Nat} (h05 : C.1 0 5 = nI nb) (hnb : nb ≤ 40) {x : Int32} {y2 : Int32} {y3 : Int32} (hx : wi_out x nb) : rx_X G MX10_event (d + 8) [.ref 0, .int x, .int y2, .int y3] (gl C S) 8 2000 (fun _ _ => False) (zq C S "java/lang/IndexOutOfBoundsException") := by
  refine rx_meth (by decide +kernel) rfl (Nat.le_of_ble_eq_true rfl) ?_
  refine rx_aload_n dX10_event_0 rfl rfl ?_
  refine rx_iload_n dX10_event_1 rfl ?_
  refine gv_invV (as := [.int _]) hG okX10_isBlock lk_RX10_150 rfl rfl dX10_event_2 rfl (by simp [Value.category]) (cf_isBlockO hG h05 hnb hx) ?_
  rintro _ _ ⟨rfl, rfl⟩
  refine rx_if_eq (tgt := 37) dX10_event_5 (by decide) (fun h5 => ?_) (fun h5 => (absurd h5 (by decide))) 
  exact gx_throw hG rfl rfl th_x hw_872 dX10_event_37 dX10_event_40 dX10_event_41 dX10_event_43 dX10_event_46
theorem cf_leaf_b {G : rx_E} {d : Nat} {C : rx_M} {S : gs_T} (hG : rx_OK G) {nb : Nat} (h05 : C.1 0 5 = nI nb) (hnb : nb ≤ 40) {x : Int32} {y2 : Int32} (hx : wi_out x nb) : rx_X G MX10_leaf (d + 8) [.ref 0, .int x, .int y2] (gl C S) 8 2000 (fun _ _ => False) (zq C S "java/lang/IndexOutOfBoundsException") := by
  refine rx_meth (by decide +kernel) rfl (Nat.le_of_ble_eq_true rfl) ?_
  refine rx_aload_n dX10_leaf_0 rfl rfl ?_
  refine rx_iload_n dX10_leaf_1 rfl ?_
  refine gv_invV (as := [.int _]) hG okX10_isBlock lk_RX10_150 rfl rfl dX10_leaf_2 rfl (by simp [Value.category]) (cf_isBlockO hG h05 hnb hx) ?_
  rintro _ _ ⟨rfl, rfl⟩
  refine rx_if_eq (tgt := 19) dX10_leaf_5 (by decide) (fun h5 => ?_) (fun h5 => (absurd h5 (by decide))) 
  exact gx_throw hG rfl rfl th_x hw_873 dX10_leaf_19 dX10_leaf_22 dX10_leaf_23 dX10_leaf_25 dX10_leaf_28
theorem cf_told_w {G : rx_E} {d : Nat} {C : rx_M} {S : gs_T} (hG : rx_OK G) {nb : Nat} (h05 : C.1 0 5 = nI nb) (hnb : nb ≤ 40) {b : Nat} {x : Int32} (hb : b < nb) (hx : wi_out x 7) : rx_X G MX10_told (d + 8) [.ref 0, .int (nI b), .int x] (gl C S) 8 2000 (fun _ _ => False) (zq C S "java/lang/IndexOutOfBoundsException") := by
  refine rx_meth (by decide +kernel) rfl (Nat.le_of_ble_eq_true rfl) ?_
  refine rx_aload_n dX10_told_0 rfl rfl ?_
  refine rx_iload_n dX10_told_1 rfl ?_
  refine gv_invV (as := [.int _]) hG okX10_isBlock lk_RX10_150 rfl rfl dX10_told_2 rfl (by simp [Value.category]) (cf_isBlock hG h05 hnb hb) ?_
  rintro _ _ ⟨rfl, rfl⟩
  refine rx_if_eq (tgt := 18) dX10_told_5 (by decide) (fun h5 => (absurd h5 (by decide))) (fun h5 => ?_)
  refine rx_iload_n dX10_told_8 rfl ?_
  refine rx_i2l dX10_told_9 ?_
  refine rx_bipush (v := nI 7) dX10_told_10 rfl ?_
  refine rx_invS0 (as := [.long _, .int _]) hG okX10_isWithin lk_RX10_127 dX10_told_12 rfl (by simp [Value.category]) (cw_out hG hx (by omega)) ?_
  rintro _ _ ⟨rfl, rfl⟩
  refine rx_if_ne (tgt := 28) dX10_told_15 (by decide) (fun h15 => (absurd h15 (by decide))) (fun h15 => ?_)
  exact gx_throw hG rfl rfl th_x hw_870 dX10_told_18 dX10_told_21 dX10_told_22 dX10_told_24 dX10_told_27
theorem cf_told0 {G : rx_E} {d : Nat} {C : rx_M} {S : gs_T} (hG : rx_OK G) {nb : Nat} (h05 : C.1 0 5 = nI nb) (hnb : nb ≤ 40) {b : Nat} {a : wA} {q : wB} (hb : b < nb) (hr : C.2.2.1 44 b = some a.1) (hB : cB1 C a q) (hm : q.1.2.2.1 ≤ 10) (he : q.1.2.2.2 ≤ 60) : rx_X G MX10_told (d + 8) [.ref 0, .int (nI b), .int (nI 0)] (gl C S) 8 2000 (fun v mu => v = some (.int (q.1.1)) ∧ ∃ C', mu = gl C' S ∧ C' = C) (fun _ _ => False) := by
  refine rx_meth (by decide +kernel) rfl (Nat.le_of_ble_eq_true rfl) ?_
  refine rx_aload_n dX10_told_0 rfl rfl ?_
  refine rx_iload_n dX10_told_1 rfl ?_
  refine gv_invV (as := [.int _]) hG okX10_isBlock lk_RX10_150 rfl rfl dX10_told_2 rfl (by simp [Value.category]) (cf_isBlock hG h05 hnb hb) ?_
  rintro _ _ ⟨rfl, rfl⟩
  refine rx_if_eq (tgt := 18) dX10_told_5 (by decide) (fun h5 => (absurd h5 (by decide))) (fun h5 => ?_)
  refine rx_iload_n dX10_told_8 rfl ?_
  refine rx_i2l dX10_told_9 ?_
  refine rx_tl (y := lN 0) (nI_l (by omega)) ?_
  refine rx_bipush (v := nI 7) dX10_told_10 rfl ?_
  refine rx_invS0 (as := [.long _, .int _]) hG okX10_isWithin lk_RX10_127 dX10_told_12 rfl (by simp [Value.category]) (cw_in hG (by decide) (by omega)) ?_
  rintro _ _ ⟨rfl, rfl⟩
  refine rx_if_ne (tgt := 28) dX10_told_15 (by decide) (fun h15 => ?_) (fun h15 => (absurd h15 (by decide))) 
  refine rx_aload_n dX10_told_28 rfl rfl ?_
  refine g_getR hG hf_RX10_31 rfl dX10_told_29 rfl rfl rfl ?_
  refine rx_iload_n dX10_told_32 rfl ?_
  refine gd_aald hG dX10_told_33 rfl rfl (by decide) rfl (show b < 40 by omega) (by decide) (gk44 (by omega)) hr ?_
  refine rx_astore_n dX10_told_34 (by decide) rfl ?_
  refine rx_iload_n dX10_told_35 rfl ?_
  refine rx_tabIn (tgt := 76) dX10_told_36 (by decide) (by decide) rfl (by decide) ?_
  refine rx_aload_n dX10_told_76 rfl rfl ?_
  refine gy_getI (v := q.1.1) hG hf_RX10_189 rfl dX10_told_77 hB.1.1 hB.2.1.1 ?_
  exact rx_iret rfl dX10_told_80 ⟨rfl, C, rfl, rfl⟩
theorem cf_told1 {G : rx_E} {d : Nat} {C : rx_M} {S : gs_T} (hG : rx_OK G) {nb : Nat} (h05 : C.1 0 5 = nI nb) (hnb : nb ≤ 40) {b : Nat} {a : wA} {q : wB} (hb : b < nb) (hr : C.2.2.1 44 b = some a.1) (hB : cB1 C a q) (hm : q.1.2.2.1 ≤ 10) (he : q.1.2.2.2 ≤ 60) : rx_X G MX10_told (d + 8) [.ref 0, .int (nI b), .int (nI 1)] (gl C S) 8 2000 (fun v mu => v = some (.int (nI q.1.2.1)) ∧ ∃ C', mu = gl C' S ∧ C' = C) (fun _ _ => False) := by
  refine rx_meth (by decide +kernel) rfl (Nat.le_of_ble_eq_true rfl) ?_
  refine rx_aload_n dX10_told_0 rfl rfl ?_
  refine rx_iload_n dX10_told_1 rfl ?_
  refine gv_invV (as := [.int _]) hG okX10_isBlock lk_RX10_150 rfl rfl dX10_told_2 rfl (by simp [Value.category]) (cf_isBlock hG h05 hnb hb) ?_
  rintro _ _ ⟨rfl, rfl⟩
  refine rx_if_eq (tgt := 18) dX10_told_5 (by decide) (fun h5 => (absurd h5 (by decide))) (fun h5 => ?_)
  refine rx_iload_n dX10_told_8 rfl ?_
  refine rx_i2l dX10_told_9 ?_
  refine rx_tl (y := lN 1) (nI_l (by omega)) ?_
  refine rx_bipush (v := nI 7) dX10_told_10 rfl ?_
  refine rx_invS0 (as := [.long _, .int _]) hG okX10_isWithin lk_RX10_127 dX10_told_12 rfl (by simp [Value.category]) (cw_in hG (by decide) (by omega)) ?_
  rintro _ _ ⟨rfl, rfl⟩
  refine rx_if_ne (tgt := 28) dX10_told_15 (by decide) (fun h15 => ?_) (fun h15 => (absurd h15 (by decide))) 
  refine rx_aload_n dX10_told_28 rfl rfl ?_
  refine g_getR hG hf_RX10_31 rfl dX10_told_29 rfl rfl rfl ?_
  refine rx_iload_n dX10_told_32 rfl ?_
  refine gd_aald hG dX10_told_33 rfl rfl (by decide) rfl (show b < 40 by omega) (by decide) (gk44 (by omega)) hr ?_
  refine rx_astore_n dX10_told_34 (by decide) rfl ?_
  refine rx_iload_n dX10_told_35 rfl ?_
  refine rx_tabIn (tgt := 81) dX10_told_36 (by decide) (by decide) rfl (by decide) ?_
  refine rx_aload_n dX10_told_81 rfl rfl ?_
  refine gy_getI (v := nI q.1.2.1) hG hf_RX10_157 rfl dX10_told_82 hB.1.1 hB.2.1.2.1 ?_
  exact rx_iret rfl dX10_told_85 ⟨rfl, C, rfl, rfl⟩
theorem cf_told2 {G : rx_E} {d : Nat} {C : rx_M} {S : gs_T} (hG : rx_OK G) {nb : Nat} (h05 : C.1 0 5 = nI nb) (hnb : nb ≤ 40) {b : Nat} {a : wA} {q : wB} (hb : b < nb) (hr : C.2.2.1 44 b = some a.1) (hB : cB1 C a q) (hm : q.1.2.2.1 ≤ 10) (he : q.1.2.2.2 ≤ 60) : rx_X G MX10_told (d + 8) [.ref 0, .int (nI b), .int (nI 2)] (gl C S) 8 2000 (fun v mu => v = some (.int (nI q.1.2.2.1)) ∧ ∃ C', mu = gl C' S ∧ C' = C) (fun _ _ => False) := by
  refine rx_meth (by decide +kernel) rfl (Nat.le_of_ble_eq_true rfl) ?_
  refine rx_aload_n dX10_told_0 rfl rfl ?_
  refine rx_iload_n dX10_told_1 rfl ?_
  refine gv_invV (as := [.int _]) hG okX10_isBlock lk_RX10_150 rfl rfl dX10_told_2 rfl (by simp [Value.category]) (cf_isBlock hG h05 hnb hb) ?_
  rintro _ _ ⟨rfl, rfl⟩
  refine rx_if_eq (tgt := 18) dX10_told_5 (by decide) (fun h5 => (absurd h5 (by decide))) (fun h5 => ?_)
  refine rx_iload_n dX10_told_8 rfl ?_
  refine rx_i2l dX10_told_9 ?_
  refine rx_tl (y := lN 2) (nI_l (by omega)) ?_
  refine rx_bipush (v := nI 7) dX10_told_10 rfl ?_
  refine rx_invS0 (as := [.long _, .int _]) hG okX10_isWithin lk_RX10_127 dX10_told_12 rfl (by simp [Value.category]) (cw_in hG (by decide) (by omega)) ?_
  rintro _ _ ⟨rfl, rfl⟩
  refine rx_if_ne (tgt := 28) dX10_told_15 (by decide) (fun h15 => ?_) (fun h15 => (absurd h15 (by decide))) 
  refine rx_aload_n dX10_told_28 rfl rfl ?_
  refine g_getR hG hf_RX10_31 rfl dX10_told_29 rfl rfl rfl ?_
  refine rx_iload_n dX10_told_32 rfl ?_
  refine gd_aald hG dX10_told_33 rfl rfl (by decide) rfl (show b < 40 by omega) (by decide) (gk44 (by omega)) hr ?_
  refine rx_astore_n dX10_told_34 (by decide) rfl ?_
  refine rx_iload_n dX10_told_35 rfl ?_
  refine rx_tabIn (tgt := 86) dX10_told_36 (by decide) (by decide) rfl (by decide) ?_
  refine rx_aload_n dX10_told_86 rfl rfl ?_
  refine gy_getR hG hf_RX10_192 rfl dX10_told_87 hB.1.1 hB.2.1.2.2.2.1 ?_
  refine gy_alen hG dX10_told_90 hB.2.2.2.1.1.1 (by decide) ?_
  refine rx_iconst (v := nI 3) dX10_told_91 rfl ?_
  refine rx_idiv dX10_told_92 (by decide) ?_
  refine rx_ti (y := nI q.1.2.2.1) ((pk_div (by omega) (by decide) (by decide)).trans (congrArg nI (by omega))) ?_
  exact rx_iret rfl dX10_told_93 ⟨rfl, C, rfl, rfl⟩
theorem cf_told3 {G : rx_E} {d : Nat} {C : rx_M} {S : gs_T} (hG : rx_OK G) {nb : Nat} (h05 : C.1 0 5 = nI nb) (hnb : nb ≤ 40) {b : Nat} {a : wA} {q : wB} (hb : b < nb) (hr : C.2.2.1 44 b = some a.1) (hB : cB1 C a q) (hm : q.1.2.2.1 ≤ 10) (he : q.1.2.2.2 ≤ 60) : rx_X G MX10_told (d + 8) [.ref 0, .int (nI b), .int (nI 3)] (gl C S) 8 2000 (fun v mu => v = some (.int (nI q.1.2.2.2)) ∧ ∃ C', mu = gl C' S ∧ C' = C) (fun _ _ => False) := by
  refine rx_meth (by decide +kernel) rfl (Nat.le_of_ble_eq_true rfl) ?_
  refine rx_aload_n dX10_told_0 rfl rfl ?_
  refine rx_iload_n dX10_told_1 rfl ?_
  refine gv_invV (as := [.int _]) hG okX10_isBlock lk_RX10_150 rfl rfl dX10_told_2 rfl (by simp [Value.category]) (cf_isBlock hG h05 hnb hb) ?_
  rintro _ _ ⟨rfl, rfl⟩
  refine rx_if_eq (tgt := 18) dX10_told_5 (by decide) (fun h5 => (absurd h5 (by decide))) (fun h5 => ?_)
  refine rx_iload_n dX10_told_8 rfl ?_
  refine rx_i2l dX10_told_9 ?_
  refine rx_tl (y := lN 3) (nI_l (by omega)) ?_
  refine rx_bipush (v := nI 7) dX10_told_10 rfl ?_
  refine rx_invS0 (as := [.long _, .int _]) hG okX10_isWithin lk_RX10_127 dX10_told_12 rfl (by simp [Value.category]) (cw_in hG (by decide) (by omega)) ?_
  rintro _ _ ⟨rfl, rfl⟩
  refine rx_if_ne (tgt := 28) dX10_told_15 (by decide) (fun h15 => ?_) (fun h15 => (absurd h15 (by decide))) 
  refine rx_aload_n dX10_told_28 rfl rfl ?_
  refine g_getR hG hf_RX10_31 rfl dX10_told_29 rfl rfl rfl ?_
  refine rx_iload_n dX10_told_32 rfl ?_
  refine gd_aald hG dX10_told_33 rfl rfl (by decide) rfl (show b < 40 by omega) (by decide) (gk44 (by omega)) hr ?_
  refine rx_astore_n dX10_told_34 (by decide) rfl ?_
  refine rx_iload_n dX10_told_35 rfl ?_
  refine rx_tabIn (tgt := 94) dX10_told_36 (by decide) (by decide) rfl (by decide) ?_
  refine rx_aload_n dX10_told_94 rfl rfl ?_
  refine gy_getR hG hf_RX10_195 rfl dX10_told_95 hB.1.1 hB.2.1.2.2.2.2.1 ?_
  refine gy_alen hG dX10_told_98 hB.2.2.2.2.1.1 (by decide) ?_
  refine rx_iconst (v := nI 4) dX10_told_99 rfl ?_
  refine rx_idiv dX10_told_100 (by decide) ?_
  refine rx_ti (y := nI q.1.2.2.2) ((pk_div (by omega) (by decide) (by decide)).trans (congrArg nI (by omega))) ?_
  exact rx_iret rfl dX10_told_101 ⟨rfl, C, rfl, rfl⟩
theorem cf_told4 {G : rx_E} {d : Nat} {C : rx_M} {S : gs_T} (hG : rx_OK G) {nb : Nat} (h05 : C.1 0 5 = nI nb) (hnb : nb ≤ 40) {b : Nat} {a : wA} {q : wB} (hb : b < nb) (hr : C.2.2.1 44 b = some a.1) (hB : cB1 C a q) (hm : q.1.2.2.1 ≤ 10) (he : q.1.2.2.2 ≤ 60) : rx_X G MX10_told (d + 8) [.ref 0, .int (nI b), .int (nI 4)] (gl C S) 8 2000 (fun v mu => v = some (.int (q.2.2.2.2.1)) ∧ ∃ C', mu = gl C' S ∧ C' = C) (fun _ _ => False) := by
  refine rx_meth (by decide +kernel) rfl (Nat.le_of_ble_eq_true rfl) ?_
  refine rx_aload_n dX10_told_0 rfl rfl ?_
  refine rx_iload_n dX10_told_1 rfl ?_
  refine gv_invV (as := [.int _]) hG okX10_isBlock lk_RX10_150 rfl rfl dX10_told_2 rfl (by simp [Value.category]) (cf_isBlock hG h05 hnb hb) ?_
  rintro _ _ ⟨rfl, rfl⟩
  refine rx_if_eq (tgt := 18) dX10_told_5 (by decide) (fun h5 => (absurd h5 (by decide))) (fun h5 => ?_)
  refine rx_iload_n dX10_told_8 rfl ?_
  refine rx_i2l dX10_told_9 ?_
  refine rx_tl (y := lN 4) (nI_l (by omega)) ?_
  refine rx_bipush (v := nI 7) dX10_told_10 rfl ?_
  refine rx_invS0 (as := [.long _, .int _]) hG okX10_isWithin lk_RX10_127 dX10_told_12 rfl (by simp [Value.category]) (cw_in hG (by decide) (by omega)) ?_
  rintro _ _ ⟨rfl, rfl⟩
  refine rx_if_ne (tgt := 28) dX10_told_15 (by decide) (fun h15 => ?_) (fun h15 => (absurd h15 (by decide))) 
  refine rx_aload_n dX10_told_28 rfl rfl ?_
  refine g_getR hG hf_RX10_31 rfl dX10_told_29 rfl rfl rfl ?_
  refine rx_iload_n dX10_told_32 rfl ?_
  refine gd_aald hG dX10_told_33 rfl rfl (by decide) rfl (show b < 40 by omega) (by decide) (gk44 (by omega)) hr ?_
  refine rx_astore_n dX10_told_34 (by decide) rfl ?_
  refine rx_iload_n dX10_told_35 rfl ?_
  refine rx_tabIn (tgt := 102) dX10_told_36 (by decide) (by decide) rfl (by decide) ?_
  refine rx_aload_n dX10_told_102 rfl rfl ?_
  refine gy_getI (v := q.2.2.2.2.1) hG hf_RX10_197 rfl dX10_told_103 hB.1.1 hB.2.1.2.2.2.2.2.1 ?_
  exact rx_iret rfl dX10_told_106 ⟨rfl, C, rfl, rfl⟩
theorem cf_told5 {G : rx_E} {d : Nat} {C : rx_M} {S : gs_T} (hG : rx_OK G) {nb : Nat} (h05 : C.1 0 5 = nI nb) (hnb : nb ≤ 40) {b : Nat} {a : wA} {q : wB} (hb : b < nb) (hr : C.2.2.1 44 b = some a.1) (hB : cB1 C a q) (hm : q.1.2.2.1 ≤ 10) (he : q.1.2.2.2 ≤ 60) : rx_X G MX10_told (d + 8) [.ref 0, .int (nI b), .int (nI 5)] (gl C S) 8 2000 (fun v mu => v = some (.int (nI q.2.2.2.2.2)) ∧ ∃ C', mu = gl C' S ∧ C' = C) (fun _ _ => False) := by
  refine rx_meth (by decide +kernel) rfl (Nat.le_of_ble_eq_true rfl) ?_
  refine rx_aload_n dX10_told_0 rfl rfl ?_
  refine rx_iload_n dX10_told_1 rfl ?_
  refine gv_invV (as := [.int _]) hG okX10_isBlock lk_RX10_150 rfl rfl dX10_told_2 rfl (by simp [Value.category]) (cf_isBlock hG h05 hnb hb) ?_
  rintro _ _ ⟨rfl, rfl⟩
  refine rx_if_eq (tgt := 18) dX10_told_5 (by decide) (fun h5 => (absurd h5 (by decide))) (fun h5 => ?_)
  refine rx_iload_n dX10_told_8 rfl ?_
  refine rx_i2l dX10_told_9 ?_
  refine rx_tl (y := lN 5) (nI_l (by omega)) ?_
  refine rx_bipush (v := nI 7) dX10_told_10 rfl ?_
  refine rx_invS0 (as := [.long _, .int _]) hG okX10_isWithin lk_RX10_127 dX10_told_12 rfl (by simp [Value.category]) (cw_in hG (by decide) (by omega)) ?_
  rintro _ _ ⟨rfl, rfl⟩
  refine rx_if_ne (tgt := 28) dX10_told_15 (by decide) (fun h15 => ?_) (fun h15 => (absurd h15 (by decide))) 
  refine rx_aload_n dX10_told_28 rfl rfl ?_
  refine g_getR hG hf_RX10_31 rfl dX10_told_29 rfl rfl rfl ?_
  refine rx_iload_n dX10_told_32 rfl ?_
  refine gd_aald hG dX10_told_33 rfl rfl (by decide) rfl (show b < 40 by omega) (by decide) (gk44 (by omega)) hr ?_
  refine rx_astore_n dX10_told_34 (by decide) rfl ?_
  refine rx_iload_n dX10_told_35 rfl ?_
  refine rx_tabIn (tgt := 107) dX10_told_36 (by decide) (by decide) rfl (by decide) ?_
  refine rx_aload_n dX10_told_107 rfl rfl ?_
  refine gy_getI (v := nI q.2.2.2.2.2) hG hf_RX10_200 rfl dX10_told_108 hB.1.1 hB.2.1.2.2.2.2.2.2 ?_
  exact rx_iret rfl dX10_told_111 ⟨rfl, C, rfl, rfl⟩
theorem cf_receipt_i {G : rx_E} {d : Nat} {C : rx_M} {S : gs_T} (hG : rx_OK G) {nb : Nat} (h05 : C.1 0 5 = nI nb) (hnb : nb ≤ 40) {b : Nat} {a : wA} {q : wB} (hb : b < nb) (hr : C.2.2.1 44 b = some a.1) (hB : cB1 C a q) {x y : Int32} (hm : q.1.2.2.1 ≤ 10) (hx : wi_out x q.1.2.2.1) : rx_X G MX10_receipt (d + 8) [.ref 0, .int (nI b), .int x, .int y] (gl C S) 8 2000 (fun _ _ => False) (zq C S "java/lang/IndexOutOfBoundsException") := by
  refine rx_meth (by decide +kernel) rfl (Nat.le_of_ble_eq_true rfl) ?_
  refine rx_aload_n dX10_receipt_0 rfl rfl ?_
  refine rx_iload_n dX10_receipt_1 rfl ?_
  refine gv_invV (as := [.int _]) hG okX10_isBlock lk_RX10_150 rfl rfl dX10_receipt_2 rfl (by simp [Value.category]) (cf_isBlock hG h05 hnb hb) ?_
  rintro _ _ ⟨rfl, rfl⟩
  refine rx_if_eq (tgt := 37) dX10_receipt_5 (by decide) (fun h5 => (absurd h5 (by decide))) (fun h5 => ?_)
  refine rx_iload_n dX10_receipt_8 rfl ?_
  refine rx_i2l dX10_receipt_9 ?_
  refine rx_aload_n dX10_receipt_10 rfl rfl ?_
  refine g_getR hG hf_RX10_31 rfl dX10_receipt_11 rfl rfl rfl ?_
  refine rx_iload_n dX10_receipt_14 rfl ?_
  refine gd_aald hG dX10_receipt_15 rfl rfl (by decide) rfl (show b < 40 by omega) (by decide) (gk44 (by omega)) hr ?_
  refine gy_getR hG hf_RX10_192 rfl dX10_receipt_16 hB.1.1 hB.2.1.2.2.2.1 ?_
  refine gy_alen hG dX10_receipt_19 hB.2.2.2.1.1.1 (by decide) ?_
  refine rx_iconst (v := nI 3) dX10_receipt_20 rfl ?_
  refine rx_idiv dX10_receipt_21 (by decide) ?_
  refine rx_ti (y := nI q.1.2.2.1) ((pk_div (by omega) (by decide) (by decide)).trans (congrArg nI (by omega))) ?_
  refine rx_invS0 (as := [.long _, .int _]) hG okX10_isWithin lk_RX10_127 dX10_receipt_22 rfl (by simp [Value.category]) (cw_out hG hx (by omega)) ?_
  rintro _ _ ⟨rfl, rfl⟩
  refine rx_if_eq (tgt := 37) dX10_receipt_25 (by decide) (fun h25 => ?_) (fun h25 => (absurd h25 (by decide))) 
  exact gx_throw hG rfl rfl th_x hw_871 dX10_receipt_37 dX10_receipt_40 dX10_receipt_41 dX10_receipt_43 dX10_receipt_46
theorem cf_receipt_w {G : rx_E} {d : Nat} {C : rx_M} {S : gs_T} (hG : rx_OK G) {nb : Nat} (h05 : C.1 0 5 = nI nb) (hnb : nb ≤ 40) {b : Nat} {a : wA} {q : wB} (hb : b < nb) (hr : C.2.2.1 44 b = some a.1) (hB : cB1 C a q) {i : Nat} {y : Int32} (hm : q.1.2.2.1 ≤ 10) (hi : i < q.1.2.2.1) (hy : wi_out y 3) : rx_X G MX10_receipt (d + 8) [.ref 0, .int (nI b), .int (nI i), .int y] (gl C S) 8 2000 (fun _ _ => False) (zq C S "java/lang/IndexOutOfBoundsException") := by
  refine rx_meth (by decide +kernel) rfl (Nat.le_of_ble_eq_true rfl) ?_
  refine rx_aload_n dX10_receipt_0 rfl rfl ?_
  refine rx_iload_n dX10_receipt_1 rfl ?_
  refine gv_invV (as := [.int _]) hG okX10_isBlock lk_RX10_150 rfl rfl dX10_receipt_2 rfl (by simp [Value.category]) (cf_isBlock hG h05 hnb hb) ?_
  rintro _ _ ⟨rfl, rfl⟩
  refine rx_if_eq (tgt := 37) dX10_receipt_5 (by decide) (fun h5 => (absurd h5 (by decide))) (fun h5 => ?_)
  refine rx_iload_n dX10_receipt_8 rfl ?_
  refine rx_i2l dX10_receipt_9 ?_
  refine rx_tl (y := lN i) (nI_l (by omega)) ?_
  refine rx_aload_n dX10_receipt_10 rfl rfl ?_
  refine g_getR hG hf_RX10_31 rfl dX10_receipt_11 rfl rfl rfl ?_
  refine rx_iload_n dX10_receipt_14 rfl ?_
  refine gd_aald hG dX10_receipt_15 rfl rfl (by decide) rfl (show b < 40 by omega) (by decide) (gk44 (by omega)) hr ?_
  refine gy_getR hG hf_RX10_192 rfl dX10_receipt_16 hB.1.1 hB.2.1.2.2.2.1 ?_
  refine gy_alen hG dX10_receipt_19 hB.2.2.2.1.1.1 (by decide) ?_
  refine rx_iconst (v := nI 3) dX10_receipt_20 rfl ?_
  refine rx_idiv dX10_receipt_21 (by decide) ?_
  refine rx_ti (y := nI q.1.2.2.1) ((pk_div (by omega) (by decide) (by decide)).trans (congrArg nI (by omega))) ?_
  refine rx_invS0 (as := [.long _, .int _]) hG okX10_isWithin lk_RX10_127 dX10_receipt_22 rfl (by simp [Value.category]) (cw_in hG hi (by omega)) ?_
  rintro _ _ ⟨rfl, rfl⟩
  refine rx_if_eq (tgt := 37) dX10_receipt_25 (by decide) (fun h25 => (absurd h25 (by decide))) (fun h25 => ?_)
  refine rx_iload_n dX10_receipt_28 rfl ?_
  refine rx_i2l dX10_receipt_29 ?_
  refine rx_iconst (v := nI 3) dX10_receipt_30 rfl ?_
  refine rx_invS0 (as := [.long _, .int _]) hG okX10_isWithin lk_RX10_127 dX10_receipt_31 rfl (by simp [Value.category]) (cw_out hG hy (by omega)) ?_
  rintro _ _ ⟨rfl, rfl⟩
  refine rx_if_ne (tgt := 47) dX10_receipt_34 (by decide) (fun h34 => (absurd h34 (by decide))) (fun h34 => ?_)
  exact gx_throw hG rfl rfl th_x hw_871 dX10_receipt_37 dX10_receipt_40 dX10_receipt_41 dX10_receipt_43 dX10_receipt_46
theorem cf_receipt {G : rx_E} {d : Nat} {C : rx_M} {S : gs_T} (hG : rx_OK G) {nb : Nat} (h05 : C.1 0 5 = nI nb) (hnb : nb ≤ 40) {b : Nat} {a : wA} {q : wB} (hb : b < nb) (hr : C.2.2.1 44 b = some a.1) (hB : cB1 C a q) {i y : Nat} {u : Int64} (hm : q.1.2.2.1 ≤ 10) (hi : i < q.1.2.2.1) (hy : y < 3) (hu : C.2.1 a.2.2.1 (3 * i + y) = u) : rx_X G MX10_receipt (d + 8) [.ref 0, .int (nI b), .int (nI i), .int (nI y)] (gl C S) 8 2000 (fun v mu => v = some (.long (u)) ∧ ∃ C', mu = gl C' S ∧ C' = C) (fun _ _ => False) := by
  refine rx_meth (by decide +kernel) rfl (Nat.le_of_ble_eq_true rfl) ?_
  refine rx_aload_n dX10_receipt_0 rfl rfl ?_
  refine rx_iload_n dX10_receipt_1 rfl ?_
  refine gv_invV (as := [.int _]) hG okX10_isBlock lk_RX10_150 rfl rfl dX10_receipt_2 rfl (by simp [Value.category]) (cf_isBlock hG h05 hnb hb) ?_
  rintro _ _ ⟨rfl, rfl⟩
  refine rx_if_eq (tgt := 37) dX10_receipt_5 (by decide) (fun h5 => (absurd h5 (by decide))) (fun h5 => ?_)
  refine rx_iload_n dX10_receipt_8 rfl ?_
  refine rx_i2l dX10_receipt_9 ?_
  refine rx_tl (y := lN i) (nI_l (by omega)) ?_
  refine rx_aload_n dX10_receipt_10 rfl rfl ?_
  refine g_getR hG hf_RX10_31 rfl dX10_receipt_11 rfl rfl rfl ?_
  refine rx_iload_n dX10_receipt_14 rfl ?_
  refine gd_aald hG dX10_receipt_15 rfl rfl (by decide) rfl (show b < 40 by omega) (by decide) (gk44 (by omega)) hr ?_
  refine gy_getR hG hf_RX10_192 rfl dX10_receipt_16 hB.1.1 hB.2.1.2.2.2.1 ?_
  refine gy_alen hG dX10_receipt_19 hB.2.2.2.1.1.1 (by decide) ?_
  refine rx_iconst (v := nI 3) dX10_receipt_20 rfl ?_
  refine rx_idiv dX10_receipt_21 (by decide) ?_
  refine rx_ti (y := nI q.1.2.2.1) ((pk_div (by omega) (by decide) (by decide)).trans (congrArg nI (by omega))) ?_
  refine rx_invS0 (as := [.long _, .int _]) hG okX10_isWithin lk_RX10_127 dX10_receipt_22 rfl (by simp [Value.category]) (cw_in hG hi (by omega)) ?_
  rintro _ _ ⟨rfl, rfl⟩
  refine rx_if_eq (tgt := 37) dX10_receipt_25 (by decide) (fun h25 => (absurd h25 (by decide))) (fun h25 => ?_)
  refine rx_iload_n dX10_receipt_28 rfl ?_
  refine rx_i2l dX10_receipt_29 ?_
  refine rx_tl (y := lN y) (nI_l (by omega)) ?_
  refine rx_iconst (v := nI 3) dX10_receipt_30 rfl ?_
  refine rx_invS0 (as := [.long _, .int _]) hG okX10_isWithin lk_RX10_127 dX10_receipt_31 rfl (by simp [Value.category]) (cw_in hG hy (by omega)) ?_
  rintro _ _ ⟨rfl, rfl⟩
  refine rx_if_ne (tgt := 47) dX10_receipt_34 (by decide) (fun h34 => ?_) (fun h34 => (absurd h34 (by decide))) 
  refine rx_aload_n dX10_receipt_47 rfl rfl ?_
  refine g_getR hG hf_RX10_31 rfl dX10_receipt_48 rfl rfl rfl ?_
  refine rx_iload_n dX10_receipt_51 rfl ?_
  refine gd_aald hG dX10_receipt_52 rfl rfl (by decide) rfl (show b < 40 by omega) (by decide) (gk44 (by omega)) hr ?_
  refine gy_getR hG hf_RX10_192 rfl dX10_receipt_53 hB.1.1 hB.2.1.2.2.2.1 ?_
  refine rx_iconst (v := nI 3) dX10_receipt_56 rfl ?_
  refine rx_iload_n dX10_receipt_57 rfl ?_
  refine rx_imul dX10_receipt_58 ?_
  refine rx_ti (y := nI (3 * i)) ((pk_mul _ _).trans (congrArg nI (by omega))) ?_
  refine rx_iload_n dX10_receipt_59 rfl ?_
  refine rx_iadd dX10_receipt_60 ?_
  refine rx_ti (y := nI (3 * i + y)) ((nI_add _ _).trans (congrArg nI (by omega))) ?_
  refine gy_lald (j := 3 * i + y) (v := u) hG dX10_receipt_61 hB.2.2.2.1.1.1 rfl (by omega) (by omega) hu ?_
  exact rx_lret rfl dX10_receipt_62 ⟨rfl, C, rfl, rfl⟩
theorem cf_event_i {G : rx_E} {d : Nat} {C : rx_M} {S : gs_T} (hG : rx_OK G) {nb : Nat} (h05 : C.1 0 5 = nI nb) (hnb : nb ≤ 40) {b : Nat} {a : wA} {q : wB} (hb : b < nb) (hr : C.2.2.1 44 b = some a.1) (hB : cB1 C a q) {x y : Int32} (hm : q.1.2.2.2 ≤ 60) (hx : wi_out x q.1.2.2.2) : rx_X G MX10_event (d + 8) [.ref 0, .int (nI b), .int x, .int y] (gl C S) 8 2000 (fun _ _ => False) (zq C S "java/lang/IndexOutOfBoundsException") := by
  refine rx_meth (by decide +kernel) rfl (Nat.le_of_ble_eq_true rfl) ?_
  refine rx_aload_n dX10_event_0 rfl rfl ?_
  refine rx_iload_n dX10_event_1 rfl ?_
  refine gv_invV (as := [.int _]) hG okX10_isBlock lk_RX10_150 rfl rfl dX10_event_2 rfl (by simp [Value.category]) (cf_isBlock hG h05 hnb hb) ?_
  rintro _ _ ⟨rfl, rfl⟩
  refine rx_if_eq (tgt := 37) dX10_event_5 (by decide) (fun h5 => (absurd h5 (by decide))) (fun h5 => ?_)
  refine rx_iload_n dX10_event_8 rfl ?_
  refine rx_i2l dX10_event_9 ?_
  refine rx_aload_n dX10_event_10 rfl rfl ?_
  refine g_getR hG hf_RX10_31 rfl dX10_event_11 rfl rfl rfl ?_
  refine rx_iload_n dX10_event_14 rfl ?_
  refine gd_aald hG dX10_event_15 rfl rfl (by decide) rfl (show b < 40 by omega) (by decide) (gk44 (by omega)) hr ?_
  refine gy_getR hG hf_RX10_195 rfl dX10_event_16 hB.1.1 hB.2.1.2.2.2.2.1 ?_
  refine gy_alen hG dX10_event_19 hB.2.2.2.2.1.1 (by decide) ?_
  refine rx_iconst (v := nI 4) dX10_event_20 rfl ?_
  refine rx_idiv dX10_event_21 (by decide) ?_
  refine rx_ti (y := nI q.1.2.2.2) ((pk_div (by omega) (by decide) (by decide)).trans (congrArg nI (by omega))) ?_
  refine rx_invS0 (as := [.long _, .int _]) hG okX10_isWithin lk_RX10_127 dX10_event_22 rfl (by simp [Value.category]) (cw_out hG hx (by omega)) ?_
  rintro _ _ ⟨rfl, rfl⟩
  refine rx_if_eq (tgt := 37) dX10_event_25 (by decide) (fun h25 => ?_) (fun h25 => (absurd h25 (by decide))) 
  exact gx_throw hG rfl rfl th_x hw_872 dX10_event_37 dX10_event_40 dX10_event_41 dX10_event_43 dX10_event_46
theorem cf_event_w {G : rx_E} {d : Nat} {C : rx_M} {S : gs_T} (hG : rx_OK G) {nb : Nat} (h05 : C.1 0 5 = nI nb) (hnb : nb ≤ 40) {b : Nat} {a : wA} {q : wB} (hb : b < nb) (hr : C.2.2.1 44 b = some a.1) (hB : cB1 C a q) {i : Nat} {y : Int32} (hm : q.1.2.2.2 ≤ 60) (hi : i < q.1.2.2.2) (hy : wi_out y 4) : rx_X G MX10_event (d + 8) [.ref 0, .int (nI b), .int (nI i), .int y] (gl C S) 8 2000 (fun _ _ => False) (zq C S "java/lang/IndexOutOfBoundsException") := by
  refine rx_meth (by decide +kernel) rfl (Nat.le_of_ble_eq_true rfl) ?_
  refine rx_aload_n dX10_event_0 rfl rfl ?_
  refine rx_iload_n dX10_event_1 rfl ?_
  refine gv_invV (as := [.int _]) hG okX10_isBlock lk_RX10_150 rfl rfl dX10_event_2 rfl (by simp [Value.category]) (cf_isBlock hG h05 hnb hb) ?_
  rintro _ _ ⟨rfl, rfl⟩
  refine rx_if_eq (tgt := 37) dX10_event_5 (by decide) (fun h5 => (absurd h5 (by decide))) (fun h5 => ?_)
  refine rx_iload_n dX10_event_8 rfl ?_
  refine rx_i2l dX10_event_9 ?_
  refine rx_tl (y := lN i) (nI_l (by omega)) ?_
  refine rx_aload_n dX10_event_10 rfl rfl ?_
  refine g_getR hG hf_RX10_31 rfl dX10_event_11 rfl rfl rfl ?_
  refine rx_iload_n dX10_event_14 rfl ?_
  refine gd_aald hG dX10_event_15 rfl rfl (by decide) rfl (show b < 40 by omega) (by decide) (gk44 (by omega)) hr ?_
  refine gy_getR hG hf_RX10_195 rfl dX10_event_16 hB.1.1 hB.2.1.2.2.2.2.1 ?_
  refine gy_alen hG dX10_event_19 hB.2.2.2.2.1.1 (by decide) ?_
  refine rx_iconst (v := nI 4) dX10_event_20 rfl ?_
  refine rx_idiv dX10_event_21 (by decide) ?_
  refine rx_ti (y := nI q.1.2.2.2) ((pk_div (by omega) (by decide) (by decide)).trans (congrArg nI (by omega))) ?_
  refine rx_invS0 (as := [.long _, .int _]) hG okX10_isWithin lk_RX10_127 dX10_event_22 rfl (by simp [Value.category]) (cw_in hG hi (by omega)) ?_
  rintro _ _ ⟨rfl, rfl⟩
  refine rx_if_eq (tgt := 37) dX10_event_25 (by decide) (fun h25 => (absurd h25 (by decide))) (fun h25 => ?_)
  refine rx_iload_n dX10_event_28 rfl ?_
  refine rx_i2l dX10_event_29 ?_
  refine rx_iconst (v := nI 4) dX10_event_30 rfl ?_
  refine rx_invS0 (as := [.long _, .int _]) hG okX10_isWithin lk_RX10_127 dX10_event_31 rfl (by simp [Value.category]) (cw_out hG hy (by omega)) ?_
  rintro _ _ ⟨rfl, rfl⟩
  refine rx_if_ne (tgt := 47) dX10_event_34 (by decide) (fun h34 => (absurd h34 (by decide))) (fun h34 => ?_)
  exact gx_throw hG rfl rfl th_x hw_872 dX10_event_37 dX10_event_40 dX10_event_41 dX10_event_43 dX10_event_46
theorem cf_event {G : rx_E} {d : Nat} {C : rx_M} {S : gs_T} (hG : rx_OK G) {nb : Nat} (h05 : C.1 0 5 = nI nb) (hnb : nb ≤ 40) {b : Nat} {a : wA} {q : wB} (hb : b < nb) (hr : C.2.2.1 44 b = some a.1) (hB : cB1 C a q) {i y : Nat} {u : Int64} (hm : q.1.2.2.2 ≤ 60) (hi : i < q.1.2.2.2) (hy : y < 4) (hu : C.2.1 a.2.2.2 (4 * i + y) = u) : rx_X G MX10_event (d + 8) [.ref 0, .int (nI b), .int (nI i), .int (nI y)] (gl C S) 8 2000 (fun v mu => v = some (.long (u)) ∧ ∃ C', mu = gl C' S ∧ C' = C) (fun _ _ => False) := by
  refine rx_meth (by decide +kernel) rfl (Nat.le_of_ble_eq_true rfl) ?_
  refine rx_aload_n dX10_event_0 rfl rfl ?_
  refine rx_iload_n dX10_event_1 rfl ?_
  refine gv_invV (as := [.int _]) hG okX10_isBlock lk_RX10_150 rfl rfl dX10_event_2 rfl (by simp [Value.category]) (cf_isBlock hG h05 hnb hb) ?_
  rintro _ _ ⟨rfl, rfl⟩
  refine rx_if_eq (tgt := 37) dX10_event_5 (by decide) (fun h5 => (absurd h5 (by decide))) (fun h5 => ?_)
  refine rx_iload_n dX10_event_8 rfl ?_
  refine rx_i2l dX10_event_9 ?_
  refine rx_tl (y := lN i) (nI_l (by omega)) ?_
  refine rx_aload_n dX10_event_10 rfl rfl ?_
  refine g_getR hG hf_RX10_31 rfl dX10_event_11 rfl rfl rfl ?_
  refine rx_iload_n dX10_event_14 rfl ?_
  refine gd_aald hG dX10_event_15 rfl rfl (by decide) rfl (show b < 40 by omega) (by decide) (gk44 (by omega)) hr ?_
  refine gy_getR hG hf_RX10_195 rfl dX10_event_16 hB.1.1 hB.2.1.2.2.2.2.1 ?_
  refine gy_alen hG dX10_event_19 hB.2.2.2.2.1.1 (by decide) ?_
  refine rx_iconst (v := nI 4) dX10_event_20 rfl ?_
  refine rx_idiv dX10_event_21 (by decide) ?_
  refine rx_ti (y := nI q.1.2.2.2) ((pk_div (by omega) (by decide) (by decide)).trans (congrArg nI (by omega))) ?_
  refine rx_invS0 (as := [.long _, .int _]) hG okX10_isWithin lk_RX10_127 dX10_event_22 rfl (by simp [Value.category]) (cw_in hG hi (by omega)) ?_
  rintro _ _ ⟨rfl, rfl⟩
  refine rx_if_eq (tgt := 37) dX10_event_25 (by decide) (fun h25 => (absurd h25 (by decide))) (fun h25 => ?_)
  refine rx_iload_n dX10_event_28 rfl ?_
  refine rx_i2l dX10_event_29 ?_
  refine rx_tl (y := lN y) (nI_l (by omega)) ?_
  refine rx_iconst (v := nI 4) dX10_event_30 rfl ?_
  refine rx_invS0 (as := [.long _, .int _]) hG okX10_isWithin lk_RX10_127 dX10_event_31 rfl (by simp [Value.category]) (cw_in hG hy (by omega)) ?_
  rintro _ _ ⟨rfl, rfl⟩
  refine rx_if_ne (tgt := 47) dX10_event_34 (by decide) (fun h34 => ?_) (fun h34 => (absurd h34 (by decide))) 
  refine rx_aload_n dX10_event_47 rfl rfl ?_
  refine g_getR hG hf_RX10_31 rfl dX10_event_48 rfl rfl rfl ?_
  refine rx_iload_n dX10_event_51 rfl ?_
  refine gd_aald hG dX10_event_52 rfl rfl (by decide) rfl (show b < 40 by omega) (by decide) (gk44 (by omega)) hr ?_
  refine gy_getR hG hf_RX10_195 rfl dX10_event_53 hB.1.1 hB.2.1.2.2.2.2.1 ?_
  refine rx_iconst (v := nI 4) dX10_event_56 rfl ?_
  refine rx_iload_n dX10_event_57 rfl ?_
  refine rx_imul dX10_event_58 ?_
  refine rx_ti (y := nI (4 * i)) ((pk_mul _ _).trans (congrArg nI (by omega))) ?_
  refine rx_iload_n dX10_event_59 rfl ?_
  refine rx_iadd dX10_event_60 ?_
  refine rx_ti (y := nI (4 * i + y)) ((nI_add _ _).trans (congrArg nI (by omega))) ?_
  refine gy_lald (j := 4 * i + y) (v := u) hG dX10_event_61 hB.2.2.2.2.1.1 rfl (by omega) (by omega) hu ?_
  exact rx_lret rfl dX10_event_62 ⟨rfl, C, rfl, rfl⟩
theorem cf_leaf_w {G : rx_E} {d : Nat} {C : rx_M} {S : gs_T} (hG : rx_OK G) {nb : Nat} (h05 : C.1 0 5 = nI nb) (hnb : nb ≤ 40) {b : Nat} {x : Int32} (hb : b < nb) (hx : wi_out x 1024) : rx_X G MX10_leaf (d + 8) [.ref 0, .int (nI b), .int x] (gl C S) 8 2000 (fun _ _ => False) (zq C S "java/lang/IndexOutOfBoundsException") := by
  refine rx_meth (by decide +kernel) rfl (Nat.le_of_ble_eq_true rfl) ?_
  refine rx_aload_n dX10_leaf_0 rfl rfl ?_
  refine rx_iload_n dX10_leaf_1 rfl ?_
  refine gv_invV (as := [.int _]) hG okX10_isBlock lk_RX10_150 rfl rfl dX10_leaf_2 rfl (by simp [Value.category]) (cf_isBlock hG h05 hnb hb) ?_
  rintro _ _ ⟨rfl, rfl⟩
  refine rx_if_eq (tgt := 19) dX10_leaf_5 (by decide) (fun h5 => (absurd h5 (by decide))) (fun h5 => ?_)
  refine rx_iload_n dX10_leaf_8 rfl ?_
  refine rx_i2l dX10_leaf_9 ?_
  refine rx_sipush (v := nI 1024) dX10_leaf_10 rfl ?_
  refine rx_invS0 (as := [.long _, .int _]) hG okX10_isWithin lk_RX10_127 dX10_leaf_13 rfl (by simp [Value.category]) (cw_out hG hx (by omega)) ?_
  rintro _ _ ⟨rfl, rfl⟩
  refine rx_if_ne (tgt := 29) dX10_leaf_16 (by decide) (fun h16 => (absurd h16 (by decide))) (fun h16 => ?_)
  exact gx_throw hG rfl rfl th_x hw_873 dX10_leaf_19 dX10_leaf_22 dX10_leaf_23 dX10_leaf_25 dX10_leaf_28
theorem cf_leaf {G : rx_E} {d : Nat} {C : rx_M} {S : gs_T} (hG : rx_OK G) {nb : Nat} (h05 : C.1 0 5 = nI nb) (hnb : nb ≤ 40) {b : Nat} {a : wA} {q : wB} (hb : b < nb) (hr : C.2.2.1 44 b = some a.1) (hB : cB1 C a q) {i : Nat} (hi : i < 1024) : rx_X G MX10_leaf (d + 8) [.ref 0, .int (nI b), .int (nI i)] (gl C S) 8 2000 (fun v mu => v = some (.long (lf q.2.1 i)) ∧ ∃ C', mu = gl C' S ∧ C' = C) (fun _ _ => False) := by
  refine rx_meth (by decide +kernel) rfl (Nat.le_of_ble_eq_true rfl) ?_
  refine rx_aload_n dX10_leaf_0 rfl rfl ?_
  refine rx_iload_n dX10_leaf_1 rfl ?_
  refine gv_invV (as := [.int _]) hG okX10_isBlock lk_RX10_150 rfl rfl dX10_leaf_2 rfl (by simp [Value.category]) (cf_isBlock hG h05 hnb hb) ?_
  rintro _ _ ⟨rfl, rfl⟩
  refine rx_if_eq (tgt := 19) dX10_leaf_5 (by decide) (fun h5 => (absurd h5 (by decide))) (fun h5 => ?_)
  refine rx_iload_n dX10_leaf_8 rfl ?_
  refine rx_i2l dX10_leaf_9 ?_
  refine rx_tl (y := lN i) (nI_l (by omega)) ?_
  refine rx_sipush (v := nI 1024) dX10_leaf_10 rfl ?_
  refine rx_invS0 (as := [.long _, .int _]) hG okX10_isWithin lk_RX10_127 dX10_leaf_13 rfl (by simp [Value.category]) (cw_in hG hi (by omega)) ?_
  rintro _ _ ⟨rfl, rfl⟩
  refine rx_if_ne (tgt := 29) dX10_leaf_16 (by decide) (fun h16 => ?_) (fun h16 => (absurd h16 (by decide))) 
  refine rx_aload_n dX10_leaf_29 rfl rfl ?_
  refine g_getR hG hf_RX10_31 rfl dX10_leaf_30 rfl rfl rfl ?_
  refine rx_iload_n dX10_leaf_33 rfl ?_
  refine gd_aald hG dX10_leaf_34 rfl rfl (by decide) rfl (show b < 40 by omega) (by decide) (gk44 (by omega)) hr ?_
  refine gy_getR hG hf_RX10_124 rfl dX10_leaf_35 hB.1.1 hB.2.1.2.2.1 ?_
  refine rx_iload_n dX10_leaf_38 rfl ?_
  refine gy_lald (j := i) (v := lf q.2.1 i) hG dX10_leaf_39 hB.2.2.1.1.1 rfl (by omega) (by omega) (hB.2.2.1.2 i hi) ?_
  exact rx_lret rfl dX10_leaf_40 ⟨rfl, C, rfl, rfl⟩
theorem cf_seen_w {G : rx_E} {d : Nat} {C : rx_M} {S : gs_T} (hG : rx_OK G) {x : Int32} (hx : wi_out x 3) : rx_X G MX10_seen (d + 8) [.ref 0, .int x] (gl C S) 8 2000 (fun _ _ => False) (zq C S "java/lang/IndexOutOfBoundsException") := by
  refine rx_meth (by decide +kernel) rfl (Nat.le_of_ble_eq_true rfl) ?_
  refine rx_iload_n dX10_seen_0 rfl ?_
  refine rx_i2l dX10_seen_1 ?_
  refine rx_iconst (v := nI 3) dX10_seen_2 rfl ?_
  refine rx_invS0 (as := [.long _, .int _]) hG okX10_isWithin lk_RX10_127 dX10_seen_3 rfl (by simp [Value.category]) (cw_out hG hx (by omega)) ?_
  rintro _ _ ⟨rfl, rfl⟩
  refine rx_if_ne (tgt := 19) dX10_seen_6 (by decide) (fun h6 => (absurd h6 (by decide))) (fun h6 => ?_)
  exact gx_throw hG rfl rfl th_x hw_878 dX10_seen_9 dX10_seen_12 dX10_seen_13 dX10_seen_15 dX10_seen_18
theorem cf_seen0 {G : rx_E} {d : Nat} {C : rx_M} {S : gs_T} (hG : rx_OK G) {v0 v1 v2 : Int32} (h0 : C.1 0 9 = v0) (h1 : C.1 0 10 = v1) (h2 : C.1 0 11 = v2) : rx_X G MX10_seen (d + 8) [.ref 0, .int (nI 0)] (gl C S) 8 2000 (fun v mu => v = some (.int (v0)) ∧ ∃ C', mu = gl C' S ∧ C' = C) (fun _ _ => False) := by
  refine rx_meth (by decide +kernel) rfl (Nat.le_of_ble_eq_true rfl) ?_
  refine rx_iload_n dX10_seen_0 rfl ?_
  refine rx_i2l dX10_seen_1 ?_
  refine rx_tl (y := lN 0) (nI_l (by omega)) ?_
  refine rx_iconst (v := nI 3) dX10_seen_2 rfl ?_
  refine rx_invS0 (as := [.long _, .int _]) hG okX10_isWithin lk_RX10_127 dX10_seen_3 rfl (by simp [Value.category]) (cw_in (j := 0) (N := 3) hG (by decide) (by decide)) ?_
  rintro _ _ ⟨rfl, rfl⟩
  refine rx_if_ne (tgt := 19) dX10_seen_6 (by decide) (fun h6 => ?_) (fun h6 => (absurd h6 (by decide))) 
  refine rx_iload_n dX10_seen_19 rfl ?_
  refine rx_if_ne (tgt := 28) dX10_seen_20 (by decide) (fun h20 => (absurd h20 (by decide))) (fun h20 => ?_)
  refine rx_aload_n dX10_seen_23 rfl rfl ?_
  refine gcv_getI (v := v0) hG hf_RX10_229 rfl dX10_seen_24 rfl rfl rfl h0 ?_
  exact rx_iret rfl dX10_seen_27 ⟨rfl, C, rfl, rfl⟩
theorem cf_seen1 {G : rx_E} {d : Nat} {C : rx_M} {S : gs_T} (hG : rx_OK G) {v0 v1 v2 : Int32} (h0 : C.1 0 9 = v0) (h1 : C.1 0 10 = v1) (h2 : C.1 0 11 = v2) : rx_X G MX10_seen (d + 8) [.ref 0, .int (nI 1)] (gl C S) 8 2000 (fun v mu => v = some (.int (v1)) ∧ ∃ C', mu = gl C' S ∧ C' = C) (fun _ _ => False) := by
  refine rx_meth (by decide +kernel) rfl (Nat.le_of_ble_eq_true rfl) ?_
  refine rx_iload_n dX10_seen_0 rfl ?_
  refine rx_i2l dX10_seen_1 ?_
  refine rx_tl (y := lN 1) (nI_l (by omega)) ?_
  refine rx_iconst (v := nI 3) dX10_seen_2 rfl ?_
  refine rx_invS0 (as := [.long _, .int _]) hG okX10_isWithin lk_RX10_127 dX10_seen_3 rfl (by simp [Value.category]) (cw_in (j := 1) (N := 3) hG (by decide) (by decide)) ?_
  rintro _ _ ⟨rfl, rfl⟩
  refine rx_if_ne (tgt := 19) dX10_seen_6 (by decide) (fun h6 => ?_) (fun h6 => (absurd h6 (by decide))) 
  refine rx_iload_n dX10_seen_19 rfl ?_
  refine rx_if_ne (tgt := 28) dX10_seen_20 (by decide) (fun h20 => ?_) (fun h20 => (absurd h20 (by decide))) 
  refine rx_iload_n dX10_seen_28 rfl ?_
  refine rx_iconst (v := nI 1) dX10_seen_29 rfl ?_
  refine rx_icmp_ne (tgt := 40) dX10_seen_30 (by decide) (fun h30 => (absurd h30 (by decide))) (fun h30 => ?_)
  refine rx_aload_n dX10_seen_33 rfl rfl ?_
  refine gcv_getI (v := v1) hG hf_RX10_235 rfl dX10_seen_34 rfl rfl rfl h1 ?_
  refine rx_goto (tgt := 44) dX10_seen_37 (by decide) ?_
  exact rx_iret rfl dX10_seen_44 ⟨rfl, C, rfl, rfl⟩
theorem cf_seen2 {G : rx_E} {d : Nat} {C : rx_M} {S : gs_T} (hG : rx_OK G) {v0 v1 v2 : Int32} (h0 : C.1 0 9 = v0) (h1 : C.1 0 10 = v1) (h2 : C.1 0 11 = v2) : rx_X G MX10_seen (d + 8) [.ref 0, .int (nI 2)] (gl C S) 8 2000 (fun v mu => v = some (.int (v2)) ∧ ∃ C', mu = gl C' S ∧ C' = C) (fun _ _ => False) := by
  refine rx_meth (by decide +kernel) rfl (Nat.le_of_ble_eq_true rfl) ?_
  refine rx_iload_n dX10_seen_0 rfl ?_
  refine rx_i2l dX10_seen_1 ?_
  refine rx_tl (y := lN 2) (nI_l (by omega)) ?_
  refine rx_iconst (v := nI 3) dX10_seen_2 rfl ?_
  refine rx_invS0 (as := [.long _, .int _]) hG okX10_isWithin lk_RX10_127 dX10_seen_3 rfl (by simp [Value.category]) (cw_in (j := 2) (N := 3) hG (by decide) (by decide)) ?_
  rintro _ _ ⟨rfl, rfl⟩
  refine rx_if_ne (tgt := 19) dX10_seen_6 (by decide) (fun h6 => ?_) (fun h6 => (absurd h6 (by decide))) 
  refine rx_iload_n dX10_seen_19 rfl ?_
  refine rx_if_ne (tgt := 28) dX10_seen_20 (by decide) (fun h20 => ?_) (fun h20 => (absurd h20 (by decide))) 
  refine rx_iload_n dX10_seen_28 rfl ?_
  refine rx_iconst (v := nI 1) dX10_seen_29 rfl ?_
  refine rx_icmp_ne (tgt := 40) dX10_seen_30 (by decide) (fun h30 => ?_) (fun h30 => (absurd h30 (by decide))) 
  refine rx_aload_n dX10_seen_40 rfl rfl ?_
  refine gcv_getI (v := v2) hG hf_RX10_241 rfl dX10_seen_41 rfl rfl rfl h2 ?_
  exact rx_iret rfl dX10_seen_44 ⟨rfl, C, rfl, rfl⟩
theorem cf_beside_w {G : rx_E} {d : Nat} {C : rx_M} {S : gs_T} (hG : rx_OK G) {x : Int32} {y : Int64} (hx : wi_out x 10) : rx_X G MX10_beside (d + 8) [.ref 0, .int x, .long y] (gl C S) 8 2000 (fun _ _ => False) (zq C S "java/lang/IndexOutOfBoundsException") := by
  refine rx_meth (by decide +kernel) rfl (Nat.le_of_ble_eq_true rfl) ?_
  refine rx_iload_n dX10_beside_0 rfl ?_
  refine rx_i2l dX10_beside_1 ?_
  refine rx_bipush (v := nI 10) dX10_beside_2 rfl ?_
  refine rx_invS0 (as := [.long _, .int _]) hG okX10_isWithin lk_RX10_127 dX10_beside_4 rfl (by simp [Value.category]) (cw_out hG hx (by omega)) ?_
  rintro _ _ ⟨rfl, rfl⟩
  refine rx_if_ne (tgt := 20) dX10_beside_7 (by decide) (fun h7 => (absurd h7 (by decide))) (fun h7 => ?_)
  exact gx_throw hG rfl rfl th_x hw_881 dX10_beside_10 dX10_beside_13 dX10_beside_14 dX10_beside_16 dX10_beside_19
theorem cf_beside {G : rx_E} {d : Nat} {C : rx_M} {S : gs_T} (hG : rx_OK G) {i : Nat} {y : Int64} (hi : i < 10) : rx_X G MX10_beside (d + 8) [.ref 0, .int (nI i), .long y] (gl C S) 8 2000 (fun v mu => v = none ∧ ∃ C', mu = gl C' S ∧ C' = (C.1, rx_u C.2.1 51 i y, C.2.2)) (fun _ _ => False) := by
  refine rx_meth (by decide +kernel) rfl (Nat.le_of_ble_eq_true rfl) ?_
  refine rx_iload_n dX10_beside_0 rfl ?_
  refine rx_i2l dX10_beside_1 ?_
  refine rx_tl (y := lN i) (nI_l (by omega)) ?_
  refine rx_bipush (v := nI 10) dX10_beside_2 rfl ?_
  refine rx_invS0 (as := [.long _, .int _]) hG okX10_isWithin lk_RX10_127 dX10_beside_4 rfl (by simp [Value.category]) (cw_in hG hi (by omega)) ?_
  rintro _ _ ⟨rfl, rfl⟩
  refine rx_if_ne (tgt := 20) dX10_beside_7 (by decide) (fun h7 => ?_) (fun h7 => (absurd h7 (by decide))) 
  refine rx_aload_n dX10_beside_20 rfl rfl ?_
  refine g_getR hG hf_RX10_56 rfl dX10_beside_21 rfl rfl rfl ?_
  refine rx_iload_n dX10_beside_24 rfl ?_
  refine rx_lload_n dX10_beside_25 rfl ?_
  refine gc_last (j := i) hG dX10_beside_26 rfl rfl rfl rfl (by omega) (by decide) ?_
  exact rx_vret rfl dX10_beside_27 ⟨rfl, _, rfl, rfl⟩

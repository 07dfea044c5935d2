theorem dX10_mix_0 : decode cX10_mix 0 = .ok (.lload_n 2, 1) := by decide +kernel
theorem dX10_mix_1 : decode cX10_mix 1 = .ok (.bipush 23, 2) := by decide +kernel
theorem dX10_mix_3 : decode cX10_mix 3 = .ok (.lshl, 1) := by decide +kernel
theorem dX10_mix_4 : decode cX10_mix 4 = .ok (.lload_n 2, 1) := by decide +kernel
theorem dX10_mix_5 : decode cX10_mix 5 = .ok (.bipush 41, 2) := by decide +kernel
theorem dX10_mix_7 : decode cX10_mix 7 = .ok (.lushr, 1) := by decide +kernel
theorem dX10_mix_8 : decode cX10_mix 8 = .ok (.lor, 1) := by decide +kernel
theorem dX10_mix_9 : decode cX10_mix 9 = .ok (.lstore 4, 2) := by decide +kernel
theorem dX10_mix_11 : decode cX10_mix 11 = .ok (.lload_n 0, 1) := by decide +kernel
theorem dX10_mix_12 : decode cX10_mix 12 = .ok (.lload 4, 2) := by decide +kernel
theorem dX10_mix_14 : decode cX10_mix 14 = .ok (.lxor, 1) := by decide +kernel
theorem dX10_mix_15 : decode cX10_mix 15 = .ok (.ldc2_w 325, 3) := by decide +kernel
theorem dX10_mix_18 : decode cX10_mix 18 = .ok (.lmul, 1) := by decide +kernel
theorem dX10_mix_19 : decode cX10_mix 19 = .ok (.lconst 1, 1) := by decide +kernel
theorem dX10_mix_20 : decode cX10_mix 20 = .ok (.ladd, 1) := by decide +kernel
theorem dX10_mix_21 : decode cX10_mix 21 = .ok (.lstore 6, 2) := by decide +kernel
theorem dX10_mix_23 : decode cX10_mix 23 = .ok (.lload 6, 2) := by decide +kernel
theorem dX10_mix_25 : decode cX10_mix 25 = .ok (.lload 6, 2) := by decide +kernel
theorem dX10_mix_27 : decode cX10_mix 27 = .ok (.bipush 29, 2) := by decide +kernel
theorem dX10_mix_29 : decode cX10_mix 29 = .ok (.lushr, 1) := by decide +kernel
theorem dX10_mix_30 : decode cX10_mix 30 = .ok (.lxor, 1) := by decide +kernel
theorem dX10_mix_31 : decode cX10_mix 31 = .ok (.lreturn, 1) := by decide +kernel
theorem dX10_neverZero_0 : decode cX10_neverZero 0 = .ok (.lload_n 0, 1) := by decide +kernel
theorem dX10_neverZero_1 : decode cX10_neverZero 1 = .ok (.lconst 0, 1) := by decide +kernel
theorem dX10_neverZero_2 : decode cX10_neverZero 2 = .ok (.lcmp, 1) := by decide +kernel
theorem dX10_neverZero_3 : decode cX10_neverZero 3 = .ok (.ifCond .ne 7, 3) := by decide +kernel
theorem dX10_neverZero_6 : decode cX10_neverZero 6 = .ok (.lconst 1, 1) := by decide +kernel
theorem dX10_neverZero_7 : decode cX10_neverZero 7 = .ok (.goto 4, 3) := by decide +kernel
theorem dX10_neverZero_10 : decode cX10_neverZero 10 = .ok (.lload_n 0, 1) := by decide +kernel
theorem dX10_neverZero_11 : decode cX10_neverZero 11 = .ok (.lreturn, 1) := by decide +kernel
theorem dX10_leafDigest_0 : decode cX10_leafDigest 0 = .ok (.lload_n 1, 1) := by decide +kernel
theorem dX10_leafDigest_1 : decode cX10_leafDigest 1 = .ok (.lconst 0, 1) := by decide +kernel
theorem dX10_leafDigest_2 : decode cX10_leafDigest 2 = .ok (.lcmp, 1) := by decide +kernel
theorem dX10_leafDigest_3 : decode cX10_leafDigest 3 = .ok (.ifCond .ne 7, 3) := by decide +kernel
theorem dX10_leafDigest_6 : decode cX10_leafDigest 6 = .ok (.lconst 0, 1) := by decide +kernel
theorem dX10_leafDigest_7 : decode cX10_leafDigest 7 = .ok (.goto 14, 3) := by decide +kernel
theorem dX10_leafDigest_10 : decode cX10_leafDigest 10 = .ok (.iload_n 0, 1) := by decide +kernel
theorem dX10_leafDigest_11 : decode cX10_leafDigest 11 = .ok (.iconst 1, 1) := by decide +kernel
theorem dX10_leafDigest_12 : decode cX10_leafDigest 12 = .ok (.iadd, 1) := by decide +kernel
theorem dX10_leafDigest_13 : decode cX10_leafDigest 13 = .ok (.i2l, 1) := by decide +kernel
theorem dX10_leafDigest_14 : decode cX10_leafDigest 14 = .ok (.lload_n 1, 1) := by decide +kernel
theorem dX10_leafDigest_15 : decode cX10_leafDigest 15 = .ok (.invokestatic 318, 3) := by decide +kernel
theorem dX10_leafDigest_18 : decode cX10_leafDigest 18 = .ok (.invokestatic 321, 3) := by decide +kernel
theorem dX10_leafDigest_21 : decode cX10_leafDigest 21 = .ok (.lreturn, 1) := by decide +kernel
theorem dX10_pairDigest_0 : decode cX10_pairDigest 0 = .ok (.lload_n 0, 1) := by decide +kernel
theorem dX10_pairDigest_1 : decode cX10_pairDigest 1 = .ok (.lconst 0, 1) := by decide +kernel
theorem dX10_pairDigest_2 : decode cX10_pairDigest 2 = .ok (.lcmp, 1) := by decide +kernel
theorem dX10_pairDigest_3 : decode cX10_pairDigest 3 = .ok (.ifCond .ne 13, 3) := by decide +kernel
theorem dX10_pairDigest_6 : decode cX10_pairDigest 6 = .ok (.lload_n 2, 1) := by decide +kernel
theorem dX10_pairDigest_7 : decode cX10_pairDigest 7 = .ok (.lconst 0, 1) := by decide +kernel
theorem dX10_pairDigest_8 : decode cX10_pairDigest 8 = .ok (.lcmp, 1) := by decide +kernel
theorem dX10_pairDigest_9 : decode cX10_pairDigest 9 = .ok (.ifCond .ne 7, 3) := by decide +kernel
theorem dX10_pairDigest_12 : decode cX10_pairDigest 12 = .ok (.lconst 0, 1) := by decide +kernel
theorem dX10_pairDigest_13 : decode cX10_pairDigest 13 = .ok (.goto 11, 3) := by decide +kernel
theorem dX10_pairDigest_16 : decode cX10_pairDigest 16 = .ok (.lload_n 0, 1) := by decide +kernel
theorem dX10_pairDigest_17 : decode cX10_pairDigest 17 = .ok (.lload_n 2, 1) := by decide +kernel
theorem dX10_pairDigest_18 : decode cX10_pairDigest 18 = .ok (.invokestatic 318, 3) := by decide +kernel
theorem dX10_pairDigest_21 : decode cX10_pairDigest 21 = .ok (.invokestatic 321, 3) := by decide +kernel
theorem dX10_pairDigest_24 : decode cX10_pairDigest 24 = .ok (.lreturn, 1) := by decide +kernel
theorem dX10_proves_0 : decode cX10_proves 0 = .ok (.iload_n 3, 1) := by decide +kernel
theorem dX10_proves_1 : decode cX10_proves 1 = .ok (.i2l, 1) := by decide +kernel
theorem dX10_proves_2 : decode cX10_proves 2 = .ok (.sipush 1024, 3) := by decide +kernel
theorem dX10_proves_5 : decode cX10_proves 5 = .ok (.invokestatic 127, 3) := by decide +kernel
theorem dX10_proves_8 : decode cX10_proves 8 = .ok (.ifCond .ne 14, 3) := by decide +kernel
theorem dX10_proves_11 : decode cX10_proves 11 = .ok (.new 113, 3) := by decide +kernel
theorem dX10_proves_14 : decode cX10_proves 14 = .ok (.dup, 1) := by decide +kernel
theorem dX10_proves_15 : decode cX10_proves 15 = .ok (.ldc_w 256, 3) := by decide +kernel
theorem dX10_proves_18 : decode cX10_proves 18 = .ok (.invokespecial 117, 3) := by decide +kernel
theorem dX10_proves_21 : decode cX10_proves 21 = .ok (.athrow, 1) := by decide +kernel
theorem dX10_proves_22 : decode cX10_proves 22 = .ok (.iload_n 3, 1) := by decide +kernel
theorem dX10_proves_23 : decode cX10_proves 23 = .ok (.lload 4, 2) := by decide +kernel
theorem dX10_proves_25 : decode cX10_proves 25 = .ok (.invokestatic 258, 3) := by decide +kernel
theorem dX10_proves_28 : decode cX10_proves 28 = .ok (.lstore 6, 2) := by decide +kernel
theorem dX10_proves_30 : decode cX10_proves 30 = .ok (.iconst 0, 1) := by decide +kernel
theorem dX10_proves_31 : decode cX10_proves 31 = .ok (.istore 8, 2) := by decide +kernel
theorem dX10_proves_33 : decode cX10_proves 33 = .ok (.iload 8, 2) := by decide +kernel
theorem dX10_proves_35 : decode cX10_proves 35 = .ok (.bipush 10, 2) := by decide +kernel
theorem dX10_proves_37 : decode cX10_proves 37 = .ok (.if_icmp .ge 59, 3) := by decide +kernel
theorem dX10_proves_40 : decode cX10_proves 40 = .ok (.iload_n 3, 1) := by decide +kernel
theorem dX10_proves_41 : decode cX10_proves 41 = .ok (.iload 8, 2) := by decide +kernel
theorem dX10_proves_43 : decode cX10_proves 43 = .ok (.ishr, 1) := by decide +kernel
theorem dX10_proves_44 : decode cX10_proves 44 = .ok (.iconst 1, 1) := by decide +kernel
theorem dX10_proves_45 : decode cX10_proves 45 = .ok (.iand, 1) := by decide +kernel
theorem dX10_proves_46 : decode cX10_proves 46 = .ok (.ifCond .eq 7, 3) := by decide +kernel
theorem dX10_proves_49 : decode cX10_proves 49 = .ok (.iconst 1, 1) := by decide +kernel
theorem dX10_proves_50 : decode cX10_proves 50 = .ok (.goto 4, 3) := by decide +kernel
theorem dX10_proves_53 : decode cX10_proves 53 = .ok (.iconst 0, 1) := by decide +kernel
theorem dX10_proves_54 : decode cX10_proves 54 = .ok (.istore 9, 2) := by decide +kernel
theorem dX10_proves_56 : decode cX10_proves 56 = .ok (.iload 9, 2) := by decide +kernel
theorem dX10_proves_58 : decode cX10_proves 58 = .ok (.ifCond .eq 18, 3) := by decide +kernel
theorem dX10_proves_61 : decode cX10_proves 61 = .ok (.aload_n 0, 1) := by decide +kernel
theorem dX10_proves_62 : decode cX10_proves 62 = .ok (.getfield 56, 3) := by decide +kernel
theorem dX10_proves_65 : decode cX10_proves 65 = .ok (.iload 8, 2) := by decide +kernel
theorem dX10_proves_67 : decode cX10_proves 67 = .ok (.laload, 1) := by decide +kernel
theorem dX10_proves_68 : decode cX10_proves 68 = .ok (.lload 6, 2) := by decide +kernel
theorem dX10_proves_70 : decode cX10_proves 70 = .ok (.invokestatic 262, 3) := by decide +kernel
theorem dX10_proves_73 : decode cX10_proves 73 = .ok (.goto 15, 3) := by decide +kernel
theorem dX10_proves_76 : decode cX10_proves 76 = .ok (.lload 6, 2) := by decide +kernel
theorem dX10_proves_78 : decode cX10_proves 78 = .ok (.aload_n 0, 1) := by decide +kernel
theorem dX10_proves_79 : decode cX10_proves 79 = .ok (.getfield 56, 3) := by decide +kernel
theorem dX10_proves_82 : decode cX10_proves 82 = .ok (.iload 8, 2) := by decide +kernel
theorem dX10_proves_84 : decode cX10_proves 84 = .ok (.laload, 1) := by decide +kernel
theorem dX10_proves_85 : decode cX10_proves 85 = .ok (.invokestatic 262, 3) := by decide +kernel
theorem dX10_proves_88 : decode cX10_proves 88 = .ok (.lstore 6, 2) := by decide +kernel
theorem dX10_proves_90 : decode cX10_proves 90 = .ok (.iinc 8 1, 3) := by decide +kernel
theorem dX10_proves_93 : decode cX10_proves 93 = .ok (.goto (-60), 3) := by decide +kernel
theorem dX10_proves_96 : decode cX10_proves 96 = .ok (.lload 6, 2) := by decide +kernel
theorem dX10_proves_98 : decode cX10_proves 98 = .ok (.lload_n 1, 1) := by decide +kernel
theorem dX10_proves_99 : decode cX10_proves 99 = .ok (.lcmp, 1) := by decide +kernel
theorem dX10_proves_100 : decode cX10_proves 100 = .ok (.ifCond .ne 7, 3) := by decide +kernel
theorem dX10_proves_103 : decode cX10_proves 103 = .ok (.iconst 1, 1) := by decide +kernel
theorem dX10_proves_104 : decode cX10_proves 104 = .ok (.goto 4, 3) := by decide +kernel
theorem dX10_proves_107 : decode cX10_proves 107 = .ok (.iconst 0, 1) := by decide +kernel
theorem dX10_proves_108 : decode cX10_proves 108 = .ok (.ireturn, 1) := by decide +kernel
theorem dX11_mix_0 : decode cX11_mix 0 = .ok (.lload_n 0, 1) := by decide +kernel
theorem dX11_mix_1 : decode cX11_mix 1 = .ok (.lload_n 2, 1) := by decide +kernel
theorem dX11_mix_2 : decode cX11_mix 2 = .ok (.bipush 23, 2) := by decide +kernel
theorem dX11_mix_4 : decode cX11_mix 4 = .ok (.lshl, 1) := by decide +kernel
theorem dX11_mix_5 : decode cX11_mix 5 = .ok (.lload_n 2, 1) := by decide +kernel
theorem dX11_mix_6 : decode cX11_mix 6 = .ok (.bipush 41, 2) := by decide +kernel
theorem dX11_mix_8 : decode cX11_mix 8 = .ok (.lushr, 1) := by decide +kernel
theorem dX11_mix_9 : decode cX11_mix 9 = .ok (.lor, 1) := by decide +kernel
theorem dX11_mix_10 : decode cX11_mix 10 = .ok (.lxor, 1) := by decide +kernel
theorem dX11_mix_11 : decode cX11_mix 11 = .ok (.ldc2_w 321, 3) := by decide +kernel
theorem dX11_mix_14 : decode cX11_mix 14 = .ok (.lmul, 1) := by decide +kernel
theorem dX11_mix_15 : decode cX11_mix 15 = .ok (.lconst 1, 1) := by decide +kernel
theorem dX11_mix_16 : decode cX11_mix 16 = .ok (.ladd, 1) := by decide +kernel
theorem dX11_mix_17 : decode cX11_mix 17 = .ok (.lstore 4, 2) := by decide +kernel
theorem dX11_mix_19 : decode cX11_mix 19 = .ok (.lload 4, 2) := by decide +kernel
theorem dX11_mix_21 : decode cX11_mix 21 = .ok (.lload 4, 2) := by decide +kernel
theorem dX11_mix_23 : decode cX11_mix 23 = .ok (.bipush 29, 2) := by decide +kernel
theorem dX11_mix_25 : decode cX11_mix 25 = .ok (.lushr, 1) := by decide +kernel
theorem dX11_mix_26 : decode cX11_mix 26 = .ok (.lxor, 1) := by decide +kernel
theorem dX11_mix_27 : decode cX11_mix 27 = .ok (.lreturn, 1) := by decide +kernel
theorem dX11_leafDigest_0 : decode cX11_leafDigest 0 = .ok (.iload_n 0, 1) := by decide +kernel
theorem dX11_leafDigest_1 : decode cX11_leafDigest 1 = .ok (.i2l, 1) := by decide +kernel
theorem dX11_leafDigest_2 : decode cX11_leafDigest 2 = .ok (.lconst 1, 1) := by decide +kernel
theorem dX11_leafDigest_3 : decode cX11_leafDigest 3 = .ok (.ladd, 1) := by decide +kernel
theorem dX11_leafDigest_4 : decode cX11_leafDigest 4 = .ok (.lload_n 1, 1) := by decide +kernel
theorem dX11_leafDigest_5 : decode cX11_leafDigest 5 = .ok (.invokestatic 323, 3) := by decide +kernel
theorem dX11_leafDigest_8 : decode cX11_leafDigest 8 = .ok (.lstore_n 3, 1) := by decide +kernel
theorem dX11_leafDigest_9 : decode cX11_leafDigest 9 = .ok (.lload_n 1, 1) := by decide +kernel
theorem dX11_leafDigest_10 : decode cX11_leafDigest 10 = .ok (.lconst 0, 1) := by decide +kernel
theorem dX11_leafDigest_11 : decode cX11_leafDigest 11 = .ok (.lcmp, 1) := by decide +kernel
theorem dX11_leafDigest_12 : decode cX11_leafDigest 12 = .ok (.ifCond .ne 7, 3) := by decide +kernel
theorem dX11_leafDigest_15 : decode cX11_leafDigest 15 = .ok (.lconst 0, 1) := by decide +kernel
theorem dX11_leafDigest_16 : decode cX11_leafDigest 16 = .ok (.goto 14, 3) := by decide +kernel
theorem dX11_leafDigest_19 : decode cX11_leafDigest 19 = .ok (.lload_n 3, 1) := by decide +kernel
theorem dX11_leafDigest_20 : decode cX11_leafDigest 20 = .ok (.lconst 0, 1) := by decide +kernel
theorem dX11_leafDigest_21 : decode cX11_leafDigest 21 = .ok (.lcmp, 1) := by decide +kernel
theorem dX11_leafDigest_22 : decode cX11_leafDigest 22 = .ok (.ifCond .ne 7, 3) := by decide +kernel
theorem dX11_leafDigest_25 : decode cX11_leafDigest 25 = .ok (.lconst 1, 1) := by decide +kernel
theorem dX11_leafDigest_26 : decode cX11_leafDigest 26 = .ok (.goto 4, 3) := by decide +kernel
theorem dX11_leafDigest_29 : decode cX11_leafDigest 29 = .ok (.lload_n 3, 1) := by decide +kernel
theorem dX11_leafDigest_30 : decode cX11_leafDigest 30 = .ok (.lreturn, 1) := by decide +kernel
theorem dX11_both_0 : decode cX11_both 0 = .ok (.lload_n 0, 1) := by decide +kernel
theorem dX11_both_1 : decode cX11_both 1 = .ok (.lload_n 2, 1) := by decide +kernel
theorem dX11_both_2 : decode cX11_both 2 = .ok (.invokestatic 323, 3) := by decide +kernel
theorem dX11_both_5 : decode cX11_both 5 = .ok (.lstore 4, 2) := by decide +kernel
theorem dX11_both_7 : decode cX11_both 7 = .ok (.lload_n 0, 1) := by decide +kernel
theorem dX11_both_8 : decode cX11_both 8 = .ok (.lconst 0, 1) := by decide +kernel
theorem dX11_both_9 : decode cX11_both 9 = .ok (.lcmp, 1) := by decide +kernel
theorem dX11_both_10 : decode cX11_both 10 = .ok (.ifCond .ne 13, 3) := by decide +kernel
theorem dX11_both_13 : decode cX11_both 13 = .ok (.lload_n 2, 1) := by decide +kernel
theorem dX11_both_14 : decode cX11_both 14 = .ok (.lconst 0, 1) := by decide +kernel
theorem dX11_both_15 : decode cX11_both 15 = .ok (.lcmp, 1) := by decide +kernel
theorem dX11_both_16 : decode cX11_both 16 = .ok (.ifCond .ne 7, 3) := by decide +kernel
theorem dX11_both_19 : decode cX11_both 19 = .ok (.lconst 0, 1) := by decide +kernel
theorem dX11_both_20 : decode cX11_both 20 = .ok (.goto 16, 3) := by decide +kernel
theorem dX11_both_23 : decode cX11_both 23 = .ok (.lload 4, 2) := by decide +kernel
theorem dX11_both_25 : decode cX11_both 25 = .ok (.lconst 0, 1) := by decide +kernel
theorem dX11_both_26 : decode cX11_both 26 = .ok (.lcmp, 1) := by decide +kernel
theorem dX11_both_27 : decode cX11_both 27 = .ok (.ifCond .ne 7, 3) := by decide +kernel
theorem dX11_both_30 : decode cX11_both 30 = .ok (.lconst 1, 1) := by decide +kernel
theorem dX11_both_31 : decode cX11_both 31 = .ok (.goto 5, 3) := by decide +kernel
theorem dX11_both_34 : decode cX11_both 34 = .ok (.lload 4, 2) := by decide +kernel
theorem dX11_both_36 : decode cX11_both 36 = .ok (.lreturn, 1) := by decide +kernel
theorem dX11_proves_0 : decode cX11_proves 0 = .ok (.aload_n 0, 1) := by decide +kernel
theorem dX11_proves_1 : decode cX11_proves 1 = .ok (.iload_n 3, 1) := by decide +kernel
theorem dX11_proves_2 : decode cX11_proves 2 = .ok (.ifCond .lt 14, 3) := by decide +kernel
theorem dX11_proves_5 : decode cX11_proves 5 = .ok (.iload_n 3, 1) := by decide +kernel
theorem dX11_proves_6 : decode cX11_proves 6 = .ok (.sipush 1024, 3) := by decide +kernel
theorem dX11_proves_9 : decode cX11_proves 9 = .ok (.if_icmp .ge 7, 3) := by decide +kernel
theorem dX11_proves_12 : decode cX11_proves 12 = .ok (.iconst 0, 1) := by decide +kernel
theorem dX11_proves_13 : decode cX11_proves 13 = .ok (.goto 4, 3) := by decide +kernel
theorem dX11_proves_16 : decode cX11_proves 16 = .ok (.iconst 1, 1) := by decide +kernel
theorem dX11_proves_17 : decode cX11_proves 17 = .ok (.putfield 160, 3) := by decide +kernel
theorem dX11_proves_20 : decode cX11_proves 20 = .ok (.aload_n 0, 1) := by decide +kernel
theorem dX11_proves_21 : decode cX11_proves 21 = .ok (.getfield 160, 3) := by decide +kernel
theorem dX11_proves_24 : decode cX11_proves 24 = .ok (.ifCond .le 5, 3) := by decide +kernel
theorem dX11_proves_27 : decode cX11_proves 27 = .ok (.iconst 0, 1) := by decide +kernel
theorem dX11_proves_28 : decode cX11_proves 28 = .ok (.ireturn, 1) := by decide +kernel
theorem dX11_proves_29 : decode cX11_proves 29 = .ok (.iload_n 3, 1) := by decide +kernel
theorem dX11_proves_30 : decode cX11_proves 30 = .ok (.lload 4, 2) := by decide +kernel
theorem dX11_proves_32 : decode cX11_proves 32 = .ok (.invokestatic 331, 3) := by decide +kernel
theorem dX11_proves_35 : decode cX11_proves 35 = .ok (.lstore 6, 2) := by decide +kernel
theorem dX11_proves_37 : decode cX11_proves 37 = .ok (.iconst 0, 1) := by decide +kernel
theorem dX11_proves_38 : decode cX11_proves 38 = .ok (.istore 8, 2) := by decide +kernel
theorem dX11_proves_40 : decode cX11_proves 40 = .ok (.iload 8, 2) := by decide +kernel
theorem dX11_proves_42 : decode cX11_proves 42 = .ok (.bipush 10, 2) := by decide +kernel
theorem dX11_proves_44 : decode cX11_proves 44 = .ok (.if_icmp .ge 47, 3) := by decide +kernel
theorem dX11_proves_47 : decode cX11_proves 47 = .ok (.iload_n 3, 1) := by decide +kernel
theorem dX11_proves_48 : decode cX11_proves 48 = .ok (.iload 8, 2) := by decide +kernel
theorem dX11_proves_50 : decode cX11_proves 50 = .ok (.ishr, 1) := by decide +kernel
theorem dX11_proves_51 : decode cX11_proves 51 = .ok (.iconst 1, 1) := by decide +kernel
theorem dX11_proves_52 : decode cX11_proves 52 = .ok (.iand, 1) := by decide +kernel
theorem dX11_proves_53 : decode cX11_proves 53 = .ok (.ifCond .ne 18, 3) := by decide +kernel
theorem dX11_proves_56 : decode cX11_proves 56 = .ok (.lload 6, 2) := by decide +kernel
theorem dX11_proves_58 : decode cX11_proves 58 = .ok (.aload_n 0, 1) := by decide +kernel
theorem dX11_proves_59 : decode cX11_proves 59 = .ok (.getfield 96, 3) := by decide +kernel
theorem dX11_proves_62 : decode cX11_proves 62 = .ok (.iload 8, 2) := by decide +kernel
theorem dX11_proves_64 : decode cX11_proves 64 = .ok (.laload, 1) := by decide +kernel
theorem dX11_proves_65 : decode cX11_proves 65 = .ok (.invokestatic 335, 3) := by decide +kernel
theorem dX11_proves_68 : decode cX11_proves 68 = .ok (.goto 15, 3) := by decide +kernel
theorem dX11_proves_71 : decode cX11_proves 71 = .ok (.aload_n 0, 1) := by decide +kernel
theorem dX11_proves_72 : decode cX11_proves 72 = .ok (.getfield 96, 3) := by decide +kernel
theorem dX11_proves_75 : decode cX11_proves 75 = .ok (.iload 8, 2) := by decide +kernel
theorem dX11_proves_77 : decode cX11_proves 77 = .ok (.laload, 1) := by decide +kernel
theorem dX11_proves_78 : decode cX11_proves 78 = .ok (.lload 6, 2) := by decide +kernel
theorem dX11_proves_80 : decode cX11_proves 80 = .ok (.invokestatic 335, 3) := by decide +kernel
theorem dX11_proves_83 : decode cX11_proves 83 = .ok (.lstore 6, 2) := by decide +kernel
theorem dX11_proves_85 : decode cX11_proves 85 = .ok (.iinc 8 1, 3) := by decide +kernel
theorem dX11_proves_88 : decode cX11_proves 88 = .ok (.goto (-48), 3) := by decide +kernel
theorem dX11_proves_91 : decode cX11_proves 91 = .ok (.lload 6, 2) := by decide +kernel
theorem dX11_proves_93 : decode cX11_proves 93 = .ok (.lload_n 1, 1) := by decide +kernel
theorem dX11_proves_94 : decode cX11_proves 94 = .ok (.lcmp, 1) := by decide +kernel
theorem dX11_proves_95 : decode cX11_proves 95 = .ok (.ifCond .ne 7, 3) := by decide +kernel
theorem dX11_proves_98 : decode cX11_proves 98 = .ok (.iconst 1, 1) := by decide +kernel
theorem dX11_proves_99 : decode cX11_proves 99 = .ok (.goto 4, 3) := by decide +kernel
theorem dX11_proves_102 : decode cX11_proves 102 = .ok (.iconst 0, 1) := by decide +kernel
theorem dX11_proves_103 : decode cX11_proves 103 = .ok (.ireturn, 1) := by decide +kernel
section RXTW
variable {G : rx_E} {M : rx_Me} {d pc mc ms : Nat} {lv : List (Nat × Value)} {st : List Value} {mu : rx_M} {Q : Option Value → rx_M → Prop} {Z : String → rx_M → Prop}
theorem rx_throwW {ik is ic : Nat} {cls text : String} (hG : rx_OK G) (hM : M.1.cls = RX10) (hM0 : M.2.2.2.2 = []) (hT : rx_Th ik ic cls) (hstr : Cond.stringRef RX10 is text ∈ lw_tbl)
    (d0 : decode M.2.1 pc = .ok (.new ik, 3)) (d3 : decode M.2.1 (pc + 3) = .ok (.dup, 1)) (d4 : decode M.2.1 (pc + 4) = .ok (.ldc_w is, 3)) (d6 : decode M.2.1 (pc + 7) = .ok (.invokespecial ic, 3)) (d9 : decode M.2.1 (pc + 10) = .ok (.athrow, 1))
    (k : ∀ n, mu.2.2.2.2 ≤ n → Z cls (rx_gap mu n)) : rx_W G M (d + 8) pc lv [] mu (mc + 1) (ms + 6) Q Z := by
  intro p e R s m args below meth c H locs cells slots MC MS ls C h1 h2 h3 h4 h5
  have hWs : G.2.1.WarmedH s.vm := C.2.2.2.2.2.2.2.1
  have hB := C.2.2.2.2.2.2.2.2.1
  have hs := C.2.2.2.2.2.2.2.2.2.1
  have hex := C.2.2.2.2.2.2.2.2.2.2
  have hown : s.vm.findClass RX10 = some m.cls := by rw [← hM]; exact C.2.2.2.2.1
  obtain ⟨a9, ha9⟩ := hG.1 _ hstr
  have hown0 : G.2.1.vm.findClass RX10 = some (G.2.2.1.1 10) := (hG.2.1.1 10 _ rfl).2.1
  obtain ⟨k1, cf1, i1, sa, -, -, -, -, -, hev⟩ := Cond.stringRef_spec hown0 ha9
  have hR0 : vk_R RX10 is text sa G.2.1 := vk_R.of (A := a9) ha9 hev
  have hR := vk_R.warm hWs hR0
  have hat : ∀ w ∈ Cond.classLink RX10 ik cls :: Cond.initialized cls :: vx_atS RX10 ic cls ["java/lang/RuntimeException", "java/lang/Exception"], w.before args s = true := fun w hw => rx_wG hG hWs (hT.2 w hw).1 (hT.2 w hw).2.1 args
  have hlocks : meth.locks = false := C.2.2.2.2.2.1
  refine vx_throwSW (A := rx_A G) (names := ["java/lang/RuntimeException", "java/lang/Exception"]) C.1 C.2.1 hG.2.2.2.2.2.2.2.1 hown hT.1 (by decide +kernel) (hat _ List.mem_cons_self) (hat _ (List.mem_cons_of_mem _ List.mem_cons_self)) hR (fun w hw => hat w (List.mem_cons_of_mem _ (List.mem_cons_of_mem _ hw))) (fun w hw => (hT.2 w hw).2.2)
    (vx_Zq.kept (vx_Zq.moved hWs.alike hG.2.2.2.2.2.2.2.2.1) (rx_keptB hs)) (vx_Zq.kept (vx_Zq.moved hWs.alike hG.2.2.2.2.2.2.2.2.2) (rx_keptB hs)) (rx_S hB hs h2 h3 h4) (h5.1.trans C.2.2.2.1.symm) d0 d3 d4 d6 d9 (fun x hx => by rw [hex, hM0] at hx; cases hx) (by show 2 + 3 < R.frames; omega) (by show 0 + (13 * (2 + 1) + 43) ≤ R.locals; omega) (by omega) (by omega) hlocks
    (fun t ha hz ho => ?_) h4 (by omega) (by omega)
  obtain ⟨n, hn, hrel⟩ := rx_Rel_gap h2.2.1 hz ho
  exact ⟨_, k n hn, hrel, fun q hq => by rw [ho q (by rw [h2.2.1.1]; omega)]; exact h2.2.2 q hq, Nat.le_trans h3 hz⟩
end RXTW
theorem gx_throwW {G : rx_E} {M : rx_Me} {d pc : Nat} {lv : List (Nat × Value)} {C : rx_M} {S : gs_T} {ik is ic : Nat} {cls text : String} {Q : Option Value → rx_M → Prop} (hG : rx_OK G) (hM : M.1.cls = RX10) (hM0 : M.2.2.2.2 = []) (hT : rx_Th ik ic cls) (hstr : Cond.stringRef RX10 is text ∈ lw_tbl)
    (d0 : decode M.2.1 pc = .ok (.new ik, 3)) (d3 : decode M.2.1 (pc + 3) = .ok (.dup, 1)) (d4 : decode M.2.1 (pc + 4) = .ok (.ldc_w is, 3)) (d6 : decode M.2.1 (pc + 7) = .ok (.invokespecial ic, 3)) (d9 : decode M.2.1 (pc + 10) = .ok (.athrow, 1)) : rx_W G M (d + 8) pc lv [] (gl C S) 8 2000 Q (zq C S cls) :=
  rx_Wm (mc := 0 + 1) (ms := 0 + 6) (rx_throwW hG hM hM0 hT hstr d0 d3 d4 d6 d9 (fun n hn => ⟨rfl, _, gl_gap hn, rc_ag_gap hn⟩)) (by decide) (by decide)
def w_mix (x y : Int64) : Int64 := (((x ^^^ ((y <<< ((nI 23).toInt64 &&& 63)) ||| ((y.toUInt64 >>> ((nI 41).toInt64.toUInt64 &&& Int64.toUInt64 63)).toInt64))) * (-7046029254386353131)) + 1) ^^^ (((((x ^^^ ((y <<< ((nI 23).toInt64 &&& 63)) ||| ((y.toUInt64 >>> ((nI 41).toInt64.toUInt64 &&& Int64.toUInt64 63)).toInt64))) * (-7046029254386353131)) + 1).toUInt64 >>> ((nI 29).toInt64.toUInt64 &&& Int64.toUInt64 63)).toInt64)
theorem mf_mix {G : rx_E} {d : Nat} {mu : rx_M} (hG : rx_OK G) {x y : Int64} : rx_C G MX11_mix d [.long x, .long y] mu 0 0 (fun v m => v = some (.long (w_mix x y)) ∧ m = mu) := by
  refine rx_meth0 (by decide +kernel) rfl (Nat.le_of_ble_eq_true rfl) ?_
  refine rx_lload_n dX11_mix_0 rfl ?_
  refine rx_lload_n dX11_mix_1 rfl ?_
  refine rx_bipush (v := nI 23) dX11_mix_2 rfl ?_
  refine rx_lshl dX11_mix_4 ?_
  refine rx_lload_n dX11_mix_5 rfl ?_
  refine rx_bipush (v := nI 41) dX11_mix_6 rfl ?_
  refine rx_lushr dX11_mix_8 ?_
  refine rx_lor dX11_mix_9 ?_
  refine rx_lxor dX11_mix_10 ?_
  refine rx_ldc2 hG hw_894 dX11_mix_11 ?_
  refine rx_lmul dX11_mix_14 ?_
  refine rx_lconst (v := 1) dX11_mix_15 rfl ?_
  refine rx_ladd dX11_mix_16 ?_
  refine rx_lstore dX11_mix_17 (by decide) ?_
  refine rx_lload dX11_mix_19 rfl ?_
  refine rx_lload dX11_mix_21 rfl ?_
  refine rx_bipush (v := nI 29) dX11_mix_23 rfl ?_
  refine rx_lushr dX11_mix_25 ?_
  refine rx_lxor dX11_mix_26 ?_
  exact rx_lret rfl dX11_mix_27 ⟨rfl, rfl⟩
theorem cf_mix {G : rx_E} {d : Nat} {mu : rx_M} (hG : rx_OK G) {x y : Int64} : rx_C G MX10_mix d [.long x, .long y] mu 0 0 (fun v m => v = some (.long (w_mix x y)) ∧ m = mu) := by
  refine rx_meth0 (by decide +kernel) rfl (Nat.le_of_ble_eq_true rfl) ?_
  refine rx_lload_n dX10_mix_0 rfl ?_
  refine rx_bipush (v := nI 23) dX10_mix_1 rfl ?_
  refine rx_lshl dX10_mix_3 ?_
  refine rx_lload_n dX10_mix_4 rfl ?_
  refine rx_bipush (v := nI 41) dX10_mix_5 rfl ?_
  refine rx_lushr dX10_mix_7 ?_
  refine rx_lor dX10_mix_8 ?_
  refine rx_lstore dX10_mix_9 (by decide) ?_
  refine rx_lload_n dX10_mix_11 rfl ?_
  refine rx_lload dX10_mix_12 rfl ?_
  refine rx_lxor dX10_mix_14 ?_
  refine rx_ldc2 hG hw_875 dX10_mix_15 ?_
  refine rx_lmul dX10_mix_18 ?_
  refine rx_lconst (v := 1) dX10_mix_19 rfl ?_
  refine rx_ladd dX10_mix_20 ?_
  refine rx_lstore dX10_mix_21 (by decide) ?_
  refine rx_lload dX10_mix_23 rfl ?_
  refine rx_lload dX10_mix_25 rfl ?_
  refine rx_bipush (v := nI 29) dX10_mix_27 rfl ?_
  refine rx_lushr dX10_mix_29 ?_
  refine rx_lxor dX10_mix_30 ?_
  exact rx_lret rfl dX10_mix_31 ⟨rfl, rfl⟩
def w_nz (x : Int64) : Int64 := if x = 0 then 1 else x
def w_leafd (i : Nat) (v : Int64) : Int64 := if v = 0 then 0 else w_nz (w_mix (lN (i + 1)) v)
def w_both (l r : Int64) : Int64 := if l = 0 ∧ r = 0 then 0 else w_nz (w_mix l r)
theorem cf_nz {G : rx_E} {d : Nat} {mu : rx_M} (hG : rx_OK G) {x : Int64} : rx_C G MX10_neverZero d [.long x] mu 0 0 (fun v m => v = some (.long (w_nz x)) ∧ m = mu) := by
  refine rx_meth0 (by decide +kernel) rfl (Nat.le_of_ble_eq_true rfl) ?_
  refine rx_lload_n dX10_neverZero_0 rfl ?_
  refine rx_lconst (v := 0) dX10_neverZero_1 rfl ?_
  refine rx_lc_ne (tgt := 10) dX10_neverZero_2 dX10_neverZero_3 (by decide) (fun h2 => ?_) (fun h2 => ?_)
  · refine rx_lload_n dX10_neverZero_10 rfl ?_
    exact rx_lret rfl dX10_neverZero_11 ⟨by unfold w_nz; rw [if_neg h2], rfl⟩
  · refine rx_lconst (v := 1) dX10_neverZero_6 rfl ?_
    refine rx_goto (tgt := 11) dX10_neverZero_7 (by decide) ?_
    exact rx_lret rfl dX10_neverZero_11 ⟨by unfold w_nz; rw [if_pos h2], rfl⟩
theorem cf_leafd {G : rx_E} {d : Nat} {mu : rx_M} (hG : rx_OK G) {i : Nat} {v : Int64} (hi : i < 1024) : rx_C G MX10_leafDigest (d + 1) [.int (nI i), .long v] mu 0 0 (fun vv m => vv = some (.long (w_leafd i v)) ∧ m = mu) := by
  refine rx_meth0 (by decide +kernel) rfl (Nat.le_of_ble_eq_true rfl) ?_
  refine rx_lload_n dX10_leafDigest_0 rfl ?_
  refine rx_lconst (v := 0) dX10_leafDigest_1 rfl ?_
  refine rx_lc_ne (tgt := 10) dX10_leafDigest_2 dX10_leafDigest_3 (by decide) (fun h2 => ?_) (fun h2 => ?_)
  · refine rx_iload_n dX10_leafDigest_10 rfl ?_
    refine rx_iconst (v := nI 1) dX10_leafDigest_11 rfl ?_
    refine rx_iadd dX10_leafDigest_12 ?_
    refine rx_ti (y := nI (i + 1)) ((nI_add _ _).trans (congrArg nI (by omega))) ?_
    refine rx_i2l dX10_leafDigest_13 ?_
    refine rx_tl (y := lN (i + 1)) (nI_l (by omega)) ?_
    refine rx_lload_n dX10_leafDigest_14 rfl ?_
    refine rx_invS0 (as := [.long _, .long _]) hG okX10_mix lk_RX10_318 dX10_leafDigest_15 rfl (by simp [Value.category]) (cf_mix hG) ?_
    rintro _ _ ⟨rfl, rfl⟩
    refine rx_invS0 (as := [.long _]) hG okX10_neverZero lk_RX10_321 dX10_leafDigest_18 rfl (by simp [Value.category]) (cf_nz hG) ?_
    rintro _ _ ⟨rfl, rfl⟩
    exact rx_lret rfl dX10_leafDigest_21 ⟨by unfold w_leafd; rw [if_neg h2], rfl⟩
  · refine rx_lconst (v := 0) dX10_leafDigest_6 rfl ?_
    refine rx_goto (tgt := 21) dX10_leafDigest_7 (by decide) ?_
    exact rx_lret rfl dX10_leafDigest_21 ⟨by unfold w_leafd; rw [if_pos h2], rfl⟩
theorem cf_pair {G : rx_E} {d : Nat} {mu : rx_M} (hG : rx_OK G) {x y : Int64} : rx_C G MX10_pairDigest (d + 1) [.long x, .long y] mu 0 0 (fun v m => v = some (.long (w_both x y)) ∧ m = mu) := by
  refine rx_meth0 (by decide +kernel) rfl (Nat.le_of_ble_eq_true rfl) ?_
  refine rx_lload_n dX10_pairDigest_0 rfl ?_
  refine rx_lconst (v := 0) dX10_pairDigest_1 rfl ?_
  refine rx_lc_ne (tgt := 16) dX10_pairDigest_2 dX10_pairDigest_3 (by decide) (fun h2 => ?_) (fun h2 => ?_)
  · refine rx_lload_n dX10_pairDigest_16 rfl ?_
    refine rx_lload_n dX10_pairDigest_17 rfl ?_
    refine rx_invS0 (as := [.long _, .long _]) hG okX10_mix lk_RX10_318 dX10_pairDigest_18 rfl (by simp [Value.category]) (cf_mix hG) ?_
    rintro _ _ ⟨rfl, rfl⟩
    refine rx_invS0 (as := [.long _]) hG okX10_neverZero lk_RX10_321 dX10_pairDigest_21 rfl (by simp [Value.category]) (cf_nz hG) ?_
    rintro _ _ ⟨rfl, rfl⟩
    exact rx_lret rfl dX10_pairDigest_24 ⟨by unfold w_both; rw [if_neg (fun q => h2 q.1)], rfl⟩
  · refine rx_lload_n dX10_pairDigest_6 rfl ?_
    refine rx_lconst (v := 0) dX10_pairDigest_7 rfl ?_
    refine rx_lc_ne (tgt := 16) dX10_pairDigest_8 dX10_pairDigest_9 (by decide) (fun h8 => ?_) (fun h8 => ?_)
    · refine rx_lload_n dX10_pairDigest_16 rfl ?_
      refine rx_lload_n dX10_pairDigest_17 rfl ?_
      refine rx_invS0 (as := [.long _, .long _]) hG okX10_mix lk_RX10_318 dX10_pairDigest_18 rfl (by simp [Value.category]) (cf_mix hG) ?_
      rintro _ _ ⟨rfl, rfl⟩
      refine rx_invS0 (as := [.long _]) hG okX10_neverZero lk_RX10_321 dX10_pairDigest_21 rfl (by simp [Value.category]) (cf_nz hG) ?_
      rintro _ _ ⟨rfl, rfl⟩
      exact rx_lret rfl dX10_pairDigest_24 ⟨by unfold w_both; rw [if_neg (fun q => h8 q.2)], rfl⟩
    · refine rx_lconst (v := 0) dX10_pairDigest_12 rfl ?_
      refine rx_goto (tgt := 24) dX10_pairDigest_13 (by decide) ?_
      exact rx_lret rfl dX10_pairDigest_24 ⟨by unfold w_both; rw [if_pos ⟨h2, h8⟩], rfl⟩
theorem mf_leafd {G : rx_E} {d : Nat} {mu : rx_M} (hG : rx_OK G) {i : Nat} {v : Int64} (hi : i < 1024) : rx_C G MX11_leafDigest (d + 1) [.int (nI i), .long v] mu 0 0 (fun vv m => vv = some (.long (w_leafd i v)) ∧ m = mu) := by
  refine rx_meth0 (by decide +kernel) rfl (Nat.le_of_ble_eq_true rfl) ?_
  refine rx_iload_n dX11_leafDigest_0 rfl ?_
  refine rx_i2l dX11_leafDigest_1 ?_
  refine rx_tl (y := lN i) (nI_l (by omega)) ?_
  refine rx_lconst (v := 1) dX11_leafDigest_2 rfl ?_
  refine rx_ladd dX11_leafDigest_3 ?_
  refine rx_tl (y := lN (i + 1)) (lN_1 _) ?_
  refine rx_lload_n dX11_leafDigest_4 rfl ?_
  refine rx_invS0 (as := [.long _, .long _]) hG okX11_mix lk_RX11_323 dX11_leafDigest_5 rfl (by simp [Value.category]) (mf_mix hG) ?_
  rintro _ _ ⟨rfl, rfl⟩
  refine rx_lstore_n dX11_leafDigest_8 (by decide) ?_
  refine rx_lload_n dX11_leafDigest_9 rfl ?_
  refine rx_lconst (v := 0) dX11_leafDigest_10 rfl ?_
  refine rx_lc_ne (tgt := 19) dX11_leafDigest_11 dX11_leafDigest_12 (by decide) (fun h11 => ?_) (fun h11 => ?_)
  · refine rx_lload_n dX11_leafDigest_19 rfl ?_
    refine rx_lconst (v := 0) dX11_leafDigest_20 rfl ?_
    refine rx_lc_ne (tgt := 29) dX11_leafDigest_21 dX11_leafDigest_22 (by decide) (fun h21 => ?_) (fun h21 => ?_)
    · refine rx_lload_n dX11_leafDigest_29 rfl ?_
      exact rx_lret rfl dX11_leafDigest_30 ⟨by unfold w_leafd w_nz; rw [if_neg h11, if_neg h21], rfl⟩
    · refine rx_lconst (v := 1) dX11_leafDigest_25 rfl ?_
      refine rx_goto (tgt := 30) dX11_leafDigest_26 (by decide) ?_
      exact rx_lret rfl dX11_leafDigest_30 ⟨by unfold w_leafd w_nz; rw [if_neg h11, if_pos h21], rfl⟩
  · refine rx_lconst (v := 0) dX11_leafDigest_15 rfl ?_
    refine rx_goto (tgt := 30) dX11_leafDigest_16 (by decide) ?_
    exact rx_lret rfl dX11_leafDigest_30 ⟨by unfold w_leafd; rw [if_pos h11], rfl⟩
theorem mf_both {G : rx_E} {d : Nat} {mu : rx_M} (hG : rx_OK G) {x y : Int64} : rx_C G MX11_both (d + 1) [.long x, .long y] mu 0 0 (fun v m => v = some (.long (w_both x y)) ∧ m = mu) := by
  refine rx_meth0 (by decide +kernel) rfl (Nat.le_of_ble_eq_true rfl) ?_
  refine rx_lload_n dX11_both_0 rfl ?_
  refine rx_lload_n dX11_both_1 rfl ?_
  refine rx_invS0 (as := [.long _, .long _]) hG okX11_mix lk_RX11_323 dX11_both_2 rfl (by simp [Value.category]) (mf_mix hG) ?_
  rintro _ _ ⟨rfl, rfl⟩
  refine rx_lstore dX11_both_5 (by decide) ?_
  refine rx_lload_n dX11_both_7 rfl ?_
  refine rx_lconst (v := 0) dX11_both_8 rfl ?_
  refine rx_lc_ne (tgt := 23) dX11_both_9 dX11_both_10 (by decide) (fun h9 => ?_) (fun h9 => ?_)
  · refine rx_lload dX11_both_23 rfl ?_
    refine rx_lconst (v := 0) dX11_both_25 rfl ?_
    refine rx_lc_ne (tgt := 34) dX11_both_26 dX11_both_27 (by decide) (fun h26 => ?_) (fun h26 => ?_)
    · refine rx_lload dX11_both_34 rfl ?_
      exact rx_lret rfl dX11_both_36 ⟨by unfold w_both w_nz; rw [if_neg (fun q => h9 q.1), if_neg h26], rfl⟩
    · refine rx_lconst (v := 1) dX11_both_30 rfl ?_
      refine rx_goto (tgt := 36) dX11_both_31 (by decide) ?_
      exact rx_lret rfl dX11_both_36 ⟨by unfold w_both w_nz; rw [if_neg (fun q => h9 q.1), if_pos h26], rfl⟩
  · refine rx_lload_n dX11_both_13 rfl ?_
    refine rx_lconst (v := 0) dX11_both_14 rfl ?_
    refine rx_lc_ne (tgt := 23) dX11_both_15 dX11_both_16 (by decide) (fun h15 => ?_) (fun h15 => ?_)
    · refine rx_lload dX11_both_23 rfl ?_
      refine rx_lconst (v := 0) dX11_both_25 rfl ?_
      refine rx_lc_ne (tgt := 34) dX11_both_26 dX11_both_27 (by decide) (fun h26 => ?_) (fun h26 => ?_)
      · refine rx_lload dX11_both_34 rfl ?_
        exact rx_lret rfl dX11_both_36 ⟨by unfold w_both w_nz; rw [if_neg (fun q => h15 q.2), if_neg h26], rfl⟩
      · refine rx_lconst (v := 1) dX11_both_30 rfl ?_
        refine rx_goto (tgt := 36) dX11_both_31 (by decide) ?_
        exact rx_lret rfl dX11_both_36 ⟨by unfold w_both w_nz; rw [if_neg (fun q => h15 q.2), if_pos h26], rfl⟩
    · refine rx_lconst (v := 0) dX11_both_19 rfl ?_
      refine rx_goto (tgt := 36) dX11_both_20 (by decide) ?_
      exact rx_lret rfl dX11_both_36 ⟨by unfold w_both; rw [if_pos ⟨h9, h15⟩], rfl⟩
def w_pr (bs : Nat → Int64) (lf : Nat) : Nat → Nat → Int64 → Int64
  | 0, _, e => e
  | k + 1, j, e => w_pr bs lf k (j + 1) (if (nI lf >>> (nI j &&& 31)) &&& nI 1 = 0 then w_both e (bs j) else w_both (bs j) e)
theorem cf_proves_w {G : rx_E} {d : Nat} {C : rx_M} {S : gs_T} (hG : rx_OK G) {x z : Int64} {y : Int32} (hy : wi_out y 1024) : rx_X G MX10_proves (d + 8) [.ref 0, .long x, .int y, .long z] (gl C S) 8 2000 (fun _ _ => False) (zq C S "java/lang/IndexOutOfBoundsException") := by
  refine rx_meth (by decide +kernel) rfl (Nat.le_of_ble_eq_true rfl) ?_
  refine rx_iload_n dX10_proves_0 rfl ?_
  refine rx_i2l dX10_proves_1 ?_
  refine rx_sipush (v := nI 1024) dX10_proves_2 rfl ?_
  refine rx_invS0 (as := [.long _, .int _]) hG okX10_isWithin lk_RX10_127 dX10_proves_5 rfl (by simp [Value.category]) (cw_out hG hy (by omega)) ?_
  rintro _ _ ⟨rfl, rfl⟩
  refine rx_if_ne (tgt := 22) dX10_proves_8 (by decide) (fun q => absurd q (by decide)) (fun _ => ?_)
  exact gx_throwW hG rfl rfl th_x hw_882 dX10_proves_11 dX10_proves_14 dX10_proves_15 dX10_proves_18 dX10_proves_21
theorem lc_proves {G : rx_E} {d mc ms : Nat} {C : rx_M} {S : gs_T} {x : Int64} {i : Nat} {bs : Nat → Int64} {Q : Option Value → rx_M → Prop} {Z : String → rx_M → Prop} (hG : rx_OK G) (hbs : ∀ k, k < 10 → C.2.1 51 k = bs k) : ∀ (k j : Nat) (e : Int64), j + k = 10 → Q (some (.int (bI (decide (w_pr bs i k j e = x))))) (gl C S) → rx_W G MX10_proves (d + 2) 33 [(6, .long e), (8, .int (nI j)), (0, .ref 0), (1, .long x), (3, .int (nI i))] [] (gl C S) mc ms Q Z := by
  intro k
  induction k with
  | zero =>
    intro j e hj hQ
    have hj : j = 10 := by omega
    subst hj
    have hQ : Q (some (.int (bI (decide (e = x))))) (gl C S) := hQ
    refine rx_iload dX10_proves_33 rfl ?_
    refine rx_bipush (v := nI 10) dX10_proves_35 rfl ?_
    refine rx_icmp_ge (tgt := 96) dX10_proves_37 (by decide) (fun h37 => ?_) (fun h37 => (absurd h37 (by decide))) 
    refine rx_lload dX10_proves_96 rfl ?_
    refine rx_lload_n dX10_proves_98 rfl ?_
    refine rx_lc_ne (tgt := 107) dX10_proves_99 dX10_proves_100 (by decide) (fun h99 => ?_) (fun h99 => ?_)
    · refine rx_iconst (v := nI 0) dX10_proves_107 rfl ?_
      exact rx_zret rfl rfl dX10_proves_108 (by have hq := hQ; rw [decide_eq_false (show ¬ e = x from h99)] at hq; exact hq)
    · refine rx_iconst (v := nI 1) dX10_proves_103 rfl ?_
      refine rx_goto (tgt := 108) dX10_proves_104 (by decide) ?_
      exact rx_zret rfl rfl dX10_proves_108 (by have hq := hQ; rw [decide_eq_true (show e = x from h99)] at hq; exact hq)
  | succ k ih =>
    intro j e hj hQ
    refine rx_iload dX10_proves_33 rfl ?_
    refine rx_bipush (v := nI 10) dX10_proves_35 rfl ?_
    refine rx_icmp_ge (tgt := 96) dX10_proves_37 (by decide) (fun h37 => (absurd h37 (by rw [nI_leI (by omega) (by omega)]; omega))) (fun h37 => ?_)
    refine rx_iload_n dX10_proves_40 rfl ?_
    refine rx_iload dX10_proves_41 rfl ?_
    refine rx_ishr dX10_proves_43 ?_
    refine rx_iconst (v := nI 1) dX10_proves_44 rfl ?_
    refine rx_iand dX10_proves_45 ?_
    refine rx_if_eq (tgt := 53) dX10_proves_46 (by decide) (fun h46 => ?_) (fun h46 => ?_)
    · refine rx_iconst (v := nI 0) dX10_proves_53 rfl ?_
      refine rx_istore dX10_proves_54 (by decide) ?_
      refine rx_iload dX10_proves_56 rfl ?_
      refine rx_if_eq (tgt := 76) dX10_proves_58 (by decide) (fun h58 => ?_) (fun h58 => (absurd h58 (by decide))) 
      refine rx_lload dX10_proves_76 rfl ?_
      refine rx_aload_n dX10_proves_78 rfl rfl ?_
      refine g_getR hG hf_RX10_56 rfl dX10_proves_79 rfl rfl rfl ?_
      refine rx_iload dX10_proves_82 rfl ?_
      refine gcv_lald (j := j) (v := bs j) hG dX10_proves_84 rfl rfl rfl rfl (by omega) (by decide) (hbs j (by omega)) ?_
      refine rx_invS0 (as := [.long _, .long _]) hG okX10_pairDigest lk_RX10_262 dX10_proves_85 rfl (by simp [Value.category]) (cf_pair hG) ?_
      rintro _ _ ⟨rfl, rfl⟩
      refine rx_lstore dX10_proves_88 (by decide) ?_
      refine rx_iinc (v := nI (j + 1)) dX10_proves_90 rfl ((nI_add _ 1).trans (congrArg nI (by omega))) ?_
      refine rx_goto (tgt := 33) dX10_proves_93 (by decide) ?_
      refine rx_lv (lv' := [(6, .long _), (8, .int (nI (j + 1))), (0, .ref 0), (1, .long x), (3, .int (nI i))]) ⟨rfl, rfl, rfl, rfl, rfl, trivial⟩ ?_
      refine ih (j + 1) _ (by omega) ?_
      have ec : (if (nI i >>> (nI j &&& 31)) &&& nI 1 = 0 then w_both e (bs j) else w_both (bs j) e) = w_both e (bs j) := if_pos h46
      rw [← ec]; exact hQ
    · refine rx_iconst (v := nI 1) dX10_proves_49 rfl ?_
      refine rx_goto (tgt := 54) dX10_proves_50 (by decide) ?_
      refine rx_istore dX10_proves_54 (by decide) ?_
      refine rx_iload dX10_proves_56 rfl ?_
      refine rx_if_eq (tgt := 76) dX10_proves_58 (by decide) (fun h58 => (absurd h58 (by decide))) (fun h58 => ?_)
      refine rx_aload_n dX10_proves_61 rfl rfl ?_
      refine g_getR hG hf_RX10_56 rfl dX10_proves_62 rfl rfl rfl ?_
      refine rx_iload dX10_proves_65 rfl ?_
      refine gcv_lald (j := j) (v := bs j) hG dX10_proves_67 rfl rfl rfl rfl (by omega) (by decide) (hbs j (by omega)) ?_
      refine rx_lload dX10_proves_68 rfl ?_
      refine rx_invS0 (as := [.long _, .long _]) hG okX10_pairDigest lk_RX10_262 dX10_proves_70 rfl (by simp [Value.category]) (cf_pair hG) ?_
      rintro _ _ ⟨rfl, rfl⟩
      refine rx_goto (tgt := 88) dX10_proves_73 (by decide) ?_
      refine rx_lstore dX10_proves_88 (by decide) ?_
      refine rx_iinc (v := nI (j + 1)) dX10_proves_90 rfl ((nI_add _ 1).trans (congrArg nI (by omega))) ?_
      refine rx_goto (tgt := 33) dX10_proves_93 (by decide) ?_
      refine rx_lv (lv' := [(6, .long _), (8, .int (nI (j + 1))), (0, .ref 0), (1, .long x), (3, .int (nI i))]) ⟨rfl, rfl, rfl, rfl, rfl, trivial⟩ ?_
      refine ih (j + 1) _ (by omega) ?_
      have ec : (if (nI i >>> (nI j &&& 31)) &&& nI 1 = 0 then w_both e (bs j) else w_both (bs j) e) = w_both (bs j) e := if_neg h46
      rw [← ec]; exact hQ
theorem lm_proves {G : rx_E} {d mc ms : Nat} {C : rx_M} {S : gs_T} {x : Int64} {i : Nat} {bs : Nat → Int64} {Q : Option Value → rx_M → Prop} {Z : String → rx_M → Prop} (hG : rx_OK G) (hbs : ∀ k, k < 10 → S.2 81 k = bs k) : ∀ (k j : Nat) (e : Int64), j + k = 10 → Q (some (.int (bI (decide (w_pr bs i k j e = x))))) (gl C S) → rx_W G MX11_proves (d + 2) 40 [(6, .long e), (8, .int (nI j)), (0, .ref 52), (1, .long x), (3, .int (nI i))] [] (gl C S) mc ms Q Z := by
  intro k
  induction k with
  | zero =>
    intro j e hj hQ
    have hj : j = 10 := by omega
    subst hj
    have hQ : Q (some (.int (bI (decide (e = x))))) (gl C S) := hQ
    refine rx_iload dX11_proves_40 rfl ?_
    refine rx_bipush (v := nI 10) dX11_proves_42 rfl ?_
    refine rx_icmp_ge (tgt := 91) dX11_proves_44 (by decide) (fun h44 => ?_) (fun h44 => (absurd h44 (by decide))) 
    refine rx_lload dX11_proves_91 rfl ?_
    refine rx_lload_n dX11_proves_93 rfl ?_
    refine rx_lc_ne (tgt := 102) dX11_proves_94 dX11_proves_95 (by decide) (fun h94 => ?_) (fun h94 => ?_)
    · refine rx_iconst (v := nI 0) dX11_proves_102 rfl ?_
      exact rx_zret rfl rfl dX11_proves_103 (by have hq := hQ; rw [decide_eq_false (show ¬ e = x from h94)] at hq; exact hq)
    · refine rx_iconst (v := nI 1) dX11_proves_98 rfl ?_
      refine rx_goto (tgt := 103) dX11_proves_99 (by decide) ?_
      exact rx_zret rfl rfl dX11_proves_103 (by have hq := hQ; rw [decide_eq_true (show e = x from h94)] at hq; exact hq)
  | succ k ih =>
    intro j e hj hQ
    refine rx_iload dX11_proves_40 rfl ?_
    refine rx_bipush (v := nI 10) dX11_proves_42 rfl ?_
    refine rx_icmp_ge (tgt := 91) dX11_proves_44 (by decide) (fun h44 => (absurd h44 (by rw [nI_leI (by omega) (by omega)]; omega))) (fun h44 => ?_)
    refine rx_iload_n dX11_proves_47 rfl ?_
    refine rx_iload dX11_proves_48 rfl ?_
    refine rx_ishr dX11_proves_50 ?_
    refine rx_iconst (v := nI 1) dX11_proves_51 rfl ?_
    refine rx_iand dX11_proves_52 ?_
    refine rx_if_ne (tgt := 71) dX11_proves_53 (by decide) (fun h53 => ?_) (fun h53 => ?_)
    · refine rx_aload_n dX11_proves_71 rfl rfl ?_
      refine g_getR hG hf_RX11_96 rfl dX11_proves_72 rfl rfl rfl ?_
      refine rx_iload dX11_proves_75 rfl ?_
      refine gmv_lald (j := j) (v := bs j) hG dX11_proves_77 rfl rfl rfl rfl (by omega) (by decide) (hbs j (by omega)) ?_
      refine rx_lload dX11_proves_78 rfl ?_
      refine rx_invS0 (as := [.long _, .long _]) hG okX11_both lk_RX11_335 dX11_proves_80 rfl (by simp [Value.category]) (mf_both hG) ?_
      rintro _ _ ⟨rfl, rfl⟩
      refine rx_lstore dX11_proves_83 (by decide) ?_
      refine rx_iinc (v := nI (j + 1)) dX11_proves_85 rfl ((nI_add _ 1).trans (congrArg nI (by omega))) ?_
      refine rx_goto (tgt := 40) dX11_proves_88 (by decide) ?_
      refine rx_lv (lv' := [(6, .long _), (8, .int (nI (j + 1))), (0, .ref 52), (1, .long x), (3, .int (nI i))]) ⟨rfl, rfl, rfl, rfl, rfl, trivial⟩ ?_
      refine ih (j + 1) _ (by omega) ?_
      have ec : (if (nI i >>> (nI j &&& 31)) &&& nI 1 = 0 then w_both e (bs j) else w_both (bs j) e) = w_both (bs j) e := if_neg h53
      rw [← ec]; exact hQ
    · refine rx_lload dX11_proves_56 rfl ?_
      refine rx_aload_n dX11_proves_58 rfl rfl ?_
      refine g_getR hG hf_RX11_96 rfl dX11_proves_59 rfl rfl rfl ?_
      refine rx_iload dX11_proves_62 rfl ?_
      refine gmv_lald (j := j) (v := bs j) hG dX11_proves_64 rfl rfl rfl rfl (by omega) (by decide) (hbs j (by omega)) ?_
      refine rx_invS0 (as := [.long _, .long _]) hG okX11_both lk_RX11_335 dX11_proves_65 rfl (by simp [Value.category]) (mf_both hG) ?_
      rintro _ _ ⟨rfl, rfl⟩
      refine rx_goto (tgt := 83) dX11_proves_68 (by decide) ?_
      refine rx_lstore dX11_proves_83 (by decide) ?_
      refine rx_iinc (v := nI (j + 1)) dX11_proves_85 rfl ((nI_add _ 1).trans (congrArg nI (by omega))) ?_
      refine rx_goto (tgt := 40) dX11_proves_88 (by decide) ?_
      refine rx_lv (lv' := [(6, .long _), (8, .int (nI (j + 1))), (0, .ref 52), (1, .long x), (3, .int (nI i))]) ⟨rfl, rfl, rfl, rfl, rfl, trivial⟩ ?_
      refine ih (j + 1) _ (by omega) ?_
      have ec : (if (nI i >>> (nI j &&& 31)) &&& nI 1 = 0 then w_both e (bs j) else w_both (bs j) e) = w_both e (bs j) := if_pos h53
      rw [← ec]; exact hQ
theorem cf_proves {G : rx_E} {d : Nat} {C : rx_M} {S : gs_T} (hG : rx_OK G) {x z : Int64} {i : Nat} {bs : Nat → Int64} (hi : i < 1024) (hbs : ∀ k, k < 10 → C.2.1 51 k = bs k) : rx_X G MX10_proves (d + 8) [.ref 0, .long x, .int (nI i), .long z] (gl C S) 8 2000 (fun v mu => v = some (.int (bI (decide (w_pr bs i 10 0 (w_leafd i z) = x)))) ∧ ∃ C', mu = gl C' S ∧ C' = C) (fun _ _ => False) := by
  refine rx_meth (by decide +kernel) rfl (Nat.le_of_ble_eq_true rfl) ?_
  refine rx_iload_n dX10_proves_0 rfl ?_
  refine rx_i2l dX10_proves_1 ?_
  refine rx_tl (y := lN i) (nI_l (by omega)) ?_
  refine rx_sipush (v := nI 1024) dX10_proves_2 rfl ?_
  refine rx_invS0 (as := [.long _, .int _]) hG okX10_isWithin lk_RX10_127 dX10_proves_5 rfl (by simp [Value.category]) (cw_in hG hi (by omega)) ?_
  rintro _ _ ⟨rfl, rfl⟩
  refine rx_if_ne (tgt := 22) dX10_proves_8 (by decide) (fun h8 => ?_) (fun h8 => (absurd h8 (by decide))) 
  refine rx_iload_n dX10_proves_22 rfl ?_
  refine rx_lload dX10_proves_23 rfl ?_
  refine rx_invS0 (as := [.int _, .long _]) hG okX10_leafDigest lk_RX10_258 dX10_proves_25 rfl (by simp [Value.category]) (cf_leafd hG hi) ?_
  rintro _ _ ⟨rfl, rfl⟩
  refine rx_lstore dX10_proves_28 (by decide) ?_
  refine rx_iconst (v := nI 0) dX10_proves_30 rfl ?_
  refine rx_istore dX10_proves_31 (by decide) ?_
  refine rx_lv (lv' := [(6, .long (w_leafd i z)), (8, .int (nI 0)), (0, .ref 0), (1, .long x), (3, .int (nI i))]) ⟨rfl, rfl, rfl, rfl, rfl, trivial⟩ ?_
  exact lc_proves hG hbs 10 0 _ rfl ⟨rfl, C, rfl, rfl⟩
theorem mf_proves {G : rx_E} {d : Nat} {C : rx_M} {S : gs_T} (hG : rx_OK G) {x z : Int64} {i : Nat} {bs : Nat → Int64} (hi : i < 1024) (hbs : ∀ k, k < 10 → S.2 81 k = bs k) : rx_C G MX11_proves (d + 2) [.ref 52, .long x, .int (nI i), .long z] (gl C S) 0 0 (fun vv mu => vv = some (.int (bI (decide (w_pr bs i 10 0 (w_leafd i z) = x)))) ∧ mu = gl C (rx_u S.1 52 0 (nI 0), S.2)) := by
  refine rx_meth0 (by decide +kernel) rfl (Nat.le_of_ble_eq_true rfl) ?_
  refine rx_aload_n dX11_proves_0 rfl rfl ?_
  refine rx_iload_n dX11_proves_1 rfl ?_
  refine rx_if_lt (tgt := 16) dX11_proves_2 (by decide) (fun h2 => (absurd h2 (nI_pos (by omega)))) (fun h2 => ?_)
  refine rx_iload_n dX11_proves_5 rfl ?_
  refine rx_sipush (v := nI 1024) dX11_proves_6 rfl ?_
  refine rx_icmp_ge (tgt := 16) dX11_proves_9 (by decide) (fun h9 => (absurd h9 (by rw [nI_leI (by omega) (by omega)]; omega))) (fun h9 => ?_)
  refine rx_iconst (v := nI 0) dX11_proves_12 rfl ?_
  refine rx_goto (tgt := 17) dX11_proves_13 (by decide) ?_
  refine gm_putI hG hf_RX11_160 (gw_nf rfl rfl) rfl dX11_proves_17 rfl rfl rfl rfl rfl ?_
  refine rx_aload_n dX11_proves_20 rfl rfl ?_
  refine gmv_getI (v := nI 0) hG hf_RX11_160 rfl dX11_proves_21 rfl rfl rfl (by simp [rx_ru]) ?_
  refine rx_if_le (tgt := 29) dX11_proves_24 (by decide) (fun h24 => ?_) (fun h24 => (absurd h24 (by decide))) 
  refine rx_iload_n dX11_proves_29 rfl ?_
  refine rx_lload dX11_proves_30 rfl ?_
  refine rx_invS0 (as := [.int _, .long _]) hG okX11_leafDigest lk_RX11_331 dX11_proves_32 rfl (by simp [Value.category]) (mf_leafd hG hi) ?_
  rintro _ _ ⟨rfl, rfl⟩
  refine rx_lstore dX11_proves_35 (by decide) ?_
  refine rx_iconst (v := nI 0) dX11_proves_37 rfl ?_
  refine rx_istore dX11_proves_38 (by decide) ?_
  refine rx_lv (lv' := [(6, .long (w_leafd i z)), (8, .int (nI 0)), (0, .ref 52), (1, .long x), (3, .int (nI i))]) ⟨rfl, rfl, rfl, rfl, rfl, trivial⟩ ?_
  exact lm_proves (S := (rx_u S.1 52 0 (nI 0), S.2)) hG hbs 10 0 _ rfl ⟨rfl, rfl⟩
theorem mf_proves_w {G : rx_E} {d : Nat} {C : rx_M} {S : gs_T} (hG : rx_OK G) {x z : Int64} {y : Int32} (hy : wi_out y 1024) : rx_C G MX11_proves (d + 2) [.ref 52, .long x, .int y, .long z] (gl C S) 0 0 (fun vv mu => vv = some (.int (nI 0)) ∧ mu = gl C (rx_u S.1 52 0 (nI 1), S.2)) := by
  refine rx_meth0 (by decide +kernel) rfl (Nat.le_of_ble_eq_true rfl) ?_
  refine rx_aload_n dX11_proves_0 rfl rfl ?_
  refine rx_iload_n dX11_proves_1 rfl ?_
  refine rx_if_lt (tgt := 16) dX11_proves_2 (by decide) (fun h2 => ?_) (fun h2 => ?_)
  · refine rx_iconst (v := nI 1) dX11_proves_16 rfl ?_
    refine gm_putI hG hf_RX11_160 (gw_nf rfl rfl) rfl dX11_proves_17 rfl rfl rfl rfl rfl ?_
    refine rx_aload_n dX11_proves_20 rfl rfl ?_
    refine gmv_getI (v := nI 1) hG hf_RX11_160 rfl dX11_proves_21 rfl rfl rfl (by simp [rx_ru]) ?_
    refine rx_if_le (tgt := 29) dX11_proves_24 (by decide) (fun h24 => (absurd h24 (by decide))) (fun h24 => ?_)
    refine rx_iconst (v := nI 0) dX11_proves_27 rfl ?_
    exact rx_zret rfl rfl dX11_proves_28 ⟨rfl, rfl⟩
  · refine rx_iload_n dX11_proves_5 rfl ?_
    refine rx_sipush (v := nI 1024) dX11_proves_6 rfl ?_
    refine rx_icmp_ge (tgt := 16) dX11_proves_9 (by decide) (fun h9 => ?_) (fun h9 => wi_d1 hy h2 h9) 
    refine rx_iconst (v := nI 1) dX11_proves_16 rfl ?_
    refine gm_putI hG hf_RX11_160 (gw_nf rfl rfl) rfl dX11_proves_17 rfl rfl rfl rfl rfl ?_
    refine rx_aload_n dX11_proves_20 rfl rfl ?_
    refine gmv_getI (v := nI 1) hG hf_RX11_160 rfl dX11_proves_21 rfl rfl rfl (by simp [rx_ru]) ?_
    refine rx_if_le (tgt := 29) dX11_proves_24 (by decide) (fun h24 => (absurd h24 (by decide))) (fun h24 => ?_)
    refine rx_iconst (v := nI 0) dX11_proves_27 rfl ?_
    exact rx_zret rfl rfl dX11_proves_28 ⟨rfl, rfl⟩
theorem mRZ_t {C : rx_M} {S : gs_T} {w : wW} {t : Nat} {r : Bool} {ans : Int64} (hS : rmw S w) (hr : t = 0 → (if r then 1 else 0 : Int64) = ans) : ∀ v mu, (v = some (.int (bI r)) ∧ mu = gl C (rx_u S.1 52 0 (nI t), S.2)) → mRZ C w t ans v mu := by
  rintro _ _ ⟨rfl, rfl⟩
  exact ⟨_, r, rfl, rfl, rmw_th hS, by simp [rx_ru], hr⟩
theorem F_proves {G : rx_E} {d n : Nat} {w : wW} (hG : rx_OK G) (hN : rx_NC G) (hv : vW w n) (hn : n ≤ 512) (x : Int64) (y : Int32) (z : Int64) : fP n w (fun C S Q => rx_H G ML_proves hL_proves (d + 9) [.ref 0, .long x, .int y, .long z, .ref 101] (gl C S) 8 2000 Q) (fun C S Q => rx_C G MX11_proves (d + 9) [.ref 52, .long x, .int y, .long z] (gl C S) 0 0 Q) mRZ := by
  have hnb := hv.2.2.2.1.1.2
  rcases wi_ix y (N := 1024) (by decide) with hy | ⟨i, hi, rfl⟩
  · exact ⟨1, 0, w, by decide, vW_up hv (Nat.le_succ n), fun A C S hC => rx_Hm (HL_proves_x hG hN (cf_proves_w hG hy)) (hR_x hC (by decide)), fun C S hS => rx_Cm (mf_proves_w hG hy) (mRZ_t (r := false) hS (fun h => absurd h (by decide)))⟩
  exact ⟨0, _, w, by decide, vW_up hv (Nat.le_succ n), fun A C S hC => rx_Hm (HL_proves hG (cf_proves hG hi hC.2.2.2.2.2.1)) (hR_o hC), fun C S hS => rx_Cm (mf_proves hG hi hS.2.2.2.2.2.1) (mRZ_t hS (fun _ => rfl))⟩

theorem dX6_fits_0 : decode cX6_fits 0 = .ok (.iload_n 1, 1) := by decide +kernel
theorem dX6_fits_1 : decode cX6_fits 1 = .ok (.iconst 4, 1) := by decide +kernel
theorem dX6_fits_2 : decode cX6_fits 2 = .ok (.if_icmp .eq 8, 3) := by decide +kernel
theorem dX6_fits_5 : decode cX6_fits 5 = .ok (.iload_n 1, 1) := by decide +kernel
theorem dX6_fits_6 : decode cX6_fits 6 = .ok (.iconst 5, 1) := by decide +kernel
theorem dX6_fits_7 : decode cX6_fits 7 = .ok (.if_icmp .ne 12, 3) := by decide +kernel
theorem dX6_fits_10 : decode cX6_fits 10 = .ok (.aload_n 0, 1) := by decide +kernel
theorem dX6_fits_11 : decode cX6_fits 11 = .ok (.invokevirtual 83, 3) := by decide +kernel
theorem dX6_fits_14 : decode cX6_fits 14 = .ok (.iconst 1, 1) := by decide +kernel
theorem dX6_fits_15 : decode cX6_fits 15 = .ok (.iadd, 1) := by decide +kernel
theorem dX6_fits_16 : decode cX6_fits 16 = .ok (.goto 8, 3) := by decide +kernel
theorem dX6_fits_19 : decode cX6_fits 19 = .ok (.getstatic 87, 3) := by decide +kernel
theorem dX6_fits_22 : decode cX6_fits 22 = .ok (.iload_n 1, 1) := by decide +kernel
theorem dX6_fits_23 : decode cX6_fits 23 = .ok (.iaload, 1) := by decide +kernel
theorem dX6_fits_24 : decode cX6_fits 24 = .ok (.istore_n 2, 1) := by decide +kernel
theorem dX6_fits_25 : decode cX6_fits 25 = .ok (.aload_n 0, 1) := by decide +kernel
theorem dX6_fits_26 : decode cX6_fits 26 = .ok (.getfield 56, 3) := by decide +kernel
theorem dX6_fits_29 : decode cX6_fits 29 = .ok (.iload_n 2, 1) := by decide +kernel
theorem dX6_fits_30 : decode cX6_fits 30 = .ok (.if_icmp .lt 23, 3) := by decide +kernel
theorem dX6_fits_33 : decode cX6_fits 33 = .ok (.aload_n 0, 1) := by decide +kernel
theorem dX6_fits_34 : decode cX6_fits 34 = .ok (.getfield 56, 3) := by decide +kernel
theorem dX6_fits_37 : decode cX6_fits 37 = .ok (.bipush 24, 2) := by decide +kernel
theorem dX6_fits_39 : decode cX6_fits 39 = .ok (.if_icmp .lt 10, 3) := by decide +kernel
theorem dX6_fits_42 : decode cX6_fits 42 = .ok (.iload_n 1, 1) := by decide +kernel
theorem dX6_fits_43 : decode cX6_fits 43 = .ok (.invokestatic 91, 3) := by decide +kernel
theorem dX6_fits_46 : decode cX6_fits 46 = .ok (.ifCond .ne 7, 3) := by decide +kernel
theorem dX6_fits_49 : decode cX6_fits 49 = .ok (.iconst 1, 1) := by decide +kernel
theorem dX6_fits_50 : decode cX6_fits 50 = .ok (.goto 4, 3) := by decide +kernel
theorem dX6_fits_53 : decode cX6_fits 53 = .ok (.iconst 0, 1) := by decide +kernel
theorem dX6_fits_54 : decode cX6_fits 54 = .ok (.ireturn, 1) := by decide +kernel
theorem dX6_giveGas_0 : decode cX6_giveGas 0 = .ok (.lload_n 1, 1) := by decide +kernel
theorem dX6_giveGas_1 : decode cX6_giveGas 1 = .ok (.lconst 0, 1) := by decide +kernel
theorem dX6_giveGas_2 : decode cX6_giveGas 2 = .ok (.invokestatic 74, 3) := by decide +kernel
theorem dX6_giveGas_5 : decode cX6_giveGas 5 = .ok (.aload_n 0, 1) := by decide +kernel
theorem dX6_giveGas_6 : decode cX6_giveGas 6 = .ok (.getfield 47, 3) := by decide +kernel
theorem dX6_giveGas_9 : decode cX6_giveGas 9 = .ok (.i2l, 1) := by decide +kernel
theorem dX6_giveGas_10 : decode cX6_giveGas 10 = .ok (.invokestatic 80, 3) := by decide +kernel
theorem dX6_giveGas_13 : decode cX6_giveGas 13 = .ok (.l2i, 1) := by decide +kernel
theorem dX6_giveGas_14 : decode cX6_giveGas 14 = .ok (.istore_n 3, 1) := by decide +kernel
theorem dX6_giveGas_15 : decode cX6_giveGas 15 = .ok (.aload_n 0, 1) := by decide +kernel
theorem dX6_giveGas_16 : decode cX6_giveGas 16 = .ok (.dup, 1) := by decide +kernel
theorem dX6_giveGas_17 : decode cX6_giveGas 17 = .ok (.getfield 47, 3) := by decide +kernel
theorem dX6_giveGas_20 : decode cX6_giveGas 20 = .ok (.iload_n 3, 1) := by decide +kernel
theorem dX6_giveGas_21 : decode cX6_giveGas 21 = .ok (.isub, 1) := by decide +kernel
theorem dX6_giveGas_22 : decode cX6_giveGas 22 = .ok (.putfield 47, 3) := by decide +kernel
theorem dX6_giveGas_25 : decode cX6_giveGas 25 = .ok (.iload_n 3, 1) := by decide +kernel
theorem dX6_giveGas_26 : decode cX6_giveGas 26 = .ok (.ireturn, 1) := by decide +kernel
theorem dX6_arrange_0 : decode cX6_arrange 0 = .ok (.iload_n 1, 1) := by decide +kernel
theorem dX6_arrange_1 : decode cX6_arrange 1 = .ok (.tableswitch 93 1 4 #[31, 44, 62, 70], 31) := by decide +kernel
theorem dX6_arrange_32 : decode cX6_arrange 32 = .ok (.aload_n 0, 1) := by decide +kernel
theorem dX6_arrange_33 : decode cX6_arrange 33 = .ok (.aload_n 0, 1) := by decide +kernel
theorem dX6_arrange_34 : decode cX6_arrange 34 = .ok (.invokevirtual 83, 3) := by decide +kernel
theorem dX6_arrange_37 : decode cX6_arrange 37 = .ok (.i2b, 1) := by decide +kernel
theorem dX6_arrange_38 : decode cX6_arrange 38 = .ok (.i2l, 1) := by decide +kernel
theorem dX6_arrange_39 : decode cX6_arrange 39 = .ok (.invokevirtual 95, 3) := by decide +kernel
theorem dX6_arrange_42 : decode cX6_arrange 42 = .ok (.goto 73, 3) := by decide +kernel
theorem dX6_arrange_45 : decode cX6_arrange 45 = .ok (.aload_n 0, 1) := by decide +kernel
theorem dX6_arrange_46 : decode cX6_arrange 46 = .ok (.aload_n 0, 1) := by decide +kernel
theorem dX6_arrange_47 : decode cX6_arrange 47 = .ok (.getfield 18, 3) := by decide +kernel
theorem dX6_arrange_50 : decode cX6_arrange 50 = .ok (.aload_n 0, 1) := by decide +kernel
theorem dX6_arrange_51 : decode cX6_arrange 51 = .ok (.getfield 68, 3) := by decide +kernel
theorem dX6_arrange_54 : decode cX6_arrange 54 = .ok (.invokevirtual 99, 3) := by decide +kernel
theorem dX6_arrange_57 : decode cX6_arrange 57 = .ok (.invokevirtual 95, 3) := by decide +kernel
theorem dX6_arrange_60 : decode cX6_arrange 60 = .ok (.goto 55, 3) := by decide +kernel
theorem dX6_arrange_63 : decode cX6_arrange 63 = .ok (.aload_n 0, 1) := by decide +kernel
theorem dX6_arrange_64 : decode cX6_arrange 64 = .ok (.invokevirtual 103, 3) := by decide +kernel
theorem dX6_arrange_67 : decode cX6_arrange 67 = .ok (.pop2, 1) := by decide +kernel
theorem dX6_arrange_68 : decode cX6_arrange 68 = .ok (.goto 47, 3) := by decide +kernel
theorem dX6_arrange_71 : decode cX6_arrange 71 = .ok (.aload_n 0, 1) := by decide +kernel
theorem dX6_arrange_72 : decode cX6_arrange 72 = .ok (.aload_n 0, 1) := by decide +kernel
theorem dX6_arrange_73 : decode cX6_arrange 73 = .ok (.getfield 9, 3) := by decide +kernel
theorem dX6_arrange_76 : decode cX6_arrange 76 = .ok (.aload_n 0, 1) := by decide +kernel
theorem dX6_arrange_77 : decode cX6_arrange 77 = .ok (.getfield 56, 3) := by decide +kernel
theorem dX6_arrange_80 : decode cX6_arrange 80 = .ok (.iconst 1, 1) := by decide +kernel
theorem dX6_arrange_81 : decode cX6_arrange 81 = .ok (.isub, 1) := by decide +kernel
theorem dX6_arrange_82 : decode cX6_arrange 82 = .ok (.aload_n 0, 1) := by decide +kernel
theorem dX6_arrange_83 : decode cX6_arrange 83 = .ok (.invokevirtual 83, 3) := by decide +kernel
theorem dX6_arrange_86 : decode cX6_arrange 86 = .ok (.isub, 1) := by decide +kernel
theorem dX6_arrange_87 : decode cX6_arrange 87 = .ok (.laload, 1) := by decide +kernel
theorem dX6_arrange_88 : decode cX6_arrange 88 = .ok (.invokevirtual 95, 3) := by decide +kernel
theorem dX6_arrange_91 : decode cX6_arrange 91 = .ok (.goto 24, 3) := by decide +kernel
theorem dX6_arrange_94 : decode cX6_arrange 94 = .ok (.aload_n 0, 1) := by decide +kernel
theorem dX6_arrange_95 : decode cX6_arrange 95 = .ok (.aload_n 0, 1) := by decide +kernel
theorem dX6_arrange_96 : decode cX6_arrange 96 = .ok (.getfield 56, 3) := by decide +kernel
theorem dX6_arrange_99 : decode cX6_arrange 99 = .ok (.iconst 1, 1) := by decide +kernel
theorem dX6_arrange_100 : decode cX6_arrange 100 = .ok (.isub, 1) := by decide +kernel
theorem dX6_arrange_101 : decode cX6_arrange 101 = .ok (.aload_n 0, 1) := by decide +kernel
theorem dX6_arrange_102 : decode cX6_arrange 102 = .ok (.getfield 56, 3) := by decide +kernel
theorem dX6_arrange_105 : decode cX6_arrange 105 = .ok (.iconst 1, 1) := by decide +kernel
theorem dX6_arrange_106 : decode cX6_arrange 106 = .ok (.isub, 1) := by decide +kernel
theorem dX6_arrange_107 : decode cX6_arrange 107 = .ok (.aload_n 0, 1) := by decide +kernel
theorem dX6_arrange_108 : decode cX6_arrange 108 = .ok (.invokevirtual 83, 3) := by decide +kernel
theorem dX6_arrange_111 : decode cX6_arrange 111 = .ok (.isub, 1) := by decide +kernel
theorem dX6_arrange_112 : decode cX6_arrange 112 = .ok (.invokevirtual 107, 3) := by decide +kernel
theorem dX6_arrange_115 : decode cX6_arrange 115 = .ok (.return_, 1) := by decide +kernel
theorem dX6_swap_0 : decode cX6_swap 0 = .ok (.aload_n 0, 1) := by decide +kernel
theorem dX6_swap_1 : decode cX6_swap 1 = .ok (.getfield 9, 3) := by decide +kernel
theorem dX6_swap_4 : decode cX6_swap 4 = .ok (.iload_n 1, 1) := by decide +kernel
theorem dX6_swap_5 : decode cX6_swap 5 = .ok (.laload, 1) := by decide +kernel
theorem dX6_swap_6 : decode cX6_swap 6 = .ok (.lstore_n 3, 1) := by decide +kernel
theorem dX6_swap_7 : decode cX6_swap 7 = .ok (.aload_n 0, 1) := by decide +kernel
theorem dX6_swap_8 : decode cX6_swap 8 = .ok (.getfield 9, 3) := by decide +kernel
theorem dX6_swap_11 : decode cX6_swap 11 = .ok (.iload_n 1, 1) := by decide +kernel
theorem dX6_swap_12 : decode cX6_swap 12 = .ok (.aload_n 0, 1) := by decide +kernel
theorem dX6_swap_13 : decode cX6_swap 13 = .ok (.getfield 9, 3) := by decide +kernel
theorem dX6_swap_16 : decode cX6_swap 16 = .ok (.iload_n 2, 1) := by decide +kernel
theorem dX6_swap_17 : decode cX6_swap 17 = .ok (.laload, 1) := by decide +kernel
theorem dX6_swap_18 : decode cX6_swap 18 = .ok (.lastore, 1) := by decide +kernel
theorem dX6_swap_19 : decode cX6_swap 19 = .ok (.aload_n 0, 1) := by decide +kernel
theorem dX6_swap_20 : decode cX6_swap 20 = .ok (.getfield 9, 3) := by decide +kernel
theorem dX6_swap_23 : decode cX6_swap 23 = .ok (.iload_n 2, 1) := by decide +kernel
theorem dX6_swap_24 : decode cX6_swap 24 = .ok (.lload_n 3, 1) := by decide +kernel
theorem dX6_swap_25 : decode cX6_swap 25 = .ok (.lastore, 1) := by decide +kernel
theorem dX6_swap_26 : decode cX6_swap 26 = .ok (.return_, 1) := by decide +kernel
theorem dX6_reckon_0 : decode cX6_reckon 0 = .ok (.aload_n 0, 1) := by decide +kernel
theorem dX6_reckon_1 : decode cX6_reckon 1 = .ok (.invokevirtual 103, 3) := by decide +kernel
theorem dX6_reckon_4 : decode cX6_reckon 4 = .ok (.lstore_n 2, 1) := by decide +kernel
theorem dX6_reckon_5 : decode cX6_reckon 5 = .ok (.iload_n 1, 1) := by decide +kernel
theorem dX6_reckon_6 : decode cX6_reckon 6 = .ok (.bipush 18, 2) := by decide +kernel
theorem dX6_reckon_8 : decode cX6_reckon 8 = .ok (.if_icmp .ne 20, 3) := by decide +kernel
theorem dX6_reckon_11 : decode cX6_reckon 11 = .ok (.aload_n 0, 1) := by decide +kernel
theorem dX6_reckon_12 : decode cX6_reckon 12 = .ok (.lload_n 2, 1) := by decide +kernel
theorem dX6_reckon_13 : decode cX6_reckon 13 = .ok (.lconst 0, 1) := by decide +kernel
theorem dX6_reckon_14 : decode cX6_reckon 14 = .ok (.lcmp, 1) := by decide +kernel
theorem dX6_reckon_15 : decode cX6_reckon 15 = .ok (.ifCond .ne 7, 3) := by decide +kernel
theorem dX6_reckon_18 : decode cX6_reckon 18 = .ok (.lconst 1, 1) := by decide +kernel
theorem dX6_reckon_19 : decode cX6_reckon 19 = .ok (.goto 4, 3) := by decide +kernel
theorem dX6_reckon_22 : decode cX6_reckon 22 = .ok (.lconst 0, 1) := by decide +kernel
theorem dX6_reckon_23 : decode cX6_reckon 23 = .ok (.invokevirtual 95, 3) := by decide +kernel
theorem dX6_reckon_26 : decode cX6_reckon 26 = .ok (.iconst 0, 1) := by decide +kernel
theorem dX6_reckon_27 : decode cX6_reckon 27 = .ok (.ireturn, 1) := by decide +kernel
theorem dX6_reckon_28 : decode cX6_reckon 28 = .ok (.aload_n 0, 1) := by decide +kernel
theorem dX6_reckon_29 : decode cX6_reckon 29 = .ok (.invokevirtual 103, 3) := by decide +kernel
theorem dX6_reckon_32 : decode cX6_reckon 32 = .ok (.lstore 4, 2) := by decide +kernel
theorem dX6_reckon_34 : decode cX6_reckon 34 = .ok (.iload_n 1, 1) := by decide +kernel
theorem dX6_reckon_35 : decode cX6_reckon 35 = .ok (.bipush 9, 2) := by decide +kernel
theorem dX6_reckon_37 : decode cX6_reckon 37 = .ok (.if_icmp .eq 9, 3) := by decide +kernel
theorem dX6_reckon_40 : decode cX6_reckon 40 = .ok (.iload_n 1, 1) := by decide +kernel
theorem dX6_reckon_41 : decode cX6_reckon 41 = .ok (.bipush 10, 2) := by decide +kernel
theorem dX6_reckon_43 : decode cX6_reckon 43 = .ok (.if_icmp .ne 34, 3) := by decide +kernel
theorem dX6_reckon_46 : decode cX6_reckon 46 = .ok (.lload_n 2, 1) := by decide +kernel
theorem dX6_reckon_47 : decode cX6_reckon 47 = .ok (.lconst 0, 1) := by decide +kernel
theorem dX6_reckon_48 : decode cX6_reckon 48 = .ok (.lcmp, 1) := by decide +kernel
theorem dX6_reckon_49 : decode cX6_reckon 49 = .ok (.ifCond .ne 5, 3) := by decide +kernel
theorem dX6_reckon_52 : decode cX6_reckon 52 = .ok (.iconst 3, 1) := by decide +kernel
theorem dX6_reckon_53 : decode cX6_reckon 53 = .ok (.ireturn, 1) := by decide +kernel
theorem dX6_reckon_54 : decode cX6_reckon 54 = .ok (.aload_n 0, 1) := by decide +kernel
theorem dX6_reckon_55 : decode cX6_reckon 55 = .ok (.iload_n 1, 1) := by decide +kernel
theorem dX6_reckon_56 : decode cX6_reckon 56 = .ok (.bipush 9, 2) := by decide +kernel
theorem dX6_reckon_58 : decode cX6_reckon 58 = .ok (.if_icmp .ne 10, 3) := by decide +kernel
theorem dX6_reckon_61 : decode cX6_reckon 61 = .ok (.lload 4, 2) := by decide +kernel
theorem dX6_reckon_63 : decode cX6_reckon 63 = .ok (.lload_n 2, 1) := by decide +kernel
theorem dX6_reckon_64 : decode cX6_reckon 64 = .ok (.ldiv, 1) := by decide +kernel
theorem dX6_reckon_65 : decode cX6_reckon 65 = .ok (.goto 7, 3) := by decide +kernel
theorem dX6_reckon_68 : decode cX6_reckon 68 = .ok (.lload 4, 2) := by decide +kernel
theorem dX6_reckon_70 : decode cX6_reckon 70 = .ok (.lload_n 2, 1) := by decide +kernel
theorem dX6_reckon_71 : decode cX6_reckon 71 = .ok (.lrem, 1) := by decide +kernel
theorem dX6_reckon_72 : decode cX6_reckon 72 = .ok (.invokevirtual 95, 3) := by decide +kernel
theorem dX6_reckon_75 : decode cX6_reckon 75 = .ok (.iconst 0, 1) := by decide +kernel
theorem dX6_reckon_76 : decode cX6_reckon 76 = .ok (.ireturn, 1) := by decide +kernel
theorem dX6_reckon_77 : decode cX6_reckon 77 = .ok (.aload_n 0, 1) := by decide +kernel
theorem dX6_reckon_78 : decode cX6_reckon 78 = .ok (.iload_n 1, 1) := by decide +kernel
theorem dX6_reckon_79 : decode cX6_reckon 79 = .ok (.lload 4, 2) := by decide +kernel
theorem dX6_reckon_81 : decode cX6_reckon 81 = .ok (.lload_n 2, 1) := by decide +kernel
theorem dX6_reckon_82 : decode cX6_reckon 82 = .ok (.invokestatic 111, 3) := by decide +kernel
theorem dX6_reckon_85 : decode cX6_reckon 85 = .ok (.invokevirtual 95, 3) := by decide +kernel
theorem dX6_reckon_88 : decode cX6_reckon 88 = .ok (.iconst 0, 1) := by decide +kernel
theorem dX6_reckon_89 : decode cX6_reckon 89 = .ok (.ireturn, 1) := by decide +kernel
theorem dX6_joined_0 : decode cX6_joined 0 = .ok (.iload_n 0, 1) := by decide +kernel
theorem dX6_joined_1 : decode cX6_joined 1 = .ok (.tableswitch 105 6 16 #[59, 63, 67, 105, 105, 71, 75, 79, 83, 88, 93], 59) := by decide +kernel
theorem dX6_joined_60 : decode cX6_joined 60 = .ok (.lload_n 1, 1) := by decide +kernel
theorem dX6_joined_61 : decode cX6_joined 61 = .ok (.lload_n 3, 1) := by decide +kernel
theorem dX6_joined_62 : decode cX6_joined 62 = .ok (.ladd, 1) := by decide +kernel
theorem dX6_joined_63 : decode cX6_joined 63 = .ok (.lreturn, 1) := by decide +kernel
theorem dX6_joined_64 : decode cX6_joined 64 = .ok (.lload_n 1, 1) := by decide +kernel
theorem dX6_joined_65 : decode cX6_joined 65 = .ok (.lload_n 3, 1) := by decide +kernel
theorem dX6_joined_66 : decode cX6_joined 66 = .ok (.lsub, 1) := by decide +kernel
theorem dX6_joined_67 : decode cX6_joined 67 = .ok (.lreturn, 1) := by decide +kernel
theorem dX6_joined_68 : decode cX6_joined 68 = .ok (.lload_n 1, 1) := by decide +kernel
theorem dX6_joined_69 : decode cX6_joined 69 = .ok (.lload_n 3, 1) := by decide +kernel
theorem dX6_joined_70 : decode cX6_joined 70 = .ok (.lmul, 1) := by decide +kernel
theorem dX6_joined_71 : decode cX6_joined 71 = .ok (.lreturn, 1) := by decide +kernel
theorem dX6_joined_72 : decode cX6_joined 72 = .ok (.lload_n 1, 1) := by decide +kernel
theorem dX6_joined_73 : decode cX6_joined 73 = .ok (.lload_n 3, 1) := by decide +kernel
theorem dX6_joined_74 : decode cX6_joined 74 = .ok (.land, 1) := by decide +kernel
theorem dX6_joined_75 : decode cX6_joined 75 = .ok (.lreturn, 1) := by decide +kernel
theorem dX6_joined_76 : decode cX6_joined 76 = .ok (.lload_n 1, 1) := by decide +kernel
theorem dX6_joined_77 : decode cX6_joined 77 = .ok (.lload_n 3, 1) := by decide +kernel
theorem dX6_joined_78 : decode cX6_joined 78 = .ok (.lor, 1) := by decide +kernel
theorem dX6_joined_79 : decode cX6_joined 79 = .ok (.lreturn, 1) := by decide +kernel
theorem dX6_joined_80 : decode cX6_joined 80 = .ok (.lload_n 1, 1) := by decide +kernel
theorem dX6_joined_81 : decode cX6_joined 81 = .ok (.lload_n 3, 1) := by decide +kernel
theorem dX6_joined_82 : decode cX6_joined 82 = .ok (.lxor, 1) := by decide +kernel
theorem dX6_joined_83 : decode cX6_joined 83 = .ok (.lreturn, 1) := by decide +kernel
theorem dX6_joined_84 : decode cX6_joined 84 = .ok (.lload_n 1, 1) := by decide +kernel
theorem dX6_joined_85 : decode cX6_joined 85 = .ok (.lload_n 3, 1) := by decide +kernel
theorem dX6_joined_86 : decode cX6_joined 86 = .ok (.l2i, 1) := by decide +kernel
theorem dX6_joined_87 : decode cX6_joined 87 = .ok (.lshl, 1) := by decide +kernel
theorem dX6_joined_88 : decode cX6_joined 88 = .ok (.lreturn, 1) := by decide +kernel
theorem dX6_joined_89 : decode cX6_joined 89 = .ok (.lload_n 1, 1) := by decide +kernel
theorem dX6_joined_90 : decode cX6_joined 90 = .ok (.lload_n 3, 1) := by decide +kernel
theorem dX6_joined_91 : decode cX6_joined 91 = .ok (.l2i, 1) := by decide +kernel
theorem dX6_joined_92 : decode cX6_joined 92 = .ok (.lshr, 1) := by decide +kernel
theorem dX6_joined_93 : decode cX6_joined 93 = .ok (.lreturn, 1) := by decide +kernel
theorem dX6_joined_94 : decode cX6_joined 94 = .ok (.lload_n 1, 1) := by decide +kernel
theorem dX6_joined_95 : decode cX6_joined 95 = .ok (.lload_n 3, 1) := by decide +kernel
theorem dX6_joined_96 : decode cX6_joined 96 = .ok (.lcmp, 1) := by decide +kernel
theorem dX6_joined_97 : decode cX6_joined 97 = .ok (.ifCond .ge 7, 3) := by decide +kernel
theorem dX6_joined_100 : decode cX6_joined 100 = .ok (.lconst 1, 1) := by decide +kernel
theorem dX6_joined_101 : decode cX6_joined 101 = .ok (.goto 4, 3) := by decide +kernel
theorem dX6_joined_104 : decode cX6_joined 104 = .ok (.lconst 0, 1) := by decide +kernel
theorem dX6_joined_105 : decode cX6_joined 105 = .ok (.lreturn, 1) := by decide +kernel
theorem dX6_joined_106 : decode cX6_joined 106 = .ok (.lload_n 1, 1) := by decide +kernel
theorem dX6_joined_107 : decode cX6_joined 107 = .ok (.lload_n 3, 1) := by decide +kernel
theorem dX6_joined_108 : decode cX6_joined 108 = .ok (.lcmp, 1) := by decide +kernel
theorem dX6_joined_109 : decode cX6_joined 109 = .ok (.ifCond .ne 7, 3) := by decide +kernel
theorem dX6_joined_112 : decode cX6_joined 112 = .ok (.lconst 1, 1) := by decide +kernel
theorem dX6_joined_113 : decode cX6_joined 113 = .ok (.goto 4, 3) := by decide +kernel
theorem dX6_joined_116 : decode cX6_joined 116 = .ok (.lconst 0, 1) := by decide +kernel
theorem dX6_joined_117 : decode cX6_joined 117 = .ok (.lreturn, 1) := by decide +kernel
theorem dX6_jump_0 : decode cX6_jump 0 = .ok (.aload_n 0, 1) := by decide +kernel
theorem dX6_jump_1 : decode cX6_jump 1 = .ok (.aload_n 0, 1) := by decide +kernel
theorem dX6_jump_2 : decode cX6_jump 2 = .ok (.invokevirtual 83, 3) := by decide +kernel
theorem dX6_jump_5 : decode cX6_jump 5 = .ok (.putfield 59, 3) := by decide +kernel
theorem dX6_jump_8 : decode cX6_jump 8 = .ok (.return_, 1) := by decide +kernel
theorem vb_size1 {op : Nat} : 1 ≤ vm_size op := by unfold vm_size; (repeat' split) <;> omega
theorem rx_takesE : ∀ op, op < 40 → rx_takes.getD op 0 = nI (vm_takes op) := by decide +kernel
theorem rx_costsE : ∀ op, op < 40 → rx_costs.getD op 0 = nI (vm_cost op) := by decide +kernel
theorem cc_paysT {G : rx_E} {d : Nat} {S : gs_T} {K : Nat → Nat × Nat} {C0 C : rx_M} {g : vg_T} {bs od : Nat} {n : Nat → Int64} {e : List (Nat × Int64 × Int64)} {b m c a q s k : Nat} {v r : Int64} {l o : Bool} {t : List Int64} {w : (Nat → Int64) × Nat × Nat} {fs : List vf_T} {z : Int32} (hG : rx_OK G) {ct : Nat} (hp : fs.length < 10) (hct : ct ≤ 100) (hq : q ≤ 30000) (h : ct ≤ q) (hY : rc_Y K C0 C g bs od (n, e, b, ((c, a, q, s, k), (v, r), (l, o), t, w) :: fs, m) z) : rx_C G MX6_pays d [.ref (13 + 3 * fs.length), .int (nI ct)] (gl C S) 0 0 (rcq S K C0 g bs od (n, e, b, ((c, a, q - ct, s, k), (v, r), (l, o), t, w) :: fs, m) z (some (.int (nI 1)))) := by
  refine rx_meth0 (by decide +kernel) rfl (Nat.le_of_ble_eq_true rfl) ?_
  refine rx_aload_n dX6_pays_0 rfl rfl ?_
  refine gcv_getI (v := nI q) hG hf_RX6_47 rfl dX6_pays_1 (gkF_m hp) (gkF_f hp) (gkF_k hp) (rc_gas hY) ?_
  refine rx_iload_n dX6_pays_4 rfl ?_
  refine rx_icmp_ge (tgt := 10) dX6_pays_5 (by decide) (fun h5 => ?_) (fun h5 => absurd (by rw [nI_leI (by omega) (by omega)]; omega) h5) 
  refine rx_aload_n dX6_pays_10 rfl rfl ?_
  refine rx_dup dX6_pays_11 rfl ?_
  refine gcv_getI (v := nI q) hG hf_RX6_47 rfl dX6_pays_12 (gkF_m hp) (gkF_f hp) (gkF_k hp) (rc_gas hY) ?_
  refine rx_iload_n dX6_pays_15 rfl ?_
  refine rx_isub dX6_pays_16 ?_
  refine rx_ti (y := nI (q - ct)) (pk_sub (by omega)) ?_
  refine gc_putI hG hf_RX6_47 (gw_nf rfl rfl) rfl dX6_pays_17 (gkF_m hp) (gkF_f hp) (gkF_k hp) rfl rfl ?_
  refine rcY_ab (rcY_setGas hY hp (q - ct)) (fun _ hY1 => ?_)
  refine rx_iconst (v := nI 1) dX6_pays_20 rfl ?_
  exact rx_zret rfl rfl dX6_pays_21 ⟨rfl, _, rfl, hY1⟩
theorem cc_paysF {G : rx_E} {d : Nat} {S : gs_T} {K : Nat → Nat × Nat} {C0 C : rx_M} {g : vg_T} {bs od : Nat} {n : Nat → Int64} {e : List (Nat × Int64 × Int64)} {b m c a q s k : Nat} {v r : Int64} {l o : Bool} {t : List Int64} {w : (Nat → Int64) × Nat × Nat} {fs : List vf_T} {z : Int32} (hG : rx_OK G) {ct : Nat} (hp : fs.length < 10) (hct : ct ≤ 100) (hq : q ≤ 30000) (h : q < ct) (hY : rc_Y K C0 C g bs od (n, e, b, ((c, a, q, s, k), (v, r), (l, o), t, w) :: fs, m) z) : rx_C G MX6_pays d [.ref (13 + 3 * fs.length), .int (nI ct)] (gl C S) 0 0 (rcq S K C0 g bs od (n, e, b, ((c, a, q, s, k), (v, r), (l, o), t, w) :: fs, m) z (some (.int (nI 0)))) := by
  refine rx_meth0 (by decide +kernel) rfl (Nat.le_of_ble_eq_true rfl) ?_
  refine rx_aload_n dX6_pays_0 rfl rfl ?_
  refine gcv_getI (v := nI q) hG hf_RX6_47 rfl dX6_pays_1 (gkF_m hp) (gkF_f hp) (gkF_k hp) (rc_gas hY) ?_
  refine rx_iload_n dX6_pays_4 rfl ?_
  refine rx_icmp_ge (tgt := 10) dX6_pays_5 (by decide) (fun h5 => absurd h5 (by rw [nI_leI (by omega) (by omega)]; omega)) (fun h5 => ?_)
  refine rx_iconst (v := nI 0) dX6_pays_8 rfl ?_
  exact rx_zret rfl rfl dX6_pays_9 ⟨rfl, _, rfl, hY⟩
theorem cc_operand {G : rx_E} {d : Nat} {S : gs_T} {K : Nat → Nat × Nat} {C0 C : rx_M} {g : vg_T} {bs od : Nat} {n : Nat → Int64} {e : List (Nat × Int64 × Int64)} {b m c a q s k : Nat} {v r : Int64} {l o : Bool} {t : List Int64} {w : (Nat → Int64) × Nat × Nat} {fs : List vf_T} (hG : rx_OK G) {zz : Nat} {cd : List Nat} (hp : fs.length < 10) (hcd : g.1 c = cd) (hc : c < g.2.1) (hcl : cd.length ≤ 200) (hoct : ∀ k, k < cd.length → cd.getD k 0 < 256) (hz : zz < 2 ^ 20) (hY : rc_Y K C0 C g bs od (n, e, b, ((c, a, q, s, k), (v, r), (l, o), t, w) :: fs, m) (nI zz)) : rx_C G MX6_operand (d + 1) [.ref (13 + 3 * fs.length)] (gl C S) 0 0 (rcq S K C0 g bs od (n, e, b, ((c, a, q, s, k), (v, r), (l, o), t, w) :: fs, m) (nI zz) (some (.int (nI (cd.getD zz 0))))) := by
  refine rx_meth0 (by decide +kernel) rfl (Nat.le_of_ble_eq_true rfl) ?_
  refine rx_aload_n dX6_operand_0 rfl rfl ?_
  refine gd_getR hG hf_RX6_18 rfl dX6_operand_1 (gkF_f hp) (gkF_k hp) (gkF_r5 hp) (rc_code hY) ?_
  refine rx_aload_n dX6_operand_4 rfl rfl ?_
  refine gcv_getI (v := (nI zz)) hG hf_RX6_68 rfl dX6_operand_5 (gkF_m hp) (gkF_f hp) (gkF_k hp) (rc_op hY) ?_
  refine gx_invV (as := [.int _]) hG okX2_octetAt lk_RX6_62 (rc_cod hY hc).2.1.1 (rc_cod hY hc).2.1.2.1 dX6_operand_8 rfl (by simp [Value.category]) (cc_octetAt hG (hcd ▸ (rc_cod hY hc).2) hcl hoct (by omega)) ?_
  rintro _ _ ⟨rfl, rfl⟩
  exact rx_iret rfl dX6_operand_11 ⟨rfl, _, rfl, hY⟩
theorem cc_nextAct {G : rx_E} {d : Nat} {S : gs_T} {K : Nat → Nat × Nat} {C0 C : rx_M} {g : vg_T} {bs od : Nat} {n : Nat → Int64} {e : List (Nat × Int64 × Int64)} {b m c a q s k : Nat} {v r : Int64} {l o : Bool} {t : List Int64} {w : (Nat → Int64) × Nat × Nat} {fs : List vf_T} {z : Int32} (hG : rx_OK G) {op : Nat} {cd : List Nat} (hp : fs.length < 10) (hcd : g.1 c = cd) (hc : c < g.2.1) (hcl : cd.length ≤ 200) (hoct : ∀ k, k < cd.length → cd.getD k 0 < 256) (ha : a < 256) (hop : cd.getD a 0 = op) (hop1 : op < 40) (hY : rc_Y K C0 C g bs od (n, e, b, ((c, a, q, s, k), (v, r), (l, o), t, w) :: fs, m) z) : rx_C G MX6_nextAct (d + 1) [.ref (13 + 3 * fs.length)] (gl C S) 0 0 (rcq S K C0 g bs od (n, e, b, ((c, a + vm_size op, q, s, k), (v, r), (l, o), t, w) :: fs, m) (nI (a + 1)) (some (.int (nI op)))) := by
  refine rx_meth0 (by decide +kernel) rfl (Nat.le_of_ble_eq_true rfl) ?_
  have hs1 := @vb_size1 op
  have hs9 := @vb_size op
  refine rx_aload_n dX6_nextAct_0 rfl rfl ?_
  refine gd_getR hG hf_RX6_18 rfl dX6_nextAct_1 (gkF_f hp) (gkF_k hp) (gkF_r5 hp) (rc_code hY) ?_
  refine rx_aload_n dX6_nextAct_4 rfl rfl ?_
  refine gcv_getI (v := nI a) hG hf_RX6_59 rfl dX6_nextAct_5 (gkF_m hp) (gkF_f hp) (gkF_k hp) (rc_at hY) ?_
  refine gx_invV (as := [.int _]) hG okX2_octetAt lk_RX6_62 (rc_cod hY hc).2.1.1 (rc_cod hY hc).2.1.2.1 dX6_nextAct_8 rfl (by simp [Value.category]) (cc_octetAt hG (hcd ▸ (rc_cod hY hc).2) hcl hoct (by omega)) ?_
  rintro _ _ ⟨rfl, rfl⟩
  refine rx_ti (y := nI op) (congrArg nI hop) ?_
  refine rx_istore_n dX6_nextAct_11 (by decide) ?_
  refine rx_aload_n dX6_nextAct_12 rfl rfl ?_
  refine rx_aload_n dX6_nextAct_13 rfl rfl ?_
  refine gcv_getI (v := nI a) hG hf_RX6_59 rfl dX6_nextAct_14 (gkF_m hp) (gkF_f hp) (gkF_k hp) (rc_at hY) ?_
  refine rx_iconst (v := nI 1) dX6_nextAct_17 rfl ?_
  refine rx_iadd dX6_nextAct_18 ?_
  refine rx_ti (y := nI (a + 1)) ((nI_add _ _).trans (congrArg nI (by omega))) ?_
  refine gc_putI hG hf_RX6_68 (gw_nf rfl rfl) rfl dX6_nextAct_19 (gkF_m hp) (gkF_f hp) (gkF_k hp) rfl rfl ?_
  refine rcY_ab (rcY_setOp hY hp (nI (a + 1))) (fun _ hY1 => ?_)
  refine rx_aload_n dX6_nextAct_22 rfl rfl ?_
  refine rx_dup dX6_nextAct_23 rfl ?_
  refine gcv_getI (v := nI a) hG hf_RX6_59 rfl dX6_nextAct_24 (gkF_m hp) (gkF_f hp) (gkF_k hp) (rc_at hY1) ?_
  refine rx_iconst (v := nI 1) dX6_nextAct_27 rfl ?_
  refine rx_iload_n dX6_nextAct_28 rfl ?_
  refine rx_invS0 (as := [.int _]) hG okX2_octetsBehind lk_RX6_71 dX6_nextAct_29 rfl (by simp [Value.category]) (cc_behind hG hop1) ?_
  rintro _ _ ⟨rfl, rfl⟩
  refine rx_iadd dX6_nextAct_32 ?_
  refine rx_ti (y := nI ((vm_size op - 1) + 1)) ((nI_add _ _).trans (congrArg nI (by omega))) ?_
  refine rx_iadd dX6_nextAct_33 ?_
  refine rx_ti (y := nI ((vm_size op - 1) + a + 1)) ((nI_add _ _).trans (congrArg nI (by omega))) ?_
  refine rx_ti (y := nI (a + vm_size op)) (congrArg nI (by omega)) ?_
  refine gc_putI hG hf_RX6_59 (gw_nf rfl rfl) rfl dX6_nextAct_34 (gkF_m hp) (gkF_f hp) (gkF_k hp) rfl rfl ?_
  refine rcY_ab (rcY_setAt hY1 hp (a + vm_size op)) (fun _ hY2 => ?_)
  refine rx_iload_n dX6_nextAct_37 rfl ?_
  exact rx_iret rfl dX6_nextAct_38 ⟨rfl, _, rfl, hY2⟩
theorem cc_oneMore {G : rx_E} {d : Nat} {op : Nat} {mu : rx_M} (hG : rx_OK G) (hop : op < 40) : rx_C G MX6_leavesOneMore d [.int (nI op)] mu 0 0 (fun v m => (∃ r, ((r = 1 ∧ (op = 1 ∨ op = 2 ∨ op = 4 ∨ (23 ≤ op ∧ op ≤ 29))) ∨ (r = 0 ∧ ¬ (op = 1 ∨ op = 2 ∨ op = 4 ∨ (23 ≤ op ∧ op ≤ 29)))) ∧ v = some (.int (nI r))) ∧ m = mu) := by
  refine rx_meth0 (by decide +kernel) rfl (Nat.le_of_ble_eq_true rfl) ?_
  refine rx_iload_n dX6_leavesOneMore_0 rfl ?_
  refine rx_iconst (v := nI 1) dX6_leavesOneMore_1 rfl ?_
  refine rx_icmp_eq (tgt := 27) dX6_leavesOneMore_2 (by decide) (fun h2 => ?_) (fun h2 => ?_)
  · rw [nI_eq (by omega) (by omega)] at h2
    refine rx_iconst (v := nI 1) dX6_leavesOneMore_27 rfl ?_
    refine rx_goto (tgt := 32) dX6_leavesOneMore_28 (by decide) ?_
    exact rx_zret rfl rfl dX6_leavesOneMore_32 ⟨⟨1, Or.inl ⟨rfl, by omega⟩, rfl⟩, rfl⟩
  · rw [nI_eq (by omega) (by omega)] at h2
    refine rx_iload_n dX6_leavesOneMore_5 rfl ?_
    refine rx_iconst (v := nI 2) dX6_leavesOneMore_6 rfl ?_
    refine rx_icmp_eq (tgt := 27) dX6_leavesOneMore_7 (by decide) (fun h7 => ?_) (fun h7 => ?_)
    · rw [nI_eq (by omega) (by omega)] at h7
      refine rx_iconst (v := nI 1) dX6_leavesOneMore_27 rfl ?_
      refine rx_goto (tgt := 32) dX6_leavesOneMore_28 (by decide) ?_
      exact rx_zret rfl rfl dX6_leavesOneMore_32 ⟨⟨1, Or.inl ⟨rfl, by omega⟩, rfl⟩, rfl⟩
    · rw [nI_eq (by omega) (by omega)] at h7
      refine rx_iload_n dX6_leavesOneMore_10 rfl ?_
      refine rx_iconst (v := nI 4) dX6_leavesOneMore_11 rfl ?_
      refine rx_icmp_eq (tgt := 27) dX6_leavesOneMore_12 (by decide) (fun h12 => ?_) (fun h12 => ?_)
      · rw [nI_eq (by omega) (by omega)] at h12
        refine rx_iconst (v := nI 1) dX6_leavesOneMore_27 rfl ?_
        refine rx_goto (tgt := 32) dX6_leavesOneMore_28 (by decide) ?_
        exact rx_zret rfl rfl dX6_leavesOneMore_32 ⟨⟨1, Or.inl ⟨rfl, by omega⟩, rfl⟩, rfl⟩
      · rw [nI_eq (by omega) (by omega)] at h12
        refine rx_iload_n dX6_leavesOneMore_15 rfl ?_
        refine rx_bipush (v := nI 23) dX6_leavesOneMore_16 rfl ?_
        refine rx_icmp_lt (tgt := 31) dX6_leavesOneMore_18 (by decide) (fun h18 => ?_) (fun h18 => ?_)
        · rw [nI_ltI (by omega) (by omega)] at h18
          refine rx_iconst (v := nI 0) dX6_leavesOneMore_31 rfl ?_
          exact rx_zret rfl rfl dX6_leavesOneMore_32 ⟨⟨0, Or.inr ⟨rfl, by omega⟩, rfl⟩, rfl⟩
        · rw [nI_ltI (by omega) (by omega)] at h18
          refine rx_iload_n dX6_leavesOneMore_21 rfl ?_
          refine rx_bipush (v := nI 29) dX6_leavesOneMore_22 rfl ?_
          refine rx_icmp_gt (tgt := 31) dX6_leavesOneMore_24 (by decide) (fun h24 => ?_) (fun h24 => ?_)
          · rw [nI_ltI (by omega) (by omega)] at h24
            refine rx_iconst (v := nI 0) dX6_leavesOneMore_31 rfl ?_
            exact rx_zret rfl rfl dX6_leavesOneMore_32 ⟨⟨0, Or.inr ⟨rfl, by omega⟩, rfl⟩, rfl⟩
          · rw [nI_ltI (by omega) (by omega)] at h24
            refine rx_iconst (v := nI 1) dX6_leavesOneMore_27 rfl ?_
            refine rx_goto (tgt := 32) dX6_leavesOneMore_28 (by decide) ?_
            exact rx_zret rfl rfl dX6_leavesOneMore_32 ⟨⟨1, Or.inl ⟨rfl, by omega⟩, rfl⟩, rfl⟩
theorem vb_fits {op len : Nat} (hop : op < 40) (hl : len ≤ 24) : (len < vm_takes op ∨ 24 < len - vm_takes op + vm_gives op) ↔ (len < vm_takes op ∨ (24 ≤ len ∧ (op = 1 ∨ op = 2 ∨ op = 4 ∨ (23 ≤ op ∧ op ≤ 29)))) := by
  have hc : op = 0 ∨ op = 1 ∨ op = 2 ∨ op = 3 ∨ op = 4 ∨ op = 5 ∨ op = 6 ∨ op = 7 ∨ op = 8 ∨ op = 9 ∨ op = 10 ∨ op = 11 ∨ op = 12 ∨ op = 13 ∨ op = 14 ∨ op = 15 ∨ op = 16 ∨ op = 17 ∨ op = 18 ∨ op = 19 ∨ op = 20 ∨ op = 21 ∨ op = 22 ∨ op = 23 ∨ op = 24 ∨ op = 25 ∨ op = 26 ∨ op = 27 ∨ op = 28 ∨ op = 29 ∨ op = 30 ∨ op = 31 ∨ op = 32 ∨ op = 33 ∨ op = 34 ∨ op = 35 ∨ op = 36 ∨ op = 37 ∨ op = 38 ∨ op = 39 := by omega
  rcases hc with rfl | rfl | rfl | rfl | rfl | rfl | rfl | rfl | rfl | rfl | rfl | rfl | rfl | rfl | rfl | rfl | rfl | rfl | rfl | rfl | rfl | rfl | rfl | rfl | rfl | rfl | rfl | rfl | rfl | rfl | rfl | rfl | rfl | rfl | rfl | rfl | rfl | rfl | rfl | rfl <;> simp [vm_takes, vm_gives] <;> omega
theorem cc_fits {G : rx_E} {d : Nat} {S : gs_T} {K : Nat → Nat × Nat} {C0 C : rx_M} {g : vg_T} {bs od : Nat} {n : Nat → Int64} {e : List (Nat × Int64 × Int64)} {b m c a q s k : Nat} {v r : Int64} {l o : Bool} {t : List Int64} {w : (Nat → Int64) × Nat × Nat} {fs : List vf_T} (hG : rx_OK G) {op mo a0 : Nat} {cd : List Nat} (hp : fs.length < 10) (hcd : g.1 c = cd) (hc : c < g.2.1) (hcl : cd.length ≤ 200) (hoct : ∀ k, k < cd.length → cd.getD k 0 < 256) (ha : a0 < 256) (hop : op < 40) (hmo : op = 4 ∨ op = 5 → mo = cd.getD (a0 + 1) 0) (hY : rc_Y K C0 C g bs od (n, e, b, ((c, a, q, s, k), (v, r), (l, o), t, w) :: fs, m) (nI (a0 + 1))) : rx_C G MX6_fits (d + 2) [.ref (13 + 3 * fs.length), .int (nI op)] (gl C S) 0 0 (fun vv mu => (∃ r1, ((r1 = 1 ∧ ¬ (t.length < vm_takes op ∨ 24 < t.length - vm_takes op + vm_gives op ∨ ((op = 4 ∨ op = 5) ∧ t.length ≤ mo))) ∨ (r1 = 0 ∧ (t.length < vm_takes op ∨ 24 < t.length - vm_takes op + vm_gives op ∨ ((op = 4 ∨ op = 5) ∧ t.length ≤ mo)))) ∧ vv = some (.int (nI r1))) ∧ ∃ C', mu = gl C' S ∧ rc_Y K C0 C' g bs od (n, e, b, ((c, a, q, s, k), (v, r), (l, o), t, w) :: fs, m) (nI (a0 + 1))) := by
  refine rx_meth0 (by decide +kernel) rfl (Nat.le_of_ble_eq_true rfl) ?_
  have hn := rc_n hY
  have htk := @vb_takes op
  have hvf := vb_fits (len := t.length) hop hn
  have htk0 : op = 4 ∨ op = 5 → vm_takes op = 0 := by rintro (rfl | rfl) <;> rfl
  refine rx_iload_n dX6_fits_0 rfl ?_
  refine rx_iconst (v := nI 4) dX6_fits_1 rfl ?_
  refine rx_icmp_eq (tgt := 10) dX6_fits_2 (by decide) (fun h2 => ?_) (fun h2 => ?_)
  · rw [nI_eq (by omega) (by omega)] at h2
    refine rx_aload_n dX6_fits_10 rfl rfl ?_
    have hmo2 : mo = cd.getD (a0 + 1) 0 := hmo (by omega)
    have hmo3 := oc256 hoct (a0 + 1)
    refine gv_invV (as := []) hG okX6_operand lk_RX6_83 (gkF_f hp) (gkF_k hp) dX6_fits_11 rfl (by simp [Value.category]) (cc_operand hG hp hcd hc hcl hoct (by omega) hY) ?_
    rintro _ _ ⟨rfl, _, rfl, hY1⟩
    refine rx_ti (y := nI mo) (by rw [hmo2]) ?_
    refine rx_iconst (v := nI 1) dX6_fits_14 rfl ?_
    refine rx_iadd dX6_fits_15 ?_
    refine rx_ti (y := nI (mo + 1)) ((nI_add _ _).trans (congrArg nI (by omega))) ?_
    refine rx_goto (tgt := 24) dX6_fits_16 (by decide) ?_
    refine rx_istore_n dX6_fits_24 (by decide) ?_
    refine rx_aload_n dX6_fits_25 rfl rfl ?_
    refine gcv_getI (v := nI t.length) hG hf_RX6_56 rfl dX6_fits_26 (gkF_m hp) (gkF_f hp) (gkF_k hp) (rc_size hY1) ?_
    refine rx_iload_n dX6_fits_29 rfl ?_
    refine rx_icmp_lt (tgt := 53) dX6_fits_30 (by decide) (fun h30 => ?_) (fun h30 => ?_)
    · rw [nI_ltI (by omega) (by omega)] at h30
      refine rx_iconst (v := nI 0) dX6_fits_53 rfl ?_
      exact rx_zret rfl rfl dX6_fits_54 ⟨⟨0, Or.inr ⟨rfl, by omega⟩, rfl⟩, _, rfl, hY1⟩
    · rw [nI_ltI (by omega) (by omega)] at h30
      refine rx_aload_n dX6_fits_33 rfl rfl ?_
      refine gcv_getI (v := nI t.length) hG hf_RX6_56 rfl dX6_fits_34 (gkF_m hp) (gkF_f hp) (gkF_k hp) (rc_size hY1) ?_
      refine rx_bipush (v := nI 24) dX6_fits_37 rfl ?_
      refine rx_icmp_lt (tgt := 49) dX6_fits_39 (by decide) (fun h39 => ?_) (fun h39 => ?_)
      · rw [nI_ltI (by omega) (by omega)] at h39
        refine rx_iconst (v := nI 1) dX6_fits_49 rfl ?_
        refine rx_goto (tgt := 54) dX6_fits_50 (by decide) ?_
        exact rx_zret rfl rfl dX6_fits_54 ⟨⟨1, Or.inl ⟨rfl, by first | omega | (intro hb; omega)⟩, rfl⟩, _, rfl, hY1⟩
      · rw [nI_ltI (by omega) (by omega)] at h39
        refine rx_iload_n dX6_fits_42 rfl ?_
        refine rx_invS0 (as := [.int _]) hG okX6_leavesOneMore lk_RX6_91 dX6_fits_43 rfl (by simp [Value.category]) (cc_oneMore hG hop) ?_
        rintro _ _ ⟨⟨r1, hr1, rfl⟩, rfl⟩
        have hr2 : r1 < 2 := by omega
        refine rx_if_ne (tgt := 53) dX6_fits_46 (by decide) (fun h46 => ?_) (fun h46 => ?_)
        · rw [← nI_0, nI_eq (by omega) (by omega)] at h46
          refine rx_iconst (v := nI 0) dX6_fits_53 rfl ?_
          exact rx_zret rfl rfl dX6_fits_54 ⟨⟨0, Or.inr ⟨rfl, by omega⟩, rfl⟩, _, rfl, hY1⟩
        · rw [← nI_0, nI_eq (by omega) (by omega)] at h46
          refine rx_iconst (v := nI 1) dX6_fits_49 rfl ?_
          refine rx_goto (tgt := 54) dX6_fits_50 (by decide) ?_
          exact rx_zret rfl rfl dX6_fits_54 ⟨⟨1, Or.inl ⟨rfl, by first | omega | (intro hb; omega)⟩, rfl⟩, _, rfl, hY1⟩
  · rw [nI_eq (by omega) (by omega)] at h2
    refine rx_iload_n dX6_fits_5 rfl ?_
    refine rx_iconst (v := nI 5) dX6_fits_6 rfl ?_
    refine rx_icmp_ne (tgt := 19) dX6_fits_7 (by decide) (fun h7 => ?_) (fun h7 => ?_)
    · rw [nI_eq (by omega) (by omega)] at h7
      refine rx_getsT hG hw_920 dX6_fits_19 ?_
      refine rx_iload_n dX6_fits_22 rfl ?_
      refine rx_ialdT hG dX6_fits_23 rfl hop ?_
      refine rx_ti (y := nI (vm_takes op)) (rx_takesE op hop) ?_
      refine rx_istore_n dX6_fits_24 (by decide) ?_
      refine rx_aload_n dX6_fits_25 rfl rfl ?_
      refine gcv_getI (v := nI t.length) hG hf_RX6_56 rfl dX6_fits_26 (gkF_m hp) (gkF_f hp) (gkF_k hp) (rc_size hY) ?_
      refine rx_iload_n dX6_fits_29 rfl ?_
      refine rx_icmp_lt (tgt := 53) dX6_fits_30 (by decide) (fun h30 => ?_) (fun h30 => ?_)
      · rw [nI_ltI (by omega) (by omega)] at h30
        refine rx_iconst (v := nI 0) dX6_fits_53 rfl ?_
        exact rx_zret rfl rfl dX6_fits_54 ⟨⟨0, Or.inr ⟨rfl, by omega⟩, rfl⟩, _, rfl, hY⟩
      · rw [nI_ltI (by omega) (by omega)] at h30
        refine rx_aload_n dX6_fits_33 rfl rfl ?_
        refine gcv_getI (v := nI t.length) hG hf_RX6_56 rfl dX6_fits_34 (gkF_m hp) (gkF_f hp) (gkF_k hp) (rc_size hY) ?_
        refine rx_bipush (v := nI 24) dX6_fits_37 rfl ?_
        refine rx_icmp_lt (tgt := 49) dX6_fits_39 (by decide) (fun h39 => ?_) (fun h39 => ?_)
        · rw [nI_ltI (by omega) (by omega)] at h39
          refine rx_iconst (v := nI 1) dX6_fits_49 rfl ?_
          refine rx_goto (tgt := 54) dX6_fits_50 (by decide) ?_
          exact rx_zret rfl rfl dX6_fits_54 ⟨⟨1, Or.inl ⟨rfl, by first | omega | (intro hb; omega)⟩, rfl⟩, _, rfl, hY⟩
        · rw [nI_ltI (by omega) (by omega)] at h39
          refine rx_iload_n dX6_fits_42 rfl ?_
          refine rx_invS0 (as := [.int _]) hG okX6_leavesOneMore lk_RX6_91 dX6_fits_43 rfl (by simp [Value.category]) (cc_oneMore hG hop) ?_
          rintro _ _ ⟨⟨r1, hr1, rfl⟩, rfl⟩
          have hr2 : r1 < 2 := by omega
          refine rx_if_ne (tgt := 53) dX6_fits_46 (by decide) (fun h46 => ?_) (fun h46 => ?_)
          · rw [← nI_0, nI_eq (by omega) (by omega)] at h46
            refine rx_iconst (v := nI 0) dX6_fits_53 rfl ?_
            exact rx_zret rfl rfl dX6_fits_54 ⟨⟨0, Or.inr ⟨rfl, by omega⟩, rfl⟩, _, rfl, hY⟩
          · rw [← nI_0, nI_eq (by omega) (by omega)] at h46
            refine rx_iconst (v := nI 1) dX6_fits_49 rfl ?_
            refine rx_goto (tgt := 54) dX6_fits_50 (by decide) ?_
            exact rx_zret rfl rfl dX6_fits_54 ⟨⟨1, Or.inl ⟨rfl, by first | omega | (intro hb; omega)⟩, rfl⟩, _, rfl, hY⟩
    · rw [nI_eq (by omega) (by omega)] at h7
      refine rx_aload_n dX6_fits_10 rfl rfl ?_
      have hmo2 : mo = cd.getD (a0 + 1) 0 := hmo (by omega)
      have hmo3 := oc256 hoct (a0 + 1)
      refine gv_invV (as := []) hG okX6_operand lk_RX6_83 (gkF_f hp) (gkF_k hp) dX6_fits_11 rfl (by simp [Value.category]) (cc_operand hG hp hcd hc hcl hoct (by omega) hY) ?_
      rintro _ _ ⟨rfl, _, rfl, hY1⟩
      refine rx_ti (y := nI mo) (by rw [hmo2]) ?_
      refine rx_iconst (v := nI 1) dX6_fits_14 rfl ?_
      refine rx_iadd dX6_fits_15 ?_
      refine rx_ti (y := nI (mo + 1)) ((nI_add _ _).trans (congrArg nI (by omega))) ?_
      refine rx_goto (tgt := 24) dX6_fits_16 (by decide) ?_
      refine rx_istore_n dX6_fits_24 (by decide) ?_
      refine rx_aload_n dX6_fits_25 rfl rfl ?_
      refine gcv_getI (v := nI t.length) hG hf_RX6_56 rfl dX6_fits_26 (gkF_m hp) (gkF_f hp) (gkF_k hp) (rc_size hY1) ?_
      refine rx_iload_n dX6_fits_29 rfl ?_
      refine rx_icmp_lt (tgt := 53) dX6_fits_30 (by decide) (fun h30 => ?_) (fun h30 => ?_)
      · rw [nI_ltI (by omega) (by omega)] at h30
        refine rx_iconst (v := nI 0) dX6_fits_53 rfl ?_
        exact rx_zret rfl rfl dX6_fits_54 ⟨⟨0, Or.inr ⟨rfl, by omega⟩, rfl⟩, _, rfl, hY1⟩
      · rw [nI_ltI (by omega) (by omega)] at h30
        refine rx_aload_n dX6_fits_33 rfl rfl ?_
        refine gcv_getI (v := nI t.length) hG hf_RX6_56 rfl dX6_fits_34 (gkF_m hp) (gkF_f hp) (gkF_k hp) (rc_size hY1) ?_
        refine rx_bipush (v := nI 24) dX6_fits_37 rfl ?_
        refine rx_icmp_lt (tgt := 49) dX6_fits_39 (by decide) (fun h39 => ?_) (fun h39 => ?_)
        · rw [nI_ltI (by omega) (by omega)] at h39
          refine rx_iconst (v := nI 1) dX6_fits_49 rfl ?_
          refine rx_goto (tgt := 54) dX6_fits_50 (by decide) ?_
          exact rx_zret rfl rfl dX6_fits_54 ⟨⟨1, Or.inl ⟨rfl, by first | omega | (intro hb; omega)⟩, rfl⟩, _, rfl, hY1⟩
        · rw [nI_ltI (by omega) (by omega)] at h39
          refine rx_iload_n dX6_fits_42 rfl ?_
          refine rx_invS0 (as := [.int _]) hG okX6_leavesOneMore lk_RX6_91 dX6_fits_43 rfl (by simp [Value.category]) (cc_oneMore hG hop) ?_
          rintro _ _ ⟨⟨r1, hr1, rfl⟩, rfl⟩
          have hr2 : r1 < 2 := by omega
          refine rx_if_ne (tgt := 53) dX6_fits_46 (by decide) (fun h46 => ?_) (fun h46 => ?_)
          · rw [← nI_0, nI_eq (by omega) (by omega)] at h46
            refine rx_iconst (v := nI 0) dX6_fits_53 rfl ?_
            exact rx_zret rfl rfl dX6_fits_54 ⟨⟨0, Or.inr ⟨rfl, by omega⟩, rfl⟩, _, rfl, hY1⟩
          · rw [← nI_0, nI_eq (by omega) (by omega)] at h46
            refine rx_iconst (v := nI 1) dX6_fits_49 rfl ?_
            refine rx_goto (tgt := 54) dX6_fits_50 (by decide) ?_
            exact rx_zret rfl rfl dX6_fits_54 ⟨⟨1, Or.inl ⟨rfl, by first | omega | (intro hb; omega)⟩, rfl⟩, _, rfl, hY1⟩
theorem vm_gasM {ask : Int64} {q : Nat} (hq : q ≤ 30000) : (if lN q < (if (0 : Int64) < ask then ask else 0) then lN q else (if (0 : Int64) < ask then ask else 0)) = lN (vm_gas ask q) := by
  by_cases h0 : ask < 0
  · rw [vm_gas0 h0, if_neg (fun h : (0 : Int64) < ask => absurd h0 (Int64.not_lt.mpr (Int64.le_of_lt h)))]
    rw [if_neg (fun h => by have h : lN q < lN 0 := h; rw [lN_lt (by omega) (by decide)] at h; omega)]; rfl
  · obtain ⟨j, hj, rfl⟩ := pk_lOf h0
    have e1 : (if (0 : Int64) < lN j then lN j else 0) = lN j := by
      by_cases h1 : (0 : Int64) < lN j
      · rw [if_pos h1]
      · rw [if_neg h1]
        have h2 : ¬ lN 0 < lN j := h1
        rw [pk_lLT (by decide) hj] at h2
        rw [show j = 0 by omega]; rfl
    rw [e1]
    by_cases h3 : lN q < lN j
    · rw [if_pos h3, vm_gas2 h0 (Int64.not_lt.mpr (Int64.le_of_lt h3))]
    · rw [if_neg h3]
      have h4 := h3
      rw [pk_lLT (by omega) hj] at h4
      by_cases h5 : j = q
      · subst h5
        rw [vm_gas2 h0 h3]
      · rw [vm_gas1 (by omega) hq (by rw [pk_lLT hj (by omega)]; omega)]
theorem cc_giveGas {G : rx_E} {d : Nat} {S : gs_T} {K : Nat → Nat × Nat} {C0 C : rx_M} {g : vg_T} {bs od : Nat} {n : Nat → Int64} {e : List (Nat × Int64 × Int64)} {b m c a q s k : Nat} {v r : Int64} {l o : Bool} {t : List Int64} {w : (Nat → Int64) × Nat × Nat} {fs : List vf_T} {z : Int32} (hG : rx_OK G) {ask : Int64} (hp : fs.length < 10) (hq : q ≤ 30000) (hY : rc_Y K C0 C g bs od (n, e, b, ((c, a, q, s, k), (v, r), (l, o), t, w) :: fs, m) z) : rx_C G MX6_giveGas (d + 1) [.ref (13 + 3 * fs.length), .long ask] (gl C S) 0 0 (rcq S K C0 g bs od (n, e, b, ((c, a, q - vm_gas ask q, s, k), (v, r), (l, o), t, w) :: fs, m) z (some (.int (nI (vm_gas ask q))))) := by
  refine rx_meth0 (by decide +kernel) rfl (Nat.le_of_ble_eq_true rfl) ?_
  have hgl := vm_gasle (ask := ask) hq
  refine rx_lload_n dX6_giveGas_0 rfl ?_
  refine rx_lconst (v := lN 0) dX6_giveGas_1 rfl ?_
  refine rx_mmaxL hG ⟨hw_383, hw_384, hw_178, hw_177⟩ dX6_giveGas_2 (by simp [Value.category]) ?_
  refine rx_aload_n dX6_giveGas_5 rfl rfl ?_
  refine gcv_getI (v := nI q) hG hf_RX6_47 rfl dX6_giveGas_6 (gkF_m hp) (gkF_f hp) (gkF_k hp) (rc_gas hY) ?_
  refine rx_i2l dX6_giveGas_9 ?_
  refine rx_tl (y := lN q) (nI_l (by omega)) ?_
  refine rx_mminL hG ⟨hw_385, hw_386, hw_178, hw_180⟩ dX6_giveGas_10 (by simp [Value.category]) ?_
  refine rx_tl (y := lN (vm_gas ask q)) (vm_gasM hq) ?_
  refine rx_l2i dX6_giveGas_13 ?_
  refine rx_ti (y := nI (vm_gas ask q)) (lN_i _) ?_
  refine rx_istore_n dX6_giveGas_14 (by decide) ?_
  refine rx_aload_n dX6_giveGas_15 rfl rfl ?_
  refine rx_dup dX6_giveGas_16 rfl ?_
  refine gcv_getI (v := nI q) hG hf_RX6_47 rfl dX6_giveGas_17 (gkF_m hp) (gkF_f hp) (gkF_k hp) (rc_gas hY) ?_
  refine rx_iload_n dX6_giveGas_20 rfl ?_
  refine rx_isub dX6_giveGas_21 ?_
  refine rx_ti (y := nI (q - (vm_gas ask q))) (pk_sub (by omega)) ?_
  refine gc_putI hG hf_RX6_47 (gw_nf rfl rfl) rfl dX6_giveGas_22 (gkF_m hp) (gkF_f hp) (gkF_k hp) rfl rfl ?_
  refine rcY_ab (rcY_setGas hY hp (q - (vm_gas ask q))) (fun _ hY1 => ?_)
  refine rx_iload_n dX6_giveGas_25 rfl ?_
  exact rx_iret rfl dX6_giveGas_26 ⟨rfl, _, rfl, hY1⟩
theorem cc_swap {G : rx_E} {d : Nat} {S : gs_T} {K : Nat → Nat × Nat} {C0 C : rx_M} {g : vg_T} {bs od : Nat} {n : Nat → Int64} {e : List (Nat × Int64 × Int64)} {b m c a q s k : Nat} {v r : Int64} {l o : Bool} {t : List Int64} {w : (Nat → Int64) × Nat × Nat} {fs : List vf_T} {z : Int32} (hG : rx_OK G) {mo j : Nat} (hp : fs.length < 10) (hj : t.length = mo + 1 + j) (hY : rc_Y K C0 C g bs od (n, e, b, ((c, a, q, s, k), (v, r), (l, o), t, w) :: fs, m) z) : rx_C G MX6_swap d [.ref (13 + 3 * fs.length), .int (nI (j + mo)), .int (nI j)] (gl C S) 0 0 (rcq S K C0 g bs od (n, e, b, ((c, a, q, s, k), (v, r), (l, o), ((t.set 0 (t.getD mo 0)).set mo (t.getD 0 0)), w) :: fs, m) z none) := by
  refine rx_meth0 (by decide +kernel) rfl (Nat.le_of_ble_eq_true rfl) ?_
  have hn := rc_n hY
  refine rx_aload_n dX6_swap_0 rfl rfl ?_
  refine g_getR hG hf_RX6_9 rfl dX6_swap_1 (gkF_f hp) (gkF_k hp) (gkF_r0 hp) ?_
  refine rx_iload_n dX6_swap_4 rfl ?_
  refine gcv_lald (j := j + mo) (v := t.getD 0 0) hG dX6_swap_5 (gkT_m hp) (gkT_f hp) (gkT_k hp) rfl (by omega) (by decide) ((by rw [show j + mo = t.length - 1 - 0 by omega]; exact rc_T_get (by omega) (rc_stk hY))) ?_
  refine rx_lstore_n dX6_swap_6 (by decide) ?_
  refine rx_aload_n dX6_swap_7 rfl rfl ?_
  refine g_getR hG hf_RX6_9 rfl dX6_swap_8 (gkF_f hp) (gkF_k hp) (gkF_r0 hp) ?_
  refine rx_iload_n dX6_swap_11 rfl ?_
  refine rx_aload_n dX6_swap_12 rfl rfl ?_
  refine g_getR hG hf_RX6_9 rfl dX6_swap_13 (gkF_f hp) (gkF_k hp) (gkF_r0 hp) ?_
  refine rx_iload_n dX6_swap_16 rfl ?_
  refine gcv_lald (j := j) (v := t.getD mo 0) hG dX6_swap_17 (gkT_m hp) (gkT_f hp) (gkT_k hp) rfl (by omega) (by decide) ((by rw [show j = t.length - 1 - mo by omega]; exact rc_T_get (by omega) (rc_stk hY))) ?_
  refine gc_last (j := j + mo) hG dX6_swap_18 (gkT_m hp) (gkT_f hp) (gkT_k hp) rfl (by omega) (by decide) ?_
  refine rx_aload_n dX6_swap_19 rfl rfl ?_
  refine g_getR hG hf_RX6_9 rfl dX6_swap_20 (gkF_f hp) (gkF_k hp) (gkF_r0 hp) ?_
  refine rx_iload_n dX6_swap_23 rfl ?_
  refine rx_lload_n dX6_swap_24 rfl ?_
  refine gc_last (j := j) hG dX6_swap_25 (gkT_m hp) (gkT_f hp) (gkT_k hp) rfl (by omega) (by decide) ?_
  refine rcY_ab (rcY_swap hY hp hj) (fun _ hY1 => ?_)
  exact rx_vret rfl dX6_swap_26 ⟨rfl, _, rfl, hY1⟩
theorem cc_arr1 {G : rx_E} {d : Nat} {S : gs_T} {K : Nat → Nat × Nat} {C0 C : rx_M} {g : vg_T} {bs od : Nat} {n : Nat → Int64} {e : List (Nat × Int64 × Int64)} {b m c a q s k : Nat} {v r : Int64} {l o : Bool} {t : List Int64} {w : (Nat → Int64) × Nat × Nat} {fs : List vf_T} (hG : rx_OK G) {mo a0 : Nat} {cd : List Nat} (hp : fs.length < 10) (hcd : g.1 c = cd) (hc : c < g.2.1) (hcl : cd.length ≤ 200) (hoct : ∀ k, k < cd.length → cd.getD k 0 < 256) (ha : a0 < 256) (hmo : cd.getD (a0 + 1) 0 = mo) (ht : t.length < 24) (hY : rc_Y K C0 C g bs od (n, e, b, ((c, a, q, s, k), (v, r), (l, o), t, w) :: fs, m) (nI (a0 + 1))) : rx_C G MX6_arrange (d + 2) [.ref (13 + 3 * fs.length), .int (nI 1)] (gl C S) 0 0 (rcq S K C0 g bs od (n, e, b, ((c, a, q, s, k), (v, r), (l, o), ((nI mo).toInt8.toInt32.toInt64 :: t), w) :: fs, m) (nI (a0 + 1)) none) := by
  refine rx_meth0 (by decide +kernel) rfl (Nat.le_of_ble_eq_true rfl) ?_
  have hmo256 := oc256 hoct (a0 + 1)
  rw [hmo] at hmo256
  have hn := rc_n hY
  refine rx_iload_n dX6_arrange_0 rfl ?_
  refine rx_tabIn (tgt := 32) dX6_arrange_1 (by decide) (by decide) rfl (by decide) ?_
  refine rx_aload_n dX6_arrange_32 rfl rfl ?_
  refine rx_aload_n dX6_arrange_33 rfl rfl ?_
  refine gv_invV (as := []) hG okX6_operand lk_RX6_83 (gkF_f hp) (gkF_k hp) dX6_arrange_34 rfl (by simp [Value.category]) (cc_operand hG hp hcd hc hcl hoct (by omega) hY) ?_
  rintro _ _ ⟨rfl, _, rfl, hY1⟩
  refine rx_ti (y := nI mo) (by rw [hmo]) ?_
  refine rx_i2b dX6_arrange_37 ?_
  refine rx_i2l dX6_arrange_38 ?_
  refine rx_tl (y := (nI mo).toInt8.toInt32.toInt64) rfl ?_
  refine gv_invV (as := [.long _]) hG okX6_push lk_RX6_95 (gkF_f hp) (gkF_k hp) dX6_arrange_39 rfl (by simp [Value.category]) (cc_push hG hY1 hp (by (try simp only [List.length_cons, List.length_nil]); omega) _) ?_
  rintro _ _ ⟨rfl, _, rfl, hY2⟩
  refine rx_goto (tgt := 115) dX6_arrange_42 (by decide) ?_
  exact rx_vret rfl dX6_arrange_115 ⟨rfl, _, rfl, hY2⟩
theorem cc_arr2 {G : rx_E} {d : Nat} {S : gs_T} {K : Nat → Nat × Nat} {C0 C : rx_M} {g : vg_T} {bs od : Nat} {n : Nat → Int64} {e : List (Nat × Int64 × Int64)} {b m c a q s k : Nat} {v r : Int64} {l o : Bool} {t : List Int64} {w : (Nat → Int64) × Nat × Nat} {fs : List vf_T} (hG : rx_OK G) {mo a0 : Nat} {cd : List Nat} (hp : fs.length < 10) (hcd : g.1 c = cd) (hc : c < g.2.1) (hcl : cd.length ≤ 200) (hoct : ∀ k, k < cd.length → cd.getD k 0 < 256) (ha : a0 < 256) (hmo : cd.getD (a0 + 1) 0 = mo) (ht : t.length < 24) (hY : rc_Y K C0 C g bs od (n, e, b, ((c, a, q, s, k), (v, r), (l, o), t, w) :: fs, m) (nI (a0 + 1))) : rx_C G MX6_arrange (d + 2) [.ref (13 + 3 * fs.length), .int (nI 2)] (gl C S) 0 0 (rcq S K C0 g bs od (n, e, b, ((c, a, q, s, k), (v, r), (l, o), (vm_big cd a0 8 :: t), w) :: fs, m) (nI (a0 + 1)) none) := by
  refine rx_meth0 (by decide +kernel) rfl (Nat.le_of_ble_eq_true rfl) ?_
  have hmo256 := oc256 hoct (a0 + 1)
  rw [hmo] at hmo256
  have hn := rc_n hY
  refine rx_iload_n dX6_arrange_0 rfl ?_
  refine rx_tabIn (tgt := 45) dX6_arrange_1 (by decide) (by decide) rfl (by decide) ?_
  refine rx_aload_n dX6_arrange_45 rfl rfl ?_
  refine rx_aload_n dX6_arrange_46 rfl rfl ?_
  refine gd_getR hG hf_RX6_18 rfl dX6_arrange_47 (gkF_f hp) (gkF_k hp) (gkF_r5 hp) (rc_code hY) ?_
  refine rx_aload_n dX6_arrange_50 rfl rfl ?_
  refine gcv_getI (v := (nI (a0 + 1))) hG hf_RX6_68 rfl dX6_arrange_51 (gkF_m hp) (gkF_f hp) (gkF_k hp) (rc_op hY) ?_
  refine gx_invV (as := [.int _]) hG okX2_numberAt lk_RX6_99 (rc_cod hY hc).2.1.1 (rc_cod hY hc).2.1.2.1 dX6_arrange_54 rfl (by simp [Value.category]) (cc_numberAt hG (hcd ▸ (rc_cod hY hc).2) hcl hoct (by omega)) ?_
  rintro _ _ ⟨rfl, rfl⟩
  refine gv_invV (as := [.long _]) hG okX6_push lk_RX6_95 (gkF_f hp) (gkF_k hp) dX6_arrange_57 rfl (by simp [Value.category]) (cc_push hG hY hp (by (try simp only [List.length_cons, List.length_nil]); omega) _) ?_
  rintro _ _ ⟨rfl, _, rfl, hY1⟩
  refine rx_goto (tgt := 115) dX6_arrange_60 (by decide) ?_
  exact rx_vret rfl dX6_arrange_115 ⟨rfl, _, rfl, hY1⟩
theorem cc_arr3 {G : rx_E} {d : Nat} {S : gs_T} {K : Nat → Nat × Nat} {C0 C : rx_M} {g : vg_T} {bs od : Nat} {n : Nat → Int64} {e : List (Nat × Int64 × Int64)} {b m c a q s k : Nat} {v r : Int64} {l o : Bool} {t : List Int64} {w : (Nat → Int64) × Nat × Nat} {fs : List vf_T} (hG : rx_OK G) {mo a0 : Nat} {cd : List Nat} (hp : fs.length < 10) (hcd : g.1 c = cd) (hc : c < g.2.1) (hcl : cd.length ≤ 200) (hoct : ∀ k, k < cd.length → cd.getD k 0 < 256) (ha : a0 < 256) (hmo : cd.getD (a0 + 1) 0 = mo) {y : Int64} (hY : rc_Y K C0 C g bs od (n, e, b, ((c, a, q, s, k), (v, r), (l, o), (y :: t), w) :: fs, m) (nI (a0 + 1))) : rx_C G MX6_arrange (d + 2) [.ref (13 + 3 * fs.length), .int (nI 3)] (gl C S) 0 0 (rcq S K C0 g bs od (n, e, b, ((c, a, q, s, k), (v, r), (l, o), t, w) :: fs, m) (nI (a0 + 1)) none) := by
  refine rx_meth0 (by decide +kernel) rfl (Nat.le_of_ble_eq_true rfl) ?_
  have hmo256 := oc256 hoct (a0 + 1)
  rw [hmo] at hmo256
  have hn := rc_n hY
  refine rx_iload_n dX6_arrange_0 rfl ?_
  refine rx_tabIn (tgt := 63) dX6_arrange_1 (by decide) (by decide) rfl (by decide) ?_
  refine rx_aload_n dX6_arrange_63 rfl rfl ?_
  refine gv_invV (as := []) hG okX6_pop lk_RX6_103 (gkF_f hp) (gkF_k hp) dX6_arrange_64 rfl (by simp [Value.category]) (cc_pop hG hY hp) ?_
  rintro _ _ ⟨rfl, _, rfl, hY1⟩
  refine rx_pop2 dX6_arrange_67 rfl ?_
  refine rx_goto (tgt := 115) dX6_arrange_68 (by decide) ?_
  exact rx_vret rfl dX6_arrange_115 ⟨rfl, _, rfl, hY1⟩
theorem cc_arr4 {G : rx_E} {d : Nat} {S : gs_T} {K : Nat → Nat × Nat} {C0 C : rx_M} {g : vg_T} {bs od : Nat} {n : Nat → Int64} {e : List (Nat × Int64 × Int64)} {b m c a q s k : Nat} {v r : Int64} {l o : Bool} {t : List Int64} {w : (Nat → Int64) × Nat × Nat} {fs : List vf_T} (hG : rx_OK G) {mo a0 : Nat} {cd : List Nat} (hp : fs.length < 10) (hcd : g.1 c = cd) (hc : c < g.2.1) (hcl : cd.length ≤ 200) (hoct : ∀ k, k < cd.length → cd.getD k 0 < 256) (ha : a0 < 256) (hmo : cd.getD (a0 + 1) 0 = mo) {j : Nat} (hj : t.length = mo + 1 + j) (ht : t.length < 24) (hY : rc_Y K C0 C g bs od (n, e, b, ((c, a, q, s, k), (v, r), (l, o), t, w) :: fs, m) (nI (a0 + 1))) : rx_C G MX6_arrange (d + 2) [.ref (13 + 3 * fs.length), .int (nI 4)] (gl C S) 0 0 (rcq S K C0 g bs od (n, e, b, ((c, a, q, s, k), (v, r), (l, o), (t.getD mo 0 :: t), w) :: fs, m) (nI (a0 + 1)) none) := by
  refine rx_meth0 (by decide +kernel) rfl (Nat.le_of_ble_eq_true rfl) ?_
  have hmo256 := oc256 hoct (a0 + 1)
  rw [hmo] at hmo256
  have hn := rc_n hY
  refine rx_iload_n dX6_arrange_0 rfl ?_
  refine rx_tabIn (tgt := 71) dX6_arrange_1 (by decide) (by decide) rfl (by decide) ?_
  refine rx_aload_n dX6_arrange_71 rfl rfl ?_
  refine rx_aload_n dX6_arrange_72 rfl rfl ?_
  refine g_getR hG hf_RX6_9 rfl dX6_arrange_73 (gkF_f hp) (gkF_k hp) (gkF_r0 hp) ?_
  refine rx_aload_n dX6_arrange_76 rfl rfl ?_
  refine gcv_getI (v := nI (j + mo + 1)) hG hf_RX6_56 rfl dX6_arrange_77 (gkF_m hp) (gkF_f hp) (gkF_k hp) ((rc_size hY).trans (congrArg nI (by omega))) ?_
  refine rx_iconst (v := nI 1) dX6_arrange_80 rfl ?_
  refine rx_isub dX6_arrange_81 ?_
  refine rx_ti (y := nI (j + mo)) ((pk_sub (by omega)).trans (congrArg nI (by omega))) ?_
  refine rx_aload_n dX6_arrange_82 rfl rfl ?_
  refine gv_invV (as := []) hG okX6_operand lk_RX6_83 (gkF_f hp) (gkF_k hp) dX6_arrange_83 rfl (by simp [Value.category]) (cc_operand hG hp hcd hc hcl hoct (by omega) hY) ?_
  rintro _ _ ⟨rfl, _, rfl, hY1⟩
  refine rx_ti (y := nI mo) (by rw [hmo]) ?_
  refine rx_isub dX6_arrange_86 ?_
  refine rx_ti (y := nI j) ((pk_sub (by omega)).trans (congrArg nI (by omega))) ?_
  refine gcv_lald (j := j) (v := t.getD mo 0) hG dX6_arrange_87 (gkT_m hp) (gkT_f hp) (gkT_k hp) rfl (by omega) (by decide) ((by rw [show j = t.length - 1 - mo by omega]; exact rc_T_get (by omega) (rc_stk hY1))) ?_
  refine gv_invV (as := [.long _]) hG okX6_push lk_RX6_95 (gkF_f hp) (gkF_k hp) dX6_arrange_88 rfl (by simp [Value.category]) (cc_push hG hY1 hp (by (try simp only [List.length_cons, List.length_nil]); omega) _) ?_
  rintro _ _ ⟨rfl, _, rfl, hY2⟩
  refine rx_goto (tgt := 115) dX6_arrange_91 (by decide) ?_
  exact rx_vret rfl dX6_arrange_115 ⟨rfl, _, rfl, hY2⟩
theorem cc_arr5 {G : rx_E} {d : Nat} {S : gs_T} {K : Nat → Nat × Nat} {C0 C : rx_M} {g : vg_T} {bs od : Nat} {n : Nat → Int64} {e : List (Nat × Int64 × Int64)} {b m c a q s k : Nat} {v r : Int64} {l o : Bool} {t : List Int64} {w : (Nat → Int64) × Nat × Nat} {fs : List vf_T} (hG : rx_OK G) {mo a0 : Nat} {cd : List Nat} (hp : fs.length < 10) (hcd : g.1 c = cd) (hc : c < g.2.1) (hcl : cd.length ≤ 200) (hoct : ∀ k, k < cd.length → cd.getD k 0 < 256) (ha : a0 < 256) (hmo : cd.getD (a0 + 1) 0 = mo) {j : Nat} (hj : t.length = mo + 1 + j) (hY : rc_Y K C0 C g bs od (n, e, b, ((c, a, q, s, k), (v, r), (l, o), t, w) :: fs, m) (nI (a0 + 1))) : rx_C G MX6_arrange (d + 2) [.ref (13 + 3 * fs.length), .int (nI 5)] (gl C S) 0 0 (rcq S K C0 g bs od (n, e, b, ((c, a, q, s, k), (v, r), (l, o), ((t.set 0 (t.getD mo 0)).set mo (t.getD 0 0)), w) :: fs, m) (nI (a0 + 1)) none) := by
  refine rx_meth0 (by decide +kernel) rfl (Nat.le_of_ble_eq_true rfl) ?_
  have hmo256 := oc256 hoct (a0 + 1)
  rw [hmo] at hmo256
  have hn := rc_n hY
  refine rx_iload_n dX6_arrange_0 rfl ?_
  refine rx_tabOut (tgt := 94) dX6_arrange_1 (by decide) (by decide) ?_
  refine rx_aload_n dX6_arrange_94 rfl rfl ?_
  refine rx_aload_n dX6_arrange_95 rfl rfl ?_
  refine gcv_getI (v := nI (j + mo + 1)) hG hf_RX6_56 rfl dX6_arrange_96 (gkF_m hp) (gkF_f hp) (gkF_k hp) ((rc_size hY).trans (congrArg nI (by omega))) ?_
  refine rx_iconst (v := nI 1) dX6_arrange_99 rfl ?_
  refine rx_isub dX6_arrange_100 ?_
  refine rx_ti (y := nI (j + mo)) ((pk_sub (by omega)).trans (congrArg nI (by omega))) ?_
  refine rx_aload_n dX6_arrange_101 rfl rfl ?_
  refine gcv_getI (v := nI (j + mo + 1)) hG hf_RX6_56 rfl dX6_arrange_102 (gkF_m hp) (gkF_f hp) (gkF_k hp) ((rc_size hY).trans (congrArg nI (by omega))) ?_
  refine rx_iconst (v := nI 1) dX6_arrange_105 rfl ?_
  refine rx_isub dX6_arrange_106 ?_
  refine rx_ti (y := nI (j + mo)) ((pk_sub (by omega)).trans (congrArg nI (by omega))) ?_
  refine rx_aload_n dX6_arrange_107 rfl rfl ?_
  refine gv_invV (as := []) hG okX6_operand lk_RX6_83 (gkF_f hp) (gkF_k hp) dX6_arrange_108 rfl (by simp [Value.category]) (cc_operand hG hp hcd hc hcl hoct (by omega) hY) ?_
  rintro _ _ ⟨rfl, _, rfl, hY1⟩
  refine rx_ti (y := nI mo) (by rw [hmo]) ?_
  refine rx_isub dX6_arrange_111 ?_
  refine rx_ti (y := nI j) ((pk_sub (by omega)).trans (congrArg nI (by omega))) ?_
  refine gv_invV (as := [.int _, .int _]) hG okX6_swap lk_RX6_107 (gkF_f hp) (gkF_k hp) dX6_arrange_112 rfl (by simp [Value.category]) (cc_swap hG hp hj hY1) ?_
  rintro _ _ ⟨rfl, _, rfl, hY2⟩
  exact rx_vret rfl dX6_arrange_115 ⟨rfl, _, rfl, hY2⟩
theorem cc_joined {G : rx_E} {d : Nat} {op : Nat} {x y : Int64} {mu : rx_M} (hG : rx_OK G) (h6 : 6 ≤ op) (h17 : op ≤ 17) (h9 : op ≠ 9) (h10 : op ≠ 10) : rx_C G MX6_joined d [.int (nI op), .long x, .long y] mu 0 0 (fun v m => v = some (.long (vm_bin op x y)) ∧ m = mu) := by
  refine rx_meth0 (by decide +kernel) rfl (Nat.le_of_ble_eq_true rfl) ?_
  have hc : op = 6 ∨ op = 7 ∨ op = 8 ∨ op = 11 ∨ op = 12 ∨ op = 13 ∨ op = 14 ∨ op = 15 ∨ op = 16 ∨ op = 17 := by omega
  rcases hc with rfl | rfl | rfl | rfl | rfl | rfl | rfl | rfl | rfl | rfl
  · refine rx_iload_n dX6_joined_0 rfl ?_
    refine rx_tabIn (tgt := 60) dX6_joined_1 (by decide) (by decide) rfl (by decide) ?_
    refine rx_lload_n dX6_joined_60 rfl ?_
    refine rx_lload_n dX6_joined_61 rfl ?_
    refine rx_ladd dX6_joined_62 ?_
    exact rx_lret rfl dX6_joined_63 ⟨rfl, rfl⟩
  · refine rx_iload_n dX6_joined_0 rfl ?_
    refine rx_tabIn (tgt := 64) dX6_joined_1 (by decide) (by decide) rfl (by decide) ?_
    refine rx_lload_n dX6_joined_64 rfl ?_
    refine rx_lload_n dX6_joined_65 rfl ?_
    refine rx_lsub dX6_joined_66 ?_
    exact rx_lret rfl dX6_joined_67 ⟨rfl, rfl⟩
  · refine rx_iload_n dX6_joined_0 rfl ?_
    refine rx_tabIn (tgt := 68) dX6_joined_1 (by decide) (by decide) rfl (by decide) ?_
    refine rx_lload_n dX6_joined_68 rfl ?_
    refine rx_lload_n dX6_joined_69 rfl ?_
    refine rx_lmul dX6_joined_70 ?_
    exact rx_lret rfl dX6_joined_71 ⟨rfl, rfl⟩
  · refine rx_iload_n dX6_joined_0 rfl ?_
    refine rx_tabIn (tgt := 72) dX6_joined_1 (by decide) (by decide) rfl (by decide) ?_
    refine rx_lload_n dX6_joined_72 rfl ?_
    refine rx_lload_n dX6_joined_73 rfl ?_
    refine rx_land dX6_joined_74 ?_
    exact rx_lret rfl dX6_joined_75 ⟨rfl, rfl⟩
  · refine rx_iload_n dX6_joined_0 rfl ?_
    refine rx_tabIn (tgt := 76) dX6_joined_1 (by decide) (by decide) rfl (by decide) ?_
    refine rx_lload_n dX6_joined_76 rfl ?_
    refine rx_lload_n dX6_joined_77 rfl ?_
    refine rx_lor dX6_joined_78 ?_
    exact rx_lret rfl dX6_joined_79 ⟨rfl, rfl⟩
  · refine rx_iload_n dX6_joined_0 rfl ?_
    refine rx_tabIn (tgt := 80) dX6_joined_1 (by decide) (by decide) rfl (by decide) ?_
    refine rx_lload_n dX6_joined_80 rfl ?_
    refine rx_lload_n dX6_joined_81 rfl ?_
    refine rx_lxor dX6_joined_82 ?_
    exact rx_lret rfl dX6_joined_83 ⟨rfl, rfl⟩
  · refine rx_iload_n dX6_joined_0 rfl ?_
    refine rx_tabIn (tgt := 84) dX6_joined_1 (by decide) (by decide) rfl (by decide) ?_
    refine rx_lload_n dX6_joined_84 rfl ?_
    refine rx_lload_n dX6_joined_85 rfl ?_
    refine rx_l2i dX6_joined_86 ?_
    refine rx_lshl dX6_joined_87 ?_
    refine rx_tl (y := x <<< (y &&& 63)) (congrArg (x <<< ·) (sh63 y)) ?_
    exact rx_lret rfl dX6_joined_88 ⟨rfl, rfl⟩
  · refine rx_iload_n dX6_joined_0 rfl ?_
    refine rx_tabIn (tgt := 89) dX6_joined_1 (by decide) (by decide) rfl (by decide) ?_
    refine rx_lload_n dX6_joined_89 rfl ?_
    refine rx_lload_n dX6_joined_90 rfl ?_
    refine rx_l2i dX6_joined_91 ?_
    refine rx_lshr dX6_joined_92 ?_
    refine rx_tl (y := x >>> (y &&& 63)) (congrArg (x >>> ·) (sh63 y)) ?_
    exact rx_lret rfl dX6_joined_93 ⟨rfl, rfl⟩
  · refine rx_iload_n dX6_joined_0 rfl ?_
    refine rx_tabIn (tgt := 94) dX6_joined_1 (by decide) (by decide) rfl (by decide) ?_
    refine rx_lload_n dX6_joined_94 rfl ?_
    refine rx_lload_n dX6_joined_95 rfl ?_
    refine rx_lc_ge (tgt := 104) dX6_joined_96 dX6_joined_97 (by decide) (fun h96 => ?_) (fun h96 => ?_)
    · refine rx_lconst (v := 0) dX6_joined_104 rfl ?_
      exact rx_lret rfl dX6_joined_105 ⟨congrArg (fun z => some (Value.long z)) (show _ = vm_bin 16 x y from (if_neg (Int64.not_lt.mpr h96)).symm), rfl⟩
    · refine rx_lconst (v := 1) dX6_joined_100 rfl ?_
      refine rx_goto (tgt := 105) dX6_joined_101 (by decide) ?_
      exact rx_lret rfl dX6_joined_105 ⟨congrArg (fun z => some (Value.long z)) (show _ = vm_bin 16 x y from (if_pos (Int64.not_le.mp h96)).symm), rfl⟩
  · refine rx_iload_n dX6_joined_0 rfl ?_
    refine rx_tabOut (tgt := 106) dX6_joined_1 (by decide) (by decide) ?_
    refine rx_lload_n dX6_joined_106 rfl ?_
    refine rx_lload_n dX6_joined_107 rfl ?_
    refine rx_lc_ne (tgt := 116) dX6_joined_108 dX6_joined_109 (by decide) (fun h108 => ?_) (fun h108 => ?_)
    · refine rx_lconst (v := 0) dX6_joined_116 rfl ?_
      exact rx_lret rfl dX6_joined_117 ⟨congrArg (fun z => some (Value.long z)) (show _ = vm_bin 17 x y from (if_neg h108).symm), rfl⟩
    · refine rx_lconst (v := 1) dX6_joined_112 rfl ?_
      refine rx_goto (tgt := 117) dX6_joined_113 (by decide) ?_
      exact rx_lret rfl dX6_joined_117 ⟨congrArg (fun z => some (Value.long z)) (show _ = vm_bin 17 x y from (if_pos h108).symm), rfl⟩
theorem cc_reckon {G : rx_E} {d : Nat} {S : gs_T} {K : Nat → Nat × Nat} {C0 C : rx_M} {g : vg_T} {bs od : Nat} {n : Nat → Int64} {e : List (Nat × Int64 × Int64)} {b m c a q s k : Nat} {v r : Int64} {l o : Bool} {t : List Int64} {w : (Nat → Int64) × Nat × Nat} {fs : List vf_T} {z : Int32} (hG : rx_OK G) {op : Nat} {x y : Int64} (hp : fs.length < 10) (h6 : 6 ≤ op) (h17 : op ≤ 17) (h9 : op ≠ 9) (h10 : op ≠ 10) (hY : rc_Y K C0 C g bs od (n, e, b, ((c, a, q, s, k), (v, r), (l, o), (y :: (x :: t)), w) :: fs, m) z) : rx_C G MX6_reckon (d + 1) [.ref (13 + 3 * fs.length), .int (nI op)] (gl C S) 0 0 (rcq S K C0 g bs od (n, e, b, ((c, a, q, s, k), (v, r), (l, o), (vm_bin op x y :: t), w) :: fs, m) z (some (.int (nI 0)))) := by
  refine rx_meth0 (by decide +kernel) rfl (Nat.le_of_ble_eq_true rfl) ?_
  have ht : t.length + 2 ≤ 24 := rc_n hY
  refine rx_aload_n dX6_reckon_0 rfl rfl ?_
  refine gv_invV (as := []) hG okX6_pop lk_RX6_103 (gkF_f hp) (gkF_k hp) dX6_reckon_1 rfl (by simp [Value.category]) (cc_pop hG hY hp) ?_
  rintro _ _ ⟨rfl, _, rfl, hY1⟩
  refine rx_lstore_n dX6_reckon_4 (by decide) ?_
  refine rx_iload_n dX6_reckon_5 rfl ?_
  refine rx_bipush (v := nI 18) dX6_reckon_6 rfl ?_
  refine rx_icmp_ne (tgt := 28) dX6_reckon_8 (by decide) (fun h8 => ?_) (fun h8 => absurd h8 (fun h => by rw [nI_eq (by omega) (by omega)] at h; omega)) 
  refine rx_aload_n dX6_reckon_28 rfl rfl ?_
  refine gv_invV (as := []) hG okX6_pop lk_RX6_103 (gkF_f hp) (gkF_k hp) dX6_reckon_29 rfl (by simp [Value.category]) (cc_pop hG hY1 hp) ?_
  rintro _ _ ⟨rfl, _, rfl, hY2⟩
  refine rx_lstore dX6_reckon_32 (by decide) ?_
  refine rx_iload_n dX6_reckon_34 rfl ?_
  refine rx_bipush (v := nI 9) dX6_reckon_35 rfl ?_
  refine rx_icmp_eq (tgt := 46) dX6_reckon_37 (by decide) (fun h37 => absurd h37 (fun h => by rw [nI_eq (by omega) (by omega)] at h; omega)) (fun h37 => ?_)
  refine rx_iload_n dX6_reckon_40 rfl ?_
  refine rx_bipush (v := nI 10) dX6_reckon_41 rfl ?_
  refine rx_icmp_ne (tgt := 77) dX6_reckon_43 (by decide) (fun h43 => ?_) (fun h43 => absurd h43 (fun h => by rw [nI_eq (by omega) (by omega)] at h; omega)) 
  refine rx_aload_n dX6_reckon_77 rfl rfl ?_
  refine rx_iload_n dX6_reckon_78 rfl ?_
  refine rx_lload dX6_reckon_79 rfl ?_
  refine rx_lload_n dX6_reckon_81 rfl ?_
  refine rx_invS0 (as := [.int _, .long _, .long _]) hG okX6_joined lk_RX6_111 dX6_reckon_82 rfl (by simp [Value.category]) (cc_joined hG h6 h17 h9 h10) ?_
  rintro _ _ ⟨rfl, rfl⟩
  refine gv_invV (as := [.long _]) hG okX6_push lk_RX6_95 (gkF_f hp) (gkF_k hp) dX6_reckon_85 rfl (by simp [Value.category]) (cc_push hG hY2 hp (by (try simp only [List.length_cons, List.length_nil]); omega) _) ?_
  rintro _ _ ⟨rfl, _, rfl, hY3⟩
  refine rx_iconst (v := nI 0) dX6_reckon_88 rfl ?_
  exact rx_iret rfl dX6_reckon_89 ⟨rfl, _, rfl, hY3⟩
theorem cc_reckon9z {G : rx_E} {d : Nat} {S : gs_T} {K : Nat → Nat × Nat} {C0 C : rx_M} {g : vg_T} {bs od : Nat} {n : Nat → Int64} {e : List (Nat × Int64 × Int64)} {b m c a q s k : Nat} {v r : Int64} {l o : Bool} {t : List Int64} {w : (Nat → Int64) × Nat × Nat} {fs : List vf_T} {z : Int32} (hG : rx_OK G) {x y : Int64} (hp : fs.length < 10) (h0 : y = 0) (hY : rc_Y K C0 C g bs od (n, e, b, ((c, a, q, s, k), (v, r), (l, o), (y :: (x :: t)), w) :: fs, m) z) : rx_C G MX6_reckon (d + 1) [.ref (13 + 3 * fs.length), .int (nI 9)] (gl C S) 0 0 (rcq S K C0 g bs od (n, e, b, ((c, a, q, s, k), (v, r), (l, o), t, w) :: fs, m) z (some (.int (nI 3)))) := by
  refine rx_meth0 (by decide +kernel) rfl (Nat.le_of_ble_eq_true rfl) ?_
  have ht : t.length + 2 ≤ 24 := rc_n hY
  refine rx_aload_n dX6_reckon_0 rfl rfl ?_
  refine gv_invV (as := []) hG okX6_pop lk_RX6_103 (gkF_f hp) (gkF_k hp) dX6_reckon_1 rfl (by simp [Value.category]) (cc_pop hG hY hp) ?_
  rintro _ _ ⟨rfl, _, rfl, hY1⟩
  refine rx_lstore_n dX6_reckon_4 (by decide) ?_
  refine rx_iload_n dX6_reckon_5 rfl ?_
  refine rx_bipush (v := nI 18) dX6_reckon_6 rfl ?_
  refine rx_icmp_ne (tgt := 28) dX6_reckon_8 (by decide) (fun h8 => ?_) (fun h8 => (absurd h8 (by decide))) 
  refine rx_aload_n dX6_reckon_28 rfl rfl ?_
  refine gv_invV (as := []) hG okX6_pop lk_RX6_103 (gkF_f hp) (gkF_k hp) dX6_reckon_29 rfl (by simp [Value.category]) (cc_pop hG hY1 hp) ?_
  rintro _ _ ⟨rfl, _, rfl, hY2⟩
  refine rx_lstore dX6_reckon_32 (by decide) ?_
  refine rx_iload_n dX6_reckon_34 rfl ?_
  refine rx_bipush (v := nI 9) dX6_reckon_35 rfl ?_
  refine rx_icmp_eq (tgt := 46) dX6_reckon_37 (by decide) (fun h37 => ?_) (fun h37 => (absurd h37 (by decide))) 
  refine rx_lload_n dX6_reckon_46 rfl ?_
  refine rx_lconst (v := lN 0) dX6_reckon_47 rfl ?_
  refine rx_lc_ne (tgt := 54) dX6_reckon_48 dX6_reckon_49 (by decide) (fun h48 => absurd h0 h48) (fun h48 => ?_)
  refine rx_iconst (v := nI 3) dX6_reckon_52 rfl ?_
  exact rx_iret rfl dX6_reckon_53 ⟨rfl, _, rfl, hY2⟩
theorem cc_reckon9 {G : rx_E} {d : Nat} {S : gs_T} {K : Nat → Nat × Nat} {C0 C : rx_M} {g : vg_T} {bs od : Nat} {n : Nat → Int64} {e : List (Nat × Int64 × Int64)} {b m c a q s k : Nat} {v r : Int64} {l o : Bool} {t : List Int64} {w : (Nat → Int64) × Nat × Nat} {fs : List vf_T} {z : Int32} (hG : rx_OK G) {x y : Int64} (hp : fs.length < 10) (h0 : ¬ y = 0) (hY : rc_Y K C0 C g bs od (n, e, b, ((c, a, q, s, k), (v, r), (l, o), (y :: (x :: t)), w) :: fs, m) z) : rx_C G MX6_reckon (d + 1) [.ref (13 + 3 * fs.length), .int (nI 9)] (gl C S) 0 0 (rcq S K C0 g bs od (n, e, b, ((c, a, q, s, k), (v, r), (l, o), (vm_bin 9 x y :: t), w) :: fs, m) z (some (.int (nI 0)))) := by
  refine rx_meth0 (by decide +kernel) rfl (Nat.le_of_ble_eq_true rfl) ?_
  have ht : t.length + 2 ≤ 24 := rc_n hY
  refine rx_aload_n dX6_reckon_0 rfl rfl ?_
  refine gv_invV (as := []) hG okX6_pop lk_RX6_103 (gkF_f hp) (gkF_k hp) dX6_reckon_1 rfl (by simp [Value.category]) (cc_pop hG hY hp) ?_
  rintro _ _ ⟨rfl, _, rfl, hY1⟩
  refine rx_lstore_n dX6_reckon_4 (by decide) ?_
  refine rx_iload_n dX6_reckon_5 rfl ?_
  refine rx_bipush (v := nI 18) dX6_reckon_6 rfl ?_
  refine rx_icmp_ne (tgt := 28) dX6_reckon_8 (by decide) (fun h8 => ?_) (fun h8 => (absurd h8 (by decide))) 
  refine rx_aload_n dX6_reckon_28 rfl rfl ?_
  refine gv_invV (as := []) hG okX6_pop lk_RX6_103 (gkF_f hp) (gkF_k hp) dX6_reckon_29 rfl (by simp [Value.category]) (cc_pop hG hY1 hp) ?_
  rintro _ _ ⟨rfl, _, rfl, hY2⟩
  refine rx_lstore dX6_reckon_32 (by decide) ?_
  refine rx_iload_n dX6_reckon_34 rfl ?_
  refine rx_bipush (v := nI 9) dX6_reckon_35 rfl ?_
  refine rx_icmp_eq (tgt := 46) dX6_reckon_37 (by decide) (fun h37 => ?_) (fun h37 => (absurd h37 (by decide))) 
  refine rx_lload_n dX6_reckon_46 rfl ?_
  refine rx_lconst (v := lN 0) dX6_reckon_47 rfl ?_
  refine rx_lc_ne (tgt := 54) dX6_reckon_48 dX6_reckon_49 (by decide) (fun h48 => ?_) (fun h48 => absurd h48 h0) 
  refine rx_aload_n dX6_reckon_54 rfl rfl ?_
  refine rx_iload_n dX6_reckon_55 rfl ?_
  refine rx_bipush (v := nI 9) dX6_reckon_56 rfl ?_
  refine rx_icmp_ne (tgt := 68) dX6_reckon_58 (by decide) (fun h58 => (absurd h58 (by decide))) (fun h58 => ?_)
  refine rx_lload dX6_reckon_61 rfl ?_
  refine rx_lload_n dX6_reckon_63 rfl ?_
  refine rx_ldiv dX6_reckon_64 h0 ?_
  refine rx_goto (tgt := 72) dX6_reckon_65 (by decide) ?_
  refine gv_invV (as := [.long _]) hG okX6_push lk_RX6_95 (gkF_f hp) (gkF_k hp) dX6_reckon_72 rfl (by simp [Value.category]) (cc_push hG hY2 hp (by (try simp only [List.length_cons, List.length_nil]); omega) _) ?_
  rintro _ _ ⟨rfl, _, rfl, hY3⟩
  refine rx_iconst (v := nI 0) dX6_reckon_75 rfl ?_
  exact rx_iret rfl dX6_reckon_76 ⟨rfl, _, rfl, hY3⟩
theorem cc_reckon10z {G : rx_E} {d : Nat} {S : gs_T} {K : Nat → Nat × Nat} {C0 C : rx_M} {g : vg_T} {bs od : Nat} {n : Nat → Int64} {e : List (Nat × Int64 × Int64)} {b m c a q s k : Nat} {v r : Int64} {l o : Bool} {t : List Int64} {w : (Nat → Int64) × Nat × Nat} {fs : List vf_T} {z : Int32} (hG : rx_OK G) {x y : Int64} (hp : fs.length < 10) (h0 : y = 0) (hY : rc_Y K C0 C g bs od (n, e, b, ((c, a, q, s, k), (v, r), (l, o), (y :: (x :: t)), w) :: fs, m) z) : rx_C G MX6_reckon (d + 1) [.ref (13 + 3 * fs.length), .int (nI 10)] (gl C S) 0 0 (rcq S K C0 g bs od (n, e, b, ((c, a, q, s, k), (v, r), (l, o), t, w) :: fs, m) z (some (.int (nI 3)))) := by
  refine rx_meth0 (by decide +kernel) rfl (Nat.le_of_ble_eq_true rfl) ?_
  have ht : t.length + 2 ≤ 24 := rc_n hY
  refine rx_aload_n dX6_reckon_0 rfl rfl ?_
  refine gv_invV (as := []) hG okX6_pop lk_RX6_103 (gkF_f hp) (gkF_k hp) dX6_reckon_1 rfl (by simp [Value.category]) (cc_pop hG hY hp) ?_
  rintro _ _ ⟨rfl, _, rfl, hY1⟩
  refine rx_lstore_n dX6_reckon_4 (by decide) ?_
  refine rx_iload_n dX6_reckon_5 rfl ?_
  refine rx_bipush (v := nI 18) dX6_reckon_6 rfl ?_
  refine rx_icmp_ne (tgt := 28) dX6_reckon_8 (by decide) (fun h8 => ?_) (fun h8 => (absurd h8 (by decide))) 
  refine rx_aload_n dX6_reckon_28 rfl rfl ?_
  refine gv_invV (as := []) hG okX6_pop lk_RX6_103 (gkF_f hp) (gkF_k hp) dX6_reckon_29 rfl (by simp [Value.category]) (cc_pop hG hY1 hp) ?_
  rintro _ _ ⟨rfl, _, rfl, hY2⟩
  refine rx_lstore dX6_reckon_32 (by decide) ?_
  refine rx_iload_n dX6_reckon_34 rfl ?_
  refine rx_bipush (v := nI 9) dX6_reckon_35 rfl ?_
  refine rx_icmp_eq (tgt := 46) dX6_reckon_37 (by decide) (fun h37 => (absurd h37 (by decide))) (fun h37 => ?_)
  refine rx_iload_n dX6_reckon_40 rfl ?_
  refine rx_bipush (v := nI 10) dX6_reckon_41 rfl ?_
  refine rx_icmp_ne (tgt := 77) dX6_reckon_43 (by decide) (fun h43 => (absurd h43 (by decide))) (fun h43 => ?_)
  refine rx_lload_n dX6_reckon_46 rfl ?_
  refine rx_lconst (v := lN 0) dX6_reckon_47 rfl ?_
  refine rx_lc_ne (tgt := 54) dX6_reckon_48 dX6_reckon_49 (by decide) (fun h48 => absurd h0 h48) (fun h48 => ?_)
  refine rx_iconst (v := nI 3) dX6_reckon_52 rfl ?_
  exact rx_iret rfl dX6_reckon_53 ⟨rfl, _, rfl, hY2⟩
theorem cc_reckon10 {G : rx_E} {d : Nat} {S : gs_T} {K : Nat → Nat × Nat} {C0 C : rx_M} {g : vg_T} {bs od : Nat} {n : Nat → Int64} {e : List (Nat × Int64 × Int64)} {b m c a q s k : Nat} {v r : Int64} {l o : Bool} {t : List Int64} {w : (Nat → Int64) × Nat × Nat} {fs : List vf_T} {z : Int32} (hG : rx_OK G) {x y : Int64} (hp : fs.length < 10) (h0 : ¬ y = 0) (hY : rc_Y K C0 C g bs od (n, e, b, ((c, a, q, s, k), (v, r), (l, o), (y :: (x :: t)), w) :: fs, m) z) : rx_C G MX6_reckon (d + 1) [.ref (13 + 3 * fs.length), .int (nI 10)] (gl C S) 0 0 (rcq S K C0 g bs od (n, e, b, ((c, a, q, s, k), (v, r), (l, o), (vm_bin 10 x y :: t), w) :: fs, m) z (some (.int (nI 0)))) := by
  refine rx_meth0 (by decide +kernel) rfl (Nat.le_of_ble_eq_true rfl) ?_
  have ht : t.length + 2 ≤ 24 := rc_n hY
  refine rx_aload_n dX6_reckon_0 rfl rfl ?_
  refine gv_invV (as := []) hG okX6_pop lk_RX6_103 (gkF_f hp) (gkF_k hp) dX6_reckon_1 rfl (by simp [Value.category]) (cc_pop hG hY hp) ?_
  rintro _ _ ⟨rfl, _, rfl, hY1⟩
  refine rx_lstore_n dX6_reckon_4 (by decide) ?_
  refine rx_iload_n dX6_reckon_5 rfl ?_
  refine rx_bipush (v := nI 18) dX6_reckon_6 rfl ?_
  refine rx_icmp_ne (tgt := 28) dX6_reckon_8 (by decide) (fun h8 => ?_) (fun h8 => (absurd h8 (by decide))) 
  refine rx_aload_n dX6_reckon_28 rfl rfl ?_
  refine gv_invV (as := []) hG okX6_pop lk_RX6_103 (gkF_f hp) (gkF_k hp) dX6_reckon_29 rfl (by simp [Value.category]) (cc_pop hG hY1 hp) ?_
  rintro _ _ ⟨rfl, _, rfl, hY2⟩
  refine rx_lstore dX6_reckon_32 (by decide) ?_
  refine rx_iload_n dX6_reckon_34 rfl ?_
  refine rx_bipush (v := nI 9) dX6_reckon_35 rfl ?_
  refine rx_icmp_eq (tgt := 46) dX6_reckon_37 (by decide) (fun h37 => (absurd h37 (by decide))) (fun h37 => ?_)
  refine rx_iload_n dX6_reckon_40 rfl ?_
  refine rx_bipush (v := nI 10) dX6_reckon_41 rfl ?_
  refine rx_icmp_ne (tgt := 77) dX6_reckon_43 (by decide) (fun h43 => (absurd h43 (by decide))) (fun h43 => ?_)
  refine rx_lload_n dX6_reckon_46 rfl ?_
  refine rx_lconst (v := lN 0) dX6_reckon_47 rfl ?_
  refine rx_lc_ne (tgt := 54) dX6_reckon_48 dX6_reckon_49 (by decide) (fun h48 => ?_) (fun h48 => absurd h48 h0) 
  refine rx_aload_n dX6_reckon_54 rfl rfl ?_
  refine rx_iload_n dX6_reckon_55 rfl ?_
  refine rx_bipush (v := nI 9) dX6_reckon_56 rfl ?_
  refine rx_icmp_ne (tgt := 68) dX6_reckon_58 (by decide) (fun h58 => ?_) (fun h58 => (absurd h58 (by decide))) 
  refine rx_lload dX6_reckon_68 rfl ?_
  refine rx_lload_n dX6_reckon_70 rfl ?_
  refine rx_lrem dX6_reckon_71 h0 ?_
  refine gv_invV (as := [.long _]) hG okX6_push lk_RX6_95 (gkF_f hp) (gkF_k hp) dX6_reckon_72 rfl (by simp [Value.category]) (cc_push hG hY2 hp (by (try simp only [List.length_cons, List.length_nil]); omega) _) ?_
  rintro _ _ ⟨rfl, _, rfl, hY3⟩
  refine rx_iconst (v := nI 0) dX6_reckon_75 rfl ?_
  exact rx_iret rfl dX6_reckon_76 ⟨rfl, _, rfl, hY3⟩
theorem cc_reckon18 {G : rx_E} {d : Nat} {S : gs_T} {K : Nat → Nat × Nat} {C0 C : rx_M} {g : vg_T} {bs od : Nat} {n : Nat → Int64} {e : List (Nat × Int64 × Int64)} {b m c a q s k : Nat} {v r : Int64} {l o : Bool} {t : List Int64} {w : (Nat → Int64) × Nat × Nat} {fs : List vf_T} {z : Int32} (hG : rx_OK G) {y : Int64} (hp : fs.length < 10) (hY : rc_Y K C0 C g bs od (n, e, b, ((c, a, q, s, k), (v, r), (l, o), (y :: t), w) :: fs, m) z) : rx_C G MX6_reckon (d + 1) [.ref (13 + 3 * fs.length), .int (nI 18)] (gl C S) 0 0 (rcq S K C0 g bs od (n, e, b, ((c, a, q, s, k), (v, r), (l, o), ((if y = 0 then 1 else 0) :: t), w) :: fs, m) z (some (.int (nI 0)))) := by
  refine rx_meth0 (by decide +kernel) rfl (Nat.le_of_ble_eq_true rfl) ?_
  have ht : t.length + 1 ≤ 24 := rc_n hY
  refine rx_aload_n dX6_reckon_0 rfl rfl ?_
  refine gv_invV (as := []) hG okX6_pop lk_RX6_103 (gkF_f hp) (gkF_k hp) dX6_reckon_1 rfl (by simp [Value.category]) (cc_pop hG hY hp) ?_
  rintro _ _ ⟨rfl, _, rfl, hY1⟩
  refine rx_lstore_n dX6_reckon_4 (by decide) ?_
  refine rx_iload_n dX6_reckon_5 rfl ?_
  refine rx_bipush (v := nI 18) dX6_reckon_6 rfl ?_
  refine rx_icmp_ne (tgt := 28) dX6_reckon_8 (by decide) (fun h8 => (absurd h8 (by decide))) (fun h8 => ?_)
  refine rx_aload_n dX6_reckon_11 rfl rfl ?_
  refine rx_lload_n dX6_reckon_12 rfl ?_
  refine rx_lconst (v := lN 0) dX6_reckon_13 rfl ?_
  refine rx_lc_ne (tgt := 22) dX6_reckon_14 dX6_reckon_15 (by decide) (fun h14 => ?_) (fun h14 => ?_)
  · refine rx_lconst (v := lN 0) dX6_reckon_22 rfl ?_
    refine gv_invV (as := [.long _]) hG okX6_push lk_RX6_95 (gkF_f hp) (gkF_k hp) dX6_reckon_23 rfl (by simp [Value.category]) (cc_push hG hY1 hp (by (try simp only [List.length_cons, List.length_nil]); omega) _) ?_
    rintro _ _ ⟨rfl, _, rfl, hY2⟩
    refine rx_iconst (v := nI 0) dX6_reckon_26 rfl ?_
    exact rx_iret rfl dX6_reckon_27 ⟨rfl, _, rfl, (by rw [if_neg (show ¬ y = 0 from h14)]; exact hY2)⟩
  · refine rx_lconst (v := lN 1) dX6_reckon_18 rfl ?_
    refine rx_goto (tgt := 23) dX6_reckon_19 (by decide) ?_
    refine gv_invV (as := [.long _]) hG okX6_push lk_RX6_95 (gkF_f hp) (gkF_k hp) dX6_reckon_23 rfl (by simp [Value.category]) (cc_push hG hY1 hp (by (try simp only [List.length_cons, List.length_nil]); omega) _) ?_
    rintro _ _ ⟨rfl, _, rfl, hY2⟩
    refine rx_iconst (v := nI 0) dX6_reckon_26 rfl ?_
    exact rx_iret rfl dX6_reckon_27 ⟨rfl, _, rfl, (by rw [if_pos (show y = 0 from h14)]; exact hY2)⟩
theorem cc_jump {G : rx_E} {d : Nat} {S : gs_T} {K : Nat → Nat × Nat} {C0 C : rx_M} {g : vg_T} {bs od : Nat} {n : Nat → Int64} {e : List (Nat × Int64 × Int64)} {b m c a q s k : Nat} {v r : Int64} {l o : Bool} {t : List Int64} {w : (Nat → Int64) × Nat × Nat} {fs : List vf_T} (hG : rx_OK G) {mo a0 : Nat} {cd : List Nat} (hp : fs.length < 10) (hcd : g.1 c = cd) (hc : c < g.2.1) (hcl : cd.length ≤ 200) (hoct : ∀ k, k < cd.length → cd.getD k 0 < 256) (ha : a0 < 256) (hmo : cd.getD (a0 + 1) 0 = mo)  (hY : rc_Y K C0 C g bs od (n, e, b, ((c, a, q, s, k), (v, r), (l, o), t, w) :: fs, m) (nI (a0 + 1))) : rx_C G MX6_jump (d + 2) [.ref (13 + 3 * fs.length)] (gl C S) 0 0 (rcq S K C0 g bs od (n, e, b, ((c, mo, q, s, k), (v, r), (l, o), t, w) :: fs, m) (nI (a0 + 1)) none) := by
  refine rx_meth0 (by decide +kernel) rfl (Nat.le_of_ble_eq_true rfl) ?_
  refine rx_aload_n dX6_jump_0 rfl rfl ?_
  refine rx_aload_n dX6_jump_1 rfl rfl ?_
  refine gv_invV (as := []) hG okX6_operand lk_RX6_83 (gkF_f hp) (gkF_k hp) dX6_jump_2 rfl (by simp [Value.category]) (cc_operand hG hp hcd hc hcl hoct (by omega) hY) ?_
  rintro _ _ ⟨rfl, _, rfl, hY1⟩
  refine rx_ti (y := nI mo) (by rw [hmo]) ?_
  refine gc_putI hG hf_RX6_59 (gw_nf rfl rfl) rfl dX6_jump_5 (gkF_m hp) (gkF_f hp) (gkF_k hp) rfl rfl ?_
  refine rcY_ab (rcY_setAt hY1 hp mo) (fun _ hY2 => ?_)
  exact rx_vret rfl dX6_jump_8 ⟨rfl, _, rfl, hY2⟩

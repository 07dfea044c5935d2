theorem dX7_endWith_0 : decode cX7_endWith 0 = .ok (.aload_n 0, 1) := by decide +kernel
theorem dX7_endWith_1 : decode cX7_endWith 1 = .ok (.lload_n 2, 1) := by decide +kernel
theorem dX7_endWith_2 : decode cX7_endWith 2 = .ok (.putfield 188, 3) := by decide +kernel
theorem dX7_endWith_5 : decode cX7_endWith 5 = .ok (.iload_n 1, 1) := by decide +kernel
theorem dX7_endWith_6 : decode cX7_endWith 6 = .ok (.ireturn, 1) := by decide +kernel
theorem dX7_tell_0 : decode cX7_tell 0 = .ok (.iload_n 2, 1) := by decide +kernel
theorem dX7_tell_1 : decode cX7_tell 1 = .ok (.bipush 30, 2) := by decide +kernel
theorem dX7_tell_3 : decode cX7_tell 3 = .ok (.if_icmp .ne 35, 3) := by decide +kernel
theorem dX7_tell_6 : decode cX7_tell 6 = .ok (.aload_n 1, 1) := by decide +kernel
theorem dX7_tell_7 : decode cX7_tell 7 = .ok (.invokevirtual 209, 3) := by decide +kernel
theorem dX7_tell_10 : decode cX7_tell 10 = .ok (.lstore_n 3, 1) := by decide +kernel
theorem dX7_tell_11 : decode cX7_tell 11 = .ok (.aload_n 1, 1) := by decide +kernel
theorem dX7_tell_12 : decode cX7_tell 12 = .ok (.lload_n 3, 1) := by decide +kernel
theorem dX7_tell_13 : decode cX7_tell 13 = .ok (.invokestatic 151, 3) := by decide +kernel
theorem dX7_tell_16 : decode cX7_tell 16 = .ok (.ifCond .eq 15, 3) := by decide +kernel
theorem dX7_tell_19 : decode cX7_tell 19 = .ok (.aload_n 0, 1) := by decide +kernel
theorem dX7_tell_20 : decode cX7_tell 20 = .ok (.getfield 21, 3) := by decide +kernel
theorem dX7_tell_23 : decode cX7_tell 23 = .ok (.lload_n 3, 1) := by decide +kernel
theorem dX7_tell_24 : decode cX7_tell 24 = .ok (.l2i, 1) := by decide +kernel
theorem dX7_tell_25 : decode cX7_tell 25 = .ok (.invokevirtual 154, 3) := by decide +kernel
theorem dX7_tell_28 : decode cX7_tell 28 = .ok (.goto 4, 3) := by decide +kernel
theorem dX7_tell_31 : decode cX7_tell 31 = .ok (.lconst 0, 1) := by decide +kernel
theorem dX7_tell_32 : decode cX7_tell 32 = .ok (.invokevirtual 198, 3) := by decide +kernel
theorem dX7_tell_35 : decode cX7_tell 35 = .ok (.goto 13, 3) := by decide +kernel
theorem dX7_tell_38 : decode cX7_tell 38 = .ok (.aload_n 1, 1) := by decide +kernel
theorem dX7_tell_39 : decode cX7_tell 39 = .ok (.aload_n 0, 1) := by decide +kernel
theorem dX7_tell_40 : decode cX7_tell 40 = .ok (.aload_n 1, 1) := by decide +kernel
theorem dX7_tell_41 : decode cX7_tell 41 = .ok (.iload_n 2, 1) := by decide +kernel
theorem dX7_tell_42 : decode cX7_tell 42 = .ok (.invokevirtual 250, 3) := by decide +kernel
theorem dX7_tell_45 : decode cX7_tell 45 = .ok (.invokevirtual 198, 3) := by decide +kernel
theorem dX7_tell_48 : decode cX7_tell 48 = .ok (.iconst 0, 1) := by decide +kernel
theorem dX7_tell_49 : decode cX7_tell 49 = .ok (.ireturn, 1) := by decide +kernel
theorem dX7_known_0 : decode cX7_known 0 = .ok (.iload_n 2, 1) := by decide +kernel
theorem dX7_known_1 : decode cX7_known 1 = .ok (.tableswitch 73 23 28 #[39, 45, 51, 57, 62, 67], 39) := by decide +kernel
theorem dX7_known_40 : decode cX7_known 40 = .ok (.aload_n 1, 1) := by decide +kernel
theorem dX7_known_41 : decode cX7_known 41 = .ok (.getfield 160, 3) := by decide +kernel
theorem dX7_known_44 : decode cX7_known 44 = .ok (.i2l, 1) := by decide +kernel
theorem dX7_known_45 : decode cX7_known 45 = .ok (.lreturn, 1) := by decide +kernel
theorem dX7_known_46 : decode cX7_known 46 = .ok (.aload_n 1, 1) := by decide +kernel
theorem dX7_known_47 : decode cX7_known 47 = .ok (.getfield 254, 3) := by decide +kernel
theorem dX7_known_50 : decode cX7_known 50 = .ok (.i2l, 1) := by decide +kernel
theorem dX7_known_51 : decode cX7_known 51 = .ok (.lreturn, 1) := by decide +kernel
theorem dX7_known_52 : decode cX7_known 52 = .ok (.aload_n 0, 1) := by decide +kernel
theorem dX7_known_53 : decode cX7_known 53 = .ok (.getfield 57, 3) := by decide +kernel
theorem dX7_known_56 : decode cX7_known 56 = .ok (.i2l, 1) := by decide +kernel
theorem dX7_known_57 : decode cX7_known 57 = .ok (.lreturn, 1) := by decide +kernel
theorem dX7_known_58 : decode cX7_known 58 = .ok (.aload_n 1, 1) := by decide +kernel
theorem dX7_known_59 : decode cX7_known 59 = .ok (.getfield 255, 3) := by decide +kernel
theorem dX7_known_62 : decode cX7_known 62 = .ok (.lreturn, 1) := by decide +kernel
theorem dX7_known_63 : decode cX7_known 63 = .ok (.aload_n 1, 1) := by decide +kernel
theorem dX7_known_64 : decode cX7_known 64 = .ok (.getfield 256, 3) := by decide +kernel
theorem dX7_known_67 : decode cX7_known 67 = .ok (.lreturn, 1) := by decide +kernel
theorem dX7_known_68 : decode cX7_known 68 = .ok (.aload_n 0, 1) := by decide +kernel
theorem dX7_known_69 : decode cX7_known 69 = .ok (.getfield 53, 3) := by decide +kernel
theorem dX7_known_72 : decode cX7_known 72 = .ok (.i2l, 1) := by decide +kernel
theorem dX7_known_73 : decode cX7_known 73 = .ok (.lreturn, 1) := by decide +kernel
theorem dX7_known_74 : decode cX7_known 74 = .ok (.aload_n 1, 1) := by decide +kernel
theorem dX7_known_75 : decode cX7_known 75 = .ok (.getfield 191, 3) := by decide +kernel
theorem dX7_known_78 : decode cX7_known 78 = .ok (.i2l, 1) := by decide +kernel
theorem dX7_known_79 : decode cX7_known 79 = .ok (.lreturn, 1) := by decide +kernel
theorem dX7_loadCell_0 : decode cX7_loadCell 0 = .ok (.aload_n 1, 1) := by decide +kernel
theorem dX7_loadCell_1 : decode cX7_loadCell 1 = .ok (.invokevirtual 209, 3) := by decide +kernel
theorem dX7_loadCell_4 : decode cX7_loadCell 4 = .ok (.lstore_n 2, 1) := by decide +kernel
theorem dX7_loadCell_5 : decode cX7_loadCell 5 = .ok (.lload_n 2, 1) := by decide +kernel
theorem dX7_loadCell_6 : decode cX7_loadCell 6 = .ok (.bipush 16, 2) := by decide +kernel
theorem dX7_loadCell_8 : decode cX7_loadCell 8 = .ok (.invokestatic 259, 3) := by decide +kernel
theorem dX7_loadCell_11 : decode cX7_loadCell 11 = .ok (.ifCond .ne 5, 3) := by decide +kernel
theorem dX7_loadCell_14 : decode cX7_loadCell 14 = .ok (.iconst 3, 1) := by decide +kernel
theorem dX7_loadCell_15 : decode cX7_loadCell 15 = .ok (.ireturn, 1) := by decide +kernel
theorem dX7_loadCell_16 : decode cX7_loadCell 16 = .ok (.aload_n 1, 1) := by decide +kernel
theorem dX7_loadCell_17 : decode cX7_loadCell 17 = .ok (.aload_n 0, 1) := by decide +kernel
theorem dX7_loadCell_18 : decode cX7_loadCell 18 = .ok (.getfield 21, 3) := by decide +kernel
theorem dX7_loadCell_21 : decode cX7_loadCell 21 = .ok (.aload_n 1, 1) := by decide +kernel
theorem dX7_loadCell_22 : decode cX7_loadCell 22 = .ok (.getfield 160, 3) := by decide +kernel
theorem dX7_loadCell_25 : decode cX7_loadCell 25 = .ok (.lload_n 2, 1) := by decide +kernel
theorem dX7_loadCell_26 : decode cX7_loadCell 26 = .ok (.l2i, 1) := by decide +kernel
theorem dX7_loadCell_27 : decode cX7_loadCell 27 = .ok (.invokevirtual 263, 3) := by decide +kernel
theorem dX7_loadCell_30 : decode cX7_loadCell 30 = .ok (.invokevirtual 198, 3) := by decide +kernel
theorem dX7_loadCell_33 : decode cX7_loadCell 33 = .ok (.iconst 0, 1) := by decide +kernel
theorem dX7_loadCell_34 : decode cX7_loadCell 34 = .ok (.ireturn, 1) := by decide +kernel
theorem dX7_storeCell_0 : decode cX7_storeCell 0 = .ok (.lload 4, 2) := by decide +kernel
theorem dX7_storeCell_2 : decode cX7_storeCell 2 = .ok (.bipush 16, 2) := by decide +kernel
theorem dX7_storeCell_4 : decode cX7_storeCell 4 = .ok (.invokestatic 259, 3) := by decide +kernel
theorem dX7_storeCell_7 : decode cX7_storeCell 7 = .ok (.ifCond .ne 5, 3) := by decide +kernel
theorem dX7_storeCell_10 : decode cX7_storeCell 10 = .ok (.iconst 3, 1) := by decide +kernel
theorem dX7_storeCell_11 : decode cX7_storeCell 11 = .ok (.ireturn, 1) := by decide +kernel
theorem dX7_storeCell_12 : decode cX7_storeCell 12 = .ok (.aload_n 0, 1) := by decide +kernel
theorem dX7_storeCell_13 : decode cX7_storeCell 13 = .ok (.getfield 21, 3) := by decide +kernel
theorem dX7_storeCell_16 : decode cX7_storeCell 16 = .ok (.aload_n 1, 1) := by decide +kernel
theorem dX7_storeCell_17 : decode cX7_storeCell 17 = .ok (.getfield 160, 3) := by decide +kernel
theorem dX7_storeCell_20 : decode cX7_storeCell 20 = .ok (.lload 4, 2) := by decide +kernel
theorem dX7_storeCell_22 : decode cX7_storeCell 22 = .ok (.l2i, 1) := by decide +kernel
theorem dX7_storeCell_23 : decode cX7_storeCell 23 = .ok (.invokevirtual 263, 3) := by decide +kernel
theorem dX7_storeCell_26 : decode cX7_storeCell 26 = .ok (.lstore 6, 2) := by decide +kernel
theorem dX7_storeCell_28 : decode cX7_storeCell 28 = .ok (.lload 6, 2) := by decide +kernel
theorem dX7_storeCell_30 : decode cX7_storeCell 30 = .ok (.lconst 0, 1) := by decide +kernel
theorem dX7_storeCell_31 : decode cX7_storeCell 31 = .ok (.lcmp, 1) := by decide +kernel
theorem dX7_storeCell_32 : decode cX7_storeCell 32 = .ok (.ifCond .ne 20, 3) := by decide +kernel
theorem dX7_storeCell_35 : decode cX7_storeCell 35 = .ok (.lload_n 2, 1) := by decide +kernel
theorem dX7_storeCell_36 : decode cX7_storeCell 36 = .ok (.lconst 0, 1) := by decide +kernel
theorem dX7_storeCell_37 : decode cX7_storeCell 37 = .ok (.lcmp, 1) := by decide +kernel
theorem dX7_storeCell_38 : decode cX7_storeCell 38 = .ok (.ifCond .eq 14, 3) := by decide +kernel
theorem dX7_storeCell_41 : decode cX7_storeCell 41 = .ok (.aload_n 1, 1) := by decide +kernel
theorem dX7_storeCell_42 : decode cX7_storeCell 42 = .ok (.bipush 40, 2) := by decide +kernel
theorem dX7_storeCell_44 : decode cX7_storeCell 44 = .ok (.invokevirtual 85, 3) := by decide +kernel
theorem dX7_storeCell_47 : decode cX7_storeCell 47 = .ok (.ifCond .ne 5, 3) := by decide +kernel
theorem dX7_storeCell_50 : decode cX7_storeCell 50 = .ok (.iconst 3, 1) := by decide +kernel
theorem dX7_storeCell_51 : decode cX7_storeCell 51 = .ok (.ireturn, 1) := by decide +kernel
theorem dX7_storeCell_52 : decode cX7_storeCell 52 = .ok (.lload 6, 2) := by decide +kernel
theorem dX7_storeCell_54 : decode cX7_storeCell 54 = .ok (.lconst 0, 1) := by decide +kernel
theorem dX7_storeCell_55 : decode cX7_storeCell 55 = .ok (.lcmp, 1) := by decide +kernel
theorem dX7_storeCell_56 : decode cX7_storeCell 56 = .ok (.ifCond .eq 20, 3) := by decide +kernel
theorem dX7_storeCell_59 : decode cX7_storeCell 59 = .ok (.lload_n 2, 1) := by decide +kernel
theorem dX7_storeCell_60 : decode cX7_storeCell 60 = .ok (.lconst 0, 1) := by decide +kernel
theorem dX7_storeCell_61 : decode cX7_storeCell 61 = .ok (.lcmp, 1) := by decide +kernel
theorem dX7_storeCell_62 : decode cX7_storeCell 62 = .ok (.ifCond .ne 14, 3) := by decide +kernel
theorem dX7_storeCell_65 : decode cX7_storeCell 65 = .ok (.aload_n 0, 1) := by decide +kernel
theorem dX7_storeCell_66 : decode cX7_storeCell 66 = .ok (.dup, 1) := by decide +kernel
theorem dX7_storeCell_67 : decode cX7_storeCell 67 = .ok (.getfield 63, 3) := by decide +kernel
theorem dX7_storeCell_70 : decode cX7_storeCell 70 = .ok (.bipush 15, 2) := by decide +kernel
theorem dX7_storeCell_72 : decode cX7_storeCell 72 = .ok (.iadd, 1) := by decide +kernel
theorem dX7_storeCell_73 : decode cX7_storeCell 73 = .ok (.putfield 63, 3) := by decide +kernel
theorem dX7_storeCell_76 : decode cX7_storeCell 76 = .ok (.aload_n 0, 1) := by decide +kernel
theorem dX7_storeCell_77 : decode cX7_storeCell 77 = .ok (.getfield 21, 3) := by decide +kernel
theorem dX7_storeCell_80 : decode cX7_storeCell 80 = .ok (.aload_n 1, 1) := by decide +kernel
theorem dX7_storeCell_81 : decode cX7_storeCell 81 = .ok (.getfield 160, 3) := by decide +kernel
theorem dX7_storeCell_84 : decode cX7_storeCell 84 = .ok (.lload 4, 2) := by decide +kernel
theorem dX7_storeCell_86 : decode cX7_storeCell 86 = .ok (.l2i, 1) := by decide +kernel
theorem dX7_storeCell_87 : decode cX7_storeCell 87 = .ok (.lload_n 2, 1) := by decide +kernel
theorem dX7_storeCell_88 : decode cX7_storeCell 88 = .ok (.invokevirtual 267, 3) := by decide +kernel
theorem dX7_storeCell_91 : decode cX7_storeCell 91 = .ok (.iconst 0, 1) := by decide +kernel
theorem dX7_storeCell_92 : decode cX7_storeCell 92 = .ok (.ireturn, 1) := by decide +kernel
theorem dX7_prepareCall_0 : decode cX7_prepareCall 0 = .ok (.aload_n 1, 1) := by decide +kernel
theorem dX7_prepareCall_1 : decode cX7_prepareCall 1 = .ok (.invokevirtual 209, 3) := by decide +kernel
theorem dX7_prepareCall_4 : decode cX7_prepareCall 4 = .ok (.lstore_n 2, 1) := by decide +kernel
theorem dX7_prepareCall_5 : decode cX7_prepareCall 5 = .ok (.aload_n 1, 1) := by decide +kernel
theorem dX7_prepareCall_6 : decode cX7_prepareCall 6 = .ok (.invokevirtual 209, 3) := by decide +kernel
theorem dX7_prepareCall_9 : decode cX7_prepareCall 9 = .ok (.lstore 4, 2) := by decide +kernel
theorem dX7_prepareCall_11 : decode cX7_prepareCall 11 = .ok (.aload_n 1, 1) := by decide +kernel
theorem dX7_prepareCall_12 : decode cX7_prepareCall 12 = .ok (.invokevirtual 209, 3) := by decide +kernel
theorem dX7_prepareCall_15 : decode cX7_prepareCall 15 = .ok (.lstore 6, 2) := by decide +kernel
theorem dX7_prepareCall_17 : decode cX7_prepareCall 17 = .ok (.aload_n 1, 1) := by decide +kernel
theorem dX7_prepareCall_18 : decode cX7_prepareCall 18 = .ok (.invokevirtual 209, 3) := by decide +kernel
theorem dX7_prepareCall_21 : decode cX7_prepareCall 21 = .ok (.lstore 8, 2) := by decide +kernel
theorem dX7_prepareCall_23 : decode cX7_prepareCall 23 = .ok (.aload_n 1, 1) := by decide +kernel
theorem dX7_prepareCall_24 : decode cX7_prepareCall 24 = .ok (.getfield 92, 3) := by decide +kernel
theorem dX7_prepareCall_27 : decode cX7_prepareCall 27 = .ok (.ifCond .eq 12, 3) := by decide +kernel
theorem dX7_prepareCall_30 : decode cX7_prepareCall 30 = .ok (.lload 4, 2) := by decide +kernel
theorem dX7_prepareCall_32 : decode cX7_prepareCall 32 = .ok (.lconst 0, 1) := by decide +kernel
theorem dX7_prepareCall_33 : decode cX7_prepareCall 33 = .ok (.lcmp, 1) := by decide +kernel
theorem dX7_prepareCall_34 : decode cX7_prepareCall 34 = .ok (.ifCond .eq 5, 3) := by decide +kernel
theorem dX7_prepareCall_37 : decode cX7_prepareCall 37 = .ok (.iconst 3, 1) := by decide +kernel
theorem dX7_prepareCall_38 : decode cX7_prepareCall 38 = .ok (.ireturn, 1) := by decide +kernel
theorem dX7_prepareCall_39 : decode cX7_prepareCall 39 = .ok (.aload_n 0, 1) := by decide +kernel
theorem dX7_prepareCall_40 : decode cX7_prepareCall 40 = .ok (.getfield 35, 3) := by decide +kernel
theorem dX7_prepareCall_43 : decode cX7_prepareCall 43 = .ok (.aload_n 1, 1) := by decide +kernel
theorem dX7_prepareCall_44 : decode cX7_prepareCall 44 = .ok (.getfield 160, 3) := by decide +kernel
theorem dX7_prepareCall_47 : decode cX7_prepareCall 47 = .ok (.lload_n 2, 1) := by decide +kernel
theorem dX7_prepareCall_48 : decode cX7_prepareCall 48 = .ok (.lload 4, 2) := by decide +kernel
theorem dX7_prepareCall_50 : decode cX7_prepareCall 50 = .ok (.lload 6, 2) := by decide +kernel
theorem dX7_prepareCall_52 : decode cX7_prepareCall 52 = .ok (.aload_n 1, 1) := by decide +kernel
theorem dX7_prepareCall_53 : decode cX7_prepareCall 53 = .ok (.lload 8, 2) := by decide +kernel
theorem dX7_prepareCall_55 : decode cX7_prepareCall 55 = .ok (.invokevirtual 270, 3) := by decide +kernel
theorem dX7_prepareCall_58 : decode cX7_prepareCall 58 = .ok (.aload_n 1, 1) := by decide +kernel
theorem dX7_prepareCall_59 : decode cX7_prepareCall 59 = .ok (.getfield 92, 3) := by decide +kernel
theorem dX7_prepareCall_62 : decode cX7_prepareCall 62 = .ok (.invokevirtual 69, 3) := by decide +kernel
theorem dX7_prepareCall_65 : decode cX7_prepareCall 65 = .ok (.iconst 4, 1) := by decide +kernel
theorem dX7_prepareCall_66 : decode cX7_prepareCall 66 = .ok (.ireturn, 1) := by decide +kernel
theorem dX7_prepareLook_0 : decode cX7_prepareLook 0 = .ok (.aload_n 1, 1) := by decide +kernel
theorem dX7_prepareLook_1 : decode cX7_prepareLook 1 = .ok (.invokevirtual 209, 3) := by decide +kernel
theorem dX7_prepareLook_4 : decode cX7_prepareLook 4 = .ok (.lstore_n 2, 1) := by decide +kernel
theorem dX7_prepareLook_5 : decode cX7_prepareLook 5 = .ok (.aload_n 1, 1) := by decide +kernel
theorem dX7_prepareLook_6 : decode cX7_prepareLook 6 = .ok (.invokevirtual 209, 3) := by decide +kernel
theorem dX7_prepareLook_9 : decode cX7_prepareLook 9 = .ok (.lstore 4, 2) := by decide +kernel
theorem dX7_prepareLook_11 : decode cX7_prepareLook 11 = .ok (.aload_n 1, 1) := by decide +kernel
theorem dX7_prepareLook_12 : decode cX7_prepareLook 12 = .ok (.invokevirtual 209, 3) := by decide +kernel
theorem dX7_prepareLook_15 : decode cX7_prepareLook 15 = .ok (.lstore 6, 2) := by decide +kernel
theorem dX7_prepareLook_17 : decode cX7_prepareLook 17 = .ok (.aload_n 0, 1) := by decide +kernel
theorem dX7_prepareLook_18 : decode cX7_prepareLook 18 = .ok (.getfield 35, 3) := by decide +kernel
theorem dX7_prepareLook_21 : decode cX7_prepareLook 21 = .ok (.aload_n 1, 1) := by decide +kernel
theorem dX7_prepareLook_22 : decode cX7_prepareLook 22 = .ok (.getfield 160, 3) := by decide +kernel
theorem dX7_prepareLook_25 : decode cX7_prepareLook 25 = .ok (.lload_n 2, 1) := by decide +kernel
theorem dX7_prepareLook_26 : decode cX7_prepareLook 26 = .ok (.lconst 0, 1) := by decide +kernel
theorem dX7_prepareLook_27 : decode cX7_prepareLook 27 = .ok (.lload 4, 2) := by decide +kernel
theorem dX7_prepareLook_29 : decode cX7_prepareLook 29 = .ok (.aload_n 1, 1) := by decide +kernel
theorem dX7_prepareLook_30 : decode cX7_prepareLook 30 = .ok (.lload 6, 2) := by decide +kernel
theorem dX7_prepareLook_32 : decode cX7_prepareLook 32 = .ok (.invokevirtual 270, 3) := by decide +kernel
theorem dX7_prepareLook_35 : decode cX7_prepareLook 35 = .ok (.iconst 1, 1) := by decide +kernel
theorem dX7_prepareLook_36 : decode cX7_prepareLook 36 = .ok (.invokevirtual 69, 3) := by decide +kernel
theorem dX7_prepareLook_39 : decode cX7_prepareLook 39 = .ok (.iconst 4, 1) := by decide +kernel
theorem dX7_prepareLook_40 : decode cX7_prepareLook 40 = .ok (.ireturn, 1) := by decide +kernel
theorem dX7_make_0 : decode cX7_make 0 = .ok (.lload_n 2, 1) := by decide +kernel
theorem dX7_make_1 : decode cX7_make 1 = .ok (.lconst 0, 1) := by decide +kernel
theorem dX7_make_2 : decode cX7_make 2 = .ok (.lcmp, 1) := by decide +kernel
theorem dX7_make_3 : decode cX7_make 3 = .ok (.ifCond .lt 23, 3) := by decide +kernel
theorem dX7_make_6 : decode cX7_make 6 = .ok (.lload_n 2, 1) := by decide +kernel
theorem dX7_make_7 : decode cX7_make 7 = .ok (.aload_n 0, 1) := by decide +kernel
theorem dX7_make_8 : decode cX7_make 8 = .ok (.getfield 21, 3) := by decide +kernel
theorem dX7_make_11 : decode cX7_make 11 = .ok (.aload_n 1, 1) := by decide +kernel
theorem dX7_make_12 : decode cX7_make 12 = .ok (.getfield 160, 3) := by decide +kernel
theorem dX7_make_15 : decode cX7_make 15 = .ok (.invokevirtual 154, 3) := by decide +kernel
theorem dX7_make_18 : decode cX7_make 18 = .ok (.lcmp, 1) := by decide +kernel
theorem dX7_make_19 : decode cX7_make 19 = .ok (.ifCond .gt 7, 3) := by decide +kernel
theorem dX7_make_22 : decode cX7_make 22 = .ok (.iconst 1, 1) := by decide +kernel
theorem dX7_make_23 : decode cX7_make 23 = .ok (.goto 4, 3) := by decide +kernel
theorem dX7_make_26 : decode cX7_make 26 = .ok (.iconst 0, 1) := by decide +kernel
theorem dX7_make_27 : decode cX7_make 27 = .ok (.istore 6, 2) := by decide +kernel
theorem dX7_make_29 : decode cX7_make 29 = .ok (.iload 6, 2) := by decide +kernel
theorem dX7_make_31 : decode cX7_make 31 = .ok (.ifCond .eq 22, 3) := by decide +kernel
theorem dX7_make_34 : decode cX7_make 34 = .ok (.aload_n 0, 1) := by decide +kernel
theorem dX7_make_35 : decode cX7_make 35 = .ok (.getfield 12, 3) := by decide +kernel
theorem dX7_make_38 : decode cX7_make 38 = .ok (.lload 4, 2) := by decide +kernel
theorem dX7_make_40 : decode cX7_make 40 = .ok (.invokevirtual 126, 3) := by decide +kernel
theorem dX7_make_43 : decode cX7_make 43 = .ok (.ifCond .eq 10, 3) := by decide +kernel
theorem dX7_make_46 : decode cX7_make 46 = .ok (.aload_n 0, 1) := by decide +kernel
theorem dX7_make_47 : decode cX7_make 47 = .ok (.invokevirtual 274, 3) := by decide +kernel
theorem dX7_make_50 : decode cX7_make 50 = .ok (.goto 4, 3) := by decide +kernel
theorem dX7_make_53 : decode cX7_make 53 = .ok (.iconst (-1), 1) := by decide +kernel
theorem dX7_make_54 : decode cX7_make 54 = .ok (.istore 7, 2) := by decide +kernel
theorem dX7_make_56 : decode cX7_make 56 = .ok (.iload 7, 2) := by decide +kernel
theorem dX7_make_58 : decode cX7_make 58 = .ok (.iconst (-1), 1) := by decide +kernel
theorem dX7_make_59 : decode cX7_make 59 = .ok (.if_icmp .eq 28, 3) := by decide +kernel
theorem dX7_make_62 : decode cX7_make 62 = .ok (.aload_n 0, 1) := by decide +kernel
theorem dX7_make_63 : decode cX7_make 63 = .ok (.getfield 21, 3) := by decide +kernel
theorem dX7_make_66 : decode cX7_make 66 = .ok (.aload_n 1, 1) := by decide +kernel
theorem dX7_make_67 : decode cX7_make 67 = .ok (.getfield 160, 3) := by decide +kernel
theorem dX7_make_70 : decode cX7_make 70 = .ok (.iload 7, 2) := by decide +kernel
theorem dX7_make_72 : decode cX7_make 72 = .ok (.lload_n 2, 1) := by decide +kernel
theorem dX7_make_73 : decode cX7_make 73 = .ok (.invokevirtual 136, 3) := by decide +kernel
theorem dX7_make_76 : decode cX7_make 76 = .ok (.aload_n 0, 1) := by decide +kernel
theorem dX7_make_77 : decode cX7_make 77 = .ok (.getfield 21, 3) := by decide +kernel
theorem dX7_make_80 : decode cX7_make 80 = .ok (.iload 7, 2) := by decide +kernel
theorem dX7_make_82 : decode cX7_make 82 = .ok (.lload 4, 2) := by decide +kernel
theorem dX7_make_84 : decode cX7_make 84 = .ok (.invokevirtual 277, 3) := by decide +kernel
theorem dX7_make_87 : decode cX7_make 87 = .ok (.aload_n 1, 1) := by decide +kernel
theorem dX7_make_88 : decode cX7_make 88 = .ok (.iload 7, 2) := by decide +kernel
theorem dX7_make_90 : decode cX7_make 90 = .ok (.i2l, 1) := by decide +kernel
theorem dX7_make_91 : decode cX7_make 91 = .ok (.invokevirtual 198, 3) := by decide +kernel
theorem dX7_make_94 : decode cX7_make 94 = .ok (.iconst 0, 1) := by decide +kernel
theorem dX7_make_95 : decode cX7_make 95 = .ok (.ireturn, 1) := by decide +kernel
theorem dX7_leastFreeAccount_0 : decode cX7_leastFreeAccount 0 = .ok (.iconst 0, 1) := by decide +kernel
theorem dX7_leastFreeAccount_1 : decode cX7_leastFreeAccount 1 = .ok (.istore_n 1, 1) := by decide +kernel
theorem dX7_leastFreeAccount_2 : decode cX7_leastFreeAccount 2 = .ok (.iload_n 1, 1) := by decide +kernel
theorem dX7_leastFreeAccount_3 : decode cX7_leastFreeAccount 3 = .ok (.bipush 32, 2) := by decide +kernel
theorem dX7_leastFreeAccount_5 : decode cX7_leastFreeAccount 5 = .ok (.if_icmp .ge 38, 3) := by decide +kernel
theorem dX7_leastFreeAccount_8 : decode cX7_leastFreeAccount 8 = .ok (.iload_n 1, 1) := by decide +kernel
theorem dX7_leastFreeAccount_9 : decode cX7_leastFreeAccount 9 = .ok (.aload_n 0, 1) := by decide +kernel
theorem dX7_leastFreeAccount_10 : decode cX7_leastFreeAccount 10 = .ok (.getfield 57, 3) := by decide +kernel
theorem dX7_leastFreeAccount_13 : decode cX7_leastFreeAccount 13 = .ok (.if_icmp .eq 24, 3) := by decide +kernel
theorem dX7_leastFreeAccount_16 : decode cX7_leastFreeAccount 16 = .ok (.aload_n 0, 1) := by decide +kernel
theorem dX7_leastFreeAccount_17 : decode cX7_leastFreeAccount 17 = .ok (.iload_n 1, 1) := by decide +kernel
theorem dX7_leastFreeAccount_18 : decode cX7_leastFreeAccount 18 = .ok (.invokevirtual 281, 3) := by decide +kernel
theorem dX7_leastFreeAccount_21 : decode cX7_leastFreeAccount 21 = .ok (.ifCond .ne 16, 3) := by decide +kernel
theorem dX7_leastFreeAccount_24 : decode cX7_leastFreeAccount 24 = .ok (.aload_n 0, 1) := by decide +kernel
theorem dX7_leastFreeAccount_25 : decode cX7_leastFreeAccount 25 = .ok (.getfield 21, 3) := by decide +kernel
theorem dX7_leastFreeAccount_28 : decode cX7_leastFreeAccount 28 = .ok (.iload_n 1, 1) := by decide +kernel
theorem dX7_leastFreeAccount_29 : decode cX7_leastFreeAccount 29 = .ok (.invokevirtual 284, 3) := by decide +kernel
theorem dX7_leastFreeAccount_32 : decode cX7_leastFreeAccount 32 = .ok (.ifCond .eq 5, 3) := by decide +kernel
theorem dX7_leastFreeAccount_35 : decode cX7_leastFreeAccount 35 = .ok (.iload_n 1, 1) := by decide +kernel
theorem dX7_leastFreeAccount_36 : decode cX7_leastFreeAccount 36 = .ok (.ireturn, 1) := by decide +kernel
theorem dX7_leastFreeAccount_37 : decode cX7_leastFreeAccount 37 = .ok (.iinc 1 1, 3) := by decide +kernel
theorem dX7_leastFreeAccount_40 : decode cX7_leastFreeAccount 40 = .ok (.goto (-38), 3) := by decide +kernel
theorem dX7_leastFreeAccount_43 : decode cX7_leastFreeAccount 43 = .ok (.iconst (-1), 1) := by decide +kernel
theorem dX7_leastFreeAccount_44 : decode cX7_leastFreeAccount 44 = .ok (.ireturn, 1) := by decide +kernel
theorem dX7_become_0 : decode cX7_become 0 = .ok (.aload_n 0, 1) := by decide +kernel
theorem dX7_become_1 : decode cX7_become 1 = .ok (.getfield 12, 3) := by decide +kernel
theorem dX7_become_4 : decode cX7_become 4 = .ok (.lload_n 2, 1) := by decide +kernel
theorem dX7_become_5 : decode cX7_become 5 = .ok (.invokevirtual 126, 3) := by decide +kernel
theorem dX7_become_8 : decode cX7_become 8 = .ok (.ifCond .ne 5, 3) := by decide +kernel
theorem dX7_become_11 : decode cX7_become 11 = .ok (.iconst 3, 1) := by decide +kernel
theorem dX7_become_12 : decode cX7_become 12 = .ok (.ireturn, 1) := by decide +kernel
theorem dX7_become_13 : decode cX7_become 13 = .ok (.aload_n 0, 1) := by decide +kernel
theorem dX7_become_14 : decode cX7_become 14 = .ok (.getfield 21, 3) := by decide +kernel
theorem dX7_become_17 : decode cX7_become 17 = .ok (.aload_n 1, 1) := by decide +kernel
theorem dX7_become_18 : decode cX7_become 18 = .ok (.getfield 160, 3) := by decide +kernel
theorem dX7_become_21 : decode cX7_become 21 = .ok (.lload_n 2, 1) := by decide +kernel
theorem dX7_become_22 : decode cX7_become 22 = .ok (.invokevirtual 277, 3) := by decide +kernel
theorem dX7_become_25 : decode cX7_become 25 = .ok (.iconst 0, 1) := by decide +kernel
theorem dX7_become_26 : decode cX7_become 26 = .ok (.ireturn, 1) := by decide +kernel
theorem dX7_emit_0 : decode cX7_emit 0 = .ok (.aload_n 0, 1) := by decide +kernel
theorem dX7_emit_1 : decode cX7_emit 1 = .ok (.getfield 28, 3) := by decide +kernel
theorem dX7_emit_4 : decode cX7_emit 4 = .ok (.aload_n 1, 1) := by decide +kernel
theorem dX7_emit_5 : decode cX7_emit 5 = .ok (.getfield 160, 3) := by decide +kernel
theorem dX7_emit_8 : decode cX7_emit 8 = .ok (.lload 4, 2) := by decide +kernel
theorem dX7_emit_10 : decode cX7_emit 10 = .ok (.lload_n 2, 1) := by decide +kernel
theorem dX7_emit_11 : decode cX7_emit 11 = .ok (.invokevirtual 287, 3) := by decide +kernel
theorem dX7_emit_14 : decode cX7_emit 14 = .ok (.iconst 0, 1) := by decide +kernel
theorem dX7_emit_15 : decode cX7_emit 15 = .ok (.ireturn, 1) := by decide +kernel
theorem dX7_close_0 : decode cX7_close 0 = .ok (.lload_n 2, 1) := by decide +kernel
theorem dX7_close_1 : decode cX7_close 1 = .ok (.invokestatic 151, 3) := by decide +kernel
theorem dX7_close_4 : decode cX7_close 4 = .ok (.ifCond .eq 13, 3) := by decide +kernel
theorem dX7_close_7 : decode cX7_close 7 = .ok (.lload_n 2, 1) := by decide +kernel
theorem dX7_close_8 : decode cX7_close 8 = .ok (.aload_n 1, 1) := by decide +kernel
theorem dX7_close_9 : decode cX7_close 9 = .ok (.getfield 160, 3) := by decide +kernel
theorem dX7_close_12 : decode cX7_close 12 = .ok (.i2l, 1) := by decide +kernel
theorem dX7_close_13 : decode cX7_close 13 = .ok (.lcmp, 1) := by decide +kernel
theorem dX7_close_14 : decode cX7_close 14 = .ok (.ifCond .ne 5, 3) := by decide +kernel
theorem dX7_close_17 : decode cX7_close 17 = .ok (.iconst 3, 1) := by decide +kernel
theorem dX7_close_18 : decode cX7_close 18 = .ok (.ireturn, 1) := by decide +kernel
theorem dX7_close_19 : decode cX7_close 19 = .ok (.aload_n 0, 1) := by decide +kernel
theorem dX7_close_20 : decode cX7_close 20 = .ok (.getfield 21, 3) := by decide +kernel
theorem dX7_close_23 : decode cX7_close 23 = .ok (.aload_n 1, 1) := by decide +kernel
theorem dX7_close_24 : decode cX7_close 24 = .ok (.getfield 160, 3) := by decide +kernel
theorem dX7_close_27 : decode cX7_close 27 = .ok (.lload_n 2, 1) := by decide +kernel
theorem dX7_close_28 : decode cX7_close 28 = .ok (.l2i, 1) := by decide +kernel
theorem dX7_close_29 : decode cX7_close 29 = .ok (.aload_n 0, 1) := by decide +kernel
theorem dX7_close_30 : decode cX7_close 30 = .ok (.getfield 21, 3) := by decide +kernel
theorem dX7_close_33 : decode cX7_close 33 = .ok (.aload_n 1, 1) := by decide +kernel
theorem dX7_close_34 : decode cX7_close 34 = .ok (.getfield 160, 3) := by decide +kernel
theorem dX7_close_37 : decode cX7_close 37 = .ok (.invokevirtual 154, 3) := by decide +kernel
theorem dX7_close_40 : decode cX7_close 40 = .ok (.invokevirtual 136, 3) := by decide +kernel
theorem dX7_close_43 : decode cX7_close 43 = .ok (.aload_n 0, 1) := by decide +kernel
theorem dX7_close_44 : decode cX7_close 44 = .ok (.getfield 21, 3) := by decide +kernel
theorem dX7_close_47 : decode cX7_close 47 = .ok (.aload_n 1, 1) := by decide +kernel
theorem dX7_close_48 : decode cX7_close 48 = .ok (.getfield 160, 3) := by decide +kernel
theorem dX7_close_51 : decode cX7_close 51 = .ok (.ldc2_w 291, 3) := by decide +kernel
theorem dX7_close_54 : decode cX7_close 54 = .ok (.invokevirtual 277, 3) := by decide +kernel
theorem dX7_close_57 : decode cX7_close 57 = .ok (.aload_n 0, 1) := by decide +kernel
theorem dX7_close_58 : decode cX7_close 58 = .ok (.getfield 21, 3) := by decide +kernel
theorem dX7_close_61 : decode cX7_close 61 = .ok (.aload_n 1, 1) := by decide +kernel
theorem dX7_close_62 : decode cX7_close 62 = .ok (.getfield 160, 3) := by decide +kernel
theorem dX7_close_65 : decode cX7_close 65 = .ok (.invokevirtual 293, 3) := by decide +kernel
theorem dX7_close_68 : decode cX7_close 68 = .ok (.aload_n 0, 1) := by decide +kernel
theorem dX7_close_69 : decode cX7_close 69 = .ok (.iconst 1, 1) := by decide +kernel
theorem dX7_close_70 : decode cX7_close 70 = .ok (.lconst 0, 1) := by decide +kernel
theorem dX7_close_71 : decode cX7_close 71 = .ok (.invokevirtual 202, 3) := by decide +kernel
theorem dX7_close_74 : decode cX7_close 74 = .ok (.ireturn, 1) := by decide +kernel
theorem dX7_changesState_0 : decode cX7_changesState 0 = .ok (.iload_n 0, 1) := by decide +kernel
theorem dX7_changesState_1 : decode cX7_changesState 1 = .ok (.bipush 22, 2) := by decide +kernel
theorem dX7_changesState_3 : decode cX7_changesState 3 = .ok (.if_icmp .eq 27, 3) := by decide +kernel
theorem dX7_changesState_6 : decode cX7_changesState 6 = .ok (.iload_n 0, 1) := by decide +kernel
theorem dX7_changesState_7 : decode cX7_changesState 7 = .ok (.bipush 33, 2) := by decide +kernel
theorem dX7_changesState_9 : decode cX7_changesState 9 = .ok (.if_icmp .eq 21, 3) := by decide +kernel
theorem dX7_changesState_12 : decode cX7_changesState 12 = .ok (.iload_n 0, 1) := by decide +kernel
theorem dX7_changesState_13 : decode cX7_changesState 13 = .ok (.bipush 34, 2) := by decide +kernel
theorem dX7_changesState_15 : decode cX7_changesState 15 = .ok (.if_icmp .eq 15, 3) := by decide +kernel
theorem dX7_changesState_18 : decode cX7_changesState 18 = .ok (.iload_n 0, 1) := by decide +kernel
theorem dX7_changesState_19 : decode cX7_changesState 19 = .ok (.bipush 35, 2) := by decide +kernel
theorem dX7_changesState_21 : decode cX7_changesState 21 = .ok (.if_icmp .eq 9, 3) := by decide +kernel
theorem dX7_changesState_24 : decode cX7_changesState 24 = .ok (.iload_n 0, 1) := by decide +kernel
theorem dX7_changesState_25 : decode cX7_changesState 25 = .ok (.bipush 38, 2) := by decide +kernel
theorem dX7_changesState_27 : decode cX7_changesState 27 = .ok (.if_icmp .ne 7, 3) := by decide +kernel
theorem dX7_changesState_30 : decode cX7_changesState 30 = .ok (.iconst 1, 1) := by decide +kernel
theorem dX7_changesState_31 : decode cX7_changesState 31 = .ok (.goto 4, 3) := by decide +kernel
theorem dX7_changesState_34 : decode cX7_changesState 34 = .ok (.iconst 0, 1) := by decide +kernel
theorem dX7_changesState_35 : decode cX7_changesState 35 = .ok (.ireturn, 1) := by decide +kernel
/-- what an act says of the machine: it goes on, the frame ends, a call is made ready -/
def rc_oc (K : Nat → Nat × Nat) (C0 C' : rx_M) (g : vg_T) (bs od : Nat) (n : Nat → Int64) (e : List (Nat × Int64 × Int64)) (b m : Nat) (f : vf_T) (fs : List vf_T) (R : vx_S × Option (Nat × Int64 × Nat)) (how : Nat) : Prop :=
  (how = 0 ∧ R.2 = none ∧ rc_U K C0 C' g bs od R.1) ∨
  ((how = 1 ∨ how = 2 ∨ how = 3) ∧ ∃ n1 q1 t1 x z, (fL f = true → n1 = n) ∧ q1 ≤ fG f ∧ rc_Y K C0 C' g bs od (n1, e, b, ((fC f, fA f, q1, fS f, fK f), f.2.1, f.2.2.1, t1, fB f) :: fs, m) z ∧ R = vm_fin (n1, e, b, ((fC f, fA f, q1, fS f, fK f), f.2.1, f.2.2.1, t1, fB f) :: fs, m) how x ∧ (how = 3 ∨ C'.2.1 4 11 = x)) ∨
  (how = 4 ∧ ∃ q1 t1 z to vl ar qq l1, rc_Y K C0 C' g bs od (n, e, b, ((fC f, fA f, q1, fS f, fK f), f.2.1, f.2.2.1, t1, fB f) :: fs, m) z ∧ rc_call C' (fS f) to vl ar qq l1 ∧ q1 + qq ≤ fG f ∧ t1.length ≤ 21 ∧ (fL f = true → l1 = true) ∧ R = vm_begin (n, e, b, ((fC f, fA f, q1, fS f, fK f), f.2.1, f.2.2.1, t1, fB f) :: fs, m) (fS f) to vl ar qq l1)
def rc_out (S : gs_T) (K : Nat → Nat × Nat) (C0 : rx_M) (g : vg_T) (bs od : Nat) (n : Nat → Int64) (e : List (Nat × Int64 × Int64)) (b m : Nat) (f : vf_T) (fs : List vf_T) (R : vx_S × Option (Nat × Int64 × Nat)) (vv : Option Value) (mu : rx_M) : Prop :=
  ∃ how, vv = some (.int (nI how)) ∧ ∃ C', mu = gl C' S ∧ rc_oc K C0 C' g bs od n e b m f fs R how
theorem rc_out0 {S : gs_T} {K : Nat → Nat × Nat} {C0 C' : rx_M} {g : vg_T} {bs od : Nat} {n : Nat → Int64} {e : List (Nat × Int64 × Int64)} {b m : Nat} {f : vf_T} {fs : List vf_T} {R : vx_S × Option (Nat × Int64 × Nat)} {X1 : vx_S} {z : Int32} (h : R = (X1, none)) (hY : rc_Y K C0 C' g bs od X1 z) : rc_out S K C0 g bs od n e b m f fs R (some (.int (nI 0))) (gl C' S) := ⟨0, rfl, _, rfl, Or.inl ⟨rfl, by rw [h], _, by rw [h]; exact hY⟩⟩
theorem rc_out3 {S : gs_T} {K : Nat → Nat × Nat} {C0 C' : rx_M} {g : vg_T} {bs od : Nat} {n : Nat → Int64} {e : List (Nat × Int64 × Int64)} {b m : Nat} {f : vf_T} {fs : List vf_T} {R : vx_S × Option (Nat × Int64 × Nat)} {n1 : Nat → Int64} {q1 : Nat} {t1 : List Int64} {x : Int64} {z : Int32} (h : R = vm_fin (n1, e, b, ((fC f, fA f, q1, fS f, fK f), f.2.1, f.2.2.1, t1, fB f) :: fs, m) 3 x) (hn : fL f = true → n1 = n) (hq : q1 ≤ fG f) (hY : rc_Y K C0 C' g bs od (n1, e, b, ((fC f, fA f, q1, fS f, fK f), f.2.1, f.2.2.1, t1, fB f) :: fs, m) z) : rc_out S K C0 g bs od n e b m f fs R (some (.int (nI 3))) (gl C' S) := ⟨3, rfl, _, rfl, Or.inr (Or.inl ⟨Or.inr (Or.inr rfl), _, _, _, _, _, hn, hq, hY, h, Or.inl rfl⟩)⟩
theorem rc_outW {S : gs_T} {K : Nat → Nat × Nat} {C0 C' : rx_M} {g : vg_T} {bs od : Nat} {n : Nat → Int64} {e : List (Nat × Int64 × Int64)} {b m : Nat} {f : vf_T} {fs : List vf_T} {R : vx_S × Option (Nat × Int64 × Nat)} {n1 : Nat → Int64} {q1 : Nat} {t1 : List Int64} {x : Int64} {z : Int32} {how : Nat} (hh : how = 1 ∨ how = 2) (h : R = vm_fin (n1, e, b, ((fC f, fA f, q1, fS f, fK f), f.2.1, f.2.2.1, t1, fB f) :: fs, m) how x) (hn : fL f = true → n1 = n) (hq : q1 ≤ fG f) (hY : rc_Y K C0 C' g bs od (n1, e, b, ((fC f, fA f, q1, fS f, fK f), f.2.1, f.2.2.1, t1, fB f) :: fs, m) z) (hA : C'.2.1 4 11 = x) : rc_out S K C0 g bs od n e b m f fs R (some (.int (nI how))) (gl C' S) := ⟨how, rfl, _, rfl, Or.inr (Or.inl ⟨by omega, _, _, _, _, _, hn, hq, hY, h, Or.inr hA⟩)⟩
theorem rc_out4 {S : gs_T} {K : Nat → Nat × Nat} {C0 C' : rx_M} {g : vg_T} {bs od : Nat} {n : Nat → Int64} {e : List (Nat × Int64 × Int64)} {b m : Nat} {f : vf_T} {fs : List vf_T} {R : vx_S × Option (Nat × Int64 × Nat)} {q1 qq : Nat} {t1 : List Int64} {to vl ar : Int64} {l1 : Bool} {z : Int32} (h : R = vm_begin (n, e, b, ((fC f, fA f, q1, fS f, fK f), f.2.1, f.2.2.1, t1, fB f) :: fs, m) (fS f) to vl ar qq l1) (hq : q1 + qq ≤ fG f) (ht : t1.length ≤ 21) (hl : fL f = true → l1 = true) (hY : rc_Y K C0 C' g bs od (n, e, b, ((fC f, fA f, q1, fS f, fK f), f.2.1, f.2.2.1, t1, fB f) :: fs, m) z) (hc : rc_call C' (fS f) to vl ar qq l1) : rc_out S K C0 g bs od n e b m f fs R (some (.int (nI 4))) (gl C' S) := ⟨4, rfl, _, rfl, Or.inr (Or.inr ⟨rfl, _, _, _, _, _, _, _, _, hY, hc, hq, ht, hl, h⟩)⟩
theorem cp_endWith {G : rx_E} {d : Nat} {S : gs_T} {K : Nat → Nat × Nat} {C0 C : rx_M} {g : vg_T} {bs od : Nat} {X : vx_S} {z : Int32} (hG : rx_OK G) {how : Nat} {x : Int64} (hY : rc_Y K C0 C g bs od X z) : rx_C G MX7_endWith d [.ref 4, .int (nI how), .long x] (gl C S) 0 0 (fun vv mu => vv = some (.int (nI how)) ∧ ∃ C', mu = gl C' S ∧ rc_Y K C0 C' g bs od X z ∧ C'.2.1 4 11 = x) := by
  refine rx_meth0 (by decide +kernel) rfl (Nat.le_of_ble_eq_true rfl) ?_
  refine rx_aload_n dX7_endWith_0 rfl rfl ?_
  refine rx_lload_n dX7_endWith_1 rfl ?_
  refine gc_putL hG hf_RX7_188 (gw_nf rfl rfl) dX7_endWith_2 rfl rfl rfl ?_
  refine rx_iload_n dX7_endWith_5 rfl ?_
  exact rx_iret rfl dX7_endWith_6 ⟨rfl, _, rfl, rcY_setA hY x, by simp [rx_ru]⟩
theorem cp_known23 {G : rx_E} {d : Nat} {S : gs_T} {K : Nat → Nat × Nat} {C0 C : rx_M} {g : vg_T} {bs od : Nat} {n : Nat → Int64} {e : List (Nat × Int64 × Int64)} {b m c a q s k : Nat} {v r : Int64} {l o : Bool} {t : List Int64} {w : (Nat → Int64) × Nat × Nat} {fs : List vf_T} {z : Int32} (hG : rx_OK G) (hp : fs.length < 10) (hs1 : s < 32) (hk : k < 32) (ho : g.2.2.1 < 32) (hh : g.2.2.2 < 100) (hq : q ≤ 30000) (hY : rc_Y K C0 C g bs od (n, e, b, ((c, a, q, s, k), (v, r), (l, o), t, w) :: fs, m) z) : rx_C G MX7_known d [.ref 4, .ref (13 + 3 * fs.length), .int (nI 23)] (gl C S) 0 0 (fun vv mu => vv = some (.long (lN s)) ∧ mu = gl C S) := by
  refine rx_meth0 (by decide +kernel) rfl (Nat.le_of_ble_eq_true rfl) ?_
  refine rx_iload_n dX7_known_0 rfl ?_
  refine rx_tabIn (tgt := 40) dX7_known_1 (by decide) (by decide) rfl (by decide) ?_
  refine rx_aload_n dX7_known_40 rfl rfl ?_
  refine gcv_getI (v := nI s) hG hf_RX7_160 rfl dX7_known_41 (gkF_m hp) (gkF_f hp) (gkF_k hp) (rc_self hY) ?_
  refine rx_i2l dX7_known_44 ?_
  refine rx_tl (y := lN s) (nI_l (by omega)) ?_
  exact rx_lret rfl dX7_known_45 ⟨rfl, rfl⟩
theorem cp_known24 {G : rx_E} {d : Nat} {S : gs_T} {K : Nat → Nat × Nat} {C0 C : rx_M} {g : vg_T} {bs od : Nat} {n : Nat → Int64} {e : List (Nat × Int64 × Int64)} {b m c a q s k : Nat} {v r : Int64} {l o : Bool} {t : List Int64} {w : (Nat → Int64) × Nat × Nat} {fs : List vf_T} {z : Int32} (hG : rx_OK G) (hp : fs.length < 10) (hs1 : s < 32) (hk : k < 32) (ho : g.2.2.1 < 32) (hh : g.2.2.2 < 100) (hq : q ≤ 30000) (hY : rc_Y K C0 C g bs od (n, e, b, ((c, a, q, s, k), (v, r), (l, o), t, w) :: fs, m) z) : rx_C G MX7_known d [.ref 4, .ref (13 + 3 * fs.length), .int (nI 24)] (gl C S) 0 0 (fun vv mu => vv = some (.long (lN k)) ∧ mu = gl C S) := by
  refine rx_meth0 (by decide +kernel) rfl (Nat.le_of_ble_eq_true rfl) ?_
  refine rx_iload_n dX7_known_0 rfl ?_
  refine rx_tabIn (tgt := 46) dX7_known_1 (by decide) (by decide) rfl (by decide) ?_
  refine rx_aload_n dX7_known_46 rfl rfl ?_
  refine gcv_getI (v := nI k) hG hf_RX7_254 rfl dX7_known_47 (gkF_m hp) (gkF_f hp) (gkF_k hp) (rc_clr hY) ?_
  refine rx_i2l dX7_known_50 ?_
  refine rx_tl (y := lN k) (nI_l (by omega)) ?_
  exact rx_lret rfl dX7_known_51 ⟨rfl, rfl⟩
theorem cp_known25 {G : rx_E} {d : Nat} {S : gs_T} {K : Nat → Nat × Nat} {C0 C : rx_M} {g : vg_T} {bs od : Nat} {n : Nat → Int64} {e : List (Nat × Int64 × Int64)} {b m c a q s k : Nat} {v r : Int64} {l o : Bool} {t : List Int64} {w : (Nat → Int64) × Nat × Nat} {fs : List vf_T} {z : Int32} (hG : rx_OK G) (hp : fs.length < 10) (hs1 : s < 32) (hk : k < 32) (ho : g.2.2.1 < 32) (hh : g.2.2.2 < 100) (hq : q ≤ 30000) (hY : rc_Y K C0 C g bs od (n, e, b, ((c, a, q, s, k), (v, r), (l, o), t, w) :: fs, m) z) : rx_C G MX7_known d [.ref 4, .ref (13 + 3 * fs.length), .int (nI 25)] (gl C S) 0 0 (fun vv mu => vv = some (.long (lN g.2.2.1)) ∧ mu = gl C S) := by
  refine rx_meth0 (by decide +kernel) rfl (Nat.le_of_ble_eq_true rfl) ?_
  refine rx_iload_n dX7_known_0 rfl ?_
  refine rx_tabIn (tgt := 52) dX7_known_1 (by decide) (by decide) rfl (by decide) ?_
  refine rx_aload_n dX7_known_52 rfl rfl ?_
  refine gcv_getI (v := nI g.2.2.1) hG hf_RX7_57 rfl dX7_known_53 rfl rfl rfl (rc_orig hY) ?_
  refine rx_i2l dX7_known_56 ?_
  refine rx_tl (y := lN g.2.2.1) (nI_l (by omega)) ?_
  exact rx_lret rfl dX7_known_57 ⟨rfl, rfl⟩
theorem cp_known26 {G : rx_E} {d : Nat} {S : gs_T} {K : Nat → Nat × Nat} {C0 C : rx_M} {g : vg_T} {bs od : Nat} {n : Nat → Int64} {e : List (Nat × Int64 × Int64)} {b m c a q s k : Nat} {v r : Int64} {l o : Bool} {t : List Int64} {w : (Nat → Int64) × Nat × Nat} {fs : List vf_T} {z : Int32} (hG : rx_OK G) (hp : fs.length < 10) (hs1 : s < 32) (hk : k < 32) (ho : g.2.2.1 < 32) (hh : g.2.2.2 < 100) (hq : q ≤ 30000) (hY : rc_Y K C0 C g bs od (n, e, b, ((c, a, q, s, k), (v, r), (l, o), t, w) :: fs, m) z) : rx_C G MX7_known d [.ref 4, .ref (13 + 3 * fs.length), .int (nI 26)] (gl C S) 0 0 (fun vv mu => vv = some (.long (v)) ∧ mu = gl C S) := by
  refine rx_meth0 (by decide +kernel) rfl (Nat.le_of_ble_eq_true rfl) ?_
  refine rx_iload_n dX7_known_0 rfl ?_
  refine rx_tabIn (tgt := 58) dX7_known_1 (by decide) (by decide) rfl (by decide) ?_
  refine rx_aload_n dX7_known_58 rfl rfl ?_
  refine gcv_getL (v := v) hG hf_RX7_255 rfl dX7_known_59 (gkF_m hp) (gkF_f hp) (gkF_k hp) (rc_val hY) ?_
  exact rx_lret rfl dX7_known_62 ⟨rfl, rfl⟩
theorem cp_known27 {G : rx_E} {d : Nat} {S : gs_T} {K : Nat → Nat × Nat} {C0 C : rx_M} {g : vg_T} {bs od : Nat} {n : Nat → Int64} {e : List (Nat × Int64 × Int64)} {b m c a q s k : Nat} {v r : Int64} {l o : Bool} {t : List Int64} {w : (Nat → Int64) × Nat × Nat} {fs : List vf_T} {z : Int32} (hG : rx_OK G) (hp : fs.length < 10) (hs1 : s < 32) (hk : k < 32) (ho : g.2.2.1 < 32) (hh : g.2.2.2 < 100) (hq : q ≤ 30000) (hY : rc_Y K C0 C g bs od (n, e, b, ((c, a, q, s, k), (v, r), (l, o), t, w) :: fs, m) z) : rx_C G MX7_known d [.ref 4, .ref (13 + 3 * fs.length), .int (nI 27)] (gl C S) 0 0 (fun vv mu => vv = some (.long (r)) ∧ mu = gl C S) := by
  refine rx_meth0 (by decide +kernel) rfl (Nat.le_of_ble_eq_true rfl) ?_
  refine rx_iload_n dX7_known_0 rfl ?_
  refine rx_tabIn (tgt := 63) dX7_known_1 (by decide) (by decide) rfl (by decide) ?_
  refine rx_aload_n dX7_known_63 rfl rfl ?_
  refine gcv_getL (v := r) hG hf_RX7_256 rfl dX7_known_64 (gkF_m hp) (gkF_f hp) (gkF_k hp) (rc_arg hY) ?_
  exact rx_lret rfl dX7_known_67 ⟨rfl, rfl⟩
theorem cp_known28 {G : rx_E} {d : Nat} {S : gs_T} {K : Nat → Nat × Nat} {C0 C : rx_M} {g : vg_T} {bs od : Nat} {n : Nat → Int64} {e : List (Nat × Int64 × Int64)} {b m c a q s k : Nat} {v r : Int64} {l o : Bool} {t : List Int64} {w : (Nat → Int64) × Nat × Nat} {fs : List vf_T} {z : Int32} (hG : rx_OK G) (hp : fs.length < 10) (hs1 : s < 32) (hk : k < 32) (ho : g.2.2.1 < 32) (hh : g.2.2.2 < 100) (hq : q ≤ 30000) (hY : rc_Y K C0 C g bs od (n, e, b, ((c, a, q, s, k), (v, r), (l, o), t, w) :: fs, m) z) : rx_C G MX7_known d [.ref 4, .ref (13 + 3 * fs.length), .int (nI 28)] (gl C S) 0 0 (fun vv mu => vv = some (.long (lN g.2.2.2)) ∧ mu = gl C S) := by
  refine rx_meth0 (by decide +kernel) rfl (Nat.le_of_ble_eq_true rfl) ?_
  refine rx_iload_n dX7_known_0 rfl ?_
  refine rx_tabIn (tgt := 68) dX7_known_1 (by decide) (by decide) rfl (by decide) ?_
  refine rx_aload_n dX7_known_68 rfl rfl ?_
  refine gcv_getI (v := nI g.2.2.2) hG hf_RX7_53 rfl dX7_known_69 rfl rfl rfl (rc_high hY) ?_
  refine rx_i2l dX7_known_72 ?_
  refine rx_tl (y := lN g.2.2.2) (nI_l (by omega)) ?_
  exact rx_lret rfl dX7_known_73 ⟨rfl, rfl⟩
theorem cp_known29 {G : rx_E} {d : Nat} {S : gs_T} {K : Nat → Nat × Nat} {C0 C : rx_M} {g : vg_T} {bs od : Nat} {n : Nat → Int64} {e : List (Nat × Int64 × Int64)} {b m c a q s k : Nat} {v r : Int64} {l o : Bool} {t : List Int64} {w : (Nat → Int64) × Nat × Nat} {fs : List vf_T} {z : Int32} (hG : rx_OK G) (hp : fs.length < 10) (hs1 : s < 32) (hk : k < 32) (ho : g.2.2.1 < 32) (hh : g.2.2.2 < 100) (hq : q ≤ 30000) (hY : rc_Y K C0 C g bs od (n, e, b, ((c, a, q, s, k), (v, r), (l, o), t, w) :: fs, m) z) : rx_C G MX7_known d [.ref 4, .ref (13 + 3 * fs.length), .int (nI 29)] (gl C S) 0 0 (fun vv mu => vv = some (.long (lN q)) ∧ mu = gl C S) := by
  refine rx_meth0 (by decide +kernel) rfl (Nat.le_of_ble_eq_true rfl) ?_
  refine rx_iload_n dX7_known_0 rfl ?_
  refine rx_tabOut (tgt := 74) dX7_known_1 (by decide) (by decide) ?_
  refine rx_aload_n dX7_known_74 rfl rfl ?_
  refine gcv_getI (v := nI q) hG hf_RX7_191 rfl dX7_known_75 (gkF_m hp) (gkF_f hp) (gkF_k hp) (rc_gas hY) ?_
  refine rx_i2l dX7_known_78 ?_
  refine rx_tl (y := lN q) (nI_l (by omega)) ?_
  exact rx_lret rfl dX7_known_79 ⟨rfl, rfl⟩
theorem cp_tell23 {G : rx_E} {d : Nat} {S : gs_T} {K : Nat → Nat × Nat} {C0 C : rx_M} {g : vg_T} {bs od : Nat} {n : Nat → Int64} {e : List (Nat × Int64 × Int64)} {b m c a q s k : Nat} {v r : Int64} {l o : Bool} {t : List Int64} {w : (Nat → Int64) × Nat × Nat} {fs : List vf_T} {z : Int32} (hG : rx_OK G) (hp : fs.length < 10) (hs1 : s < 32) (hk : k < 32) (ho : g.2.2.1 < 32) (hh : g.2.2.2 < 100) (hq : q ≤ 30000) (ht : t.length < 24) (hY : rc_Y K C0 C g bs od (n, e, b, ((c, a, q, s, k), (v, r), (l, o), t, w) :: fs, m) z) : rx_C G MX7_tell (d + 1) [.ref 4, .ref (13 + 3 * fs.length), .int (nI 23)] (gl C S) 0 0 (rc_out S K C0 g bs od n e b m ((c, a, q, s, k), (v, r), (l, o), t, w) fs (vm_do4 g (n, e, b, ((c, a, q, s, k), (v, r), (l, o), t, w) :: fs, m) 23 ((c, a, q, s, k), (v, r), (l, o), t, w) fs)) := by
  refine rx_meth0 (by decide +kernel) rfl (Nat.le_of_ble_eq_true rfl) ?_
  refine rx_iload_n dX7_tell_0 rfl ?_
  refine rx_bipush (v := nI 30) dX7_tell_1 rfl ?_
  refine rx_icmp_ne (tgt := 38) dX7_tell_3 (by decide) (fun h3 => ?_) (fun h3 => (absurd h3 (by decide))) 
  refine rx_aload_n dX7_tell_38 rfl rfl ?_
  refine rx_aload_n dX7_tell_39 rfl rfl ?_
  refine rx_aload_n dX7_tell_40 rfl rfl ?_
  refine rx_iload_n dX7_tell_41 rfl ?_
  refine gv_invV (as := [.ref _, .int _]) hG okX7_known lk_RX7_250 rfl rfl dX7_tell_42 rfl (by simp [Value.category]) (cp_known23 hG hp hs1 hk ho hh hq hY) ?_
  rintro _ _ ⟨rfl, rfl⟩
  refine gv_invV (as := [.long _]) hG okX6_push lk_RX7_198 (gkF_f hp) (gkF_k hp) dX7_tell_45 rfl (by simp [Value.category]) (cc_push hG hY hp (by (try simp only [List.length_cons, List.length_nil]); omega) _) ?_
  rintro _ _ ⟨rfl, _, rfl, hY1⟩
  refine rx_iconst (v := nI 0) dX7_tell_48 rfl ?_
  exact rx_iret rfl dX7_tell_49 (rc_out0 vd4_23 hY1)
theorem cp_tell24 {G : rx_E} {d : Nat} {S : gs_T} {K : Nat → Nat × Nat} {C0 C : rx_M} {g : vg_T} {bs od : Nat} {n : Nat → Int64} {e : List (Nat × Int64 × Int64)} {b m c a q s k : Nat} {v r : Int64} {l o : Bool} {t : List Int64} {w : (Nat → Int64) × Nat × Nat} {fs : List vf_T} {z : Int32} (hG : rx_OK G) (hp : fs.length < 10) (hs1 : s < 32) (hk : k < 32) (ho : g.2.2.1 < 32) (hh : g.2.2.2 < 100) (hq : q ≤ 30000) (ht : t.length < 24) (hY : rc_Y K C0 C g bs od (n, e, b, ((c, a, q, s, k), (v, r), (l, o), t, w) :: fs, m) z) : rx_C G MX7_tell (d + 1) [.ref 4, .ref (13 + 3 * fs.length), .int (nI 24)] (gl C S) 0 0 (rc_out S K C0 g bs od n e b m ((c, a, q, s, k), (v, r), (l, o), t, w) fs (vm_do4 g (n, e, b, ((c, a, q, s, k), (v, r), (l, o), t, w) :: fs, m) 24 ((c, a, q, s, k), (v, r), (l, o), t, w) fs)) := by
  refine rx_meth0 (by decide +kernel) rfl (Nat.le_of_ble_eq_true rfl) ?_
  refine rx_iload_n dX7_tell_0 rfl ?_
  refine rx_bipush (v := nI 30) dX7_tell_1 rfl ?_
  refine rx_icmp_ne (tgt := 38) dX7_tell_3 (by decide) (fun h3 => ?_) (fun h3 => (absurd h3 (by decide))) 
  refine rx_aload_n dX7_tell_38 rfl rfl ?_
  refine rx_aload_n dX7_tell_39 rfl rfl ?_
  refine rx_aload_n dX7_tell_40 rfl rfl ?_
  refine rx_iload_n dX7_tell_41 rfl ?_
  refine gv_invV (as := [.ref _, .int _]) hG okX7_known lk_RX7_250 rfl rfl dX7_tell_42 rfl (by simp [Value.category]) (cp_known24 hG hp hs1 hk ho hh hq hY) ?_
  rintro _ _ ⟨rfl, rfl⟩
  refine gv_invV (as := [.long _]) hG okX6_push lk_RX7_198 (gkF_f hp) (gkF_k hp) dX7_tell_45 rfl (by simp [Value.category]) (cc_push hG hY hp (by (try simp only [List.length_cons, List.length_nil]); omega) _) ?_
  rintro _ _ ⟨rfl, _, rfl, hY1⟩
  refine rx_iconst (v := nI 0) dX7_tell_48 rfl ?_
  exact rx_iret rfl dX7_tell_49 (rc_out0 vd4_24 hY1)
theorem cp_tell25 {G : rx_E} {d : Nat} {S : gs_T} {K : Nat → Nat × Nat} {C0 C : rx_M} {g : vg_T} {bs od : Nat} {n : Nat → Int64} {e : List (Nat × Int64 × Int64)} {b m c a q s k : Nat} {v r : Int64} {l o : Bool} {t : List Int64} {w : (Nat → Int64) × Nat × Nat} {fs : List vf_T} {z : Int32} (hG : rx_OK G) (hp : fs.length < 10) (hs1 : s < 32) (hk : k < 32) (ho : g.2.2.1 < 32) (hh : g.2.2.2 < 100) (hq : q ≤ 30000) (ht : t.length < 24) (hY : rc_Y K C0 C g bs od (n, e, b, ((c, a, q, s, k), (v, r), (l, o), t, w) :: fs, m) z) : rx_C G MX7_tell (d + 1) [.ref 4, .ref (13 + 3 * fs.length), .int (nI 25)] (gl C S) 0 0 (rc_out S K C0 g bs od n e b m ((c, a, q, s, k), (v, r), (l, o), t, w) fs (vm_do4 g (n, e, b, ((c, a, q, s, k), (v, r), (l, o), t, w) :: fs, m) 25 ((c, a, q, s, k), (v, r), (l, o), t, w) fs)) := by
  refine rx_meth0 (by decide +kernel) rfl (Nat.le_of_ble_eq_true rfl) ?_
  refine rx_iload_n dX7_tell_0 rfl ?_
  refine rx_bipush (v := nI 30) dX7_tell_1 rfl ?_
  refine rx_icmp_ne (tgt := 38) dX7_tell_3 (by decide) (fun h3 => ?_) (fun h3 => (absurd h3 (by decide))) 
  refine rx_aload_n dX7_tell_38 rfl rfl ?_
  refine rx_aload_n dX7_tell_39 rfl rfl ?_
  refine rx_aload_n dX7_tell_40 rfl rfl ?_
  refine rx_iload_n dX7_tell_41 rfl ?_
  refine gv_invV (as := [.ref _, .int _]) hG okX7_known lk_RX7_250 rfl rfl dX7_tell_42 rfl (by simp [Value.category]) (cp_known25 hG hp hs1 hk ho hh hq hY) ?_
  rintro _ _ ⟨rfl, rfl⟩
  refine gv_invV (as := [.long _]) hG okX6_push lk_RX7_198 (gkF_f hp) (gkF_k hp) dX7_tell_45 rfl (by simp [Value.category]) (cc_push hG hY hp (by (try simp only [List.length_cons, List.length_nil]); omega) _) ?_
  rintro _ _ ⟨rfl, _, rfl, hY1⟩
  refine rx_iconst (v := nI 0) dX7_tell_48 rfl ?_
  exact rx_iret rfl dX7_tell_49 (rc_out0 vd4_25 hY1)
theorem cp_tell26 {G : rx_E} {d : Nat} {S : gs_T} {K : Nat → Nat × Nat} {C0 C : rx_M} {g : vg_T} {bs od : Nat} {n : Nat → Int64} {e : List (Nat × Int64 × Int64)} {b m c a q s k : Nat} {v r : Int64} {l o : Bool} {t : List Int64} {w : (Nat → Int64) × Nat × Nat} {fs : List vf_T} {z : Int32} (hG : rx_OK G) (hp : fs.length < 10) (hs1 : s < 32) (hk : k < 32) (ho : g.2.2.1 < 32) (hh : g.2.2.2 < 100) (hq : q ≤ 30000) (ht : t.length < 24) (hY : rc_Y K C0 C g bs od (n, e, b, ((c, a, q, s, k), (v, r), (l, o), t, w) :: fs, m) z) : rx_C G MX7_tell (d + 1) [.ref 4, .ref (13 + 3 * fs.length), .int (nI 26)] (gl C S) 0 0 (rc_out S K C0 g bs od n e b m ((c, a, q, s, k), (v, r), (l, o), t, w) fs (vm_do4 g (n, e, b, ((c, a, q, s, k), (v, r), (l, o), t, w) :: fs, m) 26 ((c, a, q, s, k), (v, r), (l, o), t, w) fs)) := by
  refine rx_meth0 (by decide +kernel) rfl (Nat.le_of_ble_eq_true rfl) ?_
  refine rx_iload_n dX7_tell_0 rfl ?_
  refine rx_bipush (v := nI 30) dX7_tell_1 rfl ?_
  refine rx_icmp_ne (tgt := 38) dX7_tell_3 (by decide) (fun h3 => ?_) (fun h3 => (absurd h3 (by decide))) 
  refine rx_aload_n dX7_tell_38 rfl rfl ?_
  refine rx_aload_n dX7_tell_39 rfl rfl ?_
  refine rx_aload_n dX7_tell_40 rfl rfl ?_
  refine rx_iload_n dX7_tell_41 rfl ?_
  refine gv_invV (as := [.ref _, .int _]) hG okX7_known lk_RX7_250 rfl rfl dX7_tell_42 rfl (by simp [Value.category]) (cp_known26 hG hp hs1 hk ho hh hq hY) ?_
  rintro _ _ ⟨rfl, rfl⟩
  refine gv_invV (as := [.long _]) hG okX6_push lk_RX7_198 (gkF_f hp) (gkF_k hp) dX7_tell_45 rfl (by simp [Value.category]) (cc_push hG hY hp (by (try simp only [List.length_cons, List.length_nil]); omega) _) ?_
  rintro _ _ ⟨rfl, _, rfl, hY1⟩
  refine rx_iconst (v := nI 0) dX7_tell_48 rfl ?_
  exact rx_iret rfl dX7_tell_49 (rc_out0 vd4_26 hY1)
theorem cp_tell27 {G : rx_E} {d : Nat} {S : gs_T} {K : Nat → Nat × Nat} {C0 C : rx_M} {g : vg_T} {bs od : Nat} {n : Nat → Int64} {e : List (Nat × Int64 × Int64)} {b m c a q s k : Nat} {v r : Int64} {l o : Bool} {t : List Int64} {w : (Nat → Int64) × Nat × Nat} {fs : List vf_T} {z : Int32} (hG : rx_OK G) (hp : fs.length < 10) (hs1 : s < 32) (hk : k < 32) (ho : g.2.2.1 < 32) (hh : g.2.2.2 < 100) (hq : q ≤ 30000) (ht : t.length < 24) (hY : rc_Y K C0 C g bs od (n, e, b, ((c, a, q, s, k), (v, r), (l, o), t, w) :: fs, m) z) : rx_C G MX7_tell (d + 1) [.ref 4, .ref (13 + 3 * fs.length), .int (nI 27)] (gl C S) 0 0 (rc_out S K C0 g bs od n e b m ((c, a, q, s, k), (v, r), (l, o), t, w) fs (vm_do4 g (n, e, b, ((c, a, q, s, k), (v, r), (l, o), t, w) :: fs, m) 27 ((c, a, q, s, k), (v, r), (l, o), t, w) fs)) := by
  refine rx_meth0 (by decide +kernel) rfl (Nat.le_of_ble_eq_true rfl) ?_
  refine rx_iload_n dX7_tell_0 rfl ?_
  refine rx_bipush (v := nI 30) dX7_tell_1 rfl ?_
  refine rx_icmp_ne (tgt := 38) dX7_tell_3 (by decide) (fun h3 => ?_) (fun h3 => (absurd h3 (by decide))) 
  refine rx_aload_n dX7_tell_38 rfl rfl ?_
  refine rx_aload_n dX7_tell_39 rfl rfl ?_
  refine rx_aload_n dX7_tell_40 rfl rfl ?_
  refine rx_iload_n dX7_tell_41 rfl ?_
  refine gv_invV (as := [.ref _, .int _]) hG okX7_known lk_RX7_250 rfl rfl dX7_tell_42 rfl (by simp [Value.category]) (cp_known27 hG hp hs1 hk ho hh hq hY) ?_
  rintro _ _ ⟨rfl, rfl⟩
  refine gv_invV (as := [.long _]) hG okX6_push lk_RX7_198 (gkF_f hp) (gkF_k hp) dX7_tell_45 rfl (by simp [Value.category]) (cc_push hG hY hp (by (try simp only [List.length_cons, List.length_nil]); omega) _) ?_
  rintro _ _ ⟨rfl, _, rfl, hY1⟩
  refine rx_iconst (v := nI 0) dX7_tell_48 rfl ?_
  exact rx_iret rfl dX7_tell_49 (rc_out0 vd4_27 hY1)
theorem cp_tell28 {G : rx_E} {d : Nat} {S : gs_T} {K : Nat → Nat × Nat} {C0 C : rx_M} {g : vg_T} {bs od : Nat} {n : Nat → Int64} {e : List (Nat × Int64 × Int64)} {b m c a q s k : Nat} {v r : Int64} {l o : Bool} {t : List Int64} {w : (Nat → Int64) × Nat × Nat} {fs : List vf_T} {z : Int32} (hG : rx_OK G) (hp : fs.length < 10) (hs1 : s < 32) (hk : k < 32) (ho : g.2.2.1 < 32) (hh : g.2.2.2 < 100) (hq : q ≤ 30000) (ht : t.length < 24) (hY : rc_Y K C0 C g bs od (n, e, b, ((c, a, q, s, k), (v, r), (l, o), t, w) :: fs, m) z) : rx_C G MX7_tell (d + 1) [.ref 4, .ref (13 + 3 * fs.length), .int (nI 28)] (gl C S) 0 0 (rc_out S K C0 g bs od n e b m ((c, a, q, s, k), (v, r), (l, o), t, w) fs (vm_do4 g (n, e, b, ((c, a, q, s, k), (v, r), (l, o), t, w) :: fs, m) 28 ((c, a, q, s, k), (v, r), (l, o), t, w) fs)) := by
  refine rx_meth0 (by decide +kernel) rfl (Nat.le_of_ble_eq_true rfl) ?_
  refine rx_iload_n dX7_tell_0 rfl ?_
  refine rx_bipush (v := nI 30) dX7_tell_1 rfl ?_
  refine rx_icmp_ne (tgt := 38) dX7_tell_3 (by decide) (fun h3 => ?_) (fun h3 => (absurd h3 (by decide))) 
  refine rx_aload_n dX7_tell_38 rfl rfl ?_
  refine rx_aload_n dX7_tell_39 rfl rfl ?_
  refine rx_aload_n dX7_tell_40 rfl rfl ?_
  refine rx_iload_n dX7_tell_41 rfl ?_
  refine gv_invV (as := [.ref _, .int _]) hG okX7_known lk_RX7_250 rfl rfl dX7_tell_42 rfl (by simp [Value.category]) (cp_known28 hG hp hs1 hk ho hh hq hY) ?_
  rintro _ _ ⟨rfl, rfl⟩
  refine gv_invV (as := [.long _]) hG okX6_push lk_RX7_198 (gkF_f hp) (gkF_k hp) dX7_tell_45 rfl (by simp [Value.category]) (cc_push hG hY hp (by (try simp only [List.length_cons, List.length_nil]); omega) _) ?_
  rintro _ _ ⟨rfl, _, rfl, hY1⟩
  refine rx_iconst (v := nI 0) dX7_tell_48 rfl ?_
  exact rx_iret rfl dX7_tell_49 (rc_out0 vd4_28 hY1)
theorem cp_tell29 {G : rx_E} {d : Nat} {S : gs_T} {K : Nat → Nat × Nat} {C0 C : rx_M} {g : vg_T} {bs od : Nat} {n : Nat → Int64} {e : List (Nat × Int64 × Int64)} {b m c a q s k : Nat} {v r : Int64} {l o : Bool} {t : List Int64} {w : (Nat → Int64) × Nat × Nat} {fs : List vf_T} {z : Int32} (hG : rx_OK G) (hp : fs.length < 10) (hs1 : s < 32) (hk : k < 32) (ho : g.2.2.1 < 32) (hh : g.2.2.2 < 100) (hq : q ≤ 30000) (ht : t.length < 24) (hY : rc_Y K C0 C g bs od (n, e, b, ((c, a, q, s, k), (v, r), (l, o), t, w) :: fs, m) z) : rx_C G MX7_tell (d + 1) [.ref 4, .ref (13 + 3 * fs.length), .int (nI 29)] (gl C S) 0 0 (rc_out S K C0 g bs od n e b m ((c, a, q, s, k), (v, r), (l, o), t, w) fs (vm_do4 g (n, e, b, ((c, a, q, s, k), (v, r), (l, o), t, w) :: fs, m) 29 ((c, a, q, s, k), (v, r), (l, o), t, w) fs)) := by
  refine rx_meth0 (by decide +kernel) rfl (Nat.le_of_ble_eq_true rfl) ?_
  refine rx_iload_n dX7_tell_0 rfl ?_
  refine rx_bipush (v := nI 30) dX7_tell_1 rfl ?_
  refine rx_icmp_ne (tgt := 38) dX7_tell_3 (by decide) (fun h3 => ?_) (fun h3 => (absurd h3 (by decide))) 
  refine rx_aload_n dX7_tell_38 rfl rfl ?_
  refine rx_aload_n dX7_tell_39 rfl rfl ?_
  refine rx_aload_n dX7_tell_40 rfl rfl ?_
  refine rx_iload_n dX7_tell_41 rfl ?_
  refine gv_invV (as := [.ref _, .int _]) hG okX7_known lk_RX7_250 rfl rfl dX7_tell_42 rfl (by simp [Value.category]) (cp_known29 hG hp hs1 hk ho hh hq hY) ?_
  rintro _ _ ⟨rfl, rfl⟩
  refine gv_invV (as := [.long _]) hG okX6_push lk_RX7_198 (gkF_f hp) (gkF_k hp) dX7_tell_45 rfl (by simp [Value.category]) (cc_push hG hY hp (by (try simp only [List.length_cons, List.length_nil]); omega) _) ?_
  rintro _ _ ⟨rfl, _, rfl, hY1⟩
  refine rx_iconst (v := nI 0) dX7_tell_48 rfl ?_
  exact rx_iret rfl dX7_tell_49 (rc_out0 vd4_29 hY1)
theorem cp_tell30 {G : rx_E} {d : Nat} {S : gs_T} {K : Nat → Nat × Nat} {C0 C : rx_M} {g : vg_T} {bs od : Nat} {n : Nat → Int64} {e : List (Nat × Int64 × Int64)} {b m c a q s k : Nat} {v r : Int64} {l o : Bool} {t : List Int64} {w : (Nat → Int64) × Nat × Nat} {fs : List vf_T} {z : Int32} (hG : rx_OK G) {y : Int64} (hp : fs.length < 10) (ht : t.length < 24) (hY : rc_Y K C0 C g bs od (n, e, b, ((c, a, q, s, k), (v, r), (l, o), (y :: t), w) :: fs, m) z) : rx_C G MX7_tell (d + 2) [.ref 4, .ref (13 + 3 * fs.length), .int (nI 30)] (gl C S) 0 0 (rc_out S K C0 g bs od n e b m ((c, a, q, s, k), (v, r), (l, o), (y :: t), w) fs (vm_do4 g (n, e, b, ((c, a, q, s, k), (v, r), (l, o), (y :: t), w) :: fs, m) 30 ((c, a, q, s, k), (v, r), (l, o), (y :: t), w) fs)) := by
  refine rx_meth0 (by decide +kernel) rfl (Nat.le_of_ble_eq_true rfl) ?_
  by_cases hac : vm_acct y
  · obtain ⟨j, hj, rfl⟩ := lN_acct hac
    refine rx_iload_n dX7_tell_0 rfl ?_
    refine rx_bipush (v := nI 30) dX7_tell_1 rfl ?_
    refine rx_icmp_ne (tgt := 38) dX7_tell_3 (by decide) (fun h3 => (absurd h3 (by decide))) (fun h3 => ?_)
    refine rx_aload_n dX7_tell_6 rfl rfl ?_
    refine gv_invV (as := []) hG okX6_pop lk_RX7_209 (gkF_f hp) (gkF_k hp) dX7_tell_7 rfl (by simp [Value.category]) (cc_pop hG hY hp) ?_
    rintro _ _ ⟨rfl, _, rfl, hY1⟩
    refine rx_lstore_n dX7_tell_10 (by decide) ?_
    refine rx_aload_n dX7_tell_11 rfl rfl ?_
    refine rx_lload_n dX7_tell_12 rfl ?_
    refine rx_invS0 (as := [.long _]) hG okX10_isAccount lk_RX7_151 dX7_tell_13 rfl (by simp [Value.category]) (cc_isAccount hG) ?_
    rintro _ _ ⟨⟨r, hr, rfl⟩, rfl⟩
    rcases hr with ⟨rfl, hr⟩ | ⟨rfl, hr⟩
    rotate_left
    · exact absurd hac hr
    refine rx_if_eq (tgt := 31) dX7_tell_16 (by decide) (fun h16 => (absurd h16 (by decide))) (fun h16 => ?_)
    refine rx_aload_n dX7_tell_19 rfl rfl ?_
    refine g_getR hG hf_RX7_21 rfl dX7_tell_20 rfl rfl rfl ?_
    refine rx_lload_n dX7_tell_23 rfl ?_
    refine rx_l2i dX7_tell_24 ?_
    refine rx_ti (y := nI j) (lN_i _) ?_
    refine gv_invV (as := [.int _]) hG okX9_balanceOf lk_RX7_154 rfl rfl dX7_tell_25 rfl (by simp [Value.category]) (cs_balanceOf hG hY1 hj) ?_
    rintro _ _ ⟨rfl, _, rfl, hY2⟩
    refine rx_goto (tgt := 32) dX7_tell_28 (by decide) ?_
    refine gv_invV (as := [.long _]) hG okX6_push lk_RX7_198 (gkF_f hp) (gkF_k hp) dX7_tell_32 rfl (by simp [Value.category]) (cc_push hG hY2 hp (by (try simp only [List.length_cons, List.length_nil]); omega) _) ?_
    rintro _ _ ⟨rfl, _, rfl, hY3⟩
    refine rx_goto (tgt := 48) dX7_tell_35 (by decide) ?_
    refine rx_iconst (v := nI 0) dX7_tell_48 rfl ?_
    exact rx_iret rfl dX7_tell_49 (rc_out0 (vd4_30a hj) hY3)
  · skip
    refine rx_iload_n dX7_tell_0 rfl ?_
    refine rx_bipush (v := nI 30) dX7_tell_1 rfl ?_
    refine rx_icmp_ne (tgt := 38) dX7_tell_3 (by decide) (fun h3 => (absurd h3 (by decide))) (fun h3 => ?_)
    refine rx_aload_n dX7_tell_6 rfl rfl ?_
    refine gv_invV (as := []) hG okX6_pop lk_RX7_209 (gkF_f hp) (gkF_k hp) dX7_tell_7 rfl (by simp [Value.category]) (cc_pop hG hY hp) ?_
    rintro _ _ ⟨rfl, _, rfl, hY1⟩
    refine rx_lstore_n dX7_tell_10 (by decide) ?_
    refine rx_aload_n dX7_tell_11 rfl rfl ?_
    refine rx_lload_n dX7_tell_12 rfl ?_
    refine rx_invS0 (as := [.long _]) hG okX10_isAccount lk_RX7_151 dX7_tell_13 rfl (by simp [Value.category]) (cc_isAccount hG) ?_
    rintro _ _ ⟨⟨r, hr, rfl⟩, rfl⟩
    rcases hr with ⟨rfl, hr⟩ | ⟨rfl, hr⟩
    · exact absurd hr hac
    refine rx_if_eq (tgt := 31) dX7_tell_16 (by decide) (fun h16 => ?_) (fun h16 => (absurd h16 (by decide))) 
    refine rx_lconst (v := 0) dX7_tell_31 rfl ?_
    refine gv_invV (as := [.long _]) hG okX6_push lk_RX7_198 (gkF_f hp) (gkF_k hp) dX7_tell_32 rfl (by simp [Value.category]) (cc_push hG hY1 hp (by (try simp only [List.length_cons, List.length_nil]); omega) _) ?_
    rintro _ _ ⟨rfl, _, rfl, hY2⟩
    refine rx_goto (tgt := 48) dX7_tell_35 (by decide) ?_
    refine rx_iconst (v := nI 0) dX7_tell_48 rfl ?_
    exact rx_iret rfl dX7_tell_49 (rc_out0 (vd4_30b hac) hY2)
theorem wi_15 {j : Nat} (hj : j < 16) : ¬ lN j < 0 ∧ lN j < (nI 16).toInt64 := by
  rw [show (0 : Int64) = lN 0 from rfl, show (nI 16).toInt64 = lN 16 from rfl, lN_lt (by omega) (by omega), lN_lt (by omega) (by omega)]; omega
theorem wi_15n {y : Int64} (h : y < 0 ∨ 15 < y) : ¬ (¬ y < 0 ∧ y < (nI 16).toInt64) := by
  rintro ⟨h1, h2⟩
  rcases h with h | h
  · exact h1 h
  · rw [show (nI 16).toInt64 = 16 from rfl] at h2
    rw [Int64.lt_iff_toInt_lt] at h h2
    have e1 : (15 : Int64).toInt = 15 := by decide
    have e2 : (16 : Int64).toInt = 16 := by decide
    omega
theorem cp_load {G : rx_E} {d : Nat} {S : gs_T} {K : Nat → Nat × Nat} {C0 C : rx_M} {g : vg_T} {bs od : Nat} {n : Nat → Int64} {e : List (Nat × Int64 × Int64)} {b m c a q s k : Nat} {v r : Int64} {l o : Bool} {t : List Int64} {w : (Nat → Int64) × Nat × Nat} {fs : List vf_T} {z : Int32} (hG : rx_OK G) {y : Int64} {mo : Nat} (hp : fs.length < 10) (hs1 : s < 32) (ht : t.length < 24) (hY : rc_Y K C0 C g bs od (n, e, b, ((c, a, q, s, k), (v, r), (l, o), (y :: t), w) :: fs, m) z) : rx_C G MX7_loadCell (d + 1) [.ref 4, .ref (13 + 3 * fs.length)] (gl C S) 0 0 (rc_out S K C0 g bs od n e b m ((c, a, q, s, k), (v, r), (l, o), (y :: t), w) fs (vm_do3 (n, e, b, ((c, a, q, s, k), (v, r), (l, o), (y :: t), w) :: fs, m) 21 mo ((c, a, q, s, k), (v, r), (l, o), (y :: t), w) fs)) := by
  refine rx_meth0 (by decide +kernel) rfl (Nat.le_of_ble_eq_true rfl) ?_
  by_cases hwi : ¬ (y < 0 ∨ 15 < y)
  · obtain ⟨j, hj, rfl⟩ := lN_15 (fun h => hwi (Or.inl h)) (fun h => hwi (Or.inr h))
    refine rx_aload_n dX7_loadCell_0 rfl rfl ?_
    refine gv_invV (as := []) hG okX6_pop lk_RX7_209 (gkF_f hp) (gkF_k hp) dX7_loadCell_1 rfl (by simp [Value.category]) (cc_pop hG hY hp) ?_
    rintro _ _ ⟨rfl, _, rfl, hY1⟩
    refine rx_lstore_n dX7_loadCell_4 (by decide) ?_
    refine rx_lload_n dX7_loadCell_5 rfl ?_
    refine rx_bipush (v := nI 16) dX7_loadCell_6 rfl ?_
    refine rx_invS0 (as := [.long _, .int _]) hG okX10_isWithin lk_RX7_259 dX7_loadCell_8 rfl (by simp [Value.category]) (cc_within hG) ?_
    rintro _ _ ⟨⟨r, hr, rfl⟩, rfl⟩
    rcases hr with ⟨rfl, hr⟩ | ⟨rfl, hr⟩
    rotate_left
    · exact absurd (wi_15 hj) hr
    refine rx_if_ne (tgt := 16) dX7_loadCell_11 (by decide) (fun h11 => ?_) (fun h11 => (absurd h11 (by decide))) 
    refine rx_aload_n dX7_loadCell_16 rfl rfl ?_
    refine rx_aload_n dX7_loadCell_17 rfl rfl ?_
    refine g_getR hG hf_RX7_21 rfl dX7_loadCell_18 rfl rfl rfl ?_
    refine rx_aload_n dX7_loadCell_21 rfl rfl ?_
    refine gcv_getI (v := nI s) hG hf_RX7_160 rfl dX7_loadCell_22 (gkF_m hp) (gkF_f hp) (gkF_k hp) (rc_self hY1) ?_
    refine rx_lload_n dX7_loadCell_25 rfl ?_
    refine rx_l2i dX7_loadCell_26 ?_
    refine rx_ti (y := nI j) (lN_i _) ?_
    refine gv_invV (as := [.int _, .int _]) hG okX9_cellOf lk_RX7_263 rfl rfl dX7_loadCell_27 rfl (by simp [Value.category]) (cs_cellOf hG hY1 hs1 hj) ?_
    rintro _ _ ⟨rfl, _, rfl, hY2⟩
    refine gv_invV (as := [.long _]) hG okX6_push lk_RX7_198 (gkF_f hp) (gkF_k hp) dX7_loadCell_30 rfl (by simp [Value.category]) (cc_push hG hY2 hp (by (try simp only [List.length_cons, List.length_nil]); omega) _) ?_
    rintro _ _ ⟨rfl, _, rfl, hY3⟩
    refine rx_iconst (v := nI 0) dX7_loadCell_33 rfl ?_
    exact rx_iret rfl dX7_loadCell_34 (rc_out0 (vd3_21 hj) hY3)
  · skip
    refine rx_aload_n dX7_loadCell_0 rfl rfl ?_
    refine gv_invV (as := []) hG okX6_pop lk_RX7_209 (gkF_f hp) (gkF_k hp) dX7_loadCell_1 rfl (by simp [Value.category]) (cc_pop hG hY hp) ?_
    rintro _ _ ⟨rfl, _, rfl, hY1⟩
    refine rx_lstore_n dX7_loadCell_4 (by decide) ?_
    refine rx_lload_n dX7_loadCell_5 rfl ?_
    refine rx_bipush (v := nI 16) dX7_loadCell_6 rfl ?_
    refine rx_invS0 (as := [.long _, .int _]) hG okX10_isWithin lk_RX7_259 dX7_loadCell_8 rfl (by simp [Value.category]) (cc_within hG) ?_
    rintro _ _ ⟨⟨r, hr, rfl⟩, rfl⟩
    rcases hr with ⟨rfl, hr⟩ | ⟨rfl, hr⟩
    · exact absurd hr (wi_15n (Classical.not_not.mp hwi))
    refine rx_if_ne (tgt := 16) dX7_loadCell_11 (by decide) (fun h11 => (absurd h11 (by decide))) (fun h11 => ?_)
    refine rx_iconst (v := nI 3) dX7_loadCell_14 rfl ?_
    exact rx_iret rfl dX7_loadCell_15 (rc_out3 (vd3_21b (Classical.not_not.mp hwi)) (fun _ => rfl) (Nat.le_refl _) hY1)
theorem cp_store {G : rx_E} {d : Nat} {S : gs_T} {K : Nat → Nat × Nat} {C0 C : rx_M} {g : vg_T} {bs od : Nat} {n : Nat → Int64} {e : List (Nat × Int64 × Int64)} {b m c a q s k : Nat} {v r : Int64} {l o : Bool} {t : List Int64} {w : (Nat → Int64) × Nat × Nat} {fs : List vf_T} {z : Int32} (hG : rx_OK G) {x y : Int64} {mo : Nat} {t0 t2 : List Int64} (hp : fs.length < 10) (hs1 : s < 32) (hq : q ≤ 30000) (hb : b ≤ 30001) (hY : rc_Y K C0 C g bs od (n, e, b, ((c, a, q, s, k), (v, r), (l, o), t, w) :: fs, m) z) : rx_C G MX7_storeCell (d + 1) [.ref 4, .ref (13 + 3 * fs.length), .long x, .long y] (gl C S) 0 0 (rc_out S K C0 g bs od n e b m ((c, a, q, s, k), (v, r), (l, o), t0, w) fs (vm_do3 (n, e, b, ((c, a, q, s, k), (v, r), (l, o), t2, w) :: fs, m) 22 mo ((c, a, q, s, k), (v, r), (l, o), (x :: (y :: t)), w) fs)) := by
  refine rx_meth0 (by decide +kernel) rfl (Nat.le_of_ble_eq_true rfl) ?_
  by_cases hwi : ¬ (y < 0 ∨ 15 < y)
  · obtain ⟨j, hj, rfl⟩ := lN_15 (fun h => hwi (Or.inl h)) (fun h => hwi (Or.inr h))
    refine rx_lload dX7_storeCell_0 rfl ?_
    refine rx_bipush (v := nI 16) dX7_storeCell_2 rfl ?_
    refine rx_invS0 (as := [.long _, .int _]) hG okX10_isWithin lk_RX7_259 dX7_storeCell_4 rfl (by simp [Value.category]) (cc_within hG) ?_
    rintro _ _ ⟨⟨r, hr, rfl⟩, rfl⟩
    rcases hr with ⟨rfl, hr⟩ | ⟨rfl, hr⟩
    rotate_left
    · exact absurd (wi_15 hj) hr
    refine rx_if_ne (tgt := 12) dX7_storeCell_7 (by decide) (fun h7 => ?_) (fun h7 => (absurd h7 (by decide))) 
    refine rx_aload_n dX7_storeCell_12 rfl rfl ?_
    refine g_getR hG hf_RX7_21 rfl dX7_storeCell_13 rfl rfl rfl ?_
    refine rx_aload_n dX7_storeCell_16 rfl rfl ?_
    refine gcv_getI (v := nI s) hG hf_RX7_160 rfl dX7_storeCell_17 (gkF_m hp) (gkF_f hp) (gkF_k hp) (rc_self hY) ?_
    refine rx_lload dX7_storeCell_20 rfl ?_
    refine rx_l2i dX7_storeCell_22 ?_
    refine rx_ti (y := nI j) (lN_i _) ?_
    refine gv_invV (as := [.int _, .int _]) hG okX9_cellOf lk_RX7_263 rfl rfl dX7_storeCell_23 rfl (by simp [Value.category]) (cs_cellOf hG hY hs1 hj) ?_
    rintro _ _ ⟨rfl, _, rfl, hY1⟩
    refine rx_lstore dX7_storeCell_26 (by decide) ?_
    refine rx_lload dX7_storeCell_28 rfl ?_
    refine rx_lconst (v := 0) dX7_storeCell_30 rfl ?_
    refine rx_lc_ne (tgt := 52) dX7_storeCell_31 dX7_storeCell_32 (by decide) (fun h31 => ?_) (fun h31 => ?_)
    · refine rx_lload dX7_storeCell_52 rfl ?_
      refine rx_lconst (v := 0) dX7_storeCell_54 rfl ?_
      refine rx_lc_eq (tgt := 76) dX7_storeCell_55 dX7_storeCell_56 (by decide) (fun h55 => ?_) (fun h55 => ?_)
      · refine rx_aload_n dX7_storeCell_76 rfl rfl ?_
        refine g_getR hG hf_RX7_21 rfl dX7_storeCell_77 rfl rfl rfl ?_
        refine rx_aload_n dX7_storeCell_80 rfl rfl ?_
        refine gcv_getI (v := nI s) hG hf_RX7_160 rfl dX7_storeCell_81 (gkF_m hp) (gkF_f hp) (gkF_k hp) (rc_self hY1) ?_
        refine rx_lload dX7_storeCell_84 rfl ?_
        refine rx_l2i dX7_storeCell_86 ?_
        refine rx_ti (y := nI j) (lN_i _) ?_
        refine rx_lload_n dX7_storeCell_87 rfl ?_
        refine gv_invV (as := [.int _, .int _, .long _]) hG okX9_setCell lk_RX7_267 rfl rfl dX7_storeCell_88 rfl (by simp [Value.category]) (cs_setCell hG hY1 hs1 hj) ?_
        rintro _ _ ⟨rfl, _, rfl, hY2⟩
        refine rx_iconst (v := nI 0) dX7_storeCell_91 rfl ?_
        exact rx_iret rfl dX7_storeCell_92 (rc_out0 (vd3_22c (bk := 0) hj (by simp_all) (by simp_all)) hY2)
      · refine rx_lload_n dX7_storeCell_59 rfl ?_
        refine rx_lconst (v := 0) dX7_storeCell_60 rfl ?_
        refine rx_lc_ne (tgt := 76) dX7_storeCell_61 dX7_storeCell_62 (by decide) (fun h61 => ?_) (fun h61 => ?_)
        · refine rx_aload_n dX7_storeCell_76 rfl rfl ?_
          refine g_getR hG hf_RX7_21 rfl dX7_storeCell_77 rfl rfl rfl ?_
          refine rx_aload_n dX7_storeCell_80 rfl rfl ?_
          refine gcv_getI (v := nI s) hG hf_RX7_160 rfl dX7_storeCell_81 (gkF_m hp) (gkF_f hp) (gkF_k hp) (rc_self hY1) ?_
          refine rx_lload dX7_storeCell_84 rfl ?_
          refine rx_l2i dX7_storeCell_86 ?_
          refine rx_ti (y := nI j) (lN_i _) ?_
          refine rx_lload_n dX7_storeCell_87 rfl ?_
          refine gv_invV (as := [.int _, .int _, .long _]) hG okX9_setCell lk_RX7_267 rfl rfl dX7_storeCell_88 rfl (by simp [Value.category]) (cs_setCell hG hY1 hs1 hj) ?_
          rintro _ _ ⟨rfl, _, rfl, hY2⟩
          refine rx_iconst (v := nI 0) dX7_storeCell_91 rfl ?_
          exact rx_iret rfl dX7_storeCell_92 (rc_out0 (vd3_22c (bk := 0) hj (by simp_all) (by simp_all)) hY2)
        · refine rx_aload_n dX7_storeCell_65 rfl rfl ?_
          refine rx_dup dX7_storeCell_66 rfl ?_
          refine gcv_getI (v := nI b) hG hf_RX7_63 rfl dX7_storeCell_67 rfl rfl rfl (rc_back hY1) ?_
          refine rx_bipush (v := nI 15) dX7_storeCell_70 rfl ?_
          refine rx_iadd dX7_storeCell_72 ?_
          refine rx_ti (y := nI (b + 15)) ((nI_add _ _).trans (congrArg nI (by omega))) ?_
          refine gc_putI hG hf_RX7_63 (gw_nf rfl rfl) rfl dX7_storeCell_73 rfl rfl rfl rfl rfl ?_
          refine rcY_ab (rcY_setBack hY1 (b + 15)) (fun _ hY2 => ?_)
          refine rx_aload_n dX7_storeCell_76 rfl rfl ?_
          refine g_getR hG hf_RX7_21 rfl dX7_storeCell_77 rfl rfl rfl ?_
          refine rx_aload_n dX7_storeCell_80 rfl rfl ?_
          refine gcv_getI (v := nI s) hG hf_RX7_160 rfl dX7_storeCell_81 (gkF_m hp) (gkF_f hp) (gkF_k hp) (rc_self hY2) ?_
          refine rx_lload dX7_storeCell_84 rfl ?_
          refine rx_l2i dX7_storeCell_86 ?_
          refine rx_ti (y := nI j) (lN_i _) ?_
          refine rx_lload_n dX7_storeCell_87 rfl ?_
          refine gv_invV (as := [.int _, .int _, .long _]) hG okX9_setCell lk_RX7_267 rfl rfl dX7_storeCell_88 rfl (by simp [Value.category]) (cs_setCell hG hY2 hs1 hj) ?_
          rintro _ _ ⟨rfl, _, rfl, hY3⟩
          refine rx_iconst (v := nI 0) dX7_storeCell_91 rfl ?_
          exact rx_iret rfl dX7_storeCell_92 (rc_out0 (vd3_22c (bk := 15) hj (by simp_all) (by simp_all)) hY3)
    · refine rx_lload_n dX7_storeCell_35 rfl ?_
      refine rx_lconst (v := 0) dX7_storeCell_36 rfl ?_
      refine rx_lc_eq (tgt := 52) dX7_storeCell_37 dX7_storeCell_38 (by decide) (fun h37 => ?_) (fun h37 => ?_)
      · refine rx_lload dX7_storeCell_52 rfl ?_
        refine rx_lconst (v := 0) dX7_storeCell_54 rfl ?_
        refine rx_lc_eq (tgt := 76) dX7_storeCell_55 dX7_storeCell_56 (by decide) (fun h55 => ?_) (fun h55 => ?_)
        · refine rx_aload_n dX7_storeCell_76 rfl rfl ?_
          refine g_getR hG hf_RX7_21 rfl dX7_storeCell_77 rfl rfl rfl ?_
          refine rx_aload_n dX7_storeCell_80 rfl rfl ?_
          refine gcv_getI (v := nI s) hG hf_RX7_160 rfl dX7_storeCell_81 (gkF_m hp) (gkF_f hp) (gkF_k hp) (rc_self hY1) ?_
          refine rx_lload dX7_storeCell_84 rfl ?_
          refine rx_l2i dX7_storeCell_86 ?_
          refine rx_ti (y := nI j) (lN_i _) ?_
          refine rx_lload_n dX7_storeCell_87 rfl ?_
          refine gv_invV (as := [.int _, .int _, .long _]) hG okX9_setCell lk_RX7_267 rfl rfl dX7_storeCell_88 rfl (by simp [Value.category]) (cs_setCell hG hY1 hs1 hj) ?_
          rintro _ _ ⟨rfl, _, rfl, hY2⟩
          refine rx_iconst (v := nI 0) dX7_storeCell_91 rfl ?_
          exact rx_iret rfl dX7_storeCell_92 (rc_out0 (vd3_22c (bk := 0) hj (by simp_all) (by simp_all)) hY2)
        · refine rx_lload_n dX7_storeCell_59 rfl ?_
          refine rx_lconst (v := 0) dX7_storeCell_60 rfl ?_
          refine rx_lc_ne (tgt := 76) dX7_storeCell_61 dX7_storeCell_62 (by decide) (fun h61 => ?_) (fun h61 => ?_)
          · refine rx_aload_n dX7_storeCell_76 rfl rfl ?_
            refine g_getR hG hf_RX7_21 rfl dX7_storeCell_77 rfl rfl rfl ?_
            refine rx_aload_n dX7_storeCell_80 rfl rfl ?_
            refine gcv_getI (v := nI s) hG hf_RX7_160 rfl dX7_storeCell_81 (gkF_m hp) (gkF_f hp) (gkF_k hp) (rc_self hY1) ?_
            refine rx_lload dX7_storeCell_84 rfl ?_
            refine rx_l2i dX7_storeCell_86 ?_
            refine rx_ti (y := nI j) (lN_i _) ?_
            refine rx_lload_n dX7_storeCell_87 rfl ?_
            refine gv_invV (as := [.int _, .int _, .long _]) hG okX9_setCell lk_RX7_267 rfl rfl dX7_storeCell_88 rfl (by simp [Value.category]) (cs_setCell hG hY1 hs1 hj) ?_
            rintro _ _ ⟨rfl, _, rfl, hY2⟩
            refine rx_iconst (v := nI 0) dX7_storeCell_91 rfl ?_
            exact rx_iret rfl dX7_storeCell_92 (rc_out0 (vd3_22c (bk := 0) hj (by simp_all) (by simp_all)) hY2)
          · refine rx_aload_n dX7_storeCell_65 rfl rfl ?_
            refine rx_dup dX7_storeCell_66 rfl ?_
            refine gcv_getI (v := nI b) hG hf_RX7_63 rfl dX7_storeCell_67 rfl rfl rfl (rc_back hY1) ?_
            refine rx_bipush (v := nI 15) dX7_storeCell_70 rfl ?_
            refine rx_iadd dX7_storeCell_72 ?_
            refine rx_ti (y := nI (b + 15)) ((nI_add _ _).trans (congrArg nI (by omega))) ?_
            refine gc_putI hG hf_RX7_63 (gw_nf rfl rfl) rfl dX7_storeCell_73 rfl rfl rfl rfl rfl ?_
            refine rcY_ab (rcY_setBack hY1 (b + 15)) (fun _ hY2 => ?_)
            refine rx_aload_n dX7_storeCell_76 rfl rfl ?_
            refine g_getR hG hf_RX7_21 rfl dX7_storeCell_77 rfl rfl rfl ?_
            refine rx_aload_n dX7_storeCell_80 rfl rfl ?_
            refine gcv_getI (v := nI s) hG hf_RX7_160 rfl dX7_storeCell_81 (gkF_m hp) (gkF_f hp) (gkF_k hp) (rc_self hY2) ?_
            refine rx_lload dX7_storeCell_84 rfl ?_
            refine rx_l2i dX7_storeCell_86 ?_
            refine rx_ti (y := nI j) (lN_i _) ?_
            refine rx_lload_n dX7_storeCell_87 rfl ?_
            refine gv_invV (as := [.int _, .int _, .long _]) hG okX9_setCell lk_RX7_267 rfl rfl dX7_storeCell_88 rfl (by simp [Value.category]) (cs_setCell hG hY2 hs1 hj) ?_
            rintro _ _ ⟨rfl, _, rfl, hY3⟩
            refine rx_iconst (v := nI 0) dX7_storeCell_91 rfl ?_
            exact rx_iret rfl dX7_storeCell_92 (rc_out0 (vd3_22c (bk := 15) hj (by simp_all) (by simp_all)) hY3)
      · refine rx_aload_n dX7_storeCell_41 rfl rfl ?_
        refine rx_bipush (v := nI 40) dX7_storeCell_42 rfl ?_
        by_cases h40 : q < 40
        · refine gv_invV (as := [.int _]) hG okX6_pays lk_RX7_85 (gkF_f hp) (gkF_k hp) dX7_storeCell_44 rfl (by simp [Value.category]) (cc_paysF hG hp (by decide) hq h40 hY1) ?_
          rintro _ _ ⟨rfl, _, rfl, hY2⟩
          refine rx_if_ne (tgt := 52) dX7_storeCell_47 (by decide) (fun h47 => (absurd h47 (by decide))) (fun h47 => ?_)
          refine rx_iconst (v := nI 3) dX7_storeCell_50 rfl ?_
          exact rx_iret rfl dX7_storeCell_51 (rc_out3 (vd3_22n hj h31 h37 h40) (fun _ => rfl) (Nat.le_refl _) hY2)
        · refine gv_invV (as := [.int _]) hG okX6_pays lk_RX7_85 (gkF_f hp) (gkF_k hp) dX7_storeCell_44 rfl (by simp [Value.category]) (cc_paysT hG hp (by decide) hq (by omega) hY1) ?_
          rintro _ _ ⟨rfl, _, rfl, hY2⟩
          refine rx_if_ne (tgt := 52) dX7_storeCell_47 (by decide) (fun h47 => ?_) (fun h47 => (absurd h47 (by decide))) 
          refine rx_lload dX7_storeCell_52 rfl ?_
          refine rx_lconst (v := 0) dX7_storeCell_54 rfl ?_
          refine rx_lc_eq (tgt := 76) dX7_storeCell_55 dX7_storeCell_56 (by decide) (fun h55 => ?_) (fun h55 => (absurd h31 h55)) 
          refine rx_aload_n dX7_storeCell_76 rfl rfl ?_
          refine g_getR hG hf_RX7_21 rfl dX7_storeCell_77 rfl rfl rfl ?_
          refine rx_aload_n dX7_storeCell_80 rfl rfl ?_
          refine gcv_getI (v := nI s) hG hf_RX7_160 rfl dX7_storeCell_81 (gkF_m hp) (gkF_f hp) (gkF_k hp) (rc_self hY2) ?_
          refine rx_lload dX7_storeCell_84 rfl ?_
          refine rx_l2i dX7_storeCell_86 ?_
          refine rx_ti (y := nI j) (lN_i _) ?_
          refine rx_lload_n dX7_storeCell_87 rfl ?_
          refine gv_invV (as := [.int _, .int _, .long _]) hG okX9_setCell lk_RX7_267 rfl rfl dX7_storeCell_88 rfl (by simp [Value.category]) (cs_setCell hG hY2 hs1 hj) ?_
          rintro _ _ ⟨rfl, _, rfl, hY3⟩
          refine rx_iconst (v := nI 0) dX7_storeCell_91 rfl ?_
          exact rx_iret rfl dX7_storeCell_92 (rc_out0 (vd3_22a hj h31 h37 h40) hY3)
  · skip
    refine rx_lload dX7_storeCell_0 rfl ?_
    refine rx_bipush (v := nI 16) dX7_storeCell_2 rfl ?_
    refine rx_invS0 (as := [.long _, .int _]) hG okX10_isWithin lk_RX7_259 dX7_storeCell_4 rfl (by simp [Value.category]) (cc_within hG) ?_
    rintro _ _ ⟨⟨r, hr, rfl⟩, rfl⟩
    rcases hr with ⟨rfl, hr⟩ | ⟨rfl, hr⟩
    · exact absurd hr (wi_15n (Classical.not_not.mp hwi))
    refine rx_if_ne (tgt := 12) dX7_storeCell_7 (by decide) (fun h7 => (absurd h7 (by decide))) (fun h7 => ?_)
    refine rx_iconst (v := nI 3) dX7_storeCell_10 rfl ?_
    exact rx_iret rfl dX7_storeCell_11 (rc_out3 (vd3_22b (Classical.not_not.mp hwi)) (fun _ => rfl) (Nat.le_refl _) hY)
theorem vcl_no {X : vx_S} {lk : Bool} {to vl ar ask : Int64} {f : vf_T} {fs : List vf_T} {t : List Int64} (h : fL f = true ∧ vl ≠ 0) : vm_call X lk to vl ar ask f fs t = vm_end X (vm_st f t) fs 3 0 := if_pos h
theorem vcl_go {X : vx_S} {lk : Bool} {to vl ar ask : Int64} {f : vf_T} {fs : List vf_T} {t : List Int64} (h : ¬ (fL f = true ∧ vl ≠ 0)) : vm_call X lk to vl ar ask f fs t = vm_begin (X.1, X.2.1, X.2.2.1, vf_set f (fA f) (fG f - vm_gas ask (fG f)) t :: fs, X.2.2.2.2) (fS f) to vl ar (vm_gas ask (fG f)) (lk || fL f) := if_neg h
theorem cp_call {G : rx_E} {d : Nat} {S : gs_T} {K : Nat → Nat × Nat} {C0 C : rx_M} {g : vg_T} {bs od : Nat} {n : Nat → Int64} {e : List (Nat × Int64 × Int64)} {b m c a q s k : Nat} {v r : Int64} {l o : Bool} {t : List Int64} {w : (Nat → Int64) × Nat × Nat} {fs : List vf_T} {z : Int32} (hG : rx_OK G) {to vl ar ask : Int64} (hp : fs.length < 10) (hq : q ≤ 30000) (ht : t.length ≤ 21) (hY : rc_Y K C0 C g bs od (n, e, b, ((c, a, q, s, k), (v, r), (l, o), (to :: (vl :: (ar :: (ask :: t)))), w) :: fs, m) z) : rx_C G MX7_prepareCall (d + 2) [.ref 4, .ref (13 + 3 * fs.length)] (gl C S) 0 0 (rc_out S K C0 g bs od n e b m ((c, a, q, s, k), (v, r), (l, o), (to :: (vl :: (ar :: (ask :: t)))), w) fs (vm_call (n, e, b, ((c, a, q, s, k), (v, r), (l, o), (to :: (vl :: (ar :: (ask :: t)))), w) :: fs, m) false to vl ar ask ((c, a, q, s, k), (v, r), (l, o), (to :: (vl :: (ar :: (ask :: t)))), w) fs t)) := by
  refine rx_meth0 (by decide +kernel) rfl (Nat.le_of_ble_eq_true rfl) ?_
  cases l
  rotate_left
  · refine rx_aload_n dX7_prepareCall_0 rfl rfl ?_
    refine gv_invV (as := []) hG okX6_pop lk_RX7_209 (gkF_f hp) (gkF_k hp) dX7_prepareCall_1 rfl (by simp [Value.category]) (cc_pop hG hY hp) ?_
    rintro _ _ ⟨rfl, _, rfl, hY1⟩
    refine rx_lstore_n dX7_prepareCall_4 (by decide) ?_
    refine rx_aload_n dX7_prepareCall_5 rfl rfl ?_
    refine gv_invV (as := []) hG okX6_pop lk_RX7_209 (gkF_f hp) (gkF_k hp) dX7_prepareCall_6 rfl (by simp [Value.category]) (cc_pop hG hY1 hp) ?_
    rintro _ _ ⟨rfl, _, rfl, hY2⟩
    refine rx_lstore dX7_prepareCall_9 (by decide) ?_
    refine rx_aload_n dX7_prepareCall_11 rfl rfl ?_
    refine gv_invV (as := []) hG okX6_pop lk_RX7_209 (gkF_f hp) (gkF_k hp) dX7_prepareCall_12 rfl (by simp [Value.category]) (cc_pop hG hY2 hp) ?_
    rintro _ _ ⟨rfl, _, rfl, hY3⟩
    refine rx_lstore dX7_prepareCall_15 (by decide) ?_
    refine rx_aload_n dX7_prepareCall_17 rfl rfl ?_
    refine gv_invV (as := []) hG okX6_pop lk_RX7_209 (gkF_f hp) (gkF_k hp) dX7_prepareCall_18 rfl (by simp [Value.category]) (cc_pop hG hY3 hp) ?_
    rintro _ _ ⟨rfl, _, rfl, hY4⟩
    refine rx_lstore dX7_prepareCall_21 (by decide) ?_
    refine rx_aload_n dX7_prepareCall_23 rfl rfl ?_
    refine gcv_getI (v := nI 1) hG hf_RX7_92 rfl dX7_prepareCall_24 (gkF_m hp) (gkF_f hp) (gkF_k hp) (rc_look hY4) ?_
    refine rx_if_eq (tgt := 39) dX7_prepareCall_27 (by decide) (fun h27 => (absurd h27 (by decide))) (fun h27 => ?_)
    refine rx_lload dX7_prepareCall_30 rfl ?_
    refine rx_lconst (v := 0) dX7_prepareCall_32 rfl ?_
    refine rx_lc_eq (tgt := 39) dX7_prepareCall_33 dX7_prepareCall_34 (by decide) (fun h33 => ?_) (fun h33 => ?_)
    · refine rx_aload_n dX7_prepareCall_39 rfl rfl ?_
      refine g_getR hG hf_RX7_35 rfl dX7_prepareCall_40 rfl rfl rfl ?_
      refine rx_aload_n dX7_prepareCall_43 rfl rfl ?_
      refine gcv_getI (v := nI s) hG hf_RX7_160 rfl dX7_prepareCall_44 (gkF_m hp) (gkF_f hp) (gkF_k hp) (rc_self hY4) ?_
      refine rx_lload_n dX7_prepareCall_47 rfl ?_
      refine rx_lload dX7_prepareCall_48 rfl ?_
      refine rx_lload dX7_prepareCall_50 rfl ?_
      refine rx_aload_n dX7_prepareCall_52 rfl rfl ?_
      refine rx_lload dX7_prepareCall_53 rfl ?_
      refine gv_invV (as := [.long _]) hG okX6_giveGas lk_RX7_270 (gkF_f hp) (gkF_k hp) dX7_prepareCall_55 rfl (by simp [Value.category]) (cc_giveGas (ask := ask) hG hp hq hY4) ?_
      rintro _ _ ⟨rfl, _, rfl, hY5⟩
      refine rx_aload_n dX7_prepareCall_58 rfl rfl ?_
      refine gcv_getI (v := nI 1) hG hf_RX7_92 rfl dX7_prepareCall_59 (gkF_m hp) (gkF_f hp) (gkF_k hp) (rc_look hY5) ?_
      refine gv_invV (as := [.int _, .long _, .long _, .long _, .int _, .int _]) hG okX1_set lk_RX7_69 rfl rfl dX7_prepareCall_62 rfl (by simp [Value.category]) (cs_set (cl := s) (gg := vm_gas ask q) (l := true) hG hY5) ?_
      rintro _ _ ⟨rfl, _, rfl, hY6, hcl⟩
      refine rx_iconst (v := nI 4) dX7_prepareCall_65 rfl ?_
      exact rx_iret rfl dX7_prepareCall_66 (rc_out4 (vcl_go (fun h => h.2 h33)) (by have := vm_gasle (ask := ask) hq; show q - vm_gas ask q + vm_gas ask q ≤ q; omega) ht (fun h => h) hY6 hcl)
    · refine rx_iconst (v := nI 3) dX7_prepareCall_37 rfl ?_
      exact rx_iret rfl dX7_prepareCall_38 (rc_out3 (vcl_no ⟨rfl, h33⟩) (fun _ => rfl) (Nat.le_refl _) hY4)
  · refine rx_aload_n dX7_prepareCall_0 rfl rfl ?_
    refine gv_invV (as := []) hG okX6_pop lk_RX7_209 (gkF_f hp) (gkF_k hp) dX7_prepareCall_1 rfl (by simp [Value.category]) (cc_pop hG hY hp) ?_
    rintro _ _ ⟨rfl, _, rfl, hY1⟩
    refine rx_lstore_n dX7_prepareCall_4 (by decide) ?_
    refine rx_aload_n dX7_prepareCall_5 rfl rfl ?_
    refine gv_invV (as := []) hG okX6_pop lk_RX7_209 (gkF_f hp) (gkF_k hp) dX7_prepareCall_6 rfl (by simp [Value.category]) (cc_pop hG hY1 hp) ?_
    rintro _ _ ⟨rfl, _, rfl, hY2⟩
    refine rx_lstore dX7_prepareCall_9 (by decide) ?_
    refine rx_aload_n dX7_prepareCall_11 rfl rfl ?_
    refine gv_invV (as := []) hG okX6_pop lk_RX7_209 (gkF_f hp) (gkF_k hp) dX7_prepareCall_12 rfl (by simp [Value.category]) (cc_pop hG hY2 hp) ?_
    rintro _ _ ⟨rfl, _, rfl, hY3⟩
    refine rx_lstore dX7_prepareCall_15 (by decide) ?_
    refine rx_aload_n dX7_prepareCall_17 rfl rfl ?_
    refine gv_invV (as := []) hG okX6_pop lk_RX7_209 (gkF_f hp) (gkF_k hp) dX7_prepareCall_18 rfl (by simp [Value.category]) (cc_pop hG hY3 hp) ?_
    rintro _ _ ⟨rfl, _, rfl, hY4⟩
    refine rx_lstore dX7_prepareCall_21 (by decide) ?_
    refine rx_aload_n dX7_prepareCall_23 rfl rfl ?_
    refine gcv_getI (v := nI 0) hG hf_RX7_92 rfl dX7_prepareCall_24 (gkF_m hp) (gkF_f hp) (gkF_k hp) (rc_look hY4) ?_
    refine rx_if_eq (tgt := 39) dX7_prepareCall_27 (by decide) (fun h27 => ?_) (fun h27 => (absurd h27 (by decide))) 
    refine rx_aload_n dX7_prepareCall_39 rfl rfl ?_
    refine g_getR hG hf_RX7_35 rfl dX7_prepareCall_40 rfl rfl rfl ?_
    refine rx_aload_n dX7_prepareCall_43 rfl rfl ?_
    refine gcv_getI (v := nI s) hG hf_RX7_160 rfl dX7_prepareCall_44 (gkF_m hp) (gkF_f hp) (gkF_k hp) (rc_self hY4) ?_
    refine rx_lload_n dX7_prepareCall_47 rfl ?_
    refine rx_lload dX7_prepareCall_48 rfl ?_
    refine rx_lload dX7_prepareCall_50 rfl ?_
    refine rx_aload_n dX7_prepareCall_52 rfl rfl ?_
    refine rx_lload dX7_prepareCall_53 rfl ?_
    refine gv_invV (as := [.long _]) hG okX6_giveGas lk_RX7_270 (gkF_f hp) (gkF_k hp) dX7_prepareCall_55 rfl (by simp [Value.category]) (cc_giveGas (ask := ask) hG hp hq hY4) ?_
    rintro _ _ ⟨rfl, _, rfl, hY5⟩
    refine rx_aload_n dX7_prepareCall_58 rfl rfl ?_
    refine gcv_getI (v := nI 0) hG hf_RX7_92 rfl dX7_prepareCall_59 (gkF_m hp) (gkF_f hp) (gkF_k hp) (rc_look hY5) ?_
    refine gv_invV (as := [.int _, .long _, .long _, .long _, .int _, .int _]) hG okX1_set lk_RX7_69 rfl rfl dX7_prepareCall_62 rfl (by simp [Value.category]) (cs_set (cl := s) (gg := vm_gas ask q) (l := false) hG hY5) ?_
    rintro _ _ ⟨rfl, _, rfl, hY6, hcl⟩
    refine rx_iconst (v := nI 4) dX7_prepareCall_65 rfl ?_
    exact rx_iret rfl dX7_prepareCall_66 (rc_out4 (vcl_go (fun h => absurd (show false = true from h.1) (by decide))) (by have := vm_gasle (ask := ask) hq; show q - vm_gas ask q + vm_gas ask q ≤ q; omega) ht (fun h => h) hY6 hcl)
theorem cp_look {G : rx_E} {d : Nat} {S : gs_T} {K : Nat → Nat × Nat} {C0 C : rx_M} {g : vg_T} {bs od : Nat} {n : Nat → Int64} {e : List (Nat × Int64 × Int64)} {b m c a q s k : Nat} {v r : Int64} {l o : Bool} {t : List Int64} {w : (Nat → Int64) × Nat × Nat} {fs : List vf_T} {z : Int32} (hG : rx_OK G) {to ar ask : Int64} (hp : fs.length < 10) (hq : q ≤ 30000) (ht : t.length ≤ 21) (hY : rc_Y K C0 C g bs od (n, e, b, ((c, a, q, s, k), (v, r), (l, o), (to :: (ar :: (ask :: t))), w) :: fs, m) z) : rx_C G MX7_prepareLook (d + 2) [.ref 4, .ref (13 + 3 * fs.length)] (gl C S) 0 0 (rc_out S K C0 g bs od n e b m ((c, a, q, s, k), (v, r), (l, o), (to :: (ar :: (ask :: t))), w) fs (vm_call (n, e, b, ((c, a, q, s, k), (v, r), (l, o), (to :: (ar :: (ask :: t))), w) :: fs, m) true to 0 ar ask ((c, a, q, s, k), (v, r), (l, o), (to :: (ar :: (ask :: t))), w) fs t)) := by
  refine rx_meth0 (by decide +kernel) rfl (Nat.le_of_ble_eq_true rfl) ?_
  refine rx_aload_n dX7_prepareLook_0 rfl rfl ?_
  refine gv_invV (as := []) hG okX6_pop lk_RX7_209 (gkF_f hp) (gkF_k hp) dX7_prepareLook_1 rfl (by simp [Value.category]) (cc_pop hG hY hp) ?_
  rintro _ _ ⟨rfl, _, rfl, hY1⟩
  refine rx_lstore_n dX7_prepareLook_4 (by decide) ?_
  refine rx_aload_n dX7_prepareLook_5 rfl rfl ?_
  refine gv_invV (as := []) hG okX6_pop lk_RX7_209 (gkF_f hp) (gkF_k hp) dX7_prepareLook_6 rfl (by simp [Value.category]) (cc_pop hG hY1 hp) ?_
  rintro _ _ ⟨rfl, _, rfl, hY2⟩
  refine rx_lstore dX7_prepareLook_9 (by decide) ?_
  refine rx_aload_n dX7_prepareLook_11 rfl rfl ?_
  refine gv_invV (as := []) hG okX6_pop lk_RX7_209 (gkF_f hp) (gkF_k hp) dX7_prepareLook_12 rfl (by simp [Value.category]) (cc_pop hG hY2 hp) ?_
  rintro _ _ ⟨rfl, _, rfl, hY3⟩
  refine rx_lstore dX7_prepareLook_15 (by decide) ?_
  refine rx_aload_n dX7_prepareLook_17 rfl rfl ?_
  refine g_getR hG hf_RX7_35 rfl dX7_prepareLook_18 rfl rfl rfl ?_
  refine rx_aload_n dX7_prepareLook_21 rfl rfl ?_
  refine gcv_getI (v := nI s) hG hf_RX7_160 rfl dX7_prepareLook_22 (gkF_m hp) (gkF_f hp) (gkF_k hp) (rc_self hY3) ?_
  refine rx_lload_n dX7_prepareLook_25 rfl ?_
  refine rx_lconst (v := 0) dX7_prepareLook_26 rfl ?_
  refine rx_lload dX7_prepareLook_27 rfl ?_
  refine rx_aload_n dX7_prepareLook_29 rfl rfl ?_
  refine rx_lload dX7_prepareLook_30 rfl ?_
  refine gv_invV (as := [.long _]) hG okX6_giveGas lk_RX7_270 (gkF_f hp) (gkF_k hp) dX7_prepareLook_32 rfl (by simp [Value.category]) (cc_giveGas (ask := ask) hG hp hq hY3) ?_
  rintro _ _ ⟨rfl, _, rfl, hY4⟩
  refine rx_iconst (v := nI 1) dX7_prepareLook_35 rfl ?_
  refine gv_invV (as := [.int _, .long _, .long _, .long _, .int _, .int _]) hG okX1_set lk_RX7_69 rfl rfl dX7_prepareLook_36 rfl (by simp [Value.category]) (cs_set (cl := s) (gg := vm_gas ask q) (l := true) hG hY4) ?_
  rintro _ _ ⟨rfl, _, rfl, hY5, hcl⟩
  refine rx_iconst (v := nI 4) dX7_prepareLook_39 rfl ?_
  exact rx_iret rfl dX7_prepareLook_40 (rc_out4 (vcl_go (fun h => h.2 rfl)) (by have := vm_gasle (ask := ask) hq; show q - vm_gas ask q + vm_gas ask q ≤ q; omega) ht (fun _ => rfl) hY5 hcl)

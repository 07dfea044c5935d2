theorem dX11_emit_0 : decode cX11_emit 0 = .ok (.aload_n 0, 1) := by decide +kernel
theorem dX11_emit_1 : decode cX11_emit 1 = .ok (.invokevirtual 262, 3) := by decide +kernel
theorem dX11_emit_4 : decode cX11_emit 4 = .ok (.lstore_n 2, 1) := by decide +kernel
theorem dX11_emit_5 : decode cX11_emit 5 = .ok (.aload_n 0, 1) := by decide +kernel
theorem dX11_emit_6 : decode cX11_emit 6 = .ok (.invokevirtual 262, 3) := by decide +kernel
theorem dX11_emit_9 : decode cX11_emit 9 = .ok (.lstore 4, 2) := by decide +kernel
theorem dX11_emit_11 : decode cX11_emit 11 = .ok (.aload_n 0, 1) := by decide +kernel
theorem dX11_emit_12 : decode cX11_emit 12 = .ok (.getfield 144, 3) := by decide +kernel
theorem dX11_emit_15 : decode cX11_emit 15 = .ok (.aload_n 0, 1) := by decide +kernel
theorem dX11_emit_16 : decode cX11_emit 16 = .ok (.getfield 212, 3) := by decide +kernel
theorem dX11_emit_19 : decode cX11_emit 19 = .ok (.iload_n 1, 1) := by decide +kernel
theorem dX11_emit_20 : decode cX11_emit 20 = .ok (.iastore, 1) := by decide +kernel
theorem dX11_emit_21 : decode cX11_emit 21 = .ok (.aload_n 0, 1) := by decide +kernel
theorem dX11_emit_22 : decode cX11_emit 22 = .ok (.getfield 147, 3) := by decide +kernel
theorem dX11_emit_25 : decode cX11_emit 25 = .ok (.aload_n 0, 1) := by decide +kernel
theorem dX11_emit_26 : decode cX11_emit 26 = .ok (.getfield 212, 3) := by decide +kernel
theorem dX11_emit_29 : decode cX11_emit 29 = .ok (.lload 4, 2) := by decide +kernel
theorem dX11_emit_31 : decode cX11_emit 31 = .ok (.lastore, 1) := by decide +kernel
theorem dX11_emit_32 : decode cX11_emit 32 = .ok (.aload_n 0, 1) := by decide +kernel
theorem dX11_emit_33 : decode cX11_emit 33 = .ok (.getfield 150, 3) := by decide +kernel
theorem dX11_emit_36 : decode cX11_emit 36 = .ok (.aload_n 0, 1) := by decide +kernel
theorem dX11_emit_37 : decode cX11_emit 37 = .ok (.getfield 212, 3) := by decide +kernel
theorem dX11_emit_40 : decode cX11_emit 40 = .ok (.lload_n 2, 1) := by decide +kernel
theorem dX11_emit_41 : decode cX11_emit 41 = .ok (.lastore, 1) := by decide +kernel
theorem dX11_emit_42 : decode cX11_emit 42 = .ok (.aload_n 0, 1) := by decide +kernel
theorem dX11_emit_43 : decode cX11_emit 43 = .ok (.dup, 1) := by decide +kernel
theorem dX11_emit_44 : decode cX11_emit 44 = .ok (.getfield 212, 3) := by decide +kernel
theorem dX11_emit_47 : decode cX11_emit 47 = .ok (.iconst 1, 1) := by decide +kernel
theorem dX11_emit_48 : decode cX11_emit 48 = .ok (.iadd, 1) := by decide +kernel
theorem dX11_emit_49 : decode cX11_emit 49 = .ok (.putfield 212, 3) := by decide +kernel
theorem dX11_emit_52 : decode cX11_emit 52 = .ok (.return_, 1) := by decide +kernel
theorem dX11_close_0 : decode cX11_close 0 = .ok (.aload_n 0, 1) := by decide +kernel
theorem dX11_close_1 : decode cX11_close 1 = .ok (.invokevirtual 262, 3) := by decide +kernel
theorem dX11_close_4 : decode cX11_close 4 = .ok (.lstore_n 2, 1) := by decide +kernel
theorem dX11_close_5 : decode cX11_close 5 = .ok (.lload_n 2, 1) := by decide +kernel
theorem dX11_close_6 : decode cX11_close 6 = .ok (.invokestatic 181, 3) := by decide +kernel
theorem dX11_close_9 : decode cX11_close 9 = .ok (.ifCond .eq 10, 3) := by decide +kernel
theorem dX11_close_12 : decode cX11_close 12 = .ok (.lload_n 2, 1) := by decide +kernel
theorem dX11_close_13 : decode cX11_close 13 = .ok (.iload_n 1, 1) := by decide +kernel
theorem dX11_close_14 : decode cX11_close 14 = .ok (.i2l, 1) := by decide +kernel
theorem dX11_close_15 : decode cX11_close 15 = .ok (.lcmp, 1) := by decide +kernel
theorem dX11_close_16 : decode cX11_close 16 = .ok (.ifCond .ne 10, 3) := by decide +kernel
theorem dX11_close_19 : decode cX11_close 19 = .ok (.aload_n 0, 1) := by decide +kernel
theorem dX11_close_20 : decode cX11_close 20 = .ok (.iconst 3, 1) := by decide +kernel
theorem dX11_close_21 : decode cX11_close 21 = .ok (.lconst 0, 1) := by decide +kernel
theorem dX11_close_22 : decode cX11_close 22 = .ok (.invokevirtual 231, 3) := by decide +kernel
theorem dX11_close_25 : decode cX11_close 25 = .ok (.return_, 1) := by decide +kernel
theorem dX11_close_26 : decode cX11_close 26 = .ok (.aload_n 0, 1) := by decide +kernel
theorem dX11_close_27 : decode cX11_close 27 = .ok (.getfield 99, 3) := by decide +kernel
theorem dX11_close_30 : decode cX11_close 30 = .ok (.bipush 19, 2) := by decide +kernel
theorem dX11_close_32 : decode cX11_close 32 = .ok (.lload_n 2, 1) := by decide +kernel
theorem dX11_close_33 : decode cX11_close 33 = .ok (.l2i, 1) := by decide +kernel
theorem dX11_close_34 : decode cX11_close 34 = .ok (.imul, 1) := by decide +kernel
theorem dX11_close_35 : decode cX11_close 35 = .ok (.dup2, 1) := by decide +kernel
theorem dX11_close_36 : decode cX11_close 36 = .ok (.laload, 1) := by decide +kernel
theorem dX11_close_37 : decode cX11_close 37 = .ok (.aload_n 0, 1) := by decide +kernel
theorem dX11_close_38 : decode cX11_close 38 = .ok (.getfield 99, 3) := by decide +kernel
theorem dX11_close_41 : decode cX11_close 41 = .ok (.bipush 19, 2) := by decide +kernel
theorem dX11_close_43 : decode cX11_close 43 = .ok (.iload_n 1, 1) := by decide +kernel
theorem dX11_close_44 : decode cX11_close 44 = .ok (.imul, 1) := by decide +kernel
theorem dX11_close_45 : decode cX11_close 45 = .ok (.laload, 1) := by decide +kernel
theorem dX11_close_46 : decode cX11_close 46 = .ok (.ladd, 1) := by decide +kernel
theorem dX11_close_47 : decode cX11_close 47 = .ok (.lastore, 1) := by decide +kernel
theorem dX11_close_48 : decode cX11_close 48 = .ok (.aload_n 0, 1) := by decide +kernel
theorem dX11_close_49 : decode cX11_close 49 = .ok (.getfield 99, 3) := by decide +kernel
theorem dX11_close_52 : decode cX11_close 52 = .ok (.bipush 19, 2) := by decide +kernel
theorem dX11_close_54 : decode cX11_close 54 = .ok (.iload_n 1, 1) := by decide +kernel
theorem dX11_close_55 : decode cX11_close 55 = .ok (.imul, 1) := by decide +kernel
theorem dX11_close_56 : decode cX11_close 56 = .ok (.lconst 0, 1) := by decide +kernel
theorem dX11_close_57 : decode cX11_close 57 = .ok (.lastore, 1) := by decide +kernel
theorem dX11_close_58 : decode cX11_close 58 = .ok (.iconst 2, 1) := by decide +kernel
theorem dX11_close_59 : decode cX11_close 59 = .ok (.istore 4, 2) := by decide +kernel
theorem dX11_close_61 : decode cX11_close 61 = .ok (.iload 4, 2) := by decide +kernel
theorem dX11_close_63 : decode cX11_close 63 = .ok (.bipush 19, 2) := by decide +kernel
theorem dX11_close_65 : decode cX11_close 65 = .ok (.if_icmp .ge 22, 3) := by decide +kernel
theorem dX11_close_68 : decode cX11_close 68 = .ok (.aload_n 0, 1) := by decide +kernel
theorem dX11_close_69 : decode cX11_close 69 = .ok (.getfield 99, 3) := by decide +kernel
theorem dX11_close_72 : decode cX11_close 72 = .ok (.bipush 19, 2) := by decide +kernel
theorem dX11_close_74 : decode cX11_close 74 = .ok (.iload_n 1, 1) := by decide +kernel
theorem dX11_close_75 : decode cX11_close 75 = .ok (.imul, 1) := by decide +kernel
theorem dX11_close_76 : decode cX11_close 76 = .ok (.iload 4, 2) := by decide +kernel
theorem dX11_close_78 : decode cX11_close 78 = .ok (.iadd, 1) := by decide +kernel
theorem dX11_close_79 : decode cX11_close 79 = .ok (.lconst 0, 1) := by decide +kernel
theorem dX11_close_80 : decode cX11_close 80 = .ok (.lastore, 1) := by decide +kernel
theorem dX11_close_81 : decode cX11_close 81 = .ok (.iinc 4 1, 3) := by decide +kernel
theorem dX11_close_84 : decode cX11_close 84 = .ok (.goto (-23), 3) := by decide +kernel
theorem dX11_close_87 : decode cX11_close 87 = .ok (.aload_n 0, 1) := by decide +kernel
theorem dX11_close_88 : decode cX11_close 88 = .ok (.iconst 1, 1) := by decide +kernel
theorem dX11_close_89 : decode cX11_close 89 = .ok (.lconst 0, 1) := by decide +kernel
theorem dX11_close_90 : decode cX11_close 90 = .ok (.invokevirtual 231, 3) := by decide +kernel
theorem dX11_close_93 : decode cX11_close 93 = .ok (.return_, 1) := by decide +kernel
theorem dX11_make_0 : decode cX11_make 0 = .ok (.aload_n 0, 1) := by decide +kernel
theorem dX11_make_1 : decode cX11_make 1 = .ok (.invokevirtual 262, 3) := by decide +kernel
theorem dX11_make_4 : decode cX11_make 4 = .ok (.lstore_n 2, 1) := by decide +kernel
theorem dX11_make_5 : decode cX11_make 5 = .ok (.aload_n 0, 1) := by decide +kernel
theorem dX11_make_6 : decode cX11_make 6 = .ok (.invokevirtual 262, 3) := by decide +kernel
theorem dX11_make_9 : decode cX11_make 9 = .ok (.lstore 4, 2) := by decide +kernel
theorem dX11_make_11 : decode cX11_make 11 = .ok (.iconst 0, 1) := by decide +kernel
theorem dX11_make_12 : decode cX11_make 12 = .ok (.istore 6, 2) := by decide +kernel
theorem dX11_make_14 : decode cX11_make 14 = .ok (.iload 6, 2) := by decide +kernel
theorem dX11_make_16 : decode cX11_make 16 = .ok (.bipush 32, 2) := by decide +kernel
theorem dX11_make_18 : decode cX11_make 18 = .ok (.if_icmp .ge 36, 3) := by decide +kernel
theorem dX11_make_21 : decode cX11_make 21 = .ok (.aload_n 0, 1) := by decide +kernel
theorem dX11_make_22 : decode cX11_make 22 = .ok (.iload 6, 2) := by decide +kernel
theorem dX11_make_24 : decode cX11_make 24 = .ok (.invokevirtual 295, 3) := by decide +kernel
theorem dX11_make_27 : decode cX11_make 27 = .ok (.ifCond .eq 21, 3) := by decide +kernel
theorem dX11_make_30 : decode cX11_make 30 = .ok (.iload 6, 2) := by decide +kernel
theorem dX11_make_32 : decode cX11_make 32 = .ok (.aload_n 0, 1) := by decide +kernel
theorem dX11_make_33 : decode cX11_make 33 = .ok (.getfield 272, 3) := by decide +kernel
theorem dX11_make_36 : decode cX11_make 36 = .ok (.if_icmp .eq 12, 3) := by decide +kernel
theorem dX11_make_39 : decode cX11_make 39 = .ok (.aload_n 0, 1) := by decide +kernel
theorem dX11_make_40 : decode cX11_make 40 = .ok (.iload 6, 2) := by decide +kernel
theorem dX11_make_42 : decode cX11_make 42 = .ok (.invokevirtual 299, 3) := by decide +kernel
theorem dX11_make_45 : decode cX11_make 45 = .ok (.ifCond .eq 9, 3) := by decide +kernel
theorem dX11_make_48 : decode cX11_make 48 = .ok (.iinc 6 1, 3) := by decide +kernel
theorem dX11_make_51 : decode cX11_make 51 = .ok (.goto (-37), 3) := by decide +kernel
theorem dX11_make_54 : decode cX11_make 54 = .ok (.iload 6, 2) := by decide +kernel
theorem dX11_make_56 : decode cX11_make 56 = .ok (.bipush 32, 2) := by decide +kernel
theorem dX11_make_58 : decode cX11_make 58 = .ok (.if_icmp .eq 41, 3) := by decide +kernel
theorem dX11_make_61 : decode cX11_make 61 = .ok (.lload 4, 2) := by decide +kernel
theorem dX11_make_63 : decode cX11_make 63 = .ok (.lconst 0, 1) := by decide +kernel
theorem dX11_make_64 : decode cX11_make 64 = .ok (.lcmp, 1) := by decide +kernel
theorem dX11_make_65 : decode cX11_make 65 = .ok (.ifCond .lt 34, 3) := by decide +kernel
theorem dX11_make_68 : decode cX11_make 68 = .ok (.lload 4, 2) := by decide +kernel
theorem dX11_make_70 : decode cX11_make 70 = .ok (.aload_n 0, 1) := by decide +kernel
theorem dX11_make_71 : decode cX11_make 71 = .ok (.getfield 172, 3) := by decide +kernel
theorem dX11_make_74 : decode cX11_make 74 = .ok (.i2l, 1) := by decide +kernel
theorem dX11_make_75 : decode cX11_make 75 = .ok (.lcmp, 1) := by decide +kernel
theorem dX11_make_76 : decode cX11_make 76 = .ok (.ifCond .ge 23, 3) := by decide +kernel
theorem dX11_make_79 : decode cX11_make 79 = .ok (.lload_n 2, 1) := by decide +kernel
theorem dX11_make_80 : decode cX11_make 80 = .ok (.lconst 0, 1) := by decide +kernel
theorem dX11_make_81 : decode cX11_make 81 = .ok (.lcmp, 1) := by decide +kernel
theorem dX11_make_82 : decode cX11_make 82 = .ok (.ifCond .lt 17, 3) := by decide +kernel
theorem dX11_make_85 : decode cX11_make 85 = .ok (.aload_n 0, 1) := by decide +kernel
theorem dX11_make_86 : decode cX11_make 86 = .ok (.getfield 99, 3) := by decide +kernel
theorem dX11_make_89 : decode cX11_make 89 = .ok (.bipush 19, 2) := by decide +kernel
theorem dX11_make_91 : decode cX11_make 91 = .ok (.iload_n 1, 1) := by decide +kernel
theorem dX11_make_92 : decode cX11_make 92 = .ok (.imul, 1) := by decide +kernel
theorem dX11_make_93 : decode cX11_make 93 = .ok (.laload, 1) := by decide +kernel
theorem dX11_make_94 : decode cX11_make 94 = .ok (.lload_n 2, 1) := by decide +kernel
theorem dX11_make_95 : decode cX11_make 95 = .ok (.lcmp, 1) := by decide +kernel
theorem dX11_make_96 : decode cX11_make 96 = .ok (.ifCond .ge 11, 3) := by decide +kernel
theorem dX11_make_99 : decode cX11_make 99 = .ok (.aload_n 0, 1) := by decide +kernel
theorem dX11_make_100 : decode cX11_make 100 = .ok (.ldc2_w 302, 3) := by decide +kernel
theorem dX11_make_103 : decode cX11_make 103 = .ok (.invokevirtual 221, 3) := by decide +kernel
theorem dX11_make_106 : decode cX11_make 106 = .ok (.return_, 1) := by decide +kernel
theorem dX11_make_107 : decode cX11_make 107 = .ok (.aload_n 0, 1) := by decide +kernel
theorem dX11_make_108 : decode cX11_make 108 = .ok (.getfield 99, 3) := by decide +kernel
theorem dX11_make_111 : decode cX11_make 111 = .ok (.bipush 19, 2) := by decide +kernel
theorem dX11_make_113 : decode cX11_make 113 = .ok (.iload_n 1, 1) := by decide +kernel
theorem dX11_make_114 : decode cX11_make 114 = .ok (.imul, 1) := by decide +kernel
theorem dX11_make_115 : decode cX11_make 115 = .ok (.dup2, 1) := by decide +kernel
theorem dX11_make_116 : decode cX11_make 116 = .ok (.laload, 1) := by decide +kernel
theorem dX11_make_117 : decode cX11_make 117 = .ok (.lload_n 2, 1) := by decide +kernel
theorem dX11_make_118 : decode cX11_make 118 = .ok (.lsub, 1) := by decide +kernel
theorem dX11_make_119 : decode cX11_make 119 = .ok (.lastore, 1) := by decide +kernel
theorem dX11_make_120 : decode cX11_make 120 = .ok (.aload_n 0, 1) := by decide +kernel
theorem dX11_make_121 : decode cX11_make 121 = .ok (.getfield 99, 3) := by decide +kernel
theorem dX11_make_124 : decode cX11_make 124 = .ok (.bipush 19, 2) := by decide +kernel
theorem dX11_make_126 : decode cX11_make 126 = .ok (.iload 6, 2) := by decide +kernel
theorem dX11_make_128 : decode cX11_make 128 = .ok (.imul, 1) := by decide +kernel
theorem dX11_make_129 : decode cX11_make 129 = .ok (.dup2, 1) := by decide +kernel
theorem dX11_make_130 : decode cX11_make 130 = .ok (.laload, 1) := by decide +kernel
theorem dX11_make_131 : decode cX11_make 131 = .ok (.lload_n 2, 1) := by decide +kernel
theorem dX11_make_132 : decode cX11_make 132 = .ok (.ladd, 1) := by decide +kernel
theorem dX11_make_133 : decode cX11_make 133 = .ok (.lastore, 1) := by decide +kernel
theorem dX11_make_134 : decode cX11_make 134 = .ok (.aload_n 0, 1) := by decide +kernel
theorem dX11_make_135 : decode cX11_make 135 = .ok (.getfield 99, 3) := by decide +kernel
theorem dX11_make_138 : decode cX11_make 138 = .ok (.bipush 19, 2) := by decide +kernel
theorem dX11_make_140 : decode cX11_make 140 = .ok (.iload 6, 2) := by decide +kernel
theorem dX11_make_142 : decode cX11_make 142 = .ok (.imul, 1) := by decide +kernel
theorem dX11_make_143 : decode cX11_make 143 = .ok (.iconst 2, 1) := by decide +kernel
theorem dX11_make_144 : decode cX11_make 144 = .ok (.iadd, 1) := by decide +kernel
theorem dX11_make_145 : decode cX11_make 145 = .ok (.lload 4, 2) := by decide +kernel
theorem dX11_make_147 : decode cX11_make 147 = .ok (.lconst 1, 1) := by decide +kernel
theorem dX11_make_148 : decode cX11_make 148 = .ok (.ladd, 1) := by decide +kernel
theorem dX11_make_149 : decode cX11_make 149 = .ok (.lastore, 1) := by decide +kernel
theorem dX11_make_150 : decode cX11_make 150 = .ok (.aload_n 0, 1) := by decide +kernel
theorem dX11_make_151 : decode cX11_make 151 = .ok (.iload 6, 2) := by decide +kernel
theorem dX11_make_153 : decode cX11_make 153 = .ok (.i2l, 1) := by decide +kernel
theorem dX11_make_154 : decode cX11_make 154 = .ok (.invokevirtual 221, 3) := by decide +kernel
theorem dX11_make_157 : decode cX11_make 157 = .ok (.return_, 1) := by decide +kernel
theorem dX11_calls_0 : decode cX11_calls 0 = .ok (.aload_n 0, 1) := by decide +kernel
theorem dX11_calls_1 : decode cX11_calls 1 = .ok (.getfield 203, 3) := by decide +kernel
theorem dX11_calls_4 : decode cX11_calls 4 = .ok (.iconst 1, 1) := by decide +kernel
theorem dX11_calls_5 : decode cX11_calls 5 = .ok (.isub, 1) := by decide +kernel
theorem dX11_calls_6 : decode cX11_calls 6 = .ok (.istore_n 2, 1) := by decide +kernel
theorem dX11_calls_7 : decode cX11_calls 7 = .ok (.aload_n 0, 1) := by decide +kernel
theorem dX11_calls_8 : decode cX11_calls 8 = .ok (.invokevirtual 262, 3) := by decide +kernel
theorem dX11_calls_11 : decode cX11_calls 11 = .ok (.lstore_n 3, 1) := by decide +kernel
theorem dX11_calls_12 : decode cX11_calls 12 = .ok (.iload_n 1, 1) := by decide +kernel
theorem dX11_calls_13 : decode cX11_calls 13 = .ok (.ifCond .eq 7, 3) := by decide +kernel
theorem dX11_calls_16 : decode cX11_calls 16 = .ok (.lconst 0, 1) := by decide +kernel
theorem dX11_calls_17 : decode cX11_calls 17 = .ok (.goto 7, 3) := by decide +kernel
theorem dX11_calls_20 : decode cX11_calls 20 = .ok (.aload_n 0, 1) := by decide +kernel
theorem dX11_calls_21 : decode cX11_calls 21 = .ok (.invokevirtual 262, 3) := by decide +kernel
theorem dX11_calls_24 : decode cX11_calls 24 = .ok (.lstore 5, 2) := by decide +kernel
theorem dX11_calls_26 : decode cX11_calls 26 = .ok (.aload_n 0, 1) := by decide +kernel
theorem dX11_calls_27 : decode cX11_calls 27 = .ok (.invokevirtual 262, 3) := by decide +kernel
theorem dX11_calls_30 : decode cX11_calls 30 = .ok (.lstore 7, 2) := by decide +kernel
theorem dX11_calls_32 : decode cX11_calls 32 = .ok (.aload_n 0, 1) := by decide +kernel
theorem dX11_calls_33 : decode cX11_calls 33 = .ok (.invokevirtual 262, 3) := by decide +kernel
theorem dX11_calls_36 : decode cX11_calls 36 = .ok (.lstore 9, 2) := by decide +kernel
theorem dX11_calls_38 : decode cX11_calls 38 = .ok (.aload_n 0, 1) := by decide +kernel
theorem dX11_calls_39 : decode cX11_calls 39 = .ok (.getfield 132, 3) := by decide +kernel
theorem dX11_calls_42 : decode cX11_calls 42 = .ok (.iload_n 2, 1) := by decide +kernel
theorem dX11_calls_43 : decode cX11_calls 43 = .ok (.baload, 1) := by decide +kernel
theorem dX11_calls_44 : decode cX11_calls 44 = .ok (.ifCond .eq 17, 3) := by decide +kernel
theorem dX11_calls_47 : decode cX11_calls 47 = .ok (.lload 5, 2) := by decide +kernel
theorem dX11_calls_49 : decode cX11_calls 49 = .ok (.lconst 0, 1) := by decide +kernel
theorem dX11_calls_50 : decode cX11_calls 50 = .ok (.lcmp, 1) := by decide +kernel
theorem dX11_calls_51 : decode cX11_calls 51 = .ok (.ifCond .eq 10, 3) := by decide +kernel
theorem dX11_calls_54 : decode cX11_calls 54 = .ok (.aload_n 0, 1) := by decide +kernel
theorem dX11_calls_55 : decode cX11_calls 55 = .ok (.iconst 3, 1) := by decide +kernel
theorem dX11_calls_56 : decode cX11_calls 56 = .ok (.lconst 0, 1) := by decide +kernel
theorem dX11_calls_57 : decode cX11_calls 57 = .ok (.invokevirtual 231, 3) := by decide +kernel
theorem dX11_calls_60 : decode cX11_calls 60 = .ok (.return_, 1) := by decide +kernel
theorem dX11_calls_61 : decode cX11_calls 61 = .ok (.lload 9, 2) := by decide +kernel
theorem dX11_calls_63 : decode cX11_calls 63 = .ok (.lconst 0, 1) := by decide +kernel
theorem dX11_calls_64 : decode cX11_calls 64 = .ok (.lcmp, 1) := by decide +kernel
theorem dX11_calls_65 : decode cX11_calls 65 = .ok (.ifCond .ge 7, 3) := by decide +kernel
theorem dX11_calls_68 : decode cX11_calls 68 = .ok (.lconst 0, 1) := by decide +kernel
theorem dX11_calls_69 : decode cX11_calls 69 = .ok (.goto 26, 3) := by decide +kernel
theorem dX11_calls_72 : decode cX11_calls 72 = .ok (.lload 9, 2) := by decide +kernel
theorem dX11_calls_74 : decode cX11_calls 74 = .ok (.aload_n 0, 1) := by decide +kernel
theorem dX11_calls_75 : decode cX11_calls 75 = .ok (.getfield 117, 3) := by decide +kernel
theorem dX11_calls_78 : decode cX11_calls 78 = .ok (.iload_n 2, 1) := by decide +kernel
theorem dX11_calls_79 : decode cX11_calls 79 = .ok (.laload, 1) := by decide +kernel
theorem dX11_calls_80 : decode cX11_calls 80 = .ok (.lcmp, 1) := by decide +kernel
theorem dX11_calls_81 : decode cX11_calls 81 = .ok (.ifCond .ge 8, 3) := by decide +kernel
theorem dX11_calls_84 : decode cX11_calls 84 = .ok (.lload 9, 2) := by decide +kernel
theorem dX11_calls_86 : decode cX11_calls 86 = .ok (.goto 9, 3) := by decide +kernel
theorem dX11_calls_89 : decode cX11_calls 89 = .ok (.aload_n 0, 1) := by decide +kernel
theorem dX11_calls_90 : decode cX11_calls 90 = .ok (.getfield 117, 3) := by decide +kernel
theorem dX11_calls_93 : decode cX11_calls 93 = .ok (.iload_n 2, 1) := by decide +kernel
theorem dX11_calls_94 : decode cX11_calls 94 = .ok (.laload, 1) := by decide +kernel
theorem dX11_calls_95 : decode cX11_calls 95 = .ok (.lstore 11, 2) := by decide +kernel
theorem dX11_calls_97 : decode cX11_calls 97 = .ok (.aload_n 0, 1) := by decide +kernel
theorem dX11_calls_98 : decode cX11_calls 98 = .ok (.getfield 117, 3) := by decide +kernel
theorem dX11_calls_101 : decode cX11_calls 101 = .ok (.iload_n 2, 1) := by decide +kernel
theorem dX11_calls_102 : decode cX11_calls 102 = .ok (.dup2, 1) := by decide +kernel
theorem dX11_calls_103 : decode cX11_calls 103 = .ok (.laload, 1) := by decide +kernel
theorem dX11_calls_104 : decode cX11_calls 104 = .ok (.lload 11, 2) := by decide +kernel
theorem dX11_calls_106 : decode cX11_calls 106 = .ok (.lsub, 1) := by decide +kernel
theorem dX11_calls_107 : decode cX11_calls 107 = .ok (.lastore, 1) := by decide +kernel
theorem dX11_calls_108 : decode cX11_calls 108 = .ok (.aload_n 0, 1) := by decide +kernel
theorem dX11_calls_109 : decode cX11_calls 109 = .ok (.aload_n 0, 1) := by decide +kernel
theorem dX11_calls_110 : decode cX11_calls 110 = .ok (.getfield 120, 3) := by decide +kernel
theorem dX11_calls_113 : decode cX11_calls 113 = .ok (.iload_n 2, 1) := by decide +kernel
theorem dX11_calls_114 : decode cX11_calls 114 = .ok (.iaload, 1) := by decide +kernel
theorem dX11_calls_115 : decode cX11_calls 115 = .ok (.lload_n 3, 1) := by decide +kernel
theorem dX11_calls_116 : decode cX11_calls 116 = .ok (.lload 5, 2) := by decide +kernel
theorem dX11_calls_118 : decode cX11_calls 118 = .ok (.lload 7, 2) := by decide +kernel
theorem dX11_calls_120 : decode cX11_calls 120 = .ok (.lload 11, 2) := by decide +kernel
theorem dX11_calls_122 : decode cX11_calls 122 = .ok (.iload_n 1, 1) := by decide +kernel
theorem dX11_calls_123 : decode cX11_calls 123 = .ok (.ifCond .ne 12, 3) := by decide +kernel
theorem dX11_calls_126 : decode cX11_calls 126 = .ok (.aload_n 0, 1) := by decide +kernel
theorem dX11_calls_127 : decode cX11_calls 127 = .ok (.getfield 132, 3) := by decide +kernel
theorem dX11_calls_130 : decode cX11_calls 130 = .ok (.iload_n 2, 1) := by decide +kernel
theorem dX11_calls_131 : decode cX11_calls 131 = .ok (.baload, 1) := by decide +kernel
theorem dX11_calls_132 : decode cX11_calls 132 = .ok (.ifCond .eq 7, 3) := by decide +kernel
theorem dX11_calls_135 : decode cX11_calls 135 = .ok (.iconst 1, 1) := by decide +kernel
theorem dX11_calls_136 : decode cX11_calls 136 = .ok (.goto 4, 3) := by decide +kernel
theorem dX11_calls_139 : decode cX11_calls 139 = .ok (.iconst 0, 1) := by decide +kernel
theorem dX11_calls_140 : decode cX11_calls 140 = .ok (.invokevirtual 291, 3) := by decide +kernel
theorem dX11_calls_143 : decode cX11_calls 143 = .ok (.ifCond .ne 12, 3) := by decide +kernel
theorem dX11_calls_146 : decode cX11_calls 146 = .ok (.aload_n 0, 1) := by decide +kernel
theorem dX11_calls_147 : decode cX11_calls 147 = .ok (.invokevirtual 228, 3) := by decide +kernel
theorem dX11_calls_150 : decode cX11_calls 150 = .ok (.aload_n 0, 1) := by decide +kernel
theorem dX11_calls_151 : decode cX11_calls 151 = .ok (.iconst 0, 1) := by decide +kernel
theorem dX11_calls_152 : decode cX11_calls 152 = .ok (.putfield 193, 3) := by decide +kernel
theorem dX11_calls_155 : decode cX11_calls 155 = .ok (.return_, 1) := by decide +kernel
theorem dX11_greater_0 : decode cX11_greater 0 = .ok (.aload_n 0, 1) := by decide +kernel
theorem dX11_greater_1 : decode cX11_greater 1 = .ok (.getfield 203, 3) := by decide +kernel
theorem dX11_greater_4 : decode cX11_greater 4 = .ok (.iconst 1, 1) := by decide +kernel
theorem dX11_greater_5 : decode cX11_greater 5 = .ok (.isub, 1) := by decide +kernel
theorem dX11_greater_6 : decode cX11_greater 6 = .ok (.istore_n 2, 1) := by decide +kernel
theorem dX11_greater_7 : decode cX11_greater 7 = .ok (.aload_n 0, 1) := by decide +kernel
theorem dX11_greater_8 : decode cX11_greater 8 = .ok (.getfield 120, 3) := by decide +kernel
theorem dX11_greater_11 : decode cX11_greater 11 = .ok (.iload_n 2, 1) := by decide +kernel
theorem dX11_greater_12 : decode cX11_greater 12 = .ok (.iaload, 1) := by decide +kernel
theorem dX11_greater_13 : decode cX11_greater 13 = .ok (.istore_n 3, 1) := by decide +kernel
theorem dX11_greater_14 : decode cX11_greater 14 = .ok (.iload_n 1, 1) := by decide +kernel
theorem dX11_greater_15 : decode cX11_greater 15 = .ok (.tableswitch 162 31 38 #[45, 45, 63, 71, 122, 130, 142, 154], 45) := by decide +kernel
theorem dX11_greater_60 : decode cX11_greater 60 = .ok (.aload_n 0, 1) := by decide +kernel
theorem dX11_greater_61 : decode cX11_greater 61 = .ok (.iload_n 1, 1) := by decide +kernel
theorem dX11_greater_62 : decode cX11_greater 62 = .ok (.bipush 32, 2) := by decide +kernel
theorem dX11_greater_64 : decode cX11_greater 64 = .ok (.if_icmp .ne 7, 3) := by decide +kernel
theorem dX11_greater_67 : decode cX11_greater 67 = .ok (.iconst 1, 1) := by decide +kernel
theorem dX11_greater_68 : decode cX11_greater 68 = .ok (.goto 4, 3) := by decide +kernel
theorem dX11_greater_71 : decode cX11_greater 71 = .ok (.iconst 0, 1) := by decide +kernel
theorem dX11_greater_72 : decode cX11_greater 72 = .ok (.invokevirtual 278, 3) := by decide +kernel
theorem dX11_greater_75 : decode cX11_greater 75 = .ok (.goto 109, 3) := by decide +kernel
theorem dX11_greater_78 : decode cX11_greater 78 = .ok (.aload_n 0, 1) := by decide +kernel
theorem dX11_greater_79 : decode cX11_greater 79 = .ok (.iload_n 3, 1) := by decide +kernel
theorem dX11_greater_80 : decode cX11_greater 80 = .ok (.invokevirtual 282, 3) := by decide +kernel
theorem dX11_greater_83 : decode cX11_greater 83 = .ok (.goto 101, 3) := by decide +kernel
theorem dX11_greater_86 : decode cX11_greater 86 = .ok (.aload_n 0, 1) := by decide +kernel
theorem dX11_greater_87 : decode cX11_greater 87 = .ok (.invokevirtual 262, 3) := by decide +kernel
theorem dX11_greater_90 : decode cX11_greater 90 = .ok (.lstore 4, 2) := by decide +kernel
theorem dX11_greater_92 : decode cX11_greater 92 = .ok (.lload 4, 2) := by decide +kernel
theorem dX11_greater_94 : decode cX11_greater 94 = .ok (.lconst 0, 1) := by decide +kernel
theorem dX11_greater_95 : decode cX11_greater 95 = .ok (.lcmp, 1) := by decide +kernel
theorem dX11_greater_96 : decode cX11_greater 96 = .ok (.ifCond .lt 14, 3) := by decide +kernel
theorem dX11_greater_99 : decode cX11_greater 99 = .ok (.lload 4, 2) := by decide +kernel
theorem dX11_greater_101 : decode cX11_greater 101 = .ok (.aload_n 0, 1) := by decide +kernel
theorem dX11_greater_102 : decode cX11_greater 102 = .ok (.getfield 172, 3) := by decide +kernel
theorem dX11_greater_105 : decode cX11_greater 105 = .ok (.i2l, 1) := by decide +kernel
theorem dX11_greater_106 : decode cX11_greater 106 = .ok (.lcmp, 1) := by decide +kernel
theorem dX11_greater_107 : decode cX11_greater 107 = .ok (.ifCond .lt 12, 3) := by decide +kernel
theorem dX11_greater_110 : decode cX11_greater 110 = .ok (.aload_n 0, 1) := by decide +kernel
theorem dX11_greater_111 : decode cX11_greater 111 = .ok (.iconst 3, 1) := by decide +kernel
theorem dX11_greater_112 : decode cX11_greater 112 = .ok (.lconst 0, 1) := by decide +kernel
theorem dX11_greater_113 : decode cX11_greater 113 = .ok (.invokevirtual 231, 3) := by decide +kernel
theorem dX11_greater_116 : decode cX11_greater 116 = .ok (.goto 68, 3) := by decide +kernel
theorem dX11_greater_119 : decode cX11_greater 119 = .ok (.aload_n 0, 1) := by decide +kernel
theorem dX11_greater_120 : decode cX11_greater 120 = .ok (.getfield 99, 3) := by decide +kernel
theorem dX11_greater_123 : decode cX11_greater 123 = .ok (.bipush 19, 2) := by decide +kernel
theorem dX11_greater_125 : decode cX11_greater 125 = .ok (.iload_n 3, 1) := by decide +kernel
theorem dX11_greater_126 : decode cX11_greater 126 = .ok (.imul, 1) := by decide +kernel
theorem dX11_greater_127 : decode cX11_greater 127 = .ok (.iconst 2, 1) := by decide +kernel
theorem dX11_greater_128 : decode cX11_greater 128 = .ok (.iadd, 1) := by decide +kernel
theorem dX11_greater_129 : decode cX11_greater 129 = .ok (.lload 4, 2) := by decide +kernel
theorem dX11_greater_131 : decode cX11_greater 131 = .ok (.lconst 1, 1) := by decide +kernel
theorem dX11_greater_132 : decode cX11_greater 132 = .ok (.ladd, 1) := by decide +kernel
theorem dX11_greater_133 : decode cX11_greater 133 = .ok (.lastore, 1) := by decide +kernel
theorem dX11_greater_134 : decode cX11_greater 134 = .ok (.goto 50, 3) := by decide +kernel
theorem dX11_greater_137 : decode cX11_greater 137 = .ok (.aload_n 0, 1) := by decide +kernel
theorem dX11_greater_138 : decode cX11_greater 138 = .ok (.iload_n 3, 1) := by decide +kernel
theorem dX11_greater_139 : decode cX11_greater 139 = .ok (.invokevirtual 285, 3) := by decide +kernel
theorem dX11_greater_142 : decode cX11_greater 142 = .ok (.goto 42, 3) := by decide +kernel
theorem dX11_greater_145 : decode cX11_greater 145 = .ok (.aload_n 0, 1) := by decide +kernel
theorem dX11_greater_146 : decode cX11_greater 146 = .ok (.iconst 1, 1) := by decide +kernel
theorem dX11_greater_147 : decode cX11_greater 147 = .ok (.aload_n 0, 1) := by decide +kernel
theorem dX11_greater_148 : decode cX11_greater 148 = .ok (.invokevirtual 262, 3) := by decide +kernel
theorem dX11_greater_151 : decode cX11_greater 151 = .ok (.invokevirtual 231, 3) := by decide +kernel
theorem dX11_greater_154 : decode cX11_greater 154 = .ok (.goto 30, 3) := by decide +kernel
theorem dX11_greater_157 : decode cX11_greater 157 = .ok (.aload_n 0, 1) := by decide +kernel
theorem dX11_greater_158 : decode cX11_greater 158 = .ok (.iconst 2, 1) := by decide +kernel
theorem dX11_greater_159 : decode cX11_greater 159 = .ok (.aload_n 0, 1) := by decide +kernel
theorem dX11_greater_160 : decode cX11_greater 160 = .ok (.invokevirtual 262, 3) := by decide +kernel
theorem dX11_greater_163 : decode cX11_greater 163 = .ok (.invokevirtual 231, 3) := by decide +kernel
theorem dX11_greater_166 : decode cX11_greater 166 = .ok (.goto 18, 3) := by decide +kernel
theorem dX11_greater_169 : decode cX11_greater 169 = .ok (.aload_n 0, 1) := by decide +kernel
theorem dX11_greater_170 : decode cX11_greater 170 = .ok (.iload_n 3, 1) := by decide +kernel
theorem dX11_greater_171 : decode cX11_greater 171 = .ok (.invokevirtual 288, 3) := by decide +kernel
theorem dX11_greater_174 : decode cX11_greater 174 = .ok (.goto 10, 3) := by decide +kernel
theorem dX11_greater_177 : decode cX11_greater 177 = .ok (.aload_n 0, 1) := by decide +kernel
theorem dX11_greater_178 : decode cX11_greater 178 = .ok (.getfield 135, 3) := by decide +kernel
theorem dX11_greater_181 : decode cX11_greater 181 = .ok (.iload_n 2, 1) := by decide +kernel
theorem dX11_greater_182 : decode cX11_greater 182 = .ok (.iconst 1, 1) := by decide +kernel
theorem dX11_greater_183 : decode cX11_greater 183 = .ok (.bastore, 1) := by decide +kernel
theorem dX11_greater_184 : decode cX11_greater 184 = .ok (.return_, 1) := by decide +kernel
theorem rY_emit {S0 S : gs_T} {g : vg_T} {n : Nat → Int64} {e : List (Nat × Int64 × Int64)} {b m E : Nat} {gs : List vf_T} (h : rm_Y S0 S g (n, e, b, gs, m) E) (sf : Nat) (tp dt : Int64) : rm_Y S0 (rx_u (rx_u S.1 97 e.length (nI sf)) 52 52 (nI (e.length + 1)), rx_u (rx_u S.2 98 e.length tp) 99 e.length dt) g (n, (sf, tp, dt) :: e, b, gs, m) E := by
  obtain ⟨⟨⟨g1, g2, g3, g4⟩, h2, ⟨h3, h4⟩, h5, ⟨h6, h7⟩, h8⟩, hr, h9⟩ := h
  refine ⟨⟨⟨fun c hc => by simpa [rx_ru] using g1 c hc, by simpa [rx_ru] using g2, by simpa [rx_ru] using g3, by simpa [rx_ru] using g4⟩, fun j hj => by simpa [rx_ru] using h2 j hj, ⟨by simp [rx_ru], ⟨by simp [rx_ru], by simp [rx_ru], by simp [rx_ru]⟩, ?_⟩, by simpa [rx_ru] using h5, ⟨by simpa [rx_ru] using h6, ?_⟩, by simpa [rx_ru] using h8⟩, ?_, by simpa [rx_ru] using h9⟩
  · exact rm_E_congr (S := S) (fun i hi => ⟨by simp [rx_ru, Nat.ne_of_lt hi], by simp [rx_ru, Nat.ne_of_lt hi], by simp [rx_ru, Nat.ne_of_lt hi]⟩) h4
  · exact rm_Fs_congr (S := S) (fun i _ => ⟨fun a ha ha2 _ => ⟨by show rx_u (rx_u S.1 97 _ _) 52 52 _ a i = _; rw [rx_une _ (by omega), rx_une _ (by omega)], by show rx_u (rx_u S.2 98 _ _) 99 _ _ a i = _; rw [rx_une _ (by omega), rx_une _ (by omega)]⟩, ⟨by simp [rx_ru], by simp [rx_ru]⟩, fun _ _ => by simp [rx_ru], fun _ _ => by simp [rx_ru]⟩) h7
  · exact rm_rest_L (S := (_, rx_u S.2 98 e.length tp)) (rm_rest_L (S := (_, S.2)) (rm_rest_I (S := (rx_u S.1 97 e.length (nI sf), S.2)) (rm_rest_I hr (by omega)) (by omega)) (by omega)) (by omega)
theorem cr_emit {G : rx_E} {d : Nat} {C : rx_M} {S0 S : gs_T} {g : vg_T} {n : Nat → Int64} {e : List (Nat × Int64 × Int64)} {b m c a q s k : Nat} {v r : Int64} {l o : Bool} {t : List Int64} {w : (Nat → Int64) × Nat × Nat} {fs : List vf_T} (hG : rx_OK G) {x y : Int64} (hp : fs.length < 11) (he : e.length ≤ 2001) (hY : rm_Y S0 S g (n, e, b, ((c, a, q, s, k), (v, r), (l, o), (y :: (x :: t)), w) :: fs, m) 0) : rx_C G MX11_emit (d + 1) [.ref 52, .int (nI s)] (gl C S) 0 0 (rq_Y C S0 g (n, ((s, x, y) :: e), b, ((c, a, q, s, k), (v, r), (l, o), t, w) :: fs, m) 0 none) := by
  refine rx_meth0 (by decide +kernel) rfl (Nat.le_of_ble_eq_true rfl) ?_
  refine rx_aload_n dX11_emit_0 rfl rfl ?_
  refine gv_invV (as := []) hG okX11_pop lk_RX11_262 rfl rfl dX11_emit_1 rfl (by simp [Value.category]) (cr_pop hG hY (by omega)) ?_
  rintro _ _ ⟨rfl, _, rfl, hY1⟩
  refine rx_lstore_n dX11_emit_4 (by decide) ?_
  refine rx_aload_n dX11_emit_5 rfl rfl ?_
  refine gv_invV (as := []) hG okX11_pop lk_RX11_262 rfl rfl dX11_emit_6 rfl (by simp [Value.category]) (cr_pop hG hY1 (by omega)) ?_
  rintro _ _ ⟨rfl, _, rfl, hY2⟩
  refine rx_lstore dX11_emit_9 (by decide) ?_
  refine rx_aload_n dX11_emit_11 rfl rfl ?_
  refine g_getR hG hf_RX11_144 rfl dX11_emit_12 rfl rfl rfl ?_
  refine rx_aload_n dX11_emit_15 rfl rfl ?_
  refine gmv_getI (v := nI e.length) hG hf_RX11_212 rfl dX11_emit_16 rfl rfl rfl (rY_ev hY2) ?_
  refine rx_iload_n dX11_emit_19 rfl ?_
  refine gm_iast (j := e.length) hG dX11_emit_20 rfl rfl rfl rfl (by omega) (by decide) ?_
  refine rx_aload_n dX11_emit_21 rfl rfl ?_
  refine g_getR hG hf_RX11_147 rfl dX11_emit_22 rfl rfl rfl ?_
  refine rx_aload_n dX11_emit_25 rfl rfl ?_
  refine gmv_getI (v := nI e.length) hG hf_RX11_212 rfl dX11_emit_26 rfl rfl rfl (by simpa [rx_ru] using rY_ev hY2) ?_
  refine rx_lload dX11_emit_29 rfl ?_
  refine gm_last (j := e.length) hG dX11_emit_31 rfl rfl rfl rfl (by omega) (by decide) ?_
  refine rx_aload_n dX11_emit_32 rfl rfl ?_
  refine g_getR hG hf_RX11_150 rfl dX11_emit_33 rfl rfl rfl ?_
  refine rx_aload_n dX11_emit_36 rfl rfl ?_
  refine gmv_getI (v := nI e.length) hG hf_RX11_212 rfl dX11_emit_37 rfl rfl rfl (by simpa [rx_ru] using rY_ev hY2) ?_
  refine rx_lload_n dX11_emit_40 rfl ?_
  refine gm_last (j := e.length) hG dX11_emit_41 rfl rfl rfl rfl (by omega) (by decide) ?_
  refine rx_aload_n dX11_emit_42 rfl rfl ?_
  refine rx_dup dX11_emit_43 rfl ?_
  refine gmv_getI (v := nI e.length) hG hf_RX11_212 rfl dX11_emit_44 rfl rfl rfl (by simpa [rx_ru] using rY_ev hY2) ?_
  refine rx_iconst (v := nI 1) dX11_emit_47 rfl ?_
  refine rx_iadd dX11_emit_48 ?_
  refine rx_ti (y := nI (e.length + 1)) ((nI_add _ _).trans (congrArg nI (by omega))) ?_
  refine gm_putI hG hf_RX11_212 (gw_nf rfl rfl) rfl dX11_emit_49 rfl rfl rfl rfl rfl ?_
  refine rY_ab (rY_emit hY2 s x y) (fun _ hY3 => ?_)
  exact rx_vret rfl dX11_emit_52 ⟨rfl, _, rfl, hY3⟩
theorem vd5_38b {X : vx_S} {c a q s k : Nat} {v r : Int64} {l o : Bool} {t : List Int64} {w : (Nat → Int64) × Nat × Nat} {fs : List vf_T} {z : List Int64} {y : Int64} (h : ¬ vm_acct y ∨ y = lN s) : vm_close X y ((c, a, q, s, k), (v, r), (l, o), z, w) fs t = vm_end X ((c, a, q, s, k), (v, r), (l, o), t, w) fs 3 0 := by
  unfold vm_close
  rw [if_pos h]
  rfl
theorem vd5_38 {X : vx_S} {c a q s k : Nat} {v r : Int64} {l o : Bool} {t : List Int64} {w : (Nat → Int64) × Nat × Nat} {fs : List vf_T} {z : List Int64} {j : Nat} (h : j < 32) (h1 : ¬ lN j = lN s) : vm_close X (lN j) ((c, a, q, s, k), (v, r), (l, o), z, w) fs t = vm_end (vm_clear (up1 (up1 X.1 (19 * j) (X.1 (19 * j) + X.1 (19 * s))) (19 * s) 0) s, X.2) ((c, a, q, s, k), (v, r), (l, o), t, w) fs 1 0 := by
  unfold vm_close
  rw [if_neg (fun q => q.elim (fun q => q (lN_isacct h)) h1), lN_toNat (by omega)]
  rfl
def vm_clr (n : Nat → Int64) (s i : Nat) : Nat → Int64 := fun j => if 19 * s + 2 ≤ j ∧ j < 19 * s + i then 0 else n j
theorem vm_clr_2 {n : Nat → Int64} {s : Nat} : vm_clr n s 2 = n := by funext j; unfold vm_clr; rw [if_neg (fun q => by omega)]
theorem lm_close {G : rx_E} {d mc ms E : Nat} {C : rx_M} {S0 : gs_T} {g : vg_T} {n : Nat → Int64} {e : List (Nat × Int64 × Int64)} {b m s : Nat} {gs : List vf_T} {Q : Option Value → rx_M → Prop} {Z : String → rx_M → Prop} (hG : rx_OK G) (hs : s < 32) (K : ∀ S, rm_Y S0 S g (vm_clear n s, e, b, gs, m) E → rx_W G MX11_close d 87 [(4, .int (nI 19)), (0, .ref 52), (1, .int (nI s))] [] (gl C S) mc ms Q Z) : ∀ (k i : Nat), i + k = 19 → 2 ≤ i → ∀ S, rm_Y S0 S g ((vm_clr n s i), e, b, gs, m) E → rx_W G MX11_close d 61 [(4, .int (nI i)), (0, .ref 52), (1, .int (nI s))] [] (gl C S) mc ms Q Z := by
  intro k
  induction k with
  | zero =>
    intro i hi _ S hY
    have hi : i = 19 := by omega
    subst hi
    refine rx_iload dX11_close_61 rfl ?_
    refine rx_bipush (v := nI 19) dX11_close_63 rfl ?_
    exact rx_icmp_ge (tgt := 87) dX11_close_65 (by decide) (fun _ => K S hY) (fun h => absurd (by rw [nI_leI (by omega) (by omega)]; omega) h)
  | succ k ih =>
    intro i hi hi2 S hY
    refine rx_iload dX11_close_61 rfl ?_
    refine rx_bipush (v := nI 19) dX11_close_63 rfl ?_
    refine rx_icmp_ge (tgt := 87) dX11_close_65 (by decide) (fun h => absurd h (by rw [nI_leI (by omega) (by omega)]; omega)) (fun h65 => ?_)
    refine rx_aload_n dX11_close_68 rfl rfl ?_
    refine g_getR hG hf_RX11_99 rfl dX11_close_69 rfl rfl rfl ?_
    refine rx_bipush (v := nI 19) dX11_close_72 rfl ?_
    refine rx_iload_n dX11_close_74 rfl ?_
    refine rx_imul dX11_close_75 ?_
    refine rx_ti (y := nI (19 * s)) ((pk_mul _ _).trans (congrArg nI (by omega))) ?_
    refine rx_iload dX11_close_76 rfl ?_
    refine rx_iadd dX11_close_78 ?_
    refine rx_ti (y := nI (i + 19 * s)) ((nI_add _ _).trans (congrArg nI (by omega))) ?_
    refine rx_lconst (v := lN 0) dX11_close_79 rfl ?_
    refine gm_last (j := i + 19 * s) hG dX11_close_80 rfl rfl rfl rfl (by omega) (by decide) ?_
    refine rY_ab (rY_setNow hY (i + 19 * s) (lN 0)) (fun _ hY1 => ?_)
    refine rx_iinc (v := nI (i + 1)) dX11_close_81 rfl ((nI_add _ 1).trans (congrArg nI (by omega))) ?_
    refine rx_goto (tgt := 61) dX11_close_84 (by decide) ?_
    refine rx_lv (lv' := [(4, .int (nI (i + 1))), (0, .ref 52), (1, .int (nI s))]) ⟨rfl, rfl, rfl, trivial⟩ ?_
    refine ih (i + 1) (by omega) (by omega) _ ?_
    have e1 : up1 (vm_clr n s i) (i + 19 * s) (lN 0) = (vm_clr n s (i + 1)) := by
      funext j
      unfold up1 vm_clr
      by_cases h1 : j = i + 19 * s
      · subst h1; rw [if_pos rfl, if_pos ⟨by omega, by omega⟩]; rfl
      · rw [if_neg h1]; by_cases h2 : 19 * s + 2 ≤ j ∧ j < 19 * s + i
        · rw [if_pos h2, if_pos ⟨h2.1, by omega⟩]
        · rw [if_neg h2, if_neg (fun q => h2 ⟨q.1, by omega⟩)]
    rw [← e1]; exact hY1
theorem cr_close {G : rx_E} {d : Nat} {C : rx_M} {S0 S : gs_T} {g : vg_T} {n : Nat → Int64} {e : List (Nat × Int64 × Int64)} {b m c a q s k : Nat} {v r : Int64} {l o : Bool} {t : List Int64} {w : (Nat → Int64) × Nat × Nat} {fs : List vf_T} (hG : rx_OK G) {y : Int64} (hp : fs.length < 11) (hs : s < 32) (hw : w.2.1 ≤ e.length) (hlow : vw_low fs) (hY : rm_Y S0 S g (n, e, b, ((c, a, q, s, k), (v, r), (l, o), (y :: t), w) :: fs, m) 0) : rx_C G MX11_close (d + 2) [.ref 52, .int (nI s)] (gl C S) 0 0 (rq_on C S0 g (vm_close (n, e, b, ((c, a, q, s, k), (v, r), (l, o), (y :: t), w) :: fs, m) y ((c, a, q, s, k), (v, r), (l, o), (y :: t), w) fs t)) := by
  refine rx_meth0 (by decide +kernel) rfl (Nat.le_of_ble_eq_true rfl) ?_
  have ht : t.length + 1 ≤ 24 := rY_n hY
  by_cases hac : vm_acct y
  · obtain ⟨j, hj, rfl⟩ := lN_acct hac
    refine rx_aload_n dX11_close_0 rfl rfl ?_
    refine gv_invV (as := []) hG okX11_pop lk_RX11_262 rfl rfl dX11_close_1 rfl (by simp [Value.category]) (cr_pop hG hY (by omega)) ?_
    rintro _ _ ⟨rfl, _, rfl, hY1⟩
    refine rx_lstore_n dX11_close_4 (by decide) ?_
    refine rx_lload_n dX11_close_5 rfl ?_
    refine rx_invS0 (as := [.long _]) hG okX11_isAccount lk_RX11_181 dX11_close_6 rfl (by simp [Value.category]) (cm_isAccountT hG hac) ?_
    rintro _ _ ⟨rfl, rfl⟩
    refine rx_if_eq (tgt := 19) dX11_close_9 (by decide) (fun h9 => (absurd h9 (by decide))) (fun h9 => ?_)
    refine rx_lload_n dX11_close_12 rfl ?_
    refine rx_iload_n dX11_close_13 rfl ?_
    refine rx_i2l dX11_close_14 ?_
    refine rx_tl (y := lN s) (nI_l (by omega)) ?_
    refine rx_lc_ne (tgt := 26) dX11_close_15 dX11_close_16 (by decide) (fun h15 => ?_) (fun h15 => ?_)
    · rw [lN_eq (by omega) (by omega)] at h15
      refine rx_aload_n dX11_close_26 rfl rfl ?_
      refine g_getR hG hf_RX11_99 rfl dX11_close_27 rfl rfl rfl ?_
      refine rx_bipush (v := nI 19) dX11_close_30 rfl ?_
      refine rx_lload_n dX11_close_32 rfl ?_
      refine rx_l2i dX11_close_33 ?_
      refine rx_ti (y := nI j) (lN_i _) ?_
      refine rx_imul dX11_close_34 ?_
      refine rx_ti (y := nI (19 * j)) ((pk_mul _ _).trans (congrArg nI (by omega))) ?_
      refine rx_dup2 dX11_close_35 rfl rfl ?_
      refine gmv_lald (j := 19 * j) (v := n (19 * j)) hG dX11_close_36 rfl rfl rfl rfl (by omega) (by decide) (rY_now hY1 (by omega)) ?_
      refine rx_aload_n dX11_close_37 rfl rfl ?_
      refine g_getR hG hf_RX11_99 rfl dX11_close_38 rfl rfl rfl ?_
      refine rx_bipush (v := nI 19) dX11_close_41 rfl ?_
      refine rx_iload_n dX11_close_43 rfl ?_
      refine rx_imul dX11_close_44 ?_
      refine rx_ti (y := nI (19 * s)) ((pk_mul _ _).trans (congrArg nI (by omega))) ?_
      refine gmv_lald (j := 19 * s) (v := n (19 * s)) hG dX11_close_45 rfl rfl rfl rfl (by omega) (by decide) (rY_now hY1 (by omega)) ?_
      refine rx_ladd dX11_close_46 ?_
      refine gm_last (j := 19 * j) hG dX11_close_47 rfl rfl rfl rfl (by omega) (by decide) ?_
      refine rY_ab (rY_setNow hY1 (19 * j) ((n (19 * j)) + (n (19 * s)))) (fun _ hY2 => ?_)
      refine rx_aload_n dX11_close_48 rfl rfl ?_
      refine g_getR hG hf_RX11_99 rfl dX11_close_49 rfl rfl rfl ?_
      refine rx_bipush (v := nI 19) dX11_close_52 rfl ?_
      refine rx_iload_n dX11_close_54 rfl ?_
      refine rx_imul dX11_close_55 ?_
      refine rx_ti (y := nI (19 * s)) ((pk_mul _ _).trans (congrArg nI (by omega))) ?_
      refine rx_lconst (v := lN 0) dX11_close_56 rfl ?_
      refine gm_last (j := 19 * s) hG dX11_close_57 rfl rfl rfl rfl (by omega) (by decide) ?_
      refine rY_ab (rY_setNow hY2 (19 * s) (lN 0)) (fun _ hY3 => ?_)
      refine rx_iconst (v := nI 2) dX11_close_58 rfl ?_
      refine rx_istore dX11_close_59 (by decide) ?_
      refine rx_lv (lv' := [(4, .int (nI 2)), (0, .ref 52), (1, .int (nI s))]) ⟨rfl, rfl, rfl, trivial⟩ ?_
      have hY8 := hY3
      rw [← vm_clr_2 (n := up1 (up1 n (19 * j) ((n (19 * j)) + (n (19 * s)))) (19 * s) (lN 0)) (s := s)] at hY8
      refine lm_close hG hs (fun S2 hY9 => ?_) 17 2 (by omega) (by omega) _ hY8
      refine rx_aload_n dX11_close_87 rfl rfl ?_
      refine rx_iconst (v := nI 1) dX11_close_88 rfl ?_
      refine rx_lconst (v := lN 0) dX11_close_89 rfl ?_
      refine gv_invV (as := [.int _, .long _]) hG okX11_finish lk_RX11_231 rfl rfl dX11_close_90 rfl (by simp [Value.category]) (cr_fin1 hG hY9 (by omega) hlow _) ?_
      rintro _ _ ⟨rfl, _, rfl, hF⟩
      exact rx_vret rfl dX11_close_93 ⟨rfl, _, rfl, rm_onE ((vd5_38 hj (fun q => h15 (by rw [lN_eq (by omega) (by omega)] at q; exact q)))) hF⟩
    · rw [lN_eq (by omega) (by omega)] at h15
      refine rx_aload_n dX11_close_19 rfl rfl ?_
      refine rx_iconst (v := nI 3) dX11_close_20 rfl ?_
      refine rx_lconst (v := lN 0) dX11_close_21 rfl ?_
      refine gv_invV (as := [.int _, .long _]) hG okX11_finish lk_RX11_231 rfl rfl dX11_close_22 rfl (by simp [Value.category]) (cr_fin3 hG hY1 (by omega) hlow hw _) ?_
      rintro _ _ ⟨rfl, _, rfl, hF⟩
      exact rx_vret rfl dX11_close_25 ⟨rfl, _, rfl, rm_onE (vd5_38b (Or.inr (congrArg lN h15))) hF⟩
  · skip
    refine rx_aload_n dX11_close_0 rfl rfl ?_
    refine gv_invV (as := []) hG okX11_pop lk_RX11_262 rfl rfl dX11_close_1 rfl (by simp [Value.category]) (cr_pop hG hY (by omega)) ?_
    rintro _ _ ⟨rfl, _, rfl, hY1⟩
    refine rx_lstore_n dX11_close_4 (by decide) ?_
    refine rx_lload_n dX11_close_5 rfl ?_
    refine rx_invS0 (as := [.long _]) hG okX11_isAccount lk_RX11_181 dX11_close_6 rfl (by simp [Value.category]) (cm_isAccountF hG hac) ?_
    rintro _ _ ⟨rfl, rfl⟩
    refine rx_if_eq (tgt := 19) dX11_close_9 (by decide) (fun h9 => ?_) (fun h9 => (absurd h9 (by decide))) 
    refine rx_aload_n dX11_close_19 rfl rfl ?_
    refine rx_iconst (v := nI 3) dX11_close_20 rfl ?_
    refine rx_lconst (v := lN 0) dX11_close_21 rfl ?_
    refine gv_invV (as := [.int _, .long _]) hG okX11_finish lk_RX11_231 rfl rfl dX11_close_22 rfl (by simp [Value.category]) (cr_fin3 hG hY1 (by omega) hlow hw _) ?_
    rintro _ _ ⟨rfl, _, rfl, hF⟩
    exact rx_vret rfl dX11_close_25 ⟨rfl, _, rfl, rm_onE (vd5_38b (Or.inl hac)) hF⟩

theorem dX0_init_0 : decode cX0_init 0 = .ok (.aload_n 0, 1) := by decide +kernel
theorem dX0_init_1 : decode cX0_init 1 = .ok (.invokespecial 1, 3) := by decide +kernel
theorem dX0_init_4 : decode cX0_init 4 = .ok (.aload_n 0, 1) := by decide +kernel
theorem dX0_init_5 : decode cX0_init 5 = .ok (.iload_n 1, 1) := by decide +kernel
theorem dX0_init_6 : decode cX0_init 6 = .ok (.putfield 7, 3) := by decide +kernel
theorem dX0_init_9 : decode cX0_init 9 = .ok (.aload_n 0, 1) := by decide +kernel
theorem dX0_init_10 : decode cX0_init 10 = .ok (.iload_n 2, 1) := by decide +kernel
theorem dX0_init_11 : decode cX0_init 11 = .ok (.putfield 13, 3) := by decide +kernel
theorem dX0_init_14 : decode cX0_init 14 = .ok (.aload_n 0, 1) := by decide +kernel
theorem dX0_init_15 : decode cX0_init 15 = .ok (.aload_n 3, 1) := by decide +kernel
theorem dX0_init_16 : decode cX0_init 16 = .ok (.putfield 16, 3) := by decide +kernel
theorem dX0_init_19 : decode cX0_init 19 = .ok (.aload_n 0, 1) := by decide +kernel
theorem dX0_init_20 : decode cX0_init 20 = .ok (.aload 4, 2) := by decide +kernel
theorem dX0_init_22 : decode cX0_init 22 = .ok (.putfield 20, 3) := by decide +kernel
theorem dX0_init_25 : decode cX0_init 25 = .ok (.aload_n 0, 1) := by decide +kernel
theorem dX0_init_26 : decode cX0_init 26 = .ok (.aload 5, 2) := by decide +kernel
theorem dX0_init_28 : decode cX0_init 28 = .ok (.putfield 23, 3) := by decide +kernel
theorem dX0_init_31 : decode cX0_init 31 = .ok (.aload_n 0, 1) := by decide +kernel
theorem dX0_init_32 : decode cX0_init 32 = .ok (.iload 6, 2) := by decide +kernel
theorem dX0_init_34 : decode cX0_init 34 = .ok (.putfield 26, 3) := by decide +kernel
theorem dX0_init_37 : decode cX0_init 37 = .ok (.return_, 1) := by decide +kernel
theorem dX2_init_0 : decode cX2_init 0 = .ok (.aload_n 0, 1) := by decide +kernel
theorem dX2_init_1 : decode cX2_init 1 = .ok (.invokespecial 3, 3) := by decide +kernel
theorem dX2_init_4 : decode cX2_init 4 = .ok (.aload_n 0, 1) := by decide +kernel
theorem dX2_init_5 : decode cX2_init 5 = .ok (.aload_n 1, 1) := by decide +kernel
theorem dX2_init_6 : decode cX2_init 6 = .ok (.putfield 9, 3) := by decide +kernel
theorem dX2_init_9 : decode cX2_init 9 = .ok (.return_, 1) := by decide +kernel
theorem dX8_init_0 : decode cX8_init 0 = .ok (.aload_n 0, 1) := by decide +kernel
theorem dX8_init_1 : decode cX8_init 1 = .ok (.invokespecial 1, 3) := by decide +kernel
theorem dX8_init_4 : decode cX8_init 4 = .ok (.aload_n 0, 1) := by decide +kernel
theorem dX8_init_5 : decode cX8_init 5 = .ok (.iload_n 1, 1) := by decide +kernel
theorem dX8_init_6 : decode cX8_init 6 = .ok (.putfield 7, 3) := by decide +kernel
theorem dX8_init_9 : decode cX8_init 9 = .ok (.aload_n 0, 1) := by decide +kernel
theorem dX8_init_10 : decode cX8_init 10 = .ok (.iload_n 2, 1) := by decide +kernel
theorem dX8_init_11 : decode cX8_init 11 = .ok (.putfield 13, 3) := by decide +kernel
theorem dX8_init_14 : decode cX8_init 14 = .ok (.aload_n 0, 1) := by decide +kernel
theorem dX8_init_15 : decode cX8_init 15 = .ok (.lload_n 3, 1) := by decide +kernel
theorem dX8_init_16 : decode cX8_init 16 = .ok (.putfield 16, 3) := by decide +kernel
theorem dX8_init_19 : decode cX8_init 19 = .ok (.aload_n 0, 1) := by decide +kernel
theorem dX8_init_20 : decode cX8_init 20 = .ok (.lload 5, 2) := by decide +kernel
theorem dX8_init_22 : decode cX8_init 22 = .ok (.putfield 20, 3) := by decide +kernel
theorem dX8_init_25 : decode cX8_init 25 = .ok (.aload_n 0, 1) := by decide +kernel
theorem dX8_init_26 : decode cX8_init 26 = .ok (.iload 7, 2) := by decide +kernel
theorem dX8_init_28 : decode cX8_init 28 = .ok (.putfield 23, 3) := by decide +kernel
theorem dX8_init_31 : decode cX8_init 31 = .ok (.aload_n 0, 1) := by decide +kernel
theorem dX8_init_32 : decode cX8_init 32 = .ok (.iload 8, 2) := by decide +kernel
theorem dX8_init_34 : decode cX8_init 34 = .ok (.putfield 26, 3) := by decide +kernel
theorem dX8_init_37 : decode cX8_init 37 = .ok (.aload_n 0, 1) := by decide +kernel
theorem dX8_init_38 : decode cX8_init 38 = .ok (.iload 9, 2) := by decide +kernel
theorem dX8_init_40 : decode cX8_init 40 = .ok (.putfield 29, 3) := by decide +kernel
theorem dX8_init_43 : decode cX8_init 43 = .ok (.return_, 1) := by decide +kernel
theorem dX10_order_0 : decode cX10_order 0 = .ok (.iload_n 1, 1) := by decide +kernel
theorem dX10_order_1 : decode cX10_order 1 = .ok (.i2l, 1) := by decide +kernel
theorem dX10_order_2 : decode cX10_order 2 = .ok (.invokestatic 106, 3) := by decide +kernel
theorem dX10_order_5 : decode cX10_order 5 = .ok (.ifCond .eq 11, 3) := by decide +kernel
theorem dX10_order_8 : decode cX10_order 8 = .ok (.iload_n 2, 1) := by decide +kernel
theorem dX10_order_9 : decode cX10_order 9 = .ok (.i2l, 1) := by decide +kernel
theorem dX10_order_10 : decode cX10_order 10 = .ok (.invokestatic 106, 3) := by decide +kernel
theorem dX10_order_13 : decode cX10_order 13 = .ok (.ifCond .ne 13, 3) := by decide +kernel
theorem dX10_order_16 : decode cX10_order 16 = .ok (.new 113, 3) := by decide +kernel
theorem dX10_order_19 : decode cX10_order 19 = .ok (.dup, 1) := by decide +kernel
theorem dX10_order_20 : decode cX10_order 20 = .ok (.ldc 135, 2) := by decide +kernel
theorem dX10_order_22 : decode cX10_order 22 = .ok (.invokespecial 117, 3) := by decide +kernel
theorem dX10_order_25 : decode cX10_order 25 = .ok (.athrow, 1) := by decide +kernel
theorem dX10_order_26 : decode cX10_order 26 = .ok (.lload_n 3, 1) := by decide +kernel
theorem dX10_order_27 : decode cX10_order 27 = .ok (.lconst 0, 1) := by decide +kernel
theorem dX10_order_28 : decode cX10_order 28 = .ok (.lcmp, 1) := by decide +kernel
theorem dX10_order_29 : decode cX10_order 29 = .ok (.ifCond .lt 36, 3) := by decide +kernel
theorem dX10_order_32 : decode cX10_order 32 = .ok (.lload_n 3, 1) := by decide +kernel
theorem dX10_order_33 : decode cX10_order 33 = .ok (.ldc2_w 137, 3) := by decide +kernel
theorem dX10_order_36 : decode cX10_order 36 = .ok (.lcmp, 1) := by decide +kernel
theorem dX10_order_37 : decode cX10_order 37 = .ok (.ifCond .gt 28, 3) := by decide +kernel
theorem dX10_order_40 : decode cX10_order 40 = .ok (.iload 7, 2) := by decide +kernel
theorem dX10_order_42 : decode cX10_order 42 = .ok (.ifCond .lt 23, 3) := by decide +kernel
theorem dX10_order_45 : decode cX10_order 45 = .ok (.iload 7, 2) := by decide +kernel
theorem dX10_order_47 : decode cX10_order 47 = .ok (.sipush 30000, 3) := by decide +kernel
theorem dX10_order_50 : decode cX10_order 50 = .ok (.if_icmp .gt 15, 3) := by decide +kernel
theorem dX10_order_53 : decode cX10_order 53 = .ok (.iload 8, 2) := by decide +kernel
theorem dX10_order_55 : decode cX10_order 55 = .ok (.ifCond .lt 10, 3) := by decide +kernel
theorem dX10_order_58 : decode cX10_order 58 = .ok (.iload 8, 2) := by decide +kernel
theorem dX10_order_60 : decode cX10_order 60 = .ok (.ldc 139, 2) := by decide +kernel
theorem dX10_order_62 : decode cX10_order 62 = .ok (.if_icmp .le 13, 3) := by decide +kernel
theorem dX10_order_65 : decode cX10_order 65 = .ok (.new 63, 3) := by decide +kernel
theorem dX10_order_68 : decode cX10_order 68 = .ok (.dup, 1) := by decide +kernel
theorem dX10_order_69 : decode cX10_order 69 = .ok (.ldc 140, 2) := by decide +kernel
theorem dX10_order_71 : decode cX10_order 71 = .ok (.invokespecial 67, 3) := by decide +kernel
theorem dX10_order_74 : decode cX10_order 74 = .ok (.athrow, 1) := by decide +kernel
theorem dX10_order_75 : decode cX10_order 75 = .ok (.aload_n 0, 1) := by decide +kernel
theorem dX10_order_76 : decode cX10_order 76 = .ok (.getfield 142, 3) := by decide +kernel
theorem dX10_order_79 : decode cX10_order 79 = .ok (.bipush 10, 2) := by decide +kernel
theorem dX10_order_81 : decode cX10_order 81 = .ok (.if_icmp .lt 13, 3) := by decide +kernel
theorem dX10_order_84 : decode cX10_order 84 = .ok (.new 84, 3) := by decide +kernel
theorem dX10_order_87 : decode cX10_order 87 = .ok (.dup, 1) := by decide +kernel
theorem dX10_order_88 : decode cX10_order 88 = .ok (.ldc 145, 2) := by decide +kernel
theorem dX10_order_90 : decode cX10_order 90 = .ok (.invokespecial 88, 3) := by decide +kernel
theorem dX10_order_93 : decode cX10_order 93 = .ok (.athrow, 1) := by decide +kernel
theorem dX10_order_94 : decode cX10_order 94 = .ok (.aload_n 0, 1) := by decide +kernel
theorem dX10_order_95 : decode cX10_order 95 = .ok (.getfield 25, 3) := by decide +kernel
theorem dX10_order_98 : decode cX10_order 98 = .ok (.aload_n 0, 1) := by decide +kernel
theorem dX10_order_99 : decode cX10_order 99 = .ok (.getfield 142, 3) := by decide +kernel
theorem dX10_order_102 : decode cX10_order 102 = .ok (.new 23, 3) := by decide +kernel
theorem dX10_order_105 : decode cX10_order 105 = .ok (.dup, 1) := by decide +kernel
theorem dX10_order_106 : decode cX10_order 106 = .ok (.iload_n 1, 1) := by decide +kernel
theorem dX10_order_107 : decode cX10_order 107 = .ok (.iload_n 2, 1) := by decide +kernel
theorem dX10_order_108 : decode cX10_order 108 = .ok (.lload_n 3, 1) := by decide +kernel
theorem dX10_order_109 : decode cX10_order 109 = .ok (.lload 5, 2) := by decide +kernel
theorem dX10_order_111 : decode cX10_order 111 = .ok (.iload 7, 2) := by decide +kernel
theorem dX10_order_113 : decode cX10_order 113 = .ok (.iload 8, 2) := by decide +kernel
theorem dX10_order_115 : decode cX10_order 115 = .ok (.iload 9, 2) := by decide +kernel
theorem dX10_order_117 : decode cX10_order 117 = .ok (.invokespecial 147, 3) := by decide +kernel
theorem dX10_order_120 : decode cX10_order 120 = .ok (.aastore, 1) := by decide +kernel
theorem dX10_order_121 : decode cX10_order 121 = .ok (.aload_n 0, 1) := by decide +kernel
theorem dX10_order_122 : decode cX10_order 122 = .ok (.dup, 1) := by decide +kernel
theorem dX10_order_123 : decode cX10_order 123 = .ok (.getfield 142, 3) := by decide +kernel
theorem dX10_order_126 : decode cX10_order 126 = .ok (.iconst 1, 1) := by decide +kernel
theorem dX10_order_127 : decode cX10_order 127 = .ok (.iadd, 1) := by decide +kernel
theorem dX10_order_128 : decode cX10_order 128 = .ok (.putfield 142, 3) := by decide +kernel
theorem dX10_order_131 : decode cX10_order 131 = .ok (.aload_n 0, 1) := by decide +kernel
theorem dX10_order_132 : decode cX10_order 132 = .ok (.getfield 142, 3) := by decide +kernel
theorem dX10_order_135 : decode cX10_order 135 = .ok (.ireturn, 1) := by decide +kernel
theorem dX11_order_0 : decode cX11_order 0 = .ok (.lload_n 3, 1) := by decide +kernel
theorem dX11_order_1 : decode cX11_order 1 = .ok (.lconst 0, 1) := by decide +kernel
theorem dX11_order_2 : decode cX11_order 2 = .ok (.lcmp, 1) := by decide +kernel
theorem dX11_order_3 : decode cX11_order 3 = .ok (.ifCond .lt 36, 3) := by decide +kernel
theorem dX11_order_6 : decode cX11_order 6 = .ok (.lload_n 3, 1) := by decide +kernel
theorem dX11_order_7 : decode cX11_order 7 = .ok (.ldc2_w 187, 3) := by decide +kernel
theorem dX11_order_10 : decode cX11_order 10 = .ok (.lcmp, 1) := by decide +kernel
theorem dX11_order_11 : decode cX11_order 11 = .ok (.ifCond .gt 28, 3) := by decide +kernel
theorem dX11_order_14 : decode cX11_order 14 = .ok (.iload 7, 2) := by decide +kernel
theorem dX11_order_16 : decode cX11_order 16 = .ok (.ifCond .lt 23, 3) := by decide +kernel
theorem dX11_order_19 : decode cX11_order 19 = .ok (.iload 7, 2) := by decide +kernel
theorem dX11_order_21 : decode cX11_order 21 = .ok (.sipush 30000, 3) := by decide +kernel
theorem dX11_order_24 : decode cX11_order 24 = .ok (.if_icmp .gt 15, 3) := by decide +kernel
theorem dX11_order_27 : decode cX11_order 27 = .ok (.iload 8, 2) := by decide +kernel
theorem dX11_order_29 : decode cX11_order 29 = .ok (.ifCond .lt 10, 3) := by decide +kernel
theorem dX11_order_32 : decode cX11_order 32 = .ok (.iload 8, 2) := by decide +kernel
theorem dX11_order_34 : decode cX11_order 34 = .ok (.ldc 189, 2) := by decide +kernel
theorem dX11_order_36 : decode cX11_order 36 = .ok (.if_icmp .le 7, 3) := by decide +kernel
theorem dX11_order_39 : decode cX11_order 39 = .ok (.iconst 1, 1) := by decide +kernel
theorem dX11_order_40 : decode cX11_order 40 = .ok (.goto 4, 3) := by decide +kernel
theorem dX11_order_43 : decode cX11_order 43 = .ok (.iconst 0, 1) := by decide +kernel
theorem dX11_order_44 : decode cX11_order 44 = .ok (.istore 10, 2) := by decide +kernel
theorem dX11_order_46 : decode cX11_order 46 = .ok (.aload_n 0, 1) := by decide +kernel
theorem dX11_order_47 : decode cX11_order 47 = .ok (.iload_n 1, 1) := by decide +kernel
theorem dX11_order_48 : decode cX11_order 48 = .ok (.i2l, 1) := by decide +kernel
theorem dX11_order_49 : decode cX11_order 49 = .ok (.invokestatic 181, 3) := by decide +kernel
theorem dX11_order_52 : decode cX11_order 52 = .ok (.ifCond .eq 11, 3) := by decide +kernel
theorem dX11_order_55 : decode cX11_order 55 = .ok (.iload_n 2, 1) := by decide +kernel
theorem dX11_order_56 : decode cX11_order 56 = .ok (.i2l, 1) := by decide +kernel
theorem dX11_order_57 : decode cX11_order 57 = .ok (.invokestatic 181, 3) := by decide +kernel
theorem dX11_order_60 : decode cX11_order 60 = .ok (.ifCond .ne 7, 3) := by decide +kernel
theorem dX11_order_63 : decode cX11_order 63 = .ok (.iconst 1, 1) := by decide +kernel
theorem dX11_order_64 : decode cX11_order 64 = .ok (.goto 26, 3) := by decide +kernel
theorem dX11_order_67 : decode cX11_order 67 = .ok (.iload 10, 2) := by decide +kernel
theorem dX11_order_69 : decode cX11_order 69 = .ok (.ifCond .eq 7, 3) := by decide +kernel
theorem dX11_order_72 : decode cX11_order 72 = .ok (.iconst 2, 1) := by decide +kernel
theorem dX11_order_73 : decode cX11_order 73 = .ok (.goto 17, 3) := by decide +kernel
theorem dX11_order_76 : decode cX11_order 76 = .ok (.aload_n 0, 1) := by decide +kernel
theorem dX11_order_77 : decode cX11_order 77 = .ok (.getfield 190, 3) := by decide +kernel
theorem dX11_order_80 : decode cX11_order 80 = .ok (.bipush 10, 2) := by decide +kernel
theorem dX11_order_82 : decode cX11_order 82 = .ok (.if_icmp .ne 7, 3) := by decide +kernel
theorem dX11_order_85 : decode cX11_order 85 = .ok (.iconst 3, 1) := by decide +kernel
theorem dX11_order_86 : decode cX11_order 86 = .ok (.goto 4, 3) := by decide +kernel
theorem dX11_order_89 : decode cX11_order 89 = .ok (.iconst 0, 1) := by decide +kernel
theorem dX11_order_90 : decode cX11_order 90 = .ok (.putfield 160, 3) := by decide +kernel
theorem dX11_order_93 : decode cX11_order 93 = .ok (.aload_n 0, 1) := by decide +kernel
theorem dX11_order_94 : decode cX11_order 94 = .ok (.getfield 160, 3) := by decide +kernel
theorem dX11_order_97 : decode cX11_order 97 = .ok (.ifCond .le 5, 3) := by decide +kernel
theorem dX11_order_100 : decode cX11_order 100 = .ok (.iconst 0, 1) := by decide +kernel
theorem dX11_order_101 : decode cX11_order 101 = .ok (.ireturn, 1) := by decide +kernel
theorem dX11_order_102 : decode cX11_order 102 = .ok (.aload_n 0, 1) := by decide +kernel
theorem dX11_order_103 : decode cX11_order 103 = .ok (.getfield 23, 3) := by decide +kernel
theorem dX11_order_106 : decode cX11_order 106 = .ok (.aload_n 0, 1) := by decide +kernel
theorem dX11_order_107 : decode cX11_order 107 = .ok (.getfield 190, 3) := by decide +kernel
theorem dX11_order_110 : decode cX11_order 110 = .ok (.iload_n 1, 1) := by decide +kernel
theorem dX11_order_111 : decode cX11_order 111 = .ok (.iastore, 1) := by decide +kernel
theorem dX11_order_112 : decode cX11_order 112 = .ok (.aload_n 0, 1) := by decide +kernel
theorem dX11_order_113 : decode cX11_order 113 = .ok (.getfield 26, 3) := by decide +kernel
theorem dX11_order_116 : decode cX11_order 116 = .ok (.aload_n 0, 1) := by decide +kernel
theorem dX11_order_117 : decode cX11_order 117 = .ok (.getfield 190, 3) := by decide +kernel
theorem dX11_order_120 : decode cX11_order 120 = .ok (.iload_n 2, 1) := by decide +kernel
theorem dX11_order_121 : decode cX11_order 121 = .ok (.iastore, 1) := by decide +kernel
theorem dX11_order_122 : decode cX11_order 122 = .ok (.aload_n 0, 1) := by decide +kernel
theorem dX11_order_123 : decode cX11_order 123 = .ok (.getfield 29, 3) := by decide +kernel
theorem dX11_order_126 : decode cX11_order 126 = .ok (.aload_n 0, 1) := by decide +kernel
theorem dX11_order_127 : decode cX11_order 127 = .ok (.getfield 190, 3) := by decide +kernel
theorem dX11_order_130 : decode cX11_order 130 = .ok (.lload_n 3, 1) := by decide +kernel
theorem dX11_order_131 : decode cX11_order 131 = .ok (.lastore, 1) := by decide +kernel
theorem dX11_order_132 : decode cX11_order 132 = .ok (.aload_n 0, 1) := by decide +kernel
theorem dX11_order_133 : decode cX11_order 133 = .ok (.getfield 33, 3) := by decide +kernel
theorem dX11_order_136 : decode cX11_order 136 = .ok (.aload_n 0, 1) := by decide +kernel
theorem dX11_order_137 : decode cX11_order 137 = .ok (.getfield 190, 3) := by decide +kernel
theorem dX11_order_140 : decode cX11_order 140 = .ok (.lload 5, 2) := by decide +kernel
theorem dX11_order_142 : decode cX11_order 142 = .ok (.lastore, 1) := by decide +kernel
theorem dX11_order_143 : decode cX11_order 143 = .ok (.aload_n 0, 1) := by decide +kernel
theorem dX11_order_144 : decode cX11_order 144 = .ok (.getfield 36, 3) := by decide +kernel
theorem dX11_order_147 : decode cX11_order 147 = .ok (.aload_n 0, 1) := by decide +kernel
theorem dX11_order_148 : decode cX11_order 148 = .ok (.getfield 190, 3) := by decide +kernel
theorem dX11_order_151 : decode cX11_order 151 = .ok (.iload 7, 2) := by decide +kernel
theorem dX11_order_153 : decode cX11_order 153 = .ok (.iastore, 1) := by decide +kernel
theorem dX11_order_154 : decode cX11_order 154 = .ok (.aload_n 0, 1) := by decide +kernel
theorem dX11_order_155 : decode cX11_order 155 = .ok (.getfield 39, 3) := by decide +kernel
theorem dX11_order_158 : decode cX11_order 158 = .ok (.aload_n 0, 1) := by decide +kernel
theorem dX11_order_159 : decode cX11_order 159 = .ok (.getfield 190, 3) := by decide +kernel
theorem dX11_order_162 : decode cX11_order 162 = .ok (.iload 8, 2) := by decide +kernel
theorem dX11_order_164 : decode cX11_order 164 = .ok (.iastore, 1) := by decide +kernel
theorem dX11_order_165 : decode cX11_order 165 = .ok (.aload_n 0, 1) := by decide +kernel
theorem dX11_order_166 : decode cX11_order 166 = .ok (.getfield 42, 3) := by decide +kernel
theorem dX11_order_169 : decode cX11_order 169 = .ok (.aload_n 0, 1) := by decide +kernel
theorem dX11_order_170 : decode cX11_order 170 = .ok (.getfield 190, 3) := by decide +kernel
theorem dX11_order_173 : decode cX11_order 173 = .ok (.iload 9, 2) := by decide +kernel
theorem dX11_order_175 : decode cX11_order 175 = .ok (.iastore, 1) := by decide +kernel
theorem dX11_order_176 : decode cX11_order 176 = .ok (.aload_n 0, 1) := by decide +kernel
theorem dX11_order_177 : decode cX11_order 177 = .ok (.dup, 1) := by decide +kernel
theorem dX11_order_178 : decode cX11_order 178 = .ok (.getfield 190, 3) := by decide +kernel
theorem dX11_order_181 : decode cX11_order 181 = .ok (.iconst 1, 1) := by decide +kernel
theorem dX11_order_182 : decode cX11_order 182 = .ok (.iadd, 1) := by decide +kernel
theorem dX11_order_183 : decode cX11_order 183 = .ok (.putfield 190, 3) := by decide +kernel
theorem dX11_order_186 : decode cX11_order 186 = .ok (.aload_n 0, 1) := by decide +kernel
theorem dX11_order_187 : decode cX11_order 187 = .ok (.getfield 190, 3) := by decide +kernel
theorem dX11_order_190 : decode cX11_order 190 = .ok (.ireturn, 1) := by decide +kernel
theorem gw_fin {M : rx_Me} {idx ci k : Nat} {C0 : String} {T0 : u_T} {N0 : Nat} (hc : vwCl[ci]? = some (C0, T0, N0)) (h : (T0 k).2.2.2 = true) (hi : M.1.name = "<init>") (ho : (T0 k).1 = M.1.cls) (hw : Cond.fieldLink M.1.cls idx (T0 k).1 (T0 k).2.1 (T0 k).2.2.1 ∈ lw_tbl) : rx_Wr M idx ci k := fun C T N hCl => by
  have := hCl.2.1.symm.trans hc
  cases this
  exact Or.inr ⟨h, hi, ho, idx, rfl, hw⟩
/-- one more cell of the class -/
def ca (C : rx_M) (t n : Nat) : rx_M := (rx_k1 C.1 (102 + C.2.2.2.2) (fun _ => 0), rx_k1 C.2.1 (102 + C.2.2.2.2) (fun _ => 0), rx_k1 C.2.2.1 (102 + C.2.2.2.2) (fun _ => none), rx_k1 C.2.2.2.1 (102 + C.2.2.2.2) (t, n), C.2.2.2.2 + 1)
theorem k1_ne {α : Type} (f : Nat → α) {a b : Nat} {x : α} (h : b ≠ a) : rx_k1 f a x b = f b := if_neg h
theorem k1_eq {α : Type} (f : Nat → α) {a : Nat} {x : α} : rx_k1 f a x a = x := if_pos rfl
theorem gl_al {C : rx_M} {S : gs_T} {t n : Nat} : rx_al (gl C S) t n = gl (ca C t n) S := by
  have hm : gk_m (102 + C.2.2.2.2) = false := gkX_m (by omega)
  have hf : gk_f (102 + C.2.2.2.2) = false := gkX_f (by omega)
  refine Prod.ext (funext fun a => ?_) (Prod.ext (funext fun a => ?_) (Prod.ext (funext fun a => funext fun k => ?_) (Prod.ext (funext fun a => ?_) ?_)))
  · show rx_k1 (gl C S).1 (102 + C.2.2.2.2) (fun _ => 0) a = (bif gk_m a then S.1 a else rx_k1 C.1 (102 + C.2.2.2.2) (fun _ => 0) a)
    by_cases h : a = 102 + C.2.2.2.2
    · subst h; rw [k1_eq, hm, k1_eq]; rfl
    · rw [k1_ne _ h, k1_ne _ h]; rfl
  · show rx_k1 (gl C S).2.1 (102 + C.2.2.2.2) (fun _ => 0) a = (bif gk_m a then S.2 a else rx_k1 C.2.1 (102 + C.2.2.2.2) (fun _ => 0) a)
    by_cases h : a = 102 + C.2.2.2.2
    · subst h; rw [k1_eq, hm, k1_eq]; rfl
    · rw [k1_ne _ h, k1_ne _ h]; rfl
  · show rx_k1 (gl C S).2.2.1 (102 + C.2.2.2.2) (fun _ => none) a k = (gk_R a k).elim (rx_k1 C.2.2.1 (102 + C.2.2.2.2) (fun _ => none) a k) some
    by_cases h : a = 102 + C.2.2.2.2
    · subst h; rw [k1_eq, k1_eq, gkX_R (by omega)]; rfl
    · rw [k1_ne _ h, k1_ne _ h]; rfl
  · show rx_k1 (gl C S).2.2.2.1 (102 + C.2.2.2.2) (t, n) a = (bif gk_f a then gk_K a else rx_k1 C.2.2.2.1 (102 + C.2.2.2.2) (t, n) a)
    by_cases h : a = 102 + C.2.2.2.2
    · subst h; rw [k1_eq, hf, k1_eq]; rfl
    · rw [k1_ne _ h, k1_ne _ h]; rfl
  · rfl
theorem ca_ag {C : rx_M} {t n : Nat} : rc_ag C (ca C t n) := ⟨fun a _ h => ⟨k1_ne _ (by omega), k1_ne _ (by omega)⟩, fun a _ h => k1_ne _ (by omega), fun a _ h => k1_ne _ (by omega), Nat.le_succ _⟩
theorem ca_rk {C : rx_M} {t n : Nat} : rk (ca C t n) (102 + C.2.2.2.2) t n := by
  refine ⟨⟨?_, gkX_m (by omega), fun k => gkX_R (by omega)⟩, ?_⟩
  · show 102 + C.2.2.2.2 < 102 + (C.2.2.2.2 + 1)
    omega
  · rw [gkX_f (by omega)]
    exact k1_eq _
section GA
variable {G : rx_E} {M : rx_Me} {d pc mc ms : Nat} {lv : List (Nat × Value)} {st : List Value} {C : rx_M} {S : gs_T} {Q : Option Value → rx_M → Prop} {Z : String → rx_M → Prop}
theorem ga_new {idx ci N : Nat} {C0 : String} {T : u_T} (hG : rx_OK G) (hCl : rx_Cl ci C0 T N) (hw : Cond.classLink M.1.cls idx C0 ∈ lw_tbl ∧ Cond.instantiable C0 N ∈ lw_tbl ∧ Cond.initialized C0 ∈ lw_tbl) (hdv : ∀ j, j < N → defaultValue ((rx_ty ci).1 j) = rx_dv (rx_tc ((rx_ty ci).1 j))) (hd : decode M.2.1 pc = .ok (.new idx, 3)) (kk : rx_W G M d (pc + 3) lv (.ref (102 + C.2.2.2.2) :: st) (gl (ca C ci N) S) mc ms Q Z) : rx_W G M d pc lv st (gl C S) (mc + 1) (ms + N) Q Z :=
  rx_new hG hCl hw hdv hd (by rw [gl_al]; exact kk)
theorem ga_newa {x : Int32} {n t : Nat} {atype : ArrayType} (hG : rx_OK G) (ht : (t = 12 ∧ atype = .byte) ∨ (t = 13 ∧ atype = .int) ∨ (t = 14 ∧ atype = .long) ∨ (t = 15 ∧ atype = .boolean)) (hw : Cond.arrayClass (newarray.typeOf atype) ∈ lw_tbl) (hd : decode M.2.1 pc = .ok (.newarray atype, 2)) (hx : x = nI n) (hn : n < 65536) (kk : rx_W G M d (pc + 2) lv (.ref (102 + C.2.2.2.2) :: st) (gl (ca C t n) S) mc ms Q Z) : rx_W G M d pc lv (.int x :: st) (gl C S) (mc + 1) (ms + n) Q Z :=
  rx_newa hG ht hw hd hx hn (by rw [gl_al]; exact kk)
theorem gy_putL {a idx ci k n : Nat} {x : Int64} (hG : rx_OK G) (hF : rx_Fd M.1.cls idx ci k .long) (hw : rx_Wr M idx ci k) (hd : decode M.2.1 pc = .ok (.putfield idx, 3)) (ha : rk C a ci n) (kk : rx_W G M d (pc + 3) lv st (gl (C.1, rx_u C.2.1 a k x, C.2.2) S) mc ms Q Z) : rx_W G M d pc lv (.long x :: .ref a :: st) (gl C S) mc ms Q Z :=
  rx_putL hG hF hw hd (rk_n ha) (congrArg Prod.fst (rk_k ha)) (by rw [gl_uLC ha.1.2.1]; exact kk)
theorem gy_putR {a idx ci k n r : Nat} {ty : FieldType} (hG : rx_OK G) (hF : rx_Fd M.1.cls idx ci k ty) (hw : rx_Wr M idx ci k) (ht : ∃ t, ty = .array t ∨ ∃ c, ty = .object c) (hd : decode M.2.1 pc = .ok (.putfield idx, 3)) (ha : rk C a ci n) (kk : rx_W G M d (pc + 3) lv st (gl (C.1, C.2.1, rx_u C.2.2.1 a k (some r), C.2.2.2) S) mc ms Q Z) : rx_W G M d pc lv (.ref r :: .ref a :: st) (gl C S) mc ms Q Z :=
  rx_putR hG hF hw ht hd (rk_n ha) (congrArg Prod.fst (rk_k ha)) (by rw [gl_uR (ha.1.2.2 k)]; exact kk)
theorem ga_aast {a j n t r tr nr : Nat} {i : Int32} (hG : rx_OK G) (hd : decode M.2.1 pc = .ok (.aastore, 1)) (hf : gk_f a = true) (hk : gk_K a = (t, n)) (ht : 16 ≤ t ∧ t < 20) (hi : i = nI j) (hj : j < n) (hN : n < 2147483648) (h0 : gk_R a j = none) (hr : rk C r tr nr) (htr : tr = rx_eli t) (kk : rx_W G M d (pc + 1) lv st (gl (C.1, C.2.1, rx_u C.2.2.1 a j (some r), C.2.2.2) S) mc ms Q Z) : rx_W G M d pc lv (.ref r :: .int i :: .ref a :: st) (gl C S) mc ms Q Z :=
  rx_aast hG hd (gl_n hf) (gl_k hf hk) ht hi hj hN (rk_n hr) ((congrArg Prod.fst (rk_k hr)).trans htr) (by rw [gl_uR h0]; exact kk)
end GA
theorem ci_order {G : rx_E} {d : Nat} {C : rx_M} {S : gs_T} (hG : rx_OK G) {a : Nat} {x1 x2 x5 x6 x7 : Int32} {x3 x4 : Int64} (ha : rk C a 8 7) : rx_C G MX8_init (d + 1) [.ref a, .int x1, .int x2, .long x3, .long x4, .int x5, .int x6, .int x7] (gl C S) 0 0 (fun v mu => v = none ∧ mu = gl ((rx_u (rx_u (rx_u (rx_u (rx_u C.1 a 0 x1) a 1 x2) a 4 x5) a 5 x6) a 6 x7), (rx_u (rx_u C.2.1 a 2 x3) a 3 x4), C.2.2.1, C.2.2.2) S) := by
  refine rx_meth0 (by decide +kernel) rfl (Nat.le_of_ble_eq_true rfl) ?_
  refine rx_aload_n dX8_init_0 rfl rfl ?_
  refine rx_objI hG ⟨hw_904, hw_908, hw_909⟩ dX8_init_1 (by simp [Value.category]) ?_
  refine rx_aload_n dX8_init_4 rfl rfl ?_
  refine rx_iload_n dX8_init_5 rfl ?_
  refine gy_putI hG hf_RX8_7 (gw_fin rfl rfl rfl rfl hw_260) rfl dX8_init_6 ha rfl rfl ?_
  refine rx_aload_n dX8_init_9 rfl rfl ?_
  refine rx_iload_n dX8_init_10 rfl ?_
  refine gy_putI hG hf_RX8_13 (gw_fin rfl rfl rfl rfl hw_254) rfl dX8_init_11 ha rfl rfl ?_
  refine rx_aload_n dX8_init_14 rfl rfl ?_
  refine rx_lload_n dX8_init_15 rfl ?_
  refine gy_putL hG hf_RX8_16 (gw_fin rfl rfl rfl rfl hw_255) dX8_init_16 ha ?_
  refine rx_aload_n dX8_init_19 rfl rfl ?_
  refine rx_lload dX8_init_20 rfl ?_
  refine gy_putL hG hf_RX8_20 (gw_fin rfl rfl rfl rfl hw_256) dX8_init_22 ha ?_
  refine rx_aload_n dX8_init_25 rfl rfl ?_
  refine rx_iload dX8_init_26 rfl ?_
  refine gy_putI hG hf_RX8_23 (gw_fin rfl rfl rfl rfl hw_257) rfl dX8_init_28 ha rfl rfl ?_
  refine rx_aload_n dX8_init_31 rfl rfl ?_
  refine rx_iload dX8_init_32 rfl ?_
  refine gy_putI hG hf_RX8_26 (gw_fin rfl rfl rfl rfl hw_258) rfl dX8_init_34 ha rfl rfl ?_
  refine rx_aload_n dX8_init_37 rfl rfl ?_
  refine rx_iload dX8_init_38 rfl ?_
  refine gy_putI hG hf_RX8_29 (gw_fin rfl rfl rfl rfl hw_259) rfl dX8_init_40 ha rfl rfl ?_
  exact rx_vret rfl dX8_init_43 ⟨rfl, rfl⟩
theorem ci_block {G : rx_E} {d : Nat} {C : rx_M} {S : gs_T} (hG : rx_OK G) {a r1 r2 r3 : Nat} {x1 x2 x3 : Int32} (ha : rk C a 0 7) : rx_C G MX0_init (d + 1) [.ref a, .int x1, .int x2, .ref r1, .ref r2, .ref r3, .int x3] (gl C S) 0 0 (fun v mu => v = none ∧ mu = gl ((rx_u (rx_u (rx_u C.1 a 0 x1) a 1 x2) a 5 x3), C.2.1, (rx_u (rx_u (rx_u C.2.2.1 a 2 (some r1)) a 3 (some r2)) a 4 (some r3)), C.2.2.2) S) := by
  refine rx_meth0 (by decide +kernel) rfl (Nat.le_of_ble_eq_true rfl) ?_
  refine rx_aload_n dX0_init_0 rfl rfl ?_
  refine rx_objI hG ⟨hw_896, hw_908, hw_909⟩ dX0_init_1 (by simp [Value.category]) ?_
  refine rx_aload_n dX0_init_4 rfl rfl ?_
  refine rx_iload_n dX0_init_5 rfl ?_
  refine gy_putI hG hf_RX0_7 (gw_fin rfl rfl rfl rfl hw_190) rfl dX0_init_6 ha rfl rfl ?_
  refine rx_aload_n dX0_init_9 rfl rfl ?_
  refine rx_iload_n dX0_init_10 rfl ?_
  refine gy_putI hG hf_RX0_13 (gw_fin rfl rfl rfl rfl hw_185) rfl dX0_init_11 ha rfl rfl ?_
  refine rx_aload_n dX0_init_14 rfl rfl ?_
  refine rx_aload_n dX0_init_15 rfl rfl ?_
  refine gy_putR hG hf_RX0_16 (gw_fin rfl rfl rfl rfl hw_186) ⟨.long, Or.inl rfl⟩ dX0_init_16 ha ?_
  refine rx_aload_n dX0_init_19 rfl rfl ?_
  refine rx_aload dX0_init_20 rfl rfl ?_
  refine gy_putR hG hf_RX0_20 (gw_fin rfl rfl rfl rfl hw_187) ⟨.long, Or.inl rfl⟩ dX0_init_22 ha ?_
  refine rx_aload_n dX0_init_25 rfl rfl ?_
  refine rx_aload dX0_init_26 rfl rfl ?_
  refine gy_putR hG hf_RX0_23 (gw_fin rfl rfl rfl rfl hw_188) ⟨.long, Or.inl rfl⟩ dX0_init_28 ha ?_
  refine rx_aload_n dX0_init_31 rfl rfl ?_
  refine rx_iload dX0_init_32 rfl ?_
  refine gy_putI hG hf_RX0_26 (gw_fin rfl rfl rfl rfl hw_189) rfl dX0_init_34 ha rfl rfl ?_
  exact rx_vret rfl dX0_init_37 ⟨rfl, rfl⟩
theorem ci_code {G : rx_E} {d : Nat} {C : rx_M} {S : gs_T} (hG : rx_OK G) {a r1 : Nat} (ha : rk C a 2 1) : rx_C G MX2_init (d + 1) [.ref a, .ref r1] (gl C S) 0 0 (fun v mu => v = none ∧ mu = gl (C.1, C.2.1, (rx_u C.2.2.1 a 0 (some r1)), C.2.2.2) S) := by
  refine rx_meth0 (by decide +kernel) rfl (Nat.le_of_ble_eq_true rfl) ?_
  refine rx_aload_n dX2_init_0 rfl rfl ?_
  refine rx_objI hG ⟨hw_898, hw_908, hw_909⟩ dX2_init_1 (by simp [Value.category]) ?_
  refine rx_aload_n dX2_init_4 rfl rfl ?_
  refine rx_aload_n dX2_init_5 rfl rfl ?_
  refine gy_putR hG hf_RX2_9 (gw_fin rfl rfl rfl rfl hw_197) ⟨.byte, Or.inl rfl⟩ dX2_init_6 ha ?_
  exact rx_vret rfl dX2_init_9 ⟨rfl, rfl⟩
theorem or_dead {v : Int64} {g p : Int32} {P : Prop} (h : v < 0 ∨ 1125899906842624 < v ∨ wi_out g 30001 ∨ wi_out p 1000001) (h1 : ¬ v < 0) (h2 : ¬ 1125899906842624 < v) (h3 : ¬ g < 0) (h4 : ¬ nI 30000 < g) (h5 : ¬ p < 0) (h6 : p ≤ nI 1000000) : P := by
  rcases h with h | h | h | h
  · exact absurd h h1
  · exact absurd h h2
  · exact wi_d2 h (by decide) (by decide) h3 h4
  · exact wi_d3 h (by decide) (by decide) h5 h6
theorem cf_order_f {G : rx_E} {d : Nat} {C : rx_M} {S : gs_T} (hG : rx_OK G) {x y g p nc : Int32} {v ar : Int64} (hx : wi_out x 32) : rx_X G MX10_order (d + 8) [.ref 0, .int x, .int y, .long v, .long ar, .int g, .int p, .int nc] (gl C S) 8 2000 (fun _ _ => False) (zq C S "java/lang/IndexOutOfBoundsException") := by
  refine rx_meth (by decide +kernel) rfl (Nat.le_of_ble_eq_true rfl) ?_
  refine rx_iload_n dX10_order_0 rfl ?_
  refine rx_i2l dX10_order_1 ?_
  refine rx_invS0 (as := [.long _]) hG okX10_isAccount lk_RX10_106 dX10_order_2 rfl (by simp [Value.category]) (cw_acctO hG hx) ?_
  rintro _ _ ⟨rfl, rfl⟩
  refine rx_if_eq (tgt := 16) dX10_order_5 (by decide) (fun h5 => ?_) (fun h5 => (absurd h5 (by decide))) 
  exact gx_throw hG rfl rfl th_x hw_855 dX10_order_16 dX10_order_19 dX10_order_20 dX10_order_22 dX10_order_25
theorem cf_order_t {G : rx_E} {d : Nat} {C : rx_M} {S : gs_T} (hG : rx_OK G) {i : Nat} {y g p nc : Int32} {v ar : Int64} (hi : i < 32) (hy : wi_out y 32) : rx_X G MX10_order (d + 8) [.ref 0, .int (nI i), .int y, .long v, .long ar, .int g, .int p, .int nc] (gl C S) 8 2000 (fun _ _ => False) (zq C S "java/lang/IndexOutOfBoundsException") := by
  refine rx_meth (by decide +kernel) rfl (Nat.le_of_ble_eq_true rfl) ?_
  refine rx_iload_n dX10_order_0 rfl ?_
  refine rx_i2l dX10_order_1 ?_
  refine rx_tl (y := lN i) (nI_l (by omega)) ?_
  refine rx_invS0 (as := [.long _]) hG okX10_isAccount lk_RX10_106 dX10_order_2 rfl (by simp [Value.category]) (cw_acct hG hi) ?_
  rintro _ _ ⟨rfl, rfl⟩
  refine rx_if_eq (tgt := 16) dX10_order_5 (by decide) (fun h5 => (absurd h5 (by decide))) (fun h5 => ?_)
  refine rx_iload_n dX10_order_8 rfl ?_
  refine rx_i2l dX10_order_9 ?_
  refine rx_invS0 (as := [.long _]) hG okX10_isAccount lk_RX10_106 dX10_order_10 rfl (by simp [Value.category]) (cw_acctO hG hy) ?_
  rintro _ _ ⟨rfl, rfl⟩
  refine rx_if_ne (tgt := 26) dX10_order_13 (by decide) (fun h13 => (absurd h13 (by decide))) (fun h13 => ?_)
  exact gx_throw hG rfl rfl th_x hw_855 dX10_order_16 dX10_order_19 dX10_order_20 dX10_order_22 dX10_order_25
theorem cf_order_b {G : rx_E} {d : Nat} {C : rx_M} {S : gs_T} (hG : rx_OK G) {i j : Nat} {g p nc : Int32} {v ar : Int64} (hi : i < 32) (hj : j < 32) (hbd : v < 0 ∨ 1125899906842624 < v ∨ wi_out g 30001 ∨ wi_out p 1000001) : rx_X G MX10_order (d + 8) [.ref 0, .int (nI i), .int (nI j), .long v, .long ar, .int g, .int p, .int nc] (gl C S) 8 2000 (fun _ _ => False) (zq C S "java/lang/IllegalArgumentException") := by
  refine rx_meth (by decide +kernel) rfl (Nat.le_of_ble_eq_true rfl) ?_
  refine rx_iload_n dX10_order_0 rfl ?_
  refine rx_i2l dX10_order_1 ?_
  refine rx_tl (y := lN i) (nI_l (by omega)) ?_
  refine rx_invS0 (as := [.long _]) hG okX10_isAccount lk_RX10_106 dX10_order_2 rfl (by simp [Value.category]) (cw_acct hG hi) ?_
  rintro _ _ ⟨rfl, rfl⟩
  refine rx_if_eq (tgt := 16) dX10_order_5 (by decide) (fun h5 => (absurd h5 (by decide))) (fun h5 => ?_)
  refine rx_iload_n dX10_order_8 rfl ?_
  refine rx_i2l dX10_order_9 ?_
  refine rx_tl (y := lN j) (nI_l (by omega)) ?_
  refine rx_invS0 (as := [.long _]) hG okX10_isAccount lk_RX10_106 dX10_order_10 rfl (by simp [Value.category]) (cw_acct hG hj) ?_
  rintro _ _ ⟨rfl, rfl⟩
  refine rx_if_ne (tgt := 26) dX10_order_13 (by decide) (fun h13 => ?_) (fun h13 => (absurd h13 (by decide))) 
  refine rx_lload_n dX10_order_26 rfl ?_
  refine rx_lconst (v := 0) dX10_order_27 rfl ?_
  refine rx_lc_lt (tgt := 65) dX10_order_28 dX10_order_29 (by decide) (fun h28 => ?_) (fun h28 => ?_)
  · exact gx_throw hG rfl rfl th_a hw_858 dX10_order_65 dX10_order_68 dX10_order_69 dX10_order_71 dX10_order_74
  · refine rx_lload_n dX10_order_32 rfl ?_
    refine rx_ldc2 hG hw_856 dX10_order_33 ?_
    refine rx_lc_gt (tgt := 65) dX10_order_36 dX10_order_37 (by decide) (fun h36 => ?_) (fun h36 => ?_)
    · exact gx_throw hG rfl rfl th_a hw_858 dX10_order_65 dX10_order_68 dX10_order_69 dX10_order_71 dX10_order_74
    · refine rx_iload dX10_order_40 rfl ?_
      refine rx_if_lt (tgt := 65) dX10_order_42 (by decide) (fun h42 => ?_) (fun h42 => ?_)
      · exact gx_throw hG rfl rfl th_a hw_858 dX10_order_65 dX10_order_68 dX10_order_69 dX10_order_71 dX10_order_74
      · refine rx_iload dX10_order_45 rfl ?_
        refine rx_sipush (v := nI 30000) dX10_order_47 rfl ?_
        refine rx_icmp_gt (tgt := 65) dX10_order_50 (by decide) (fun h50 => ?_) (fun h50 => ?_)
        · exact gx_throw hG rfl rfl th_a hw_858 dX10_order_65 dX10_order_68 dX10_order_69 dX10_order_71 dX10_order_74
        · refine rx_iload dX10_order_53 rfl ?_
          refine rx_if_lt (tgt := 65) dX10_order_55 (by decide) (fun h55 => ?_) (fun h55 => ?_)
          · exact gx_throw hG rfl rfl th_a hw_858 dX10_order_65 dX10_order_68 dX10_order_69 dX10_order_71 dX10_order_74
          · refine rx_iload dX10_order_58 rfl ?_
            refine rx_ldc (v := 1000000) hG hw_857 dX10_order_60 ?_
            refine rx_ti (y := nI 1000000) rfl ?_
            refine rx_icmp_le (tgt := 75) dX10_order_62 (by decide) (fun h62 => or_dead hbd h28 h36 h42 h50 h55 h62) (fun h62 => ?_)
            exact gx_throw hG rfl rfl th_a hw_858 dX10_order_65 dX10_order_68 dX10_order_69 dX10_order_71 dX10_order_74
theorem cf_order_s {G : rx_E} {d : Nat} {C : rx_M} {S : gs_T} (hG : rx_OK G) {i j g p on : Nat} {nc : Int32} {v ar : Int64} (hi : i < 32) (hj : j < 32) (hv1 : ¬ v < 0) (hv2 : ¬ 1125899906842624 < v) (hg : g < 30001) (hp : p < 1000001) (hon : C.1 0 3 = nI on) (h10 : on = 10) : rx_X G MX10_order (d + 8) [.ref 0, .int (nI i), .int (nI j), .long v, .long ar, .int (nI g), .int (nI p), .int nc] (gl C S) 8 2000 (fun _ _ => False) (zq C S "java/lang/IllegalStateException") := by
  refine rx_meth (by decide +kernel) rfl (Nat.le_of_ble_eq_true rfl) ?_
  subst h10
  refine rx_iload_n dX10_order_0 rfl ?_
  refine rx_i2l dX10_order_1 ?_
  refine rx_tl (y := lN i) (nI_l (by omega)) ?_
  refine rx_invS0 (as := [.long _]) hG okX10_isAccount lk_RX10_106 dX10_order_2 rfl (by simp [Value.category]) (cw_acct hG hi) ?_
  rintro _ _ ⟨rfl, rfl⟩
  refine rx_if_eq (tgt := 16) dX10_order_5 (by decide) (fun h5 => (absurd h5 (by decide))) (fun h5 => ?_)
  refine rx_iload_n dX10_order_8 rfl ?_
  refine rx_i2l dX10_order_9 ?_
  refine rx_tl (y := lN j) (nI_l (by omega)) ?_
  refine rx_invS0 (as := [.long _]) hG okX10_isAccount lk_RX10_106 dX10_order_10 rfl (by simp [Value.category]) (cw_acct hG hj) ?_
  rintro _ _ ⟨rfl, rfl⟩
  refine rx_if_ne (tgt := 26) dX10_order_13 (by decide) (fun h13 => ?_) (fun h13 => (absurd h13 (by decide))) 
  refine rx_lload_n dX10_order_26 rfl ?_
  refine rx_lconst (v := 0) dX10_order_27 rfl ?_
  refine rx_lc_lt (tgt := 65) dX10_order_28 dX10_order_29 (by decide) (fun h28 => (absurd h28 hv1)) (fun h28 => ?_)
  refine rx_lload_n dX10_order_32 rfl ?_
  refine rx_ldc2 hG hw_856 dX10_order_33 ?_
  refine rx_lc_gt (tgt := 65) dX10_order_36 dX10_order_37 (by decide) (fun h36 => (absurd h36 hv2)) (fun h36 => ?_)
  refine rx_iload dX10_order_40 rfl ?_
  refine rx_if_lt (tgt := 65) dX10_order_42 (by decide) (fun h42 => (absurd h42 (nI_pos (by omega)))) (fun h42 => ?_)
  refine rx_iload dX10_order_45 rfl ?_
  refine rx_sipush (v := nI 30000) dX10_order_47 rfl ?_
  refine rx_icmp_gt (tgt := 65) dX10_order_50 (by decide) (fun h50 => (absurd h50 (by rw [nI_ltI (by omega) (by omega)]; omega))) (fun h50 => ?_)
  refine rx_iload dX10_order_53 rfl ?_
  refine rx_if_lt (tgt := 65) dX10_order_55 (by decide) (fun h55 => (absurd h55 (nI_pos (by omega)))) (fun h55 => ?_)
  refine rx_iload dX10_order_58 rfl ?_
  refine rx_ldc (v := 1000000) hG hw_857 dX10_order_60 ?_
  refine rx_ti (y := nI 1000000) rfl ?_
  refine rx_icmp_le (tgt := 75) dX10_order_62 (by decide) (fun h62 => ?_) (fun h62 => (absurd (by rw [nI_leI (by omega) (by omega)]; omega) h62)) 
  refine rx_aload_n dX10_order_75 rfl rfl ?_
  refine gcv_getI (v := nI 10) hG hf_RX10_142 rfl dX10_order_76 rfl rfl rfl hon ?_
  refine rx_bipush (v := nI 10) dX10_order_79 rfl ?_
  refine rx_icmp_lt (tgt := 94) dX10_order_81 (by decide) (fun h81 => (absurd h81 (by decide))) (fun h81 => ?_)
  exact gx_throw hG rfl rfl th_s hw_859 dX10_order_84 dX10_order_87 dX10_order_88 dX10_order_90 dX10_order_93
set_option maxHeartbeats 1000000 in
theorem cf_order {G : rx_E} {d : Nat} {C : rx_M} {S : gs_T} (hG : rx_OK G) {i j g p on : Nat} {nc : Int32} {v ar : Int64} (hi : i < 32) (hj : j < 32) (hv1 : ¬ v < 0) (hv2 : ¬ 1125899906842624 < v) (hg : g < 30001) (hp : p < 1000001) (hon : C.1 0 3 = nI on) (h10 : on < 10) : rx_X G MX10_order (d + 8) [.ref 0, .int (nI i), .int (nI j), .long v, .long ar, .int (nI g), .int (nI p), .int nc] (gl C S) 8 2000 (fun vv mu => vv = some (.int (nI (on + 1))) ∧ ∃ C', mu = gl C' S ∧ C' = (rx_u (rx_u (rx_u (rx_u (rx_u (rx_u (ca C 8 7).1 (102 + C.2.2.2.2) 0 (nI i)) (102 + C.2.2.2.2) 1 (nI j)) (102 + C.2.2.2.2) 4 (nI g)) (102 + C.2.2.2.2) 5 (nI p)) (102 + C.2.2.2.2) 6 nc) 0 3 (nI (on + 1)), (rx_u (rx_u (ca C 8 7).2.1 (102 + C.2.2.2.2) 2 v) (102 + C.2.2.2.2) 3 ar), rx_u (ca C 8 7).2.2.1 43 on (some (102 + C.2.2.2.2)), (ca C 8 7).2.2.2)) (fun _ _ => False) := by
  refine rx_meth (by decide +kernel) rfl (Nat.le_of_ble_eq_true rfl) ?_
  have hne : (0 : Nat) ≠ 102 + C.2.2.2.2 := by omega
  have h03 : (rx_u (rx_u (rx_u (rx_u (rx_u (ca C 8 7).1 (102 + C.2.2.2.2) 0 (nI i)) (102 + C.2.2.2.2) 1 (nI j)) (102 + C.2.2.2.2) 4 (nI g)) (102 + C.2.2.2.2) 5 (nI p)) (102 + C.2.2.2.2) 6 nc) 0 3 = nI on := by
    rw [rx_une _ hne, rx_une _ hne, rx_une _ hne, rx_une _ hne, rx_une _ hne]
    show rx_k1 C.1 (102 + C.2.2.2.2) _ 0 3 = _
    rw [k1_ne _ hne]; exact hon
  refine rx_iload_n dX10_order_0 rfl ?_
  refine rx_i2l dX10_order_1 ?_
  refine rx_tl (y := lN i) (nI_l (by omega)) ?_
  refine rx_invS0 (as := [.long _]) hG okX10_isAccount lk_RX10_106 dX10_order_2 rfl (by simp [Value.category]) (cw_acct hG hi) ?_
  rintro _ _ ⟨rfl, rfl⟩
  refine rx_if_eq (tgt := 16) dX10_order_5 (by decide) (fun h5 => (absurd h5 (by decide))) (fun h5 => ?_)
  refine rx_iload_n dX10_order_8 rfl ?_
  refine rx_i2l dX10_order_9 ?_
  refine rx_tl (y := lN j) (nI_l (by omega)) ?_
  refine rx_invS0 (as := [.long _]) hG okX10_isAccount lk_RX10_106 dX10_order_10 rfl (by simp [Value.category]) (cw_acct hG hj) ?_
  rintro _ _ ⟨rfl, rfl⟩
  refine rx_if_ne (tgt := 26) dX10_order_13 (by decide) (fun h13 => ?_) (fun h13 => (absurd h13 (by decide))) 
  refine rx_lload_n dX10_order_26 rfl ?_
  refine rx_lconst (v := 0) dX10_order_27 rfl ?_
  refine rx_lc_lt (tgt := 65) dX10_order_28 dX10_order_29 (by decide) (fun h28 => (absurd h28 hv1)) (fun h28 => ?_)
  refine rx_lload_n dX10_order_32 rfl ?_
  refine rx_ldc2 hG hw_856 dX10_order_33 ?_
  refine rx_lc_gt (tgt := 65) dX10_order_36 dX10_order_37 (by decide) (fun h36 => (absurd h36 hv2)) (fun h36 => ?_)
  refine rx_iload dX10_order_40 rfl ?_
  refine rx_if_lt (tgt := 65) dX10_order_42 (by decide) (fun h42 => (absurd h42 (nI_pos (by omega)))) (fun h42 => ?_)
  refine rx_iload dX10_order_45 rfl ?_
  refine rx_sipush (v := nI 30000) dX10_order_47 rfl ?_
  refine rx_icmp_gt (tgt := 65) dX10_order_50 (by decide) (fun h50 => (absurd h50 (by rw [nI_ltI (by omega) (by omega)]; omega))) (fun h50 => ?_)
  refine rx_iload dX10_order_53 rfl ?_
  refine rx_if_lt (tgt := 65) dX10_order_55 (by decide) (fun h55 => (absurd h55 (nI_pos (by omega)))) (fun h55 => ?_)
  refine rx_iload dX10_order_58 rfl ?_
  refine rx_ldc (v := 1000000) hG hw_857 dX10_order_60 ?_
  refine rx_ti (y := nI 1000000) rfl ?_
  refine rx_icmp_le (tgt := 75) dX10_order_62 (by decide) (fun h62 => ?_) (fun h62 => (absurd (by rw [nI_leI (by omega) (by omega)]; omega) h62)) 
  refine rx_aload_n dX10_order_75 rfl rfl ?_
  refine gcv_getI (v := nI on) hG hf_RX10_142 rfl dX10_order_76 rfl rfl rfl hon ?_
  refine rx_bipush (v := nI 10) dX10_order_79 rfl ?_
  refine rx_icmp_lt (tgt := 94) dX10_order_81 (by decide) (fun h81 => ?_) (fun h81 => (absurd (by rw [nI_ltI (by omega) (by omega)]; omega) h81)) 
  refine rx_aload_n dX10_order_94 rfl rfl ?_
  refine g_getR hG hf_RX10_25 rfl dX10_order_95 rfl rfl rfl ?_
  refine rx_aload_n dX10_order_98 rfl rfl ?_
  refine gcv_getI (v := nI on) hG hf_RX10_142 rfl dX10_order_99 rfl rfl rfl hon ?_
  refine rx_Wm (mc := 0 + 1) (ms := 0 + 7) ?_ (by decide) (by decide)
  refine ga_new hG hc_8 ⟨hw_822, hw_860, hw_75⟩ (by decide +kernel) dX10_order_102 ?_
  refine rx_dup dX10_order_105 rfl ?_
  refine rx_iload_n dX10_order_106 rfl ?_
  refine rx_iload_n dX10_order_107 rfl ?_
  refine rx_lload_n dX10_order_108 rfl ?_
  refine rx_lload dX10_order_109 rfl ?_
  refine rx_iload dX10_order_111 rfl ?_
  refine rx_iload dX10_order_113 rfl ?_
  refine rx_iload dX10_order_115 rfl ?_
  refine rx_invI (mc := 0) (ms := 0) (mc' := 0) (ms' := 0) (as := [.int _, .int _, .long _, .long _, .int _, .int _, .int _]) hG okX8_init lk_RX10_147 dX10_order_117 rfl (Nat.le_of_ble_eq_true rfl) (ci_order hG ca_rk) ?_
  rintro _ _ ⟨rfl, rfl⟩
  refine ga_aast hG dX10_order_120 rfl rfl (by decide) rfl (show on < 10 by omega) (by decide) (gk43 (by omega)) ca_rk rfl ?_
  refine rx_aload_n dX10_order_121 rfl rfl ?_
  refine rx_dup dX10_order_122 rfl ?_
  refine gcv_getI (v := nI on) hG hf_RX10_142 rfl dX10_order_123 rfl rfl rfl h03 ?_
  refine rx_iconst (v := nI 1) dX10_order_126 rfl ?_
  refine rx_iadd dX10_order_127 ?_
  refine rx_ti (y := nI (on + 1)) (nI_add _ _) ?_
  refine gc_putI hG hf_RX10_142 (gw_nf rfl rfl) rfl dX10_order_128 rfl rfl rfl rfl rfl ?_
  refine rx_aload_n dX10_order_131 rfl rfl ?_
  refine gcv_getI (v := nI (on + 1)) hG hf_RX10_142 rfl dX10_order_132 rfl rfl rfl (by simp [rx_ru]) ?_
  exact rx_iret rfl dX10_order_135 ⟨rfl, _, rfl, rfl⟩

theorem dX11_jumpOrCell_0 : decode cX11_jumpOrCell 0 = .ok (.aload_n 0, 1) := by decide +kernel
theorem dX11_jumpOrCell_1 : decode cX11_jumpOrCell 1 = .ok (.getfield 203, 3) := by decide +kernel
theorem dX11_jumpOrCell_4 : decode cX11_jumpOrCell 4 = .ok (.iconst 1, 1) := by decide +kernel
theorem dX11_jumpOrCell_5 : decode cX11_jumpOrCell 5 = .ok (.isub, 1) := by decide +kernel
theorem dX11_jumpOrCell_6 : decode cX11_jumpOrCell 6 = .ok (.istore_n 3, 1) := by decide +kernel
theorem dX11_jumpOrCell_7 : decode cX11_jumpOrCell 7 = .ok (.bipush 19, 2) := by decide +kernel
theorem dX11_jumpOrCell_9 : decode cX11_jumpOrCell 9 = .ok (.aload_n 0, 1) := by decide +kernel
theorem dX11_jumpOrCell_10 : decode cX11_jumpOrCell 10 = .ok (.getfield 120, 3) := by decide +kernel
theorem dX11_jumpOrCell_13 : decode cX11_jumpOrCell 13 = .ok (.iload_n 3, 1) := by decide +kernel
theorem dX11_jumpOrCell_14 : decode cX11_jumpOrCell 14 = .ok (.iaload, 1) := by decide +kernel
theorem dX11_jumpOrCell_15 : decode cX11_jumpOrCell 15 = .ok (.imul, 1) := by decide +kernel
theorem dX11_jumpOrCell_16 : decode cX11_jumpOrCell 16 = .ok (.iconst 3, 1) := by decide +kernel
theorem dX11_jumpOrCell_17 : decode cX11_jumpOrCell 17 = .ok (.iadd, 1) := by decide +kernel
theorem dX11_jumpOrCell_18 : decode cX11_jumpOrCell 18 = .ok (.istore 4, 2) := by decide +kernel
theorem dX11_jumpOrCell_20 : decode cX11_jumpOrCell 20 = .ok (.iload_n 1, 1) := by decide +kernel
theorem dX11_jumpOrCell_21 : decode cX11_jumpOrCell 21 = .ok (.bipush 19, 2) := by decide +kernel
theorem dX11_jumpOrCell_23 : decode cX11_jumpOrCell 23 = .ok (.if_icmp .ne 13, 3) := by decide +kernel
theorem dX11_jumpOrCell_26 : decode cX11_jumpOrCell 26 = .ok (.aload_n 0, 1) := by decide +kernel
theorem dX11_jumpOrCell_27 : decode cX11_jumpOrCell 27 = .ok (.getfield 114, 3) := by decide +kernel
theorem dX11_jumpOrCell_30 : decode cX11_jumpOrCell 30 = .ok (.iload_n 3, 1) := by decide +kernel
theorem dX11_jumpOrCell_31 : decode cX11_jumpOrCell 31 = .ok (.iload_n 2, 1) := by decide +kernel
theorem dX11_jumpOrCell_32 : decode cX11_jumpOrCell 32 = .ok (.iastore, 1) := by decide +kernel
theorem dX11_jumpOrCell_33 : decode cX11_jumpOrCell 33 = .ok (.goto 229, 3) := by decide +kernel
theorem dX11_jumpOrCell_36 : decode cX11_jumpOrCell 36 = .ok (.iload_n 1, 1) := by decide +kernel
theorem dX11_jumpOrCell_37 : decode cX11_jumpOrCell 37 = .ok (.bipush 20, 2) := by decide +kernel
theorem dX11_jumpOrCell_39 : decode cX11_jumpOrCell 39 = .ok (.if_icmp .ne 31, 3) := by decide +kernel
theorem dX11_jumpOrCell_42 : decode cX11_jumpOrCell 42 = .ok (.aload_n 0, 1) := by decide +kernel
theorem dX11_jumpOrCell_43 : decode cX11_jumpOrCell 43 = .ok (.getfield 114, 3) := by decide +kernel
theorem dX11_jumpOrCell_46 : decode cX11_jumpOrCell 46 = .ok (.iload_n 3, 1) := by decide +kernel
theorem dX11_jumpOrCell_47 : decode cX11_jumpOrCell 47 = .ok (.aload_n 0, 1) := by decide +kernel
theorem dX11_jumpOrCell_48 : decode cX11_jumpOrCell 48 = .ok (.invokevirtual 262, 3) := by decide +kernel
theorem dX11_jumpOrCell_51 : decode cX11_jumpOrCell 51 = .ok (.lconst 0, 1) := by decide +kernel
theorem dX11_jumpOrCell_52 : decode cX11_jumpOrCell 52 = .ok (.lcmp, 1) := by decide +kernel
theorem dX11_jumpOrCell_53 : decode cX11_jumpOrCell 53 = .ok (.ifCond .eq 7, 3) := by decide +kernel
theorem dX11_jumpOrCell_56 : decode cX11_jumpOrCell 56 = .ok (.iload_n 2, 1) := by decide +kernel
theorem dX11_jumpOrCell_57 : decode cX11_jumpOrCell 57 = .ok (.goto 9, 3) := by decide +kernel
theorem dX11_jumpOrCell_60 : decode cX11_jumpOrCell 60 = .ok (.aload_n 0, 1) := by decide +kernel
theorem dX11_jumpOrCell_61 : decode cX11_jumpOrCell 61 = .ok (.getfield 114, 3) := by decide +kernel
theorem dX11_jumpOrCell_64 : decode cX11_jumpOrCell 64 = .ok (.iload_n 3, 1) := by decide +kernel
theorem dX11_jumpOrCell_65 : decode cX11_jumpOrCell 65 = .ok (.iaload, 1) := by decide +kernel
theorem dX11_jumpOrCell_66 : decode cX11_jumpOrCell 66 = .ok (.iastore, 1) := by decide +kernel
theorem dX11_jumpOrCell_67 : decode cX11_jumpOrCell 67 = .ok (.goto 195, 3) := by decide +kernel
theorem dX11_jumpOrCell_70 : decode cX11_jumpOrCell 70 = .ok (.iload_n 1, 1) := by decide +kernel
theorem dX11_jumpOrCell_71 : decode cX11_jumpOrCell 71 = .ok (.bipush 21, 2) := by decide +kernel
theorem dX11_jumpOrCell_73 : decode cX11_jumpOrCell 73 = .ok (.if_icmp .ne 52, 3) := by decide +kernel
theorem dX11_jumpOrCell_76 : decode cX11_jumpOrCell 76 = .ok (.aload_n 0, 1) := by decide +kernel
theorem dX11_jumpOrCell_77 : decode cX11_jumpOrCell 77 = .ok (.invokevirtual 262, 3) := by decide +kernel
theorem dX11_jumpOrCell_80 : decode cX11_jumpOrCell 80 = .ok (.lstore 5, 2) := by decide +kernel
theorem dX11_jumpOrCell_82 : decode cX11_jumpOrCell 82 = .ok (.lload 5, 2) := by decide +kernel
theorem dX11_jumpOrCell_84 : decode cX11_jumpOrCell 84 = .ok (.lconst 0, 1) := by decide +kernel
theorem dX11_jumpOrCell_85 : decode cX11_jumpOrCell 85 = .ok (.lcmp, 1) := by decide +kernel
theorem dX11_jumpOrCell_86 : decode cX11_jumpOrCell 86 = .ok (.ifCond .lt 12, 3) := by decide +kernel
theorem dX11_jumpOrCell_89 : decode cX11_jumpOrCell 89 = .ok (.lload 5, 2) := by decide +kernel
theorem dX11_jumpOrCell_91 : decode cX11_jumpOrCell 91 = .ok (.ldc2_w 268, 3) := by decide +kernel
theorem dX11_jumpOrCell_94 : decode cX11_jumpOrCell 94 = .ok (.lcmp, 1) := by decide +kernel
theorem dX11_jumpOrCell_95 : decode cX11_jumpOrCell 95 = .ok (.ifCond .le 12, 3) := by decide +kernel
theorem dX11_jumpOrCell_98 : decode cX11_jumpOrCell 98 = .ok (.aload_n 0, 1) := by decide +kernel
theorem dX11_jumpOrCell_99 : decode cX11_jumpOrCell 99 = .ok (.iconst 3, 1) := by decide +kernel
theorem dX11_jumpOrCell_100 : decode cX11_jumpOrCell 100 = .ok (.lconst 0, 1) := by decide +kernel
theorem dX11_jumpOrCell_101 : decode cX11_jumpOrCell 101 = .ok (.invokevirtual 231, 3) := by decide +kernel
theorem dX11_jumpOrCell_104 : decode cX11_jumpOrCell 104 = .ok (.goto 18, 3) := by decide +kernel
theorem dX11_jumpOrCell_107 : decode cX11_jumpOrCell 107 = .ok (.aload_n 0, 1) := by decide +kernel
theorem dX11_jumpOrCell_108 : decode cX11_jumpOrCell 108 = .ok (.aload_n 0, 1) := by decide +kernel
theorem dX11_jumpOrCell_109 : decode cX11_jumpOrCell 109 = .ok (.getfield 99, 3) := by decide +kernel
theorem dX11_jumpOrCell_112 : decode cX11_jumpOrCell 112 = .ok (.iload 4, 2) := by decide +kernel
theorem dX11_jumpOrCell_114 : decode cX11_jumpOrCell 114 = .ok (.lload 5, 2) := by decide +kernel
theorem dX11_jumpOrCell_116 : decode cX11_jumpOrCell 116 = .ok (.l2i, 1) := by decide +kernel
theorem dX11_jumpOrCell_117 : decode cX11_jumpOrCell 117 = .ok (.iadd, 1) := by decide +kernel
theorem dX11_jumpOrCell_118 : decode cX11_jumpOrCell 118 = .ok (.laload, 1) := by decide +kernel
theorem dX11_jumpOrCell_119 : decode cX11_jumpOrCell 119 = .ok (.invokevirtual 221, 3) := by decide +kernel
theorem dX11_jumpOrCell_122 : decode cX11_jumpOrCell 122 = .ok (.goto 140, 3) := by decide +kernel
theorem dX11_jumpOrCell_125 : decode cX11_jumpOrCell 125 = .ok (.aload_n 0, 1) := by decide +kernel
theorem dX11_jumpOrCell_126 : decode cX11_jumpOrCell 126 = .ok (.invokevirtual 262, 3) := by decide +kernel
theorem dX11_jumpOrCell_129 : decode cX11_jumpOrCell 129 = .ok (.lstore 5, 2) := by decide +kernel
theorem dX11_jumpOrCell_131 : decode cX11_jumpOrCell 131 = .ok (.aload_n 0, 1) := by decide +kernel
theorem dX11_jumpOrCell_132 : decode cX11_jumpOrCell 132 = .ok (.invokevirtual 262, 3) := by decide +kernel
theorem dX11_jumpOrCell_135 : decode cX11_jumpOrCell 135 = .ok (.lstore 7, 2) := by decide +kernel
theorem dX11_jumpOrCell_137 : decode cX11_jumpOrCell 137 = .ok (.lload 7, 2) := by decide +kernel
theorem dX11_jumpOrCell_139 : decode cX11_jumpOrCell 139 = .ok (.lconst 0, 1) := by decide +kernel
theorem dX11_jumpOrCell_140 : decode cX11_jumpOrCell 140 = .ok (.lcmp, 1) := by decide +kernel
theorem dX11_jumpOrCell_141 : decode cX11_jumpOrCell 141 = .ok (.ifCond .lt 12, 3) := by decide +kernel
theorem dX11_jumpOrCell_144 : decode cX11_jumpOrCell 144 = .ok (.lload 7, 2) := by decide +kernel
theorem dX11_jumpOrCell_146 : decode cX11_jumpOrCell 146 = .ok (.ldc2_w 268, 3) := by decide +kernel
theorem dX11_jumpOrCell_149 : decode cX11_jumpOrCell 149 = .ok (.lcmp, 1) := by decide +kernel
theorem dX11_jumpOrCell_150 : decode cX11_jumpOrCell 150 = .ok (.ifCond .le 10, 3) := by decide +kernel
theorem dX11_jumpOrCell_153 : decode cX11_jumpOrCell 153 = .ok (.aload_n 0, 1) := by decide +kernel
theorem dX11_jumpOrCell_154 : decode cX11_jumpOrCell 154 = .ok (.iconst 3, 1) := by decide +kernel
theorem dX11_jumpOrCell_155 : decode cX11_jumpOrCell 155 = .ok (.lconst 0, 1) := by decide +kernel
theorem dX11_jumpOrCell_156 : decode cX11_jumpOrCell 156 = .ok (.invokevirtual 231, 3) := by decide +kernel
theorem dX11_jumpOrCell_159 : decode cX11_jumpOrCell 159 = .ok (.return_, 1) := by decide +kernel
theorem dX11_jumpOrCell_160 : decode cX11_jumpOrCell 160 = .ok (.iload 4, 2) := by decide +kernel
theorem dX11_jumpOrCell_162 : decode cX11_jumpOrCell 162 = .ok (.lload 7, 2) := by decide +kernel
theorem dX11_jumpOrCell_164 : decode cX11_jumpOrCell 164 = .ok (.l2i, 1) := by decide +kernel
theorem dX11_jumpOrCell_165 : decode cX11_jumpOrCell 165 = .ok (.iadd, 1) := by decide +kernel
theorem dX11_jumpOrCell_166 : decode cX11_jumpOrCell 166 = .ok (.istore 9, 2) := by decide +kernel
theorem dX11_jumpOrCell_168 : decode cX11_jumpOrCell 168 = .ok (.aload_n 0, 1) := by decide +kernel
theorem dX11_jumpOrCell_169 : decode cX11_jumpOrCell 169 = .ok (.getfield 99, 3) := by decide +kernel
theorem dX11_jumpOrCell_172 : decode cX11_jumpOrCell 172 = .ok (.iload 9, 2) := by decide +kernel
theorem dX11_jumpOrCell_174 : decode cX11_jumpOrCell 174 = .ok (.laload, 1) := by decide +kernel
theorem dX11_jumpOrCell_175 : decode cX11_jumpOrCell 175 = .ok (.lconst 0, 1) := by decide +kernel
theorem dX11_jumpOrCell_176 : decode cX11_jumpOrCell 176 = .ok (.lcmp, 1) := by decide +kernel
theorem dX11_jumpOrCell_177 : decode cX11_jumpOrCell 177 = .ok (.ifCond .ne 42, 3) := by decide +kernel
theorem dX11_jumpOrCell_180 : decode cX11_jumpOrCell 180 = .ok (.lload 5, 2) := by decide +kernel
theorem dX11_jumpOrCell_182 : decode cX11_jumpOrCell 182 = .ok (.lconst 0, 1) := by decide +kernel
theorem dX11_jumpOrCell_183 : decode cX11_jumpOrCell 183 = .ok (.lcmp, 1) := by decide +kernel
theorem dX11_jumpOrCell_184 : decode cX11_jumpOrCell 184 = .ok (.ifCond .eq 35, 3) := by decide +kernel
theorem dX11_jumpOrCell_187 : decode cX11_jumpOrCell 187 = .ok (.aload_n 0, 1) := by decide +kernel
theorem dX11_jumpOrCell_188 : decode cX11_jumpOrCell 188 = .ok (.getfield 117, 3) := by decide +kernel
theorem dX11_jumpOrCell_191 : decode cX11_jumpOrCell 191 = .ok (.iload_n 3, 1) := by decide +kernel
theorem dX11_jumpOrCell_192 : decode cX11_jumpOrCell 192 = .ok (.laload, 1) := by decide +kernel
theorem dX11_jumpOrCell_193 : decode cX11_jumpOrCell 193 = .ok (.ldc2_w 270, 3) := by decide +kernel
theorem dX11_jumpOrCell_196 : decode cX11_jumpOrCell 196 = .ok (.lcmp, 1) := by decide +kernel
theorem dX11_jumpOrCell_197 : decode cX11_jumpOrCell 197 = .ok (.ifCond .ge 10, 3) := by decide +kernel
theorem dX11_jumpOrCell_200 : decode cX11_jumpOrCell 200 = .ok (.aload_n 0, 1) := by decide +kernel
theorem dX11_jumpOrCell_201 : decode cX11_jumpOrCell 201 = .ok (.iconst 3, 1) := by decide +kernel
theorem dX11_jumpOrCell_202 : decode cX11_jumpOrCell 202 = .ok (.lconst 0, 1) := by decide +kernel
theorem dX11_jumpOrCell_203 : decode cX11_jumpOrCell 203 = .ok (.invokevirtual 231, 3) := by decide +kernel
theorem dX11_jumpOrCell_206 : decode cX11_jumpOrCell 206 = .ok (.return_, 1) := by decide +kernel
theorem dX11_jumpOrCell_207 : decode cX11_jumpOrCell 207 = .ok (.aload_n 0, 1) := by decide +kernel
theorem dX11_jumpOrCell_208 : decode cX11_jumpOrCell 208 = .ok (.getfield 117, 3) := by decide +kernel
theorem dX11_jumpOrCell_211 : decode cX11_jumpOrCell 211 = .ok (.iload_n 3, 1) := by decide +kernel
theorem dX11_jumpOrCell_212 : decode cX11_jumpOrCell 212 = .ok (.dup2, 1) := by decide +kernel
theorem dX11_jumpOrCell_213 : decode cX11_jumpOrCell 213 = .ok (.laload, 1) := by decide +kernel
theorem dX11_jumpOrCell_214 : decode cX11_jumpOrCell 214 = .ok (.ldc2_w 270, 3) := by decide +kernel
theorem dX11_jumpOrCell_217 : decode cX11_jumpOrCell 217 = .ok (.lsub, 1) := by decide +kernel
theorem dX11_jumpOrCell_218 : decode cX11_jumpOrCell 218 = .ok (.lastore, 1) := by decide +kernel
theorem dX11_jumpOrCell_219 : decode cX11_jumpOrCell 219 = .ok (.aload_n 0, 1) := by decide +kernel
theorem dX11_jumpOrCell_220 : decode cX11_jumpOrCell 220 = .ok (.dup, 1) := by decide +kernel
theorem dX11_jumpOrCell_221 : decode cX11_jumpOrCell 221 = .ok (.getfield 215, 3) := by decide +kernel
theorem dX11_jumpOrCell_224 : decode cX11_jumpOrCell 224 = .ok (.aload_n 0, 1) := by decide +kernel
theorem dX11_jumpOrCell_225 : decode cX11_jumpOrCell 225 = .ok (.getfield 99, 3) := by decide +kernel
theorem dX11_jumpOrCell_228 : decode cX11_jumpOrCell 228 = .ok (.iload 9, 2) := by decide +kernel
theorem dX11_jumpOrCell_230 : decode cX11_jumpOrCell 230 = .ok (.laload, 1) := by decide +kernel
theorem dX11_jumpOrCell_231 : decode cX11_jumpOrCell 231 = .ok (.lconst 0, 1) := by decide +kernel
theorem dX11_jumpOrCell_232 : decode cX11_jumpOrCell 232 = .ok (.lcmp, 1) := by decide +kernel
theorem dX11_jumpOrCell_233 : decode cX11_jumpOrCell 233 = .ok (.ifCond .eq 15, 3) := by decide +kernel
theorem dX11_jumpOrCell_236 : decode cX11_jumpOrCell 236 = .ok (.lload 5, 2) := by decide +kernel
theorem dX11_jumpOrCell_238 : decode cX11_jumpOrCell 238 = .ok (.lconst 0, 1) := by decide +kernel
theorem dX11_jumpOrCell_239 : decode cX11_jumpOrCell 239 = .ok (.lcmp, 1) := by decide +kernel
theorem dX11_jumpOrCell_240 : decode cX11_jumpOrCell 240 = .ok (.ifCond .ne 8, 3) := by decide +kernel
theorem dX11_jumpOrCell_243 : decode cX11_jumpOrCell 243 = .ok (.bipush 15, 2) := by decide +kernel
theorem dX11_jumpOrCell_245 : decode cX11_jumpOrCell 245 = .ok (.goto 4, 3) := by decide +kernel
theorem dX11_jumpOrCell_248 : decode cX11_jumpOrCell 248 = .ok (.iconst 0, 1) := by decide +kernel
theorem dX11_jumpOrCell_249 : decode cX11_jumpOrCell 249 = .ok (.iadd, 1) := by decide +kernel
theorem dX11_jumpOrCell_250 : decode cX11_jumpOrCell 250 = .ok (.putfield 215, 3) := by decide +kernel
theorem dX11_jumpOrCell_253 : decode cX11_jumpOrCell 253 = .ok (.aload_n 0, 1) := by decide +kernel
theorem dX11_jumpOrCell_254 : decode cX11_jumpOrCell 254 = .ok (.getfield 99, 3) := by decide +kernel
theorem dX11_jumpOrCell_257 : decode cX11_jumpOrCell 257 = .ok (.iload 9, 2) := by decide +kernel
theorem dX11_jumpOrCell_259 : decode cX11_jumpOrCell 259 = .ok (.lload 5, 2) := by decide +kernel
theorem dX11_jumpOrCell_261 : decode cX11_jumpOrCell 261 = .ok (.lastore, 1) := by decide +kernel
theorem dX11_jumpOrCell_262 : decode cX11_jumpOrCell 262 = .ok (.return_, 1) := by decide +kernel
theorem dX11_tellOf_0 : decode cX11_tellOf 0 = .ok (.aload_n 0, 1) := by decide +kernel
theorem dX11_tellOf_1 : decode cX11_tellOf 1 = .ok (.getfield 203, 3) := by decide +kernel
theorem dX11_tellOf_4 : decode cX11_tellOf 4 = .ok (.iconst 1, 1) := by decide +kernel
theorem dX11_tellOf_5 : decode cX11_tellOf 5 = .ok (.isub, 1) := by decide +kernel
theorem dX11_tellOf_6 : decode cX11_tellOf 6 = .ok (.istore_n 2, 1) := by decide +kernel
theorem dX11_tellOf_7 : decode cX11_tellOf 7 = .ok (.iload_n 1, 1) := by decide +kernel
theorem dX11_tellOf_8 : decode cX11_tellOf 8 = .ok (.tableswitch 135 23 29 #[44, 58, 72, 84, 97, 110, 122], 44) := by decide +kernel
theorem dX11_tellOf_52 : decode cX11_tellOf 52 = .ok (.aload_n 0, 1) := by decide +kernel
theorem dX11_tellOf_53 : decode cX11_tellOf 53 = .ok (.aload_n 0, 1) := by decide +kernel
theorem dX11_tellOf_54 : decode cX11_tellOf 54 = .ok (.getfield 120, 3) := by decide +kernel
theorem dX11_tellOf_57 : decode cX11_tellOf 57 = .ok (.iload_n 2, 1) := by decide +kernel
theorem dX11_tellOf_58 : decode cX11_tellOf 58 = .ok (.iaload, 1) := by decide +kernel
theorem dX11_tellOf_59 : decode cX11_tellOf 59 = .ok (.i2l, 1) := by decide +kernel
theorem dX11_tellOf_60 : decode cX11_tellOf 60 = .ok (.invokevirtual 221, 3) := by decide +kernel
theorem dX11_tellOf_63 : decode cX11_tellOf 63 = .ok (.goto 113, 3) := by decide +kernel
theorem dX11_tellOf_66 : decode cX11_tellOf 66 = .ok (.aload_n 0, 1) := by decide +kernel
theorem dX11_tellOf_67 : decode cX11_tellOf 67 = .ok (.aload_n 0, 1) := by decide +kernel
theorem dX11_tellOf_68 : decode cX11_tellOf 68 = .ok (.getfield 123, 3) := by decide +kernel
theorem dX11_tellOf_71 : decode cX11_tellOf 71 = .ok (.iload_n 2, 1) := by decide +kernel
theorem dX11_tellOf_72 : decode cX11_tellOf 72 = .ok (.iaload, 1) := by decide +kernel
theorem dX11_tellOf_73 : decode cX11_tellOf 73 = .ok (.i2l, 1) := by decide +kernel
theorem dX11_tellOf_74 : decode cX11_tellOf 74 = .ok (.invokevirtual 221, 3) := by decide +kernel
theorem dX11_tellOf_77 : decode cX11_tellOf 77 = .ok (.goto 99, 3) := by decide +kernel
theorem dX11_tellOf_80 : decode cX11_tellOf 80 = .ok (.aload_n 0, 1) := by decide +kernel
theorem dX11_tellOf_81 : decode cX11_tellOf 81 = .ok (.aload_n 0, 1) := by decide +kernel
theorem dX11_tellOf_82 : decode cX11_tellOf 82 = .ok (.getfield 272, 3) := by decide +kernel
theorem dX11_tellOf_85 : decode cX11_tellOf 85 = .ok (.i2l, 1) := by decide +kernel
theorem dX11_tellOf_86 : decode cX11_tellOf 86 = .ok (.invokevirtual 221, 3) := by decide +kernel
theorem dX11_tellOf_89 : decode cX11_tellOf 89 = .ok (.goto 87, 3) := by decide +kernel
theorem dX11_tellOf_92 : decode cX11_tellOf 92 = .ok (.aload_n 0, 1) := by decide +kernel
theorem dX11_tellOf_93 : decode cX11_tellOf 93 = .ok (.aload_n 0, 1) := by decide +kernel
theorem dX11_tellOf_94 : decode cX11_tellOf 94 = .ok (.getfield 126, 3) := by decide +kernel
theorem dX11_tellOf_97 : decode cX11_tellOf 97 = .ok (.iload_n 2, 1) := by decide +kernel
theorem dX11_tellOf_98 : decode cX11_tellOf 98 = .ok (.laload, 1) := by decide +kernel
theorem dX11_tellOf_99 : decode cX11_tellOf 99 = .ok (.invokevirtual 221, 3) := by decide +kernel
theorem dX11_tellOf_102 : decode cX11_tellOf 102 = .ok (.goto 74, 3) := by decide +kernel
theorem dX11_tellOf_105 : decode cX11_tellOf 105 = .ok (.aload_n 0, 1) := by decide +kernel
theorem dX11_tellOf_106 : decode cX11_tellOf 106 = .ok (.aload_n 0, 1) := by decide +kernel
theorem dX11_tellOf_107 : decode cX11_tellOf 107 = .ok (.getfield 129, 3) := by decide +kernel
theorem dX11_tellOf_110 : decode cX11_tellOf 110 = .ok (.iload_n 2, 1) := by decide +kernel
theorem dX11_tellOf_111 : decode cX11_tellOf 111 = .ok (.laload, 1) := by decide +kernel
theorem dX11_tellOf_112 : decode cX11_tellOf 112 = .ok (.invokevirtual 221, 3) := by decide +kernel
theorem dX11_tellOf_115 : decode cX11_tellOf 115 = .ok (.goto 61, 3) := by decide +kernel
theorem dX11_tellOf_118 : decode cX11_tellOf 118 = .ok (.aload_n 0, 1) := by decide +kernel
theorem dX11_tellOf_119 : decode cX11_tellOf 119 = .ok (.aload_n 0, 1) := by decide +kernel
theorem dX11_tellOf_120 : decode cX11_tellOf 120 = .ok (.getfield 275, 3) := by decide +kernel
theorem dX11_tellOf_123 : decode cX11_tellOf 123 = .ok (.i2l, 1) := by decide +kernel
theorem dX11_tellOf_124 : decode cX11_tellOf 124 = .ok (.invokevirtual 221, 3) := by decide +kernel
theorem dX11_tellOf_127 : decode cX11_tellOf 127 = .ok (.goto 49, 3) := by decide +kernel
theorem dX11_tellOf_130 : decode cX11_tellOf 130 = .ok (.aload_n 0, 1) := by decide +kernel
theorem dX11_tellOf_131 : decode cX11_tellOf 131 = .ok (.aload_n 0, 1) := by decide +kernel
theorem dX11_tellOf_132 : decode cX11_tellOf 132 = .ok (.getfield 117, 3) := by decide +kernel
theorem dX11_tellOf_135 : decode cX11_tellOf 135 = .ok (.iload_n 2, 1) := by decide +kernel
theorem dX11_tellOf_136 : decode cX11_tellOf 136 = .ok (.laload, 1) := by decide +kernel
theorem dX11_tellOf_137 : decode cX11_tellOf 137 = .ok (.invokevirtual 221, 3) := by decide +kernel
theorem dX11_tellOf_140 : decode cX11_tellOf 140 = .ok (.goto 36, 3) := by decide +kernel
theorem dX11_tellOf_143 : decode cX11_tellOf 143 = .ok (.aload_n 0, 1) := by decide +kernel
theorem dX11_tellOf_144 : decode cX11_tellOf 144 = .ok (.invokevirtual 262, 3) := by decide +kernel
theorem dX11_tellOf_147 : decode cX11_tellOf 147 = .ok (.lstore_n 3, 1) := by decide +kernel
theorem dX11_tellOf_148 : decode cX11_tellOf 148 = .ok (.aload_n 0, 1) := by decide +kernel
theorem dX11_tellOf_149 : decode cX11_tellOf 149 = .ok (.lload_n 3, 1) := by decide +kernel
theorem dX11_tellOf_150 : decode cX11_tellOf 150 = .ok (.invokestatic 181, 3) := by decide +kernel
theorem dX11_tellOf_153 : decode cX11_tellOf 153 = .ok (.ifCond .eq 16, 3) := by decide +kernel
theorem dX11_tellOf_156 : decode cX11_tellOf 156 = .ok (.aload_n 0, 1) := by decide +kernel
theorem dX11_tellOf_157 : decode cX11_tellOf 157 = .ok (.getfield 99, 3) := by decide +kernel
theorem dX11_tellOf_160 : decode cX11_tellOf 160 = .ok (.bipush 19, 2) := by decide +kernel
theorem dX11_tellOf_162 : decode cX11_tellOf 162 = .ok (.lload_n 3, 1) := by decide +kernel
theorem dX11_tellOf_163 : decode cX11_tellOf 163 = .ok (.l2i, 1) := by decide +kernel
theorem dX11_tellOf_164 : decode cX11_tellOf 164 = .ok (.imul, 1) := by decide +kernel
theorem dX11_tellOf_165 : decode cX11_tellOf 165 = .ok (.laload, 1) := by decide +kernel
theorem dX11_tellOf_166 : decode cX11_tellOf 166 = .ok (.goto 4, 3) := by decide +kernel
theorem dX11_tellOf_169 : decode cX11_tellOf 169 = .ok (.lconst 0, 1) := by decide +kernel
theorem dX11_tellOf_170 : decode cX11_tellOf 170 = .ok (.invokevirtual 221, 3) := by decide +kernel
theorem dX11_tellOf_173 : decode cX11_tellOf 173 = .ok (.goto 3, 3) := by decide +kernel
theorem dX11_tellOf_176 : decode cX11_tellOf 176 = .ok (.return_, 1) := by decide +kernel
theorem lN_15 {y : Int64} (h1 : ¬ y < 0) (h2 : ¬ 15 < y) : ∃ j, j < 16 ∧ y = lN j := by
  obtain ⟨k, hk, rfl⟩ := pk_lOf h1
  have h3 : ¬ lN 15 < lN k := h2
  rw [pk_lLT (by decide) hk] at h3
  exact ⟨k, by omega, rfl⟩
theorem lN_ok15 {j : Nat} (h : j < 16) : ¬ (lN j < 0 ∨ 15 < lN j) := by
  rintro (h1 | h1)
  · have h2 : lN j < lN 0 := h1
    rw [lN_lt (by omega) (by decide)] at h2; omega
  · have h2 : lN 15 < lN j := h1
    rw [lN_lt (by decide) (by omega)] at h2; omega
theorem pl3 {s j : Nat} (h : j < 2 ^ 31) : 19 * s + 3 + (lN j).toInt.toNat = j + 19 * s + 3 := by rw [lN_toNat h]; omega
theorem vd3_21b {X : vx_S} {c a q s k : Nat} {v r : Int64} {l o : Bool} {t : List Int64} {w : (Nat → Int64) × Nat × Nat} {fs : List vf_T} {y : Int64} {mo : Nat} (h : y < 0 ∨ 15 < y) : vm_do3 X 21 mo ((c, a, q, s, k), (v, r), (l, o), y :: t, w) fs = vm_end X ((c, a, q, s, k), (v, r), (l, o), t, w) fs 3 0 := by
  unfold vm_do3
  rw [if_neg (by decide), if_neg (by decide), if_pos rfl]
  exact if_pos h
theorem vd3_21 {X : vx_S} {c a q s k : Nat} {v r : Int64} {l o : Bool} {t : List Int64} {w : (Nat → Int64) × Nat × Nat} {fs : List vf_T} {j mo : Nat} (h : j < 16) : vm_do3 X 21 mo ((c, a, q, s, k), (v, r), (l, o), lN j :: t, w) fs = vm_on X ((c, a, q, s, k), (v, r), (l, o), X.1 (j + 19 * s + 3) :: t, w) fs := by
  unfold vm_do3
  rw [if_neg (by decide), if_neg (by decide), if_pos rfl]
  refine (if_neg (lN_ok15 h)).trans ?_
  rw [show 19 * fS ((c, a, q, s, k), (v, r), (l, o), lN j :: t, w) + 3 + ((fT ((c, a, q, s, k), (v, r), (l, o), lN j :: t, w)).getD 0 0).toInt.toNat = j + 19 * s + 3 from pl3 (by omega)]
  rfl
theorem vd3_22b {X : vx_S} {c a q s k : Nat} {v r : Int64} {l o : Bool} {t : List Int64} {w : (Nat → Int64) × Nat × Nat} {fs : List vf_T} {x y : Int64} {mo : Nat} (h : y < 0 ∨ 15 < y) : vm_do3 X 22 mo ((c, a, q, s, k), (v, r), (l, o), x :: y :: t, w) fs = vm_end X ((c, a, q, s, k), (v, r), (l, o), t, w) fs 3 0 := by
  unfold vm_do3
  rw [if_neg (by decide), if_neg (by decide), if_neg (by decide)]
  exact if_pos h
theorem vd3_22n {X : vx_S} {c a q s k : Nat} {v r : Int64} {l o : Bool} {t : List Int64} {w : (Nat → Int64) × Nat × Nat} {fs : List vf_T} {x : Int64} {j mo : Nat} (h : j < 16) (h1 : X.1 (j + 19 * s + 3) = 0) (h2 : x ≠ 0) (h3 : q < 40) : vm_do3 X 22 mo ((c, a, q, s, k), (v, r), (l, o), x :: lN j :: t, w) fs = vm_end X ((c, a, q, s, k), (v, r), (l, o), t, w) fs 3 0 := by
  unfold vm_do3
  rw [if_neg (by decide), if_neg (by decide), if_neg (by decide)]
  refine (if_neg (lN_ok15 h)).trans ?_
  rw [show 19 * fS ((c, a, q, s, k), (v, r), (l, o), x :: lN j :: t, w) + 3 + ((fT ((c, a, q, s, k), (v, r), (l, o), x :: lN j :: t, w)).getD 1 0).toInt.toNat = j + 19 * s + 3 from pl3 (by omega)]
  exact (if_pos ⟨h1, h2⟩).trans (if_pos h3)
theorem vd3_22a {X : vx_S} {c a q s k : Nat} {v r : Int64} {l o : Bool} {t : List Int64} {w : (Nat → Int64) × Nat × Nat} {fs : List vf_T} {x : Int64} {j mo : Nat} (h : j < 16) (h1 : X.1 (j + 19 * s + 3) = 0) (h2 : x ≠ 0) (h3 : ¬ q < 40) : vm_do3 X 22 mo ((c, a, q, s, k), (v, r), (l, o), x :: lN j :: t, w) fs = vm_on (up1 X.1 (j + 19 * s + 3) x, X.2) ((c, a, q - 40, s, k), (v, r), (l, o), t, w) fs := by
  unfold vm_do3
  rw [if_neg (by decide), if_neg (by decide), if_neg (by decide)]
  refine (if_neg (lN_ok15 h)).trans ?_
  rw [show 19 * fS ((c, a, q, s, k), (v, r), (l, o), x :: lN j :: t, w) + 3 + ((fT ((c, a, q, s, k), (v, r), (l, o), x :: lN j :: t, w)).getD 1 0).toInt.toNat = j + 19 * s + 3 from pl3 (by omega)]
  exact (if_pos ⟨h1, h2⟩).trans (if_neg h3)
theorem vd3_22c {X : vx_S} {c a q s k : Nat} {v r : Int64} {l o : Bool} {t : List Int64} {w : (Nat → Int64) × Nat × Nat} {fs : List vf_T} {x : Int64} {j mo bk : Nat} (h : j < 16) (h1 : ¬ (X.1 (j + 19 * s + 3) = 0 ∧ x ≠ 0)) (h2 : (if X.1 (j + 19 * s + 3) ≠ 0 ∧ x = 0 then 15 else 0) = bk) : vm_do3 X 22 mo ((c, a, q, s, k), (v, r), (l, o), x :: lN j :: t, w) fs = vm_on (up1 X.1 (j + 19 * s + 3) x, X.2.1, X.2.2.1 + bk, X.2.2.2) ((c, a, q, s, k), (v, r), (l, o), t, w) fs := by
  unfold vm_do3
  rw [if_neg (by decide), if_neg (by decide), if_neg (by decide)]
  refine (if_neg (lN_ok15 h)).trans ?_
  rw [show 19 * fS ((c, a, q, s, k), (v, r), (l, o), x :: lN j :: t, w) + 3 + ((fT ((c, a, q, s, k), (v, r), (l, o), x :: lN j :: t, w)).getD 1 0).toInt.toNat = j + 19 * s + 3 from pl3 (by omega), ← h2]
  exact if_neg h1
theorem cr_jump {G : rx_E} {d : Nat} {C : rx_M} {S0 S : gs_T} {g : vg_T} {n : Nat → Int64} {e : List (Nat × Int64 × Int64)} {b m c a q s k : Nat} {v r : Int64} {l o : Bool} {t : List Int64} {w : (Nat → Int64) × Nat × Nat} {fs : List vf_T} (hG : rx_OK G) {mo : Nat} (hp : fs.length < 11) (hs : s < 32) (hw : w.2.1 ≤ e.length) (hq : q ≤ 30000) (hb : b ≤ 30001) (hlow : vw_low fs)  (hY : rm_Y S0 S g (n, e, b, ((c, a, q, s, k), (v, r), (l, o), t, w) :: fs, m) 0) : rx_C G MX11_jumpOrCell (d + 2) [.ref 52, .int (nI 19), .int (nI mo)] (gl C S) 0 0 (rq_on C S0 g (vm_do3 (n, e, b, ((c, a, q, s, k), (v, r), (l, o), t, w) :: fs, m) 19 mo ((c, a, q, s, k), (v, r), (l, o), t, w) fs)) := by
  refine rx_meth0 (by decide +kernel) rfl (Nat.le_of_ble_eq_true rfl) ?_
  refine rx_aload_n dX11_jumpOrCell_0 rfl rfl ?_
  refine gmv_getI (v := nI (fs.length + 1)) hG hf_RX11_203 rfl dX11_jumpOrCell_1 rfl rfl rfl (rY_dep hY) ?_
  refine rx_iconst (v := nI 1) dX11_jumpOrCell_4 rfl ?_
  refine rx_isub dX11_jumpOrCell_5 ?_
  refine rx_ti (y := nI fs.length) ((pk_sub (by omega)).trans (congrArg nI (by omega))) ?_
  refine rx_istore_n dX11_jumpOrCell_6 (by decide) ?_
  refine rx_bipush (v := nI 19) dX11_jumpOrCell_7 rfl ?_
  refine rx_aload_n dX11_jumpOrCell_9 rfl rfl ?_
  refine g_getR hG hf_RX11_120 rfl dX11_jumpOrCell_10 rfl rfl rfl ?_
  refine rx_iload_n dX11_jumpOrCell_13 rfl ?_
  refine gmv_iald (j := fs.length) (v := nI s) hG dX11_jumpOrCell_14 rfl rfl rfl rfl (by omega) (by decide) (rY_self hY) ?_
  refine rx_imul dX11_jumpOrCell_15 ?_
  refine rx_ti (y := nI (19 * s)) ((pk_mul _ _).trans (congrArg nI (by omega))) ?_
  refine rx_iconst (v := nI 3) dX11_jumpOrCell_16 rfl ?_
  refine rx_iadd dX11_jumpOrCell_17 ?_
  refine rx_ti (y := nI (19 * s + 3)) ((nI_add _ _).trans (congrArg nI (by omega))) ?_
  refine rx_istore dX11_jumpOrCell_18 (by decide) ?_
  refine rx_iload_n dX11_jumpOrCell_20 rfl ?_
  refine rx_bipush (v := nI 19) dX11_jumpOrCell_21 rfl ?_
  refine rx_icmp_ne (tgt := 36) dX11_jumpOrCell_23 (by decide) (fun h23 => (absurd h23 (by decide))) (fun h23 => ?_)
  refine rx_aload_n dX11_jumpOrCell_26 rfl rfl ?_
  refine g_getR hG hf_RX11_114 rfl dX11_jumpOrCell_27 rfl rfl rfl ?_
  refine rx_iload_n dX11_jumpOrCell_30 rfl ?_
  refine rx_iload_n dX11_jumpOrCell_31 rfl ?_
  refine gm_iast (j := fs.length) hG dX11_jumpOrCell_32 rfl rfl rfl rfl (by omega) (by decide) ?_
  refine rY_ab (rY_setAt hY mo) (fun _ hY1 => ?_)
  refine rx_goto (tgt := 262) dX11_jumpOrCell_33 (by decide) ?_
  exact rx_vret rfl dX11_jumpOrCell_262 ⟨rfl, _, rfl, Or.inl ⟨_, rfl, hY1⟩⟩
theorem cr_jumpif {G : rx_E} {d : Nat} {C : rx_M} {S0 S : gs_T} {g : vg_T} {n : Nat → Int64} {e : List (Nat × Int64 × Int64)} {b m c a q s k : Nat} {v r : Int64} {l o : Bool} {t : List Int64} {w : (Nat → Int64) × Nat × Nat} {fs : List vf_T} (hG : rx_OK G) {mo : Nat} (hp : fs.length < 11) (hs : s < 32) (hw : w.2.1 ≤ e.length) (hq : q ≤ 30000) (hb : b ≤ 30001) (hlow : vw_low fs) {y : Int64} (hY : rm_Y S0 S g (n, e, b, ((c, a, q, s, k), (v, r), (l, o), (y :: t), w) :: fs, m) 0) : rx_C G MX11_jumpOrCell (d + 2) [.ref 52, .int (nI 20), .int (nI mo)] (gl C S) 0 0 (rq_on C S0 g (vm_do3 (n, e, b, ((c, a, q, s, k), (v, r), (l, o), (y :: t), w) :: fs, m) 20 mo ((c, a, q, s, k), (v, r), (l, o), (y :: t), w) fs)) := by
  refine rx_meth0 (by decide +kernel) rfl (Nat.le_of_ble_eq_true rfl) ?_
  refine rx_aload_n dX11_jumpOrCell_0 rfl rfl ?_
  refine gmv_getI (v := nI (fs.length + 1)) hG hf_RX11_203 rfl dX11_jumpOrCell_1 rfl rfl rfl (rY_dep hY) ?_
  refine rx_iconst (v := nI 1) dX11_jumpOrCell_4 rfl ?_
  refine rx_isub dX11_jumpOrCell_5 ?_
  refine rx_ti (y := nI fs.length) ((pk_sub (by omega)).trans (congrArg nI (by omega))) ?_
  refine rx_istore_n dX11_jumpOrCell_6 (by decide) ?_
  refine rx_bipush (v := nI 19) dX11_jumpOrCell_7 rfl ?_
  refine rx_aload_n dX11_jumpOrCell_9 rfl rfl ?_
  refine g_getR hG hf_RX11_120 rfl dX11_jumpOrCell_10 rfl rfl rfl ?_
  refine rx_iload_n dX11_jumpOrCell_13 rfl ?_
  refine gmv_iald (j := fs.length) (v := nI s) hG dX11_jumpOrCell_14 rfl rfl rfl rfl (by omega) (by decide) (rY_self hY) ?_
  refine rx_imul dX11_jumpOrCell_15 ?_
  refine rx_ti (y := nI (19 * s)) ((pk_mul _ _).trans (congrArg nI (by omega))) ?_
  refine rx_iconst (v := nI 3) dX11_jumpOrCell_16 rfl ?_
  refine rx_iadd dX11_jumpOrCell_17 ?_
  refine rx_ti (y := nI (19 * s + 3)) ((nI_add _ _).trans (congrArg nI (by omega))) ?_
  refine rx_istore dX11_jumpOrCell_18 (by decide) ?_
  refine rx_iload_n dX11_jumpOrCell_20 rfl ?_
  refine rx_bipush (v := nI 19) dX11_jumpOrCell_21 rfl ?_
  refine rx_icmp_ne (tgt := 36) dX11_jumpOrCell_23 (by decide) (fun h23 => ?_) (fun h23 => (absurd h23 (by decide))) 
  refine rx_iload_n dX11_jumpOrCell_36 rfl ?_
  refine rx_bipush (v := nI 20) dX11_jumpOrCell_37 rfl ?_
  refine rx_icmp_ne (tgt := 70) dX11_jumpOrCell_39 (by decide) (fun h39 => (absurd h39 (by decide))) (fun h39 => ?_)
  refine rx_aload_n dX11_jumpOrCell_42 rfl rfl ?_
  refine g_getR hG hf_RX11_114 rfl dX11_jumpOrCell_43 rfl rfl rfl ?_
  refine rx_iload_n dX11_jumpOrCell_46 rfl ?_
  refine rx_aload_n dX11_jumpOrCell_47 rfl rfl ?_
  refine gv_invV (as := []) hG okX11_pop lk_RX11_262 rfl rfl dX11_jumpOrCell_48 rfl (by simp [Value.category]) (cr_pop hG hY (by omega)) ?_
  rintro _ _ ⟨rfl, _, rfl, hY1⟩
  refine rx_lconst (v := lN 0) dX11_jumpOrCell_51 rfl ?_
  refine rx_lc_eq (tgt := 60) dX11_jumpOrCell_52 dX11_jumpOrCell_53 (by decide) (fun h52 => ?_) (fun h52 => ?_)
  · refine rx_aload_n dX11_jumpOrCell_60 rfl rfl ?_
    refine g_getR hG hf_RX11_114 rfl dX11_jumpOrCell_61 rfl rfl rfl ?_
    refine rx_iload_n dX11_jumpOrCell_64 rfl ?_
    refine gmv_iald (j := fs.length) (v := nI a) hG dX11_jumpOrCell_65 rfl rfl rfl rfl (by omega) (by decide) (rY_at hY1) ?_
    refine gm_iast (j := fs.length) hG dX11_jumpOrCell_66 rfl rfl rfl rfl (by omega) (by decide) ?_
    refine rY_ab (rY_setAt hY1 a) (fun _ hY2 => ?_)
    refine rx_goto (tgt := 262) dX11_jumpOrCell_67 (by decide) ?_
    exact rx_vret rfl dX11_jumpOrCell_262 ⟨rfl, _, rfl, Or.inl ⟨_, congrArg (fun z => ((n, e, b, ((c, z, q, s, k), (v, r), (l, o), t, w) :: fs, m), (none : Option (Nat × Int64 × Nat)))) (if_pos h52 : (if y = 0 then a else mo) = a), hY2⟩⟩
  · refine rx_iload_n dX11_jumpOrCell_56 rfl ?_
    refine rx_goto (tgt := 66) dX11_jumpOrCell_57 (by decide) ?_
    refine gm_iast (j := fs.length) hG dX11_jumpOrCell_66 rfl rfl rfl rfl (by omega) (by decide) ?_
    refine rY_ab (rY_setAt hY1 mo) (fun _ hY2 => ?_)
    refine rx_goto (tgt := 262) dX11_jumpOrCell_67 (by decide) ?_
    exact rx_vret rfl dX11_jumpOrCell_262 ⟨rfl, _, rfl, Or.inl ⟨_, congrArg (fun z => ((n, e, b, ((c, z, q, s, k), (v, r), (l, o), t, w) :: fs, m), (none : Option (Nat × Int64 × Nat)))) (if_neg h52 : (if y = 0 then a else mo) = mo), hY2⟩⟩
theorem cr_load {G : rx_E} {d : Nat} {C : rx_M} {S0 S : gs_T} {g : vg_T} {n : Nat → Int64} {e : List (Nat × Int64 × Int64)} {b m c a q s k : Nat} {v r : Int64} {l o : Bool} {t : List Int64} {w : (Nat → Int64) × Nat × Nat} {fs : List vf_T} (hG : rx_OK G) {mo : Nat} (hp : fs.length < 11) (hs : s < 32) (hw : w.2.1 ≤ e.length) (hq : q ≤ 30000) (hb : b ≤ 30001) (hlow : vw_low fs) {y : Int64} (hY : rm_Y S0 S g (n, e, b, ((c, a, q, s, k), (v, r), (l, o), (y :: t), w) :: fs, m) 0) : rx_C G MX11_jumpOrCell (d + 2) [.ref 52, .int (nI 21), .int (nI mo)] (gl C S) 0 0 (rq_on C S0 g (vm_do3 (n, e, b, ((c, a, q, s, k), (v, r), (l, o), (y :: t), w) :: fs, m) 21 mo ((c, a, q, s, k), (v, r), (l, o), (y :: t), w) fs)) := by
  refine rx_meth0 (by decide +kernel) rfl (Nat.le_of_ble_eq_true rfl) ?_
  have ht : t.length + 1 ≤ 24 := rY_n hY
  refine rx_aload_n dX11_jumpOrCell_0 rfl rfl ?_
  refine gmv_getI (v := nI (fs.length + 1)) hG hf_RX11_203 rfl dX11_jumpOrCell_1 rfl rfl rfl (rY_dep hY) ?_
  refine rx_iconst (v := nI 1) dX11_jumpOrCell_4 rfl ?_
  refine rx_isub dX11_jumpOrCell_5 ?_
  refine rx_ti (y := nI fs.length) ((pk_sub (by omega)).trans (congrArg nI (by omega))) ?_
  refine rx_istore_n dX11_jumpOrCell_6 (by decide) ?_
  refine rx_bipush (v := nI 19) dX11_jumpOrCell_7 rfl ?_
  refine rx_aload_n dX11_jumpOrCell_9 rfl rfl ?_
  refine g_getR hG hf_RX11_120 rfl dX11_jumpOrCell_10 rfl rfl rfl ?_
  refine rx_iload_n dX11_jumpOrCell_13 rfl ?_
  refine gmv_iald (j := fs.length) (v := nI s) hG dX11_jumpOrCell_14 rfl rfl rfl rfl (by omega) (by decide) (rY_self hY) ?_
  refine rx_imul dX11_jumpOrCell_15 ?_
  refine rx_ti (y := nI (19 * s)) ((pk_mul _ _).trans (congrArg nI (by omega))) ?_
  refine rx_iconst (v := nI 3) dX11_jumpOrCell_16 rfl ?_
  refine rx_iadd dX11_jumpOrCell_17 ?_
  refine rx_ti (y := nI (19 * s + 3)) ((nI_add _ _).trans (congrArg nI (by omega))) ?_
  refine rx_istore dX11_jumpOrCell_18 (by decide) ?_
  refine rx_iload_n dX11_jumpOrCell_20 rfl ?_
  refine rx_bipush (v := nI 19) dX11_jumpOrCell_21 rfl ?_
  refine rx_icmp_ne (tgt := 36) dX11_jumpOrCell_23 (by decide) (fun h23 => ?_) (fun h23 => (absurd h23 (by decide))) 
  refine rx_iload_n dX11_jumpOrCell_36 rfl ?_
  refine rx_bipush (v := nI 20) dX11_jumpOrCell_37 rfl ?_
  refine rx_icmp_ne (tgt := 70) dX11_jumpOrCell_39 (by decide) (fun h39 => ?_) (fun h39 => (absurd h39 (by decide))) 
  refine rx_iload_n dX11_jumpOrCell_70 rfl ?_
  refine rx_bipush (v := nI 21) dX11_jumpOrCell_71 rfl ?_
  refine rx_icmp_ne (tgt := 125) dX11_jumpOrCell_73 (by decide) (fun h73 => (absurd h73 (by decide))) (fun h73 => ?_)
  refine rx_aload_n dX11_jumpOrCell_76 rfl rfl ?_
  refine gv_invV (as := []) hG okX11_pop lk_RX11_262 rfl rfl dX11_jumpOrCell_77 rfl (by simp [Value.category]) (cr_pop hG hY (by omega)) ?_
  rintro _ _ ⟨rfl, _, rfl, hY1⟩
  refine rx_lstore dX11_jumpOrCell_80 (by decide) ?_
  refine rx_lload dX11_jumpOrCell_82 rfl ?_
  refine rx_lconst (v := lN 0) dX11_jumpOrCell_84 rfl ?_
  refine rx_lc_lt (tgt := 98) dX11_jumpOrCell_85 dX11_jumpOrCell_86 (by decide) (fun h85 => ?_) (fun h85 => ?_)
  · refine rx_aload_n dX11_jumpOrCell_98 rfl rfl ?_
    refine rx_iconst (v := nI 3) dX11_jumpOrCell_99 rfl ?_
    refine rx_lconst (v := lN 0) dX11_jumpOrCell_100 rfl ?_
    refine gv_invV (as := [.int _, .long _]) hG okX11_finish lk_RX11_231 rfl rfl dX11_jumpOrCell_101 rfl (by simp [Value.category]) (cr_fin3 hG hY1 (by omega) hlow hw _) ?_
    rintro _ _ ⟨rfl, _, rfl, hF⟩
    refine rx_goto (tgt := 122) dX11_jumpOrCell_104 (by decide) ?_
    refine rx_goto (tgt := 262) dX11_jumpOrCell_122 (by decide) ?_
    exact rx_vret rfl dX11_jumpOrCell_262 ⟨rfl, _, rfl, rm_onE (vd3_21b (Or.inl h85)) hF⟩
  · refine rx_lload dX11_jumpOrCell_89 rfl ?_
    refine rx_ldc2 hG hw_891 dX11_jumpOrCell_91 ?_
    refine rx_tl (y := lN 15) rfl ?_
    refine rx_lc_le (tgt := 107) dX11_jumpOrCell_94 dX11_jumpOrCell_95 (by decide) (fun h94 => ?_) (fun h94 => ?_)
    · obtain ⟨j, hj, rfl⟩ := lN_15 (fun h => h85 h) (Int64.not_lt.mpr h94)
      refine rx_aload_n dX11_jumpOrCell_107 rfl rfl ?_
      refine rx_aload_n dX11_jumpOrCell_108 rfl rfl ?_
      refine g_getR hG hf_RX11_99 rfl dX11_jumpOrCell_109 rfl rfl rfl ?_
      refine rx_iload dX11_jumpOrCell_112 rfl ?_
      refine rx_lload dX11_jumpOrCell_114 rfl ?_
      refine rx_l2i dX11_jumpOrCell_116 ?_
      refine rx_ti (y := nI j) (lN_i _) ?_
      refine rx_iadd dX11_jumpOrCell_117 ?_
      refine rx_ti (y := nI (j + 19 * s + 3)) ((nI_add _ _).trans (congrArg nI (by omega))) ?_
      refine gmv_lald (j := j + 19 * s + 3) (v := n (j + 19 * s + 3)) hG dX11_jumpOrCell_118 rfl rfl rfl rfl (by omega) (by decide) (rY_now hY1 (by omega)) ?_
      refine gv_invV (as := [.long _]) hG okX11_push lk_RX11_221 rfl rfl dX11_jumpOrCell_119 rfl (by simp [Value.category]) (cr_push hG hY1 (by omega) (by (try simp only [List.length_cons, List.length_nil]); omega) _) ?_
      rintro _ _ ⟨rfl, _, rfl, hY2⟩
      refine rx_goto (tgt := 262) dX11_jumpOrCell_122 (by decide) ?_
      exact rx_vret rfl dX11_jumpOrCell_262 ⟨rfl, _, rfl, Or.inl ⟨_, (vd3_21 hj).trans rfl, hY2⟩⟩
    · refine rx_aload_n dX11_jumpOrCell_98 rfl rfl ?_
      refine rx_iconst (v := nI 3) dX11_jumpOrCell_99 rfl ?_
      refine rx_lconst (v := lN 0) dX11_jumpOrCell_100 rfl ?_
      refine gv_invV (as := [.int _, .long _]) hG okX11_finish lk_RX11_231 rfl rfl dX11_jumpOrCell_101 rfl (by simp [Value.category]) (cr_fin3 hG hY1 (by omega) hlow hw _) ?_
      rintro _ _ ⟨rfl, _, rfl, hF⟩
      refine rx_goto (tgt := 122) dX11_jumpOrCell_104 (by decide) ?_
      refine rx_goto (tgt := 262) dX11_jumpOrCell_122 (by decide) ?_
      exact rx_vret rfl dX11_jumpOrCell_262 ⟨rfl, _, rfl, rm_onE (vd3_21b (Or.inr (Int64.not_le.mp h94))) hF⟩
theorem cr_store {G : rx_E} {d : Nat} {C : rx_M} {S0 S : gs_T} {g : vg_T} {n : Nat → Int64} {e : List (Nat × Int64 × Int64)} {b m c a q s k : Nat} {v r : Int64} {l o : Bool} {t : List Int64} {w : (Nat → Int64) × Nat × Nat} {fs : List vf_T} (hG : rx_OK G) {mo : Nat} (hp : fs.length < 11) (hs : s < 32) (hw : w.2.1 ≤ e.length) (hq : q ≤ 30000) (hb : b ≤ 30001) (hlow : vw_low fs) {x y : Int64} (hY : rm_Y S0 S g (n, e, b, ((c, a, q, s, k), (v, r), (l, o), (x :: (y :: t)), w) :: fs, m) 0) : rx_C G MX11_jumpOrCell (d + 2) [.ref 52, .int (nI 22), .int (nI mo)] (gl C S) 0 0 (rq_on C S0 g (vm_do3 (n, e, b, ((c, a, q, s, k), (v, r), (l, o), (x :: (y :: t)), w) :: fs, m) 22 mo ((c, a, q, s, k), (v, r), (l, o), (x :: (y :: t)), w) fs)) := by
  refine rx_meth0 (by decide +kernel) rfl (Nat.le_of_ble_eq_true rfl) ?_
  have ht : t.length + 2 ≤ 24 := rY_n hY
  refine rx_aload_n dX11_jumpOrCell_0 rfl rfl ?_
  refine gmv_getI (v := nI (fs.length + 1)) hG hf_RX11_203 rfl dX11_jumpOrCell_1 rfl rfl rfl (rY_dep hY) ?_
  refine rx_iconst (v := nI 1) dX11_jumpOrCell_4 rfl ?_
  refine rx_isub dX11_jumpOrCell_5 ?_
  refine rx_ti (y := nI fs.length) ((pk_sub (by omega)).trans (congrArg nI (by omega))) ?_
  refine rx_istore_n dX11_jumpOrCell_6 (by decide) ?_
  refine rx_bipush (v := nI 19) dX11_jumpOrCell_7 rfl ?_
  refine rx_aload_n dX11_jumpOrCell_9 rfl rfl ?_
  refine g_getR hG hf_RX11_120 rfl dX11_jumpOrCell_10 rfl rfl rfl ?_
  refine rx_iload_n dX11_jumpOrCell_13 rfl ?_
  refine gmv_iald (j := fs.length) (v := nI s) hG dX11_jumpOrCell_14 rfl rfl rfl rfl (by omega) (by decide) (rY_self hY) ?_
  refine rx_imul dX11_jumpOrCell_15 ?_
  refine rx_ti (y := nI (19 * s)) ((pk_mul _ _).trans (congrArg nI (by omega))) ?_
  refine rx_iconst (v := nI 3) dX11_jumpOrCell_16 rfl ?_
  refine rx_iadd dX11_jumpOrCell_17 ?_
  refine rx_ti (y := nI (19 * s + 3)) ((nI_add _ _).trans (congrArg nI (by omega))) ?_
  refine rx_istore dX11_jumpOrCell_18 (by decide) ?_
  refine rx_iload_n dX11_jumpOrCell_20 rfl ?_
  refine rx_bipush (v := nI 19) dX11_jumpOrCell_21 rfl ?_
  refine rx_icmp_ne (tgt := 36) dX11_jumpOrCell_23 (by decide) (fun h23 => ?_) (fun h23 => (absurd h23 (by decide))) 
  refine rx_iload_n dX11_jumpOrCell_36 rfl ?_
  refine rx_bipush (v := nI 20) dX11_jumpOrCell_37 rfl ?_
  refine rx_icmp_ne (tgt := 70) dX11_jumpOrCell_39 (by decide) (fun h39 => ?_) (fun h39 => (absurd h39 (by decide))) 
  refine rx_iload_n dX11_jumpOrCell_70 rfl ?_
  refine rx_bipush (v := nI 21) dX11_jumpOrCell_71 rfl ?_
  refine rx_icmp_ne (tgt := 125) dX11_jumpOrCell_73 (by decide) (fun h73 => ?_) (fun h73 => (absurd h73 (by decide))) 
  refine rx_aload_n dX11_jumpOrCell_125 rfl rfl ?_
  refine gv_invV (as := []) hG okX11_pop lk_RX11_262 rfl rfl dX11_jumpOrCell_126 rfl (by simp [Value.category]) (cr_pop hG hY (by omega)) ?_
  rintro _ _ ⟨rfl, _, rfl, hY1⟩
  refine rx_lstore dX11_jumpOrCell_129 (by decide) ?_
  refine rx_aload_n dX11_jumpOrCell_131 rfl rfl ?_
  refine gv_invV (as := []) hG okX11_pop lk_RX11_262 rfl rfl dX11_jumpOrCell_132 rfl (by simp [Value.category]) (cr_pop hG hY1 (by omega)) ?_
  rintro _ _ ⟨rfl, _, rfl, hY2⟩
  refine rx_lstore dX11_jumpOrCell_135 (by decide) ?_
  refine rx_lload dX11_jumpOrCell_137 rfl ?_
  refine rx_lconst (v := lN 0) dX11_jumpOrCell_139 rfl ?_
  refine rx_lc_lt (tgt := 153) dX11_jumpOrCell_140 dX11_jumpOrCell_141 (by decide) (fun h140 => ?_) (fun h140 => ?_)
  · refine rx_aload_n dX11_jumpOrCell_153 rfl rfl ?_
    refine rx_iconst (v := nI 3) dX11_jumpOrCell_154 rfl ?_
    refine rx_lconst (v := lN 0) dX11_jumpOrCell_155 rfl ?_
    refine gv_invV (as := [.int _, .long _]) hG okX11_finish lk_RX11_231 rfl rfl dX11_jumpOrCell_156 rfl (by simp [Value.category]) (cr_fin3 hG hY2 (by omega) hlow hw _) ?_
    rintro _ _ ⟨rfl, _, rfl, hF⟩
    exact rx_vret rfl dX11_jumpOrCell_159 ⟨rfl, _, rfl, rm_onE (vd3_22b (Or.inl h140)) hF⟩
  · refine rx_lload dX11_jumpOrCell_144 rfl ?_
    refine rx_ldc2 hG hw_891 dX11_jumpOrCell_146 ?_
    refine rx_tl (y := lN 15) rfl ?_
    refine rx_lc_le (tgt := 160) dX11_jumpOrCell_149 dX11_jumpOrCell_150 (by decide) (fun h149 => ?_) (fun h149 => ?_)
    · obtain ⟨j, hj, rfl⟩ := lN_15 (fun h => h140 h) (Int64.not_lt.mpr h149)
      refine rx_iload dX11_jumpOrCell_160 rfl ?_
      refine rx_lload dX11_jumpOrCell_162 rfl ?_
      refine rx_l2i dX11_jumpOrCell_164 ?_
      refine rx_ti (y := nI j) (lN_i _) ?_
      refine rx_iadd dX11_jumpOrCell_165 ?_
      refine rx_ti (y := nI (j + 19 * s + 3)) ((nI_add _ _).trans (congrArg nI (by omega))) ?_
      refine rx_istore dX11_jumpOrCell_166 (by decide) ?_
      refine rx_aload_n dX11_jumpOrCell_168 rfl rfl ?_
      refine g_getR hG hf_RX11_99 rfl dX11_jumpOrCell_169 rfl rfl rfl ?_
      refine rx_iload dX11_jumpOrCell_172 rfl ?_
      refine gmv_lald (j := j + 19 * s + 3) (v := n (j + 19 * s + 3)) hG dX11_jumpOrCell_174 rfl rfl rfl rfl (by omega) (by decide) (rY_now hY2 (by omega)) ?_
      refine rx_lconst (v := lN 0) dX11_jumpOrCell_175 rfl ?_
      refine rx_lc_ne (tgt := 219) dX11_jumpOrCell_176 dX11_jumpOrCell_177 (by decide) (fun h176 => ?_) (fun h176 => ?_)
      · refine rx_aload_n dX11_jumpOrCell_219 rfl rfl ?_
        refine rx_dup dX11_jumpOrCell_220 rfl ?_
        refine gmv_getI (v := nI b) hG hf_RX11_215 rfl dX11_jumpOrCell_221 rfl rfl rfl (rY_back hY2) ?_
        refine rx_aload_n dX11_jumpOrCell_224 rfl rfl ?_
        refine g_getR hG hf_RX11_99 rfl dX11_jumpOrCell_225 rfl rfl rfl ?_
        refine rx_iload dX11_jumpOrCell_228 rfl ?_
        refine gmv_lald (j := j + 19 * s + 3) (v := n (j + 19 * s + 3)) hG dX11_jumpOrCell_230 rfl rfl rfl rfl (by omega) (by decide) (rY_now hY2 (by omega)) ?_
        refine rx_lconst (v := lN 0) dX11_jumpOrCell_231 rfl ?_
        refine rx_lc_eq (tgt := 248) dX11_jumpOrCell_232 dX11_jumpOrCell_233 (by decide) (fun h232 => absurd h232 h176) (fun h232 => ?_)
        refine rx_lload dX11_jumpOrCell_236 rfl ?_
        refine rx_lconst (v := lN 0) dX11_jumpOrCell_238 rfl ?_
        refine rx_lc_ne (tgt := 248) dX11_jumpOrCell_239 dX11_jumpOrCell_240 (by decide) (fun h239 => ?_) (fun h239 => ?_)
        · refine rx_iconst (v := nI 0) dX11_jumpOrCell_248 rfl ?_
          refine rx_iadd dX11_jumpOrCell_249 ?_
          refine rx_ti (y := nI b) ((nI_add _ _).trans (congrArg nI (by omega))) ?_
          refine gm_putI hG hf_RX11_215 (gw_nf rfl rfl) rfl dX11_jumpOrCell_250 rfl rfl rfl rfl rfl ?_
          refine rY_ab (rY_setBack hY2 b) (fun _ hY3 => ?_)
          refine rx_aload_n dX11_jumpOrCell_253 rfl rfl ?_
          refine g_getR hG hf_RX11_99 rfl dX11_jumpOrCell_254 rfl rfl rfl ?_
          refine rx_iload dX11_jumpOrCell_257 rfl ?_
          refine rx_lload dX11_jumpOrCell_259 rfl ?_
          refine gm_last (j := j + 19 * s + 3) hG dX11_jumpOrCell_261 rfl rfl rfl rfl (by omega) (by decide) ?_
          refine rY_ab (rY_setNow hY3 (j + 19 * s + 3) x) (fun _ hY4 => ?_)
          exact rx_vret rfl dX11_jumpOrCell_262 ⟨rfl, _, rfl, Or.inl ⟨_, (vd3_22c (bk := 0) hj (fun h => h176 h.1) (if_neg (fun h => h239 h.2))).trans rfl, hY4⟩⟩
        · refine rx_bipush (v := nI 15) dX11_jumpOrCell_243 rfl ?_
          refine rx_goto (tgt := 249) dX11_jumpOrCell_245 (by decide) ?_
          refine rx_iadd dX11_jumpOrCell_249 ?_
          refine rx_ti (y := nI (b + 15)) ((nI_add _ _).trans (congrArg nI (by omega))) ?_
          refine gm_putI hG hf_RX11_215 (gw_nf rfl rfl) rfl dX11_jumpOrCell_250 rfl rfl rfl rfl rfl ?_
          refine rY_ab (rY_setBack hY2 (b + 15)) (fun _ hY3 => ?_)
          refine rx_aload_n dX11_jumpOrCell_253 rfl rfl ?_
          refine g_getR hG hf_RX11_99 rfl dX11_jumpOrCell_254 rfl rfl rfl ?_
          refine rx_iload dX11_jumpOrCell_257 rfl ?_
          refine rx_lload dX11_jumpOrCell_259 rfl ?_
          refine gm_last (j := j + 19 * s + 3) hG dX11_jumpOrCell_261 rfl rfl rfl rfl (by omega) (by decide) ?_
          refine rY_ab (rY_setNow hY3 (j + 19 * s + 3) x) (fun _ hY4 => ?_)
          exact rx_vret rfl dX11_jumpOrCell_262 ⟨rfl, _, rfl, Or.inl ⟨_, (vd3_22c (bk := 15) hj (fun h => h176 h.1) (if_pos ⟨h232, h239⟩)).trans rfl, hY4⟩⟩
      · refine rx_lload dX11_jumpOrCell_180 rfl ?_
        refine rx_lconst (v := lN 0) dX11_jumpOrCell_182 rfl ?_
        refine rx_lc_eq (tgt := 219) dX11_jumpOrCell_183 dX11_jumpOrCell_184 (by decide) (fun h183 => ?_) (fun h183 => ?_)
        · refine rx_aload_n dX11_jumpOrCell_219 rfl rfl ?_
          refine rx_dup dX11_jumpOrCell_220 rfl ?_
          refine gmv_getI (v := nI b) hG hf_RX11_215 rfl dX11_jumpOrCell_221 rfl rfl rfl (rY_back hY2) ?_
          refine rx_aload_n dX11_jumpOrCell_224 rfl rfl ?_
          refine g_getR hG hf_RX11_99 rfl dX11_jumpOrCell_225 rfl rfl rfl ?_
          refine rx_iload dX11_jumpOrCell_228 rfl ?_
          refine gmv_lald (j := j + 19 * s + 3) (v := n (j + 19 * s + 3)) hG dX11_jumpOrCell_230 rfl rfl rfl rfl (by omega) (by decide) (rY_now hY2 (by omega)) ?_
          refine rx_lconst (v := lN 0) dX11_jumpOrCell_231 rfl ?_
          refine rx_lc_eq (tgt := 248) dX11_jumpOrCell_232 dX11_jumpOrCell_233 (by decide) (fun h232 => ?_) (fun h232 => absurd h176 h232) 
          refine rx_iconst (v := nI 0) dX11_jumpOrCell_248 rfl ?_
          refine rx_iadd dX11_jumpOrCell_249 ?_
          refine rx_ti (y := nI b) ((nI_add _ _).trans (congrArg nI (by omega))) ?_
          refine gm_putI hG hf_RX11_215 (gw_nf rfl rfl) rfl dX11_jumpOrCell_250 rfl rfl rfl rfl rfl ?_
          refine rY_ab (rY_setBack hY2 b) (fun _ hY3 => ?_)
          refine rx_aload_n dX11_jumpOrCell_253 rfl rfl ?_
          refine g_getR hG hf_RX11_99 rfl dX11_jumpOrCell_254 rfl rfl rfl ?_
          refine rx_iload dX11_jumpOrCell_257 rfl ?_
          refine rx_lload dX11_jumpOrCell_259 rfl ?_
          refine gm_last (j := j + 19 * s + 3) hG dX11_jumpOrCell_261 rfl rfl rfl rfl (by omega) (by decide) ?_
          refine rY_ab (rY_setNow hY3 (j + 19 * s + 3) x) (fun _ hY4 => ?_)
          exact rx_vret rfl dX11_jumpOrCell_262 ⟨rfl, _, rfl, Or.inl ⟨_, (vd3_22c (bk := 0) hj (fun h => h.2 h183) (if_neg (fun h => h.1 h232))).trans rfl, hY4⟩⟩
        · refine rx_aload_n dX11_jumpOrCell_187 rfl rfl ?_
          refine g_getR hG hf_RX11_117 rfl dX11_jumpOrCell_188 rfl rfl rfl ?_
          refine rx_iload_n dX11_jumpOrCell_191 rfl ?_
          refine gmv_lald (j := fs.length) (v := lN q) hG dX11_jumpOrCell_192 rfl rfl rfl rfl (by omega) (by decide) (rY_gas hY2) ?_
          refine rx_ldc2 hG hw_892 dX11_jumpOrCell_193 ?_
          refine rx_tl (y := lN 40) rfl ?_
          refine rx_lc_ge (tgt := 207) dX11_jumpOrCell_196 dX11_jumpOrCell_197 (by decide) (fun h196 => ?_) (fun h196 => ?_)
          · rw [lN_le (by omega) (by omega)] at h196
            refine rx_aload_n dX11_jumpOrCell_207 rfl rfl ?_
            refine g_getR hG hf_RX11_117 rfl dX11_jumpOrCell_208 rfl rfl rfl ?_
            refine rx_iload_n dX11_jumpOrCell_211 rfl ?_
            refine rx_dup2 dX11_jumpOrCell_212 rfl rfl ?_
            refine gmv_lald (j := fs.length) (v := lN q) hG dX11_jumpOrCell_213 rfl rfl rfl rfl (by omega) (by decide) (rY_gas hY2) ?_
            refine rx_ldc2 hG hw_892 dX11_jumpOrCell_214 ?_
            refine rx_tl (y := lN 40) rfl ?_
            refine rx_lsub dX11_jumpOrCell_217 ?_
            refine rx_tl (y := lN (q - 40)) (lN_sub (by omega)) ?_
            refine gm_last (j := fs.length) hG dX11_jumpOrCell_218 rfl rfl rfl rfl (by omega) (by decide) ?_
            refine rY_ab (rY_setGas hY2 (q - 40)) (fun _ hY3 => ?_)
            refine rx_aload_n dX11_jumpOrCell_219 rfl rfl ?_
            refine rx_dup dX11_jumpOrCell_220 rfl ?_
            refine gmv_getI (v := nI b) hG hf_RX11_215 rfl dX11_jumpOrCell_221 rfl rfl rfl (rY_back hY3) ?_
            refine rx_aload_n dX11_jumpOrCell_224 rfl rfl ?_
            refine g_getR hG hf_RX11_99 rfl dX11_jumpOrCell_225 rfl rfl rfl ?_
            refine rx_iload dX11_jumpOrCell_228 rfl ?_
            refine gmv_lald (j := j + 19 * s + 3) (v := n (j + 19 * s + 3)) hG dX11_jumpOrCell_230 rfl rfl rfl rfl (by omega) (by decide) (rY_now hY3 (by omega)) ?_
            refine rx_lconst (v := lN 0) dX11_jumpOrCell_231 rfl ?_
            refine rx_lc_eq (tgt := 248) dX11_jumpOrCell_232 dX11_jumpOrCell_233 (by decide) (fun h232 => ?_) (fun h232 => absurd h176 h232) 
            refine rx_iconst (v := nI 0) dX11_jumpOrCell_248 rfl ?_
            refine rx_iadd dX11_jumpOrCell_249 ?_
            refine rx_ti (y := nI b) ((nI_add _ _).trans (congrArg nI (by omega))) ?_
            refine gm_putI hG hf_RX11_215 (gw_nf rfl rfl) rfl dX11_jumpOrCell_250 rfl rfl rfl rfl rfl ?_
            refine rY_ab (rY_setBack hY3 b) (fun _ hY4 => ?_)
            refine rx_aload_n dX11_jumpOrCell_253 rfl rfl ?_
            refine g_getR hG hf_RX11_99 rfl dX11_jumpOrCell_254 rfl rfl rfl ?_
            refine rx_iload dX11_jumpOrCell_257 rfl ?_
            refine rx_lload dX11_jumpOrCell_259 rfl ?_
            refine gm_last (j := j + 19 * s + 3) hG dX11_jumpOrCell_261 rfl rfl rfl rfl (by omega) (by decide) ?_
            refine rY_ab (rY_setNow hY4 (j + 19 * s + 3) x) (fun _ hY5 => ?_)
            exact rx_vret rfl dX11_jumpOrCell_262 ⟨rfl, _, rfl, Or.inl ⟨_, (vd3_22a hj h176 h183 (by omega)).trans rfl, hY5⟩⟩
          · rw [lN_le (by omega) (by omega)] at h196
            refine rx_aload_n dX11_jumpOrCell_200 rfl rfl ?_
            refine rx_iconst (v := nI 3) dX11_jumpOrCell_201 rfl ?_
            refine rx_lconst (v := lN 0) dX11_jumpOrCell_202 rfl ?_
            refine gv_invV (as := [.int _, .long _]) hG okX11_finish lk_RX11_231 rfl rfl dX11_jumpOrCell_203 rfl (by simp [Value.category]) (cr_fin3 hG hY2 (by omega) hlow hw _) ?_
            rintro _ _ ⟨rfl, _, rfl, hF⟩
            exact rx_vret rfl dX11_jumpOrCell_206 ⟨rfl, _, rfl, rm_onE (vd3_22n hj h176 h183 (by omega)) hF⟩
    · refine rx_aload_n dX11_jumpOrCell_153 rfl rfl ?_
      refine rx_iconst (v := nI 3) dX11_jumpOrCell_154 rfl ?_
      refine rx_lconst (v := lN 0) dX11_jumpOrCell_155 rfl ?_
      refine gv_invV (as := [.int _, .long _]) hG okX11_finish lk_RX11_231 rfl rfl dX11_jumpOrCell_156 rfl (by simp [Value.category]) (cr_fin3 hG hY2 (by omega) hlow hw _) ?_
      rintro _ _ ⟨rfl, _, rfl, hF⟩
      exact rx_vret rfl dX11_jumpOrCell_159 ⟨rfl, _, rfl, rm_onE (vd3_22b (Or.inr (Int64.not_le.mp h149))) hF⟩
theorem vd4_23 {g : vg_T} {X : vx_S} {c a q s k : Nat} {v r : Int64} {l o : Bool} {t : List Int64} {w : (Nat → Int64) × Nat × Nat} {fs : List vf_T} : vm_do4 g X 23 ((c, a, q, s, k), (v, r), (l, o), t, w) fs = vm_on X ((c, a, q, s, k), (v, r), (l, o), lN s :: t, w) fs := by
  unfold vm_do4
  rw [if_neg (by decide), if_pos rfl]
  rfl
theorem vd4_24 {g : vg_T} {X : vx_S} {c a q s k : Nat} {v r : Int64} {l o : Bool} {t : List Int64} {w : (Nat → Int64) × Nat × Nat} {fs : List vf_T} : vm_do4 g X 24 ((c, a, q, s, k), (v, r), (l, o), t, w) fs = vm_on X ((c, a, q, s, k), (v, r), (l, o), lN k :: t, w) fs := by
  unfold vm_do4
  rw [if_neg (by decide), if_neg (by decide), if_pos rfl]
  rfl
theorem vd4_25 {g : vg_T} {X : vx_S} {c a q s k : Nat} {v r : Int64} {l o : Bool} {t : List Int64} {w : (Nat → Int64) × Nat × Nat} {fs : List vf_T} : vm_do4 g X 25 ((c, a, q, s, k), (v, r), (l, o), t, w) fs = vm_on X ((c, a, q, s, k), (v, r), (l, o), lN g.2.2.1 :: t, w) fs := by
  unfold vm_do4
  rw [if_neg (by decide), if_neg (by decide), if_neg (by decide), if_pos rfl]
  rfl
theorem vd4_26 {g : vg_T} {X : vx_S} {c a q s k : Nat} {v r : Int64} {l o : Bool} {t : List Int64} {w : (Nat → Int64) × Nat × Nat} {fs : List vf_T} : vm_do4 g X 26 ((c, a, q, s, k), (v, r), (l, o), t, w) fs = vm_on X ((c, a, q, s, k), (v, r), (l, o), v :: t, w) fs := by
  unfold vm_do4
  rw [if_neg (by decide), if_neg (by decide), if_neg (by decide), if_neg (by decide), if_pos rfl]
  rfl
theorem vd4_27 {g : vg_T} {X : vx_S} {c a q s k : Nat} {v r : Int64} {l o : Bool} {t : List Int64} {w : (Nat → Int64) × Nat × Nat} {fs : List vf_T} : vm_do4 g X 27 ((c, a, q, s, k), (v, r), (l, o), t, w) fs = vm_on X ((c, a, q, s, k), (v, r), (l, o), r :: t, w) fs := by
  unfold vm_do4
  rw [if_neg (by decide), if_neg (by decide), if_neg (by decide), if_neg (by decide), if_neg (by decide), if_pos rfl]
  rfl
theorem vd4_28 {g : vg_T} {X : vx_S} {c a q s k : Nat} {v r : Int64} {l o : Bool} {t : List Int64} {w : (Nat → Int64) × Nat × Nat} {fs : List vf_T} : vm_do4 g X 28 ((c, a, q, s, k), (v, r), (l, o), t, w) fs = vm_on X ((c, a, q, s, k), (v, r), (l, o), lN g.2.2.2 :: t, w) fs := by
  unfold vm_do4
  rw [if_neg (by decide), if_neg (by decide), if_neg (by decide), if_neg (by decide), if_neg (by decide), if_neg (by decide), if_pos rfl]
  rfl
theorem vd4_29 {g : vg_T} {X : vx_S} {c a q s k : Nat} {v r : Int64} {l o : Bool} {t : List Int64} {w : (Nat → Int64) × Nat × Nat} {fs : List vf_T} : vm_do4 g X 29 ((c, a, q, s, k), (v, r), (l, o), t, w) fs = vm_on X ((c, a, q, s, k), (v, r), (l, o), lN q :: t, w) fs := by
  unfold vm_do4
  rw [if_neg (by decide), if_neg (by decide), if_neg (by decide), if_neg (by decide), if_neg (by decide), if_neg (by decide), if_neg (by decide)]
  rfl
theorem vd4_30a {g : vg_T} {X : vx_S} {c a q s k : Nat} {v r : Int64} {l o : Bool} {t : List Int64} {w : (Nat → Int64) × Nat × Nat} {fs : List vf_T} {j : Nat} (h : j < 32) : vm_do4 g X 30 ((c, a, q, s, k), (v, r), (l, o), lN j :: t, w) fs = vm_on X ((c, a, q, s, k), (v, r), (l, o), X.1 (19 * j) :: t, w) fs := by
  unfold vm_do4
  rw [if_pos rfl]
  rw [show (fT ((c, a, q, s, k), (v, r), (l, o), lN j :: t, w)).getD 0 0 = lN j from rfl, if_pos (lN_isacct h), lN_toNat (by omega)]
  rfl
theorem vd4_30b {g : vg_T} {X : vx_S} {c a q s k : Nat} {v r : Int64} {l o : Bool} {t : List Int64} {w : (Nat → Int64) × Nat × Nat} {fs : List vf_T} {y : Int64} (h : ¬ vm_acct y) : vm_do4 g X 30 ((c, a, q, s, k), (v, r), (l, o), y :: t, w) fs = vm_on X ((c, a, q, s, k), (v, r), (l, o), 0 :: t, w) fs := by
  unfold vm_do4
  rw [if_pos rfl]
  rw [show (fT ((c, a, q, s, k), (v, r), (l, o), y :: t, w)).getD 0 0 = y from rfl, if_neg h]
  rfl
theorem cr_tellOf23 {G : rx_E} {d : Nat} {C : rx_M} {S0 S : gs_T} {g : vg_T} {n : Nat → Int64} {e : List (Nat × Int64 × Int64)} {b m c a q s k : Nat} {v r : Int64} {l o : Bool} {t : List Int64} {w : (Nat → Int64) × Nat × Nat} {fs : List vf_T} (hG : rx_OK G) (hp : fs.length < 11) (hs : s < 32) (hk : k < 32) (ho : g.2.2.1 < 32) (hh : g.2.2.2 < 100) (ht : t.length < 24) (hY : rm_Y S0 S g (n, e, b, ((c, a, q, s, k), (v, r), (l, o), t, w) :: fs, m) 0) : rx_C G MX11_tellOf (d + 1) [.ref 52, .int (nI 23)] (gl C S) 0 0 (rq_on C S0 g (vm_do4 g (n, e, b, ((c, a, q, s, k), (v, r), (l, o), t, w) :: fs, m) 23 ((c, a, q, s, k), (v, r), (l, o), t, w) fs)) := by
  refine rx_meth0 (by decide +kernel) rfl (Nat.le_of_ble_eq_true rfl) ?_
  refine rx_aload_n dX11_tellOf_0 rfl rfl ?_
  refine gmv_getI (v := nI (fs.length + 1)) hG hf_RX11_203 rfl dX11_tellOf_1 rfl rfl rfl (rY_dep hY) ?_
  refine rx_iconst (v := nI 1) dX11_tellOf_4 rfl ?_
  refine rx_isub dX11_tellOf_5 ?_
  refine rx_ti (y := nI fs.length) ((pk_sub (by omega)).trans (congrArg nI (by omega))) ?_
  refine rx_istore_n dX11_tellOf_6 (by decide) ?_
  refine rx_iload_n dX11_tellOf_7 rfl ?_
  refine rx_tabIn (tgt := 52) dX11_tellOf_8 (by decide) (by decide) rfl (by decide) ?_
  refine rx_aload_n dX11_tellOf_52 rfl rfl ?_
  refine rx_aload_n dX11_tellOf_53 rfl rfl ?_
  refine g_getR hG hf_RX11_120 rfl dX11_tellOf_54 rfl rfl rfl ?_
  refine rx_iload_n dX11_tellOf_57 rfl ?_
  refine gmv_iald (j := fs.length) (v := nI s) hG dX11_tellOf_58 rfl rfl rfl rfl (by omega) (by decide) (rY_self hY) ?_
  refine rx_i2l dX11_tellOf_59 ?_
  refine rx_tl (y := lN s) (nI_l (by omega)) ?_
  refine gv_invV (as := [.long _]) hG okX11_push lk_RX11_221 rfl rfl dX11_tellOf_60 rfl (by simp [Value.category]) (cr_push hG hY (by omega) (by (try simp only [List.length_cons, List.length_nil]); omega) _) ?_
  rintro _ _ ⟨rfl, _, rfl, hY1⟩
  refine rx_goto (tgt := 176) dX11_tellOf_63 (by decide) ?_
  exact rx_vret rfl dX11_tellOf_176 ⟨rfl, _, rfl, Or.inl ⟨_, vd4_23.trans rfl, hY1⟩⟩
theorem cr_tellOf24 {G : rx_E} {d : Nat} {C : rx_M} {S0 S : gs_T} {g : vg_T} {n : Nat → Int64} {e : List (Nat × Int64 × Int64)} {b m c a q s k : Nat} {v r : Int64} {l o : Bool} {t : List Int64} {w : (Nat → Int64) × Nat × Nat} {fs : List vf_T} (hG : rx_OK G) (hp : fs.length < 11) (hs : s < 32) (hk : k < 32) (ho : g.2.2.1 < 32) (hh : g.2.2.2 < 100) (ht : t.length < 24) (hY : rm_Y S0 S g (n, e, b, ((c, a, q, s, k), (v, r), (l, o), t, w) :: fs, m) 0) : rx_C G MX11_tellOf (d + 1) [.ref 52, .int (nI 24)] (gl C S) 0 0 (rq_on C S0 g (vm_do4 g (n, e, b, ((c, a, q, s, k), (v, r), (l, o), t, w) :: fs, m) 24 ((c, a, q, s, k), (v, r), (l, o), t, w) fs)) := by
  refine rx_meth0 (by decide +kernel) rfl (Nat.le_of_ble_eq_true rfl) ?_
  refine rx_aload_n dX11_tellOf_0 rfl rfl ?_
  refine gmv_getI (v := nI (fs.length + 1)) hG hf_RX11_203 rfl dX11_tellOf_1 rfl rfl rfl (rY_dep hY) ?_
  refine rx_iconst (v := nI 1) dX11_tellOf_4 rfl ?_
  refine rx_isub dX11_tellOf_5 ?_
  refine rx_ti (y := nI fs.length) ((pk_sub (by omega)).trans (congrArg nI (by omega))) ?_
  refine rx_istore_n dX11_tellOf_6 (by decide) ?_
  refine rx_iload_n dX11_tellOf_7 rfl ?_
  refine rx_tabIn (tgt := 66) dX11_tellOf_8 (by decide) (by decide) rfl (by decide) ?_
  refine rx_aload_n dX11_tellOf_66 rfl rfl ?_
  refine rx_aload_n dX11_tellOf_67 rfl rfl ?_
  refine g_getR hG hf_RX11_123 rfl dX11_tellOf_68 rfl rfl rfl ?_
  refine rx_iload_n dX11_tellOf_71 rfl ?_
  refine gmv_iald (j := fs.length) (v := nI k) hG dX11_tellOf_72 rfl rfl rfl rfl (by omega) (by decide) (rY_call hY) ?_
  refine rx_i2l dX11_tellOf_73 ?_
  refine rx_tl (y := lN k) (nI_l (by omega)) ?_
  refine gv_invV (as := [.long _]) hG okX11_push lk_RX11_221 rfl rfl dX11_tellOf_74 rfl (by simp [Value.category]) (cr_push hG hY (by omega) (by (try simp only [List.length_cons, List.length_nil]); omega) _) ?_
  rintro _ _ ⟨rfl, _, rfl, hY1⟩
  refine rx_goto (tgt := 176) dX11_tellOf_77 (by decide) ?_
  exact rx_vret rfl dX11_tellOf_176 ⟨rfl, _, rfl, Or.inl ⟨_, vd4_24.trans rfl, hY1⟩⟩
theorem cr_tellOf25 {G : rx_E} {d : Nat} {C : rx_M} {S0 S : gs_T} {g : vg_T} {n : Nat → Int64} {e : List (Nat × Int64 × Int64)} {b m c a q s k : Nat} {v r : Int64} {l o : Bool} {t : List Int64} {w : (Nat → Int64) × Nat × Nat} {fs : List vf_T} (hG : rx_OK G) (hp : fs.length < 11) (hs : s < 32) (hk : k < 32) (ho : g.2.2.1 < 32) (hh : g.2.2.2 < 100) (ht : t.length < 24) (hY : rm_Y S0 S g (n, e, b, ((c, a, q, s, k), (v, r), (l, o), t, w) :: fs, m) 0) : rx_C G MX11_tellOf (d + 1) [.ref 52, .int (nI 25)] (gl C S) 0 0 (rq_on C S0 g (vm_do4 g (n, e, b, ((c, a, q, s, k), (v, r), (l, o), t, w) :: fs, m) 25 ((c, a, q, s, k), (v, r), (l, o), t, w) fs)) := by
  refine rx_meth0 (by decide +kernel) rfl (Nat.le_of_ble_eq_true rfl) ?_
  refine rx_aload_n dX11_tellOf_0 rfl rfl ?_
  refine gmv_getI (v := nI (fs.length + 1)) hG hf_RX11_203 rfl dX11_tellOf_1 rfl rfl rfl (rY_dep hY) ?_
  refine rx_iconst (v := nI 1) dX11_tellOf_4 rfl ?_
  refine rx_isub dX11_tellOf_5 ?_
  refine rx_ti (y := nI fs.length) ((pk_sub (by omega)).trans (congrArg nI (by omega))) ?_
  refine rx_istore_n dX11_tellOf_6 (by decide) ?_
  refine rx_iload_n dX11_tellOf_7 rfl ?_
  refine rx_tabIn (tgt := 80) dX11_tellOf_8 (by decide) (by decide) rfl (by decide) ?_
  refine rx_aload_n dX11_tellOf_80 rfl rfl ?_
  refine rx_aload_n dX11_tellOf_81 rfl rfl ?_
  refine gmv_getI (v := nI g.2.2.1) hG hf_RX11_272 rfl dX11_tellOf_82 rfl rfl rfl (rY_orig hY) ?_
  refine rx_i2l dX11_tellOf_85 ?_
  refine rx_tl (y := lN g.2.2.1) (nI_l (by omega)) ?_
  refine gv_invV (as := [.long _]) hG okX11_push lk_RX11_221 rfl rfl dX11_tellOf_86 rfl (by simp [Value.category]) (cr_push hG hY (by omega) (by (try simp only [List.length_cons, List.length_nil]); omega) _) ?_
  rintro _ _ ⟨rfl, _, rfl, hY1⟩
  refine rx_goto (tgt := 176) dX11_tellOf_89 (by decide) ?_
  exact rx_vret rfl dX11_tellOf_176 ⟨rfl, _, rfl, Or.inl ⟨_, vd4_25.trans rfl, hY1⟩⟩
theorem cr_tellOf26 {G : rx_E} {d : Nat} {C : rx_M} {S0 S : gs_T} {g : vg_T} {n : Nat → Int64} {e : List (Nat × Int64 × Int64)} {b m c a q s k : Nat} {v r : Int64} {l o : Bool} {t : List Int64} {w : (Nat → Int64) × Nat × Nat} {fs : List vf_T} (hG : rx_OK G) (hp : fs.length < 11) (hs : s < 32) (hk : k < 32) (ho : g.2.2.1 < 32) (hh : g.2.2.2 < 100) (ht : t.length < 24) (hY : rm_Y S0 S g (n, e, b, ((c, a, q, s, k), (v, r), (l, o), t, w) :: fs, m) 0) : rx_C G MX11_tellOf (d + 1) [.ref 52, .int (nI 26)] (gl C S) 0 0 (rq_on C S0 g (vm_do4 g (n, e, b, ((c, a, q, s, k), (v, r), (l, o), t, w) :: fs, m) 26 ((c, a, q, s, k), (v, r), (l, o), t, w) fs)) := by
  refine rx_meth0 (by decide +kernel) rfl (Nat.le_of_ble_eq_true rfl) ?_
  refine rx_aload_n dX11_tellOf_0 rfl rfl ?_
  refine gmv_getI (v := nI (fs.length + 1)) hG hf_RX11_203 rfl dX11_tellOf_1 rfl rfl rfl (rY_dep hY) ?_
  refine rx_iconst (v := nI 1) dX11_tellOf_4 rfl ?_
  refine rx_isub dX11_tellOf_5 ?_
  refine rx_ti (y := nI fs.length) ((pk_sub (by omega)).trans (congrArg nI (by omega))) ?_
  refine rx_istore_n dX11_tellOf_6 (by decide) ?_
  refine rx_iload_n dX11_tellOf_7 rfl ?_
  refine rx_tabIn (tgt := 92) dX11_tellOf_8 (by decide) (by decide) rfl (by decide) ?_
  refine rx_aload_n dX11_tellOf_92 rfl rfl ?_
  refine rx_aload_n dX11_tellOf_93 rfl rfl ?_
  refine g_getR hG hf_RX11_126 rfl dX11_tellOf_94 rfl rfl rfl ?_
  refine rx_iload_n dX11_tellOf_97 rfl ?_
  refine gmv_lald (j := fs.length) (v := v) hG dX11_tellOf_98 rfl rfl rfl rfl (by omega) (by decide) (rY_val hY) ?_
  refine gv_invV (as := [.long _]) hG okX11_push lk_RX11_221 rfl rfl dX11_tellOf_99 rfl (by simp [Value.category]) (cr_push hG hY (by omega) (by (try simp only [List.length_cons, List.length_nil]); omega) _) ?_
  rintro _ _ ⟨rfl, _, rfl, hY1⟩
  refine rx_goto (tgt := 176) dX11_tellOf_102 (by decide) ?_
  exact rx_vret rfl dX11_tellOf_176 ⟨rfl, _, rfl, Or.inl ⟨_, vd4_26.trans rfl, hY1⟩⟩
theorem cr_tellOf27 {G : rx_E} {d : Nat} {C : rx_M} {S0 S : gs_T} {g : vg_T} {n : Nat → Int64} {e : List (Nat × Int64 × Int64)} {b m c a q s k : Nat} {v r : Int64} {l o : Bool} {t : List Int64} {w : (Nat → Int64) × Nat × Nat} {fs : List vf_T} (hG : rx_OK G) (hp : fs.length < 11) (hs : s < 32) (hk : k < 32) (ho : g.2.2.1 < 32) (hh : g.2.2.2 < 100) (ht : t.length < 24) (hY : rm_Y S0 S g (n, e, b, ((c, a, q, s, k), (v, r), (l, o), t, w) :: fs, m) 0) : rx_C G MX11_tellOf (d + 1) [.ref 52, .int (nI 27)] (gl C S) 0 0 (rq_on C S0 g (vm_do4 g (n, e, b, ((c, a, q, s, k), (v, r), (l, o), t, w) :: fs, m) 27 ((c, a, q, s, k), (v, r), (l, o), t, w) fs)) := by
  refine rx_meth0 (by decide +kernel) rfl (Nat.le_of_ble_eq_true rfl) ?_
  refine rx_aload_n dX11_tellOf_0 rfl rfl ?_
  refine gmv_getI (v := nI (fs.length + 1)) hG hf_RX11_203 rfl dX11_tellOf_1 rfl rfl rfl (rY_dep hY) ?_
  refine rx_iconst (v := nI 1) dX11_tellOf_4 rfl ?_
  refine rx_isub dX11_tellOf_5 ?_
  refine rx_ti (y := nI fs.length) ((pk_sub (by omega)).trans (congrArg nI (by omega))) ?_
  refine rx_istore_n dX11_tellOf_6 (by decide) ?_
  refine rx_iload_n dX11_tellOf_7 rfl ?_
  refine rx_tabIn (tgt := 105) dX11_tellOf_8 (by decide) (by decide) rfl (by decide) ?_
  refine rx_aload_n dX11_tellOf_105 rfl rfl ?_
  refine rx_aload_n dX11_tellOf_106 rfl rfl ?_
  refine g_getR hG hf_RX11_129 rfl dX11_tellOf_107 rfl rfl rfl ?_
  refine rx_iload_n dX11_tellOf_110 rfl ?_
  refine gmv_lald (j := fs.length) (v := r) hG dX11_tellOf_111 rfl rfl rfl rfl (by omega) (by decide) (rY_arg hY) ?_
  refine gv_invV (as := [.long _]) hG okX11_push lk_RX11_221 rfl rfl dX11_tellOf_112 rfl (by simp [Value.category]) (cr_push hG hY (by omega) (by (try simp only [List.length_cons, List.length_nil]); omega) _) ?_
  rintro _ _ ⟨rfl, _, rfl, hY1⟩
  refine rx_goto (tgt := 176) dX11_tellOf_115 (by decide) ?_
  exact rx_vret rfl dX11_tellOf_176 ⟨rfl, _, rfl, Or.inl ⟨_, vd4_27.trans rfl, hY1⟩⟩
theorem cr_tellOf28 {G : rx_E} {d : Nat} {C : rx_M} {S0 S : gs_T} {g : vg_T} {n : Nat → Int64} {e : List (Nat × Int64 × Int64)} {b m c a q s k : Nat} {v r : Int64} {l o : Bool} {t : List Int64} {w : (Nat → Int64) × Nat × Nat} {fs : List vf_T} (hG : rx_OK G) (hp : fs.length < 11) (hs : s < 32) (hk : k < 32) (ho : g.2.2.1 < 32) (hh : g.2.2.2 < 100) (ht : t.length < 24) (hY : rm_Y S0 S g (n, e, b, ((c, a, q, s, k), (v, r), (l, o), t, w) :: fs, m) 0) : rx_C G MX11_tellOf (d + 1) [.ref 52, .int (nI 28)] (gl C S) 0 0 (rq_on C S0 g (vm_do4 g (n, e, b, ((c, a, q, s, k), (v, r), (l, o), t, w) :: fs, m) 28 ((c, a, q, s, k), (v, r), (l, o), t, w) fs)) := by
  refine rx_meth0 (by decide +kernel) rfl (Nat.le_of_ble_eq_true rfl) ?_
  refine rx_aload_n dX11_tellOf_0 rfl rfl ?_
  refine gmv_getI (v := nI (fs.length + 1)) hG hf_RX11_203 rfl dX11_tellOf_1 rfl rfl rfl (rY_dep hY) ?_
  refine rx_iconst (v := nI 1) dX11_tellOf_4 rfl ?_
  refine rx_isub dX11_tellOf_5 ?_
  refine rx_ti (y := nI fs.length) ((pk_sub (by omega)).trans (congrArg nI (by omega))) ?_
  refine rx_istore_n dX11_tellOf_6 (by decide) ?_
  refine rx_iload_n dX11_tellOf_7 rfl ?_
  refine rx_tabIn (tgt := 118) dX11_tellOf_8 (by decide) (by decide) rfl (by decide) ?_
  refine rx_aload_n dX11_tellOf_118 rfl rfl ?_
  refine rx_aload_n dX11_tellOf_119 rfl rfl ?_
  refine gmv_getI (v := nI g.2.2.2) hG hf_RX11_275 rfl dX11_tellOf_120 rfl rfl rfl (rY_high hY) ?_
  refine rx_i2l dX11_tellOf_123 ?_
  refine rx_tl (y := lN g.2.2.2) (nI_l (by omega)) ?_
  refine gv_invV (as := [.long _]) hG okX11_push lk_RX11_221 rfl rfl dX11_tellOf_124 rfl (by simp [Value.category]) (cr_push hG hY (by omega) (by (try simp only [List.length_cons, List.length_nil]); omega) _) ?_
  rintro _ _ ⟨rfl, _, rfl, hY1⟩
  refine rx_goto (tgt := 176) dX11_tellOf_127 (by decide) ?_
  exact rx_vret rfl dX11_tellOf_176 ⟨rfl, _, rfl, Or.inl ⟨_, vd4_28.trans rfl, hY1⟩⟩
theorem cr_tellOf29 {G : rx_E} {d : Nat} {C : rx_M} {S0 S : gs_T} {g : vg_T} {n : Nat → Int64} {e : List (Nat × Int64 × Int64)} {b m c a q s k : Nat} {v r : Int64} {l o : Bool} {t : List Int64} {w : (Nat → Int64) × Nat × Nat} {fs : List vf_T} (hG : rx_OK G) (hp : fs.length < 11) (hs : s < 32) (hk : k < 32) (ho : g.2.2.1 < 32) (hh : g.2.2.2 < 100) (ht : t.length < 24) (hY : rm_Y S0 S g (n, e, b, ((c, a, q, s, k), (v, r), (l, o), t, w) :: fs, m) 0) : rx_C G MX11_tellOf (d + 1) [.ref 52, .int (nI 29)] (gl C S) 0 0 (rq_on C S0 g (vm_do4 g (n, e, b, ((c, a, q, s, k), (v, r), (l, o), t, w) :: fs, m) 29 ((c, a, q, s, k), (v, r), (l, o), t, w) fs)) := by
  refine rx_meth0 (by decide +kernel) rfl (Nat.le_of_ble_eq_true rfl) ?_
  refine rx_aload_n dX11_tellOf_0 rfl rfl ?_
  refine gmv_getI (v := nI (fs.length + 1)) hG hf_RX11_203 rfl dX11_tellOf_1 rfl rfl rfl (rY_dep hY) ?_
  refine rx_iconst (v := nI 1) dX11_tellOf_4 rfl ?_
  refine rx_isub dX11_tellOf_5 ?_
  refine rx_ti (y := nI fs.length) ((pk_sub (by omega)).trans (congrArg nI (by omega))) ?_
  refine rx_istore_n dX11_tellOf_6 (by decide) ?_
  refine rx_iload_n dX11_tellOf_7 rfl ?_
  refine rx_tabIn (tgt := 130) dX11_tellOf_8 (by decide) (by decide) rfl (by decide) ?_
  refine rx_aload_n dX11_tellOf_130 rfl rfl ?_
  refine rx_aload_n dX11_tellOf_131 rfl rfl ?_
  refine g_getR hG hf_RX11_117 rfl dX11_tellOf_132 rfl rfl rfl ?_
  refine rx_iload_n dX11_tellOf_135 rfl ?_
  refine gmv_lald (j := fs.length) (v := lN q) hG dX11_tellOf_136 rfl rfl rfl rfl (by omega) (by decide) (rY_gas hY) ?_
  refine gv_invV (as := [.long _]) hG okX11_push lk_RX11_221 rfl rfl dX11_tellOf_137 rfl (by simp [Value.category]) (cr_push hG hY (by omega) (by (try simp only [List.length_cons, List.length_nil]); omega) _) ?_
  rintro _ _ ⟨rfl, _, rfl, hY1⟩
  refine rx_goto (tgt := 176) dX11_tellOf_140 (by decide) ?_
  exact rx_vret rfl dX11_tellOf_176 ⟨rfl, _, rfl, Or.inl ⟨_, vd4_29.trans rfl, hY1⟩⟩
theorem cr_tellOf30 {G : rx_E} {d : Nat} {C : rx_M} {S0 S : gs_T} {g : vg_T} {n : Nat → Int64} {e : List (Nat × Int64 × Int64)} {b m c a q s k : Nat} {v r : Int64} {l o : Bool} {t : List Int64} {w : (Nat → Int64) × Nat × Nat} {fs : List vf_T} (hG : rx_OK G) {y : Int64} (hp : fs.length < 11) (hs : s < 32) (hk : k < 32) (ho : g.2.2.1 < 32) (hh : g.2.2.2 < 100) (hY : rm_Y S0 S g (n, e, b, ((c, a, q, s, k), (v, r), (l, o), (y :: t), w) :: fs, m) 0) : rx_C G MX11_tellOf (d + 1) [.ref 52, .int (nI 30)] (gl C S) 0 0 (rq_on C S0 g (vm_do4 g (n, e, b, ((c, a, q, s, k), (v, r), (l, o), (y :: t), w) :: fs, m) 30 ((c, a, q, s, k), (v, r), (l, o), (y :: t), w) fs)) := by
  refine rx_meth0 (by decide +kernel) rfl (Nat.le_of_ble_eq_true rfl) ?_
  have ht : t.length + 1 ≤ 24 := rY_n hY
  by_cases hac : vm_acct y
  · obtain ⟨j, hj, rfl⟩ := lN_acct hac
    refine rx_aload_n dX11_tellOf_0 rfl rfl ?_
    refine gmv_getI (v := nI (fs.length + 1)) hG hf_RX11_203 rfl dX11_tellOf_1 rfl rfl rfl (rY_dep hY) ?_
    refine rx_iconst (v := nI 1) dX11_tellOf_4 rfl ?_
    refine rx_isub dX11_tellOf_5 ?_
    refine rx_ti (y := nI fs.length) ((pk_sub (by omega)).trans (congrArg nI (by omega))) ?_
    refine rx_istore_n dX11_tellOf_6 (by decide) ?_
    refine rx_iload_n dX11_tellOf_7 rfl ?_
    refine rx_tabOut (tgt := 143) dX11_tellOf_8 (by decide) (by decide) ?_
    refine rx_aload_n dX11_tellOf_143 rfl rfl ?_
    refine gv_invV (as := []) hG okX11_pop lk_RX11_262 rfl rfl dX11_tellOf_144 rfl (by simp [Value.category]) (cr_pop hG hY (by omega)) ?_
    rintro _ _ ⟨rfl, _, rfl, hY1⟩
    refine rx_lstore_n dX11_tellOf_147 (by decide) ?_
    refine rx_aload_n dX11_tellOf_148 rfl rfl ?_
    refine rx_lload_n dX11_tellOf_149 rfl ?_
    refine rx_invS0 (as := [.long _]) hG okX11_isAccount lk_RX11_181 dX11_tellOf_150 rfl (by simp [Value.category]) (cm_isAccountT hG hac) ?_
    rintro _ _ ⟨rfl, rfl⟩
    refine rx_if_eq (tgt := 169) dX11_tellOf_153 (by decide) (fun h153 => (absurd h153 (by decide))) (fun h153 => ?_)
    refine rx_aload_n dX11_tellOf_156 rfl rfl ?_
    refine g_getR hG hf_RX11_99 rfl dX11_tellOf_157 rfl rfl rfl ?_
    refine rx_bipush (v := nI 19) dX11_tellOf_160 rfl ?_
    refine rx_lload_n dX11_tellOf_162 rfl ?_
    refine rx_l2i dX11_tellOf_163 ?_
    refine rx_ti (y := nI j) (lN_i _) ?_
    refine rx_imul dX11_tellOf_164 ?_
    refine rx_ti (y := nI (19 * j)) ((pk_mul _ _).trans (congrArg nI (by omega))) ?_
    refine gmv_lald (j := 19 * j) (v := n (19 * j)) hG dX11_tellOf_165 rfl rfl rfl rfl (by omega) (by decide) (rY_now hY1 (by omega)) ?_
    refine rx_goto (tgt := 170) dX11_tellOf_166 (by decide) ?_
    refine gv_invV (as := [.long _]) hG okX11_push lk_RX11_221 rfl rfl dX11_tellOf_170 rfl (by simp [Value.category]) (cr_push hG hY1 (by omega) (by (try simp only [List.length_cons, List.length_nil]); omega) _) ?_
    rintro _ _ ⟨rfl, _, rfl, hY2⟩
    refine rx_goto (tgt := 176) dX11_tellOf_173 (by decide) ?_
    exact rx_vret rfl dX11_tellOf_176 ⟨rfl, _, rfl, Or.inl ⟨_, (vd4_30a hj).trans rfl, hY2⟩⟩
  · skip
    refine rx_aload_n dX11_tellOf_0 rfl rfl ?_
    refine gmv_getI (v := nI (fs.length + 1)) hG hf_RX11_203 rfl dX11_tellOf_1 rfl rfl rfl (rY_dep hY) ?_
    refine rx_iconst (v := nI 1) dX11_tellOf_4 rfl ?_
    refine rx_isub dX11_tellOf_5 ?_
    refine rx_ti (y := nI fs.length) ((pk_sub (by omega)).trans (congrArg nI (by omega))) ?_
    refine rx_istore_n dX11_tellOf_6 (by decide) ?_
    refine rx_iload_n dX11_tellOf_7 rfl ?_
    refine rx_tabOut (tgt := 143) dX11_tellOf_8 (by decide) (by decide) ?_
    refine rx_aload_n dX11_tellOf_143 rfl rfl ?_
    refine gv_invV (as := []) hG okX11_pop lk_RX11_262 rfl rfl dX11_tellOf_144 rfl (by simp [Value.category]) (cr_pop hG hY (by omega)) ?_
    rintro _ _ ⟨rfl, _, rfl, hY1⟩
    refine rx_lstore_n dX11_tellOf_147 (by decide) ?_
    refine rx_aload_n dX11_tellOf_148 rfl rfl ?_
    refine rx_lload_n dX11_tellOf_149 rfl ?_
    refine rx_invS0 (as := [.long _]) hG okX11_isAccount lk_RX11_181 dX11_tellOf_150 rfl (by simp [Value.category]) (cm_isAccountF hG hac) ?_
    rintro _ _ ⟨rfl, rfl⟩
    refine rx_if_eq (tgt := 169) dX11_tellOf_153 (by decide) (fun h153 => ?_) (fun h153 => (absurd h153 (by decide))) 
    refine rx_lconst (v := lN 0) dX11_tellOf_169 rfl ?_
    refine gv_invV (as := [.long _]) hG okX11_push lk_RX11_221 rfl rfl dX11_tellOf_170 rfl (by simp [Value.category]) (cr_push hG hY1 (by omega) (by (try simp only [List.length_cons, List.length_nil]); omega) _) ?_
    rintro _ _ ⟨rfl, _, rfl, hY2⟩
    refine rx_goto (tgt := 176) dX11_tellOf_173 (by decide) ?_
    exact rx_vret rfl dX11_tellOf_176 ⟨rfl, _, rfl, Or.inl ⟨_, (vd4_30b hac).trans rfl, hY2⟩⟩

/-- n places of one row laid into another -/
def rx_cp (L : Nat → Nat → Int64) (a o b p n : Nat) : Nat → Nat → Int64 := fun c j => if c = a ∧ o ≤ j ∧ j < o + n then L b (p + (j - o)) else L c j
theorem rx_cp_get {L : Nat → Nat → Int64} {a o b p n c j : Nat} (h : c ≠ a) : rx_cp L a o b p n c j = L c j := by
  unfold rx_cp
  rw [if_neg (fun q => h q.1)]
theorem rx_cp_succ {L : Nat → Nat → Int64} {a o b p n j q : Nat} (hj : j = o + n) (hq : q = p + n) : rx_u (rx_cp L a o b p n) a j (L b q) = rx_cp L a o b p (n + 1) := by
  subst hj; subst hq
  funext c k
  rw [rx_ru]
  unfold rx_cp
  by_cases hc : c = a
  · subst hc
    by_cases hk : k = o + n
    · subst hk
      rw [if_pos rfl, if_pos rfl, if_pos ⟨rfl, by omega, by omega⟩]
      congr 1
      omega
    · rw [if_pos rfl, if_neg hk]
      by_cases h : o ≤ k ∧ k < o + n
      · rw [if_pos ⟨rfl, h⟩, if_pos ⟨rfl, h.1, by omega⟩]
      · rw [if_neg (fun q => h q.2), if_neg (fun q => h ⟨q.2.1, by omega⟩)]
  · rw [if_neg hc, if_neg (fun q => hc q.1), if_neg (fun q => hc q.1)]
theorem rx_cp_0 {L : Nat → Nat → Int64} {a o b p : Nat} : rx_cp L a o b p 0 = L := by
  funext c j
  unfold rx_cp
  rw [if_neg (fun q => by omega)]
theorem dX11_finish_0 : decode cX11_finish 0 = .ok (.aload_n 0, 1) := by decide +kernel
theorem dX11_finish_1 : decode cX11_finish 1 = .ok (.getfield 203, 3) := by decide +kernel
theorem dX11_finish_4 : decode cX11_finish 4 = .ok (.iconst 1, 1) := by decide +kernel
theorem dX11_finish_5 : decode cX11_finish 5 = .ok (.isub, 1) := by decide +kernel
theorem dX11_finish_6 : decode cX11_finish 6 = .ok (.istore 4, 2) := by decide +kernel
theorem dX11_finish_8 : decode cX11_finish 8 = .ok (.aload_n 0, 1) := by decide +kernel
theorem dX11_finish_9 : decode cX11_finish 9 = .ok (.dup, 1) := by decide +kernel
theorem dX11_finish_10 : decode cX11_finish 10 = .ok (.getfield 203, 3) := by decide +kernel
theorem dX11_finish_13 : decode cX11_finish 13 = .ok (.iconst 1, 1) := by decide +kernel
theorem dX11_finish_14 : decode cX11_finish 14 = .ok (.isub, 1) := by decide +kernel
theorem dX11_finish_15 : decode cX11_finish 15 = .ok (.putfield 203, 3) := by decide +kernel
theorem dX11_finish_18 : decode cX11_finish 18 = .ok (.iload_n 1, 1) := by decide +kernel
theorem dX11_finish_19 : decode cX11_finish 19 = .ok (.iconst 3, 1) := by decide +kernel
theorem dX11_finish_20 : decode cX11_finish 20 = .ok (.if_icmp .ne 7, 3) := by decide +kernel
theorem dX11_finish_23 : decode cX11_finish 23 = .ok (.lconst 0, 1) := by decide +kernel
theorem dX11_finish_24 : decode cX11_finish 24 = .ok (.goto 10, 3) := by decide +kernel
theorem dX11_finish_27 : decode cX11_finish 27 = .ok (.aload_n 0, 1) := by decide +kernel
theorem dX11_finish_28 : decode cX11_finish 28 = .ok (.getfield 117, 3) := by decide +kernel
theorem dX11_finish_31 : decode cX11_finish 31 = .ok (.iload 4, 2) := by decide +kernel
theorem dX11_finish_33 : decode cX11_finish 33 = .ok (.laload, 1) := by decide +kernel
theorem dX11_finish_34 : decode cX11_finish 34 = .ok (.lstore 5, 2) := by decide +kernel
theorem dX11_finish_36 : decode cX11_finish 36 = .ok (.iload_n 1, 1) := by decide +kernel
theorem dX11_finish_37 : decode cX11_finish 37 = .ok (.iconst 1, 1) := by decide +kernel
theorem dX11_finish_38 : decode cX11_finish 38 = .ok (.if_icmp .eq 63, 3) := by decide +kernel
theorem dX11_finish_41 : decode cX11_finish 41 = .ok (.iconst 0, 1) := by decide +kernel
theorem dX11_finish_42 : decode cX11_finish 42 = .ok (.istore 7, 2) := by decide +kernel
theorem dX11_finish_44 : decode cX11_finish 44 = .ok (.iload 7, 2) := by decide +kernel
theorem dX11_finish_46 : decode cX11_finish 46 = .ok (.sipush 608, 3) := by decide +kernel
theorem dX11_finish_49 : decode cX11_finish 49 = .ok (.if_icmp .ge 30, 3) := by decide +kernel
theorem dX11_finish_52 : decode cX11_finish 52 = .ok (.aload_n 0, 1) := by decide +kernel
theorem dX11_finish_53 : decode cX11_finish 53 = .ok (.getfield 99, 3) := by decide +kernel
theorem dX11_finish_56 : decode cX11_finish 56 = .ok (.iload 7, 2) := by decide +kernel
theorem dX11_finish_58 : decode cX11_finish 58 = .ok (.aload_n 0, 1) := by decide +kernel
theorem dX11_finish_59 : decode cX11_finish 59 = .ok (.getfield 102, 3) := by decide +kernel
theorem dX11_finish_62 : decode cX11_finish 62 = .ok (.sipush 608, 3) := by decide +kernel
theorem dX11_finish_65 : decode cX11_finish 65 = .ok (.iload 4, 2) := by decide +kernel
theorem dX11_finish_67 : decode cX11_finish 67 = .ok (.imul, 1) := by decide +kernel
theorem dX11_finish_68 : decode cX11_finish 68 = .ok (.iload 7, 2) := by decide +kernel
theorem dX11_finish_70 : decode cX11_finish 70 = .ok (.iadd, 1) := by decide +kernel
theorem dX11_finish_71 : decode cX11_finish 71 = .ok (.laload, 1) := by decide +kernel
theorem dX11_finish_72 : decode cX11_finish 72 = .ok (.lastore, 1) := by decide +kernel
theorem dX11_finish_73 : decode cX11_finish 73 = .ok (.iinc 7 1, 3) := by decide +kernel
theorem dX11_finish_76 : decode cX11_finish 76 = .ok (.goto (-32), 3) := by decide +kernel
theorem dX11_finish_79 : decode cX11_finish 79 = .ok (.aload_n 0, 1) := by decide +kernel
theorem dX11_finish_80 : decode cX11_finish 80 = .ok (.aload_n 0, 1) := by decide +kernel
theorem dX11_finish_81 : decode cX11_finish 81 = .ok (.getfield 105, 3) := by decide +kernel
theorem dX11_finish_84 : decode cX11_finish 84 = .ok (.iload 4, 2) := by decide +kernel
theorem dX11_finish_86 : decode cX11_finish 86 = .ok (.iaload, 1) := by decide +kernel
theorem dX11_finish_87 : decode cX11_finish 87 = .ok (.putfield 212, 3) := by decide +kernel
theorem dX11_finish_90 : decode cX11_finish 90 = .ok (.aload_n 0, 1) := by decide +kernel
theorem dX11_finish_91 : decode cX11_finish 91 = .ok (.aload_n 0, 1) := by decide +kernel
theorem dX11_finish_92 : decode cX11_finish 92 = .ok (.getfield 108, 3) := by decide +kernel
theorem dX11_finish_95 : decode cX11_finish 95 = .ok (.iload 4, 2) := by decide +kernel
theorem dX11_finish_97 : decode cX11_finish 97 = .ok (.iaload, 1) := by decide +kernel
theorem dX11_finish_98 : decode cX11_finish 98 = .ok (.putfield 215, 3) := by decide +kernel
theorem dX11_finish_101 : decode cX11_finish 101 = .ok (.aload_n 0, 1) := by decide +kernel
theorem dX11_finish_102 : decode cX11_finish 102 = .ok (.iload_n 1, 1) := by decide +kernel
theorem dX11_finish_103 : decode cX11_finish 103 = .ok (.iload_n 1, 1) := by decide +kernel
theorem dX11_finish_104 : decode cX11_finish 104 = .ok (.iconst 3, 1) := by decide +kernel
theorem dX11_finish_105 : decode cX11_finish 105 = .ok (.if_icmp .ne 7, 3) := by decide +kernel
theorem dX11_finish_108 : decode cX11_finish 108 = .ok (.lconst 0, 1) := by decide +kernel
theorem dX11_finish_109 : decode cX11_finish 109 = .ok (.goto 4, 3) := by decide +kernel
theorem dX11_finish_112 : decode cX11_finish 112 = .ok (.lload_n 2, 1) := by decide +kernel
theorem dX11_finish_113 : decode cX11_finish 113 = .ok (.lload 5, 2) := by decide +kernel
theorem dX11_finish_115 : decode cX11_finish 115 = .ok (.invokevirtual 209, 3) := by decide +kernel
theorem dX11_finish_118 : decode cX11_finish 118 = .ok (.return_, 1) := by decide +kernel
theorem dX11_begin_0 : decode cX11_begin 0 = .ok (.lload_n 2, 1) := by decide +kernel
theorem dX11_begin_1 : decode cX11_begin 1 = .ok (.invokestatic 181, 3) := by decide +kernel
theorem dX11_begin_4 : decode cX11_begin 4 = .ok (.ifCond .eq 42, 3) := by decide +kernel
theorem dX11_begin_7 : decode cX11_begin 7 = .ok (.lload 4, 2) := by decide +kernel
theorem dX11_begin_9 : decode cX11_begin 9 = .ok (.lconst 0, 1) := by decide +kernel
theorem dX11_begin_10 : decode cX11_begin 10 = .ok (.lcmp, 1) := by decide +kernel
theorem dX11_begin_11 : decode cX11_begin 11 = .ok (.ifCond .lt 35, 3) := by decide +kernel
theorem dX11_begin_14 : decode cX11_begin 14 = .ok (.lload 4, 2) := by decide +kernel
theorem dX11_begin_16 : decode cX11_begin 16 = .ok (.aload_n 0, 1) := by decide +kernel
theorem dX11_begin_17 : decode cX11_begin 17 = .ok (.getfield 99, 3) := by decide +kernel
theorem dX11_begin_20 : decode cX11_begin 20 = .ok (.bipush 19, 2) := by decide +kernel
theorem dX11_begin_22 : decode cX11_begin 22 = .ok (.iload_n 1, 1) := by decide +kernel
theorem dX11_begin_23 : decode cX11_begin 23 = .ok (.imul, 1) := by decide +kernel
theorem dX11_begin_24 : decode cX11_begin 24 = .ok (.laload, 1) := by decide +kernel
theorem dX11_begin_25 : decode cX11_begin 25 = .ok (.lcmp, 1) := by decide +kernel
theorem dX11_begin_26 : decode cX11_begin 26 = .ok (.ifCond .gt 20, 3) := by decide +kernel
theorem dX11_begin_29 : decode cX11_begin 29 = .ok (.aload_n 0, 1) := by decide +kernel
theorem dX11_begin_30 : decode cX11_begin 30 = .ok (.lload_n 2, 1) := by decide +kernel
theorem dX11_begin_31 : decode cX11_begin 31 = .ok (.invokevirtual 206, 3) := by decide +kernel
theorem dX11_begin_34 : decode cX11_begin 34 = .ok (.ifCond .ne 12, 3) := by decide +kernel
theorem dX11_begin_37 : decode cX11_begin 37 = .ok (.aload_n 0, 1) := by decide +kernel
theorem dX11_begin_38 : decode cX11_begin 38 = .ok (.getfield 203, 3) := by decide +kernel
theorem dX11_begin_41 : decode cX11_begin 41 = .ok (.bipush 10, 2) := by decide +kernel
theorem dX11_begin_43 : decode cX11_begin 43 = .ok (.if_icmp .ne 13, 3) := by decide +kernel
theorem dX11_begin_46 : decode cX11_begin 46 = .ok (.aload_n 0, 1) := by decide +kernel
theorem dX11_begin_47 : decode cX11_begin 47 = .ok (.iconst 2, 1) := by decide +kernel
theorem dX11_begin_48 : decode cX11_begin 48 = .ok (.lconst 0, 1) := by decide +kernel
theorem dX11_begin_49 : decode cX11_begin 49 = .ok (.lload 8, 2) := by decide +kernel
theorem dX11_begin_51 : decode cX11_begin 51 = .ok (.invokevirtual 209, 3) := by decide +kernel
theorem dX11_begin_54 : decode cX11_begin 54 = .ok (.iconst 0, 1) := by decide +kernel
theorem dX11_begin_55 : decode cX11_begin 55 = .ok (.ireturn, 1) := by decide +kernel
theorem dX11_begin_56 : decode cX11_begin 56 = .ok (.lload_n 2, 1) := by decide +kernel
theorem dX11_begin_57 : decode cX11_begin 57 = .ok (.l2i, 1) := by decide +kernel
theorem dX11_begin_58 : decode cX11_begin 58 = .ok (.istore 11, 2) := by decide +kernel
theorem dX11_begin_60 : decode cX11_begin 60 = .ok (.iconst 0, 1) := by decide +kernel
theorem dX11_begin_61 : decode cX11_begin 61 = .ok (.istore 12, 2) := by decide +kernel
theorem dX11_begin_63 : decode cX11_begin 63 = .ok (.iload 12, 2) := by decide +kernel
theorem dX11_begin_65 : decode cX11_begin 65 = .ok (.sipush 608, 3) := by decide +kernel
theorem dX11_begin_68 : decode cX11_begin 68 = .ok (.if_icmp .ge 32, 3) := by decide +kernel
theorem dX11_begin_71 : decode cX11_begin 71 = .ok (.aload_n 0, 1) := by decide +kernel
theorem dX11_begin_72 : decode cX11_begin 72 = .ok (.getfield 102, 3) := by decide +kernel
theorem dX11_begin_75 : decode cX11_begin 75 = .ok (.sipush 608, 3) := by decide +kernel
theorem dX11_begin_78 : decode cX11_begin 78 = .ok (.aload_n 0, 1) := by decide +kernel
theorem dX11_begin_79 : decode cX11_begin 79 = .ok (.getfield 203, 3) := by decide +kernel
theorem dX11_begin_82 : decode cX11_begin 82 = .ok (.imul, 1) := by decide +kernel
theorem dX11_begin_83 : decode cX11_begin 83 = .ok (.iload 12, 2) := by decide +kernel
theorem dX11_begin_85 : decode cX11_begin 85 = .ok (.iadd, 1) := by decide +kernel
theorem dX11_begin_86 : decode cX11_begin 86 = .ok (.aload_n 0, 1) := by decide +kernel
theorem dX11_begin_87 : decode cX11_begin 87 = .ok (.getfield 99, 3) := by decide +kernel
theorem dX11_begin_90 : decode cX11_begin 90 = .ok (.iload 12, 2) := by decide +kernel
theorem dX11_begin_92 : decode cX11_begin 92 = .ok (.laload, 1) := by decide +kernel
theorem dX11_begin_93 : decode cX11_begin 93 = .ok (.lastore, 1) := by decide +kernel
theorem dX11_begin_94 : decode cX11_begin 94 = .ok (.iinc 12 1, 3) := by decide +kernel
theorem dX11_begin_97 : decode cX11_begin 97 = .ok (.goto (-34), 3) := by decide +kernel
theorem dX11_begin_100 : decode cX11_begin 100 = .ok (.aload_n 0, 1) := by decide +kernel
theorem dX11_begin_101 : decode cX11_begin 101 = .ok (.getfield 105, 3) := by decide +kernel
theorem dX11_begin_104 : decode cX11_begin 104 = .ok (.aload_n 0, 1) := by decide +kernel
theorem dX11_begin_105 : decode cX11_begin 105 = .ok (.getfield 203, 3) := by decide +kernel
theorem dX11_begin_108 : decode cX11_begin 108 = .ok (.aload_n 0, 1) := by decide +kernel
theorem dX11_begin_109 : decode cX11_begin 109 = .ok (.getfield 212, 3) := by decide +kernel
theorem dX11_begin_112 : decode cX11_begin 112 = .ok (.iastore, 1) := by decide +kernel
theorem dX11_begin_113 : decode cX11_begin 113 = .ok (.aload_n 0, 1) := by decide +kernel
theorem dX11_begin_114 : decode cX11_begin 114 = .ok (.getfield 108, 3) := by decide +kernel
theorem dX11_begin_117 : decode cX11_begin 117 = .ok (.aload_n 0, 1) := by decide +kernel
theorem dX11_begin_118 : decode cX11_begin 118 = .ok (.getfield 203, 3) := by decide +kernel
theorem dX11_begin_121 : decode cX11_begin 121 = .ok (.aload_n 0, 1) := by decide +kernel
theorem dX11_begin_122 : decode cX11_begin 122 = .ok (.getfield 215, 3) := by decide +kernel
theorem dX11_begin_125 : decode cX11_begin 125 = .ok (.iastore, 1) := by decide +kernel
theorem dX11_begin_126 : decode cX11_begin 126 = .ok (.aload_n 0, 1) := by decide +kernel
theorem dX11_begin_127 : decode cX11_begin 127 = .ok (.getfield 99, 3) := by decide +kernel
theorem dX11_begin_130 : decode cX11_begin 130 = .ok (.bipush 19, 2) := by decide +kernel
theorem dX11_begin_132 : decode cX11_begin 132 = .ok (.iload_n 1, 1) := by decide +kernel
theorem dX11_begin_133 : decode cX11_begin 133 = .ok (.imul, 1) := by decide +kernel
theorem dX11_begin_134 : decode cX11_begin 134 = .ok (.dup2, 1) := by decide +kernel
theorem dX11_begin_135 : decode cX11_begin 135 = .ok (.laload, 1) := by decide +kernel
theorem dX11_begin_136 : decode cX11_begin 136 = .ok (.lload 4, 2) := by decide +kernel
theorem dX11_begin_138 : decode cX11_begin 138 = .ok (.lsub, 1) := by decide +kernel
theorem dX11_begin_139 : decode cX11_begin 139 = .ok (.lastore, 1) := by decide +kernel
theorem dX11_begin_140 : decode cX11_begin 140 = .ok (.aload_n 0, 1) := by decide +kernel
theorem dX11_begin_141 : decode cX11_begin 141 = .ok (.getfield 99, 3) := by decide +kernel
theorem dX11_begin_144 : decode cX11_begin 144 = .ok (.bipush 19, 2) := by decide +kernel
theorem dX11_begin_146 : decode cX11_begin 146 = .ok (.iload 11, 2) := by decide +kernel
theorem dX11_begin_148 : decode cX11_begin 148 = .ok (.imul, 1) := by decide +kernel
theorem dX11_begin_149 : decode cX11_begin 149 = .ok (.dup2, 1) := by decide +kernel
theorem dX11_begin_150 : decode cX11_begin 150 = .ok (.laload, 1) := by decide +kernel
theorem dX11_begin_151 : decode cX11_begin 151 = .ok (.lload 4, 2) := by decide +kernel
theorem dX11_begin_153 : decode cX11_begin 153 = .ok (.ladd, 1) := by decide +kernel
theorem dX11_begin_154 : decode cX11_begin 154 = .ok (.lastore, 1) := by decide +kernel
theorem dX11_begin_155 : decode cX11_begin 155 = .ok (.aload_n 0, 1) := by decide +kernel
theorem dX11_begin_156 : decode cX11_begin 156 = .ok (.getfield 99, 3) := by decide +kernel
theorem dX11_begin_159 : decode cX11_begin 159 = .ok (.bipush 19, 2) := by decide +kernel
theorem dX11_begin_161 : decode cX11_begin 161 = .ok (.iload 11, 2) := by decide +kernel
theorem dX11_begin_163 : decode cX11_begin 163 = .ok (.imul, 1) := by decide +kernel
theorem dX11_begin_164 : decode cX11_begin 164 = .ok (.iconst 2, 1) := by decide +kernel
theorem dX11_begin_165 : decode cX11_begin 165 = .ok (.iadd, 1) := by decide +kernel
theorem dX11_begin_166 : decode cX11_begin 166 = .ok (.laload, 1) := by decide +kernel
theorem dX11_begin_167 : decode cX11_begin 167 = .ok (.lconst 0, 1) := by decide +kernel
theorem dX11_begin_168 : decode cX11_begin 168 = .ok (.lcmp, 1) := by decide +kernel
theorem dX11_begin_169 : decode cX11_begin 169 = .ok (.ifCond .ne 13, 3) := by decide +kernel
theorem dX11_begin_172 : decode cX11_begin 172 = .ok (.aload_n 0, 1) := by decide +kernel
theorem dX11_begin_173 : decode cX11_begin 173 = .ok (.iconst 1, 1) := by decide +kernel
theorem dX11_begin_174 : decode cX11_begin 174 = .ok (.lconst 0, 1) := by decide +kernel
theorem dX11_begin_175 : decode cX11_begin 175 = .ok (.lload 8, 2) := by decide +kernel
theorem dX11_begin_177 : decode cX11_begin 177 = .ok (.invokevirtual 209, 3) := by decide +kernel
theorem dX11_begin_180 : decode cX11_begin 180 = .ok (.iconst 0, 1) := by decide +kernel
theorem dX11_begin_181 : decode cX11_begin 181 = .ok (.ireturn, 1) := by decide +kernel
theorem dX11_begin_182 : decode cX11_begin 182 = .ok (.aload_n 0, 1) := by decide +kernel
theorem dX11_begin_183 : decode cX11_begin 183 = .ok (.getfield 203, 3) := by decide +kernel
theorem dX11_begin_186 : decode cX11_begin 186 = .ok (.istore 12, 2) := by decide +kernel
theorem dX11_begin_188 : decode cX11_begin 188 = .ok (.aload_n 0, 1) := by decide +kernel
theorem dX11_begin_189 : decode cX11_begin 189 = .ok (.getfield 111, 3) := by decide +kernel
theorem dX11_begin_192 : decode cX11_begin 192 = .ok (.iload 12, 2) := by decide +kernel
theorem dX11_begin_194 : decode cX11_begin 194 = .ok (.aload_n 0, 1) := by decide +kernel
theorem dX11_begin_195 : decode cX11_begin 195 = .ok (.getfield 99, 3) := by decide +kernel
theorem dX11_begin_198 : decode cX11_begin 198 = .ok (.bipush 19, 2) := by decide +kernel
theorem dX11_begin_200 : decode cX11_begin 200 = .ok (.iload 11, 2) := by decide +kernel
theorem dX11_begin_202 : decode cX11_begin 202 = .ok (.imul, 1) := by decide +kernel
theorem dX11_begin_203 : decode cX11_begin 203 = .ok (.iconst 2, 1) := by decide +kernel
theorem dX11_begin_204 : decode cX11_begin 204 = .ok (.iadd, 1) := by decide +kernel
theorem dX11_begin_205 : decode cX11_begin 205 = .ok (.laload, 1) := by decide +kernel
theorem dX11_begin_206 : decode cX11_begin 206 = .ok (.l2i, 1) := by decide +kernel
theorem dX11_begin_207 : decode cX11_begin 207 = .ok (.iconst 1, 1) := by decide +kernel
theorem dX11_begin_208 : decode cX11_begin 208 = .ok (.isub, 1) := by decide +kernel
theorem dX11_begin_209 : decode cX11_begin 209 = .ok (.iastore, 1) := by decide +kernel
theorem dX11_begin_210 : decode cX11_begin 210 = .ok (.aload_n 0, 1) := by decide +kernel
theorem dX11_begin_211 : decode cX11_begin 211 = .ok (.getfield 114, 3) := by decide +kernel
theorem dX11_begin_214 : decode cX11_begin 214 = .ok (.iload 12, 2) := by decide +kernel
theorem dX11_begin_216 : decode cX11_begin 216 = .ok (.iconst 0, 1) := by decide +kernel
theorem dX11_begin_217 : decode cX11_begin 217 = .ok (.iastore, 1) := by decide +kernel
theorem dX11_begin_218 : decode cX11_begin 218 = .ok (.aload_n 0, 1) := by decide +kernel
theorem dX11_begin_219 : decode cX11_begin 219 = .ok (.getfield 117, 3) := by decide +kernel
theorem dX11_begin_222 : decode cX11_begin 222 = .ok (.iload 12, 2) := by decide +kernel
theorem dX11_begin_224 : decode cX11_begin 224 = .ok (.lload 8, 2) := by decide +kernel
theorem dX11_begin_226 : decode cX11_begin 226 = .ok (.lastore, 1) := by decide +kernel
theorem dX11_begin_227 : decode cX11_begin 227 = .ok (.aload_n 0, 1) := by decide +kernel
theorem dX11_begin_228 : decode cX11_begin 228 = .ok (.getfield 120, 3) := by decide +kernel
theorem dX11_begin_231 : decode cX11_begin 231 = .ok (.iload 12, 2) := by decide +kernel
theorem dX11_begin_233 : decode cX11_begin 233 = .ok (.iload 11, 2) := by decide +kernel
theorem dX11_begin_235 : decode cX11_begin 235 = .ok (.iastore, 1) := by decide +kernel
theorem dX11_begin_236 : decode cX11_begin 236 = .ok (.aload_n 0, 1) := by decide +kernel
theorem dX11_begin_237 : decode cX11_begin 237 = .ok (.getfield 123, 3) := by decide +kernel
theorem dX11_begin_240 : decode cX11_begin 240 = .ok (.iload 12, 2) := by decide +kernel
theorem dX11_begin_242 : decode cX11_begin 242 = .ok (.iload_n 1, 1) := by decide +kernel
theorem dX11_begin_243 : decode cX11_begin 243 = .ok (.iastore, 1) := by decide +kernel
theorem dX11_begin_244 : decode cX11_begin 244 = .ok (.aload_n 0, 1) := by decide +kernel
theorem dX11_begin_245 : decode cX11_begin 245 = .ok (.getfield 126, 3) := by decide +kernel
theorem dX11_begin_248 : decode cX11_begin 248 = .ok (.iload 12, 2) := by decide +kernel
theorem dX11_begin_250 : decode cX11_begin 250 = .ok (.lload 4, 2) := by decide +kernel
theorem dX11_begin_252 : decode cX11_begin 252 = .ok (.lastore, 1) := by decide +kernel
theorem dX11_begin_253 : decode cX11_begin 253 = .ok (.aload_n 0, 1) := by decide +kernel
theorem dX11_begin_254 : decode cX11_begin 254 = .ok (.getfield 129, 3) := by decide +kernel
theorem dX11_begin_257 : decode cX11_begin 257 = .ok (.iload 12, 2) := by decide +kernel
theorem dX11_begin_259 : decode cX11_begin 259 = .ok (.lload 6, 2) := by decide +kernel
theorem dX11_begin_261 : decode cX11_begin 261 = .ok (.lastore, 1) := by decide +kernel
theorem dX11_begin_262 : decode cX11_begin 262 = .ok (.aload_n 0, 1) := by decide +kernel
theorem dX11_begin_263 : decode cX11_begin 263 = .ok (.getfield 132, 3) := by decide +kernel
theorem dX11_begin_266 : decode cX11_begin 266 = .ok (.iload 12, 2) := by decide +kernel
theorem dX11_begin_268 : decode cX11_begin 268 = .ok (.iload 10, 2) := by decide +kernel
theorem dX11_begin_270 : decode cX11_begin 270 = .ok (.bastore, 1) := by decide +kernel
theorem dX11_begin_271 : decode cX11_begin 271 = .ok (.aload_n 0, 1) := by decide +kernel
theorem dX11_begin_272 : decode cX11_begin 272 = .ok (.getfield 135, 3) := by decide +kernel
theorem dX11_begin_275 : decode cX11_begin 275 = .ok (.iload 12, 2) := by decide +kernel
theorem dX11_begin_277 : decode cX11_begin 277 = .ok (.iconst 0, 1) := by decide +kernel
theorem dX11_begin_278 : decode cX11_begin 278 = .ok (.bastore, 1) := by decide +kernel
theorem dX11_begin_279 : decode cX11_begin 279 = .ok (.aload_n 0, 1) := by decide +kernel
theorem dX11_begin_280 : decode cX11_begin 280 = .ok (.getfield 141, 3) := by decide +kernel
theorem dX11_begin_283 : decode cX11_begin 283 = .ok (.iload 12, 2) := by decide +kernel
theorem dX11_begin_285 : decode cX11_begin 285 = .ok (.iconst 0, 1) := by decide +kernel
theorem dX11_begin_286 : decode cX11_begin 286 = .ok (.iastore, 1) := by decide +kernel
theorem dX11_begin_287 : decode cX11_begin 287 = .ok (.aload_n 0, 1) := by decide +kernel
theorem dX11_begin_288 : decode cX11_begin 288 = .ok (.dup, 1) := by decide +kernel
theorem dX11_begin_289 : decode cX11_begin 289 = .ok (.getfield 203, 3) := by decide +kernel
theorem dX11_begin_292 : decode cX11_begin 292 = .ok (.iconst 1, 1) := by decide +kernel
theorem dX11_begin_293 : decode cX11_begin 293 = .ok (.iadd, 1) := by decide +kernel
theorem dX11_begin_294 : decode cX11_begin 294 = .ok (.putfield 203, 3) := by decide +kernel
theorem dX11_begin_297 : decode cX11_begin 297 = .ok (.aload_n 0, 1) := by decide +kernel
theorem dX11_begin_298 : decode cX11_begin 298 = .ok (.dup, 1) := by decide +kernel
theorem dX11_begin_299 : decode cX11_begin 299 = .ok (.getfield 218, 3) := by decide +kernel
theorem dX11_begin_302 : decode cX11_begin 302 = .ok (.iconst 1, 1) := by decide +kernel
theorem dX11_begin_303 : decode cX11_begin 303 = .ok (.iadd, 1) := by decide +kernel
theorem dX11_begin_304 : decode cX11_begin 304 = .ok (.putfield 218, 3) := by decide +kernel
theorem dX11_begin_307 : decode cX11_begin 307 = .ok (.iconst 1, 1) := by decide +kernel
theorem dX11_begin_308 : decode cX11_begin 308 = .ok (.ireturn, 1) := by decide +kernel
theorem lm_finish {G : rx_E} {d mc ms : Nat} {C : rx_M} {S : gs_T} {Q : Option Value → rx_M → Prop} {Z : String → rx_M → Prop} (hG : rx_OK G) {p : Nat} {hw : Int32} {vl gs : Int64} (hp1 : p < 11) (K : rx_W G MX11_finish d 79 [(7, .int (nI 608)), (0, .ref 52), (1, .int hw), (2, .long vl), (4, .int (nI p)), (5, .long gs)] [] (gl C (S.1, rx_cp S.2 82 0 83 (608 * p) 608)) mc ms Q Z) : ∀ (k i : Nat), i + k = 608 → rx_W G MX11_finish d 44 [(7, .int (nI i)), (0, .ref 52), (1, .int hw), (2, .long vl), (4, .int (nI p)), (5, .long gs)] [] (gl C (S.1, rx_cp S.2 82 0 83 (608 * p) i)) mc ms Q Z := by
  intro k
  induction k with
  | zero =>
    intro i hi
    have hi : i = 608 := by omega
    subst hi
    refine rx_iload dX11_finish_44 rfl ?_
    refine rx_sipush (v := nI 608) dX11_finish_46 rfl ?_
    exact rx_icmp_ge (tgt := 79) dX11_finish_49 (by decide) (fun _ => K) (fun h => absurd (by rw [nI_leI (by omega) (by omega)]; omega) h)
  | succ k ih =>
    intro i hi
    refine rx_iload dX11_finish_44 rfl ?_
    refine rx_sipush (v := nI 608) dX11_finish_46 rfl ?_
    refine rx_icmp_ge (tgt := 79) dX11_finish_49 (by decide) (fun h => absurd h (by rw [nI_leI (by omega) (by omega)]; omega)) (fun h49 => ?_)
    refine rx_aload_n dX11_finish_52 rfl rfl ?_
    refine g_getR hG hf_RX11_99 rfl dX11_finish_53 rfl rfl rfl ?_
    refine rx_iload dX11_finish_56 rfl ?_
    refine rx_aload_n dX11_finish_58 rfl rfl ?_
    refine g_getR hG hf_RX11_102 rfl dX11_finish_59 rfl rfl rfl ?_
    refine rx_sipush (v := nI 608) dX11_finish_62 rfl ?_
    refine rx_iload dX11_finish_65 rfl ?_
    refine rx_imul dX11_finish_67 ?_
    refine rx_ti (y := nI (608 * p)) ((pk_mul _ _).trans (congrArg nI (by omega))) ?_
    refine rx_iload dX11_finish_68 rfl ?_
    refine rx_iadd dX11_finish_70 ?_
    refine rx_ti (y := nI (i + 608 * p)) ((nI_add _ _).trans (congrArg nI (by omega))) ?_
    refine gmv_lald (j := i + 608 * p) (v := S.2 83 (i + 608 * p)) hG dX11_finish_71 rfl rfl rfl rfl (by omega) (by decide) (by show rx_cp S.2 82 0 83 (608 * p) i 83 (i + 608 * p) = _; exact rx_cp_get (by decide)) ?_
    refine gm_last (j := i) hG dX11_finish_72 rfl rfl rfl rfl (by omega) (by decide) ?_
    refine rx_iinc (v := nI (i + 1)) dX11_finish_73 rfl ((nI_add _ 1).trans (congrArg nI (by omega))) ?_
    refine rx_goto (tgt := 44) dX11_finish_76 (by decide) ?_
    refine rx_lv (lv' := [(7, .int (nI (i + 1))), (0, .ref 52), (1, .int hw), (2, .long vl), (4, .int (nI p)), (5, .long gs)]) ⟨rfl, rfl, rfl, rfl, rfl, rfl, trivial⟩ ?_
    refine rx_tm (mu' := gl C (S.1, rx_cp S.2 82 0 83 (608 * p) (i + 1))) (congrArg (fun q => gl C (S.1, q)) (rx_cp_succ (by omega) (by omega))) ?_
    exact ih (i + 1) (by omega)
theorem cm_finish1 {G : rx_E} {d : Nat} {C : rx_M} {S : gs_T} (hG : rx_OK G) {p : Nat} {vl : Int64} (hp : S.1 52 49 = nI (p + 1)) (hp1 : p < 11) : rx_C G MX11_finish (d + 1) [.ref 52, .int (nI 1), .long vl] (gl C S) 0 0 (fun v mu => v = none ∧ mu = gl C ((rx_u (rx_u S.1 52 49 (nI p)) 52 58 (nI 1)), (rx_u (rx_u S.2 52 59 vl) 52 60 (S.2 88 p)))) := by
  refine rx_meth0 (by decide +kernel) rfl (Nat.le_of_ble_eq_true rfl) ?_
  refine rx_aload_n dX11_finish_0 rfl rfl ?_
  refine gmv_getI (v := nI (p + 1)) hG hf_RX11_203 rfl dX11_finish_1 rfl rfl rfl hp ?_
  refine rx_iconst (v := nI 1) dX11_finish_4 rfl ?_
  refine rx_isub dX11_finish_5 ?_
  refine rx_ti (y := nI p) ((pk_sub (by omega)).trans (congrArg nI (by omega))) ?_
  refine rx_istore dX11_finish_6 (by decide) ?_
  refine rx_aload_n dX11_finish_8 rfl rfl ?_
  refine rx_dup dX11_finish_9 rfl ?_
  refine gmv_getI (v := nI (p + 1)) hG hf_RX11_203 rfl dX11_finish_10 rfl rfl rfl hp ?_
  refine rx_iconst (v := nI 1) dX11_finish_13 rfl ?_
  refine rx_isub dX11_finish_14 ?_
  refine rx_ti (y := nI p) ((pk_sub (by omega)).trans (congrArg nI (by omega))) ?_
  refine gm_putI hG hf_RX11_203 (gw_nf rfl rfl) rfl dX11_finish_15 rfl rfl rfl rfl rfl ?_
  refine rx_iload_n dX11_finish_18 rfl ?_
  refine rx_iconst (v := nI 3) dX11_finish_19 rfl ?_
  refine rx_icmp_ne (tgt := 27) dX11_finish_20 (by decide) (fun h20 => ?_) (fun h20 => (absurd h20 (by decide))) 
  refine rx_aload_n dX11_finish_27 rfl rfl ?_
  refine g_getR hG hf_RX11_117 rfl dX11_finish_28 rfl rfl rfl ?_
  refine rx_iload dX11_finish_31 rfl ?_
  refine gmv_lald (j := p) (v := S.2 88 p) hG dX11_finish_33 rfl rfl rfl rfl (by omega) (by decide) rfl ?_
  refine rx_lstore dX11_finish_34 (by decide) ?_
  refine rx_iload_n dX11_finish_36 rfl ?_
  refine rx_iconst (v := nI 1) dX11_finish_37 rfl ?_
  refine rx_icmp_eq (tgt := 101) dX11_finish_38 (by decide) (fun h38 => ?_) (fun h38 => (absurd h38 (by decide))) 
  refine rx_aload_n dX11_finish_101 rfl rfl ?_
  refine rx_iload_n dX11_finish_102 rfl ?_
  refine rx_iload_n dX11_finish_103 rfl ?_
  refine rx_iconst (v := nI 3) dX11_finish_104 rfl ?_
  refine rx_icmp_ne (tgt := 112) dX11_finish_105 (by decide) (fun h105 => ?_) (fun h105 => (absurd h105 (by decide))) 
  refine rx_lload_n dX11_finish_112 rfl ?_
  refine rx_lload dX11_finish_113 rfl ?_
  refine gv_invV (as := [.int _, .long _, .long _]) hG okX11_end lk_RX11_209 rfl rfl dX11_finish_115 rfl (by simp [Value.category]) (cm_end hG _ _ _) ?_
  rintro _ _ ⟨rfl, rfl⟩
  exact rx_vret rfl dX11_finish_118 ⟨rfl, rfl⟩
theorem cm_finish2 {G : rx_E} {d : Nat} {C : rx_M} {S : gs_T} (hG : rx_OK G) {p : Nat} {vl : Int64} (hp : S.1 52 49 = nI (p + 1)) (hp1 : p < 11) : rx_C G MX11_finish (d + 1) [.ref 52, .int (nI 2), .long vl] (gl C S) 0 0 (fun v mu => v = none ∧ mu = gl C ((rx_u (rx_u (rx_u (rx_u S.1 52 49 (nI p)) 52 52 (S.1 84 p)) 52 56 (S.1 85 p)) 52 58 (nI 2)), (rx_u (rx_u (rx_cp S.2 82 0 83 (608 * p) 608) 52 59 vl) 52 60 (S.2 88 p)))) := by
  refine rx_meth0 (by decide +kernel) rfl (Nat.le_of_ble_eq_true rfl) ?_
  refine rx_aload_n dX11_finish_0 rfl rfl ?_
  refine gmv_getI (v := nI (p + 1)) hG hf_RX11_203 rfl dX11_finish_1 rfl rfl rfl hp ?_
  refine rx_iconst (v := nI 1) dX11_finish_4 rfl ?_
  refine rx_isub dX11_finish_5 ?_
  refine rx_ti (y := nI p) ((pk_sub (by omega)).trans (congrArg nI (by omega))) ?_
  refine rx_istore dX11_finish_6 (by decide) ?_
  refine rx_aload_n dX11_finish_8 rfl rfl ?_
  refine rx_dup dX11_finish_9 rfl ?_
  refine gmv_getI (v := nI (p + 1)) hG hf_RX11_203 rfl dX11_finish_10 rfl rfl rfl hp ?_
  refine rx_iconst (v := nI 1) dX11_finish_13 rfl ?_
  refine rx_isub dX11_finish_14 ?_
  refine rx_ti (y := nI p) ((pk_sub (by omega)).trans (congrArg nI (by omega))) ?_
  refine gm_putI hG hf_RX11_203 (gw_nf rfl rfl) rfl dX11_finish_15 rfl rfl rfl rfl rfl ?_
  refine rx_iload_n dX11_finish_18 rfl ?_
  refine rx_iconst (v := nI 3) dX11_finish_19 rfl ?_
  refine rx_icmp_ne (tgt := 27) dX11_finish_20 (by decide) (fun h20 => ?_) (fun h20 => (absurd h20 (by decide))) 
  refine rx_aload_n dX11_finish_27 rfl rfl ?_
  refine g_getR hG hf_RX11_117 rfl dX11_finish_28 rfl rfl rfl ?_
  refine rx_iload dX11_finish_31 rfl ?_
  refine gmv_lald (j := p) (v := S.2 88 p) hG dX11_finish_33 rfl rfl rfl rfl (by omega) (by decide) rfl ?_
  refine rx_lstore dX11_finish_34 (by decide) ?_
  refine rx_iload_n dX11_finish_36 rfl ?_
  refine rx_iconst (v := nI 1) dX11_finish_37 rfl ?_
  refine rx_icmp_eq (tgt := 101) dX11_finish_38 (by decide) (fun h38 => (absurd h38 (by decide))) (fun h38 => ?_)
  refine rx_iconst (v := nI 0) dX11_finish_41 rfl ?_
  refine rx_istore dX11_finish_42 (by decide) ?_
  refine rx_lv (lv' := [(7, .int (nI 0)), (0, .ref 52), (1, .int (nI 2)), (2, .long vl), (4, .int (nI p)), (5, .long (S.2 88 p))]) ⟨rfl, rfl, rfl, rfl, rfl, rfl, trivial⟩ ?_
  refine rx_tm (mu' := gl C ((rx_u S.1 52 49 (nI p)), rx_cp S.2 82 0 83 (608 * p) 0)) (by rw [rx_cp_0]) ?_
  refine lm_finish (S := ((rx_u S.1 52 49 (nI p)), S.2)) hG hp1 ?_ 608 0 (by omega)
  refine rx_aload_n dX11_finish_79 rfl rfl ?_
  refine rx_aload_n dX11_finish_80 rfl rfl ?_
  refine g_getR hG hf_RX11_105 rfl dX11_finish_81 rfl rfl rfl ?_
  refine rx_iload dX11_finish_84 rfl ?_
  refine gmv_iald (j := p) (v := S.1 84 p) hG dX11_finish_86 rfl rfl rfl rfl (by omega) (by decide) (by simp [rx_ru, hp]) ?_
  refine gm_putI hG hf_RX11_212 (gw_nf rfl rfl) rfl dX11_finish_87 rfl rfl rfl rfl rfl ?_
  refine rx_aload_n dX11_finish_90 rfl rfl ?_
  refine rx_aload_n dX11_finish_91 rfl rfl ?_
  refine g_getR hG hf_RX11_108 rfl dX11_finish_92 rfl rfl rfl ?_
  refine rx_iload dX11_finish_95 rfl ?_
  refine gmv_iald (j := p) (v := S.1 85 p) hG dX11_finish_97 rfl rfl rfl rfl (by omega) (by decide) (by simp [rx_ru, hp]) ?_
  refine gm_putI hG hf_RX11_215 (gw_nf rfl rfl) rfl dX11_finish_98 rfl rfl rfl rfl rfl ?_
  refine rx_aload_n dX11_finish_101 rfl rfl ?_
  refine rx_iload_n dX11_finish_102 rfl ?_
  refine rx_iload_n dX11_finish_103 rfl ?_
  refine rx_iconst (v := nI 3) dX11_finish_104 rfl ?_
  refine rx_icmp_ne (tgt := 112) dX11_finish_105 (by decide) (fun h105 => ?_) (fun h105 => (absurd h105 (by decide))) 
  refine rx_lload_n dX11_finish_112 rfl ?_
  refine rx_lload dX11_finish_113 rfl ?_
  refine gv_invV (as := [.int _, .long _, .long _]) hG okX11_end lk_RX11_209 rfl rfl dX11_finish_115 rfl (by simp [Value.category]) (cm_end hG _ _ _) ?_
  rintro _ _ ⟨rfl, rfl⟩
  exact rx_vret rfl dX11_finish_118 ⟨rfl, rfl⟩
theorem cm_finish3 {G : rx_E} {d : Nat} {C : rx_M} {S : gs_T} (hG : rx_OK G) {p : Nat} {vl : Int64} (hp : S.1 52 49 = nI (p + 1)) (hp1 : p < 11) : rx_C G MX11_finish (d + 1) [.ref 52, .int (nI 3), .long vl] (gl C S) 0 0 (fun v mu => v = none ∧ mu = gl C ((rx_u (rx_u (rx_u (rx_u S.1 52 49 (nI p)) 52 52 (S.1 84 p)) 52 56 (S.1 85 p)) 52 58 (nI 3)), (rx_u (rx_u (rx_cp S.2 82 0 83 (608 * p) 608) 52 59 0) 52 60 0))) := by
  refine rx_meth0 (by decide +kernel) rfl (Nat.le_of_ble_eq_true rfl) ?_
  refine rx_aload_n dX11_finish_0 rfl rfl ?_
  refine gmv_getI (v := nI (p + 1)) hG hf_RX11_203 rfl dX11_finish_1 rfl rfl rfl hp ?_
  refine rx_iconst (v := nI 1) dX11_finish_4 rfl ?_
  refine rx_isub dX11_finish_5 ?_
  refine rx_ti (y := nI p) ((pk_sub (by omega)).trans (congrArg nI (by omega))) ?_
  refine rx_istore dX11_finish_6 (by decide) ?_
  refine rx_aload_n dX11_finish_8 rfl rfl ?_
  refine rx_dup dX11_finish_9 rfl ?_
  refine gmv_getI (v := nI (p + 1)) hG hf_RX11_203 rfl dX11_finish_10 rfl rfl rfl hp ?_
  refine rx_iconst (v := nI 1) dX11_finish_13 rfl ?_
  refine rx_isub dX11_finish_14 ?_
  refine rx_ti (y := nI p) ((pk_sub (by omega)).trans (congrArg nI (by omega))) ?_
  refine gm_putI hG hf_RX11_203 (gw_nf rfl rfl) rfl dX11_finish_15 rfl rfl rfl rfl rfl ?_
  refine rx_iload_n dX11_finish_18 rfl ?_
  refine rx_iconst (v := nI 3) dX11_finish_19 rfl ?_
  refine rx_icmp_ne (tgt := 27) dX11_finish_20 (by decide) (fun h20 => (absurd h20 (by decide))) (fun h20 => ?_)
  refine rx_lconst (v := 0) dX11_finish_23 rfl ?_
  refine rx_goto (tgt := 34) dX11_finish_24 (by decide) ?_
  refine rx_lstore dX11_finish_34 (by decide) ?_
  refine rx_iload_n dX11_finish_36 rfl ?_
  refine rx_iconst (v := nI 1) dX11_finish_37 rfl ?_
  refine rx_icmp_eq (tgt := 101) dX11_finish_38 (by decide) (fun h38 => (absurd h38 (by decide))) (fun h38 => ?_)
  refine rx_iconst (v := nI 0) dX11_finish_41 rfl ?_
  refine rx_istore dX11_finish_42 (by decide) ?_
  refine rx_lv (lv' := [(7, .int (nI 0)), (0, .ref 52), (1, .int (nI 3)), (2, .long vl), (4, .int (nI p)), (5, .long 0)]) ⟨rfl, rfl, rfl, rfl, rfl, rfl, trivial⟩ ?_
  refine rx_tm (mu' := gl C ((rx_u S.1 52 49 (nI p)), rx_cp S.2 82 0 83 (608 * p) 0)) (by rw [rx_cp_0]) ?_
  refine lm_finish (S := ((rx_u S.1 52 49 (nI p)), S.2)) hG hp1 ?_ 608 0 (by omega)
  refine rx_aload_n dX11_finish_79 rfl rfl ?_
  refine rx_aload_n dX11_finish_80 rfl rfl ?_
  refine g_getR hG hf_RX11_105 rfl dX11_finish_81 rfl rfl rfl ?_
  refine rx_iload dX11_finish_84 rfl ?_
  refine gmv_iald (j := p) (v := S.1 84 p) hG dX11_finish_86 rfl rfl rfl rfl (by omega) (by decide) (by simp [rx_ru, hp]) ?_
  refine gm_putI hG hf_RX11_212 (gw_nf rfl rfl) rfl dX11_finish_87 rfl rfl rfl rfl rfl ?_
  refine rx_aload_n dX11_finish_90 rfl rfl ?_
  refine rx_aload_n dX11_finish_91 rfl rfl ?_
  refine g_getR hG hf_RX11_108 rfl dX11_finish_92 rfl rfl rfl ?_
  refine rx_iload dX11_finish_95 rfl ?_
  refine gmv_iald (j := p) (v := S.1 85 p) hG dX11_finish_97 rfl rfl rfl rfl (by omega) (by decide) (by simp [rx_ru, hp]) ?_
  refine gm_putI hG hf_RX11_215 (gw_nf rfl rfl) rfl dX11_finish_98 rfl rfl rfl rfl rfl ?_
  refine rx_aload_n dX11_finish_101 rfl rfl ?_
  refine rx_iload_n dX11_finish_102 rfl ?_
  refine rx_iload_n dX11_finish_103 rfl ?_
  refine rx_iconst (v := nI 3) dX11_finish_104 rfl ?_
  refine rx_icmp_ne (tgt := 112) dX11_finish_105 (by decide) (fun h105 => (absurd h105 (by decide))) (fun h105 => ?_)
  refine rx_lconst (v := 0) dX11_finish_108 rfl ?_
  refine rx_goto (tgt := 113) dX11_finish_109 (by decide) ?_
  refine rx_lload dX11_finish_113 rfl ?_
  refine gv_invV (as := [.int _, .long _, .long _]) hG okX11_end lk_RX11_209 rfl rfl dX11_finish_115 rfl (by simp [Value.category]) (cm_end hG _ _ _) ?_
  rintro _ _ ⟨rfl, rfl⟩
  exact rx_vret rfl dX11_finish_118 ⟨rfl, rfl⟩

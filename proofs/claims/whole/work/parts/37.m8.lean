theorem rY_ab {G : rx_E} {M : rx_Me} {d pc mc ms E : Nat} {lv : List (Nat × Value)} {st : List Value} {C : rx_M} {S0 S : gs_T} {g : vg_T} {X : vx_S} {Q : Option Value → rx_M → Prop} {Z : String → rx_M → Prop} (h : rm_Y S0 S g X E) (k : ∀ S', rm_Y S0 S' g X E → rx_W G M d pc lv st (gl C S') mc ms Q Z) : rx_W G M d pc lv st (gl C S) mc ms Q Z := k S h
theorem rY_abx {G : rx_E} {M : rx_Me} {d pc mc ms E : Nat} {lv : List (Nat × Value)} {st : List Value} {C : rx_M} {S0 S : gs_T} {g : vg_T} {X : vx_S} {x : Int64} {Q : Option Value → rx_M → Prop} {Z : String → rx_M → Prop} (h : rm_Y S0 S g X E) (hx : S.2 52 59 = x) (k : ∀ S', rm_Y S0 S' g X E → S'.2 52 59 = x → rx_W G M d pc lv st (gl C S') mc ms Q Z) : rx_W G M d pc lv st (gl C S) mc ms Q Z := k S h hx
theorem rm_onE {S0 : gs_T} {g : vg_T} {R R' : vx_S × Option (Nat × Int64 × Nat)} {S' : gs_T} (h : R = R') (hF : rm_on S0 g R' S') : rm_on S0 g R S' := h ▸ hF
theorem m63 : ∀ i, i < 64 → ¬ i < 6 → (Int64.toBitVec 63).getLsbD i = false := by decide +kernel
theorem sh63 (y : Int64) : y.toInt32.toInt64 &&& 63 = y &&& 63 := by
  apply Int64.toBitVec_inj.mp
  apply BitVec.eq_of_getLsbD_eq
  intro i hi
  simp only [Int64.toBitVec_and, Int32.toBitVec_toInt64, Int64.toBitVec_toInt32, BitVec.getLsbD_and]
  by_cases h : i < 6
  · congr 1
    have h1 : i < 32 := by omega
    have h2 : i < 64 := by omega
    rw [BitVec.getLsbD_signExtend, BitVec.getLsbD_signExtend, if_pos h1, if_pos h2, decide_eq_true h1, decide_eq_true h2, Bool.true_and, Bool.true_and]
  · rw [m63 i hi h]; simp
theorem sh63a (y : Int64) : (y &&& lN 63).toInt32.toInt64 &&& 63 = y &&& 63 := by
  rw [sh63]
  apply Int64.toBitVec_inj.mp
  apply BitVec.eq_of_getLsbD_eq
  intro i hi
  simp only [Int64.toBitVec_and, BitVec.getLsbD_and]
  show (y.toBitVec.getLsbD i && (Int64.toBitVec 63).getLsbD i && (Int64.toBitVec 63).getLsbD i) = _
  cases y.toBitVec.getLsbD i <;> simp
theorem dX11_tell_0 : decode cX11_tell 0 = .ok (.aload_n 0, 1) := by decide +kernel
theorem dX11_tell_1 : decode cX11_tell 1 = .ok (.getfield 203, 3) := by decide +kernel
theorem dX11_tell_4 : decode cX11_tell 4 = .ok (.iconst 1, 1) := by decide +kernel
theorem dX11_tell_5 : decode cX11_tell 5 = .ok (.isub, 1) := by decide +kernel
theorem dX11_tell_6 : decode cX11_tell 6 = .ok (.istore_n 1, 1) := by decide +kernel
theorem dX11_tell_7 : decode cX11_tell 7 = .ok (.aload_n 0, 1) := by decide +kernel
theorem dX11_tell_8 : decode cX11_tell 8 = .ok (.getfield 117, 3) := by decide +kernel
theorem dX11_tell_11 : decode cX11_tell 11 = .ok (.iload_n 1, 1) := by decide +kernel
theorem dX11_tell_12 : decode cX11_tell 12 = .ok (.dup2, 1) := by decide +kernel
theorem dX11_tell_13 : decode cX11_tell 13 = .ok (.laload, 1) := by decide +kernel
theorem dX11_tell_14 : decode cX11_tell 14 = .ok (.aload_n 0, 1) := by decide +kernel
theorem dX11_tell_15 : decode cX11_tell 15 = .ok (.getfield 200, 3) := by decide +kernel
theorem dX11_tell_18 : decode cX11_tell 18 = .ok (.ladd, 1) := by decide +kernel
theorem dX11_tell_19 : decode cX11_tell 19 = .ok (.lastore, 1) := by decide +kernel
theorem dX11_tell_20 : decode cX11_tell 20 = .ok (.aload_n 0, 1) := by decide +kernel
theorem dX11_tell_21 : decode cX11_tell 21 = .ok (.aload_n 0, 1) := by decide +kernel
theorem dX11_tell_22 : decode cX11_tell 22 = .ok (.getfield 196, 3) := by decide +kernel
theorem dX11_tell_25 : decode cX11_tell 25 = .ok (.invokevirtual 221, 3) := by decide +kernel
theorem dX11_tell_28 : decode cX11_tell 28 = .ok (.aload_n 0, 1) := by decide +kernel
theorem dX11_tell_29 : decode cX11_tell 29 = .ok (.aload_n 0, 1) := by decide +kernel
theorem dX11_tell_30 : decode cX11_tell 30 = .ok (.getfield 193, 3) := by decide +kernel
theorem dX11_tell_33 : decode cX11_tell 33 = .ok (.iconst 1, 1) := by decide +kernel
theorem dX11_tell_34 : decode cX11_tell 34 = .ok (.if_icmp .ne 7, 3) := by decide +kernel
theorem dX11_tell_37 : decode cX11_tell 37 = .ok (.lconst 1, 1) := by decide +kernel
theorem dX11_tell_38 : decode cX11_tell 38 = .ok (.goto 4, 3) := by decide +kernel
theorem dX11_tell_41 : decode cX11_tell 41 = .ok (.lconst 0, 1) := by decide +kernel
theorem dX11_tell_42 : decode cX11_tell 42 = .ok (.invokevirtual 221, 3) := by decide +kernel
theorem dX11_tell_45 : decode cX11_tell 45 = .ok (.return_, 1) := by decide +kernel
theorem dX11_simple_0 : decode cX11_simple 0 = .ok (.aload_n 0, 1) := by decide +kernel
theorem dX11_simple_1 : decode cX11_simple 1 = .ok (.getfield 203, 3) := by decide +kernel
theorem dX11_simple_4 : decode cX11_simple 4 = .ok (.iconst 1, 1) := by decide +kernel
theorem dX11_simple_5 : decode cX11_simple 5 = .ok (.isub, 1) := by decide +kernel
theorem dX11_simple_6 : decode cX11_simple 6 = .ok (.istore 4, 2) := by decide +kernel
theorem dX11_simple_8 : decode cX11_simple 8 = .ok (.iload_n 1, 1) := by decide +kernel
theorem dX11_simple_9 : decode cX11_simple 9 = .ok (.tableswitch 138 0 4 #[35, 44, 54, 100, 109], 35) := by decide +kernel
theorem dX11_simple_44 : decode cX11_simple 44 = .ok (.aload_n 0, 1) := by decide +kernel
theorem dX11_simple_45 : decode cX11_simple 45 = .ok (.iconst 1, 1) := by decide +kernel
theorem dX11_simple_46 : decode cX11_simple 46 = .ok (.lconst 0, 1) := by decide +kernel
theorem dX11_simple_47 : decode cX11_simple 47 = .ok (.invokevirtual 231, 3) := by decide +kernel
theorem dX11_simple_50 : decode cX11_simple 50 = .ok (.goto 153, 3) := by decide +kernel
theorem dX11_simple_53 : decode cX11_simple 53 = .ok (.aload_n 0, 1) := by decide +kernel
theorem dX11_simple_54 : decode cX11_simple 54 = .ok (.iload_n 2, 1) := by decide +kernel
theorem dX11_simple_55 : decode cX11_simple 55 = .ok (.i2b, 1) := by decide +kernel
theorem dX11_simple_56 : decode cX11_simple 56 = .ok (.i2l, 1) := by decide +kernel
theorem dX11_simple_57 : decode cX11_simple 57 = .ok (.invokevirtual 221, 3) := by decide +kernel
theorem dX11_simple_60 : decode cX11_simple 60 = .ok (.goto 143, 3) := by decide +kernel
theorem dX11_simple_63 : decode cX11_simple 63 = .ok (.lconst 0, 1) := by decide +kernel
theorem dX11_simple_64 : decode cX11_simple 64 = .ok (.lstore 5, 2) := by decide +kernel
theorem dX11_simple_66 : decode cX11_simple 66 = .ok (.iconst 1, 1) := by decide +kernel
theorem dX11_simple_67 : decode cX11_simple 67 = .ok (.istore 7, 2) := by decide +kernel
theorem dX11_simple_69 : decode cX11_simple 69 = .ok (.iload 7, 2) := by decide +kernel
theorem dX11_simple_71 : decode cX11_simple 71 = .ok (.bipush 8, 2) := by decide +kernel
theorem dX11_simple_73 : decode cX11_simple 73 = .ok (.if_icmp .gt 27, 3) := by decide +kernel
theorem dX11_simple_76 : decode cX11_simple 76 = .ok (.lload 5, 2) := by decide +kernel
theorem dX11_simple_78 : decode cX11_simple 78 = .ok (.bipush 8, 2) := by decide +kernel
theorem dX11_simple_80 : decode cX11_simple 80 = .ok (.lshl, 1) := by decide +kernel
theorem dX11_simple_81 : decode cX11_simple 81 = .ok (.aload_n 0, 1) := by decide +kernel
theorem dX11_simple_82 : decode cX11_simple 82 = .ok (.getfield 7, 3) := by decide +kernel
theorem dX11_simple_85 : decode cX11_simple 85 = .ok (.iload_n 3, 1) := by decide +kernel
theorem dX11_simple_86 : decode cX11_simple 86 = .ok (.iload 7, 2) := by decide +kernel
theorem dX11_simple_88 : decode cX11_simple 88 = .ok (.iadd, 1) := by decide +kernel
theorem dX11_simple_89 : decode cX11_simple 89 = .ok (.iaload, 1) := by decide +kernel
theorem dX11_simple_90 : decode cX11_simple 90 = .ok (.i2l, 1) := by decide +kernel
theorem dX11_simple_91 : decode cX11_simple 91 = .ok (.lor, 1) := by decide +kernel
theorem dX11_simple_92 : decode cX11_simple 92 = .ok (.lstore 5, 2) := by decide +kernel
theorem dX11_simple_94 : decode cX11_simple 94 = .ok (.iinc 7 1, 3) := by decide +kernel
theorem dX11_simple_97 : decode cX11_simple 97 = .ok (.goto (-28), 3) := by decide +kernel
theorem dX11_simple_100 : decode cX11_simple 100 = .ok (.aload_n 0, 1) := by decide +kernel
theorem dX11_simple_101 : decode cX11_simple 101 = .ok (.lload 5, 2) := by decide +kernel
theorem dX11_simple_103 : decode cX11_simple 103 = .ok (.invokevirtual 221, 3) := by decide +kernel
theorem dX11_simple_106 : decode cX11_simple 106 = .ok (.goto 97, 3) := by decide +kernel
theorem dX11_simple_109 : decode cX11_simple 109 = .ok (.aload_n 0, 1) := by decide +kernel
theorem dX11_simple_110 : decode cX11_simple 110 = .ok (.invokevirtual 262, 3) := by decide +kernel
theorem dX11_simple_113 : decode cX11_simple 113 = .ok (.lstore 5, 2) := by decide +kernel
theorem dX11_simple_115 : decode cX11_simple 115 = .ok (.goto 88, 3) := by decide +kernel
theorem dX11_simple_118 : decode cX11_simple 118 = .ok (.aload_n 0, 1) := by decide +kernel
theorem dX11_simple_119 : decode cX11_simple 119 = .ok (.aload_n 0, 1) := by decide +kernel
theorem dX11_simple_120 : decode cX11_simple 120 = .ok (.getfield 138, 3) := by decide +kernel
theorem dX11_simple_123 : decode cX11_simple 123 = .ok (.bipush 24, 2) := by decide +kernel
theorem dX11_simple_125 : decode cX11_simple 125 = .ok (.iload 4, 2) := by decide +kernel
theorem dX11_simple_127 : decode cX11_simple 127 = .ok (.imul, 1) := by decide +kernel
theorem dX11_simple_128 : decode cX11_simple 128 = .ok (.aload_n 0, 1) := by decide +kernel
theorem dX11_simple_129 : decode cX11_simple 129 = .ok (.getfield 141, 3) := by decide +kernel
theorem dX11_simple_132 : decode cX11_simple 132 = .ok (.iload 4, 2) := by decide +kernel
theorem dX11_simple_134 : decode cX11_simple 134 = .ok (.iaload, 1) := by decide +kernel
theorem dX11_simple_135 : decode cX11_simple 135 = .ok (.iadd, 1) := by decide +kernel
theorem dX11_simple_136 : decode cX11_simple 136 = .ok (.iconst 1, 1) := by decide +kernel
theorem dX11_simple_137 : decode cX11_simple 137 = .ok (.isub, 1) := by decide +kernel
theorem dX11_simple_138 : decode cX11_simple 138 = .ok (.iload_n 2, 1) := by decide +kernel
theorem dX11_simple_139 : decode cX11_simple 139 = .ok (.isub, 1) := by decide +kernel
theorem dX11_simple_140 : decode cX11_simple 140 = .ok (.laload, 1) := by decide +kernel
theorem dX11_simple_141 : decode cX11_simple 141 = .ok (.invokevirtual 221, 3) := by decide +kernel
theorem dX11_simple_144 : decode cX11_simple 144 = .ok (.goto 59, 3) := by decide +kernel
theorem dX11_simple_147 : decode cX11_simple 147 = .ok (.bipush 24, 2) := by decide +kernel
theorem dX11_simple_149 : decode cX11_simple 149 = .ok (.iload 4, 2) := by decide +kernel
theorem dX11_simple_151 : decode cX11_simple 151 = .ok (.imul, 1) := by decide +kernel
theorem dX11_simple_152 : decode cX11_simple 152 = .ok (.aload_n 0, 1) := by decide +kernel
theorem dX11_simple_153 : decode cX11_simple 153 = .ok (.getfield 141, 3) := by decide +kernel
theorem dX11_simple_156 : decode cX11_simple 156 = .ok (.iload 4, 2) := by decide +kernel
theorem dX11_simple_158 : decode cX11_simple 158 = .ok (.iaload, 1) := by decide +kernel
theorem dX11_simple_159 : decode cX11_simple 159 = .ok (.iadd, 1) := by decide +kernel
theorem dX11_simple_160 : decode cX11_simple 160 = .ok (.iconst 1, 1) := by decide +kernel
theorem dX11_simple_161 : decode cX11_simple 161 = .ok (.isub, 1) := by decide +kernel
theorem dX11_simple_162 : decode cX11_simple 162 = .ok (.istore 5, 2) := by decide +kernel
theorem dX11_simple_164 : decode cX11_simple 164 = .ok (.aload_n 0, 1) := by decide +kernel
theorem dX11_simple_165 : decode cX11_simple 165 = .ok (.getfield 138, 3) := by decide +kernel
theorem dX11_simple_168 : decode cX11_simple 168 = .ok (.iload 5, 2) := by decide +kernel
theorem dX11_simple_170 : decode cX11_simple 170 = .ok (.laload, 1) := by decide +kernel
theorem dX11_simple_171 : decode cX11_simple 171 = .ok (.lstore 6, 2) := by decide +kernel
theorem dX11_simple_173 : decode cX11_simple 173 = .ok (.aload_n 0, 1) := by decide +kernel
theorem dX11_simple_174 : decode cX11_simple 174 = .ok (.getfield 138, 3) := by decide +kernel
theorem dX11_simple_177 : decode cX11_simple 177 = .ok (.iload 5, 2) := by decide +kernel
theorem dX11_simple_179 : decode cX11_simple 179 = .ok (.aload_n 0, 1) := by decide +kernel
theorem dX11_simple_180 : decode cX11_simple 180 = .ok (.getfield 138, 3) := by decide +kernel
theorem dX11_simple_183 : decode cX11_simple 183 = .ok (.iload 5, 2) := by decide +kernel
theorem dX11_simple_185 : decode cX11_simple 185 = .ok (.iload_n 2, 1) := by decide +kernel
theorem dX11_simple_186 : decode cX11_simple 186 = .ok (.isub, 1) := by decide +kernel
theorem dX11_simple_187 : decode cX11_simple 187 = .ok (.laload, 1) := by decide +kernel
theorem dX11_simple_188 : decode cX11_simple 188 = .ok (.lastore, 1) := by decide +kernel
theorem dX11_simple_189 : decode cX11_simple 189 = .ok (.aload_n 0, 1) := by decide +kernel
theorem dX11_simple_190 : decode cX11_simple 190 = .ok (.getfield 138, 3) := by decide +kernel
theorem dX11_simple_193 : decode cX11_simple 193 = .ok (.iload 5, 2) := by decide +kernel
theorem dX11_simple_195 : decode cX11_simple 195 = .ok (.iload_n 2, 1) := by decide +kernel
theorem dX11_simple_196 : decode cX11_simple 196 = .ok (.isub, 1) := by decide +kernel
theorem dX11_simple_197 : decode cX11_simple 197 = .ok (.lload 6, 2) := by decide +kernel
theorem dX11_simple_199 : decode cX11_simple 199 = .ok (.lastore, 1) := by decide +kernel
theorem dX11_simple_200 : decode cX11_simple 200 = .ok (.goto 3, 3) := by decide +kernel
theorem dX11_simple_203 : decode cX11_simple 203 = .ok (.return_, 1) := by decide +kernel
theorem dX11_reckon_0 : decode cX11_reckon 0 = .ok (.aload_n 0, 1) := by decide +kernel
theorem dX11_reckon_1 : decode cX11_reckon 1 = .ok (.invokevirtual 262, 3) := by decide +kernel
theorem dX11_reckon_4 : decode cX11_reckon 4 = .ok (.lstore_n 2, 1) := by decide +kernel
theorem dX11_reckon_5 : decode cX11_reckon 5 = .ok (.iload_n 1, 1) := by decide +kernel
theorem dX11_reckon_6 : decode cX11_reckon 6 = .ok (.bipush 18, 2) := by decide +kernel
theorem dX11_reckon_8 : decode cX11_reckon 8 = .ok (.if_icmp .ne 19, 3) := by decide +kernel
theorem dX11_reckon_11 : decode cX11_reckon 11 = .ok (.aload_n 0, 1) := by decide +kernel
theorem dX11_reckon_12 : decode cX11_reckon 12 = .ok (.lload_n 2, 1) := by decide +kernel
theorem dX11_reckon_13 : decode cX11_reckon 13 = .ok (.lconst 0, 1) := by decide +kernel
theorem dX11_reckon_14 : decode cX11_reckon 14 = .ok (.lcmp, 1) := by decide +kernel
theorem dX11_reckon_15 : decode cX11_reckon 15 = .ok (.ifCond .ne 7, 3) := by decide +kernel
theorem dX11_reckon_18 : decode cX11_reckon 18 = .ok (.lconst 1, 1) := by decide +kernel
theorem dX11_reckon_19 : decode cX11_reckon 19 = .ok (.goto 4, 3) := by decide +kernel
theorem dX11_reckon_22 : decode cX11_reckon 22 = .ok (.lconst 0, 1) := by decide +kernel
theorem dX11_reckon_23 : decode cX11_reckon 23 = .ok (.invokevirtual 221, 3) := by decide +kernel
theorem dX11_reckon_26 : decode cX11_reckon 26 = .ok (.return_, 1) := by decide +kernel
theorem dX11_reckon_27 : decode cX11_reckon 27 = .ok (.aload_n 0, 1) := by decide +kernel
theorem dX11_reckon_28 : decode cX11_reckon 28 = .ok (.invokevirtual 262, 3) := by decide +kernel
theorem dX11_reckon_31 : decode cX11_reckon 31 = .ok (.lstore 4, 2) := by decide +kernel
theorem dX11_reckon_33 : decode cX11_reckon 33 = .ok (.iload_n 1, 1) := by decide +kernel
theorem dX11_reckon_34 : decode cX11_reckon 34 = .ok (.bipush 9, 2) := by decide +kernel
theorem dX11_reckon_36 : decode cX11_reckon 36 = .ok (.if_icmp .eq 9, 3) := by decide +kernel
theorem dX11_reckon_39 : decode cX11_reckon 39 = .ok (.iload_n 1, 1) := by decide +kernel
theorem dX11_reckon_40 : decode cX11_reckon 40 = .ok (.bipush 10, 2) := by decide +kernel
theorem dX11_reckon_42 : decode cX11_reckon 42 = .ok (.if_icmp .ne 16, 3) := by decide +kernel
theorem dX11_reckon_45 : decode cX11_reckon 45 = .ok (.lload_n 2, 1) := by decide +kernel
theorem dX11_reckon_46 : decode cX11_reckon 46 = .ok (.lconst 0, 1) := by decide +kernel
theorem dX11_reckon_47 : decode cX11_reckon 47 = .ok (.lcmp, 1) := by decide +kernel
theorem dX11_reckon_48 : decode cX11_reckon 48 = .ok (.ifCond .ne 10, 3) := by decide +kernel
theorem dX11_reckon_51 : decode cX11_reckon 51 = .ok (.aload_n 0, 1) := by decide +kernel
theorem dX11_reckon_52 : decode cX11_reckon 52 = .ok (.iconst 3, 1) := by decide +kernel
theorem dX11_reckon_53 : decode cX11_reckon 53 = .ok (.lconst 0, 1) := by decide +kernel
theorem dX11_reckon_54 : decode cX11_reckon 54 = .ok (.invokevirtual 231, 3) := by decide +kernel
theorem dX11_reckon_57 : decode cX11_reckon 57 = .ok (.return_, 1) := by decide +kernel
theorem dX11_reckon_58 : decode cX11_reckon 58 = .ok (.iload_n 1, 1) := by decide +kernel
theorem dX11_reckon_59 : decode cX11_reckon 59 = .ok (.tableswitch 196 6 16 #[57, 68, 79, 90, 101, 112, 123, 134, 145, 161, 177], 57) := by decide +kernel
theorem dX11_reckon_116 : decode cX11_reckon 116 = .ok (.aload_n 0, 1) := by decide +kernel
theorem dX11_reckon_117 : decode cX11_reckon 117 = .ok (.lload 4, 2) := by decide +kernel
theorem dX11_reckon_119 : decode cX11_reckon 119 = .ok (.lload_n 2, 1) := by decide +kernel
theorem dX11_reckon_120 : decode cX11_reckon 120 = .ok (.ladd, 1) := by decide +kernel
theorem dX11_reckon_121 : decode cX11_reckon 121 = .ok (.invokevirtual 221, 3) := by decide +kernel
theorem dX11_reckon_124 : decode cX11_reckon 124 = .ok (.goto 147, 3) := by decide +kernel
theorem dX11_reckon_127 : decode cX11_reckon 127 = .ok (.aload_n 0, 1) := by decide +kernel
theorem dX11_reckon_128 : decode cX11_reckon 128 = .ok (.lload 4, 2) := by decide +kernel
theorem dX11_reckon_130 : decode cX11_reckon 130 = .ok (.lload_n 2, 1) := by decide +kernel
theorem dX11_reckon_131 : decode cX11_reckon 131 = .ok (.lsub, 1) := by decide +kernel
theorem dX11_reckon_132 : decode cX11_reckon 132 = .ok (.invokevirtual 221, 3) := by decide +kernel
theorem dX11_reckon_135 : decode cX11_reckon 135 = .ok (.goto 136, 3) := by decide +kernel
theorem dX11_reckon_138 : decode cX11_reckon 138 = .ok (.aload_n 0, 1) := by decide +kernel
theorem dX11_reckon_139 : decode cX11_reckon 139 = .ok (.lload 4, 2) := by decide +kernel
theorem dX11_reckon_141 : decode cX11_reckon 141 = .ok (.lload_n 2, 1) := by decide +kernel
theorem dX11_reckon_142 : decode cX11_reckon 142 = .ok (.lmul, 1) := by decide +kernel
theorem dX11_reckon_143 : decode cX11_reckon 143 = .ok (.invokevirtual 221, 3) := by decide +kernel
theorem dX11_reckon_146 : decode cX11_reckon 146 = .ok (.goto 125, 3) := by decide +kernel
theorem dX11_reckon_149 : decode cX11_reckon 149 = .ok (.aload_n 0, 1) := by decide +kernel
theorem dX11_reckon_150 : decode cX11_reckon 150 = .ok (.lload 4, 2) := by decide +kernel
theorem dX11_reckon_152 : decode cX11_reckon 152 = .ok (.lload_n 2, 1) := by decide +kernel
theorem dX11_reckon_153 : decode cX11_reckon 153 = .ok (.ldiv, 1) := by decide +kernel
theorem dX11_reckon_154 : decode cX11_reckon 154 = .ok (.invokevirtual 221, 3) := by decide +kernel
theorem dX11_reckon_157 : decode cX11_reckon 157 = .ok (.goto 114, 3) := by decide +kernel
theorem dX11_reckon_160 : decode cX11_reckon 160 = .ok (.aload_n 0, 1) := by decide +kernel
theorem dX11_reckon_161 : decode cX11_reckon 161 = .ok (.lload 4, 2) := by decide +kernel
theorem dX11_reckon_163 : decode cX11_reckon 163 = .ok (.lload_n 2, 1) := by decide +kernel
theorem dX11_reckon_164 : decode cX11_reckon 164 = .ok (.lrem, 1) := by decide +kernel
theorem dX11_reckon_165 : decode cX11_reckon 165 = .ok (.invokevirtual 221, 3) := by decide +kernel
theorem dX11_reckon_168 : decode cX11_reckon 168 = .ok (.goto 103, 3) := by decide +kernel
theorem dX11_reckon_171 : decode cX11_reckon 171 = .ok (.aload_n 0, 1) := by decide +kernel
theorem dX11_reckon_172 : decode cX11_reckon 172 = .ok (.lload 4, 2) := by decide +kernel
theorem dX11_reckon_174 : decode cX11_reckon 174 = .ok (.lload_n 2, 1) := by decide +kernel
theorem dX11_reckon_175 : decode cX11_reckon 175 = .ok (.land, 1) := by decide +kernel
theorem dX11_reckon_176 : decode cX11_reckon 176 = .ok (.invokevirtual 221, 3) := by decide +kernel
theorem dX11_reckon_179 : decode cX11_reckon 179 = .ok (.goto 92, 3) := by decide +kernel
theorem dX11_reckon_182 : decode cX11_reckon 182 = .ok (.aload_n 0, 1) := by decide +kernel
theorem dX11_reckon_183 : decode cX11_reckon 183 = .ok (.lload 4, 2) := by decide +kernel
theorem dX11_reckon_185 : decode cX11_reckon 185 = .ok (.lload_n 2, 1) := by decide +kernel
theorem dX11_reckon_186 : decode cX11_reckon 186 = .ok (.lor, 1) := by decide +kernel
theorem dX11_reckon_187 : decode cX11_reckon 187 = .ok (.invokevirtual 221, 3) := by decide +kernel
theorem dX11_reckon_190 : decode cX11_reckon 190 = .ok (.goto 81, 3) := by decide +kernel
theorem dX11_reckon_193 : decode cX11_reckon 193 = .ok (.aload_n 0, 1) := by decide +kernel
theorem dX11_reckon_194 : decode cX11_reckon 194 = .ok (.lload 4, 2) := by decide +kernel
theorem dX11_reckon_196 : decode cX11_reckon 196 = .ok (.lload_n 2, 1) := by decide +kernel
theorem dX11_reckon_197 : decode cX11_reckon 197 = .ok (.lxor, 1) := by decide +kernel
theorem dX11_reckon_198 : decode cX11_reckon 198 = .ok (.invokevirtual 221, 3) := by decide +kernel
theorem dX11_reckon_201 : decode cX11_reckon 201 = .ok (.goto 70, 3) := by decide +kernel
theorem dX11_reckon_204 : decode cX11_reckon 204 = .ok (.aload_n 0, 1) := by decide +kernel
theorem dX11_reckon_205 : decode cX11_reckon 205 = .ok (.lload 4, 2) := by decide +kernel
theorem dX11_reckon_207 : decode cX11_reckon 207 = .ok (.lload_n 2, 1) := by decide +kernel
theorem dX11_reckon_208 : decode cX11_reckon 208 = .ok (.ldc2_w 266, 3) := by decide +kernel
theorem dX11_reckon_211 : decode cX11_reckon 211 = .ok (.land, 1) := by decide +kernel
theorem dX11_reckon_212 : decode cX11_reckon 212 = .ok (.l2i, 1) := by decide +kernel
theorem dX11_reckon_213 : decode cX11_reckon 213 = .ok (.lshl, 1) := by decide +kernel
theorem dX11_reckon_214 : decode cX11_reckon 214 = .ok (.invokevirtual 221, 3) := by decide +kernel
theorem dX11_reckon_217 : decode cX11_reckon 217 = .ok (.goto 54, 3) := by decide +kernel
theorem dX11_reckon_220 : decode cX11_reckon 220 = .ok (.aload_n 0, 1) := by decide +kernel
theorem dX11_reckon_221 : decode cX11_reckon 221 = .ok (.lload 4, 2) := by decide +kernel
theorem dX11_reckon_223 : decode cX11_reckon 223 = .ok (.lload_n 2, 1) := by decide +kernel
theorem dX11_reckon_224 : decode cX11_reckon 224 = .ok (.ldc2_w 266, 3) := by decide +kernel
theorem dX11_reckon_227 : decode cX11_reckon 227 = .ok (.land, 1) := by decide +kernel
theorem dX11_reckon_228 : decode cX11_reckon 228 = .ok (.l2i, 1) := by decide +kernel
theorem dX11_reckon_229 : decode cX11_reckon 229 = .ok (.lshr, 1) := by decide +kernel
theorem dX11_reckon_230 : decode cX11_reckon 230 = .ok (.invokevirtual 221, 3) := by decide +kernel
theorem dX11_reckon_233 : decode cX11_reckon 233 = .ok (.goto 38, 3) := by decide +kernel
theorem dX11_reckon_236 : decode cX11_reckon 236 = .ok (.aload_n 0, 1) := by decide +kernel
theorem dX11_reckon_237 : decode cX11_reckon 237 = .ok (.lload 4, 2) := by decide +kernel
theorem dX11_reckon_239 : decode cX11_reckon 239 = .ok (.lload_n 2, 1) := by decide +kernel
theorem dX11_reckon_240 : decode cX11_reckon 240 = .ok (.lcmp, 1) := by decide +kernel
theorem dX11_reckon_241 : decode cX11_reckon 241 = .ok (.ifCond .ge 7, 3) := by decide +kernel
theorem dX11_reckon_244 : decode cX11_reckon 244 = .ok (.lconst 1, 1) := by decide +kernel
theorem dX11_reckon_245 : decode cX11_reckon 245 = .ok (.goto 4, 3) := by decide +kernel
theorem dX11_reckon_248 : decode cX11_reckon 248 = .ok (.lconst 0, 1) := by decide +kernel
theorem dX11_reckon_249 : decode cX11_reckon 249 = .ok (.invokevirtual 221, 3) := by decide +kernel
theorem dX11_reckon_252 : decode cX11_reckon 252 = .ok (.goto 19, 3) := by decide +kernel
theorem dX11_reckon_255 : decode cX11_reckon 255 = .ok (.aload_n 0, 1) := by decide +kernel
theorem dX11_reckon_256 : decode cX11_reckon 256 = .ok (.lload 4, 2) := by decide +kernel
theorem dX11_reckon_258 : decode cX11_reckon 258 = .ok (.lload_n 2, 1) := by decide +kernel
theorem dX11_reckon_259 : decode cX11_reckon 259 = .ok (.lcmp, 1) := by decide +kernel
theorem dX11_reckon_260 : decode cX11_reckon 260 = .ok (.ifCond .ne 7, 3) := by decide +kernel
theorem dX11_reckon_263 : decode cX11_reckon 263 = .ok (.lconst 1, 1) := by decide +kernel
theorem dX11_reckon_264 : decode cX11_reckon 264 = .ok (.goto 4, 3) := by decide +kernel
theorem dX11_reckon_267 : decode cX11_reckon 267 = .ok (.lconst 0, 1) := by decide +kernel
theorem dX11_reckon_268 : decode cX11_reckon 268 = .ok (.invokevirtual 221, 3) := by decide +kernel
theorem dX11_reckon_271 : decode cX11_reckon 271 = .ok (.return_, 1) := by decide +kernel
theorem cr_tell1 {G : rx_E} {d : Nat} {C : rx_M} {S0 S : gs_T} {g : vg_T} {n : Nat → Int64} {e : List (Nat × Int64 × Int64)} {b m c a q s k : Nat} {v r : Int64} {l o : Bool} {t : List Int64} {w : (Nat → Int64) × Nat × Nat} {fs : List vf_T} (hG : rx_OK G) (hp : fs.length < 11) (ht : t.length ≤ 22) {u : Nat} {x : Int64} (hx : S.2 52 59 = x) (hu : S.2 52 60 = lN u) (hY : rm_Y S0 S g (n, e, b, ((c, a, q, s, k), (v, r), (l, o), t, w) :: fs, m) 1) : rx_C G MX11_tell (d + 1) [.ref 52] (gl C S) 0 0 (rq_Y C S0 g (n, e, b, ((c, a, q + u, s, k), (v, r), (l, o), ((1) :: x :: t), w) :: fs, m) 1 none) := by
  refine rx_meth0 (by decide +kernel) rfl (Nat.le_of_ble_eq_true rfl) ?_
  refine rx_aload_n dX11_tell_0 rfl rfl ?_
  refine gmv_getI (v := nI (fs.length + 1)) hG hf_RX11_203 rfl dX11_tell_1 rfl rfl rfl (rY_dep hY) ?_
  refine rx_iconst (v := nI 1) dX11_tell_4 rfl ?_
  refine rx_isub dX11_tell_5 ?_
  refine rx_ti (y := nI fs.length) ((pk_sub (by omega)).trans (congrArg nI (by omega))) ?_
  refine rx_istore_n dX11_tell_6 (by decide) ?_
  refine rx_aload_n dX11_tell_7 rfl rfl ?_
  refine g_getR hG hf_RX11_117 rfl dX11_tell_8 rfl rfl rfl ?_
  refine rx_iload_n dX11_tell_11 rfl ?_
  refine rx_dup2 dX11_tell_12 rfl rfl ?_
  refine gmv_lald (j := fs.length) (v := lN q) hG dX11_tell_13 rfl rfl rfl rfl (by omega) (by decide) (rY_gas hY) ?_
  refine rx_aload_n dX11_tell_14 rfl rfl ?_
  refine gmv_getL (v := lN u) hG hf_RX11_200 rfl dX11_tell_15 rfl rfl rfl hu ?_
  refine rx_ladd dX11_tell_18 ?_
  refine rx_tl (y := lN (q + u)) ((lN_add _ _).trans (congrArg lN (by omega))) ?_
  refine gm_last (j := fs.length) hG dX11_tell_19 rfl rfl rfl rfl (by omega) (by decide) ?_
  refine rY_abx (rY_setGas hY (q + u)) (x := x) (by simpa [rx_ru] using hx) (fun _ hY1 hx => ?_)
  refine rx_aload_n dX11_tell_20 rfl rfl ?_
  refine rx_aload_n dX11_tell_21 rfl rfl ?_
  refine gmv_getL (v := x) hG hf_RX11_196 rfl dX11_tell_22 rfl rfl rfl hx ?_
  refine gv_invV (as := [.long _]) hG okX11_push lk_RX11_221 rfl rfl dX11_tell_25 rfl (by simp [Value.category]) (cr_push hG hY1 (by omega) (by (try simp only [List.length_cons, List.length_nil]); omega) _) ?_
  rintro _ _ ⟨rfl, _, rfl, hY2⟩
  refine rx_aload_n dX11_tell_28 rfl rfl ?_
  refine rx_aload_n dX11_tell_29 rfl rfl ?_
  refine gmv_getI (v := nI 1) hG hf_RX11_193 rfl dX11_tell_30 rfl rfl rfl (rY_end hY2) ?_
  refine rx_iconst (v := nI 1) dX11_tell_33 rfl ?_
  refine rx_icmp_ne (tgt := 41) dX11_tell_34 (by decide) (fun h34 => (absurd h34 (by decide))) (fun h34 => ?_)
  refine rx_lconst (v := lN 1) dX11_tell_37 rfl ?_
  refine rx_goto (tgt := 42) dX11_tell_38 (by decide) ?_
  refine gv_invV (as := [.long _]) hG okX11_push lk_RX11_221 rfl rfl dX11_tell_42 rfl (by simp [Value.category]) (cr_push hG hY2 (by omega) (by (try simp only [List.length_cons, List.length_nil]); omega) _) ?_
  rintro _ _ ⟨rfl, _, rfl, hY3⟩
  exact rx_vret rfl dX11_tell_45 ⟨rfl, _, rfl, hY3⟩
theorem cr_tell2 {G : rx_E} {d : Nat} {C : rx_M} {S0 S : gs_T} {g : vg_T} {n : Nat → Int64} {e : List (Nat × Int64 × Int64)} {b m c a q s k : Nat} {v r : Int64} {l o : Bool} {t : List Int64} {w : (Nat → Int64) × Nat × Nat} {fs : List vf_T} (hG : rx_OK G) (hp : fs.length < 11) (ht : t.length ≤ 22) {u : Nat} {x : Int64} (hx : S.2 52 59 = x) (hu : S.2 52 60 = lN u) (hY : rm_Y S0 S g (n, e, b, ((c, a, q, s, k), (v, r), (l, o), t, w) :: fs, m) 2) : rx_C G MX11_tell (d + 1) [.ref 52] (gl C S) 0 0 (rq_Y C S0 g (n, e, b, ((c, a, q + u, s, k), (v, r), (l, o), ((0) :: x :: t), w) :: fs, m) 2 none) := by
  refine rx_meth0 (by decide +kernel) rfl (Nat.le_of_ble_eq_true rfl) ?_
  refine rx_aload_n dX11_tell_0 rfl rfl ?_
  refine gmv_getI (v := nI (fs.length + 1)) hG hf_RX11_203 rfl dX11_tell_1 rfl rfl rfl (rY_dep hY) ?_
  refine rx_iconst (v := nI 1) dX11_tell_4 rfl ?_
  refine rx_isub dX11_tell_5 ?_
  refine rx_ti (y := nI fs.length) ((pk_sub (by omega)).trans (congrArg nI (by omega))) ?_
  refine rx_istore_n dX11_tell_6 (by decide) ?_
  refine rx_aload_n dX11_tell_7 rfl rfl ?_
  refine g_getR hG hf_RX11_117 rfl dX11_tell_8 rfl rfl rfl ?_
  refine rx_iload_n dX11_tell_11 rfl ?_
  refine rx_dup2 dX11_tell_12 rfl rfl ?_
  refine gmv_lald (j := fs.length) (v := lN q) hG dX11_tell_13 rfl rfl rfl rfl (by omega) (by decide) (rY_gas hY) ?_
  refine rx_aload_n dX11_tell_14 rfl rfl ?_
  refine gmv_getL (v := lN u) hG hf_RX11_200 rfl dX11_tell_15 rfl rfl rfl hu ?_
  refine rx_ladd dX11_tell_18 ?_
  refine rx_tl (y := lN (q + u)) ((lN_add _ _).trans (congrArg lN (by omega))) ?_
  refine gm_last (j := fs.length) hG dX11_tell_19 rfl rfl rfl rfl (by omega) (by decide) ?_
  refine rY_abx (rY_setGas hY (q + u)) (x := x) (by simpa [rx_ru] using hx) (fun _ hY1 hx => ?_)
  refine rx_aload_n dX11_tell_20 rfl rfl ?_
  refine rx_aload_n dX11_tell_21 rfl rfl ?_
  refine gmv_getL (v := x) hG hf_RX11_196 rfl dX11_tell_22 rfl rfl rfl hx ?_
  refine gv_invV (as := [.long _]) hG okX11_push lk_RX11_221 rfl rfl dX11_tell_25 rfl (by simp [Value.category]) (cr_push hG hY1 (by omega) (by (try simp only [List.length_cons, List.length_nil]); omega) _) ?_
  rintro _ _ ⟨rfl, _, rfl, hY2⟩
  refine rx_aload_n dX11_tell_28 rfl rfl ?_
  refine rx_aload_n dX11_tell_29 rfl rfl ?_
  refine gmv_getI (v := nI 2) hG hf_RX11_193 rfl dX11_tell_30 rfl rfl rfl (rY_end hY2) ?_
  refine rx_iconst (v := nI 1) dX11_tell_33 rfl ?_
  refine rx_icmp_ne (tgt := 41) dX11_tell_34 (by decide) (fun h34 => ?_) (fun h34 => (absurd h34 (by decide))) 
  refine rx_lconst (v := lN 0) dX11_tell_41 rfl ?_
  refine gv_invV (as := [.long _]) hG okX11_push lk_RX11_221 rfl rfl dX11_tell_42 rfl (by simp [Value.category]) (cr_push hG hY2 (by omega) (by (try simp only [List.length_cons, List.length_nil]); omega) _) ?_
  rintro _ _ ⟨rfl, _, rfl, hY3⟩
  exact rx_vret rfl dX11_tell_45 ⟨rfl, _, rfl, hY3⟩
theorem cr_tell3 {G : rx_E} {d : Nat} {C : rx_M} {S0 S : gs_T} {g : vg_T} {n : Nat → Int64} {e : List (Nat × Int64 × Int64)} {b m c a q s k : Nat} {v r : Int64} {l o : Bool} {t : List Int64} {w : (Nat → Int64) × Nat × Nat} {fs : List vf_T} (hG : rx_OK G) (hp : fs.length < 11) (ht : t.length ≤ 22) {u : Nat} {x : Int64} (hx : S.2 52 59 = x) (hu : S.2 52 60 = lN u) (hY : rm_Y S0 S g (n, e, b, ((c, a, q, s, k), (v, r), (l, o), t, w) :: fs, m) 3) : rx_C G MX11_tell (d + 1) [.ref 52] (gl C S) 0 0 (rq_Y C S0 g (n, e, b, ((c, a, q + u, s, k), (v, r), (l, o), ((0) :: x :: t), w) :: fs, m) 3 none) := by
  refine rx_meth0 (by decide +kernel) rfl (Nat.le_of_ble_eq_true rfl) ?_
  refine rx_aload_n dX11_tell_0 rfl rfl ?_
  refine gmv_getI (v := nI (fs.length + 1)) hG hf_RX11_203 rfl dX11_tell_1 rfl rfl rfl (rY_dep hY) ?_
  refine rx_iconst (v := nI 1) dX11_tell_4 rfl ?_
  refine rx_isub dX11_tell_5 ?_
  refine rx_ti (y := nI fs.length) ((pk_sub (by omega)).trans (congrArg nI (by omega))) ?_
  refine rx_istore_n dX11_tell_6 (by decide) ?_
  refine rx_aload_n dX11_tell_7 rfl rfl ?_
  refine g_getR hG hf_RX11_117 rfl dX11_tell_8 rfl rfl rfl ?_
  refine rx_iload_n dX11_tell_11 rfl ?_
  refine rx_dup2 dX11_tell_12 rfl rfl ?_
  refine gmv_lald (j := fs.length) (v := lN q) hG dX11_tell_13 rfl rfl rfl rfl (by omega) (by decide) (rY_gas hY) ?_
  refine rx_aload_n dX11_tell_14 rfl rfl ?_
  refine gmv_getL (v := lN u) hG hf_RX11_200 rfl dX11_tell_15 rfl rfl rfl hu ?_
  refine rx_ladd dX11_tell_18 ?_
  refine rx_tl (y := lN (q + u)) ((lN_add _ _).trans (congrArg lN (by omega))) ?_
  refine gm_last (j := fs.length) hG dX11_tell_19 rfl rfl rfl rfl (by omega) (by decide) ?_
  refine rY_abx (rY_setGas hY (q + u)) (x := x) (by simpa [rx_ru] using hx) (fun _ hY1 hx => ?_)
  refine rx_aload_n dX11_tell_20 rfl rfl ?_
  refine rx_aload_n dX11_tell_21 rfl rfl ?_
  refine gmv_getL (v := x) hG hf_RX11_196 rfl dX11_tell_22 rfl rfl rfl hx ?_
  refine gv_invV (as := [.long _]) hG okX11_push lk_RX11_221 rfl rfl dX11_tell_25 rfl (by simp [Value.category]) (cr_push hG hY1 (by omega) (by (try simp only [List.length_cons, List.length_nil]); omega) _) ?_
  rintro _ _ ⟨rfl, _, rfl, hY2⟩
  refine rx_aload_n dX11_tell_28 rfl rfl ?_
  refine rx_aload_n dX11_tell_29 rfl rfl ?_
  refine gmv_getI (v := nI 3) hG hf_RX11_193 rfl dX11_tell_30 rfl rfl rfl (rY_end hY2) ?_
  refine rx_iconst (v := nI 1) dX11_tell_33 rfl ?_
  refine rx_icmp_ne (tgt := 41) dX11_tell_34 (by decide) (fun h34 => ?_) (fun h34 => (absurd h34 (by decide))) 
  refine rx_lconst (v := lN 0) dX11_tell_41 rfl ?_
  refine gv_invV (as := [.long _]) hG okX11_push lk_RX11_221 rfl rfl dX11_tell_42 rfl (by simp [Value.category]) (cr_push hG hY2 (by omega) (by (try simp only [List.length_cons, List.length_nil]); omega) _) ?_
  rintro _ _ ⟨rfl, _, rfl, hY3⟩
  exact rx_vret rfl dX11_tell_45 ⟨rfl, _, rfl, hY3⟩
theorem cr_reckon {G : rx_E} {d : Nat} {C : rx_M} {S0 S : gs_T} {g : vg_T} {n : Nat → Int64} {e : List (Nat × Int64 × Int64)} {b m c a q s k : Nat} {v r : Int64} {l o : Bool} {t : List Int64} {w : (Nat → Int64) × Nat × Nat} {fs : List vf_T} (hG : rx_OK G) {op : Nat} {x y : Int64} (h6 : 6 ≤ op) (h17 : op ≤ 17) (hp : fs.length < 11) (hw : w.2.1 ≤ e.length) (hlow : vw_low fs) (hY : rm_Y S0 S g (n, e, b, ((c, a, q, s, k), (v, r), (l, o), (y :: (x :: t)), w) :: fs, m) 0) : rx_C G MX11_reckon (d + 2) [.ref 52, .int (nI op)] (gl C S) 0 0 (rq_on C S0 g (vm_do2 (n, e, b, ((c, a, q, s, k), (v, r), (l, o), (y :: (x :: t)), w) :: fs, m) op ((c, a, q, s, k), (v, r), (l, o), (y :: (x :: t)), w) fs)) := by
  refine rx_meth0 (by decide +kernel) rfl (Nat.le_of_ble_eq_true rfl) ?_
  have ht : t.length + 2 ≤ 24 := rY_n hY
  have hc : op = 6 ∨ op = 7 ∨ op = 8 ∨ op = 9 ∨ op = 10 ∨ op = 11 ∨ op = 12 ∨ op = 13 ∨ op = 14 ∨ op = 15 ∨ op = 16 ∨ op = 17 := by omega
  rcases hc with rfl | rfl | rfl | rfl | rfl | rfl | rfl | rfl | rfl | rfl | rfl | rfl
  · refine rx_aload_n dX11_reckon_0 rfl rfl ?_
    refine gv_invV (as := []) hG okX11_pop lk_RX11_262 rfl rfl dX11_reckon_1 rfl (by simp [Value.category]) (cr_pop hG hY (by omega)) ?_
    rintro _ _ ⟨rfl, _, rfl, hY1⟩
    refine rx_lstore_n dX11_reckon_4 (by decide) ?_
    refine rx_iload_n dX11_reckon_5 rfl ?_
    refine rx_bipush (v := nI 18) dX11_reckon_6 rfl ?_
    refine rx_icmp_ne (tgt := 27) dX11_reckon_8 (by decide) (fun h8 => ?_) (fun h8 => (absurd h8 (by decide))) 
    refine rx_aload_n dX11_reckon_27 rfl rfl ?_
    refine gv_invV (as := []) hG okX11_pop lk_RX11_262 rfl rfl dX11_reckon_28 rfl (by simp [Value.category]) (cr_pop hG hY1 (by omega)) ?_
    rintro _ _ ⟨rfl, _, rfl, hY2⟩
    refine rx_lstore dX11_reckon_31 (by decide) ?_
    refine rx_iload_n dX11_reckon_33 rfl ?_
    refine rx_bipush (v := nI 9) dX11_reckon_34 rfl ?_
    refine rx_icmp_eq (tgt := 45) dX11_reckon_36 (by decide) (fun h36 => (absurd h36 (by decide))) (fun h36 => ?_)
    refine rx_iload_n dX11_reckon_39 rfl ?_
    refine rx_bipush (v := nI 10) dX11_reckon_40 rfl ?_
    refine rx_icmp_ne (tgt := 58) dX11_reckon_42 (by decide) (fun h42 => ?_) (fun h42 => (absurd h42 (by decide))) 
    refine rx_iload_n dX11_reckon_58 rfl ?_
    refine rx_tabIn (tgt := 116) dX11_reckon_59 (by decide) (by decide) rfl (by decide) ?_
    refine rx_aload_n dX11_reckon_116 rfl rfl ?_
    refine rx_lload dX11_reckon_117 rfl ?_
    refine rx_lload_n dX11_reckon_119 rfl ?_
    refine rx_ladd dX11_reckon_120 ?_
    refine gv_invV (as := [.long _]) hG okX11_push lk_RX11_221 rfl rfl dX11_reckon_121 rfl (by simp [Value.category]) (cr_push hG hY2 (by omega) (by (try simp only [List.length_cons, List.length_nil]); omega) _) ?_
    rintro _ _ ⟨rfl, _, rfl, hY3⟩
    refine rx_goto (tgt := 271) dX11_reckon_124 (by decide) ?_
    exact rx_vret rfl dX11_reckon_271 ⟨rfl, _, rfl, Or.inl ⟨_, (if_neg (by decide)).trans ((if_neg (fun h => absurd h.1 (by decide))).trans rfl), hY3⟩⟩
  · refine rx_aload_n dX11_reckon_0 rfl rfl ?_
    refine gv_invV (as := []) hG okX11_pop lk_RX11_262 rfl rfl dX11_reckon_1 rfl (by simp [Value.category]) (cr_pop hG hY (by omega)) ?_
    rintro _ _ ⟨rfl, _, rfl, hY1⟩
    refine rx_lstore_n dX11_reckon_4 (by decide) ?_
    refine rx_iload_n dX11_reckon_5 rfl ?_
    refine rx_bipush (v := nI 18) dX11_reckon_6 rfl ?_
    refine rx_icmp_ne (tgt := 27) dX11_reckon_8 (by decide) (fun h8 => ?_) (fun h8 => (absurd h8 (by decide))) 
    refine rx_aload_n dX11_reckon_27 rfl rfl ?_
    refine gv_invV (as := []) hG okX11_pop lk_RX11_262 rfl rfl dX11_reckon_28 rfl (by simp [Value.category]) (cr_pop hG hY1 (by omega)) ?_
    rintro _ _ ⟨rfl, _, rfl, hY2⟩
    refine rx_lstore dX11_reckon_31 (by decide) ?_
    refine rx_iload_n dX11_reckon_33 rfl ?_
    refine rx_bipush (v := nI 9) dX11_reckon_34 rfl ?_
    refine rx_icmp_eq (tgt := 45) dX11_reckon_36 (by decide) (fun h36 => (absurd h36 (by decide))) (fun h36 => ?_)
    refine rx_iload_n dX11_reckon_39 rfl ?_
    refine rx_bipush (v := nI 10) dX11_reckon_40 rfl ?_
    refine rx_icmp_ne (tgt := 58) dX11_reckon_42 (by decide) (fun h42 => ?_) (fun h42 => (absurd h42 (by decide))) 
    refine rx_iload_n dX11_reckon_58 rfl ?_
    refine rx_tabIn (tgt := 127) dX11_reckon_59 (by decide) (by decide) rfl (by decide) ?_
    refine rx_aload_n dX11_reckon_127 rfl rfl ?_
    refine rx_lload dX11_reckon_128 rfl ?_
    refine rx_lload_n dX11_reckon_130 rfl ?_
    refine rx_lsub dX11_reckon_131 ?_
    refine gv_invV (as := [.long _]) hG okX11_push lk_RX11_221 rfl rfl dX11_reckon_132 rfl (by simp [Value.category]) (cr_push hG hY2 (by omega) (by (try simp only [List.length_cons, List.length_nil]); omega) _) ?_
    rintro _ _ ⟨rfl, _, rfl, hY3⟩
    refine rx_goto (tgt := 271) dX11_reckon_135 (by decide) ?_
    exact rx_vret rfl dX11_reckon_271 ⟨rfl, _, rfl, Or.inl ⟨_, (if_neg (by decide)).trans ((if_neg (fun h => absurd h.1 (by decide))).trans rfl), hY3⟩⟩
  · refine rx_aload_n dX11_reckon_0 rfl rfl ?_
    refine gv_invV (as := []) hG okX11_pop lk_RX11_262 rfl rfl dX11_reckon_1 rfl (by simp [Value.category]) (cr_pop hG hY (by omega)) ?_
    rintro _ _ ⟨rfl, _, rfl, hY1⟩
    refine rx_lstore_n dX11_reckon_4 (by decide) ?_
    refine rx_iload_n dX11_reckon_5 rfl ?_
    refine rx_bipush (v := nI 18) dX11_reckon_6 rfl ?_
    refine rx_icmp_ne (tgt := 27) dX11_reckon_8 (by decide) (fun h8 => ?_) (fun h8 => (absurd h8 (by decide))) 
    refine rx_aload_n dX11_reckon_27 rfl rfl ?_
    refine gv_invV (as := []) hG okX11_pop lk_RX11_262 rfl rfl dX11_reckon_28 rfl (by simp [Value.category]) (cr_pop hG hY1 (by omega)) ?_
    rintro _ _ ⟨rfl, _, rfl, hY2⟩
    refine rx_lstore dX11_reckon_31 (by decide) ?_
    refine rx_iload_n dX11_reckon_33 rfl ?_
    refine rx_bipush (v := nI 9) dX11_reckon_34 rfl ?_
    refine rx_icmp_eq (tgt := 45) dX11_reckon_36 (by decide) (fun h36 => (absurd h36 (by decide))) (fun h36 => ?_)
    refine rx_iload_n dX11_reckon_39 rfl ?_
    refine rx_bipush (v := nI 10) dX11_reckon_40 rfl ?_
    refine rx_icmp_ne (tgt := 58) dX11_reckon_42 (by decide) (fun h42 => ?_) (fun h42 => (absurd h42 (by decide))) 
    refine rx_iload_n dX11_reckon_58 rfl ?_
    refine rx_tabIn (tgt := 138) dX11_reckon_59 (by decide) (by decide) rfl (by decide) ?_
    refine rx_aload_n dX11_reckon_138 rfl rfl ?_
    refine rx_lload dX11_reckon_139 rfl ?_
    refine rx_lload_n dX11_reckon_141 rfl ?_
    refine rx_lmul dX11_reckon_142 ?_
    refine gv_invV (as := [.long _]) hG okX11_push lk_RX11_221 rfl rfl dX11_reckon_143 rfl (by simp [Value.category]) (cr_push hG hY2 (by omega) (by (try simp only [List.length_cons, List.length_nil]); omega) _) ?_
    rintro _ _ ⟨rfl, _, rfl, hY3⟩
    refine rx_goto (tgt := 271) dX11_reckon_146 (by decide) ?_
    exact rx_vret rfl dX11_reckon_271 ⟨rfl, _, rfl, Or.inl ⟨_, (if_neg (by decide)).trans ((if_neg (fun h => absurd h.1 (by decide))).trans rfl), hY3⟩⟩
  · refine rx_aload_n dX11_reckon_0 rfl rfl ?_
    refine gv_invV (as := []) hG okX11_pop lk_RX11_262 rfl rfl dX11_reckon_1 rfl (by simp [Value.category]) (cr_pop hG hY (by omega)) ?_
    rintro _ _ ⟨rfl, _, rfl, hY1⟩
    refine rx_lstore_n dX11_reckon_4 (by decide) ?_
    refine rx_iload_n dX11_reckon_5 rfl ?_
    refine rx_bipush (v := nI 18) dX11_reckon_6 rfl ?_
    refine rx_icmp_ne (tgt := 27) dX11_reckon_8 (by decide) (fun h8 => ?_) (fun h8 => (absurd h8 (by decide))) 
    refine rx_aload_n dX11_reckon_27 rfl rfl ?_
    refine gv_invV (as := []) hG okX11_pop lk_RX11_262 rfl rfl dX11_reckon_28 rfl (by simp [Value.category]) (cr_pop hG hY1 (by omega)) ?_
    rintro _ _ ⟨rfl, _, rfl, hY2⟩
    refine rx_lstore dX11_reckon_31 (by decide) ?_
    refine rx_iload_n dX11_reckon_33 rfl ?_
    refine rx_bipush (v := nI 9) dX11_reckon_34 rfl ?_
    refine rx_icmp_eq (tgt := 45) dX11_reckon_36 (by decide) (fun h36 => ?_) (fun h36 => (absurd h36 (by decide))) 
    refine rx_lload_n dX11_reckon_45 rfl ?_
    refine rx_lconst (v := lN 0) dX11_reckon_46 rfl ?_
    refine rx_lc_ne (tgt := 58) dX11_reckon_47 dX11_reckon_48 (by decide) (fun h47 => ?_) (fun h47 => ?_)
    · refine rx_iload_n dX11_reckon_58 rfl ?_
      refine rx_tabIn (tgt := 149) dX11_reckon_59 (by decide) (by decide) rfl (by decide) ?_
      refine rx_aload_n dX11_reckon_149 rfl rfl ?_
      refine rx_lload dX11_reckon_150 rfl ?_
      refine rx_lload_n dX11_reckon_152 rfl ?_
      refine rx_ldiv dX11_reckon_153 h47 ?_
      refine gv_invV (as := [.long _]) hG okX11_push lk_RX11_221 rfl rfl dX11_reckon_154 rfl (by simp [Value.category]) (cr_push hG hY2 (by omega) (by (try simp only [List.length_cons, List.length_nil]); omega) _) ?_
      rintro _ _ ⟨rfl, _, rfl, hY3⟩
      refine rx_goto (tgt := 271) dX11_reckon_157 (by decide) ?_
      exact rx_vret rfl dX11_reckon_271 ⟨rfl, _, rfl, Or.inl ⟨_, (if_neg (by decide)).trans ((if_neg (fun h => h47 h.2)).trans rfl), hY3⟩⟩
    · refine rx_aload_n dX11_reckon_51 rfl rfl ?_
      refine rx_iconst (v := nI 3) dX11_reckon_52 rfl ?_
      refine rx_lconst (v := lN 0) dX11_reckon_53 rfl ?_
      refine gv_invV (as := [.int _, .long _]) hG okX11_finish lk_RX11_231 rfl rfl dX11_reckon_54 rfl (by simp [Value.category]) (cr_fin3 hG hY2 (by omega) hlow hw _) ?_
      rintro _ _ ⟨rfl, _, rfl, hF⟩
      exact rx_vret rfl dX11_reckon_57 ⟨rfl, _, rfl, rm_onE ((if_neg (by decide)).trans (if_pos ⟨by decide, h47⟩)) hF⟩
  · refine rx_aload_n dX11_reckon_0 rfl rfl ?_
    refine gv_invV (as := []) hG okX11_pop lk_RX11_262 rfl rfl dX11_reckon_1 rfl (by simp [Value.category]) (cr_pop hG hY (by omega)) ?_
    rintro _ _ ⟨rfl, _, rfl, hY1⟩
    refine rx_lstore_n dX11_reckon_4 (by decide) ?_
    refine rx_iload_n dX11_reckon_5 rfl ?_
    refine rx_bipush (v := nI 18) dX11_reckon_6 rfl ?_
    refine rx_icmp_ne (tgt := 27) dX11_reckon_8 (by decide) (fun h8 => ?_) (fun h8 => (absurd h8 (by decide))) 
    refine rx_aload_n dX11_reckon_27 rfl rfl ?_
    refine gv_invV (as := []) hG okX11_pop lk_RX11_262 rfl rfl dX11_reckon_28 rfl (by simp [Value.category]) (cr_pop hG hY1 (by omega)) ?_
    rintro _ _ ⟨rfl, _, rfl, hY2⟩
    refine rx_lstore dX11_reckon_31 (by decide) ?_
    refine rx_iload_n dX11_reckon_33 rfl ?_
    refine rx_bipush (v := nI 9) dX11_reckon_34 rfl ?_
    refine rx_icmp_eq (tgt := 45) dX11_reckon_36 (by decide) (fun h36 => (absurd h36 (by decide))) (fun h36 => ?_)
    refine rx_iload_n dX11_reckon_39 rfl ?_
    refine rx_bipush (v := nI 10) dX11_reckon_40 rfl ?_
    refine rx_icmp_ne (tgt := 58) dX11_reckon_42 (by decide) (fun h42 => (absurd h42 (by decide))) (fun h42 => ?_)
    refine rx_lload_n dX11_reckon_45 rfl ?_
    refine rx_lconst (v := lN 0) dX11_reckon_46 rfl ?_
    refine rx_lc_ne (tgt := 58) dX11_reckon_47 dX11_reckon_48 (by decide) (fun h47 => ?_) (fun h47 => ?_)
    · refine rx_iload_n dX11_reckon_58 rfl ?_
      refine rx_tabIn (tgt := 160) dX11_reckon_59 (by decide) (by decide) rfl (by decide) ?_
      refine rx_aload_n dX11_reckon_160 rfl rfl ?_
      refine rx_lload dX11_reckon_161 rfl ?_
      refine rx_lload_n dX11_reckon_163 rfl ?_
      refine rx_lrem dX11_reckon_164 h47 ?_
      refine gv_invV (as := [.long _]) hG okX11_push lk_RX11_221 rfl rfl dX11_reckon_165 rfl (by simp [Value.category]) (cr_push hG hY2 (by omega) (by (try simp only [List.length_cons, List.length_nil]); omega) _) ?_
      rintro _ _ ⟨rfl, _, rfl, hY3⟩
      refine rx_goto (tgt := 271) dX11_reckon_168 (by decide) ?_
      exact rx_vret rfl dX11_reckon_271 ⟨rfl, _, rfl, Or.inl ⟨_, (if_neg (by decide)).trans ((if_neg (fun h => h47 h.2)).trans rfl), hY3⟩⟩
    · refine rx_aload_n dX11_reckon_51 rfl rfl ?_
      refine rx_iconst (v := nI 3) dX11_reckon_52 rfl ?_
      refine rx_lconst (v := lN 0) dX11_reckon_53 rfl ?_
      refine gv_invV (as := [.int _, .long _]) hG okX11_finish lk_RX11_231 rfl rfl dX11_reckon_54 rfl (by simp [Value.category]) (cr_fin3 hG hY2 (by omega) hlow hw _) ?_
      rintro _ _ ⟨rfl, _, rfl, hF⟩
      exact rx_vret rfl dX11_reckon_57 ⟨rfl, _, rfl, rm_onE ((if_neg (by decide)).trans (if_pos ⟨by decide, h47⟩)) hF⟩
  · refine rx_aload_n dX11_reckon_0 rfl rfl ?_
    refine gv_invV (as := []) hG okX11_pop lk_RX11_262 rfl rfl dX11_reckon_1 rfl (by simp [Value.category]) (cr_pop hG hY (by omega)) ?_
    rintro _ _ ⟨rfl, _, rfl, hY1⟩
    refine rx_lstore_n dX11_reckon_4 (by decide) ?_
    refine rx_iload_n dX11_reckon_5 rfl ?_
    refine rx_bipush (v := nI 18) dX11_reckon_6 rfl ?_
    refine rx_icmp_ne (tgt := 27) dX11_reckon_8 (by decide) (fun h8 => ?_) (fun h8 => (absurd h8 (by decide))) 
    refine rx_aload_n dX11_reckon_27 rfl rfl ?_
    refine gv_invV (as := []) hG okX11_pop lk_RX11_262 rfl rfl dX11_reckon_28 rfl (by simp [Value.category]) (cr_pop hG hY1 (by omega)) ?_
    rintro _ _ ⟨rfl, _, rfl, hY2⟩
    refine rx_lstore dX11_reckon_31 (by decide) ?_
    refine rx_iload_n dX11_reckon_33 rfl ?_
    refine rx_bipush (v := nI 9) dX11_reckon_34 rfl ?_
    refine rx_icmp_eq (tgt := 45) dX11_reckon_36 (by decide) (fun h36 => (absurd h36 (by decide))) (fun h36 => ?_)
    refine rx_iload_n dX11_reckon_39 rfl ?_
    refine rx_bipush (v := nI 10) dX11_reckon_40 rfl ?_
    refine rx_icmp_ne (tgt := 58) dX11_reckon_42 (by decide) (fun h42 => ?_) (fun h42 => (absurd h42 (by decide))) 
    refine rx_iload_n dX11_reckon_58 rfl ?_
    refine rx_tabIn (tgt := 171) dX11_reckon_59 (by decide) (by decide) rfl (by decide) ?_
    refine rx_aload_n dX11_reckon_171 rfl rfl ?_
    refine rx_lload dX11_reckon_172 rfl ?_
    refine rx_lload_n dX11_reckon_174 rfl ?_
    refine rx_land dX11_reckon_175 ?_
    refine gv_invV (as := [.long _]) hG okX11_push lk_RX11_221 rfl rfl dX11_reckon_176 rfl (by simp [Value.category]) (cr_push hG hY2 (by omega) (by (try simp only [List.length_cons, List.length_nil]); omega) _) ?_
    rintro _ _ ⟨rfl, _, rfl, hY3⟩
    refine rx_goto (tgt := 271) dX11_reckon_179 (by decide) ?_
    exact rx_vret rfl dX11_reckon_271 ⟨rfl, _, rfl, Or.inl ⟨_, (if_neg (by decide)).trans ((if_neg (fun h => absurd h.1 (by decide))).trans rfl), hY3⟩⟩
  · refine rx_aload_n dX11_reckon_0 rfl rfl ?_
    refine gv_invV (as := []) hG okX11_pop lk_RX11_262 rfl rfl dX11_reckon_1 rfl (by simp [Value.category]) (cr_pop hG hY (by omega)) ?_
    rintro _ _ ⟨rfl, _, rfl, hY1⟩
    refine rx_lstore_n dX11_reckon_4 (by decide) ?_
    refine rx_iload_n dX11_reckon_5 rfl ?_
    refine rx_bipush (v := nI 18) dX11_reckon_6 rfl ?_
    refine rx_icmp_ne (tgt := 27) dX11_reckon_8 (by decide) (fun h8 => ?_) (fun h8 => (absurd h8 (by decide))) 
    refine rx_aload_n dX11_reckon_27 rfl rfl ?_
    refine gv_invV (as := []) hG okX11_pop lk_RX11_262 rfl rfl dX11_reckon_28 rfl (by simp [Value.category]) (cr_pop hG hY1 (by omega)) ?_
    rintro _ _ ⟨rfl, _, rfl, hY2⟩
    refine rx_lstore dX11_reckon_31 (by decide) ?_
    refine rx_iload_n dX11_reckon_33 rfl ?_
    refine rx_bipush (v := nI 9) dX11_reckon_34 rfl ?_
    refine rx_icmp_eq (tgt := 45) dX11_reckon_36 (by decide) (fun h36 => (absurd h36 (by decide))) (fun h36 => ?_)
    refine rx_iload_n dX11_reckon_39 rfl ?_
    refine rx_bipush (v := nI 10) dX11_reckon_40 rfl ?_
    refine rx_icmp_ne (tgt := 58) dX11_reckon_42 (by decide) (fun h42 => ?_) (fun h42 => (absurd h42 (by decide))) 
    refine rx_iload_n dX11_reckon_58 rfl ?_
    refine rx_tabIn (tgt := 182) dX11_reckon_59 (by decide) (by decide) rfl (by decide) ?_
    refine rx_aload_n dX11_reckon_182 rfl rfl ?_
    refine rx_lload dX11_reckon_183 rfl ?_
    refine rx_lload_n dX11_reckon_185 rfl ?_
    refine rx_lor dX11_reckon_186 ?_
    refine gv_invV (as := [.long _]) hG okX11_push lk_RX11_221 rfl rfl dX11_reckon_187 rfl (by simp [Value.category]) (cr_push hG hY2 (by omega) (by (try simp only [List.length_cons, List.length_nil]); omega) _) ?_
    rintro _ _ ⟨rfl, _, rfl, hY3⟩
    refine rx_goto (tgt := 271) dX11_reckon_190 (by decide) ?_
    exact rx_vret rfl dX11_reckon_271 ⟨rfl, _, rfl, Or.inl ⟨_, (if_neg (by decide)).trans ((if_neg (fun h => absurd h.1 (by decide))).trans rfl), hY3⟩⟩
  · refine rx_aload_n dX11_reckon_0 rfl rfl ?_
    refine gv_invV (as := []) hG okX11_pop lk_RX11_262 rfl rfl dX11_reckon_1 rfl (by simp [Value.category]) (cr_pop hG hY (by omega)) ?_
    rintro _ _ ⟨rfl, _, rfl, hY1⟩
    refine rx_lstore_n dX11_reckon_4 (by decide) ?_
    refine rx_iload_n dX11_reckon_5 rfl ?_
    refine rx_bipush (v := nI 18) dX11_reckon_6 rfl ?_
    refine rx_icmp_ne (tgt := 27) dX11_reckon_8 (by decide) (fun h8 => ?_) (fun h8 => (absurd h8 (by decide))) 
    refine rx_aload_n dX11_reckon_27 rfl rfl ?_
    refine gv_invV (as := []) hG okX11_pop lk_RX11_262 rfl rfl dX11_reckon_28 rfl (by simp [Value.category]) (cr_pop hG hY1 (by omega)) ?_
    rintro _ _ ⟨rfl, _, rfl, hY2⟩
    refine rx_lstore dX11_reckon_31 (by decide) ?_
    refine rx_iload_n dX11_reckon_33 rfl ?_
    refine rx_bipush (v := nI 9) dX11_reckon_34 rfl ?_
    refine rx_icmp_eq (tgt := 45) dX11_reckon_36 (by decide) (fun h36 => (absurd h36 (by decide))) (fun h36 => ?_)
    refine rx_iload_n dX11_reckon_39 rfl ?_
    refine rx_bipush (v := nI 10) dX11_reckon_40 rfl ?_
    refine rx_icmp_ne (tgt := 58) dX11_reckon_42 (by decide) (fun h42 => ?_) (fun h42 => (absurd h42 (by decide))) 
    refine rx_iload_n dX11_reckon_58 rfl ?_
    refine rx_tabIn (tgt := 193) dX11_reckon_59 (by decide) (by decide) rfl (by decide) ?_
    refine rx_aload_n dX11_reckon_193 rfl rfl ?_
    refine rx_lload dX11_reckon_194 rfl ?_
    refine rx_lload_n dX11_reckon_196 rfl ?_
    refine rx_lxor dX11_reckon_197 ?_
    refine gv_invV (as := [.long _]) hG okX11_push lk_RX11_221 rfl rfl dX11_reckon_198 rfl (by simp [Value.category]) (cr_push hG hY2 (by omega) (by (try simp only [List.length_cons, List.length_nil]); omega) _) ?_
    rintro _ _ ⟨rfl, _, rfl, hY3⟩
    refine rx_goto (tgt := 271) dX11_reckon_201 (by decide) ?_
    exact rx_vret rfl dX11_reckon_271 ⟨rfl, _, rfl, Or.inl ⟨_, (if_neg (by decide)).trans ((if_neg (fun h => absurd h.1 (by decide))).trans rfl), hY3⟩⟩
  · refine rx_aload_n dX11_reckon_0 rfl rfl ?_
    refine gv_invV (as := []) hG okX11_pop lk_RX11_262 rfl rfl dX11_reckon_1 rfl (by simp [Value.category]) (cr_pop hG hY (by omega)) ?_
    rintro _ _ ⟨rfl, _, rfl, hY1⟩
    refine rx_lstore_n dX11_reckon_4 (by decide) ?_
    refine rx_iload_n dX11_reckon_5 rfl ?_
    refine rx_bipush (v := nI 18) dX11_reckon_6 rfl ?_
    refine rx_icmp_ne (tgt := 27) dX11_reckon_8 (by decide) (fun h8 => ?_) (fun h8 => (absurd h8 (by decide))) 
    refine rx_aload_n dX11_reckon_27 rfl rfl ?_
    refine gv_invV (as := []) hG okX11_pop lk_RX11_262 rfl rfl dX11_reckon_28 rfl (by simp [Value.category]) (cr_pop hG hY1 (by omega)) ?_
    rintro _ _ ⟨rfl, _, rfl, hY2⟩
    refine rx_lstore dX11_reckon_31 (by decide) ?_
    refine rx_iload_n dX11_reckon_33 rfl ?_
    refine rx_bipush (v := nI 9) dX11_reckon_34 rfl ?_
    refine rx_icmp_eq (tgt := 45) dX11_reckon_36 (by decide) (fun h36 => (absurd h36 (by decide))) (fun h36 => ?_)
    refine rx_iload_n dX11_reckon_39 rfl ?_
    refine rx_bipush (v := nI 10) dX11_reckon_40 rfl ?_
    refine rx_icmp_ne (tgt := 58) dX11_reckon_42 (by decide) (fun h42 => ?_) (fun h42 => (absurd h42 (by decide))) 
    refine rx_iload_n dX11_reckon_58 rfl ?_
    refine rx_tabIn (tgt := 204) dX11_reckon_59 (by decide) (by decide) rfl (by decide) ?_
    refine rx_aload_n dX11_reckon_204 rfl rfl ?_
    refine rx_lload dX11_reckon_205 rfl ?_
    refine rx_lload_n dX11_reckon_207 rfl ?_
    refine rx_ldc2 hG hw_890 dX11_reckon_208 ?_
    refine rx_tl (y := lN 63) rfl ?_
    refine rx_land dX11_reckon_211 ?_
    refine rx_l2i dX11_reckon_212 ?_
    refine rx_lshl dX11_reckon_213 ?_
    refine rx_tl (y := x <<< (y &&& 63)) (congrArg (x <<< ·) (sh63a y)) ?_
    refine gv_invV (as := [.long _]) hG okX11_push lk_RX11_221 rfl rfl dX11_reckon_214 rfl (by simp [Value.category]) (cr_push hG hY2 (by omega) (by (try simp only [List.length_cons, List.length_nil]); omega) _) ?_
    rintro _ _ ⟨rfl, _, rfl, hY3⟩
    refine rx_goto (tgt := 271) dX11_reckon_217 (by decide) ?_
    exact rx_vret rfl dX11_reckon_271 ⟨rfl, _, rfl, Or.inl ⟨_, (if_neg (by decide)).trans ((if_neg (fun h => absurd h.1 (by decide))).trans rfl), hY3⟩⟩
  · refine rx_aload_n dX11_reckon_0 rfl rfl ?_
    refine gv_invV (as := []) hG okX11_pop lk_RX11_262 rfl rfl dX11_reckon_1 rfl (by simp [Value.category]) (cr_pop hG hY (by omega)) ?_
    rintro _ _ ⟨rfl, _, rfl, hY1⟩
    refine rx_lstore_n dX11_reckon_4 (by decide) ?_
    refine rx_iload_n dX11_reckon_5 rfl ?_
    refine rx_bipush (v := nI 18) dX11_reckon_6 rfl ?_
    refine rx_icmp_ne (tgt := 27) dX11_reckon_8 (by decide) (fun h8 => ?_) (fun h8 => (absurd h8 (by decide))) 
    refine rx_aload_n dX11_reckon_27 rfl rfl ?_
    refine gv_invV (as := []) hG okX11_pop lk_RX11_262 rfl rfl dX11_reckon_28 rfl (by simp [Value.category]) (cr_pop hG hY1 (by omega)) ?_
    rintro _ _ ⟨rfl, _, rfl, hY2⟩
    refine rx_lstore dX11_reckon_31 (by decide) ?_
    refine rx_iload_n dX11_reckon_33 rfl ?_
    refine rx_bipush (v := nI 9) dX11_reckon_34 rfl ?_
    refine rx_icmp_eq (tgt := 45) dX11_reckon_36 (by decide) (fun h36 => (absurd h36 (by decide))) (fun h36 => ?_)
    refine rx_iload_n dX11_reckon_39 rfl ?_
    refine rx_bipush (v := nI 10) dX11_reckon_40 rfl ?_
    refine rx_icmp_ne (tgt := 58) dX11_reckon_42 (by decide) (fun h42 => ?_) (fun h42 => (absurd h42 (by decide))) 
    refine rx_iload_n dX11_reckon_58 rfl ?_
    refine rx_tabIn (tgt := 220) dX11_reckon_59 (by decide) (by decide) rfl (by decide) ?_
    refine rx_aload_n dX11_reckon_220 rfl rfl ?_
    refine rx_lload dX11_reckon_221 rfl ?_
    refine rx_lload_n dX11_reckon_223 rfl ?_
    refine rx_ldc2 hG hw_890 dX11_reckon_224 ?_
    refine rx_tl (y := lN 63) rfl ?_
    refine rx_land dX11_reckon_227 ?_
    refine rx_l2i dX11_reckon_228 ?_
    refine rx_lshr dX11_reckon_229 ?_
    refine rx_tl (y := x >>> (y &&& 63)) (congrArg (x >>> ·) (sh63a y)) ?_
    refine gv_invV (as := [.long _]) hG okX11_push lk_RX11_221 rfl rfl dX11_reckon_230 rfl (by simp [Value.category]) (cr_push hG hY2 (by omega) (by (try simp only [List.length_cons, List.length_nil]); omega) _) ?_
    rintro _ _ ⟨rfl, _, rfl, hY3⟩
    refine rx_goto (tgt := 271) dX11_reckon_233 (by decide) ?_
    exact rx_vret rfl dX11_reckon_271 ⟨rfl, _, rfl, Or.inl ⟨_, (if_neg (by decide)).trans ((if_neg (fun h => absurd h.1 (by decide))).trans rfl), hY3⟩⟩
  · refine rx_aload_n dX11_reckon_0 rfl rfl ?_
    refine gv_invV (as := []) hG okX11_pop lk_RX11_262 rfl rfl dX11_reckon_1 rfl (by simp [Value.category]) (cr_pop hG hY (by omega)) ?_
    rintro _ _ ⟨rfl, _, rfl, hY1⟩
    refine rx_lstore_n dX11_reckon_4 (by decide) ?_
    refine rx_iload_n dX11_reckon_5 rfl ?_
    refine rx_bipush (v := nI 18) dX11_reckon_6 rfl ?_
    refine rx_icmp_ne (tgt := 27) dX11_reckon_8 (by decide) (fun h8 => ?_) (fun h8 => (absurd h8 (by decide))) 
    refine rx_aload_n dX11_reckon_27 rfl rfl ?_
    refine gv_invV (as := []) hG okX11_pop lk_RX11_262 rfl rfl dX11_reckon_28 rfl (by simp [Value.category]) (cr_pop hG hY1 (by omega)) ?_
    rintro _ _ ⟨rfl, _, rfl, hY2⟩
    refine rx_lstore dX11_reckon_31 (by decide) ?_
    refine rx_iload_n dX11_reckon_33 rfl ?_
    refine rx_bipush (v := nI 9) dX11_reckon_34 rfl ?_
    refine rx_icmp_eq (tgt := 45) dX11_reckon_36 (by decide) (fun h36 => (absurd h36 (by decide))) (fun h36 => ?_)
    refine rx_iload_n dX11_reckon_39 rfl ?_
    refine rx_bipush (v := nI 10) dX11_reckon_40 rfl ?_
    refine rx_icmp_ne (tgt := 58) dX11_reckon_42 (by decide) (fun h42 => ?_) (fun h42 => (absurd h42 (by decide))) 
    refine rx_iload_n dX11_reckon_58 rfl ?_
    refine rx_tabIn (tgt := 236) dX11_reckon_59 (by decide) (by decide) rfl (by decide) ?_
    refine rx_aload_n dX11_reckon_236 rfl rfl ?_
    refine rx_lload dX11_reckon_237 rfl ?_
    refine rx_lload_n dX11_reckon_239 rfl ?_
    refine rx_lc_ge (tgt := 248) dX11_reckon_240 dX11_reckon_241 (by decide) (fun h240 => ?_) (fun h240 => ?_)
    · refine rx_lconst (v := lN 0) dX11_reckon_248 rfl ?_
      refine gv_invV (as := [.long _]) hG okX11_push lk_RX11_221 rfl rfl dX11_reckon_249 rfl (by simp [Value.category]) (cr_push hG hY2 (by omega) (by (try simp only [List.length_cons, List.length_nil]); omega) _) ?_
      rintro _ _ ⟨rfl, _, rfl, hY3⟩
      refine rx_goto (tgt := 271) dX11_reckon_252 (by decide) ?_
      exact rx_vret rfl dX11_reckon_271 ⟨rfl, _, rfl, Or.inl ⟨_, (if_neg (by decide)).trans ((if_neg (fun h => absurd h.1 (by decide))).trans (congrArg (fun z => ((n, e, b, ((c, a, q, s, k), (v, r), (l, o), (z :: t), w) :: fs, m), (none : Option (Nat × Int64 × Nat)))) (if_neg (Int64.not_lt.mpr h240) : (if x < y then (1 : Int64) else 0) = lN 0))), hY3⟩⟩
    · refine rx_lconst (v := lN 1) dX11_reckon_244 rfl ?_
      refine rx_goto (tgt := 249) dX11_reckon_245 (by decide) ?_
      refine gv_invV (as := [.long _]) hG okX11_push lk_RX11_221 rfl rfl dX11_reckon_249 rfl (by simp [Value.category]) (cr_push hG hY2 (by omega) (by (try simp only [List.length_cons, List.length_nil]); omega) _) ?_
      rintro _ _ ⟨rfl, _, rfl, hY3⟩
      refine rx_goto (tgt := 271) dX11_reckon_252 (by decide) ?_
      exact rx_vret rfl dX11_reckon_271 ⟨rfl, _, rfl, Or.inl ⟨_, (if_neg (by decide)).trans ((if_neg (fun h => absurd h.1 (by decide))).trans (congrArg (fun z => ((n, e, b, ((c, a, q, s, k), (v, r), (l, o), (z :: t), w) :: fs, m), (none : Option (Nat × Int64 × Nat)))) (if_pos (Int64.not_le.mp h240) : (if x < y then (1 : Int64) else 0) = lN 1))), hY3⟩⟩
  · refine rx_aload_n dX11_reckon_0 rfl rfl ?_
    refine gv_invV (as := []) hG okX11_pop lk_RX11_262 rfl rfl dX11_reckon_1 rfl (by simp [Value.category]) (cr_pop hG hY (by omega)) ?_
    rintro _ _ ⟨rfl, _, rfl, hY1⟩
    refine rx_lstore_n dX11_reckon_4 (by decide) ?_
    refine rx_iload_n dX11_reckon_5 rfl ?_
    refine rx_bipush (v := nI 18) dX11_reckon_6 rfl ?_
    refine rx_icmp_ne (tgt := 27) dX11_reckon_8 (by decide) (fun h8 => ?_) (fun h8 => (absurd h8 (by decide))) 
    refine rx_aload_n dX11_reckon_27 rfl rfl ?_
    refine gv_invV (as := []) hG okX11_pop lk_RX11_262 rfl rfl dX11_reckon_28 rfl (by simp [Value.category]) (cr_pop hG hY1 (by omega)) ?_
    rintro _ _ ⟨rfl, _, rfl, hY2⟩
    refine rx_lstore dX11_reckon_31 (by decide) ?_
    refine rx_iload_n dX11_reckon_33 rfl ?_
    refine rx_bipush (v := nI 9) dX11_reckon_34 rfl ?_
    refine rx_icmp_eq (tgt := 45) dX11_reckon_36 (by decide) (fun h36 => (absurd h36 (by decide))) (fun h36 => ?_)
    refine rx_iload_n dX11_reckon_39 rfl ?_
    refine rx_bipush (v := nI 10) dX11_reckon_40 rfl ?_
    refine rx_icmp_ne (tgt := 58) dX11_reckon_42 (by decide) (fun h42 => ?_) (fun h42 => (absurd h42 (by decide))) 
    refine rx_iload_n dX11_reckon_58 rfl ?_
    refine rx_tabOut (tgt := 255) dX11_reckon_59 (by decide) (by decide) ?_
    refine rx_aload_n dX11_reckon_255 rfl rfl ?_
    refine rx_lload dX11_reckon_256 rfl ?_
    refine rx_lload_n dX11_reckon_258 rfl ?_
    refine rx_lc_ne (tgt := 267) dX11_reckon_259 dX11_reckon_260 (by decide) (fun h259 => ?_) (fun h259 => ?_)
    · refine rx_lconst (v := lN 0) dX11_reckon_267 rfl ?_
      refine gv_invV (as := [.long _]) hG okX11_push lk_RX11_221 rfl rfl dX11_reckon_268 rfl (by simp [Value.category]) (cr_push hG hY2 (by omega) (by (try simp only [List.length_cons, List.length_nil]); omega) _) ?_
      rintro _ _ ⟨rfl, _, rfl, hY3⟩
      exact rx_vret rfl dX11_reckon_271 ⟨rfl, _, rfl, Or.inl ⟨_, (if_neg (by decide)).trans ((if_neg (fun h => absurd h.1 (by decide))).trans (congrArg (fun z => ((n, e, b, ((c, a, q, s, k), (v, r), (l, o), (z :: t), w) :: fs, m), (none : Option (Nat × Int64 × Nat)))) (if_neg h259 : (if x = y then (1 : Int64) else 0) = lN 0))), hY3⟩⟩
    · refine rx_lconst (v := lN 1) dX11_reckon_263 rfl ?_
      refine rx_goto (tgt := 268) dX11_reckon_264 (by decide) ?_
      refine gv_invV (as := [.long _]) hG okX11_push lk_RX11_221 rfl rfl dX11_reckon_268 rfl (by simp [Value.category]) (cr_push hG hY2 (by omega) (by (try simp only [List.length_cons, List.length_nil]); omega) _) ?_
      rintro _ _ ⟨rfl, _, rfl, hY3⟩
      exact rx_vret rfl dX11_reckon_271 ⟨rfl, _, rfl, Or.inl ⟨_, (if_neg (by decide)).trans ((if_neg (fun h => absurd h.1 (by decide))).trans (congrArg (fun z => ((n, e, b, ((c, a, q, s, k), (v, r), (l, o), (z :: t), w) :: fs, m), (none : Option (Nat × Int64 × Nat)))) (if_pos h259 : (if x = y then (1 : Int64) else 0) = lN 1))), hY3⟩⟩
theorem cr_not {G : rx_E} {d : Nat} {C : rx_M} {S0 S : gs_T} {g : vg_T} {n : Nat → Int64} {e : List (Nat × Int64 × Int64)} {b m c a q s k : Nat} {v r : Int64} {l o : Bool} {t : List Int64} {w : (Nat → Int64) × Nat × Nat} {fs : List vf_T} (hG : rx_OK G) {y : Int64} (hp : fs.length < 11) (hY : rm_Y S0 S g (n, e, b, ((c, a, q, s, k), (v, r), (l, o), (y :: t), w) :: fs, m) 0) : rx_C G MX11_reckon (d + 1) [.ref 52, .int (nI 18)] (gl C S) 0 0 (rq_on C S0 g (vm_do2 (n, e, b, ((c, a, q, s, k), (v, r), (l, o), (y :: t), w) :: fs, m) 18 ((c, a, q, s, k), (v, r), (l, o), (y :: t), w) fs)) := by
  refine rx_meth0 (by decide +kernel) rfl (Nat.le_of_ble_eq_true rfl) ?_
  have ht : t.length + 1 ≤ 24 := rY_n hY
  refine rx_aload_n dX11_reckon_0 rfl rfl ?_
  refine gv_invV (as := []) hG okX11_pop lk_RX11_262 rfl rfl dX11_reckon_1 rfl (by simp [Value.category]) (cr_pop hG hY (by omega)) ?_
  rintro _ _ ⟨rfl, _, rfl, hY1⟩
  refine rx_lstore_n dX11_reckon_4 (by decide) ?_
  refine rx_iload_n dX11_reckon_5 rfl ?_
  refine rx_bipush (v := nI 18) dX11_reckon_6 rfl ?_
  refine rx_icmp_ne (tgt := 27) dX11_reckon_8 (by decide) (fun h8 => (absurd h8 (by decide))) (fun h8 => ?_)
  refine rx_aload_n dX11_reckon_11 rfl rfl ?_
  refine rx_lload_n dX11_reckon_12 rfl ?_
  refine rx_lconst (v := lN 0) dX11_reckon_13 rfl ?_
  refine rx_lc_ne (tgt := 22) dX11_reckon_14 dX11_reckon_15 (by decide) (fun h14 => ?_) (fun h14 => ?_)
  · refine rx_lconst (v := lN 0) dX11_reckon_22 rfl ?_
    refine gv_invV (as := [.long _]) hG okX11_push lk_RX11_221 rfl rfl dX11_reckon_23 rfl (by simp [Value.category]) (cr_push hG hY1 (by omega) (by (try simp only [List.length_cons, List.length_nil]); omega) _) ?_
    rintro _ _ ⟨rfl, _, rfl, hY2⟩
    exact rx_vret rfl dX11_reckon_26 ⟨rfl, _, rfl, Or.inl ⟨_, (if_pos rfl).trans (congrArg (fun z => ((n, e, b, ((c, a, q, s, k), (v, r), (l, o), (z :: t), w) :: fs, m), (none : Option (Nat × Int64 × Nat)))) (if_neg h14 : (if y = 0 then (1 : Int64) else 0) = lN 0)), hY2⟩⟩
  · refine rx_lconst (v := lN 1) dX11_reckon_18 rfl ?_
    refine rx_goto (tgt := 23) dX11_reckon_19 (by decide) ?_
    refine gv_invV (as := [.long _]) hG okX11_push lk_RX11_221 rfl rfl dX11_reckon_23 rfl (by simp [Value.category]) (cr_push hG hY1 (by omega) (by (try simp only [List.length_cons, List.length_nil]); omega) _) ?_
    rintro _ _ ⟨rfl, _, rfl, hY2⟩
    exact rx_vret rfl dX11_reckon_26 ⟨rfl, _, rfl, Or.inl ⟨_, (if_pos rfl).trans (congrArg (fun z => ((n, e, b, ((c, a, q, s, k), (v, r), (l, o), (z :: t), w) :: fs, m), (none : Option (Nat × Int64 × Nat)))) (if_pos h14 : (if y = 0 then (1 : Int64) else 0) = lN 1)), hY2⟩⟩
theorem cr_stop {G : rx_E} {d : Nat} {C : rx_M} {S0 S : gs_T} {g : vg_T} {n : Nat → Int64} {e : List (Nat × Int64 × Int64)} {b m c a q s k : Nat} {v r : Int64} {l o : Bool} {t : List Int64} {w : (Nat → Int64) × Nat × Nat} {fs : List vf_T} (hG : rx_OK G) {mo at_ : Nat} {cd : List Nat} (hp : fs.length < 11) (hlow : vw_low fs) (hY : rm_Y S0 S g (n, e, b, ((c, a, q, s, k), (v, r), (l, o), t, w) :: fs, m) 0) : rx_C G MX11_simple (d + 2) [.ref 52, .int (nI 0), .int (nI mo), .int (nI at_)] (gl C S) 0 0 (rq_on C S0 g (vm_do1 cd (n, e, b, ((c, a, q, s, k), (v, r), (l, o), t, w) :: fs, m) 0 mo ((c, a, q, s, k), (v, r), (l, o), t, w) fs)) := by
  refine rx_meth0 (by decide +kernel) rfl (Nat.le_of_ble_eq_true rfl) ?_
  refine rx_aload_n dX11_simple_0 rfl rfl ?_
  refine gmv_getI (v := nI (fs.length + 1)) hG hf_RX11_203 rfl dX11_simple_1 rfl rfl rfl (rY_dep hY) ?_
  refine rx_iconst (v := nI 1) dX11_simple_4 rfl ?_
  refine rx_isub dX11_simple_5 ?_
  refine rx_ti (y := nI fs.length) ((pk_sub (by omega)).trans (congrArg nI (by omega))) ?_
  refine rx_istore dX11_simple_6 (by decide) ?_
  refine rx_iload_n dX11_simple_8 rfl ?_
  refine rx_tabIn (tgt := 44) dX11_simple_9 (by decide) (by decide) rfl (by decide) ?_
  refine rx_aload_n dX11_simple_44 rfl rfl ?_
  refine rx_iconst (v := nI 1) dX11_simple_45 rfl ?_
  refine rx_lconst (v := lN 0) dX11_simple_46 rfl ?_
  refine gv_invV (as := [.int _, .long _]) hG okX11_finish lk_RX11_231 rfl rfl dX11_simple_47 rfl (by simp [Value.category]) (cr_fin1 hG hY (by omega) hlow _) ?_
  rintro _ _ ⟨rfl, _, rfl, hF⟩
  refine rx_goto (tgt := 203) dX11_simple_50 (by decide) ?_
  exact rx_vret rfl dX11_simple_203 ⟨rfl, _, rfl, rm_onE rfl hF⟩
theorem cr_pushS {G : rx_E} {d : Nat} {C : rx_M} {S0 S : gs_T} {g : vg_T} {n : Nat → Int64} {e : List (Nat × Int64 × Int64)} {b m c a q s k : Nat} {v r : Int64} {l o : Bool} {t : List Int64} {w : (Nat → Int64) × Nat × Nat} {fs : List vf_T} (hG : rx_OK G) {mo at_ : Nat} {cd : List Nat} (hp : fs.length < 11) (ht : t.length < 24) (hY : rm_Y S0 S g (n, e, b, ((c, a, q, s, k), (v, r), (l, o), t, w) :: fs, m) 0) : rx_C G MX11_simple (d + 2) [.ref 52, .int (nI 1), .int (nI mo), .int (nI at_)] (gl C S) 0 0 (rq_on C S0 g (vm_do1 cd (n, e, b, ((c, a, q, s, k), (v, r), (l, o), t, w) :: fs, m) 1 mo ((c, a, q, s, k), (v, r), (l, o), t, w) fs)) := by
  refine rx_meth0 (by decide +kernel) rfl (Nat.le_of_ble_eq_true rfl) ?_
  refine rx_aload_n dX11_simple_0 rfl rfl ?_
  refine gmv_getI (v := nI (fs.length + 1)) hG hf_RX11_203 rfl dX11_simple_1 rfl rfl rfl (rY_dep hY) ?_
  refine rx_iconst (v := nI 1) dX11_simple_4 rfl ?_
  refine rx_isub dX11_simple_5 ?_
  refine rx_ti (y := nI fs.length) ((pk_sub (by omega)).trans (congrArg nI (by omega))) ?_
  refine rx_istore dX11_simple_6 (by decide) ?_
  refine rx_iload_n dX11_simple_8 rfl ?_
  refine rx_tabIn (tgt := 53) dX11_simple_9 (by decide) (by decide) rfl (by decide) ?_
  refine rx_aload_n dX11_simple_53 rfl rfl ?_
  refine rx_iload_n dX11_simple_54 rfl ?_
  refine rx_i2b dX11_simple_55 ?_
  refine rx_i2l dX11_simple_56 ?_
  refine rx_tl (y := (nI mo).toInt8.toInt32.toInt64) rfl ?_
  refine gv_invV (as := [.long _]) hG okX11_push lk_RX11_221 rfl rfl dX11_simple_57 rfl (by simp [Value.category]) (cr_push hG hY (by omega) (by (try simp only [List.length_cons, List.length_nil]); omega) _) ?_
  rintro _ _ ⟨rfl, _, rfl, hY1⟩
  refine rx_goto (tgt := 203) dX11_simple_60 (by decide) ?_
  exact rx_vret rfl dX11_simple_203 ⟨rfl, _, rfl, Or.inl ⟨_, rfl, hY1⟩⟩
theorem cr_popS {G : rx_E} {d : Nat} {C : rx_M} {S0 S : gs_T} {g : vg_T} {n : Nat → Int64} {e : List (Nat × Int64 × Int64)} {b m c a q s k : Nat} {v r : Int64} {l o : Bool} {t : List Int64} {w : (Nat → Int64) × Nat × Nat} {fs : List vf_T} (hG : rx_OK G) {mo at_ : Nat} {cd : List Nat} (hp : fs.length < 11) {y : Int64} (hY : rm_Y S0 S g (n, e, b, ((c, a, q, s, k), (v, r), (l, o), (y :: t), w) :: fs, m) 0) : rx_C G MX11_simple (d + 2) [.ref 52, .int (nI 3), .int (nI mo), .int (nI at_)] (gl C S) 0 0 (rq_on C S0 g (vm_do1 cd (n, e, b, ((c, a, q, s, k), (v, r), (l, o), (y :: t), w) :: fs, m) 3 mo ((c, a, q, s, k), (v, r), (l, o), (y :: t), w) fs)) := by
  refine rx_meth0 (by decide +kernel) rfl (Nat.le_of_ble_eq_true rfl) ?_
  refine rx_aload_n dX11_simple_0 rfl rfl ?_
  refine gmv_getI (v := nI (fs.length + 1)) hG hf_RX11_203 rfl dX11_simple_1 rfl rfl rfl (rY_dep hY) ?_
  refine rx_iconst (v := nI 1) dX11_simple_4 rfl ?_
  refine rx_isub dX11_simple_5 ?_
  refine rx_ti (y := nI fs.length) ((pk_sub (by omega)).trans (congrArg nI (by omega))) ?_
  refine rx_istore dX11_simple_6 (by decide) ?_
  refine rx_iload_n dX11_simple_8 rfl ?_
  refine rx_tabIn (tgt := 109) dX11_simple_9 (by decide) (by decide) rfl (by decide) ?_
  refine rx_aload_n dX11_simple_109 rfl rfl ?_
  refine gv_invV (as := []) hG okX11_pop lk_RX11_262 rfl rfl dX11_simple_110 rfl (by simp [Value.category]) (cr_pop hG hY (by omega)) ?_
  rintro _ _ ⟨rfl, _, rfl, hY1⟩
  refine rx_lstore dX11_simple_113 (by decide) ?_
  refine rx_goto (tgt := 203) dX11_simple_115 (by decide) ?_
  exact rx_vret rfl dX11_simple_203 ⟨rfl, _, rfl, Or.inl ⟨_, rfl, hY1⟩⟩
theorem cr_dup {G : rx_E} {d : Nat} {C : rx_M} {S0 S : gs_T} {g : vg_T} {n : Nat → Int64} {e : List (Nat × Int64 × Int64)} {b m c a q s k : Nat} {v r : Int64} {l o : Bool} {t : List Int64} {w : (Nat → Int64) × Nat × Nat} {fs : List vf_T} (hG : rx_OK G) {mo at_ : Nat} {cd : List Nat} (hp : fs.length < 11) {j : Nat} (hj : t.length = mo + 1 + j) (ht : t.length < 24) (hY : rm_Y S0 S g (n, e, b, ((c, a, q, s, k), (v, r), (l, o), t, w) :: fs, m) 0) : rx_C G MX11_simple (d + 2) [.ref 52, .int (nI 4), .int (nI mo), .int (nI at_)] (gl C S) 0 0 (rq_on C S0 g (vm_do1 cd (n, e, b, ((c, a, q, s, k), (v, r), (l, o), t, w) :: fs, m) 4 mo ((c, a, q, s, k), (v, r), (l, o), t, w) fs)) := by
  refine rx_meth0 (by decide +kernel) rfl (Nat.le_of_ble_eq_true rfl) ?_
  refine rx_aload_n dX11_simple_0 rfl rfl ?_
  refine gmv_getI (v := nI (fs.length + 1)) hG hf_RX11_203 rfl dX11_simple_1 rfl rfl rfl (rY_dep hY) ?_
  refine rx_iconst (v := nI 1) dX11_simple_4 rfl ?_
  refine rx_isub dX11_simple_5 ?_
  refine rx_ti (y := nI fs.length) ((pk_sub (by omega)).trans (congrArg nI (by omega))) ?_
  refine rx_istore dX11_simple_6 (by decide) ?_
  refine rx_iload_n dX11_simple_8 rfl ?_
  refine rx_tabIn (tgt := 118) dX11_simple_9 (by decide) (by decide) rfl (by decide) ?_
  refine rx_aload_n dX11_simple_118 rfl rfl ?_
  refine rx_aload_n dX11_simple_119 rfl rfl ?_
  refine g_getR hG hf_RX11_138 rfl dX11_simple_120 rfl rfl rfl ?_
  refine rx_bipush (v := nI 24) dX11_simple_123 rfl ?_
  refine rx_iload dX11_simple_125 rfl ?_
  refine rx_imul dX11_simple_127 ?_
  refine rx_ti (y := nI (24 * fs.length)) ((pk_mul _ _).trans (congrArg nI (by omega))) ?_
  refine rx_aload_n dX11_simple_128 rfl rfl ?_
  refine g_getR hG hf_RX11_141 rfl dX11_simple_129 rfl rfl rfl ?_
  refine rx_iload dX11_simple_132 rfl ?_
  refine gmv_iald (j := fs.length) (v := nI (j + mo + 1)) hG dX11_simple_134 rfl rfl rfl rfl (by omega) (by decide) ((rY_size hY).trans (congrArg nI (by omega))) ?_
  refine rx_iadd dX11_simple_135 ?_
  refine rx_ti (y := nI (24 * fs.length + j + mo + 1)) ((nI_add _ _).trans (congrArg nI (by omega))) ?_
  refine rx_iconst (v := nI 1) dX11_simple_136 rfl ?_
  refine rx_isub dX11_simple_137 ?_
  refine rx_ti (y := nI (24 * fs.length + j + mo)) ((pk_sub (by omega)).trans (congrArg nI (by omega))) ?_
  refine rx_iload_n dX11_simple_138 rfl ?_
  refine rx_isub dX11_simple_139 ?_
  refine rx_ti (y := nI (24 * fs.length + j)) ((pk_sub (by omega)).trans (congrArg nI (by omega))) ?_
  refine gmv_lald (j := 24 * fs.length + j) (v := t.getD mo 0) hG dX11_simple_140 rfl rfl rfl rfl (by omega) (by decide) ((by rw [show 24 * fs.length + j = 24 * fs.length + (t.length - 1 - mo) by omega]; exact rm_T_get (by omega) (rY_T hY))) ?_
  refine gv_invV (as := [.long _]) hG okX11_push lk_RX11_221 rfl rfl dX11_simple_141 rfl (by simp [Value.category]) (cr_push hG hY (by omega) (by (try simp only [List.length_cons, List.length_nil]); omega) _) ?_
  rintro _ _ ⟨rfl, _, rfl, hY1⟩
  refine rx_goto (tgt := 203) dX11_simple_144 (by decide) ?_
  exact rx_vret rfl dX11_simple_203 ⟨rfl, _, rfl, Or.inl ⟨_, rfl, hY1⟩⟩
theorem rm_T_mk {S : gs_T} {p : Nat} : ∀ {t : List Int64}, (∀ i, i < t.length → S.2 95 (24 * p + (t.length - 1 - i)) = t.getD i 0) → rm_T S p t
  | [], _ => trivial
  | v :: r, h => by
    refine ⟨by simpa using h 0 (by simp), rm_T_mk (fun i hi => ?_)⟩
    have h1 := h (i + 1) (by simp; omega)
    have h2 : (v :: r).length - 1 - (i + 1) = r.length - 1 - i := by simp; omega
    rw [h2] at h1
    simpa using h1
theorem rY_swap {S0 S : gs_T} {g : vg_T} {n : Nat → Int64} {e : List (Nat × Int64 × Int64)} {b m E c a q s k : Nat} {v r : Int64} {l o : Bool} {t : List Int64} {w : (Nat → Int64) × Nat × Nat} {fs : List vf_T} (h : rm_Y S0 S g (n, e, b, ((c, a, q, s, k), (v, r), (l, o), t, w) :: fs, m) E) {mo j : Nat} (hj : t.length = mo + 1 + j) : rm_Y S0 (S.1, rx_u (rx_u S.2 95 (24 * fs.length + j + mo) (t.getD mo 0)) 95 (24 * fs.length + j) (t.getD 0 0)) g (n, e, b, ((c, a, q, s, k), (v, r), (l, o), (t.set 0 (t.getD mo 0)).set mo (t.getD 0 0), w) :: fs, m) E := by
  refine rY_top h (rm_near_trans (rm_near_T (j := 24 * fs.length + j + mo) (by omega)) (rm_near_T (S := (S.1, rx_u S.2 95 (24 * fs.length + j + mo) (t.getD mo 0))) (by omega))) ?_
  obtain ⟨⟨h1, h2, h3, h4, h5⟩, ⟨h6, h7⟩, ⟨h8, h9⟩, ⟨h10, h11, h12⟩, ⟨h13, h14, h15⟩⟩ := rY_F h
  refine ⟨⟨h1, h2, by simpa [rx_ru] using h3, h4, h5⟩, ⟨by simpa [rx_ru] using h6, by simpa [rx_ru] using h7⟩, ⟨h8, h9⟩, ⟨by simpa [fT] using h10, by simpa [fT] using h11, rm_T_mk (fun i hi => ?_)⟩, ⟨fun j hj => by simpa [rx_ru] using h13 j hj, h14, h15⟩⟩
  have hl : ((t.set 0 (t.getD mo 0)).set mo (t.getD 0 0)).length = t.length := by simp
  have hi : i < t.length := by rw [← hl]; exact hi
  show rx_u (rx_u S.2 95 _ _) 95 _ _ 95 (24 * fs.length + (((t.set 0 (t.getD mo 0)).set mo (t.getD 0 0)).length - 1 - i)) = ((t.set 0 (t.getD mo 0)).set mo (t.getD 0 0)).getD i 0
  rw [hl, rx_ru, if_pos rfl, rx_ru, if_pos rfl]
  rw [List.getD_eq_getElem?_getD (l := List.set _ _ _), List.getElem?_set, List.getElem?_set, List.length_set]
  by_cases e1 : i = mo
  · rw [if_pos (by omega), if_pos e1.symm, if_pos (by omega)]; rfl
  · rw [if_neg (show ¬ 24 * fs.length + (t.length - 1 - i) = 24 * fs.length + j by omega), if_neg (show ¬ mo = i from fun h => e1 h.symm)]
    by_cases e2 : i = 0
    · rw [if_pos (show 24 * fs.length + (t.length - 1 - i) = 24 * fs.length + j + mo by omega), if_pos e2.symm, if_pos (by omega)]; rfl
    · rw [if_neg (show ¬ 24 * fs.length + (t.length - 1 - i) = 24 * fs.length + j + mo by omega), if_neg (show ¬ 0 = i from fun h => e2 h.symm), ← List.getD_eq_getElem?_getD]
      exact rm_T_get hi h12
theorem cr_swap {G : rx_E} {d : Nat} {C : rx_M} {S0 S : gs_T} {g : vg_T} {n : Nat → Int64} {e : List (Nat × Int64 × Int64)} {b m c a q s k : Nat} {v r : Int64} {l o : Bool} {t : List Int64} {w : (Nat → Int64) × Nat × Nat} {fs : List vf_T} (hG : rx_OK G) {mo at_ : Nat} {cd : List Nat} (hp : fs.length < 11) {j : Nat} (hj : t.length = mo + 1 + j) (hY : rm_Y S0 S g (n, e, b, ((c, a, q, s, k), (v, r), (l, o), t, w) :: fs, m) 0) : rx_C G MX11_simple (d + 2) [.ref 52, .int (nI 5), .int (nI mo), .int (nI at_)] (gl C S) 0 0 (rq_on C S0 g (vm_do1 cd (n, e, b, ((c, a, q, s, k), (v, r), (l, o), t, w) :: fs, m) 5 mo ((c, a, q, s, k), (v, r), (l, o), t, w) fs)) := by
  refine rx_meth0 (by decide +kernel) rfl (Nat.le_of_ble_eq_true rfl) ?_
  have ht : t.length ≤ 24 := rY_n hY
  refine rx_aload_n dX11_simple_0 rfl rfl ?_
  refine gmv_getI (v := nI (fs.length + 1)) hG hf_RX11_203 rfl dX11_simple_1 rfl rfl rfl (rY_dep hY) ?_
  refine rx_iconst (v := nI 1) dX11_simple_4 rfl ?_
  refine rx_isub dX11_simple_5 ?_
  refine rx_ti (y := nI fs.length) ((pk_sub (by omega)).trans (congrArg nI (by omega))) ?_
  refine rx_istore dX11_simple_6 (by decide) ?_
  refine rx_iload_n dX11_simple_8 rfl ?_
  refine rx_tabOut (tgt := 147) dX11_simple_9 (by decide) (by decide) ?_
  refine rx_bipush (v := nI 24) dX11_simple_147 rfl ?_
  refine rx_iload dX11_simple_149 rfl ?_
  refine rx_imul dX11_simple_151 ?_
  refine rx_ti (y := nI (24 * fs.length)) ((pk_mul _ _).trans (congrArg nI (by omega))) ?_
  refine rx_aload_n dX11_simple_152 rfl rfl ?_
  refine g_getR hG hf_RX11_141 rfl dX11_simple_153 rfl rfl rfl ?_
  refine rx_iload dX11_simple_156 rfl ?_
  refine gmv_iald (j := fs.length) (v := nI (j + mo + 1)) hG dX11_simple_158 rfl rfl rfl rfl (by omega) (by decide) ((rY_size hY).trans (congrArg nI (by omega))) ?_
  refine rx_iadd dX11_simple_159 ?_
  refine rx_ti (y := nI (24 * fs.length + j + mo + 1)) ((nI_add _ _).trans (congrArg nI (by omega))) ?_
  refine rx_iconst (v := nI 1) dX11_simple_160 rfl ?_
  refine rx_isub dX11_simple_161 ?_
  refine rx_ti (y := nI (24 * fs.length + j + mo)) ((pk_sub (by omega)).trans (congrArg nI (by omega))) ?_
  refine rx_istore dX11_simple_162 (by decide) ?_
  refine rx_aload_n dX11_simple_164 rfl rfl ?_
  refine g_getR hG hf_RX11_138 rfl dX11_simple_165 rfl rfl rfl ?_
  refine rx_iload dX11_simple_168 rfl ?_
  refine gmv_lald (j := 24 * fs.length + j + mo) (v := t.getD 0 0) hG dX11_simple_170 rfl rfl rfl rfl (by omega) (by decide) ((by rw [show 24 * fs.length + j + mo = 24 * fs.length + (t.length - 1 - 0) by omega]; exact rm_T_get (by omega) (rY_T hY))) ?_
  refine rx_lstore dX11_simple_171 (by decide) ?_
  refine rx_aload_n dX11_simple_173 rfl rfl ?_
  refine g_getR hG hf_RX11_138 rfl dX11_simple_174 rfl rfl rfl ?_
  refine rx_iload dX11_simple_177 rfl ?_
  refine rx_aload_n dX11_simple_179 rfl rfl ?_
  refine g_getR hG hf_RX11_138 rfl dX11_simple_180 rfl rfl rfl ?_
  refine rx_iload dX11_simple_183 rfl ?_
  refine rx_iload_n dX11_simple_185 rfl ?_
  refine rx_isub dX11_simple_186 ?_
  refine rx_ti (y := nI (24 * fs.length + j)) ((pk_sub (by omega)).trans (congrArg nI (by omega))) ?_
  refine gmv_lald (j := 24 * fs.length + j) (v := t.getD mo 0) hG dX11_simple_187 rfl rfl rfl rfl (by omega) (by decide) ((by rw [show 24 * fs.length + j = 24 * fs.length + (t.length - 1 - mo) by omega]; exact rm_T_get (by omega) (rY_T hY))) ?_
  refine gm_last (j := 24 * fs.length + j + mo) hG dX11_simple_188 rfl rfl rfl rfl (by omega) (by decide) ?_
  refine rx_aload_n dX11_simple_189 rfl rfl ?_
  refine g_getR hG hf_RX11_138 rfl dX11_simple_190 rfl rfl rfl ?_
  refine rx_iload dX11_simple_193 rfl ?_
  refine rx_iload_n dX11_simple_195 rfl ?_
  refine rx_isub dX11_simple_196 ?_
  refine rx_ti (y := nI (24 * fs.length + j)) ((pk_sub (by omega)).trans (congrArg nI (by omega))) ?_
  refine rx_lload dX11_simple_197 rfl ?_
  refine gm_last (j := 24 * fs.length + j) hG dX11_simple_199 rfl rfl rfl rfl (by omega) (by decide) ?_
  refine rY_ab (rY_swap hY hj) (fun _ hY1 => ?_)
  refine rx_goto (tgt := 203) dX11_simple_200 (by decide) ?_
  exact rx_vret rfl dX11_simple_203 ⟨rfl, _, rfl, Or.inl ⟨_, rfl, hY1⟩⟩
theorem cr_big {G : rx_E} {d : Nat} {C : rx_M} {S0 S : gs_T} {g : vg_T} {n : Nat → Int64} {e : List (Nat × Int64 × Int64)} {b m c a q s k : Nat} {v r : Int64} {l o : Bool} {t : List Int64} {w : (Nat → Int64) × Nat × Nat} {fs : List vf_T} (hG : rx_OK G) {mo a0 : Nat} {cd : List Nat} (hp : fs.length < 11) (ht : t.length < 24) (hcd : g.1 c = cd) (hc : c < g.2.1) (hg : g.2.1 ≤ 16) (hcl : cd.length ≤ 200) (hal : a0 + 9 ≤ cd.length) (hoct : ∀ k, k < cd.length → cd.getD k 0 < 256) (hY : rm_Y S0 S g (n, e, b, ((c, a0 + 9, q, s, k), (v, r), (l, o), t, w) :: fs, m) 0) : rx_C G MX11_simple (d + 1) [.ref 52, .int (nI 2), .int (nI mo), .int (nI (200 * c + a0))] (gl C S) 0 0 (rq_on C S0 g (vm_do1 cd (n, e, b, ((c, a0 + 9, q, s, k), (v, r), (l, o), t, w) :: fs, m) 2 mo ((c, a0 + 9, q, s, k), (v, r), (l, o), t, w) fs)) := by
  refine rx_meth0 (by decide +kernel) rfl (Nat.le_of_ble_eq_true rfl) ?_
  refine rx_aload_n dX11_simple_0 rfl rfl ?_
  refine gmv_getI (v := nI (fs.length + 1)) hG hf_RX11_203 rfl dX11_simple_1 rfl rfl rfl (rY_dep hY) ?_
  refine rx_iconst (v := nI 1) dX11_simple_4 rfl ?_
  refine rx_isub dX11_simple_5 ?_
  refine rx_ti (y := nI fs.length) ((pk_sub (by omega)).trans (congrArg nI (by omega))) ?_
  refine rx_istore dX11_simple_6 (by decide) ?_
  refine rx_iload_n dX11_simple_8 rfl ?_
  refine rx_tabIn (tgt := 63) dX11_simple_9 (by decide) (by decide) rfl (by decide) ?_
  refine rx_lconst (v := lN 0) dX11_simple_63 rfl ?_
  refine rx_lstore dX11_simple_64 (by decide) ?_
  refine rx_iconst (v := nI 1) dX11_simple_66 rfl ?_
  refine rx_istore dX11_simple_67 (by decide) ?_
  refine rx_lv (lv' := [(7, .int (nI 1)), (5, .long (vm_big cd a0 0)), (3, .int (nI (200 * c + a0))), (0, .ref 52)]) ⟨rfl, rfl, rfl, rfl, trivial⟩ ?_
  refine rx_iload dX11_simple_69 rfl ?_
  refine rx_bipush (v := nI 8) dX11_simple_71 rfl ?_
  refine rx_icmp_gt (tgt := 100) dX11_simple_73 (by decide) (fun h => absurd h (by decide)) (fun _ => ?_)
  refine rx_lload dX11_simple_76 rfl ?_
  refine rx_bipush (v := nI 8) dX11_simple_78 rfl ?_
  refine rx_lshl dX11_simple_80 ?_
  refine rx_tl (y := vm_big cd a0 0 <<< (8 : Int64)) rfl ?_
  refine rx_aload_n dX11_simple_81 rfl rfl ?_
  refine g_getR hG hf_RX11_7 rfl dX11_simple_82 rfl rfl rfl ?_
  refine rx_iload_n dX11_simple_85 rfl ?_
  refine rx_iload dX11_simple_86 rfl ?_
  refine rx_iadd dX11_simple_88 ?_
  refine rx_ti (y := nI (a0 + 200 * c + 1)) ((nI_add _ _).trans (congrArg nI (by omega))) ?_
  obtain ⟨oc, hoc⟩ : ∃ oc, cd.getD (a0 + 1) 0 = oc := ⟨_, rfl⟩
  have hoc1 := hoct (a0 + 1) (by omega)
  rw [hoc] at hoc1
  refine gmv_iald (j := 200 * c + (a0 + 1)) (v := nI oc) hG dX11_simple_89 rfl rfl rfl (congrArg nI (by omega)) (by omega) (by decide) ((rY_octet hY hc (i := a0 + 1) (by rw [hcd]; omega)).trans (by rw [hcd, hoc])) ?_
  refine rx_i2l dX11_simple_90 ?_
  refine rx_tl (y := lN oc) (nI_l (by omega)) ?_
  refine rx_lor dX11_simple_91 ?_
  refine rx_tl (y := vm_big cd a0 1) (by rw [← hoc, show a0 + 1 = a0 + 1 + 0 by omega]; rfl) ?_
  refine rx_lstore dX11_simple_92 (by decide) ?_
  refine rx_iinc (v := nI 2) dX11_simple_94 rfl ((nI_add _ 1).trans (congrArg nI (by omega))) ?_
  refine rx_goto (tgt := 69) dX11_simple_97 (by decide) ?_
  refine rx_lv (lv' := [(7, .int (nI 2)), (5, .long (vm_big cd a0 1)), (3, .int (nI (200 * c + a0))), (0, .ref 52)]) ⟨rfl, rfl, rfl, rfl, trivial⟩ ?_
  refine rx_iload dX11_simple_69 rfl ?_
  refine rx_bipush (v := nI 8) dX11_simple_71 rfl ?_
  refine rx_icmp_gt (tgt := 100) dX11_simple_73 (by decide) (fun h => absurd h (by decide)) (fun _ => ?_)
  refine rx_lload dX11_simple_76 rfl ?_
  refine rx_bipush (v := nI 8) dX11_simple_78 rfl ?_
  refine rx_lshl dX11_simple_80 ?_
  refine rx_tl (y := vm_big cd a0 1 <<< (8 : Int64)) rfl ?_
  refine rx_aload_n dX11_simple_81 rfl rfl ?_
  refine g_getR hG hf_RX11_7 rfl dX11_simple_82 rfl rfl rfl ?_
  refine rx_iload_n dX11_simple_85 rfl ?_
  refine rx_iload dX11_simple_86 rfl ?_
  refine rx_iadd dX11_simple_88 ?_
  refine rx_ti (y := nI (a0 + 200 * c + 2)) ((nI_add _ _).trans (congrArg nI (by omega))) ?_
  obtain ⟨oc, hoc⟩ : ∃ oc, cd.getD (a0 + 2) 0 = oc := ⟨_, rfl⟩
  have hoc1 := hoct (a0 + 2) (by omega)
  rw [hoc] at hoc1
  refine gmv_iald (j := 200 * c + (a0 + 2)) (v := nI oc) hG dX11_simple_89 rfl rfl rfl (congrArg nI (by omega)) (by omega) (by decide) ((rY_octet hY hc (i := a0 + 2) (by rw [hcd]; omega)).trans (by rw [hcd, hoc])) ?_
  refine rx_i2l dX11_simple_90 ?_
  refine rx_tl (y := lN oc) (nI_l (by omega)) ?_
  refine rx_lor dX11_simple_91 ?_
  refine rx_tl (y := vm_big cd a0 2) (by rw [← hoc, show a0 + 2 = a0 + 1 + 1 by omega]; rfl) ?_
  refine rx_lstore dX11_simple_92 (by decide) ?_
  refine rx_iinc (v := nI 3) dX11_simple_94 rfl ((nI_add _ 1).trans (congrArg nI (by omega))) ?_
  refine rx_goto (tgt := 69) dX11_simple_97 (by decide) ?_
  refine rx_lv (lv' := [(7, .int (nI 3)), (5, .long (vm_big cd a0 2)), (3, .int (nI (200 * c + a0))), (0, .ref 52)]) ⟨rfl, rfl, rfl, rfl, trivial⟩ ?_
  refine rx_iload dX11_simple_69 rfl ?_
  refine rx_bipush (v := nI 8) dX11_simple_71 rfl ?_
  refine rx_icmp_gt (tgt := 100) dX11_simple_73 (by decide) (fun h => absurd h (by decide)) (fun _ => ?_)
  refine rx_lload dX11_simple_76 rfl ?_
  refine rx_bipush (v := nI 8) dX11_simple_78 rfl ?_
  refine rx_lshl dX11_simple_80 ?_
  refine rx_tl (y := vm_big cd a0 2 <<< (8 : Int64)) rfl ?_
  refine rx_aload_n dX11_simple_81 rfl rfl ?_
  refine g_getR hG hf_RX11_7 rfl dX11_simple_82 rfl rfl rfl ?_
  refine rx_iload_n dX11_simple_85 rfl ?_
  refine rx_iload dX11_simple_86 rfl ?_
  refine rx_iadd dX11_simple_88 ?_
  refine rx_ti (y := nI (a0 + 200 * c + 3)) ((nI_add _ _).trans (congrArg nI (by omega))) ?_
  obtain ⟨oc, hoc⟩ : ∃ oc, cd.getD (a0 + 3) 0 = oc := ⟨_, rfl⟩
  have hoc1 := hoct (a0 + 3) (by omega)
  rw [hoc] at hoc1
  refine gmv_iald (j := 200 * c + (a0 + 3)) (v := nI oc) hG dX11_simple_89 rfl rfl rfl (congrArg nI (by omega)) (by omega) (by decide) ((rY_octet hY hc (i := a0 + 3) (by rw [hcd]; omega)).trans (by rw [hcd, hoc])) ?_
  refine rx_i2l dX11_simple_90 ?_
  refine rx_tl (y := lN oc) (nI_l (by omega)) ?_
  refine rx_lor dX11_simple_91 ?_
  refine rx_tl (y := vm_big cd a0 3) (by rw [← hoc, show a0 + 3 = a0 + 1 + 2 by omega]; rfl) ?_
  refine rx_lstore dX11_simple_92 (by decide) ?_
  refine rx_iinc (v := nI 4) dX11_simple_94 rfl ((nI_add _ 1).trans (congrArg nI (by omega))) ?_
  refine rx_goto (tgt := 69) dX11_simple_97 (by decide) ?_
  refine rx_lv (lv' := [(7, .int (nI 4)), (5, .long (vm_big cd a0 3)), (3, .int (nI (200 * c + a0))), (0, .ref 52)]) ⟨rfl, rfl, rfl, rfl, trivial⟩ ?_
  refine rx_iload dX11_simple_69 rfl ?_
  refine rx_bipush (v := nI 8) dX11_simple_71 rfl ?_
  refine rx_icmp_gt (tgt := 100) dX11_simple_73 (by decide) (fun h => absurd h (by decide)) (fun _ => ?_)
  refine rx_lload dX11_simple_76 rfl ?_
  refine rx_bipush (v := nI 8) dX11_simple_78 rfl ?_
  refine rx_lshl dX11_simple_80 ?_
  refine rx_tl (y := vm_big cd a0 3 <<< (8 : Int64)) rfl ?_
  refine rx_aload_n dX11_simple_81 rfl rfl ?_
  refine g_getR hG hf_RX11_7 rfl dX11_simple_82 rfl rfl rfl ?_
  refine rx_iload_n dX11_simple_85 rfl ?_
  refine rx_iload dX11_simple_86 rfl ?_
  refine rx_iadd dX11_simple_88 ?_
  refine rx_ti (y := nI (a0 + 200 * c + 4)) ((nI_add _ _).trans (congrArg nI (by omega))) ?_
  obtain ⟨oc, hoc⟩ : ∃ oc, cd.getD (a0 + 4) 0 = oc := ⟨_, rfl⟩
  have hoc1 := hoct (a0 + 4) (by omega)
  rw [hoc] at hoc1
  refine gmv_iald (j := 200 * c + (a0 + 4)) (v := nI oc) hG dX11_simple_89 rfl rfl rfl (congrArg nI (by omega)) (by omega) (by decide) ((rY_octet hY hc (i := a0 + 4) (by rw [hcd]; omega)).trans (by rw [hcd, hoc])) ?_
  refine rx_i2l dX11_simple_90 ?_
  refine rx_tl (y := lN oc) (nI_l (by omega)) ?_
  refine rx_lor dX11_simple_91 ?_
  refine rx_tl (y := vm_big cd a0 4) (by rw [← hoc, show a0 + 4 = a0 + 1 + 3 by omega]; rfl) ?_
  refine rx_lstore dX11_simple_92 (by decide) ?_
  refine rx_iinc (v := nI 5) dX11_simple_94 rfl ((nI_add _ 1).trans (congrArg nI (by omega))) ?_
  refine rx_goto (tgt := 69) dX11_simple_97 (by decide) ?_
  refine rx_lv (lv' := [(7, .int (nI 5)), (5, .long (vm_big cd a0 4)), (3, .int (nI (200 * c + a0))), (0, .ref 52)]) ⟨rfl, rfl, rfl, rfl, trivial⟩ ?_
  refine rx_iload dX11_simple_69 rfl ?_
  refine rx_bipush (v := nI 8) dX11_simple_71 rfl ?_
  refine rx_icmp_gt (tgt := 100) dX11_simple_73 (by decide) (fun h => absurd h (by decide)) (fun _ => ?_)
  refine rx_lload dX11_simple_76 rfl ?_
  refine rx_bipush (v := nI 8) dX11_simple_78 rfl ?_
  refine rx_lshl dX11_simple_80 ?_
  refine rx_tl (y := vm_big cd a0 4 <<< (8 : Int64)) rfl ?_
  refine rx_aload_n dX11_simple_81 rfl rfl ?_
  refine g_getR hG hf_RX11_7 rfl dX11_simple_82 rfl rfl rfl ?_
  refine rx_iload_n dX11_simple_85 rfl ?_
  refine rx_iload dX11_simple_86 rfl ?_
  refine rx_iadd dX11_simple_88 ?_
  refine rx_ti (y := nI (a0 + 200 * c + 5)) ((nI_add _ _).trans (congrArg nI (by omega))) ?_
  obtain ⟨oc, hoc⟩ : ∃ oc, cd.getD (a0 + 5) 0 = oc := ⟨_, rfl⟩
  have hoc1 := hoct (a0 + 5) (by omega)
  rw [hoc] at hoc1
  refine gmv_iald (j := 200 * c + (a0 + 5)) (v := nI oc) hG dX11_simple_89 rfl rfl rfl (congrArg nI (by omega)) (by omega) (by decide) ((rY_octet hY hc (i := a0 + 5) (by rw [hcd]; omega)).trans (by rw [hcd, hoc])) ?_
  refine rx_i2l dX11_simple_90 ?_
  refine rx_tl (y := lN oc) (nI_l (by omega)) ?_
  refine rx_lor dX11_simple_91 ?_
  refine rx_tl (y := vm_big cd a0 5) (by rw [← hoc, show a0 + 5 = a0 + 1 + 4 by omega]; rfl) ?_
  refine rx_lstore dX11_simple_92 (by decide) ?_
  refine rx_iinc (v := nI 6) dX11_simple_94 rfl ((nI_add _ 1).trans (congrArg nI (by omega))) ?_
  refine rx_goto (tgt := 69) dX11_simple_97 (by decide) ?_
  refine rx_lv (lv' := [(7, .int (nI 6)), (5, .long (vm_big cd a0 5)), (3, .int (nI (200 * c + a0))), (0, .ref 52)]) ⟨rfl, rfl, rfl, rfl, trivial⟩ ?_
  refine rx_iload dX11_simple_69 rfl ?_
  refine rx_bipush (v := nI 8) dX11_simple_71 rfl ?_
  refine rx_icmp_gt (tgt := 100) dX11_simple_73 (by decide) (fun h => absurd h (by decide)) (fun _ => ?_)
  refine rx_lload dX11_simple_76 rfl ?_
  refine rx_bipush (v := nI 8) dX11_simple_78 rfl ?_
  refine rx_lshl dX11_simple_80 ?_
  refine rx_tl (y := vm_big cd a0 5 <<< (8 : Int64)) rfl ?_
  refine rx_aload_n dX11_simple_81 rfl rfl ?_
  refine g_getR hG hf_RX11_7 rfl dX11_simple_82 rfl rfl rfl ?_
  refine rx_iload_n dX11_simple_85 rfl ?_
  refine rx_iload dX11_simple_86 rfl ?_
  refine rx_iadd dX11_simple_88 ?_
  refine rx_ti (y := nI (a0 + 200 * c + 6)) ((nI_add _ _).trans (congrArg nI (by omega))) ?_
  obtain ⟨oc, hoc⟩ : ∃ oc, cd.getD (a0 + 6) 0 = oc := ⟨_, rfl⟩
  have hoc1 := hoct (a0 + 6) (by omega)
  rw [hoc] at hoc1
  refine gmv_iald (j := 200 * c + (a0 + 6)) (v := nI oc) hG dX11_simple_89 rfl rfl rfl (congrArg nI (by omega)) (by omega) (by decide) ((rY_octet hY hc (i := a0 + 6) (by rw [hcd]; omega)).trans (by rw [hcd, hoc])) ?_
  refine rx_i2l dX11_simple_90 ?_
  refine rx_tl (y := lN oc) (nI_l (by omega)) ?_
  refine rx_lor dX11_simple_91 ?_
  refine rx_tl (y := vm_big cd a0 6) (by rw [← hoc, show a0 + 6 = a0 + 1 + 5 by omega]; rfl) ?_
  refine rx_lstore dX11_simple_92 (by decide) ?_
  refine rx_iinc (v := nI 7) dX11_simple_94 rfl ((nI_add _ 1).trans (congrArg nI (by omega))) ?_
  refine rx_goto (tgt := 69) dX11_simple_97 (by decide) ?_
  refine rx_lv (lv' := [(7, .int (nI 7)), (5, .long (vm_big cd a0 6)), (3, .int (nI (200 * c + a0))), (0, .ref 52)]) ⟨rfl, rfl, rfl, rfl, trivial⟩ ?_
  refine rx_iload dX11_simple_69 rfl ?_
  refine rx_bipush (v := nI 8) dX11_simple_71 rfl ?_
  refine rx_icmp_gt (tgt := 100) dX11_simple_73 (by decide) (fun h => absurd h (by decide)) (fun _ => ?_)
  refine rx_lload dX11_simple_76 rfl ?_
  refine rx_bipush (v := nI 8) dX11_simple_78 rfl ?_
  refine rx_lshl dX11_simple_80 ?_
  refine rx_tl (y := vm_big cd a0 6 <<< (8 : Int64)) rfl ?_
  refine rx_aload_n dX11_simple_81 rfl rfl ?_
  refine g_getR hG hf_RX11_7 rfl dX11_simple_82 rfl rfl rfl ?_
  refine rx_iload_n dX11_simple_85 rfl ?_
  refine rx_iload dX11_simple_86 rfl ?_
  refine rx_iadd dX11_simple_88 ?_
  refine rx_ti (y := nI (a0 + 200 * c + 7)) ((nI_add _ _).trans (congrArg nI (by omega))) ?_
  obtain ⟨oc, hoc⟩ : ∃ oc, cd.getD (a0 + 7) 0 = oc := ⟨_, rfl⟩
  have hoc1 := hoct (a0 + 7) (by omega)
  rw [hoc] at hoc1
  refine gmv_iald (j := 200 * c + (a0 + 7)) (v := nI oc) hG dX11_simple_89 rfl rfl rfl (congrArg nI (by omega)) (by omega) (by decide) ((rY_octet hY hc (i := a0 + 7) (by rw [hcd]; omega)).trans (by rw [hcd, hoc])) ?_
  refine rx_i2l dX11_simple_90 ?_
  refine rx_tl (y := lN oc) (nI_l (by omega)) ?_
  refine rx_lor dX11_simple_91 ?_
  refine rx_tl (y := vm_big cd a0 7) (by rw [← hoc, show a0 + 7 = a0 + 1 + 6 by omega]; rfl) ?_
  refine rx_lstore dX11_simple_92 (by decide) ?_
  refine rx_iinc (v := nI 8) dX11_simple_94 rfl ((nI_add _ 1).trans (congrArg nI (by omega))) ?_
  refine rx_goto (tgt := 69) dX11_simple_97 (by decide) ?_
  refine rx_lv (lv' := [(7, .int (nI 8)), (5, .long (vm_big cd a0 7)), (3, .int (nI (200 * c + a0))), (0, .ref 52)]) ⟨rfl, rfl, rfl, rfl, trivial⟩ ?_
  refine rx_iload dX11_simple_69 rfl ?_
  refine rx_bipush (v := nI 8) dX11_simple_71 rfl ?_
  refine rx_icmp_gt (tgt := 100) dX11_simple_73 (by decide) (fun h => absurd h (by decide)) (fun _ => ?_)
  refine rx_lload dX11_simple_76 rfl ?_
  refine rx_bipush (v := nI 8) dX11_simple_78 rfl ?_
  refine rx_lshl dX11_simple_80 ?_
  refine rx_tl (y := vm_big cd a0 7 <<< (8 : Int64)) rfl ?_
  refine rx_aload_n dX11_simple_81 rfl rfl ?_
  refine g_getR hG hf_RX11_7 rfl dX11_simple_82 rfl rfl rfl ?_
  refine rx_iload_n dX11_simple_85 rfl ?_
  refine rx_iload dX11_simple_86 rfl ?_
  refine rx_iadd dX11_simple_88 ?_
  refine rx_ti (y := nI (a0 + 200 * c + 8)) ((nI_add _ _).trans (congrArg nI (by omega))) ?_
  obtain ⟨oc, hoc⟩ : ∃ oc, cd.getD (a0 + 8) 0 = oc := ⟨_, rfl⟩
  have hoc1 := hoct (a0 + 8) (by omega)
  rw [hoc] at hoc1
  refine gmv_iald (j := 200 * c + (a0 + 8)) (v := nI oc) hG dX11_simple_89 rfl rfl rfl (congrArg nI (by omega)) (by omega) (by decide) ((rY_octet hY hc (i := a0 + 8) (by rw [hcd]; omega)).trans (by rw [hcd, hoc])) ?_
  refine rx_i2l dX11_simple_90 ?_
  refine rx_tl (y := lN oc) (nI_l (by omega)) ?_
  refine rx_lor dX11_simple_91 ?_
  refine rx_tl (y := vm_big cd a0 8) (by rw [← hoc, show a0 + 8 = a0 + 1 + 7 by omega]; rfl) ?_
  refine rx_lstore dX11_simple_92 (by decide) ?_
  refine rx_iinc (v := nI 9) dX11_simple_94 rfl ((nI_add _ 1).trans (congrArg nI (by omega))) ?_
  refine rx_goto (tgt := 69) dX11_simple_97 (by decide) ?_
  refine rx_lv (lv' := [(7, .int (nI 9)), (5, .long (vm_big cd a0 8)), (3, .int (nI (200 * c + a0))), (0, .ref 52)]) ⟨rfl, rfl, rfl, rfl, trivial⟩ ?_
  refine rx_iload dX11_simple_69 rfl ?_
  refine rx_bipush (v := nI 8) dX11_simple_71 rfl ?_
  refine rx_icmp_gt (tgt := 100) dX11_simple_73 (by decide) (fun _ => ?_) (fun h => absurd (by decide) h)
  refine rx_aload_n dX11_simple_100 rfl rfl ?_
  refine rx_lload dX11_simple_101 rfl ?_
  refine gv_invV (as := [.long _]) hG okX11_push lk_RX11_221 rfl rfl dX11_simple_103 rfl (by simp [Value.category]) (cr_push hG hY (by omega) (by (try simp only [List.length_cons, List.length_nil]); omega) _) ?_
  rintro _ _ ⟨rfl, _, rfl, hY1⟩
  refine rx_goto (tgt := 203) dX11_simple_106 (by decide) ?_
  exact rx_vret rfl dX11_simple_203 ⟨rfl, _, rfl, Or.inl ⟨_, rfl, hY1⟩⟩

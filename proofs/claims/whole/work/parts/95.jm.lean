theorem dX11_judged_0 : decode cX11_judged 0 = .ok (.iconst 0, 1) := by decide +kernel
theorem dX11_judged_1 : decode cX11_judged 1 = .ok (.istore_n 1, 1) := by decide +kernel
theorem dX11_judged_2 : decode cX11_judged 2 = .ok (.iload_n 1, 1) := by decide +kernel
theorem dX11_judged_3 : decode cX11_judged 3 = .ok (.sipush 200, 3) := by decide +kernel
theorem dX11_judged_6 : decode cX11_judged 6 = .ok (.if_icmp .ge 16, 3) := by decide +kernel
theorem dX11_judged_9 : decode cX11_judged 9 = .ok (.aload_n 0, 1) := by decide +kernel
theorem dX11_judged_10 : decode cX11_judged 10 = .ok (.getfield 19, 3) := by decide +kernel
theorem dX11_judged_13 : decode cX11_judged 13 = .ok (.iload_n 1, 1) := by decide +kernel
theorem dX11_judged_14 : decode cX11_judged 14 = .ok (.iconst 0, 1) := by decide +kernel
theorem dX11_judged_15 : decode cX11_judged 15 = .ok (.bastore, 1) := by decide +kernel
theorem dX11_judged_16 : decode cX11_judged 16 = .ok (.iinc 1 1, 3) := by decide +kernel
theorem dX11_judged_19 : decode cX11_judged 19 = .ok (.goto (-17), 3) := by decide +kernel
theorem dX11_judged_22 : decode cX11_judged 22 = .ok (.iconst 0, 1) := by decide +kernel
theorem dX11_judged_23 : decode cX11_judged 23 = .ok (.istore_n 1, 1) := by decide +kernel
theorem dX11_judged_24 : decode cX11_judged 24 = .ok (.iload_n 1, 1) := by decide +kernel
theorem dX11_judged_25 : decode cX11_judged 25 = .ok (.aload_n 0, 1) := by decide +kernel
theorem dX11_judged_26 : decode cX11_judged 26 = .ok (.getfield 163, 3) := by decide +kernel
theorem dX11_judged_29 : decode cX11_judged 29 = .ok (.if_icmp .ge 56, 3) := by decide +kernel
theorem dX11_judged_32 : decode cX11_judged 32 = .ok (.aload_n 0, 1) := by decide +kernel
theorem dX11_judged_33 : decode cX11_judged 33 = .ok (.getfield 16, 3) := by decide +kernel
theorem dX11_judged_36 : decode cX11_judged 36 = .ok (.iload_n 1, 1) := by decide +kernel
theorem dX11_judged_37 : decode cX11_judged 37 = .ok (.iaload, 1) := by decide +kernel
theorem dX11_judged_38 : decode cX11_judged 38 = .ok (.bipush 39, 2) := by decide +kernel
theorem dX11_judged_40 : decode cX11_judged 40 = .ok (.if_icmp .gt 21, 3) := by decide +kernel
theorem dX11_judged_43 : decode cX11_judged 43 = .ok (.iload_n 1, 1) := by decide +kernel
theorem dX11_judged_44 : decode cX11_judged 44 = .ok (.aload_n 0, 1) := by decide +kernel
theorem dX11_judged_45 : decode cX11_judged 45 = .ok (.getfield 16, 3) := by decide +kernel
theorem dX11_judged_48 : decode cX11_judged 48 = .ok (.iload_n 1, 1) := by decide +kernel
theorem dX11_judged_49 : decode cX11_judged 49 = .ok (.iaload, 1) := by decide +kernel
theorem dX11_judged_50 : decode cX11_judged 50 = .ok (.invokestatic 166, 3) := by decide +kernel
theorem dX11_judged_53 : decode cX11_judged 53 = .ok (.iadd, 1) := by decide +kernel
theorem dX11_judged_54 : decode cX11_judged 54 = .ok (.aload_n 0, 1) := by decide +kernel
theorem dX11_judged_55 : decode cX11_judged 55 = .ok (.getfield 163, 3) := by decide +kernel
theorem dX11_judged_58 : decode cX11_judged 58 = .ok (.if_icmp .le 5, 3) := by decide +kernel
theorem dX11_judged_61 : decode cX11_judged 61 = .ok (.iload_n 1, 1) := by decide +kernel
theorem dX11_judged_62 : decode cX11_judged 62 = .ok (.ireturn, 1) := by decide +kernel
theorem dX11_judged_63 : decode cX11_judged 63 = .ok (.aload_n 0, 1) := by decide +kernel
theorem dX11_judged_64 : decode cX11_judged 64 = .ok (.getfield 19, 3) := by decide +kernel
theorem dX11_judged_67 : decode cX11_judged 67 = .ok (.iload_n 1, 1) := by decide +kernel
theorem dX11_judged_68 : decode cX11_judged 68 = .ok (.iconst 1, 1) := by decide +kernel
theorem dX11_judged_69 : decode cX11_judged 69 = .ok (.bastore, 1) := by decide +kernel
theorem dX11_judged_70 : decode cX11_judged 70 = .ok (.iload_n 1, 1) := by decide +kernel
theorem dX11_judged_71 : decode cX11_judged 71 = .ok (.aload_n 0, 1) := by decide +kernel
theorem dX11_judged_72 : decode cX11_judged 72 = .ok (.getfield 16, 3) := by decide +kernel
theorem dX11_judged_75 : decode cX11_judged 75 = .ok (.iload_n 1, 1) := by decide +kernel
theorem dX11_judged_76 : decode cX11_judged 76 = .ok (.iaload, 1) := by decide +kernel
theorem dX11_judged_77 : decode cX11_judged 77 = .ok (.invokestatic 166, 3) := by decide +kernel
theorem dX11_judged_80 : decode cX11_judged 80 = .ok (.iadd, 1) := by decide +kernel
theorem dX11_judged_81 : decode cX11_judged 81 = .ok (.istore_n 1, 1) := by decide +kernel
theorem dX11_judged_82 : decode cX11_judged 82 = .ok (.goto (-58), 3) := by decide +kernel
theorem dX11_judged_85 : decode cX11_judged 85 = .ok (.iconst 0, 1) := by decide +kernel
theorem dX11_judged_86 : decode cX11_judged 86 = .ok (.istore_n 2, 1) := by decide +kernel
theorem dX11_judged_87 : decode cX11_judged 87 = .ok (.iload_n 2, 1) := by decide +kernel
theorem dX11_judged_88 : decode cX11_judged 88 = .ok (.aload_n 0, 1) := by decide +kernel
theorem dX11_judged_89 : decode cX11_judged 89 = .ok (.getfield 163, 3) := by decide +kernel
theorem dX11_judged_92 : decode cX11_judged 92 = .ok (.if_icmp .ge 83, 3) := by decide +kernel
theorem dX11_judged_95 : decode cX11_judged 95 = .ok (.aload_n 0, 1) := by decide +kernel
theorem dX11_judged_96 : decode cX11_judged 96 = .ok (.getfield 16, 3) := by decide +kernel
theorem dX11_judged_99 : decode cX11_judged 99 = .ok (.iload_n 2, 1) := by decide +kernel
theorem dX11_judged_100 : decode cX11_judged 100 = .ok (.iaload, 1) := by decide +kernel
theorem dX11_judged_101 : decode cX11_judged 101 = .ok (.bipush 19, 2) := by decide +kernel
theorem dX11_judged_103 : decode cX11_judged 103 = .ok (.if_icmp .eq 14, 3) := by decide +kernel
theorem dX11_judged_106 : decode cX11_judged 106 = .ok (.aload_n 0, 1) := by decide +kernel
theorem dX11_judged_107 : decode cX11_judged 107 = .ok (.getfield 16, 3) := by decide +kernel
theorem dX11_judged_110 : decode cX11_judged 110 = .ok (.iload_n 2, 1) := by decide +kernel
theorem dX11_judged_111 : decode cX11_judged 111 = .ok (.iaload, 1) := by decide +kernel
theorem dX11_judged_112 : decode cX11_judged 112 = .ok (.bipush 20, 2) := by decide +kernel
theorem dX11_judged_114 : decode cX11_judged 114 = .ok (.if_icmp .ne 7, 3) := by decide +kernel
theorem dX11_judged_117 : decode cX11_judged 117 = .ok (.iconst 1, 1) := by decide +kernel
theorem dX11_judged_118 : decode cX11_judged 118 = .ok (.goto 4, 3) := by decide +kernel
theorem dX11_judged_121 : decode cX11_judged 121 = .ok (.iconst 0, 1) := by decide +kernel
theorem dX11_judged_122 : decode cX11_judged 122 = .ok (.istore_n 3, 1) := by decide +kernel
theorem dX11_judged_123 : decode cX11_judged 123 = .ok (.iload_n 3, 1) := by decide +kernel
theorem dX11_judged_124 : decode cX11_judged 124 = .ok (.ifCond .eq 36, 3) := by decide +kernel
theorem dX11_judged_127 : decode cX11_judged 127 = .ok (.aload_n 0, 1) := by decide +kernel
theorem dX11_judged_128 : decode cX11_judged 128 = .ok (.getfield 16, 3) := by decide +kernel
theorem dX11_judged_131 : decode cX11_judged 131 = .ok (.iload_n 2, 1) := by decide +kernel
theorem dX11_judged_132 : decode cX11_judged 132 = .ok (.iconst 1, 1) := by decide +kernel
theorem dX11_judged_133 : decode cX11_judged 133 = .ok (.iadd, 1) := by decide +kernel
theorem dX11_judged_134 : decode cX11_judged 134 = .ok (.iaload, 1) := by decide +kernel
theorem dX11_judged_135 : decode cX11_judged 135 = .ok (.aload_n 0, 1) := by decide +kernel
theorem dX11_judged_136 : decode cX11_judged 136 = .ok (.getfield 163, 3) := by decide +kernel
theorem dX11_judged_139 : decode cX11_judged 139 = .ok (.if_icmp .ge 19, 3) := by decide +kernel
theorem dX11_judged_142 : decode cX11_judged 142 = .ok (.aload_n 0, 1) := by decide +kernel
theorem dX11_judged_143 : decode cX11_judged 143 = .ok (.getfield 19, 3) := by decide +kernel
theorem dX11_judged_146 : decode cX11_judged 146 = .ok (.aload_n 0, 1) := by decide +kernel
theorem dX11_judged_147 : decode cX11_judged 147 = .ok (.getfield 16, 3) := by decide +kernel
theorem dX11_judged_150 : decode cX11_judged 150 = .ok (.iload_n 2, 1) := by decide +kernel
theorem dX11_judged_151 : decode cX11_judged 151 = .ok (.iconst 1, 1) := by decide +kernel
theorem dX11_judged_152 : decode cX11_judged 152 = .ok (.iadd, 1) := by decide +kernel
theorem dX11_judged_153 : decode cX11_judged 153 = .ok (.iaload, 1) := by decide +kernel
theorem dX11_judged_154 : decode cX11_judged 154 = .ok (.baload, 1) := by decide +kernel
theorem dX11_judged_155 : decode cX11_judged 155 = .ok (.ifCond .ne 5, 3) := by decide +kernel
theorem dX11_judged_158 : decode cX11_judged 158 = .ok (.iload_n 2, 1) := by decide +kernel
theorem dX11_judged_159 : decode cX11_judged 159 = .ok (.ireturn, 1) := by decide +kernel
theorem dX11_judged_160 : decode cX11_judged 160 = .ok (.iload_n 2, 1) := by decide +kernel
theorem dX11_judged_161 : decode cX11_judged 161 = .ok (.aload_n 0, 1) := by decide +kernel
theorem dX11_judged_162 : decode cX11_judged 162 = .ok (.getfield 16, 3) := by decide +kernel
theorem dX11_judged_165 : decode cX11_judged 165 = .ok (.iload_n 2, 1) := by decide +kernel
theorem dX11_judged_166 : decode cX11_judged 166 = .ok (.iaload, 1) := by decide +kernel
theorem dX11_judged_167 : decode cX11_judged 167 = .ok (.invokestatic 166, 3) := by decide +kernel
theorem dX11_judged_170 : decode cX11_judged 170 = .ok (.iadd, 1) := by decide +kernel
theorem dX11_judged_171 : decode cX11_judged 171 = .ok (.istore_n 2, 1) := by decide +kernel
theorem dX11_judged_172 : decode cX11_judged 172 = .ok (.goto (-85), 3) := by decide +kernel
theorem dX11_judged_175 : decode cX11_judged 175 = .ok (.aload_n 0, 1) := by decide +kernel
theorem dX11_judged_176 : decode cX11_judged 176 = .ok (.getfield 163, 3) := by decide +kernel
theorem dX11_judged_179 : decode cX11_judged 179 = .ok (.ifCond .ne 7, 3) := by decide +kernel
theorem dX11_judged_182 : decode cX11_judged 182 = .ok (.iconst 0, 1) := by decide +kernel
theorem dX11_judged_183 : decode cX11_judged 183 = .ok (.goto 4, 3) := by decide +kernel
theorem dX11_judged_186 : decode cX11_judged 186 = .ok (.iconst (-1), 1) := by decide +kernel
theorem dX11_judged_187 : decode cX11_judged 187 = .ok (.ireturn, 1) := by decide +kernel
theorem dX11_code_0 : decode cX11_code 0 = .ok (.aload_n 0, 1) := by decide +kernel
theorem dX11_code_1 : decode cX11_code 1 = .ok (.aload_n 0, 1) := by decide +kernel
theorem dX11_code_2 : decode cX11_code 2 = .ok (.getfield 172, 3) := by decide +kernel
theorem dX11_code_5 : decode cX11_code 5 = .ok (.bipush 16, 2) := by decide +kernel
theorem dX11_code_7 : decode cX11_code 7 = .ok (.if_icmp .ne 7, 3) := by decide +kernel
theorem dX11_code_10 : decode cX11_code 10 = .ok (.iconst 1, 1) := by decide +kernel
theorem dX11_code_11 : decode cX11_code 11 = .ok (.goto 4, 3) := by decide +kernel
theorem dX11_code_14 : decode cX11_code 14 = .ok (.iconst 0, 1) := by decide +kernel
theorem dX11_code_15 : decode cX11_code 15 = .ok (.putfield 160, 3) := by decide +kernel
theorem dX11_code_18 : decode cX11_code 18 = .ok (.aload_n 0, 1) := by decide +kernel
theorem dX11_code_19 : decode cX11_code 19 = .ok (.getfield 160, 3) := by decide +kernel
theorem dX11_code_22 : decode cX11_code 22 = .ok (.ifCond .le 5, 3) := by decide +kernel
theorem dX11_code_25 : decode cX11_code 25 = .ok (.iconst 0, 1) := by decide +kernel
theorem dX11_code_26 : decode cX11_code 26 = .ok (.ireturn, 1) := by decide +kernel
theorem dX11_code_27 : decode cX11_code 27 = .ok (.aload_n 0, 1) := by decide +kernel
theorem dX11_code_28 : decode cX11_code 28 = .ok (.invokevirtual 175, 3) := by decide +kernel
theorem dX11_code_31 : decode cX11_code 31 = .ok (.istore_n 1, 1) := by decide +kernel
theorem dX11_code_32 : decode cX11_code 32 = .ok (.aload_n 0, 1) := by decide +kernel
theorem dX11_code_33 : decode cX11_code 33 = .ok (.getfield 163, 3) := by decide +kernel
theorem dX11_code_36 : decode cX11_code 36 = .ok (.istore_n 2, 1) := by decide +kernel
theorem dX11_code_37 : decode cX11_code 37 = .ok (.aload_n 0, 1) := by decide +kernel
theorem dX11_code_38 : decode cX11_code 38 = .ok (.iconst 0, 1) := by decide +kernel
theorem dX11_code_39 : decode cX11_code 39 = .ok (.putfield 163, 3) := by decide +kernel
theorem dX11_code_42 : decode cX11_code 42 = .ok (.iload_n 1, 1) := by decide +kernel
theorem dX11_code_43 : decode cX11_code 43 = .ok (.iconst (-1), 1) := by decide +kernel
theorem dX11_code_44 : decode cX11_code 44 = .ok (.if_icmp .eq 8, 3) := by decide +kernel
theorem dX11_code_47 : decode cX11_code 47 = .ok (.bipush (-2), 2) := by decide +kernel
theorem dX11_code_49 : decode cX11_code 49 = .ok (.iload_n 1, 1) := by decide +kernel
theorem dX11_code_50 : decode cX11_code 50 = .ok (.isub, 1) := by decide +kernel
theorem dX11_code_51 : decode cX11_code 51 = .ok (.ireturn, 1) := by decide +kernel
theorem dX11_code_52 : decode cX11_code 52 = .ok (.iconst 0, 1) := by decide +kernel
theorem dX11_code_53 : decode cX11_code 53 = .ok (.istore_n 3, 1) := by decide +kernel
theorem dX11_code_54 : decode cX11_code 54 = .ok (.iload_n 3, 1) := by decide +kernel
theorem dX11_code_55 : decode cX11_code 55 = .ok (.iload_n 2, 1) := by decide +kernel
theorem dX11_code_56 : decode cX11_code 56 = .ok (.if_icmp .ge 30, 3) := by decide +kernel
theorem dX11_code_59 : decode cX11_code 59 = .ok (.aload_n 0, 1) := by decide +kernel
theorem dX11_code_60 : decode cX11_code 60 = .ok (.getfield 7, 3) := by decide +kernel
theorem dX11_code_63 : decode cX11_code 63 = .ok (.sipush 200, 3) := by decide +kernel
theorem dX11_code_66 : decode cX11_code 66 = .ok (.aload_n 0, 1) := by decide +kernel
theorem dX11_code_67 : decode cX11_code 67 = .ok (.getfield 172, 3) := by decide +kernel
theorem dX11_code_70 : decode cX11_code 70 = .ok (.imul, 1) := by decide +kernel
theorem dX11_code_71 : decode cX11_code 71 = .ok (.iload_n 3, 1) := by decide +kernel
theorem dX11_code_72 : decode cX11_code 72 = .ok (.iadd, 1) := by decide +kernel
theorem dX11_code_73 : decode cX11_code 73 = .ok (.aload_n 0, 1) := by decide +kernel
theorem dX11_code_74 : decode cX11_code 74 = .ok (.getfield 16, 3) := by decide +kernel
theorem dX11_code_77 : decode cX11_code 77 = .ok (.iload_n 3, 1) := by decide +kernel
theorem dX11_code_78 : decode cX11_code 78 = .ok (.iaload, 1) := by decide +kernel
theorem dX11_code_79 : decode cX11_code 79 = .ok (.iastore, 1) := by decide +kernel
theorem dX11_code_80 : decode cX11_code 80 = .ok (.iinc 3 1, 3) := by decide +kernel
theorem dX11_code_83 : decode cX11_code 83 = .ok (.goto (-29), 3) := by decide +kernel
theorem dX11_code_86 : decode cX11_code 86 = .ok (.aload_n 0, 1) := by decide +kernel
theorem dX11_code_87 : decode cX11_code 87 = .ok (.getfield 13, 3) := by decide +kernel
theorem dX11_code_90 : decode cX11_code 90 = .ok (.aload_n 0, 1) := by decide +kernel
theorem dX11_code_91 : decode cX11_code 91 = .ok (.getfield 172, 3) := by decide +kernel
theorem dX11_code_94 : decode cX11_code 94 = .ok (.iload_n 2, 1) := by decide +kernel
theorem dX11_code_95 : decode cX11_code 95 = .ok (.iastore, 1) := by decide +kernel
theorem dX11_code_96 : decode cX11_code 96 = .ok (.aload_n 0, 1) := by decide +kernel
theorem dX11_code_97 : decode cX11_code 97 = .ok (.dup, 1) := by decide +kernel
theorem dX11_code_98 : decode cX11_code 98 = .ok (.getfield 172, 3) := by decide +kernel
theorem dX11_code_101 : decode cX11_code 101 = .ok (.iconst 1, 1) := by decide +kernel
theorem dX11_code_102 : decode cX11_code 102 = .ok (.iadd, 1) := by decide +kernel
theorem dX11_code_103 : decode cX11_code 103 = .ok (.putfield 172, 3) := by decide +kernel
theorem dX11_code_106 : decode cX11_code 106 = .ok (.aload_n 0, 1) := by decide +kernel
theorem dX11_code_107 : decode cX11_code 107 = .ok (.getfield 172, 3) := by decide +kernel
theorem dX11_code_110 : decode cX11_code 110 = .ok (.iconst 1, 1) := by decide +kernel
theorem dX11_code_111 : decode cX11_code 111 = .ok (.isub, 1) := by decide +kernel
theorem dX11_code_112 : decode cX11_code 112 = .ok (.ireturn, 1) := by decide +kernel
theorem lm_jz {G : rx_E} {d mc ms : Nat} {C : rx_M} {S : gs_T} {ds : List Nat} {Q : Option Value → rx_M → Prop} {Z : String → rx_M → Prop} (hG : rx_OK G) (kk : ∀ R : Nat → Int32, (∀ j, j < 200 → R j = nI 0) → rx_W G MX11_judged d 22 [(1, .int (nI 200)), (0, .ref 52)] [] (gl C (rx_k1 S.1 56 R, S.2)) mc ms Q Z) : ∀ (m i : Nat) (R : Nat → Int32), i + m = 200 → (∀ j, j < i → R j = nI 0) → rx_W G MX11_judged d 2 [(1, .int (nI i)), (0, .ref 52)] [] (gl C (rx_k1 S.1 56 R, S.2)) mc ms Q Z := by
  intro m
  induction m with
  | zero =>
    intro i R hi hR
    have hi : i = 200 := by omega
    subst hi
    refine rx_iload_n dX11_judged_2 rfl ?_
    refine rx_sipush (v := nI 200) dX11_judged_3 rfl ?_
    refine rx_icmp_ge (tgt := 22) dX11_judged_6 (by decide) (fun _ => ?_) (fun q => absurd (by decide) q)
    exact kk R hR
  | succ m ih =>
    intro i R hi hR
    refine rx_iload_n dX11_judged_2 rfl ?_
    refine rx_sipush (v := nI 200) dX11_judged_3 rfl ?_
    refine rx_icmp_ge (tgt := 22) dX11_judged_6 (by decide) (fun h6 => (absurd h6 (by rw [nI_leI (by omega) (by omega)]; omega))) (fun h6 => ?_)
    refine rx_aload_n dX11_judged_9 rfl rfl ?_
    refine g_getR hG hf_RX11_19 rfl dX11_judged_10 rfl rfl rfl ?_
    refine rx_iload_n dX11_judged_13 rfl ?_
    refine rx_iconst (v := nI 0) dX11_judged_14 rfl ?_
    refine gm_zast (j := i) hG dX11_judged_15 rfl rfl rfl rfl (by omega) (by decide) rfl ?_
    refine rx_iinc (v := nI (i + 1)) dX11_judged_16 rfl ((nI_add _ 1).trans (congrArg nI (by omega))) ?_
    refine rx_goto (tgt := 2) dX11_judged_19 (by decide) ?_
    refine rx_me (mu' := gl C (rx_k1 S.1 56 (fun t => if t = i then nI 0 else R t), S.2)) (by show gl C (rx_u (rx_k1 S.1 56 R) 56 i (nI 0), S.2) = _; rw [u_k1]) ?_
    refine rx_lv (lv' := [(1, .int (nI (i + 1))), (0, .ref 52)]) ⟨rfl, rfl, trivial⟩ ?_
    refine ih (i + 1) _ (by omega) (fun j hj => ?_)
    show (if j = i then nI 0 else R j) = _
    split
    · rfl
    · exact hR j (by omega)
theorem lm_jf {G : rx_E} {d mc ms : Nat} {C : rx_M} {S : gs_T} {ds : List Nat} {Q : Option Value → rx_M → Prop} {Z : String → rx_M → Prop} (hG : rx_OK G) (hD : mD S ds) (hl : ds.length ≤ 200) (hb : ∀ k, k < ds.length → ds.getD k 0 < 256) {J : Option Nat} {Bf : Nat → Bool} (kk1 : ∀ (p : Nat) (R : Nat → Int32), J = some p → Q (some (.int (nI p))) (gl C (rx_k1 S.1 56 R, S.2))) (kk2 : ∀ (k : Nat) (R : Nat → Int32), J = none → (∀ j, j < ds.length → R j = bI (Bf j)) → rx_W G MX11_judged (d + 1) 85 [(1, .int (nI k)), (0, .ref 52)] [] (gl C (rx_k1 S.1 56 R, S.2)) mc ms Q Z) : ∀ (m k : Nat) (B : Nat → Bool) (R : Nat → Int32), k ≤ ds.length → ds.length ≤ k + m → jf ds m k = J → (∀ j, (B j || jb ds m k j) = Bf j) → (∀ j, j < ds.length → R j = bI (B j)) → rx_W G MX11_judged (d + 1) 24 [(1, .int (nI k)), (0, .ref 52)] [] (gl C (rx_k1 S.1 56 R, S.2)) mc ms Q Z := by
  intro m
  induction m with
  | zero =>
    intro k B R hk2 hk hJ hB hR
    have hcR : (rx_k1 S.1 56 R, S.2).1 52 5 = nI ds.length := by show rx_k1 S.1 56 R 52 5 = _; rw [k1_ne _ (by decide)]; exact hD.1
    refine rx_iload_n dX11_judged_24 rfl ?_
    refine rx_aload_n dX11_judged_25 rfl rfl ?_
    refine gmv_getI (v := nI ds.length) hG hf_RX11_163 rfl dX11_judged_26 rfl rfl rfl hcR ?_
    refine rx_icmp_ge (tgt := 85) dX11_judged_29 (by decide) (fun _ => ?_) (fun q => absurd (by rw [nI_leI (by omega) (by omega)]; omega) q)
    have e := hJ
    rw [jf_out (by omega)] at e
    refine kk2 k R e.symm (fun j hj => ?_)
    rw [hR j hj]
    have := hB j
    rw [jb_out (by omega), Bool.or_false] at this
    rw [this]
  | succ m ih =>
    intro k B R hk2 hk hJ hB hR
    have hcR : (rx_k1 S.1 56 R, S.2).1 52 5 = nI ds.length := by show rx_k1 S.1 56 R 52 5 = _; rw [k1_ne _ (by decide)]; exact hD.1
    have hok : ∀ k, k < ds.length → (rx_k1 S.1 56 R, S.2).1 55 k = nI (ds.getD k 0) := fun k hk => by show rx_k1 S.1 56 R 55 k = _; rw [k1_ne _ (by decide)]; exact hD.2 k hk
    by_cases hkl : k < ds.length
    · have hoc := hb k hkl
      by_cases hop : ds.getD k 0 < 40
      · have hs9 : vm_size (ds.getD k 0) ≤ 9 := by unfold vm_size; (repeat' split) <;> omega
        by_cases hsz : k + vm_size (ds.getD k 0) ≤ ds.length
        · skip
          refine rx_iload_n dX11_judged_24 rfl ?_
          refine rx_aload_n dX11_judged_25 rfl rfl ?_
          refine gmv_getI (v := nI ds.length) hG hf_RX11_163 rfl dX11_judged_26 rfl rfl rfl hcR ?_
          refine rx_icmp_ge (tgt := 85) dX11_judged_29 (by decide) (fun h29 => (absurd h29 (by rw [nI_leI (by omega) (by omega)]; omega))) (fun h29 => ?_)
          refine rx_aload_n dX11_judged_32 rfl rfl ?_
          refine g_getR hG hf_RX11_16 rfl dX11_judged_33 rfl rfl rfl ?_
          refine rx_iload_n dX11_judged_36 rfl ?_
          refine gmv_iald (j := k) (v := nI (ds.getD k 0)) hG dX11_judged_37 rfl rfl rfl rfl (by omega) (by decide) (hok k hkl) ?_
          refine rx_bipush (v := nI 39) dX11_judged_38 rfl ?_
          refine rx_icmp_gt (tgt := 61) dX11_judged_40 (by decide) (fun h40 => (absurd h40 (by rw [nI_ltI (by omega) (by omega)]; omega))) (fun h40 => ?_)
          refine rx_iload_n dX11_judged_43 rfl ?_
          refine rx_aload_n dX11_judged_44 rfl rfl ?_
          refine g_getR hG hf_RX11_16 rfl dX11_judged_45 rfl rfl rfl ?_
          refine rx_iload_n dX11_judged_48 rfl ?_
          refine gmv_iald (j := k) (v := nI (ds.getD k 0)) hG dX11_judged_49 rfl rfl rfl rfl (by omega) (by decide) (hok k hkl) ?_
          refine rx_invS0 (as := [.int _]) hG okX11_sizeOf lk_RX11_166 dX11_judged_50 rfl (by simp [Value.category]) (cm_sizeOf hG hop) ?_
          rintro _ _ ⟨rfl, rfl⟩
          refine rx_iadd dX11_judged_53 ?_
          refine rx_ti (y := nI (k + vm_size (ds.getD k 0))) (nI_add _ _) ?_
          refine rx_aload_n dX11_judged_54 rfl rfl ?_
          refine gmv_getI (v := nI ds.length) hG hf_RX11_163 rfl dX11_judged_55 rfl rfl rfl hcR ?_
          refine rx_icmp_le (tgt := 63) dX11_judged_58 (by decide) (fun h58 => ?_) (fun h58 => (absurd (by rw [nI_leI (by omega) (by omega)]; omega) h58)) 
          refine rx_aload_n dX11_judged_63 rfl rfl ?_
          refine g_getR hG hf_RX11_19 rfl dX11_judged_64 rfl rfl rfl ?_
          refine rx_iload_n dX11_judged_67 rfl ?_
          refine rx_iconst (v := nI 1) dX11_judged_68 rfl ?_
          refine gm_zast (j := k) hG dX11_judged_69 rfl rfl rfl rfl (by omega) (by decide) rfl ?_
          refine rx_iload_n dX11_judged_70 rfl ?_
          refine rx_aload_n dX11_judged_71 rfl rfl ?_
          refine g_getR hG hf_RX11_16 rfl dX11_judged_72 rfl rfl rfl ?_
          refine rx_iload_n dX11_judged_75 rfl ?_
          refine gmv_iald (j := k) (v := nI (ds.getD k 0)) hG dX11_judged_76 rfl rfl rfl rfl (by omega) (by decide) (by simpa [rx_ru] using (hok k hkl)) ?_
          refine rx_invS0 (as := [.int _]) hG okX11_sizeOf lk_RX11_166 dX11_judged_77 rfl (by simp [Value.category]) (cm_sizeOf hG hop) ?_
          rintro _ _ ⟨rfl, rfl⟩
          refine rx_iadd dX11_judged_80 ?_
          refine rx_ti (y := nI (k + vm_size (ds.getD k 0))) (nI_add _ _) ?_
          refine rx_istore_n dX11_judged_81 (by decide) ?_
          refine rx_goto (tgt := 24) dX11_judged_82 (by decide) ?_
          refine rx_me (mu' := gl C (rx_k1 S.1 56 (fun t => if t = k then nI 1 else R t), S.2)) (by show gl C (rx_u (rx_k1 S.1 56 R) 56 k (nI 1), S.2) = _; rw [u_k1]) ?_
          refine rx_lv (lv' := [(1, .int (nI (k + vm_size (ds.getD k 0)))), (0, .ref 52)]) ⟨rfl, rfl, trivial⟩ ?_
          refine ih (k + vm_size (ds.getD k 0)) (fun t => if t = k then true else B t) _ hsz (by have := vb_size1 (op := ds.getD k 0); omega) ?_ (jb_go hB hkl) (jR_up (Bf := Bf) hR)
          rw [← hJ, jf, if_pos hkl, if_pos ⟨hop, hsz⟩]
        · skip
          refine rx_iload_n dX11_judged_24 rfl ?_
          refine rx_aload_n dX11_judged_25 rfl rfl ?_
          refine gmv_getI (v := nI ds.length) hG hf_RX11_163 rfl dX11_judged_26 rfl rfl rfl hcR ?_
          refine rx_icmp_ge (tgt := 85) dX11_judged_29 (by decide) (fun h29 => (absurd h29 (by rw [nI_leI (by omega) (by omega)]; omega))) (fun h29 => ?_)
          refine rx_aload_n dX11_judged_32 rfl rfl ?_
          refine g_getR hG hf_RX11_16 rfl dX11_judged_33 rfl rfl rfl ?_
          refine rx_iload_n dX11_judged_36 rfl ?_
          refine gmv_iald (j := k) (v := nI (ds.getD k 0)) hG dX11_judged_37 rfl rfl rfl rfl (by omega) (by decide) (hok k hkl) ?_
          refine rx_bipush (v := nI 39) dX11_judged_38 rfl ?_
          refine rx_icmp_gt (tgt := 61) dX11_judged_40 (by decide) (fun h40 => (absurd h40 (by rw [nI_ltI (by omega) (by omega)]; omega))) (fun h40 => ?_)
          refine rx_iload_n dX11_judged_43 rfl ?_
          refine rx_aload_n dX11_judged_44 rfl rfl ?_
          refine g_getR hG hf_RX11_16 rfl dX11_judged_45 rfl rfl rfl ?_
          refine rx_iload_n dX11_judged_48 rfl ?_
          refine gmv_iald (j := k) (v := nI (ds.getD k 0)) hG dX11_judged_49 rfl rfl rfl rfl (by omega) (by decide) (hok k hkl) ?_
          refine rx_invS0 (as := [.int _]) hG okX11_sizeOf lk_RX11_166 dX11_judged_50 rfl (by simp [Value.category]) (cm_sizeOf hG hop) ?_
          rintro _ _ ⟨rfl, rfl⟩
          refine rx_iadd dX11_judged_53 ?_
          refine rx_ti (y := nI (k + vm_size (ds.getD k 0))) (nI_add _ _) ?_
          refine rx_aload_n dX11_judged_54 rfl rfl ?_
          refine gmv_getI (v := nI ds.length) hG hf_RX11_163 rfl dX11_judged_55 rfl rfl rfl hcR ?_
          refine rx_icmp_le (tgt := 63) dX11_judged_58 (by decide) (fun h58 => (absurd h58 (by rw [nI_leI (by omega) (by omega)]; omega))) (fun h58 => ?_)
          refine rx_iload_n dX11_judged_61 rfl ?_
          exact rx_iret rfl dX11_judged_62 (kk1 k R (by rw [← hJ, jf, if_pos hkl, if_neg (fun q => hsz q.2)]))
      · skip
        refine rx_iload_n dX11_judged_24 rfl ?_
        refine rx_aload_n dX11_judged_25 rfl rfl ?_
        refine gmv_getI (v := nI ds.length) hG hf_RX11_163 rfl dX11_judged_26 rfl rfl rfl hcR ?_
        refine rx_icmp_ge (tgt := 85) dX11_judged_29 (by decide) (fun h29 => (absurd h29 (by rw [nI_leI (by omega) (by omega)]; omega))) (fun h29 => ?_)
        refine rx_aload_n dX11_judged_32 rfl rfl ?_
        refine g_getR hG hf_RX11_16 rfl dX11_judged_33 rfl rfl rfl ?_
        refine rx_iload_n dX11_judged_36 rfl ?_
        refine gmv_iald (j := k) (v := nI (ds.getD k 0)) hG dX11_judged_37 rfl rfl rfl rfl (by omega) (by decide) (hok k hkl) ?_
        refine rx_bipush (v := nI 39) dX11_judged_38 rfl ?_
        refine rx_icmp_gt (tgt := 61) dX11_judged_40 (by decide) (fun h40 => ?_) (fun h40 => (absurd (by rw [nI_ltI (by omega) (by omega)]; omega) h40)) 
        refine rx_iload_n dX11_judged_61 rfl ?_
        exact rx_iret rfl dX11_judged_62 (kk1 k R (by rw [← hJ, jf, if_pos hkl, if_neg (fun q => hop q.1)]))
    · have hkk : ds.length ≤ k := by omega
      refine rx_iload_n dX11_judged_24 rfl ?_
      refine rx_aload_n dX11_judged_25 rfl rfl ?_
      refine gmv_getI (v := nI ds.length) hG hf_RX11_163 rfl dX11_judged_26 rfl rfl rfl hcR ?_
      refine rx_icmp_ge (tgt := 85) dX11_judged_29 (by decide) (fun _ => ?_) (fun q => absurd (by rw [nI_leI (by omega) (by omega)]; omega) q)
      have e := hJ
      rw [jf_out (by omega)] at e
      refine kk2 k R e.symm (fun j hj => ?_)
      rw [hR j hj]
      have := hB j
      rw [jb_out (by omega), Bool.or_false] at this
      rw [this]
theorem lm_jl {G : rx_E} {d mc ms : Nat} {C : rx_M} {S : gs_T} {ds : List Nat} {Q : Option Value → rx_M → Prop} {Z : String → rx_M → Prop} (hG : rx_OK G) (hD : mD S ds) (hl : ds.length ≤ 200) (hb : ∀ k, k < ds.length → ds.getD k 0 < 256) {B : Nat → Bool} (hR : ∀ j, j < ds.length → S.1 56 j = bI (B j)) {J : Option Nat} (kk1 : ∀ p, J = some p → Q (some (.int (nI p))) (gl C S)) (kk2 : ∀ k, J = none → rx_W G MX11_judged (d + 1) 175 [(2, .int (nI k)), (0, .ref 52)] [] (gl C S) mc ms Q Z) : ∀ (m k : Nat), k ≤ ds.length → ds.length ≤ k + m → jf ds m k = none → (∀ j, k ≤ j → B j = jb ds m k j) → jl ds B (ds.length - k) k = J → rx_W G MX11_judged (d + 1) 87 [(2, .int (nI k)), (0, .ref 52)] [] (gl C S) mc ms Q Z := by
  intro m
  induction m with
  | zero =>
    intro k hk2 hk hf hB hJ
    refine rx_iload_n dX11_judged_87 rfl ?_
    refine rx_aload_n dX11_judged_88 rfl rfl ?_
    refine gmv_getI (v := nI ds.length) hG hf_RX11_163 rfl dX11_judged_89 rfl rfl rfl hD.1 ?_
    refine rx_icmp_ge (tgt := 175) dX11_judged_92 (by decide) (fun _ => ?_) (fun q => absurd (by rw [nI_leI (by omega) (by omega)]; omega) q)
    refine kk2 k ?_
    rw [← hJ, show ds.length - k = 0 by omega]
    rfl
  | succ m ih =>
    intro k hk2 hk hf hB hJ
    by_cases hkl : k < ds.length
    · have hoc := hb k hkl
      have hs1 : 1 ≤ vm_size (ds.getD k 0) := vb_size1
      have hfk := hf
      rw [jf, if_pos hkl] at hfk
      by_cases hq : ds.getD k 0 < 40 ∧ k + vm_size (ds.getD k 0) ≤ ds.length
      · rw [if_pos hq] at hfk
        obtain ⟨hop, hsz⟩ := hq
        have hBk : B k = true := (hB k (Nat.le_refl _)).trans (jb_self hkl hk)
        have hgo : ∀ j, k < j → B j = jb ds m (k + vm_size (ds.getD k 0)) j := fun j hj => by
          rw [hB j (by omega), jb, if_pos hkl, if_neg (by omega)]
        have next : ¬ jx ds B k → rx_W G MX11_judged (d + 1) 160 [(2, .int (nI k)), (0, .ref 52)] [] (gl C S) mc ms Q Z := fun hx => by
          refine rx_iload_n dX11_judged_160 rfl ?_
          refine rx_aload_n dX11_judged_161 rfl rfl ?_
          refine g_getR hG hf_RX11_16 rfl dX11_judged_162 rfl rfl rfl ?_
          refine rx_iload_n dX11_judged_165 rfl ?_
          refine gmv_iald (j := k) (v := nI (ds.getD k 0)) hG dX11_judged_166 rfl rfl rfl rfl (by omega) (by decide) (hD.2 k hkl) ?_
          refine rx_invS0 (as := [.int _]) hG okX11_sizeOf lk_RX11_166 dX11_judged_167 rfl (by simp [Value.category]) (cm_sizeOf hG hop) ?_
          rintro _ _ ⟨rfl, rfl⟩
          refine rx_iadd dX11_judged_170 ?_
          refine rx_ti (y := nI (k + vm_size (ds.getD k 0))) (nI_add _ _) ?_
          refine rx_istore_n dX11_judged_171 (by decide) ?_
          refine rx_goto (tgt := 87) dX11_judged_172 (by decide) ?_
          refine rx_lv (lv' := [(2, .int (nI (k + vm_size (ds.getD k 0)))), (0, .ref 52)]) ⟨rfl, rfl, trivial⟩ ?_
          refine ih (k + vm_size (ds.getD k 0)) hsz (by omega) hfk (fun j hj => hgo j (by omega)) ?_
          rw [← hJ, show ds.length - k = (ds.length - (k + vm_size (ds.getD k 0))) + vm_size (ds.getD k 0) by omega]
          refine (jl_skip (fun i h1 h2 => ?_)).symm
          by_cases e : i = k
          · rw [e]; exact hx
          · intro q
            have q1 := q.1
            rw [hgo i (by omega)] at q1
            have := jb_lt q1
            omega
        have rest : ∀ z : Bool, (z = true ↔ (ds.getD k 0 = 19 ∨ ds.getD k 0 = 20)) → rx_W G MX11_judged (d + 1) 122 [(2, .int (nI k)), (0, .ref 52)] [.int (bI z)] (gl C S) mc ms Q Z := fun z hz => by
          refine rx_istore_n dX11_judged_122 (by decide) ?_
          refine rx_iload_n dX11_judged_123 rfl ?_
          cases z with
          | false =>
            refine rx_if_eq (tgt := 160) dX11_judged_124 (by decide) (fun _ => ?_) (fun q => absurd (by decide) q)
            refine rx_lv (lv' := [(2, .int (nI k)), (0, .ref 52)]) ⟨rfl, rfl, trivial⟩ ?_
            exact next (fun q => absurd (hz.mpr q.2.1) (by decide))
          | true =>
            have hj := hz.mp rfl
            have h2 : vm_size (ds.getD k 0) = 2 := by rcases hj with e | e <;> rw [e] <;> rfl
            have hp1 := hb (k + 1) (by omega)
            refine rx_if_eq (tgt := 160) dX11_judged_124 (by decide) (fun q => absurd q (by decide)) (fun _ => ?_)
            refine rx_aload_n dX11_judged_127 rfl rfl ?_
            refine g_getR hG hf_RX11_16 rfl dX11_judged_128 rfl rfl rfl ?_
            refine rx_iload_n dX11_judged_131 rfl ?_
            refine rx_iconst (v := nI 1) dX11_judged_132 rfl ?_
            refine rx_iadd dX11_judged_133 ?_
            refine rx_ti (y := nI (k + 1)) (nI_add _ _) ?_
            refine gmv_iald (j := k + 1) (v := nI (ds.getD (k + 1) 0)) hG dX11_judged_134 rfl rfl rfl rfl (by omega) (by decide) (hD.2 (k + 1) (by omega)) ?_
            refine rx_aload_n dX11_judged_135 rfl rfl ?_
            refine gmv_getI (v := nI ds.length) hG hf_RX11_163 rfl dX11_judged_136 rfl rfl rfl hD.1 ?_
            have lost : ¬ (ds.getD (k + 1) 0 < ds.length ∧ B (ds.getD (k + 1) 0) = true) → rx_W G MX11_judged (d + 1) 158 [(2, .int (nI k)), (0, .ref 52)] [] (gl C S) mc ms Q Z := fun hy => by
              refine rx_iload_n dX11_judged_158 rfl ?_
              refine rx_iret rfl dX11_judged_159 (kk1 k ?_)
              rw [← hJ, show ds.length - k = (ds.length - k - 1) + 1 by omega, jl, if_pos ⟨hBk, hj, hy⟩]
            by_cases ht : ds.getD (k + 1) 0 < ds.length
            · refine rx_icmp_ge (tgt := 158) dX11_judged_139 (by decide) (fun q => absurd q (by rw [nI_leI (by omega) (by omega)]; omega)) (fun _ => ?_)
              refine rx_aload_n dX11_judged_142 rfl rfl ?_
              refine g_getR hG hf_RX11_19 rfl dX11_judged_143 rfl rfl rfl ?_
              refine rx_aload_n dX11_judged_146 rfl rfl ?_
              refine g_getR hG hf_RX11_16 rfl dX11_judged_147 rfl rfl rfl ?_
              refine rx_iload_n dX11_judged_150 rfl ?_
              refine rx_iconst (v := nI 1) dX11_judged_151 rfl ?_
              refine rx_iadd dX11_judged_152 ?_
              refine rx_ti (y := nI (k + 1)) (nI_add _ _) ?_
              refine gmv_iald (j := k + 1) (v := nI (ds.getD (k + 1) 0)) hG dX11_judged_153 rfl rfl rfl rfl (by omega) (by decide) (hD.2 (k + 1) (by omega)) ?_
              refine gmv_zald (j := ds.getD (k + 1) 0) (v := bI (B (ds.getD (k + 1) 0))) hG dX11_judged_154 rfl rfl rfl rfl (by omega) (by decide) (hR _ ht) ?_
              cases hy : B (ds.getD (k + 1) 0) with
              | true =>
                refine rx_if_ne (tgt := 160) dX11_judged_155 (by decide) (fun _ => ?_) (fun q => absurd q (by decide))
                refine rx_lv (lv' := [(2, .int (nI k)), (0, .ref 52)]) ⟨rfl, rfl, trivial⟩ ?_
                exact next (fun q => q.2.2 ⟨ht, hy⟩)
              | false =>
                refine rx_if_ne (tgt := 160) dX11_judged_155 (by decide) (fun q => absurd (by decide) q) (fun _ => ?_)
                refine rx_lv (lv' := [(2, .int (nI k)), (0, .ref 52)]) ⟨rfl, rfl, trivial⟩ ?_
                exact lost (fun q => absurd q.2 (by rw [hy]; decide))
            · refine rx_icmp_ge (tgt := 158) dX11_judged_139 (by decide) (fun _ => ?_) (fun q => absurd (by rw [nI_leI (by omega) (by omega)]; omega) q)
              refine rx_lv (lv' := [(2, .int (nI k)), (0, .ref 52)]) ⟨rfl, rfl, trivial⟩ ?_
              exact lost (fun q => ht q.1)
        refine rx_iload_n dX11_judged_87 rfl ?_
        refine rx_aload_n dX11_judged_88 rfl rfl ?_
        refine gmv_getI (v := nI ds.length) hG hf_RX11_163 rfl dX11_judged_89 rfl rfl rfl hD.1 ?_
        refine rx_icmp_ge (tgt := 175) dX11_judged_92 (by decide) (fun q => absurd q (by rw [nI_leI (by omega) (by omega)]; omega)) (fun _ => ?_)
        refine rx_aload_n dX11_judged_95 rfl rfl ?_
        refine g_getR hG hf_RX11_16 rfl dX11_judged_96 rfl rfl rfl ?_
        refine rx_iload_n dX11_judged_99 rfl ?_
        refine gmv_iald (j := k) (v := nI (ds.getD k 0)) hG dX11_judged_100 rfl rfl rfl rfl (by omega) (by decide) (hD.2 k hkl) ?_
        refine rx_bipush (v := nI 19) dX11_judged_101 rfl ?_
        by_cases h19 : ds.getD k 0 = 19
        · refine rx_icmp_eq (tgt := 117) dX11_judged_103 (by decide) (fun _ => ?_) (fun q => absurd (by rw [h19]) q)
          refine rx_iconst (v := nI 1) dX11_judged_117 rfl ?_
          refine rx_goto (tgt := 122) dX11_judged_118 (by decide) ?_
          exact rest true ⟨fun _ => Or.inl h19, fun _ => rfl⟩
        refine rx_icmp_eq (tgt := 117) dX11_judged_103 (by decide) (fun q => absurd q (by rw [nI_eq (by omega) (by omega)]; exact h19)) (fun _ => ?_)
        refine rx_aload_n dX11_judged_106 rfl rfl ?_
        refine g_getR hG hf_RX11_16 rfl dX11_judged_107 rfl rfl rfl ?_
        refine rx_iload_n dX11_judged_110 rfl ?_
        refine gmv_iald (j := k) (v := nI (ds.getD k 0)) hG dX11_judged_111 rfl rfl rfl rfl (by omega) (by decide) (hD.2 k hkl) ?_
        refine rx_bipush (v := nI 20) dX11_judged_112 rfl ?_
        by_cases h20 : ds.getD k 0 = 20
        · refine rx_icmp_ne (tgt := 121) dX11_judged_114 (by decide) (fun q => absurd (by rw [h20]) q) (fun _ => ?_)
          refine rx_iconst (v := nI 1) dX11_judged_117 rfl ?_
          refine rx_goto (tgt := 122) dX11_judged_118 (by decide) ?_
          exact rest true ⟨fun _ => Or.inr h20, fun _ => rfl⟩
        · refine rx_icmp_ne (tgt := 121) dX11_judged_114 (by decide) (fun _ => ?_) (fun q => absurd q (by rw [nI_eq (by omega) (by omega)]; exact h20))
          refine rx_iconst (v := nI 0) dX11_judged_121 rfl ?_
          exact rest false ⟨fun q => absurd q (by decide), fun q => by omega⟩
      · rw [if_neg hq] at hfk; exact absurd hfk (by simp)
    · have hkk : ds.length ≤ k := by omega
      refine rx_iload_n dX11_judged_87 rfl ?_
      refine rx_aload_n dX11_judged_88 rfl rfl ?_
      refine gmv_getI (v := nI ds.length) hG hf_RX11_163 rfl dX11_judged_89 rfl rfl rfl hD.1 ?_
      refine rx_icmp_ge (tgt := 175) dX11_judged_92 (by decide) (fun _ => ?_) (fun q => absurd (by rw [nI_leI (by omega) (by omega)]; omega) q)
      refine kk2 k ?_
      rw [← hJ, show ds.length - k = 0 by omega]
      rfl
theorem mf_judged {G : rx_E} {d : Nat} {C : rx_M} {S : gs_T} {ds : List Nat} (hG : rx_OK G) (hD : mD S ds) (hl : ds.length ≤ 200) (hb : ∀ k, k < ds.length → ds.getD k 0 < 256) : rx_C G MX11_judged (d + 1) [.ref 52] (gl C S) 0 0 (fun v mu => v = some (.int (jI (jA ds))) ∧ ∃ R, mu = gl C (rx_k1 S.1 56 R, S.2)) := by
  refine rx_meth0 (by decide +kernel) rfl (Nat.le_of_ble_eq_true rfl) ?_
  refine rx_iconst (v := nI 0) dX11_judged_0 rfl ?_
  refine rx_istore_n dX11_judged_1 (by decide) ?_
  refine rx_lv (lv' := [(1, .int (nI 0)), (0, .ref 52)]) ⟨rfl, rfl, trivial⟩ ?_
  refine rx_me (mu' := gl C (rx_k1 S.1 56 (S.1 56), S.2)) (by rw [k1_id]) ?_
  refine lm_jz (ds := ds) hG (fun R hR => ?_) 200 0 (S.1 56) (by omega) (fun j hj => absurd hj (Nat.not_lt_zero _))
  refine rx_iconst (v := nI 0) dX11_judged_22 rfl ?_
  refine rx_istore_n dX11_judged_23 (by decide) ?_
  refine rx_lv (lv' := [(1, .int (nI 0)), (0, .ref 52)]) ⟨rfl, rfl, trivial⟩ ?_
  refine lm_jf (J := jf ds ds.length 0) (Bf := jB ds) hG hD hl hb (fun p R hJ => ⟨by unfold jA; rw [hJ]; rfl, R, rfl⟩) (fun k R hJ hR => ?_) ds.length 0 (fun _ => false) R (Nat.zero_le _) (by omega) rfl (fun j => Bool.false_or _) (fun j hj => (hR j (by omega)).trans rfl)
  have hDR : mD (rx_k1 S.1 56 R, S.2) ds := ⟨by show rx_k1 S.1 56 R 52 5 = _; rw [k1_ne _ (by decide)]; exact hD.1, fun k hk => by show rx_k1 S.1 56 R 55 k = _; rw [k1_ne _ (by decide)]; exact hD.2 k hk⟩
  refine rx_iconst (v := nI 0) dX11_judged_85 rfl ?_
  refine rx_istore_n dX11_judged_86 (by decide) ?_
  refine rx_lv (lv' := [(2, .int (nI 0)), (0, .ref 52)]) ⟨rfl, rfl, trivial⟩ ?_
  have e : ds.length ≠ 0 → jA ds = jl ds (jB ds) ds.length 0 := fun h0 => by unfold jA; rw [hJ]; exact if_neg h0
  refine lm_jl (S := (rx_k1 S.1 56 R, S.2)) (B := jB ds) (J := jl ds (jB ds) ds.length 0) hG hDR hl hb (fun j hj => ?_) (fun p hp => ⟨by have h0 : ds.length ≠ 0 := (fun q => by rw [q] at hp; exact absurd hp (by simp [jl])); rw [e h0, hp]; rfl, R, rfl⟩) (fun k hn => ?_) ds.length 0 (Nat.zero_le _) (by omega) hJ (fun j _ => rfl) (by rw [Nat.sub_zero])
  · show rx_k1 S.1 56 R 56 j = _; rw [k1_eq]; exact hR j hj
  · refine rx_aload_n dX11_judged_175 rfl rfl ?_
    refine gmv_getI (v := nI ds.length) hG hf_RX11_163 rfl dX11_judged_176 rfl rfl rfl hDR.1 ?_
    by_cases h0 : ds.length = 0
    · refine rx_if_ne (tgt := 186) dX11_judged_179 (by decide) (fun q => absurd (by rw [h0]; exact nI_0) q) (fun _ => ?_)
      refine rx_iconst (v := nI 0) dX11_judged_182 rfl ?_
      refine rx_goto (tgt := 187) dX11_judged_183 (by decide) ?_
      exact rx_iret rfl dX11_judged_187 ⟨by unfold jA; rw [hJ]; show some _ = some (Value.int (jI (if ds.length = 0 then some 0 else _))); rw [if_pos h0]; rfl, R, rfl⟩
    · refine rx_if_ne (tgt := 186) dX11_judged_179 (by decide) (fun _ => ?_) (fun q => absurd q (by rw [← nI_0, nI_eq (by omega) (by omega)]; exact h0))
      refine rx_iconst (v := -1) dX11_judged_186 rfl ?_
      exact rx_iret rfl dX11_judged_187 ⟨by rw [e h0, hn]; rfl, R, rfl⟩

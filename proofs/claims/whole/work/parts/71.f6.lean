theorem dX10_vote_0 : decode cX10_vote 0 = .ok (.iload_n 1, 1) := by decide +kernel
theorem dX10_vote_1 : decode cX10_vote 1 = .ok (.i2l, 1) := by decide +kernel
theorem dX10_vote_2 : decode cX10_vote 2 = .ok (.bipush 7, 2) := by decide +kernel
theorem dX10_vote_4 : decode cX10_vote 4 = .ok (.invokestatic 127, 3) := by decide +kernel
theorem dX10_vote_7 : decode cX10_vote 7 = .ok (.ifCond .eq 15, 3) := by decide +kernel
theorem dX10_vote_10 : decode cX10_vote 10 = .ok (.aload_n 0, 1) := by decide +kernel
theorem dX10_vote_11 : decode cX10_vote 11 = .ok (.iload_n 2, 1) := by decide +kernel
theorem dX10_vote_12 : decode cX10_vote 12 = .ok (.invokevirtual 150, 3) := by decide +kernel
theorem dX10_vote_15 : decode cX10_vote 15 = .ok (.ifCond .eq 7, 3) := by decide +kernel
theorem dX10_vote_18 : decode cX10_vote 18 = .ok (.iload_n 2, 1) := by decide +kernel
theorem dX10_vote_19 : decode cX10_vote 19 = .ok (.ifCond .ne 13, 3) := by decide +kernel
theorem dX10_vote_22 : decode cX10_vote 22 = .ok (.new 113, 3) := by decide +kernel
theorem dX10_vote_25 : decode cX10_vote 25 = .ok (.dup, 1) := by decide +kernel
theorem dX10_vote_26 : decode cX10_vote 26 = .ok (.ldc 250, 2) := by decide +kernel
theorem dX10_vote_28 : decode cX10_vote 28 = .ok (.invokespecial 117, 3) := by decide +kernel
theorem dX10_vote_31 : decode cX10_vote 31 = .ok (.athrow, 1) := by decide +kernel
theorem dX10_vote_32 : decode cX10_vote 32 = .ok (.aload_n 0, 1) := by decide +kernel
theorem dX10_vote_33 : decode cX10_vote 33 = .ok (.getfield 31, 3) := by decide +kernel
theorem dX10_vote_36 : decode cX10_vote 36 = .ok (.iload_n 2, 1) := by decide +kernel
theorem dX10_vote_37 : decode cX10_vote 37 = .ok (.aaload, 1) := by decide +kernel
theorem dX10_vote_38 : decode cX10_vote 38 = .ok (.astore_n 3, 1) := by decide +kernel
theorem dX10_vote_39 : decode cX10_vote 39 = .ok (.lconst 1, 1) := by decide +kernel
theorem dX10_vote_40 : decode cX10_vote 40 = .ok (.aload_n 3, 1) := by decide +kernel
theorem dX10_vote_41 : decode cX10_vote 41 = .ok (.getfield 157, 3) := by decide +kernel
theorem dX10_vote_44 : decode cX10_vote 44 = .ok (.lshl, 1) := by decide +kernel
theorem dX10_vote_45 : decode cX10_vote 45 = .ok (.lstore 4, 2) := by decide +kernel
theorem dX10_vote_47 : decode cX10_vote 47 = .ok (.aload_n 0, 1) := by decide +kernel
theorem dX10_vote_48 : decode cX10_vote 48 = .ok (.getfield 52, 3) := by decide +kernel
theorem dX10_vote_51 : decode cX10_vote 51 = .ok (.iload_n 1, 1) := by decide +kernel
theorem dX10_vote_52 : decode cX10_vote 52 = .ok (.laload, 1) := by decide +kernel
theorem dX10_vote_53 : decode cX10_vote 53 = .ok (.lload 4, 2) := by decide +kernel
theorem dX10_vote_55 : decode cX10_vote 55 = .ok (.land, 1) := by decide +kernel
theorem dX10_vote_56 : decode cX10_vote 56 = .ok (.lconst 0, 1) := by decide +kernel
theorem dX10_vote_57 : decode cX10_vote 57 = .ok (.lcmp, 1) := by decide +kernel
theorem dX10_vote_58 : decode cX10_vote 58 = .ok (.ifCond .ne 14, 3) := by decide +kernel
theorem dX10_vote_61 : decode cX10_vote 61 = .ok (.aload_n 0, 1) := by decide +kernel
theorem dX10_vote_62 : decode cX10_vote 62 = .ok (.aload_n 3, 1) := by decide +kernel
theorem dX10_vote_63 : decode cX10_vote 63 = .ok (.getfield 189, 3) := by decide +kernel
theorem dX10_vote_66 : decode cX10_vote 66 = .ok (.invokevirtual 203, 3) := by decide +kernel
theorem dX10_vote_69 : decode cX10_vote 69 = .ok (.ifCond .ne 5, 3) := by decide +kernel
theorem dX10_vote_72 : decode cX10_vote 72 = .ok (.iconst (-1), 1) := by decide +kernel
theorem dX10_vote_73 : decode cX10_vote 73 = .ok (.ireturn, 1) := by decide +kernel
theorem dX10_vote_74 : decode cX10_vote 74 = .ok (.aload_n 0, 1) := by decide +kernel
theorem dX10_vote_75 : decode cX10_vote 75 = .ok (.getfield 52, 3) := by decide +kernel
theorem dX10_vote_78 : decode cX10_vote 78 = .ok (.iload_n 1, 1) := by decide +kernel
theorem dX10_vote_79 : decode cX10_vote 79 = .ok (.dup2, 1) := by decide +kernel
theorem dX10_vote_80 : decode cX10_vote 80 = .ok (.laload, 1) := by decide +kernel
theorem dX10_vote_81 : decode cX10_vote 81 = .ok (.lload 4, 2) := by decide +kernel
theorem dX10_vote_83 : decode cX10_vote 83 = .ok (.lor, 1) := by decide +kernel
theorem dX10_vote_84 : decode cX10_vote 84 = .ok (.lastore, 1) := by decide +kernel
theorem dX10_vote_85 : decode cX10_vote 85 = .ok (.aload_n 3, 1) := by decide +kernel
theorem dX10_vote_86 : decode cX10_vote 86 = .ok (.dup, 1) := by decide +kernel
theorem dX10_vote_87 : decode cX10_vote 87 = .ok (.getfield 200, 3) := by decide +kernel
theorem dX10_vote_90 : decode cX10_vote 90 = .ok (.aload_n 0, 1) := by decide +kernel
theorem dX10_vote_91 : decode cX10_vote 91 = .ok (.getfield 42, 3) := by decide +kernel
theorem dX10_vote_94 : decode cX10_vote 94 = .ok (.iload_n 1, 1) := by decide +kernel
theorem dX10_vote_95 : decode cX10_vote 95 = .ok (.iaload, 1) := by decide +kernel
theorem dX10_vote_96 : decode cX10_vote 96 = .ok (.iadd, 1) := by decide +kernel
theorem dX10_vote_97 : decode cX10_vote 97 = .ok (.putfield 200, 3) := by decide +kernel
theorem dX10_vote_100 : decode cX10_vote 100 = .ok (.aload_n 0, 1) := by decide +kernel
theorem dX10_vote_101 : decode cX10_vote 101 = .ok (.iload_n 2, 1) := by decide +kernel
theorem dX10_vote_102 : decode cX10_vote 102 = .ok (.invokevirtual 203, 3) := by decide +kernel
theorem dX10_vote_105 : decode cX10_vote 105 = .ok (.ifCond .eq 7, 3) := by decide +kernel
theorem dX10_vote_108 : decode cX10_vote 108 = .ok (.iconst 1, 1) := by decide +kernel
theorem dX10_vote_109 : decode cX10_vote 109 = .ok (.goto 4, 3) := by decide +kernel
theorem dX10_vote_112 : decode cX10_vote 112 = .ok (.iconst 0, 1) := by decide +kernel
theorem dX10_vote_113 : decode cX10_vote 113 = .ok (.ireturn, 1) := by decide +kernel
theorem dX11_vote_0 : decode cX11_vote 0 = .ok (.aload_n 0, 1) := by decide +kernel
theorem dX11_vote_1 : decode cX11_vote 1 = .ok (.iload_n 1, 1) := by decide +kernel
theorem dX11_vote_2 : decode cX11_vote 2 = .ok (.ifCond .lt 26, 3) := by decide +kernel
theorem dX11_vote_5 : decode cX11_vote 5 = .ok (.iload_n 1, 1) := by decide +kernel
theorem dX11_vote_6 : decode cX11_vote 6 = .ok (.bipush 6, 2) := by decide +kernel
theorem dX11_vote_8 : decode cX11_vote 8 = .ok (.if_icmp .gt 20, 3) := by decide +kernel
theorem dX11_vote_11 : decode cX11_vote 11 = .ok (.iload_n 2, 1) := by decide +kernel
theorem dX11_vote_12 : decode cX11_vote 12 = .ok (.iconst 1, 1) := by decide +kernel
theorem dX11_vote_13 : decode cX11_vote 13 = .ok (.if_icmp .lt 15, 3) := by decide +kernel
theorem dX11_vote_16 : decode cX11_vote 16 = .ok (.iload_n 2, 1) := by decide +kernel
theorem dX11_vote_17 : decode cX11_vote 17 = .ok (.aload_n 0, 1) := by decide +kernel
theorem dX11_vote_18 : decode cX11_vote 18 = .ok (.getfield 156, 3) := by decide +kernel
theorem dX11_vote_21 : decode cX11_vote 21 = .ok (.if_icmp .ge 7, 3) := by decide +kernel
theorem dX11_vote_24 : decode cX11_vote 24 = .ok (.iconst 0, 1) := by decide +kernel
theorem dX11_vote_25 : decode cX11_vote 25 = .ok (.goto 4, 3) := by decide +kernel
theorem dX11_vote_28 : decode cX11_vote 28 = .ok (.iconst 1, 1) := by decide +kernel
theorem dX11_vote_29 : decode cX11_vote 29 = .ok (.putfield 160, 3) := by decide +kernel
theorem dX11_vote_32 : decode cX11_vote 32 = .ok (.aload_n 0, 1) := by decide +kernel
theorem dX11_vote_33 : decode cX11_vote 33 = .ok (.getfield 160, 3) := by decide +kernel
theorem dX11_vote_36 : decode cX11_vote 36 = .ok (.ifCond .le 5, 3) := by decide +kernel
theorem dX11_vote_39 : decode cX11_vote 39 = .ok (.iconst 0, 1) := by decide +kernel
theorem dX11_vote_40 : decode cX11_vote 40 = .ok (.ireturn, 1) := by decide +kernel
theorem dX11_vote_41 : decode cX11_vote 41 = .ok (.bipush 40, 2) := by decide +kernel
theorem dX11_vote_43 : decode cX11_vote 43 = .ok (.iload_n 1, 1) := by decide +kernel
theorem dX11_vote_44 : decode cX11_vote 44 = .ok (.imul, 1) := by decide +kernel
theorem dX11_vote_45 : decode cX11_vote 45 = .ok (.aload_n 0, 1) := by decide +kernel
theorem dX11_vote_46 : decode cX11_vote 46 = .ok (.getfield 48, 3) := by decide +kernel
theorem dX11_vote_49 : decode cX11_vote 49 = .ok (.iload_n 2, 1) := by decide +kernel
theorem dX11_vote_50 : decode cX11_vote 50 = .ok (.iaload, 1) := by decide +kernel
theorem dX11_vote_51 : decode cX11_vote 51 = .ok (.iadd, 1) := by decide +kernel
theorem dX11_vote_52 : decode cX11_vote 52 = .ok (.istore_n 3, 1) := by decide +kernel
theorem dX11_vote_53 : decode cX11_vote 53 = .ok (.aload_n 0, 1) := by decide +kernel
theorem dX11_vote_54 : decode cX11_vote 54 = .ok (.getfield 63, 3) := by decide +kernel
theorem dX11_vote_57 : decode cX11_vote 57 = .ok (.aload_n 0, 1) := by decide +kernel
theorem dX11_vote_58 : decode cX11_vote 58 = .ok (.getfield 45, 3) := by decide +kernel
theorem dX11_vote_61 : decode cX11_vote 61 = .ok (.iload_n 2, 1) := by decide +kernel
theorem dX11_vote_62 : decode cX11_vote 62 = .ok (.iaload, 1) := by decide +kernel
theorem dX11_vote_63 : decode cX11_vote 63 = .ok (.baload, 1) := by decide +kernel
theorem dX11_vote_64 : decode cX11_vote 64 = .ok (.ifCond .eq 12, 3) := by decide +kernel
theorem dX11_vote_67 : decode cX11_vote 67 = .ok (.aload_n 0, 1) := by decide +kernel
theorem dX11_vote_68 : decode cX11_vote 68 = .ok (.getfield 93, 3) := by decide +kernel
theorem dX11_vote_71 : decode cX11_vote 71 = .ok (.iload_n 3, 1) := by decide +kernel
theorem dX11_vote_72 : decode cX11_vote 72 = .ok (.baload, 1) := by decide +kernel
theorem dX11_vote_73 : decode cX11_vote 73 = .ok (.ifCond .eq 5, 3) := by decide +kernel
theorem dX11_vote_76 : decode cX11_vote 76 = .ok (.iconst (-1), 1) := by decide +kernel
theorem dX11_vote_77 : decode cX11_vote 77 = .ok (.ireturn, 1) := by decide +kernel
theorem dX11_vote_78 : decode cX11_vote 78 = .ok (.aload_n 0, 1) := by decide +kernel
theorem dX11_vote_79 : decode cX11_vote 79 = .ok (.getfield 93, 3) := by decide +kernel
theorem dX11_vote_82 : decode cX11_vote 82 = .ok (.iload_n 3, 1) := by decide +kernel
theorem dX11_vote_83 : decode cX11_vote 83 = .ok (.iconst 1, 1) := by decide +kernel
theorem dX11_vote_84 : decode cX11_vote 84 = .ok (.bastore, 1) := by decide +kernel
theorem dX11_vote_85 : decode cX11_vote 85 = .ok (.aload_n 0, 1) := by decide +kernel
theorem dX11_vote_86 : decode cX11_vote 86 = .ok (.getfield 60, 3) := by decide +kernel
theorem dX11_vote_89 : decode cX11_vote 89 = .ok (.iload_n 2, 1) := by decide +kernel
theorem dX11_vote_90 : decode cX11_vote 90 = .ok (.dup2, 1) := by decide +kernel
theorem dX11_vote_91 : decode cX11_vote 91 = .ok (.iaload, 1) := by decide +kernel
theorem dX11_vote_92 : decode cX11_vote 92 = .ok (.aload_n 0, 1) := by decide +kernel
theorem dX11_vote_93 : decode cX11_vote 93 = .ok (.getfield 90, 3) := by decide +kernel
theorem dX11_vote_96 : decode cX11_vote 96 = .ok (.iload_n 1, 1) := by decide +kernel
theorem dX11_vote_97 : decode cX11_vote 97 = .ok (.iaload, 1) := by decide +kernel
theorem dX11_vote_98 : decode cX11_vote 98 = .ok (.iadd, 1) := by decide +kernel
theorem dX11_vote_99 : decode cX11_vote 99 = .ok (.iastore, 1) := by decide +kernel
theorem dX11_vote_100 : decode cX11_vote 100 = .ok (.iconst 0, 1) := by decide +kernel
theorem dX11_vote_101 : decode cX11_vote 101 = .ok (.istore 4, 2) := by decide +kernel
theorem dX11_vote_103 : decode cX11_vote 103 = .ok (.iconst 0, 1) := by decide +kernel
theorem dX11_vote_104 : decode cX11_vote 104 = .ok (.istore 5, 2) := by decide +kernel
theorem dX11_vote_106 : decode cX11_vote 106 = .ok (.iload 5, 2) := by decide +kernel
theorem dX11_vote_108 : decode cX11_vote 108 = .ok (.bipush 7, 2) := by decide +kernel
theorem dX11_vote_110 : decode cX11_vote 110 = .ok (.if_icmp .ge 21, 3) := by decide +kernel
theorem dX11_vote_113 : decode cX11_vote 113 = .ok (.iload 4, 2) := by decide +kernel
theorem dX11_vote_115 : decode cX11_vote 115 = .ok (.aload_n 0, 1) := by decide +kernel
theorem dX11_vote_116 : decode cX11_vote 116 = .ok (.getfield 90, 3) := by decide +kernel
theorem dX11_vote_119 : decode cX11_vote 119 = .ok (.iload 5, 2) := by decide +kernel
theorem dX11_vote_121 : decode cX11_vote 121 = .ok (.iaload, 1) := by decide +kernel
theorem dX11_vote_122 : decode cX11_vote 122 = .ok (.iadd, 1) := by decide +kernel
theorem dX11_vote_123 : decode cX11_vote 123 = .ok (.istore 4, 2) := by decide +kernel
theorem dX11_vote_125 : decode cX11_vote 125 = .ok (.iinc 5 1, 3) := by decide +kernel
theorem dX11_vote_128 : decode cX11_vote 128 = .ok (.goto (-22), 3) := by decide +kernel
theorem dX11_vote_131 : decode cX11_vote 131 = .ok (.aload_n 0, 1) := by decide +kernel
theorem dX11_vote_132 : decode cX11_vote 132 = .ok (.getfield 63, 3) := by decide +kernel
theorem dX11_vote_135 : decode cX11_vote 135 = .ok (.iload_n 2, 1) := by decide +kernel
theorem dX11_vote_136 : decode cX11_vote 136 = .ok (.aload_n 0, 1) := by decide +kernel
theorem dX11_vote_137 : decode cX11_vote 137 = .ok (.getfield 63, 3) := by decide +kernel
theorem dX11_vote_140 : decode cX11_vote 140 = .ok (.iload_n 2, 1) := by decide +kernel
theorem dX11_vote_141 : decode cX11_vote 141 = .ok (.baload, 1) := by decide +kernel
theorem dX11_vote_142 : decode cX11_vote 142 = .ok (.ifCond .ne 18, 3) := by decide +kernel
theorem dX11_vote_145 : decode cX11_vote 145 = .ok (.iconst 3, 1) := by decide +kernel
theorem dX11_vote_146 : decode cX11_vote 146 = .ok (.aload_n 0, 1) := by decide +kernel
theorem dX11_vote_147 : decode cX11_vote 147 = .ok (.getfield 60, 3) := by decide +kernel
theorem dX11_vote_150 : decode cX11_vote 150 = .ok (.iload_n 2, 1) := by decide +kernel
theorem dX11_vote_151 : decode cX11_vote 151 = .ok (.iaload, 1) := by decide +kernel
theorem dX11_vote_152 : decode cX11_vote 152 = .ok (.imul, 1) := by decide +kernel
theorem dX11_vote_153 : decode cX11_vote 153 = .ok (.iconst 2, 1) := by decide +kernel
theorem dX11_vote_154 : decode cX11_vote 154 = .ok (.iload 4, 2) := by decide +kernel
theorem dX11_vote_156 : decode cX11_vote 156 = .ok (.imul, 1) := by decide +kernel
theorem dX11_vote_157 : decode cX11_vote 157 = .ok (.if_icmp .le 7, 3) := by decide +kernel
theorem dX11_vote_160 : decode cX11_vote 160 = .ok (.iconst 1, 1) := by decide +kernel
theorem dX11_vote_161 : decode cX11_vote 161 = .ok (.goto 4, 3) := by decide +kernel
theorem dX11_vote_164 : decode cX11_vote 164 = .ok (.iconst 0, 1) := by decide +kernel
theorem dX11_vote_165 : decode cX11_vote 165 = .ok (.bastore, 1) := by decide +kernel
theorem dX11_vote_166 : decode cX11_vote 166 = .ok (.aload_n 0, 1) := by decide +kernel
theorem dX11_vote_167 : decode cX11_vote 167 = .ok (.getfield 63, 3) := by decide +kernel
theorem dX11_vote_170 : decode cX11_vote 170 = .ok (.iload_n 2, 1) := by decide +kernel
theorem dX11_vote_171 : decode cX11_vote 171 = .ok (.baload, 1) := by decide +kernel
theorem dX11_vote_172 : decode cX11_vote 172 = .ok (.ifCond .eq 7, 3) := by decide +kernel
theorem dX11_vote_175 : decode cX11_vote 175 = .ok (.iconst 1, 1) := by decide +kernel
theorem dX11_vote_176 : decode cX11_vote 176 = .ok (.goto 4, 3) := by decide +kernel
theorem dX11_vote_179 : decode cX11_vote 179 = .ok (.iconst 0, 1) := by decide +kernel
theorem dX11_vote_180 : decode cX11_vote 180 = .ok (.ireturn, 1) := by decide +kernel
def w_first (P : Nat → Bool) : Nat → Nat → Option Nat
  | 0, _ => none
  | k + 1, i => if P i then some i else w_first P k (i + 1)
def w_ans (r : Option Nat) : Int32 := match r with
  | none => -1
  | some b => nI b
def w_at (w : wW) (h b : Nat) : Bool := (w.2.2.1.2 b).1.2.1 = h ∧ w_cert w.2.2.2.1.1 w.2.2.1.2 b = true
theorem cw_cert {G : rx_E} {d : Nat} {C : rx_M} {S : gs_T} {A : wP} {w : wW} {n b : Nat} (hG : rx_OK G) (hC : rcw A C w) (hv : vW w n) (hn : n ≤ 513) (hb : b < w.2.2.1.1) : rx_C G MX10_isCertain (d + 2) [.ref 0, .int (nI b)] (gl C S) 0 0 (fun v mu => v = some (.int (bI (w_cert w.2.2.2.1.1 w.2.2.1.2 b))) ∧ mu = gl C S) :=
  cf_isCertain hG (rcw_b hC) hv.2.2.2.1.1.2 hb (hC.2.2.2.1.2.1 b hb).1 (hC.2.2.2.1.2.1 b hb).2 ⟨(hC.2.2.2.2.1 0 (by decide)).1, (hC.2.2.2.2.1 1 (by decide)).1, (hC.2.2.2.2.1 2 (by decide)).1, (hC.2.2.2.2.1 3 (by decide)).1, (hC.2.2.2.2.1 4 (by decide)).1, (hC.2.2.2.2.1 5 (by decide)).1, (hC.2.2.2.2.1 6 (by decide)).1⟩ ⟨hv.2.2.2.2 0 (by decide), hv.2.2.2.2 1 (by decide), hv.2.2.2.2 2 (by decide), hv.2.2.2.2 3 (by decide), hv.2.2.2.2 4 (by decide), hv.2.2.2.2 5 (by decide), hv.2.2.2.2 6 (by decide)⟩ (by have := (hv.2.2.2.1.2.1 b hb).1.2.2.2.2; omega) rfl
theorem lc_certain {G : rx_E} {d mc ms : Nat} {C : rx_M} {S : gs_T} {A : wP} {w : wW} {n h : Nat} {Q : Option Value → rx_M → Prop} {Z : String → rx_M → Prop} (hG : rx_OK G) (hC : rcw A C w) (hv : vW w n) (hn : n ≤ 513) (hh : h < 40) : ∀ (k i : Nat), i + k = w.2.2.1.1 → Q (some (.int (w_ans (w_first (w_at w h) k i)))) (gl C S) → rx_W G MX10_certain (d + 3) 22 [(2, .int (nI i)), (0, .ref 0), (1, .int (nI h))] [] (gl C S) mc ms Q Z := by
  have hnb := hv.2.2.2.1.1.2
  intro k
  induction k with
  | zero =>
    intro i hi hQ
    refine rx_iload_n dX10_certain_22 rfl ?_
    refine rx_aload_n dX10_certain_23 rfl rfl ?_
    refine gcv_getI (v := nI w.2.2.1.1) hG hf_RX10_38 rfl dX10_certain_24 rfl rfl rfl (rcw_b hC) ?_
    refine rx_icmp_ge (tgt := 59) dX10_certain_27 (by decide) (fun _ => ?_) (fun q => absurd (by rw [nI_leI (by omega) (by omega)]; omega) q)
    refine rx_iconst (v := -1) dX10_certain_59 rfl ?_
    exact rx_iret rfl dX10_certain_60 hQ
  | succ k ih =>
    intro i hi hQ
    have hib : i < w.2.2.1.1 := by omega
    have hB := hC.2.2.2.1.2.1 i hib
    have hhi := (hv.2.2.2.1.2.1 i hib).1.1
    refine rx_iload_n dX10_certain_22 rfl ?_
    refine rx_aload_n dX10_certain_23 rfl rfl ?_
    refine gcv_getI (v := nI w.2.2.1.1) hG hf_RX10_38 rfl dX10_certain_24 rfl rfl rfl (rcw_b hC) ?_
    refine rx_icmp_ge (tgt := 59) dX10_certain_27 (by decide) (fun q => absurd q (by rw [nI_leI (by omega) (by omega)]; omega)) (fun _ => ?_)
    refine rx_aload_n dX10_certain_30 rfl rfl ?_
    refine g_getR hG hf_RX10_31 rfl dX10_certain_31 rfl rfl rfl ?_
    refine rx_iload_n dX10_certain_34 rfl ?_
    refine gd_aald hG dX10_certain_35 rfl rfl (by decide) rfl (show i < 40 by omega) (by decide) (gk44 (by omega)) hB.1 ?_
    refine gy_getI (v := nI (w.2.2.1.2 i).1.2.1) hG hf_RX10_157 rfl dX10_certain_36 hB.2.1.1 hB.2.2.1.2.1 ?_
    refine rx_iload_n dX10_certain_39 rfl ?_
    have hnx : w_at w h i = false → rx_W G MX10_certain (d + 3) 53 [(2, .int (nI i)), (0, .ref 0), (1, .int (nI h))] [] (gl C S) mc ms Q Z := by
      intro hf
      refine rx_iinc (v := nI (i + 1)) dX10_certain_53 rfl (nI_add _ 1) ?_
      refine rx_goto (tgt := 22) dX10_certain_56 (by decide) ?_
      refine rx_lv (lv' := [(2, .int (nI (i + 1))), (0, .ref 0), (1, .int (nI h))]) ⟨rfl, rfl, rfl, trivial⟩ ?_
      refine ih (i + 1) (by omega) ?_
      have e : w_first (w_at w h) (k + 1) i = w_first (w_at w h) k (i + 1) := by rw [w_first, if_neg (by rw [hf]; decide)]
      rw [e] at hQ
      exact hQ
    refine rx_icmp_ne (tgt := 53) dX10_certain_40 (by decide) (fun q => ?_) (fun q => ?_)
    · rw [nI_eq (by omega) (by omega)] at q
      exact hnx (decide_eq_false (fun r => q r.1))
    · rw [nI_eq (by omega) (by omega)] at q
      refine rx_aload_n dX10_certain_43 rfl rfl ?_
      refine rx_iload_n dX10_certain_44 rfl ?_
      refine gv_invV (as := [.int _]) hG okX10_isCertain lk_RX10_203 rfl rfl dX10_certain_45 rfl (by simp [Value.category]) (cw_cert hG hC hv hn hib) ?_
      rintro _ _ ⟨rfl, rfl⟩
      refine rx_if_eq (tgt := 53) dX10_certain_48 (by decide) (fun r => ?_) (fun r => ?_)
      · exact hnx (decide_eq_false (fun s => (bI_ne _).mpr s.2 r))
      · refine rx_iload_n dX10_certain_51 rfl ?_
        refine rx_iret rfl dX10_certain_52 ?_
        have e : w_first (w_at w h) (k + 1) i = some i := by rw [w_first, if_pos (show w_at w h i = true from decide_eq_true (p := (w.2.2.1.2 i).1.2.1 = h ∧ w_cert w.2.2.2.1.1 w.2.2.1.2 i = true) ⟨q, (bI_ne _).mp r⟩)]
        rw [e] at hQ
        exact hQ
theorem cf_certain_w {G : rx_E} {d : Nat} {C : rx_M} {S : gs_T} (hG : rx_OK G) {x : Int32} (hx : wi_out x 40) : rx_X G MX10_certain (d + 8) [.ref 0, .int x] (gl C S) 8 2000 (fun _ _ => False) (zq C S "java/lang/IndexOutOfBoundsException") := by
  refine rx_meth (by decide +kernel) rfl (Nat.le_of_ble_eq_true rfl) ?_
  refine rx_iload_n dX10_certain_0 rfl ?_
  refine rx_i2l dX10_certain_1 ?_
  refine rx_bipush (v := nI 40) dX10_certain_2 rfl ?_
  refine rx_invS0 (as := [.long _, .int _]) hG okX10_isWithin lk_RX10_127 dX10_certain_4 rfl (by simp [Value.category]) (cw_out hG hx (by omega)) ?_
  rintro _ _ ⟨rfl, rfl⟩
  refine rx_if_ne (tgt := 20) dX10_certain_7 (by decide) (fun h7 => (absurd h7 (by decide))) (fun h7 => ?_)
  exact gx_throw hG rfl rfl th_x hw_880 dX10_certain_10 dX10_certain_13 dX10_certain_14 dX10_certain_16 dX10_certain_19
theorem cf_certain {G : rx_E} {d : Nat} {C : rx_M} {S : gs_T} {A : wP} {w : wW} {n h : Nat} (hG : rx_OK G) (hC : rcw A C w) (hv : vW w n) (hn : n ≤ 513) (hh : h < 40) : rx_X G MX10_certain (d + 8) [.ref 0, .int (nI h)] (gl C S) 8 2000 (fun v mu => v = some (.int (w_ans (w_first (w_at w h) w.2.2.1.1 0))) ∧ ∃ C', mu = gl C' S ∧ C' = C) (fun _ _ => False) := by
  refine rx_meth (by decide +kernel) rfl (Nat.le_of_ble_eq_true rfl) ?_
  refine rx_iload_n dX10_certain_0 rfl ?_
  refine rx_i2l dX10_certain_1 ?_
  refine rx_tl (y := lN h) (nI_l (by omega)) ?_
  refine rx_bipush (v := nI 40) dX10_certain_2 rfl ?_
  refine rx_invS0 (as := [.long _, .int _]) hG okX10_isWithin lk_RX10_127 dX10_certain_4 rfl (by simp [Value.category]) (cw_in hG hh (by decide)) ?_
  rintro _ _ ⟨rfl, rfl⟩
  refine rx_if_ne (tgt := 20) dX10_certain_7 (by decide) (fun _ => ?_) (fun q => absurd q (by decide))
  refine rx_iconst (v := nI 0) dX10_certain_20 rfl ?_
  refine rx_istore_n dX10_certain_21 (by decide) ?_
  refine rx_lv (lv' := [(2, .int (nI 0)), (0, .ref 0), (1, .int (nI h))]) ⟨rfl, rfl, rfl, trivial⟩ ?_
  exact lc_certain hG hC hv hn hh w.2.2.1.1 0 (by omega) ⟨rfl, C, rfl, rfl⟩
theorem lm_certain {G : rx_E} {d mc ms : Nat} {C : rx_M} {S : gs_T} {w : wW} {n h : Nat} {Q : Option Value → rx_M → Prop} {Z : String → rx_M → Prop} (hG : rx_OK G) (hS : rmw S w) (h0 : S.1 52 0 = nI 0) (hv : vW w n) (hh : h < 40) : ∀ (k i : Nat), i + k = w.2.2.1.1 → Q (some (.int (w_ans (w_first (w_at w h) k i)))) (gl C S) → rx_W G MX11_certain d 21 [(2, .int (nI i)), (0, .ref 52), (1, .int (nI h))] [] (gl C S) mc ms Q Z := by
  have hnb := hv.2.2.2.1.1.2
  intro k
  induction k with
  | zero =>
    intro i hi hQ
    refine rx_iload_n dX11_certain_21 rfl ?_
    refine rx_aload_n dX11_certain_22 rfl rfl ?_
    refine gmv_getI (v := nI w.2.2.1.1) hG hf_RX11_156 rfl dX11_certain_23 rfl rfl rfl (rmw_b hS) ?_
    refine rx_icmp_ge (tgt := 63) dX11_certain_26 (by decide) (fun _ => ?_) (fun q => absurd (by rw [nI_leI (by omega) (by omega)]; omega) q)
    refine rx_aload_n dX11_certain_63 rfl rfl ?_
    refine gmv_getI (v := nI 0) hG hf_RX11_160 rfl dX11_certain_64 rfl rfl rfl h0 ?_
    refine rx_if_le (tgt := 74) dX11_certain_67 (by decide) (fun _ => ?_) (fun q => absurd (by decide) q)
    refine rx_iconst (v := -1) dX11_certain_74 rfl ?_
    exact rx_iret rfl dX11_certain_75 hQ
  | succ k ih =>
    intro i hi hQ
    have hib : i < w.2.2.1.1 := by omega
    have hB := hS.2.2.2.1.2 i hib
    have hhi := (hv.2.2.2.1.2.1 i hib).1.1
    refine rx_iload_n dX11_certain_21 rfl ?_
    refine rx_aload_n dX11_certain_22 rfl rfl ?_
    refine gmv_getI (v := nI w.2.2.1.1) hG hf_RX11_156 rfl dX11_certain_23 rfl rfl rfl (rmw_b hS) ?_
    refine rx_icmp_ge (tgt := 63) dX11_certain_26 (by decide) (fun q => absurd q (by rw [nI_leI (by omega) (by omega)]; omega)) (fun _ => ?_)
    refine rx_aload_n dX11_certain_29 rfl rfl ?_
    refine gmv_getI (v := nI 0) hG hf_RX11_160 rfl dX11_certain_30 rfl rfl rfl h0 ?_
    refine rx_if_ne (tgt := 63) dX11_certain_33 (by decide) (fun q => absurd q (by decide)) (fun _ => ?_)
    refine rx_aload_n dX11_certain_36 rfl rfl ?_
    refine g_getR hG hf_RX11_48 rfl dX11_certain_37 rfl rfl rfl ?_
    refine rx_iload_n dX11_certain_40 rfl ?_
    refine gmv_iald (j := i) (v := nI (w.2.2.1.2 i).1.2.1) hG dX11_certain_41 rfl rfl rfl rfl (by omega) (by decide) hB.1.1.2.1 ?_
    refine rx_iload_n dX11_certain_42 rfl ?_
    have hnx : w_at w h i = false → rx_W G MX11_certain d 57 [(2, .int (nI i)), (0, .ref 52), (1, .int (nI h))] [] (gl C S) mc ms Q Z := by
      intro hf
      refine rx_iinc (v := nI (i + 1)) dX11_certain_57 rfl (nI_add _ 1) ?_
      refine rx_goto (tgt := 21) dX11_certain_60 (by decide) ?_
      refine rx_lv (lv' := [(2, .int (nI (i + 1))), (0, .ref 52), (1, .int (nI h))]) ⟨rfl, rfl, rfl, trivial⟩ ?_
      refine ih (i + 1) (by omega) ?_
      have e : w_first (w_at w h) (k + 1) i = w_first (w_at w h) k (i + 1) := by rw [w_first, if_neg (by rw [hf]; decide)]
      rw [e] at hQ
      exact hQ
    refine rx_icmp_ne (tgt := 57) dX11_certain_43 (by decide) (fun q => ?_) (fun q => ?_)
    · rw [nI_eq (by omega) (by omega)] at q
      exact hnx (decide_eq_false (fun r => q r.1))
    · rw [nI_eq (by omega) (by omega)] at q
      refine rx_aload_n dX11_certain_46 rfl rfl ?_
      refine g_getR hG hf_RX11_63 rfl dX11_certain_47 rfl rfl rfl ?_
      refine rx_iload_n dX11_certain_50 rfl ?_
      refine gmv_zald (j := i) (v := bI (w_cert w.2.2.2.1.1 w.2.2.1.2 i)) hG dX11_certain_51 rfl rfl rfl rfl (by omega) (by decide) hB.2 ?_
      refine rx_if_eq (tgt := 57) dX11_certain_52 (by decide) (fun r => ?_) (fun r => ?_)
      · exact hnx (decide_eq_false (fun s => (bI_ne _).mpr s.2 r))
      · refine rx_iload_n dX11_certain_55 rfl ?_
        refine rx_iret rfl dX11_certain_56 ?_
        have e : w_first (w_at w h) (k + 1) i = some i := by rw [w_first, if_pos (show w_at w h i = true from decide_eq_true (p := (w.2.2.1.2 i).1.2.1 = h ∧ w_cert w.2.2.2.1.1 w.2.2.1.2 i = true) ⟨q, (bI_ne _).mp r⟩)]
        rw [e] at hQ
        exact hQ
theorem mf_certain_w {G : rx_E} {d : Nat} {C : rx_M} {S : gs_T} (hG : rx_OK G) {nb : Nat} (h15 : S.1 52 15 = nI nb) (hnb : nb ≤ 40) {x : Int32} (h1b : 1 ≤ nb) (hx : wi_out x 40) : rx_C G MX11_certain d [.ref 52, .int x] (gl C S) 0 0 (fun vv mu => vv = some (.int (nI 0)) ∧ mu = gl C (rx_u S.1 52 0 (nI 1), S.2)) := by
  refine rx_meth0 (by decide +kernel) rfl (Nat.le_of_ble_eq_true rfl) ?_
  refine rx_aload_n dX11_certain_0 rfl rfl ?_
  refine rx_iload_n dX11_certain_1 rfl ?_
  refine rx_if_lt (tgt := 15) dX11_certain_2 (by decide) (fun h2 => ?_) (fun h2 => ?_)
  · refine rx_iconst (v := nI 1) dX11_certain_15 rfl ?_
    refine gm_putI hG hf_RX11_160 (gw_nf rfl rfl) rfl dX11_certain_16 rfl rfl rfl rfl rfl ?_
    refine rx_iconst (v := nI 0) dX11_certain_19 rfl ?_
    refine rx_istore_n dX11_certain_20 (by decide) ?_
    refine rx_iload_n dX11_certain_21 rfl ?_
    refine rx_aload_n dX11_certain_22 rfl rfl ?_
    refine gmv_getI (v := nI nb) hG hf_RX11_156 rfl dX11_certain_23 rfl rfl rfl (by simpa [rx_ru] using h15) ?_
    refine rx_icmp_ge (tgt := 63) dX11_certain_26 (by decide) (fun h26 => (absurd h26 (by rw [nI_leI (by omega) (by omega)]; omega))) (fun h26 => ?_)
    refine rx_aload_n dX11_certain_29 rfl rfl ?_
    refine gmv_getI (v := nI 1) hG hf_RX11_160 rfl dX11_certain_30 rfl rfl rfl (by simp [rx_ru]) ?_
    refine rx_if_ne (tgt := 63) dX11_certain_33 (by decide) (fun h33 => ?_) (fun h33 => (absurd h33 (by decide))) 
    refine rx_aload_n dX11_certain_63 rfl rfl ?_
    refine gmv_getI (v := nI 1) hG hf_RX11_160 rfl dX11_certain_64 rfl rfl rfl (by simp [rx_ru]) ?_
    refine rx_if_le (tgt := 74) dX11_certain_67 (by decide) (fun h67 => (absurd h67 (by decide))) (fun h67 => ?_)
    refine rx_iconst (v := nI 0) dX11_certain_70 rfl ?_
    refine rx_goto (tgt := 75) dX11_certain_71 (by decide) ?_
    exact rx_iret rfl dX11_certain_75 ⟨rfl, rfl⟩
  · refine rx_iload_n dX11_certain_5 rfl ?_
    refine rx_bipush (v := nI 39) dX11_certain_6 rfl ?_
    refine rx_icmp_gt (tgt := 15) dX11_certain_8 (by decide) (fun h8 => ?_) (fun h8 => wi_d2 hx (by decide) (by decide) h2 h8) 
    refine rx_iconst (v := nI 1) dX11_certain_15 rfl ?_
    refine gm_putI hG hf_RX11_160 (gw_nf rfl rfl) rfl dX11_certain_16 rfl rfl rfl rfl rfl ?_
    refine rx_iconst (v := nI 0) dX11_certain_19 rfl ?_
    refine rx_istore_n dX11_certain_20 (by decide) ?_
    refine rx_iload_n dX11_certain_21 rfl ?_
    refine rx_aload_n dX11_certain_22 rfl rfl ?_
    refine gmv_getI (v := nI nb) hG hf_RX11_156 rfl dX11_certain_23 rfl rfl rfl (by simpa [rx_ru] using h15) ?_
    refine rx_icmp_ge (tgt := 63) dX11_certain_26 (by decide) (fun h26 => (absurd h26 (by rw [nI_leI (by omega) (by omega)]; omega))) (fun h26 => ?_)
    refine rx_aload_n dX11_certain_29 rfl rfl ?_
    refine gmv_getI (v := nI 1) hG hf_RX11_160 rfl dX11_certain_30 rfl rfl rfl (by simp [rx_ru]) ?_
    refine rx_if_ne (tgt := 63) dX11_certain_33 (by decide) (fun h33 => ?_) (fun h33 => (absurd h33 (by decide))) 
    refine rx_aload_n dX11_certain_63 rfl rfl ?_
    refine gmv_getI (v := nI 1) hG hf_RX11_160 rfl dX11_certain_64 rfl rfl rfl (by simp [rx_ru]) ?_
    refine rx_if_le (tgt := 74) dX11_certain_67 (by decide) (fun h67 => (absurd h67 (by decide))) (fun h67 => ?_)
    refine rx_iconst (v := nI 0) dX11_certain_70 rfl ?_
    refine rx_goto (tgt := 75) dX11_certain_71 (by decide) ?_
    exact rx_iret rfl dX11_certain_75 ⟨rfl, rfl⟩
theorem mf_certain {G : rx_E} {d : Nat} {C : rx_M} {S : gs_T} {w : wW} {n h : Nat} (hG : rx_OK G) (hS : rmw S w) (hv : vW w n) (hh : h < 40) : rx_C G MX11_certain d [.ref 52, .int (nI h)] (gl C S) 0 0 (fun vv mu => vv = some (.int (w_ans (w_first (w_at w h) w.2.2.1.1 0))) ∧ mu = gl C (rx_u S.1 52 0 (nI 0), S.2)) := by
  refine rx_meth0 (by decide +kernel) rfl (Nat.le_of_ble_eq_true rfl) ?_
  refine rx_aload_n dX11_certain_0 rfl rfl ?_
  refine rx_iload_n dX11_certain_1 rfl ?_
  refine rx_if_lt (tgt := 15) dX11_certain_2 (by decide) (fun h2 => (absurd h2 (nI_pos (by omega)))) (fun h2 => ?_)
  refine rx_iload_n dX11_certain_5 rfl ?_
  refine rx_bipush (v := nI 39) dX11_certain_6 rfl ?_
  refine rx_icmp_gt (tgt := 15) dX11_certain_8 (by decide) (fun h8 => (absurd h8 (by rw [nI_ltI (by omega) (by omega)]; omega))) (fun h8 => ?_)
  refine rx_iconst (v := nI 0) dX11_certain_11 rfl ?_
  refine rx_goto (tgt := 16) dX11_certain_12 (by decide) ?_
  refine gm_putI hG hf_RX11_160 (gw_nf rfl rfl) rfl dX11_certain_16 rfl rfl rfl rfl rfl ?_
  refine rx_iconst (v := nI 0) dX11_certain_19 rfl ?_
  refine rx_istore_n dX11_certain_20 (by decide) ?_
  refine rx_lv (lv' := [(2, .int (nI 0)), (0, .ref 52), (1, .int (nI h))]) ⟨rfl, rfl, rfl, trivial⟩ ?_
  exact lm_certain hG (rmw_th hS) (by simp [rx_ru]) hv hh w.2.2.1.1 0 (by omega) ⟨rfl, rfl⟩
theorem F_certain {G : rx_E} {d n : Nat} {w : wW} (hG : rx_OK G) (hN : rx_NC G) (hv : vW w n) (hn : n ≤ 512) (x : Int32) : fP n w (fun C S Q => rx_H G ML_certain hL_certain (d + 9) [.ref 0, .int x, .ref 101] (gl C S) 8 2000 Q) (fun C S Q => rx_C G MX11_certain (d + 9) [.ref 52, .int x] (gl C S) 0 0 Q) mRI := by
  have hnb := hv.2.2.2.1.1.2
  have h1b := hv.2.2.2.1.1.1
  rcases wi_ix x (N := 40) (by decide) with hx | ⟨h, hh, rfl⟩
  · exact ⟨1, 0, w, by decide, vW_up hv (Nat.le_succ n), fun A C S hC => rx_Hm (HL_certain_x hG hN (cf_certain_w hG hx)) (hR_x hC (by decide)), fun C S hS => rx_Cm (mf_certain_w hG (rmw_b hS) hnb h1b hx) (mRI_t hS (fun h => absurd h (by decide)))⟩
  exact ⟨0, _, w, by decide, vW_up hv (Nat.le_succ n), fun A C S hC => rx_Hm (HL_certain hG (cf_certain hG hC hv (by omega) hh)) (hR_o hC), fun C S hS => rx_Cm (mf_certain hG hS hv hh) (mRI_t hS (fun _ => rfl))⟩

theorem dX10_digest_0 : decode cX10_digest 0 = .ok (.aload_n 0, 1) := by decide +kernel
theorem dX10_digest_1 : decode cX10_digest 1 = .ok (.iload_n 1, 1) := by decide +kernel
theorem dX10_digest_2 : decode cX10_digest 2 = .ok (.invokevirtual 150, 3) := by decide +kernel
theorem dX10_digest_5 : decode cX10_digest 5 = .ok (.ifCond .eq 26, 3) := by decide +kernel
theorem dX10_digest_8 : decode cX10_digest 8 = .ok (.iload_n 2, 1) := by decide +kernel
theorem dX10_digest_9 : decode cX10_digest 9 = .ok (.i2l, 1) := by decide +kernel
theorem dX10_digest_10 : decode cX10_digest 10 = .ok (.bipush 11, 2) := by decide +kernel
theorem dX10_digest_12 : decode cX10_digest 12 = .ok (.invokestatic 127, 3) := by decide +kernel
theorem dX10_digest_15 : decode cX10_digest 15 = .ok (.ifCond .eq 16, 3) := by decide +kernel
theorem dX10_digest_18 : decode cX10_digest 18 = .ok (.iload_n 3, 1) := by decide +kernel
theorem dX10_digest_19 : decode cX10_digest 19 = .ok (.i2l, 1) := by decide +kernel
theorem dX10_digest_20 : decode cX10_digest 20 = .ok (.sipush 1024, 3) := by decide +kernel
theorem dX10_digest_23 : decode cX10_digest 23 = .ok (.iload_n 2, 1) := by decide +kernel
theorem dX10_digest_24 : decode cX10_digest 24 = .ok (.ishr, 1) := by decide +kernel
theorem dX10_digest_25 : decode cX10_digest 25 = .ok (.invokestatic 127, 3) := by decide +kernel
theorem dX10_digest_28 : decode cX10_digest 28 = .ok (.ifCond .ne 13, 3) := by decide +kernel
theorem dX10_digest_31 : decode cX10_digest 31 = .ok (.new 113, 3) := by decide +kernel
theorem dX10_digest_34 : decode cX10_digest 34 = .ok (.dup, 1) := by decide +kernel
theorem dX10_digest_35 : decode cX10_digest 35 = .ok (.ldc 212, 2) := by decide +kernel
theorem dX10_digest_37 : decode cX10_digest 37 = .ok (.invokespecial 117, 3) := by decide +kernel
theorem dX10_digest_40 : decode cX10_digest 40 = .ok (.athrow, 1) := by decide +kernel
theorem dX10_digest_41 : decode cX10_digest 41 = .ok (.aload_n 0, 1) := by decide +kernel
theorem dX10_digest_42 : decode cX10_digest 42 = .ok (.getfield 31, 3) := by decide +kernel
theorem dX10_digest_45 : decode cX10_digest 45 = .ok (.iload_n 1, 1) := by decide +kernel
theorem dX10_digest_46 : decode cX10_digest 46 = .ok (.aaload, 1) := by decide +kernel
theorem dX10_digest_47 : decode cX10_digest 47 = .ok (.getfield 124, 3) := by decide +kernel
theorem dX10_digest_50 : decode cX10_digest 50 = .ok (.iload_n 2, 1) := by decide +kernel
theorem dX10_digest_51 : decode cX10_digest 51 = .ok (.iload_n 3, 1) := by decide +kernel
theorem dX10_digest_52 : decode cX10_digest 52 = .ok (.invokestatic 214, 3) := by decide +kernel
theorem dX10_digest_55 : decode cX10_digest 55 = .ok (.lreturn, 1) := by decide +kernel
theorem dX10_nodeDigest_0 : decode cX10_nodeDigest 0 = .ok (.iload_n 1, 1) := by decide +kernel
theorem dX10_nodeDigest_1 : decode cX10_nodeDigest 1 = .ok (.ifCond .gt 11, 3) := by decide +kernel
theorem dX10_nodeDigest_4 : decode cX10_nodeDigest 4 = .ok (.iload_n 2, 1) := by decide +kernel
theorem dX10_nodeDigest_5 : decode cX10_nodeDigest 5 = .ok (.aload_n 0, 1) := by decide +kernel
theorem dX10_nodeDigest_6 : decode cX10_nodeDigest 6 = .ok (.iload_n 2, 1) := by decide +kernel
theorem dX10_nodeDigest_7 : decode cX10_nodeDigest 7 = .ok (.laload, 1) := by decide +kernel
theorem dX10_nodeDigest_8 : decode cX10_nodeDigest 8 = .ok (.invokestatic 258, 3) := by decide +kernel
theorem dX10_nodeDigest_11 : decode cX10_nodeDigest 11 = .ok (.lreturn, 1) := by decide +kernel
theorem dX10_nodeDigest_12 : decode cX10_nodeDigest 12 = .ok (.aload_n 0, 1) := by decide +kernel
theorem dX10_nodeDigest_13 : decode cX10_nodeDigest 13 = .ok (.iload_n 1, 1) := by decide +kernel
theorem dX10_nodeDigest_14 : decode cX10_nodeDigest 14 = .ok (.iconst 1, 1) := by decide +kernel
theorem dX10_nodeDigest_15 : decode cX10_nodeDigest 15 = .ok (.isub, 1) := by decide +kernel
theorem dX10_nodeDigest_16 : decode cX10_nodeDigest 16 = .ok (.iconst 2, 1) := by decide +kernel
theorem dX10_nodeDigest_17 : decode cX10_nodeDigest 17 = .ok (.iload_n 2, 1) := by decide +kernel
theorem dX10_nodeDigest_18 : decode cX10_nodeDigest 18 = .ok (.imul, 1) := by decide +kernel
theorem dX10_nodeDigest_19 : decode cX10_nodeDigest 19 = .ok (.invokestatic 214, 3) := by decide +kernel
theorem dX10_nodeDigest_22 : decode cX10_nodeDigest 22 = .ok (.aload_n 0, 1) := by decide +kernel
theorem dX10_nodeDigest_23 : decode cX10_nodeDigest 23 = .ok (.iload_n 1, 1) := by decide +kernel
theorem dX10_nodeDigest_24 : decode cX10_nodeDigest 24 = .ok (.iconst 1, 1) := by decide +kernel
theorem dX10_nodeDigest_25 : decode cX10_nodeDigest 25 = .ok (.isub, 1) := by decide +kernel
theorem dX10_nodeDigest_26 : decode cX10_nodeDigest 26 = .ok (.iconst 2, 1) := by decide +kernel
theorem dX10_nodeDigest_27 : decode cX10_nodeDigest 27 = .ok (.iload_n 2, 1) := by decide +kernel
theorem dX10_nodeDigest_28 : decode cX10_nodeDigest 28 = .ok (.imul, 1) := by decide +kernel
theorem dX10_nodeDigest_29 : decode cX10_nodeDigest 29 = .ok (.iconst 1, 1) := by decide +kernel
theorem dX10_nodeDigest_30 : decode cX10_nodeDigest 30 = .ok (.iadd, 1) := by decide +kernel
theorem dX10_nodeDigest_31 : decode cX10_nodeDigest 31 = .ok (.invokestatic 214, 3) := by decide +kernel
theorem dX10_nodeDigest_34 : decode cX10_nodeDigest 34 = .ok (.invokestatic 262, 3) := by decide +kernel
theorem dX10_nodeDigest_37 : decode cX10_nodeDigest 37 = .ok (.lreturn, 1) := by decide +kernel
theorem dX11_digest_0 : decode cX11_digest 0 = .ok (.aload_n 0, 1) := by decide +kernel
theorem dX11_digest_1 : decode cX11_digest 1 = .ok (.aload_n 0, 1) := by decide +kernel
theorem dX11_digest_2 : decode cX11_digest 2 = .ok (.iload_n 1, 1) := by decide +kernel
theorem dX11_digest_3 : decode cX11_digest 3 = .ok (.invokevirtual 318, 3) := by decide +kernel
theorem dX11_digest_6 : decode cX11_digest 6 = .ok (.ifCond .eq 30, 3) := by decide +kernel
theorem dX11_digest_9 : decode cX11_digest 9 = .ok (.iload_n 2, 1) := by decide +kernel
theorem dX11_digest_10 : decode cX11_digest 10 = .ok (.ifCond .lt 26, 3) := by decide +kernel
theorem dX11_digest_13 : decode cX11_digest 13 = .ok (.iload_n 2, 1) := by decide +kernel
theorem dX11_digest_14 : decode cX11_digest 14 = .ok (.bipush 10, 2) := by decide +kernel
theorem dX11_digest_16 : decode cX11_digest 16 = .ok (.if_icmp .gt 20, 3) := by decide +kernel
theorem dX11_digest_19 : decode cX11_digest 19 = .ok (.iload_n 3, 1) := by decide +kernel
theorem dX11_digest_20 : decode cX11_digest 20 = .ok (.ifCond .lt 16, 3) := by decide +kernel
theorem dX11_digest_23 : decode cX11_digest 23 = .ok (.iload_n 3, 1) := by decide +kernel
theorem dX11_digest_24 : decode cX11_digest 24 = .ok (.sipush 1024, 3) := by decide +kernel
theorem dX11_digest_27 : decode cX11_digest 27 = .ok (.iload_n 2, 1) := by decide +kernel
theorem dX11_digest_28 : decode cX11_digest 28 = .ok (.ishr, 1) := by decide +kernel
theorem dX11_digest_29 : decode cX11_digest 29 = .ok (.if_icmp .ge 7, 3) := by decide +kernel
theorem dX11_digest_32 : decode cX11_digest 32 = .ok (.iconst 0, 1) := by decide +kernel
theorem dX11_digest_33 : decode cX11_digest 33 = .ok (.goto 4, 3) := by decide +kernel
theorem dX11_digest_36 : decode cX11_digest 36 = .ok (.iconst 1, 1) := by decide +kernel
theorem dX11_digest_37 : decode cX11_digest 37 = .ok (.putfield 160, 3) := by decide +kernel
theorem dX11_digest_40 : decode cX11_digest 40 = .ok (.aload_n 0, 1) := by decide +kernel
theorem dX11_digest_41 : decode cX11_digest 41 = .ok (.getfield 160, 3) := by decide +kernel
theorem dX11_digest_44 : decode cX11_digest 44 = .ok (.ifCond .le 5, 3) := by decide +kernel
theorem dX11_digest_47 : decode cX11_digest 47 = .ok (.lconst 0, 1) := by decide +kernel
theorem dX11_digest_48 : decode cX11_digest 48 = .ok (.lreturn, 1) := by decide +kernel
theorem dX11_digest_49 : decode cX11_digest 49 = .ok (.iconst 1, 1) := by decide +kernel
theorem dX11_digest_50 : decode cX11_digest 50 = .ok (.iload_n 2, 1) := by decide +kernel
theorem dX11_digest_51 : decode cX11_digest 51 = .ok (.ishl, 1) := by decide +kernel
theorem dX11_digest_52 : decode cX11_digest 52 = .ok (.istore 4, 2) := by decide +kernel
theorem dX11_digest_54 : decode cX11_digest 54 = .ok (.iconst 0, 1) := by decide +kernel
theorem dX11_digest_55 : decode cX11_digest 55 = .ok (.istore 5, 2) := by decide +kernel
theorem dX11_digest_57 : decode cX11_digest 57 = .ok (.iload 5, 2) := by decide +kernel
theorem dX11_digest_59 : decode cX11_digest 59 = .ok (.iload 4, 2) := by decide +kernel
theorem dX11_digest_61 : decode cX11_digest 61 = .ok (.if_icmp .ge 38, 3) := by decide +kernel
theorem dX11_digest_64 : decode cX11_digest 64 = .ok (.aload_n 0, 1) := by decide +kernel
theorem dX11_digest_65 : decode cX11_digest 65 = .ok (.getfield 153, 3) := by decide +kernel
theorem dX11_digest_68 : decode cX11_digest 68 = .ok (.iload 5, 2) := by decide +kernel
theorem dX11_digest_70 : decode cX11_digest 70 = .ok (.iload 4, 2) := by decide +kernel
theorem dX11_digest_72 : decode cX11_digest 72 = .ok (.iload_n 3, 1) := by decide +kernel
theorem dX11_digest_73 : decode cX11_digest 73 = .ok (.imul, 1) := by decide +kernel
theorem dX11_digest_74 : decode cX11_digest 74 = .ok (.iload 5, 2) := by decide +kernel
theorem dX11_digest_76 : decode cX11_digest 76 = .ok (.iadd, 1) := by decide +kernel
theorem dX11_digest_77 : decode cX11_digest 77 = .ok (.aload_n 0, 1) := by decide +kernel
theorem dX11_digest_78 : decode cX11_digest 78 = .ok (.iload_n 1, 1) := by decide +kernel
theorem dX11_digest_79 : decode cX11_digest 79 = .ok (.iload 4, 2) := by decide +kernel
theorem dX11_digest_81 : decode cX11_digest 81 = .ok (.iload_n 3, 1) := by decide +kernel
theorem dX11_digest_82 : decode cX11_digest 82 = .ok (.imul, 1) := by decide +kernel
theorem dX11_digest_83 : decode cX11_digest 83 = .ok (.iload 5, 2) := by decide +kernel
theorem dX11_digest_85 : decode cX11_digest 85 = .ok (.iadd, 1) := by decide +kernel
theorem dX11_digest_86 : decode cX11_digest 86 = .ok (.invokevirtual 327, 3) := by decide +kernel
theorem dX11_digest_89 : decode cX11_digest 89 = .ok (.invokestatic 331, 3) := by decide +kernel
theorem dX11_digest_92 : decode cX11_digest 92 = .ok (.lastore, 1) := by decide +kernel
theorem dX11_digest_93 : decode cX11_digest 93 = .ok (.iinc 5 1, 3) := by decide +kernel
theorem dX11_digest_96 : decode cX11_digest 96 = .ok (.goto (-39), 3) := by decide +kernel
theorem dX11_digest_99 : decode cX11_digest 99 = .ok (.iload 4, 2) := by decide +kernel
theorem dX11_digest_101 : decode cX11_digest 101 = .ok (.iconst 1, 1) := by decide +kernel
theorem dX11_digest_102 : decode cX11_digest 102 = .ok (.if_icmp .le 58, 3) := by decide +kernel
theorem dX11_digest_105 : decode cX11_digest 105 = .ok (.iload 4, 2) := by decide +kernel
theorem dX11_digest_107 : decode cX11_digest 107 = .ok (.iconst 2, 1) := by decide +kernel
theorem dX11_digest_108 : decode cX11_digest 108 = .ok (.idiv, 1) := by decide +kernel
theorem dX11_digest_109 : decode cX11_digest 109 = .ok (.istore 4, 2) := by decide +kernel
theorem dX11_digest_111 : decode cX11_digest 111 = .ok (.iconst 0, 1) := by decide +kernel
theorem dX11_digest_112 : decode cX11_digest 112 = .ok (.istore 5, 2) := by decide +kernel
theorem dX11_digest_114 : decode cX11_digest 114 = .ok (.iload 5, 2) := by decide +kernel
theorem dX11_digest_116 : decode cX11_digest 116 = .ok (.iload 4, 2) := by decide +kernel
theorem dX11_digest_118 : decode cX11_digest 118 = .ok (.if_icmp .ge 39, 3) := by decide +kernel
theorem dX11_digest_121 : decode cX11_digest 121 = .ok (.aload_n 0, 1) := by decide +kernel
theorem dX11_digest_122 : decode cX11_digest 122 = .ok (.getfield 153, 3) := by decide +kernel
theorem dX11_digest_125 : decode cX11_digest 125 = .ok (.iload 5, 2) := by decide +kernel
theorem dX11_digest_127 : decode cX11_digest 127 = .ok (.aload_n 0, 1) := by decide +kernel
theorem dX11_digest_128 : decode cX11_digest 128 = .ok (.getfield 153, 3) := by decide +kernel
theorem dX11_digest_131 : decode cX11_digest 131 = .ok (.iconst 2, 1) := by decide +kernel
theorem dX11_digest_132 : decode cX11_digest 132 = .ok (.iload 5, 2) := by decide +kernel
theorem dX11_digest_134 : decode cX11_digest 134 = .ok (.imul, 1) := by decide +kernel
theorem dX11_digest_135 : decode cX11_digest 135 = .ok (.laload, 1) := by decide +kernel
theorem dX11_digest_136 : decode cX11_digest 136 = .ok (.aload_n 0, 1) := by decide +kernel
theorem dX11_digest_137 : decode cX11_digest 137 = .ok (.getfield 153, 3) := by decide +kernel
theorem dX11_digest_140 : decode cX11_digest 140 = .ok (.iconst 2, 1) := by decide +kernel
theorem dX11_digest_141 : decode cX11_digest 141 = .ok (.iload 5, 2) := by decide +kernel
theorem dX11_digest_143 : decode cX11_digest 143 = .ok (.imul, 1) := by decide +kernel
theorem dX11_digest_144 : decode cX11_digest 144 = .ok (.iconst 1, 1) := by decide +kernel
theorem dX11_digest_145 : decode cX11_digest 145 = .ok (.iadd, 1) := by decide +kernel
theorem dX11_digest_146 : decode cX11_digest 146 = .ok (.laload, 1) := by decide +kernel
theorem dX11_digest_147 : decode cX11_digest 147 = .ok (.invokestatic 335, 3) := by decide +kernel
theorem dX11_digest_150 : decode cX11_digest 150 = .ok (.lastore, 1) := by decide +kernel
theorem dX11_digest_151 : decode cX11_digest 151 = .ok (.iinc 5 1, 3) := by decide +kernel
theorem dX11_digest_154 : decode cX11_digest 154 = .ok (.goto (-40), 3) := by decide +kernel
theorem dX11_digest_157 : decode cX11_digest 157 = .ok (.goto (-58), 3) := by decide +kernel
theorem dX11_digest_160 : decode cX11_digest 160 = .ok (.aload_n 0, 1) := by decide +kernel
theorem dX11_digest_161 : decode cX11_digest 161 = .ok (.getfield 153, 3) := by decide +kernel
theorem dX11_digest_164 : decode cX11_digest 164 = .ok (.iconst 0, 1) := by decide +kernel
theorem dX11_digest_165 : decode cX11_digest 165 = .ok (.laload, 1) := by decide +kernel
theorem dX11_digest_166 : decode cX11_digest 166 = .ok (.lreturn, 1) := by decide +kernel
def w_dg (f : Nat → Int64) : Nat → Nat → Int64
  | 0, i => w_leafd i (f i)
  | l + 1, i => w_both (w_dg f l (2 * i)) (w_dg f l (2 * i + 1))
theorem sh_lv : ∀ a, a < 11 → nI 1024 >>> (nI a &&& 31) = nI (1024 / 2 ^ a) := by decide +kernel
theorem sl_lv : ∀ a, a < 11 → nI 1 <<< (nI a &&& 31) = nI (2 ^ a) := by decide +kernel
theorem lv_le {l i : Nat} (hl : l < 11) (hi : i < 1024 / 2 ^ l) : 2 ^ l * i + 2 ^ l ≤ 1024 := by
  have hc : l = 0 ∨ l = 1 ∨ l = 2 ∨ l = 3 ∨ l = 4 ∨ l = 5 ∨ l = 6 ∨ l = 7 ∨ l = 8 ∨ l = 9 ∨ l = 10 := by omega
  rcases hc with rfl | rfl | rfl | rfl | rfl | rfl | rfl | rfl | rfl | rfl | rfl <;> simp at hi ⊢ <;> omega
theorem lv_sm {l : Nat} (hl : l < 11) : 1024 / 2 ^ l ≤ 1024 := Nat.div_le_self _ _
theorem cf_node {G : rx_E} {C : rx_M} {S : gs_T} {f : Nat → Int64} {a : Nat} (hG : rx_OK G) (ha : rk C a 14 1024) (hf : ∀ k, k < 1024 → C.2.1 a k = f k) : ∀ (l i d : Nat), 2 ^ l * i + 2 ^ l ≤ 1024 → l < 11 → rx_C G MX10_nodeDigest (d + l + 2) [.ref a, .int (nI l), .int (nI i)] (gl C S) 0 0 (fun v mu => v = some (.long (w_dg f l i)) ∧ mu = gl C S) := by
  intro l
  induction l with
  | zero =>
    intro i d hi _
    have hi : i < 1024 := by simp at hi; omega
    refine rx_meth0 (by decide +kernel) rfl (Nat.le_of_ble_eq_true rfl) ?_
    refine rx_iload_n dX10_nodeDigest_0 rfl ?_
    refine rx_if_gt (tgt := 12) dX10_nodeDigest_1 (by decide) (fun q => absurd q (by decide)) (fun _ => ?_)
    refine rx_iload_n dX10_nodeDigest_4 rfl ?_
    refine rx_aload_n dX10_nodeDigest_5 rfl rfl ?_
    refine rx_iload_n dX10_nodeDigest_6 rfl ?_
    refine gy_lald (j := i) (v := f i) hG dX10_nodeDigest_7 ha rfl hi (by decide) (hf i hi) ?_
    refine rx_invS0 (as := [.int _, .long _]) hG okX10_leafDigest lk_RX10_258 dX10_nodeDigest_8 rfl (by simp [Value.category]) (cf_leafd hG hi) ?_
    rintro _ _ ⟨rfl, rfl⟩
    exact rx_lret rfl dX10_nodeDigest_11 ⟨rfl, rfl⟩
  | succ l ih =>
    intro i d hi hl
    have e2 : 2 ^ (l + 1) = 2 * 2 ^ l := by rw [Nat.pow_succ, Nat.mul_comm]
    have h1 : 2 ^ l * (2 * i) = 2 * 2 ^ l * i := by rw [Nat.mul_left_comm, Nat.mul_assoc]
    have h2 : 2 ^ l * (2 * i + 1) = 2 * 2 ^ l * i + 2 ^ l := by rw [Nat.mul_add, h1, Nat.mul_one]
    rw [e2] at hi
    have hi' : i ≤ 2 * 2 ^ l * i := Nat.le_mul_of_pos_left i (Nat.mul_pos (by decide) (Nat.two_pow_pos l))
    refine rx_meth0 (by decide +kernel) rfl (Nat.le_of_ble_eq_true rfl) ?_
    refine rx_iload_n dX10_nodeDigest_0 rfl ?_
    refine rx_if_gt (tgt := 12) dX10_nodeDigest_1 (by decide) (fun _ => ?_) (fun q => absurd (by rw [← nI_0, nI_ltI (by omega) (by omega)]; omega) q)
    refine rx_aload_n dX10_nodeDigest_12 rfl rfl ?_
    refine rx_iload_n dX10_nodeDigest_13 rfl ?_
    refine rx_iconst (v := nI 1) dX10_nodeDigest_14 rfl ?_
    refine rx_isub dX10_nodeDigest_15 ?_
    refine rx_ti (y := nI l) ((pk_sub (by omega)).trans (congrArg nI (by omega))) ?_
    refine rx_iconst (v := nI 2) dX10_nodeDigest_16 rfl ?_
    refine rx_iload_n dX10_nodeDigest_17 rfl ?_
    refine rx_imul dX10_nodeDigest_18 ?_
    refine rx_ti (y := nI (2 * i)) (pk_mul _ _) ?_
    refine rx_invS0 (as := [.ref _, .int _, .int _]) hG okX10_nodeDigest lk_RX10_214 dX10_nodeDigest_19 rfl (by simp [Value.category]) (ih (2 * i) d (by omega) (by omega)) ?_
    rintro _ _ ⟨rfl, rfl⟩
    refine rx_aload_n dX10_nodeDigest_22 rfl rfl ?_
    refine rx_iload_n dX10_nodeDigest_23 rfl ?_
    refine rx_iconst (v := nI 1) dX10_nodeDigest_24 rfl ?_
    refine rx_isub dX10_nodeDigest_25 ?_
    refine rx_ti (y := nI l) ((pk_sub (by omega)).trans (congrArg nI (by omega))) ?_
    refine rx_iconst (v := nI 2) dX10_nodeDigest_26 rfl ?_
    refine rx_iload_n dX10_nodeDigest_27 rfl ?_
    refine rx_imul dX10_nodeDigest_28 ?_
    refine rx_ti (y := nI (2 * i)) (pk_mul _ _) ?_
    refine rx_iconst (v := nI 1) dX10_nodeDigest_29 rfl ?_
    refine rx_iadd dX10_nodeDigest_30 ?_
    refine rx_ti (y := nI (2 * i + 1)) (nI_add _ _) ?_
    refine rx_invS0 (as := [.ref _, .int _, .int _]) hG okX10_nodeDigest lk_RX10_214 dX10_nodeDigest_31 rfl (by simp [Value.category]) (ih (2 * i + 1) d (by omega) (by omega)) ?_
    rintro _ _ ⟨rfl, rfl⟩
    refine rx_invS0 (as := [.long _, .long _]) hG okX10_pairDigest lk_RX10_262 dX10_nodeDigest_34 rfl (by simp [Value.category]) (cf_pair hG) ?_
    rintro _ _ ⟨rfl, rfl⟩
    exact rx_lret rfl dX10_nodeDigest_37 ⟨rfl, rfl⟩
theorem cf_digest_b {G : rx_E} {d : Nat} {C : rx_M} {S : gs_T} (hG : rx_OK G) {nb : Nat} (h05 : C.1 0 5 = nI nb) (hnb : nb ≤ 40) {x y z : Int32} (hx : wi_out x nb) : rx_X G MX10_digest (d + 19) [.ref 0, .int x, .int y, .int z] (gl C S) 8 2000 (fun _ _ => False) (zq C S "java/lang/IndexOutOfBoundsException") := by
  refine rx_meth (by decide +kernel) rfl (Nat.le_of_ble_eq_true rfl) ?_
  refine rx_aload_n dX10_digest_0 rfl rfl ?_
  refine rx_iload_n dX10_digest_1 rfl ?_
  refine gv_invV (as := [.int _]) hG okX10_isBlock lk_RX10_150 rfl rfl dX10_digest_2 rfl (by simp [Value.category]) (cf_isBlockO hG h05 hnb hx) ?_
  rintro _ _ ⟨rfl, rfl⟩
  refine rx_if_eq (tgt := 31) dX10_digest_5 (by decide) (fun h5 => ?_) (fun h5 => (absurd h5 (by decide))) 
  exact gx_throw hG rfl rfl th_x hw_874 dX10_digest_31 dX10_digest_34 dX10_digest_35 dX10_digest_37 dX10_digest_40
theorem cf_digest_l {G : rx_E} {d : Nat} {C : rx_M} {S : gs_T} (hG : rx_OK G) {nb : Nat} (h05 : C.1 0 5 = nI nb) (hnb : nb ≤ 40) {b : Nat} {y z : Int32} (hb : b < nb) (hy : wi_out y 11) : rx_X G MX10_digest (d + 19) [.ref 0, .int (nI b), .int y, .int z] (gl C S) 8 2000 (fun _ _ => False) (zq C S "java/lang/IndexOutOfBoundsException") := by
  refine rx_meth (by decide +kernel) rfl (Nat.le_of_ble_eq_true rfl) ?_
  refine rx_aload_n dX10_digest_0 rfl rfl ?_
  refine rx_iload_n dX10_digest_1 rfl ?_
  refine gv_invV (as := [.int _]) hG okX10_isBlock lk_RX10_150 rfl rfl dX10_digest_2 rfl (by simp [Value.category]) (cf_isBlock hG h05 hnb hb) ?_
  rintro _ _ ⟨rfl, rfl⟩
  refine rx_if_eq (tgt := 31) dX10_digest_5 (by decide) (fun h5 => (absurd h5 (by decide))) (fun h5 => ?_)
  refine rx_iload_n dX10_digest_8 rfl ?_
  refine rx_i2l dX10_digest_9 ?_
  refine rx_bipush (v := nI 11) dX10_digest_10 rfl ?_
  refine rx_invS0 (as := [.long _, .int _]) hG okX10_isWithin lk_RX10_127 dX10_digest_12 rfl (by simp [Value.category]) (cw_out hG hy (by omega)) ?_
  rintro _ _ ⟨rfl, rfl⟩
  refine rx_if_eq (tgt := 31) dX10_digest_15 (by decide) (fun h15 => ?_) (fun h15 => (absurd h15 (by decide))) 
  exact gx_throw hG rfl rfl th_x hw_874 dX10_digest_31 dX10_digest_34 dX10_digest_35 dX10_digest_37 dX10_digest_40
theorem cf_digest_i {G : rx_E} {d : Nat} {C : rx_M} {S : gs_T} (hG : rx_OK G) {nb : Nat} (h05 : C.1 0 5 = nI nb) (hnb : nb ≤ 40) {b l : Nat} {z : Int32} (hb : b < nb) (hl : l < 11) (hz : wi_out z (1024 / 2 ^ l)) : rx_X G MX10_digest (d + 19) [.ref 0, .int (nI b), .int (nI l), .int z] (gl C S) 8 2000 (fun _ _ => False) (zq C S "java/lang/IndexOutOfBoundsException") := by
  refine rx_meth (by decide +kernel) rfl (Nat.le_of_ble_eq_true rfl) ?_
  have hsm := lv_sm hl
  refine rx_aload_n dX10_digest_0 rfl rfl ?_
  refine rx_iload_n dX10_digest_1 rfl ?_
  refine gv_invV (as := [.int _]) hG okX10_isBlock lk_RX10_150 rfl rfl dX10_digest_2 rfl (by simp [Value.category]) (cf_isBlock hG h05 hnb hb) ?_
  rintro _ _ ⟨rfl, rfl⟩
  refine rx_if_eq (tgt := 31) dX10_digest_5 (by decide) (fun h5 => (absurd h5 (by decide))) (fun h5 => ?_)
  refine rx_iload_n dX10_digest_8 rfl ?_
  refine rx_i2l dX10_digest_9 ?_
  refine rx_tl (y := lN l) (nI_l (by omega)) ?_
  refine rx_bipush (v := nI 11) dX10_digest_10 rfl ?_
  refine rx_invS0 (as := [.long _, .int _]) hG okX10_isWithin lk_RX10_127 dX10_digest_12 rfl (by simp [Value.category]) (cw_in hG hl (by omega)) ?_
  rintro _ _ ⟨rfl, rfl⟩
  refine rx_if_eq (tgt := 31) dX10_digest_15 (by decide) (fun h15 => (absurd h15 (by decide))) (fun h15 => ?_)
  refine rx_iload_n dX10_digest_18 rfl ?_
  refine rx_i2l dX10_digest_19 ?_
  refine rx_sipush (v := nI 1024) dX10_digest_20 rfl ?_
  refine rx_iload_n dX10_digest_23 rfl ?_
  refine rx_ishr dX10_digest_24 ?_
  refine rx_ti (y := nI (1024 / 2 ^ l)) (sh_lv l hl) ?_
  refine rx_invS0 (as := [.long _, .int _]) hG okX10_isWithin lk_RX10_127 dX10_digest_25 rfl (by simp [Value.category]) (cw_out hG hz (by omega)) ?_
  rintro _ _ ⟨rfl, rfl⟩
  refine rx_if_ne (tgt := 41) dX10_digest_28 (by decide) (fun h28 => (absurd h28 (by decide))) (fun h28 => ?_)
  exact gx_throw hG rfl rfl th_x hw_874 dX10_digest_31 dX10_digest_34 dX10_digest_35 dX10_digest_37 dX10_digest_40
theorem cf_digest {G : rx_E} {d : Nat} {C : rx_M} {S : gs_T} (hG : rx_OK G) {nb : Nat} (h05 : C.1 0 5 = nI nb) (hnb : nb ≤ 40) {b : Nat} {a : wA} {q : wB} (hb : b < nb) (hr : C.2.2.1 44 b = some a.1) (hB : cB1 C a q) {l i : Nat} (hl : l < 11) (hi : i < 1024 / 2 ^ l) : rx_X G MX10_digest (d + 19) [.ref 0, .int (nI b), .int (nI l), .int (nI i)] (gl C S) 8 2000 (fun v mu => v = some (.long (w_dg (lf q.2.1) l i)) ∧ ∃ C', mu = gl C' S ∧ C' = C) (fun _ _ => False) := by
  refine rx_meth (by decide +kernel) rfl (Nat.le_of_ble_eq_true rfl) ?_
  have hsm := lv_sm hl
  have hnd : rx_C G MX10_nodeDigest (d + 18) [.ref a.2.1, .int (nI l), .int (nI i)] (gl C S) 0 0 (fun v mu => v = some (.long (w_dg (lf q.2.1) l i)) ∧ mu = gl C S) := by
    have h := cf_node (S := S) hG hB.2.2.1.1.1 hB.2.2.1.2 l i (d + 16 - l) (lv_le hl hi) hl
    rw [show d + 16 - l + l + 2 = d + 18 by omega] at h
    exact h
  refine rx_aload_n dX10_digest_0 rfl rfl ?_
  refine rx_iload_n dX10_digest_1 rfl ?_
  refine gv_invV (as := [.int _]) hG okX10_isBlock lk_RX10_150 rfl rfl dX10_digest_2 rfl (by simp [Value.category]) (cf_isBlock hG h05 hnb hb) ?_
  rintro _ _ ⟨rfl, rfl⟩
  refine rx_if_eq (tgt := 31) dX10_digest_5 (by decide) (fun h5 => (absurd h5 (by decide))) (fun h5 => ?_)
  refine rx_iload_n dX10_digest_8 rfl ?_
  refine rx_i2l dX10_digest_9 ?_
  refine rx_tl (y := lN l) (nI_l (by omega)) ?_
  refine rx_bipush (v := nI 11) dX10_digest_10 rfl ?_
  refine rx_invS0 (as := [.long _, .int _]) hG okX10_isWithin lk_RX10_127 dX10_digest_12 rfl (by simp [Value.category]) (cw_in hG hl (by omega)) ?_
  rintro _ _ ⟨rfl, rfl⟩
  refine rx_if_eq (tgt := 31) dX10_digest_15 (by decide) (fun h15 => (absurd h15 (by decide))) (fun h15 => ?_)
  refine rx_iload_n dX10_digest_18 rfl ?_
  refine rx_i2l dX10_digest_19 ?_
  refine rx_tl (y := lN i) (nI_l (by omega)) ?_
  refine rx_sipush (v := nI 1024) dX10_digest_20 rfl ?_
  refine rx_iload_n dX10_digest_23 rfl ?_
  refine rx_ishr dX10_digest_24 ?_
  refine rx_ti (y := nI (1024 / 2 ^ l)) (sh_lv l hl) ?_
  refine rx_invS0 (as := [.long _, .int _]) hG okX10_isWithin lk_RX10_127 dX10_digest_25 rfl (by simp [Value.category]) (cw_in hG hi (by omega)) ?_
  rintro _ _ ⟨rfl, rfl⟩
  refine rx_if_ne (tgt := 41) dX10_digest_28 (by decide) (fun h28 => ?_) (fun h28 => (absurd h28 (by decide))) 
  refine rx_aload_n dX10_digest_41 rfl rfl ?_
  refine g_getR hG hf_RX10_31 rfl dX10_digest_42 rfl rfl rfl ?_
  refine rx_iload_n dX10_digest_45 rfl ?_
  refine gd_aald hG dX10_digest_46 rfl rfl (by decide) rfl (show b < 40 by omega) (by decide) (gk44 (by omega)) hr ?_
  refine gy_getR hG hf_RX10_124 rfl dX10_digest_47 hB.1.1 hB.2.1.2.2.1 ?_
  refine rx_iload_n dX10_digest_50 rfl ?_
  refine rx_iload_n dX10_digest_51 rfl ?_
  refine rx_invS0 (as := [.ref _, .int _, .int _]) hG okX10_nodeDigest lk_RX10_214 dX10_digest_52 rfl (by simp [Value.category]) hnd ?_
  rintro _ _ ⟨rfl, rfl⟩
  exact rx_lret rfl dX10_digest_55 ⟨rfl, C, rfl, rfl⟩
theorem mf_digest_b {G : rx_E} {d : Nat} {C : rx_M} {S : gs_T} (hG : rx_OK G) {nb : Nat} (h15 : S.1 52 15 = nI nb) (hnb : nb ≤ 40) {x y z : Int32} (hx : wi_out x nb) : rx_C G MX11_digest (d + 2) [.ref 52, .int x, .int y, .int z] (gl C S) 0 0 (fun vv mu => vv = some (.long 0) ∧ mu = gl C (rx_u S.1 52 0 (nI 1), S.2)) := by
  refine rx_meth0 (by decide +kernel) rfl (Nat.le_of_ble_eq_true rfl) ?_
  refine rx_aload_n dX11_digest_0 rfl rfl ?_
  refine rx_aload_n dX11_digest_1 rfl rfl ?_
  refine rx_iload_n dX11_digest_2 rfl ?_
  refine gv_invV (as := [.int _]) hG okX11_isBlock lk_RX11_318 rfl rfl dX11_digest_3 rfl (by simp [Value.category]) (mf_isBlockO hG h15 hnb hx) ?_
  rintro _ _ ⟨rfl, rfl⟩
  refine rx_if_eq (tgt := 36) dX11_digest_6 (by decide) (fun h6 => ?_) (fun h6 => (absurd h6 (by decide))) 
  refine rx_iconst (v := nI 1) dX11_digest_36 rfl ?_
  refine gm_putI hG hf_RX11_160 (gw_nf rfl rfl) rfl dX11_digest_37 rfl rfl rfl rfl rfl ?_
  refine rx_aload_n dX11_digest_40 rfl rfl ?_
  refine gmv_getI (v := nI 1) hG hf_RX11_160 rfl dX11_digest_41 rfl rfl rfl (by simp [rx_ru]) ?_
  refine rx_if_le (tgt := 49) dX11_digest_44 (by decide) (fun h44 => (absurd h44 (by decide))) (fun h44 => ?_)
  refine rx_lconst (v := 0) dX11_digest_47 rfl ?_
  exact rx_lret rfl dX11_digest_48 ⟨rfl, rfl⟩
theorem mf_digest_l {G : rx_E} {d : Nat} {C : rx_M} {S : gs_T} (hG : rx_OK G) {nb : Nat} (h15 : S.1 52 15 = nI nb) (hnb : nb ≤ 40) {b : Nat} {y z : Int32} (hb : b < nb) (hy : wi_out y 11) : rx_C G MX11_digest (d + 2) [.ref 52, .int (nI b), .int y, .int z] (gl C S) 0 0 (fun vv mu => vv = some (.long 0) ∧ mu = gl C (rx_u S.1 52 0 (nI 1), S.2)) := by
  refine rx_meth0 (by decide +kernel) rfl (Nat.le_of_ble_eq_true rfl) ?_
  refine rx_aload_n dX11_digest_0 rfl rfl ?_
  refine rx_aload_n dX11_digest_1 rfl rfl ?_
  refine rx_iload_n dX11_digest_2 rfl ?_
  refine gv_invV (as := [.int _]) hG okX11_isBlock lk_RX11_318 rfl rfl dX11_digest_3 rfl (by simp [Value.category]) (mf_isBlock hG h15 hnb hb) ?_
  rintro _ _ ⟨rfl, rfl⟩
  refine rx_if_eq (tgt := 36) dX11_digest_6 (by decide) (fun h6 => (absurd h6 (by decide))) (fun h6 => ?_)
  refine rx_iload_n dX11_digest_9 rfl ?_
  refine rx_if_lt (tgt := 36) dX11_digest_10 (by decide) (fun h10 => ?_) (fun h10 => ?_)
  · refine rx_iconst (v := nI 1) dX11_digest_36 rfl ?_
    refine gm_putI hG hf_RX11_160 (gw_nf rfl rfl) rfl dX11_digest_37 rfl rfl rfl rfl rfl ?_
    refine rx_aload_n dX11_digest_40 rfl rfl ?_
    refine gmv_getI (v := nI 1) hG hf_RX11_160 rfl dX11_digest_41 rfl rfl rfl (by simp [rx_ru]) ?_
    refine rx_if_le (tgt := 49) dX11_digest_44 (by decide) (fun h44 => (absurd h44 (by decide))) (fun h44 => ?_)
    refine rx_lconst (v := 0) dX11_digest_47 rfl ?_
    exact rx_lret rfl dX11_digest_48 ⟨rfl, rfl⟩
  · refine rx_iload_n dX11_digest_13 rfl ?_
    refine rx_bipush (v := nI 10) dX11_digest_14 rfl ?_
    refine rx_icmp_gt (tgt := 36) dX11_digest_16 (by decide) (fun h16 => ?_) (fun h16 => wi_d2 hy (by decide) (by decide) h10 h16) 
    refine rx_iconst (v := nI 1) dX11_digest_36 rfl ?_
    refine gm_putI hG hf_RX11_160 (gw_nf rfl rfl) rfl dX11_digest_37 rfl rfl rfl rfl rfl ?_
    refine rx_aload_n dX11_digest_40 rfl rfl ?_
    refine gmv_getI (v := nI 1) hG hf_RX11_160 rfl dX11_digest_41 rfl rfl rfl (by simp [rx_ru]) ?_
    refine rx_if_le (tgt := 49) dX11_digest_44 (by decide) (fun h44 => (absurd h44 (by decide))) (fun h44 => ?_)
    refine rx_lconst (v := 0) dX11_digest_47 rfl ?_
    exact rx_lret rfl dX11_digest_48 ⟨rfl, rfl⟩
theorem mf_digest_i {G : rx_E} {d : Nat} {C : rx_M} {S : gs_T} (hG : rx_OK G) {nb : Nat} (h15 : S.1 52 15 = nI nb) (hnb : nb ≤ 40) {b l : Nat} {z : Int32} (hb : b < nb) (hl : l < 11) (hz : wi_out z (1024 / 2 ^ l)) : rx_C G MX11_digest (d + 2) [.ref 52, .int (nI b), .int (nI l), .int z] (gl C S) 0 0 (fun vv mu => vv = some (.long 0) ∧ mu = gl C (rx_u S.1 52 0 (nI 1), S.2)) := by
  refine rx_meth0 (by decide +kernel) rfl (Nat.le_of_ble_eq_true rfl) ?_
  have hsm := lv_sm hl
  refine rx_aload_n dX11_digest_0 rfl rfl ?_
  refine rx_aload_n dX11_digest_1 rfl rfl ?_
  refine rx_iload_n dX11_digest_2 rfl ?_
  refine gv_invV (as := [.int _]) hG okX11_isBlock lk_RX11_318 rfl rfl dX11_digest_3 rfl (by simp [Value.category]) (mf_isBlock hG h15 hnb hb) ?_
  rintro _ _ ⟨rfl, rfl⟩
  refine rx_if_eq (tgt := 36) dX11_digest_6 (by decide) (fun h6 => (absurd h6 (by decide))) (fun h6 => ?_)
  refine rx_iload_n dX11_digest_9 rfl ?_
  refine rx_if_lt (tgt := 36) dX11_digest_10 (by decide) (fun h10 => (absurd h10 (nI_pos (by omega)))) (fun h10 => ?_)
  refine rx_iload_n dX11_digest_13 rfl ?_
  refine rx_bipush (v := nI 10) dX11_digest_14 rfl ?_
  refine rx_icmp_gt (tgt := 36) dX11_digest_16 (by decide) (fun h16 => (absurd h16 (by rw [nI_ltI (by omega) (by omega)]; omega))) (fun h16 => ?_)
  refine rx_iload_n dX11_digest_19 rfl ?_
  refine rx_if_lt (tgt := 36) dX11_digest_20 (by decide) (fun h20 => ?_) (fun h20 => ?_)
  · refine rx_iconst (v := nI 1) dX11_digest_36 rfl ?_
    refine gm_putI hG hf_RX11_160 (gw_nf rfl rfl) rfl dX11_digest_37 rfl rfl rfl rfl rfl ?_
    refine rx_aload_n dX11_digest_40 rfl rfl ?_
    refine gmv_getI (v := nI 1) hG hf_RX11_160 rfl dX11_digest_41 rfl rfl rfl (by simp [rx_ru]) ?_
    refine rx_if_le (tgt := 49) dX11_digest_44 (by decide) (fun h44 => (absurd h44 (by decide))) (fun h44 => ?_)
    refine rx_lconst (v := 0) dX11_digest_47 rfl ?_
    exact rx_lret rfl dX11_digest_48 ⟨rfl, rfl⟩
  · refine rx_iload_n dX11_digest_23 rfl ?_
    refine rx_sipush (v := nI 1024) dX11_digest_24 rfl ?_
    refine rx_iload_n dX11_digest_27 rfl ?_
    refine rx_ishr dX11_digest_28 ?_
    refine rx_ti (y := nI (1024 / 2 ^ l)) (sh_lv l hl) ?_
    refine rx_icmp_ge (tgt := 36) dX11_digest_29 (by decide) (fun h29 => ?_) (fun h29 => wi_d1 hz h20 h29) 
    refine rx_iconst (v := nI 1) dX11_digest_36 rfl ?_
    refine gm_putI hG hf_RX11_160 (gw_nf rfl rfl) rfl dX11_digest_37 rfl rfl rfl rfl rfl ?_
    refine rx_aload_n dX11_digest_40 rfl rfl ?_
    refine gmv_getI (v := nI 1) hG hf_RX11_160 rfl dX11_digest_41 rfl rfl rfl (by simp [rx_ru]) ?_
    refine rx_if_le (tgt := 49) dX11_digest_44 (by decide) (fun h44 => (absurd h44 (by decide))) (fun h44 => ?_)
    refine rx_lconst (v := 0) dX11_digest_47 rfl ?_
    exact rx_lret rfl dX11_digest_48 ⟨rfl, rfl⟩
/-- only the row of digests differs -/
def mz (S S' : gs_T) : Prop := S'.1 = S.1 ∧ ∀ a, a ≠ 100 → S'.2 a = S.2 a
theorem mz_u {S S' : gs_T} {j : Nat} {x : Int64} (h : mz S S') : mz S (S'.1, rx_u S'.2 100 j x) := ⟨h.1, fun a ha => (rx_une _ ha).trans (h.2 a ha)⟩
theorem lm_dig1 {G : rx_E} {d mc ms : Nat} {C : rx_M} {S : gs_T} {b i n : Nat} {nst : Nat → Int64} {Q : Option Value → rx_M → Prop} {Z : String → rx_M → Prop} (hG : rx_OK G) (hb40 : b < 40) (hni : n * i + n ≤ 1024) (hst : ∀ k, k < 608 → S.2 71 (608 * b + k) = nst k) (kk : ∀ S', mz S S' → (∀ j, j < n → S'.2 100 j = w_dg (lf nst) 0 (n * i + j)) → rx_W G MX11_digest (d + 2) 99 [(5, .int (nI n)), (4, .int (nI n)), (0, .ref 52), (1, .int (nI b)), (3, .int (nI i))] [] (gl C S') mc ms Q Z) : ∀ (m k : Nat) (S' : gs_T), k + m = n → mz S S' → (∀ j, j < k → S'.2 100 j = w_dg (lf nst) 0 (n * i + j)) → rx_W G MX11_digest (d + 2) 57 [(5, .int (nI k)), (4, .int (nI n)), (0, .ref 52), (1, .int (nI b)), (3, .int (nI i))] [] (gl C S') mc ms Q Z := by
  intro m
  induction m with
  | zero =>
    intro k S' hk hm hd
    have hk : k = n := by omega
    subst hk
    refine rx_iload dX11_digest_57 rfl ?_
    refine rx_iload dX11_digest_59 rfl ?_
    refine rx_icmp_ge (tgt := 99) dX11_digest_61 (by decide) (fun _ => ?_) (fun q => absurd (by rw [nI_leI (by omega) (by omega)]; omega) q)
    exact kk S' hm hd
  | succ m ih =>
    intro k S' hk hm hd
    refine rx_iload dX11_digest_57 rfl ?_
    refine rx_iload dX11_digest_59 rfl ?_
    refine rx_icmp_ge (tgt := 99) dX11_digest_61 (by decide) (fun h61 => (absurd h61 (by rw [nI_leI (by omega) (by omega)]; omega))) (fun h61 => ?_)
    refine rx_aload_n dX11_digest_64 rfl rfl ?_
    refine g_getR hG hf_RX11_153 rfl dX11_digest_65 rfl rfl rfl ?_
    refine rx_iload dX11_digest_68 rfl ?_
    refine rx_iload dX11_digest_70 rfl ?_
    refine rx_iload_n dX11_digest_72 rfl ?_
    refine rx_imul dX11_digest_73 ?_
    refine rx_ti (y := nI (n * i)) (pk_mul _ _) ?_
    refine rx_iload dX11_digest_74 rfl ?_
    refine rx_iadd dX11_digest_76 ?_
    refine rx_ti (y := nI ((n * i) + k)) ((nI_add _ _).trans (congrArg nI (by omega))) ?_
    refine rx_aload_n dX11_digest_77 rfl rfl ?_
    refine rx_iload_n dX11_digest_78 rfl ?_
    refine rx_iload dX11_digest_79 rfl ?_
    refine rx_iload_n dX11_digest_81 rfl ?_
    refine rx_imul dX11_digest_82 ?_
    refine rx_ti (y := nI (n * i)) (pk_mul _ _) ?_
    refine rx_iload dX11_digest_83 rfl ?_
    refine rx_iadd dX11_digest_85 ?_
    refine rx_ti (y := nI ((n * i) + k)) ((nI_add _ _).trans (congrArg nI (by omega))) ?_
    refine gv_invV (as := [.int _, .int _]) hG okX11_valueOf lk_RX11_327 rfl rfl dX11_digest_86 rfl (by simp [Value.category]) (mf_valueOf (S := S') (n := nst) hG hb40 (by omega) (fun j hj => by rw [hm.2 71 (by decide)]; exact hst j hj)) ?_
    rintro _ _ ⟨rfl, rfl⟩
    refine rx_invS0 (as := [.int _, .long _]) hG okX11_leafDigest lk_RX11_331 dX11_digest_89 rfl (by simp [Value.category]) (mf_leafd hG (by omega)) ?_
    rintro _ _ ⟨rfl, rfl⟩
    refine gm_last (j := k) hG dX11_digest_92 rfl rfl rfl rfl (by omega) (by decide) ?_
    refine rx_iinc (v := nI (k + 1)) dX11_digest_93 rfl ((nI_add _ 1).trans (congrArg nI (by omega))) ?_
    refine rx_goto (tgt := 57) dX11_digest_96 (by decide) ?_
    refine rx_lv (lv' := [(5, .int (nI (k + 1))), (4, .int (nI n)), (0, .ref 52), (1, .int (nI b)), (3, .int (nI i))]) ⟨rfl, rfl, rfl, rfl, rfl, trivial⟩ ?_
    refine ih (k + 1) _ (by omega) (mz_u hm) (fun j hj => ?_)
    show rx_u S'.2 100 k _ 100 j = _
    rw [rx_ru, if_pos rfl]
    split
    · rename_i q; subst q; rfl
    · exact hd j (by omega)
theorem dg_step {f : Nat → Int64} {j n i k : Nat} : w_both (w_dg f j (2 * n * i + 2 * k)) (w_dg f j (2 * n * i + (2 * k + 1))) = w_dg f (j + 1) (n * i + k) := by
  have e : 2 * n * i + 2 * k = 2 * (n * i + k) := by rw [Nat.mul_assoc, ← Nat.mul_add]
  rw [show 2 * n * i + (2 * k + 1) = 2 * n * i + 2 * k + 1 by omega, e]; rfl
theorem lm_dig2 {G : rx_E} {d mc ms : Nat} {C : rx_M} {S : gs_T} {b i n j : Nat} {f : Nat → Int64} {Q : Option Value → rx_M → Prop} {Z : String → rx_M → Prop} (hG : rx_OK G) (hn : n ≤ 512) (kk : ∀ S', mz S S' → (∀ t, t < n → S'.2 100 t = w_dg f (j + 1) (n * i + t)) → rx_W G MX11_digest (d + 2) 99 [(5, .int (nI n)), (4, .int (nI n)), (0, .ref 52), (1, .int (nI b)), (3, .int (nI i))] [] (gl C S') mc ms Q Z) : ∀ (m k : Nat) (S' : gs_T), k + m = n → mz S S' → (∀ t, t < k → S'.2 100 t = w_dg f (j + 1) (n * i + t)) → (∀ t, 2 * k ≤ t → t < 2 * n → S'.2 100 t = w_dg f j (2 * n * i + t)) → rx_W G MX11_digest (d + 2) 114 [(5, .int (nI k)), (4, .int (nI n)), (0, .ref 52), (1, .int (nI b)), (3, .int (nI i))] [] (gl C S') mc ms Q Z := by
  intro m
  induction m with
  | zero =>
    intro k S' hk hm hd hr
    have hk : k = n := by omega
    subst hk
    refine rx_iload dX11_digest_114 rfl ?_
    refine rx_iload dX11_digest_116 rfl ?_
    refine rx_icmp_ge (tgt := 157) dX11_digest_118 (by decide) (fun _ => ?_) (fun q => absurd (by rw [nI_leI (by omega) (by omega)]; omega) q)
    refine rx_goto (tgt := 99) dX11_digest_157 (by decide) ?_
    exact kk S' hm hd
  | succ m ih =>
    intro k S' hk hm hd hr
    refine rx_iload dX11_digest_114 rfl ?_
    refine rx_iload dX11_digest_116 rfl ?_
    refine rx_icmp_ge (tgt := 157) dX11_digest_118 (by decide) (fun h118 => (absurd h118 (by rw [nI_leI (by omega) (by omega)]; omega))) (fun h118 => ?_)
    refine rx_aload_n dX11_digest_121 rfl rfl ?_
    refine g_getR hG hf_RX11_153 rfl dX11_digest_122 rfl rfl rfl ?_
    refine rx_iload dX11_digest_125 rfl ?_
    refine rx_aload_n dX11_digest_127 rfl rfl ?_
    refine g_getR hG hf_RX11_153 rfl dX11_digest_128 rfl rfl rfl ?_
    refine rx_iconst (v := nI 2) dX11_digest_131 rfl ?_
    refine rx_iload dX11_digest_132 rfl ?_
    refine rx_imul dX11_digest_134 ?_
    refine rx_ti (y := nI (2 * k)) ((pk_mul _ _).trans (congrArg nI (by omega))) ?_
    refine gmv_lald (j := 2 * k) (v := w_dg f j (2 * n * i + 2 * k)) hG dX11_digest_135 rfl rfl rfl rfl (by omega) (by decide) (hr _ (by omega) (by omega)) ?_
    refine rx_aload_n dX11_digest_136 rfl rfl ?_
    refine g_getR hG hf_RX11_153 rfl dX11_digest_137 rfl rfl rfl ?_
    refine rx_iconst (v := nI 2) dX11_digest_140 rfl ?_
    refine rx_iload dX11_digest_141 rfl ?_
    refine rx_imul dX11_digest_143 ?_
    refine rx_ti (y := nI (2 * k)) ((pk_mul _ _).trans (congrArg nI (by omega))) ?_
    refine rx_iconst (v := nI 1) dX11_digest_144 rfl ?_
    refine rx_iadd dX11_digest_145 ?_
    refine rx_ti (y := nI (2 * k + 1)) ((nI_add _ _).trans (congrArg nI (by omega))) ?_
    refine gmv_lald (j := 2 * k + 1) (v := w_dg f j (2 * n * i + (2 * k + 1))) hG dX11_digest_146 rfl rfl rfl rfl (by omega) (by decide) (hr _ (by omega) (by omega)) ?_
    refine rx_invS0 (as := [.long _, .long _]) hG okX11_both lk_RX11_335 dX11_digest_147 rfl (by simp [Value.category]) (mf_both hG) ?_
    rintro _ _ ⟨rfl, rfl⟩
    refine gm_last (j := k) hG dX11_digest_150 rfl rfl rfl rfl (by omega) (by decide) ?_
    refine rx_iinc (v := nI (k + 1)) dX11_digest_151 rfl ((nI_add _ 1).trans (congrArg nI (by omega))) ?_
    refine rx_goto (tgt := 114) dX11_digest_154 (by decide) ?_
    refine rx_lv (lv' := [(5, .int (nI (k + 1))), (4, .int (nI n)), (0, .ref 52), (1, .int (nI b)), (3, .int (nI i))]) ⟨rfl, rfl, rfl, rfl, rfl, trivial⟩ ?_
    refine ih (k + 1) _ (by omega) (mz_u hm) (fun t ht => ?_) (fun t h1 h2 => ?_)
    · show rx_u S'.2 100 k _ 100 t = _
      rw [rx_ru, if_pos rfl]
      split
      · rename_i q; subst q; exact dg_step
      · exact hd t (by omega)
    · show rx_u S'.2 100 k _ 100 t = _
      rw [rx_ru, if_pos rfl, if_neg (by omega)]
      exact hr t (by omega) h2
theorem lm_dig3 {G : rx_E} {d mc ms : Nat} {C : rx_M} {S : gs_T} {b i : Nat} {f : Nat → Int64} {Q : Option Value → rx_M → Prop} {Z : String → rx_M → Prop} (hG : rx_OK G) : ∀ (t j x : Nat) (S' : gs_T), t ≤ 10 → x < 2 ^ 30 → mz S S' → (∀ k, k < 2 ^ t → S'.2 100 k = w_dg f j (2 ^ t * i + k)) → (∀ S'', mz S S'' → Q (some (.long (w_dg f (j + t) i))) (gl C S'')) → rx_W G MX11_digest (d + 2) 99 [(5, .int (nI x)), (4, .int (nI (2 ^ t))), (0, .ref 52), (1, .int (nI b)), (3, .int (nI i))] [] (gl C S') mc ms Q Z := by
  intro t
  induction t with
  | zero =>
    intro j x S' _ _ hm hd hQ
    refine rx_iload dX11_digest_99 rfl ?_
    refine rx_iconst (v := nI 1) dX11_digest_101 rfl ?_
    refine rx_icmp_le (tgt := 160) dX11_digest_102 (by decide) (fun _ => ?_) (fun q => absurd (by decide) q)
    refine rx_aload_n dX11_digest_160 rfl rfl ?_
    refine g_getR hG hf_RX11_153 rfl dX11_digest_161 rfl rfl rfl ?_
    refine rx_iconst (v := nI 0) dX11_digest_164 rfl ?_
    refine gmv_lald (j := 0) (v := w_dg f j i) hG dX11_digest_165 rfl rfl rfl rfl (by decide) (by decide) ((hd 0 (by decide)).trans (by rw [show 2 ^ 0 * i + 0 = i by omega])) ?_
    exact rx_lret rfl dX11_digest_166 (hQ S' hm)
  | succ t ih =>
    intro j x S' ht hx hm hd hQ
    have e2 : 2 ^ (t + 1) = 2 * 2 ^ t := by rw [Nat.pow_succ, Nat.mul_comm]
    have ht2 : 2 ^ t ≤ 512 := Nat.pow_le_pow_right (n := 2) (by decide) (show t ≤ 9 by omega)
    have ht1 : 0 < 2 ^ t := Nat.two_pow_pos t
    rw [e2] at hd ⊢
    refine rx_iload dX11_digest_99 rfl ?_
    refine rx_iconst (v := nI 1) dX11_digest_101 rfl ?_
    refine rx_icmp_le (tgt := 160) dX11_digest_102 (by decide) (fun q => absurd q (by rw [nI_leI (by omega) (by omega)]; omega)) (fun _ => ?_)
    refine rx_iload dX11_digest_105 rfl ?_
    refine rx_iconst (v := nI 2) dX11_digest_107 rfl ?_
    refine rx_idiv dX11_digest_108 (by decide) ?_
    refine rx_ti (y := nI (2 ^ t)) ((pk_div (by omega) (by decide) (by decide)).trans (congrArg nI (by omega))) ?_
    refine rx_istore dX11_digest_109 (by decide) ?_
    refine rx_iconst (v := nI 0) dX11_digest_111 rfl ?_
    refine rx_istore dX11_digest_112 (by decide) ?_
    refine rx_lv (lv' := [(5, .int (nI 0)), (4, .int (nI (2 ^ t))), (0, .ref 52), (1, .int (nI b)), (3, .int (nI i))]) ⟨rfl, rfl, rfl, rfl, rfl, trivial⟩ ?_
    refine lm_dig2 (S := S) (j := j) (f := f) hG ht2 (fun S2 hm2 hd2 => ?_) (2 ^ t) 0 S' (by omega) hm (fun _ q => absurd q (Nat.not_lt_zero _)) (fun k _ hk => hd k hk)
    refine ih (j + 1) (2 ^ t) S2 (by omega) (by omega) hm2 hd2 (fun S3 hm3 => ?_)
    rw [show j + 1 + t = j + (t + 1) by omega]
    exact hQ S3 hm3
theorem mf_digest {G : rx_E} {d : Nat} {C : rx_M} {S : gs_T} (hG : rx_OK G) {nb : Nat} (h15 : S.1 52 15 = nI nb) (hnb : nb ≤ 40) {b : Nat} {q : wB} (hb : b < nb) (hB : mB1 S b q) {l i : Nat} (hl : l < 11) (hi : i < 1024 / 2 ^ l) : rx_C G MX11_digest (d + 2) [.ref 52, .int (nI b), .int (nI l), .int (nI i)] (gl C S) 0 0 (fun vv mu => vv = some (.long (w_dg (lf q.2.1) l i)) ∧ ∃ S', mu = gl C S' ∧ mz (rx_u S.1 52 0 (nI 0), S.2) S') := by
  refine rx_meth0 (by decide +kernel) rfl (Nat.le_of_ble_eq_true rfl) ?_
  have hsm := lv_sm hl
  have hle := lv_le hl hi
  refine rx_aload_n dX11_digest_0 rfl rfl ?_
  refine rx_aload_n dX11_digest_1 rfl rfl ?_
  refine rx_iload_n dX11_digest_2 rfl ?_
  refine gv_invV (as := [.int _]) hG okX11_isBlock lk_RX11_318 rfl rfl dX11_digest_3 rfl (by simp [Value.category]) (mf_isBlock hG h15 hnb hb) ?_
  rintro _ _ ⟨rfl, rfl⟩
  refine rx_if_eq (tgt := 36) dX11_digest_6 (by decide) (fun h6 => (absurd h6 (by decide))) (fun h6 => ?_)
  refine rx_iload_n dX11_digest_9 rfl ?_
  refine rx_if_lt (tgt := 36) dX11_digest_10 (by decide) (fun h10 => (absurd h10 (nI_pos (by omega)))) (fun h10 => ?_)
  refine rx_iload_n dX11_digest_13 rfl ?_
  refine rx_bipush (v := nI 10) dX11_digest_14 rfl ?_
  refine rx_icmp_gt (tgt := 36) dX11_digest_16 (by decide) (fun h16 => (absurd h16 (by rw [nI_ltI (by omega) (by omega)]; omega))) (fun h16 => ?_)
  refine rx_iload_n dX11_digest_19 rfl ?_
  refine rx_if_lt (tgt := 36) dX11_digest_20 (by decide) (fun h20 => (absurd h20 (nI_pos (by omega)))) (fun h20 => ?_)
  refine rx_iload_n dX11_digest_23 rfl ?_
  refine rx_sipush (v := nI 1024) dX11_digest_24 rfl ?_
  refine rx_iload_n dX11_digest_27 rfl ?_
  refine rx_ishr dX11_digest_28 ?_
  refine rx_ti (y := nI (1024 / 2 ^ l)) (sh_lv l hl) ?_
  refine rx_icmp_ge (tgt := 36) dX11_digest_29 (by decide) (fun h29 => (absurd h29 (by rw [nI_leI (by omega) (by omega)]; omega))) (fun h29 => ?_)
  refine rx_iconst (v := nI 0) dX11_digest_32 rfl ?_
  refine rx_goto (tgt := 37) dX11_digest_33 (by decide) ?_
  refine gm_putI hG hf_RX11_160 (gw_nf rfl rfl) rfl dX11_digest_37 rfl rfl rfl rfl rfl ?_
  refine rx_aload_n dX11_digest_40 rfl rfl ?_
  refine gmv_getI (v := nI 0) hG hf_RX11_160 rfl dX11_digest_41 rfl rfl rfl (by simp [rx_ru]) ?_
  refine rx_if_le (tgt := 49) dX11_digest_44 (by decide) (fun h44 => ?_) (fun h44 => (absurd h44 (by decide))) 
  refine rx_iconst (v := nI 1) dX11_digest_49 rfl ?_
  refine rx_iload_n dX11_digest_50 rfl ?_
  refine rx_ishl dX11_digest_51 ?_
  refine rx_ti (y := nI (2 ^ l)) (sl_lv l hl) ?_
  refine rx_istore dX11_digest_52 (by decide) ?_
  refine rx_iconst (v := nI 0) dX11_digest_54 rfl ?_
  refine rx_istore dX11_digest_55 (by decide) ?_
  refine rx_lv (lv' := [(5, .int (nI 0)), (4, .int (nI (2 ^ l))), (0, .ref 52), (1, .int (nI b)), (3, .int (nI i))]) ⟨rfl, rfl, rfl, rfl, rfl, trivial⟩ ?_
  refine lm_dig1 (S := (rx_u S.1 52 0 (nI 0), S.2)) hG (by omega) hle (fun k hk => hB.2.1 k hk) (fun S2 hm2 hd2 => ?_) (2 ^ l) 0 _ (by omega) ⟨rfl, fun _ _ => rfl⟩ (fun _ q => absurd q (Nat.not_lt_zero _))
  refine lm_dig3 (S := (rx_u S.1 52 0 (nI 0), S.2)) (f := lf q.2.1) hG l 0 (2 ^ l) S2 (by omega) (by omega) hm2 hd2 (fun S3 hm3 => ?_)
  rw [Nat.zero_add]
  exact ⟨rfl, S3, rfl, hm3⟩
theorem F_digest {G : rx_E} {d n : Nat} {w : wW} (hG : rx_OK G) (hN : rx_NC G) (hv : vW w n) (hn : n ≤ 512) (x y z : Int32) : fP n w (fun C S Q => rx_H G ML_digest hL_digest (d + 20) [.ref 0, .int x, .int y, .int z, .ref 101] (gl C S) 8 2000 Q) (fun C S Q => rx_C G MX11_digest (d + 20) [.ref 52, .int x, .int y, .int z] (gl C S) 0 0 Q) mRL := by
  have hnb := hv.2.2.2.1.1.2
  rcases wi_ix x (show w.2.2.1.1 < 2 ^ 31 by omega) with hx | ⟨b, hb, rfl⟩
  · exact ⟨1, 0, w, by decide, vW_up hv (Nat.le_succ n), fun A C S hC => rx_Hm (HL_digest_x hG hN (cf_digest_b hG (rcw_b hC) hnb hx)) (hR_x hC (by decide)), fun C S hS => rx_Cm (mf_digest_b hG (rmw_b hS) hnb hx) (mRL_t hS (fun h => absurd h (by decide)))⟩
  rcases wi_ix y (N := 11) (by decide) with hy | ⟨l, hl, rfl⟩
  · exact ⟨1, 0, w, by decide, vW_up hv (Nat.le_succ n), fun A C S hC => rx_Hm (HL_digest_x hG hN (cf_digest_l hG (rcw_b hC) hnb hb hy)) (hR_x hC (by decide)), fun C S hS => rx_Cm (mf_digest_l hG (rmw_b hS) hnb hb hy) (mRL_t hS (fun h => absurd h (by decide)))⟩
  have hsm := lv_sm hl
  rcases wi_ix z (show 1024 / 2 ^ l < 2 ^ 31 by omega) with hz | ⟨i, hi, rfl⟩
  · exact ⟨1, 0, w, by decide, vW_up hv (Nat.le_succ n), fun A C S hC => rx_Hm (HL_digest_x hG hN (cf_digest_i hG (rcw_b hC) hnb hb hl hz)) (hR_x hC (by decide)), fun C S hS => rx_Cm (mf_digest_i hG (rmw_b hS) hnb hb hl hz) (mRL_t hS (fun h => absurd h (by decide)))⟩
  refine ⟨0, _, w, by decide, vW_up hv (Nat.le_succ n), fun A C S hC => rx_Hm (HL_digest hG (cf_digest hG (rcw_b hC) hnb hb (hC.2.2.2.1.2.1 b hb).1 (hC.2.2.2.1.2.1 b hb).2 hl hi)) (hR_o hC), fun C S hS => rx_Cm (mf_digest hG (rmw_b hS) hnb hb (hS.2.2.2.1.2 b hb).1 hl hi) ?_⟩
  rintro _ _ ⟨rfl, S', rfl, hm⟩
  refine ⟨S', _, rfl, rfl, ?_, ?_, fun _ => rfl⟩
  · refine rmw_ag (rmw_th (x := nI 0) hS) ⟨fun a h1 h2 _ => ⟨by rw [hm.1], hm.2 a (by omega)⟩, fun k _ => by rw [hm.1]⟩
  · rw [hm.1]; simp [rx_ru]

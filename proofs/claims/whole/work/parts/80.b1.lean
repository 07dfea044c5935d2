theorem dX10_doOrder_0 : decode cX10_doOrder 0 = .ok (.aload_n 0, 1) := by decide +kernel
theorem dX10_doOrder_1 : decode cX10_doOrder 1 = .ok (.getfield 25, 3) := by decide +kernel
theorem dX10_doOrder_4 : decode cX10_doOrder 4 = .ok (.iload_n 1, 1) := by decide +kernel
theorem dX10_doOrder_5 : decode cX10_doOrder 5 = .ok (.aaload, 1) := by decide +kernel
theorem dX10_doOrder_6 : decode cX10_doOrder 6 = .ok (.astore 5, 2) := by decide +kernel
theorem dX10_doOrder_8 : decode cX10_doOrder 8 = .ok (.aload_n 0, 1) := by decide +kernel
theorem dX10_doOrder_9 : decode cX10_doOrder 9 = .ok (.aload 5, 2) := by decide +kernel
theorem dX10_doOrder_11 : decode cX10_doOrder 11 = .ok (.iload_n 3, 1) := by decide +kernel
theorem dX10_doOrder_12 : decode cX10_doOrder 12 = .ok (.invokevirtual 266, 3) := by decide +kernel
theorem dX10_doOrder_15 : decode cX10_doOrder 15 = .ok (.ifCond .eq 5, 3) := by decide +kernel
theorem dX10_doOrder_18 : decode cX10_doOrder 18 = .ok (.iconst 0, 1) := by decide +kernel
theorem dX10_doOrder_19 : decode cX10_doOrder 19 = .ok (.ireturn, 1) := by decide +kernel
theorem dX10_doOrder_20 : decode cX10_doOrder 20 = .ok (.aload_n 0, 1) := by decide +kernel
theorem dX10_doOrder_21 : decode cX10_doOrder 21 = .ok (.getfield 19, 3) := by decide +kernel
theorem dX10_doOrder_24 : decode cX10_doOrder 24 = .ok (.getfield 168, 3) := by decide +kernel
theorem dX10_doOrder_27 : decode cX10_doOrder 27 = .ok (.astore 6, 2) := by decide +kernel
theorem dX10_doOrder_29 : decode cX10_doOrder 29 = .ok (.aload 6, 2) := by decide +kernel
theorem dX10_doOrder_31 : decode cX10_doOrder 31 = .ok (.aload 5, 2) := by decide +kernel
theorem dX10_doOrder_33 : decode cX10_doOrder 33 = .ok (.getfield 270, 3) := by decide +kernel
theorem dX10_doOrder_36 : decode cX10_doOrder 36 = .ok (.invokevirtual 273, 3) := by decide +kernel
theorem dX10_doOrder_39 : decode cX10_doOrder 39 = .ok (.aload 6, 2) := by decide +kernel
theorem dX10_doOrder_41 : decode cX10_doOrder 41 = .ok (.aload 5, 2) := by decide +kernel
theorem dX10_doOrder_43 : decode cX10_doOrder 43 = .ok (.getfield 270, 3) := by decide +kernel
theorem dX10_doOrder_46 : decode cX10_doOrder 46 = .ok (.aload 5, 2) := by decide +kernel
theorem dX10_doOrder_48 : decode cX10_doOrder 48 = .ok (.aload 5, 2) := by decide +kernel
theorem dX10_doOrder_50 : decode cX10_doOrder 50 = .ok (.getfield 277, 3) := by decide +kernel
theorem dX10_doOrder_53 : decode cX10_doOrder 53 = .ok (.invokevirtual 280, 3) := by decide +kernel
theorem dX10_doOrder_56 : decode cX10_doOrder 56 = .ok (.lneg, 1) := by decide +kernel
theorem dX10_doOrder_57 : decode cX10_doOrder 57 = .ok (.invokevirtual 284, 3) := by decide +kernel
theorem dX10_doOrder_60 : decode cX10_doOrder 60 = .ok (.aload_n 0, 1) := by decide +kernel
theorem dX10_doOrder_61 : decode cX10_doOrder 61 = .ok (.getfield 19, 3) := by decide +kernel
theorem dX10_doOrder_64 : decode cX10_doOrder 64 = .ok (.getfield 178, 3) := by decide +kernel
theorem dX10_doOrder_67 : decode cX10_doOrder 67 = .ok (.iload_n 1, 1) := by decide +kernel
theorem dX10_doOrder_68 : decode cX10_doOrder 68 = .ok (.invokevirtual 288, 3) := by decide +kernel
theorem dX10_doOrder_71 : decode cX10_doOrder 71 = .ok (.aload_n 0, 1) := by decide +kernel
theorem dX10_doOrder_72 : decode cX10_doOrder 72 = .ok (.getfield 19, 3) := by decide +kernel
theorem dX10_doOrder_75 : decode cX10_doOrder 75 = .ok (.aload 5, 2) := by decide +kernel
theorem dX10_doOrder_77 : decode cX10_doOrder 77 = .ok (.getfield 270, 3) := by decide +kernel
theorem dX10_doOrder_80 : decode cX10_doOrder 80 = .ok (.aload 5, 2) := by decide +kernel
theorem dX10_doOrder_82 : decode cX10_doOrder 82 = .ok (.getfield 291, 3) := by decide +kernel
theorem dX10_doOrder_85 : decode cX10_doOrder 85 = .ok (.aload 5, 2) := by decide +kernel
theorem dX10_doOrder_87 : decode cX10_doOrder 87 = .ok (.getfield 294, 3) := by decide +kernel
theorem dX10_doOrder_90 : decode cX10_doOrder 90 = .ok (.aload 5, 2) := by decide +kernel
theorem dX10_doOrder_92 : decode cX10_doOrder 92 = .ok (.getfield 297, 3) := by decide +kernel
theorem dX10_doOrder_95 : decode cX10_doOrder 95 = .ok (.aload 5, 2) := by decide +kernel
theorem dX10_doOrder_97 : decode cX10_doOrder 97 = .ok (.getfield 277, 3) := by decide +kernel
theorem dX10_doOrder_100 : decode cX10_doOrder 100 = .ok (.bipush 25, 2) := by decide +kernel
theorem dX10_doOrder_102 : decode cX10_doOrder 102 = .ok (.isub, 1) := by decide +kernel
theorem dX10_doOrder_103 : decode cX10_doOrder 103 = .ok (.iconst 0, 1) := by decide +kernel
theorem dX10_doOrder_104 : decode cX10_doOrder 104 = .ok (.invokevirtual 222, 3) := by decide +kernel
theorem dX10_doOrder_107 : decode cX10_doOrder 107 = .ok (.aload 5, 2) := by decide +kernel
theorem dX10_doOrder_109 : decode cX10_doOrder 109 = .ok (.getfield 277, 3) := by decide +kernel
theorem dX10_doOrder_112 : decode cX10_doOrder 112 = .ok (.aload_n 0, 1) := by decide +kernel
theorem dX10_doOrder_113 : decode cX10_doOrder 113 = .ok (.getfield 19, 3) := by decide +kernel
theorem dX10_doOrder_116 : decode cX10_doOrder 116 = .ok (.getfield 232, 3) := by decide +kernel
theorem dX10_doOrder_119 : decode cX10_doOrder 119 = .ok (.isub, 1) := by decide +kernel
theorem dX10_doOrder_120 : decode cX10_doOrder 120 = .ok (.istore 7, 2) := by decide +kernel
theorem dX10_doOrder_122 : decode cX10_doOrder 122 = .ok (.iload 7, 2) := by decide +kernel
theorem dX10_doOrder_124 : decode cX10_doOrder 124 = .ok (.aload_n 0, 1) := by decide +kernel
theorem dX10_doOrder_125 : decode cX10_doOrder 125 = .ok (.getfield 19, 3) := by decide +kernel
theorem dX10_doOrder_128 : decode cX10_doOrder 128 = .ok (.getfield 300, 3) := by decide +kernel
theorem dX10_doOrder_131 : decode cX10_doOrder 131 = .ok (.iload 7, 2) := by decide +kernel
theorem dX10_doOrder_133 : decode cX10_doOrder 133 = .ok (.iconst 5, 1) := by decide +kernel
theorem dX10_doOrder_134 : decode cX10_doOrder 134 = .ok (.idiv, 1) := by decide +kernel
theorem dX10_doOrder_135 : decode cX10_doOrder 135 = .ok (.invokestatic 303, 3) := by decide +kernel
theorem dX10_doOrder_138 : decode cX10_doOrder 138 = .ok (.isub, 1) := by decide +kernel
theorem dX10_doOrder_139 : decode cX10_doOrder 139 = .ok (.istore 7, 2) := by decide +kernel
theorem dX10_doOrder_141 : decode cX10_doOrder 141 = .ok (.aload 6, 2) := by decide +kernel
theorem dX10_doOrder_143 : decode cX10_doOrder 143 = .ok (.aload 5, 2) := by decide +kernel
theorem dX10_doOrder_145 : decode cX10_doOrder 145 = .ok (.getfield 270, 3) := by decide +kernel
theorem dX10_doOrder_148 : decode cX10_doOrder 148 = .ok (.aload 5, 2) := by decide +kernel
theorem dX10_doOrder_150 : decode cX10_doOrder 150 = .ok (.aload 5, 2) := by decide +kernel
theorem dX10_doOrder_152 : decode cX10_doOrder 152 = .ok (.getfield 277, 3) := by decide +kernel
theorem dX10_doOrder_155 : decode cX10_doOrder 155 = .ok (.iload 7, 2) := by decide +kernel
theorem dX10_doOrder_157 : decode cX10_doOrder 157 = .ok (.isub, 1) := by decide +kernel
theorem dX10_doOrder_158 : decode cX10_doOrder 158 = .ok (.invokevirtual 280, 3) := by decide +kernel
theorem dX10_doOrder_161 : decode cX10_doOrder 161 = .ok (.invokevirtual 284, 3) := by decide +kernel
theorem dX10_doOrder_164 : decode cX10_doOrder 164 = .ok (.aload 6, 2) := by decide +kernel
theorem dX10_doOrder_166 : decode cX10_doOrder 166 = .ok (.iload_n 2, 1) := by decide +kernel
theorem dX10_doOrder_167 : decode cX10_doOrder 167 = .ok (.aload 5, 2) := by decide +kernel
theorem dX10_doOrder_169 : decode cX10_doOrder 169 = .ok (.iload 7, 2) := by decide +kernel
theorem dX10_doOrder_171 : decode cX10_doOrder 171 = .ok (.invokevirtual 280, 3) := by decide +kernel
theorem dX10_doOrder_174 : decode cX10_doOrder 174 = .ok (.invokevirtual 284, 3) := by decide +kernel
theorem dX10_doOrder_177 : decode cX10_doOrder 177 = .ok (.aload 4, 2) := by decide +kernel
theorem dX10_doOrder_179 : decode cX10_doOrder 179 = .ok (.iconst 3, 1) := by decide +kernel
theorem dX10_doOrder_180 : decode cX10_doOrder 180 = .ok (.iload_n 1, 1) := by decide +kernel
theorem dX10_doOrder_181 : decode cX10_doOrder 181 = .ok (.imul, 1) := by decide +kernel
theorem dX10_doOrder_182 : decode cX10_doOrder 182 = .ok (.aload_n 0, 1) := by decide +kernel
theorem dX10_doOrder_183 : decode cX10_doOrder 183 = .ok (.getfield 19, 3) := by decide +kernel
theorem dX10_doOrder_186 : decode cX10_doOrder 186 = .ok (.getfield 226, 3) := by decide +kernel
theorem dX10_doOrder_189 : decode cX10_doOrder 189 = .ok (.i2l, 1) := by decide +kernel
theorem dX10_doOrder_190 : decode cX10_doOrder 190 = .ok (.lastore, 1) := by decide +kernel
theorem dX10_doOrder_191 : decode cX10_doOrder 191 = .ok (.aload 4, 2) := by decide +kernel
theorem dX10_doOrder_193 : decode cX10_doOrder 193 = .ok (.iconst 3, 1) := by decide +kernel
theorem dX10_doOrder_194 : decode cX10_doOrder 194 = .ok (.iload_n 1, 1) := by decide +kernel
theorem dX10_doOrder_195 : decode cX10_doOrder 195 = .ok (.imul, 1) := by decide +kernel
theorem dX10_doOrder_196 : decode cX10_doOrder 196 = .ok (.iconst 1, 1) := by decide +kernel
theorem dX10_doOrder_197 : decode cX10_doOrder 197 = .ok (.iadd, 1) := by decide +kernel
theorem dX10_doOrder_198 : decode cX10_doOrder 198 = .ok (.iload 7, 2) := by decide +kernel
theorem dX10_doOrder_200 : decode cX10_doOrder 200 = .ok (.i2l, 1) := by decide +kernel
theorem dX10_doOrder_201 : decode cX10_doOrder 201 = .ok (.lastore, 1) := by decide +kernel
theorem dX10_doOrder_202 : decode cX10_doOrder 202 = .ok (.aload 4, 2) := by decide +kernel
theorem dX10_doOrder_204 : decode cX10_doOrder 204 = .ok (.iconst 3, 1) := by decide +kernel
theorem dX10_doOrder_205 : decode cX10_doOrder 205 = .ok (.iload_n 1, 1) := by decide +kernel
theorem dX10_doOrder_206 : decode cX10_doOrder 206 = .ok (.imul, 1) := by decide +kernel
theorem dX10_doOrder_207 : decode cX10_doOrder 207 = .ok (.iconst 2, 1) := by decide +kernel
theorem dX10_doOrder_208 : decode cX10_doOrder 208 = .ok (.iadd, 1) := by decide +kernel
theorem dX10_doOrder_209 : decode cX10_doOrder 209 = .ok (.aload_n 0, 1) := by decide +kernel
theorem dX10_doOrder_210 : decode cX10_doOrder 210 = .ok (.getfield 19, 3) := by decide +kernel
theorem dX10_doOrder_213 : decode cX10_doOrder 213 = .ok (.getfield 244, 3) := by decide +kernel
theorem dX10_doOrder_216 : decode cX10_doOrder 216 = .ok (.lastore, 1) := by decide +kernel
theorem dX10_doOrder_217 : decode cX10_doOrder 217 = .ok (.iload 7, 2) := by decide +kernel
theorem dX10_doOrder_219 : decode cX10_doOrder 219 = .ok (.ireturn, 1) := by decide +kernel
theorem dX10_isVoid_0 : decode cX10_isVoid 0 = .ok (.aload_n 1, 1) := by decide +kernel
theorem dX10_isVoid_1 : decode cX10_isVoid 1 = .ok (.getfield 309, 3) := by decide +kernel
theorem dX10_isVoid_4 : decode cX10_isVoid 4 = .ok (.i2l, 1) := by decide +kernel
theorem dX10_isVoid_5 : decode cX10_isVoid 5 = .ok (.aload_n 0, 1) := by decide +kernel
theorem dX10_isVoid_6 : decode cX10_isVoid 6 = .ok (.getfield 19, 3) := by decide +kernel
theorem dX10_isVoid_9 : decode cX10_isVoid 9 = .ok (.getfield 168, 3) := by decide +kernel
theorem dX10_isVoid_12 : decode cX10_isVoid 12 = .ok (.aload_n 1, 1) := by decide +kernel
theorem dX10_isVoid_13 : decode cX10_isVoid 13 = .ok (.getfield 270, 3) := by decide +kernel
theorem dX10_isVoid_16 : decode cX10_isVoid 16 = .ok (.invokevirtual 312, 3) := by decide +kernel
theorem dX10_isVoid_19 : decode cX10_isVoid 19 = .ok (.lcmp, 1) := by decide +kernel
theorem dX10_isVoid_20 : decode cX10_isVoid 20 = .ok (.ifCond .ne 51, 3) := by decide +kernel
theorem dX10_isVoid_23 : decode cX10_isVoid 23 = .ok (.aload_n 1, 1) := by decide +kernel
theorem dX10_isVoid_24 : decode cX10_isVoid 24 = .ok (.getfield 277, 3) := by decide +kernel
theorem dX10_isVoid_27 : decode cX10_isVoid 27 = .ok (.bipush 25, 2) := by decide +kernel
theorem dX10_isVoid_29 : decode cX10_isVoid 29 = .ok (.if_icmp .lt 42, 3) := by decide +kernel
theorem dX10_isVoid_32 : decode cX10_isVoid 32 = .ok (.aload_n 1, 1) := by decide +kernel
theorem dX10_isVoid_33 : decode cX10_isVoid 33 = .ok (.getfield 277, 3) := by decide +kernel
theorem dX10_isVoid_36 : decode cX10_isVoid 36 = .ok (.iload_n 2, 1) := by decide +kernel
theorem dX10_isVoid_37 : decode cX10_isVoid 37 = .ok (.if_icmp .gt 34, 3) := by decide +kernel
theorem dX10_isVoid_40 : decode cX10_isVoid 40 = .ok (.aload_n 1, 1) := by decide +kernel
theorem dX10_isVoid_41 : decode cX10_isVoid 41 = .ok (.aload_n 1, 1) := by decide +kernel
theorem dX10_isVoid_42 : decode cX10_isVoid 42 = .ok (.getfield 277, 3) := by decide +kernel
theorem dX10_isVoid_45 : decode cX10_isVoid 45 = .ok (.invokevirtual 280, 3) := by decide +kernel
theorem dX10_isVoid_48 : decode cX10_isVoid 48 = .ok (.aload_n 1, 1) := by decide +kernel
theorem dX10_isVoid_49 : decode cX10_isVoid 49 = .ok (.getfield 294, 3) := by decide +kernel
theorem dX10_isVoid_52 : decode cX10_isVoid 52 = .ok (.ladd, 1) := by decide +kernel
theorem dX10_isVoid_53 : decode cX10_isVoid 53 = .ok (.aload_n 0, 1) := by decide +kernel
theorem dX10_isVoid_54 : decode cX10_isVoid 54 = .ok (.getfield 19, 3) := by decide +kernel
theorem dX10_isVoid_57 : decode cX10_isVoid 57 = .ok (.getfield 168, 3) := by decide +kernel
theorem dX10_isVoid_60 : decode cX10_isVoid 60 = .ok (.aload_n 1, 1) := by decide +kernel
theorem dX10_isVoid_61 : decode cX10_isVoid 61 = .ok (.getfield 270, 3) := by decide +kernel
theorem dX10_isVoid_64 : decode cX10_isVoid 64 = .ok (.invokevirtual 315, 3) := by decide +kernel
theorem dX10_isVoid_67 : decode cX10_isVoid 67 = .ok (.lcmp, 1) := by decide +kernel
theorem dX10_isVoid_68 : decode cX10_isVoid 68 = .ok (.ifCond .le 7, 3) := by decide +kernel
theorem dX10_isVoid_71 : decode cX10_isVoid 71 = .ok (.iconst 1, 1) := by decide +kernel
theorem dX10_isVoid_72 : decode cX10_isVoid 72 = .ok (.goto 4, 3) := by decide +kernel
theorem dX10_isVoid_75 : decode cX10_isVoid 75 = .ok (.iconst 0, 1) := by decide +kernel
theorem dX10_isVoid_76 : decode cX10_isVoid 76 = .ok (.ireturn, 1) := by decide +kernel
theorem dX8_priceOf_0 : decode cX8_priceOf 0 = .ok (.iload_n 1, 1) := by decide +kernel
theorem dX8_priceOf_1 : decode cX8_priceOf 1 = .ok (.i2l, 1) := by decide +kernel
theorem dX8_priceOf_2 : decode cX8_priceOf 2 = .ok (.aload_n 0, 1) := by decide +kernel
theorem dX8_priceOf_3 : decode cX8_priceOf 3 = .ok (.getfield 26, 3) := by decide +kernel
theorem dX8_priceOf_6 : decode cX8_priceOf 6 = .ok (.i2l, 1) := by decide +kernel
theorem dX8_priceOf_7 : decode cX8_priceOf 7 = .ok (.lmul, 1) := by decide +kernel
theorem dX8_priceOf_8 : decode cX8_priceOf 8 = .ok (.lreturn, 1) := by decide +kernel
theorem dX5_beginOrder_0 : decode cX5_beginOrder 0 = .ok (.aload_n 0, 1) := by decide +kernel
theorem dX5_beginOrder_1 : decode cX5_beginOrder 1 = .ok (.iload_n 1, 1) := by decide +kernel
theorem dX5_beginOrder_2 : decode cX5_beginOrder 2 = .ok (.putfield 19, 3) := by decide +kernel
theorem dX5_beginOrder_5 : decode cX5_beginOrder 5 = .ok (.return_, 1) := by decide +kernel
/-- what an order pays; whether it is void; the state it starts with -/
def o_pays (q : wO) : Int64 := lN q.2.1 * lN q.2.2.1
def o_void (n : Nat → Int64) (q : wO) (left : Int32) : Prop := q.2.2.2.toInt64 ≠ n (19 * q.1.1 + 1) ∨ q.2.1 < 25 ∨ left < nI q.2.1 ∨ n (19 * q.1.1) < o_pays q + q.1.2.2.1
def o_n1 (n : Nat → Int64) (q : wO) : Nat → Int64 := up1 (up1 n (19 * q.1.1 + 1) (n (19 * q.1.1 + 1) + 1)) (19 * q.1.1) ((up1 n (19 * q.1.1 + 1) (n (19 * q.1.1 + 1) + 1)) (19 * q.1.1) - o_pays q)
noncomputable def o_run (cs : Nat → List Nat) (N h : Nat) (n : Nat → Int64) (q : wO) : vx_S × Option (Nat × Int64 × Nat) := vm_whole (cs, N, q.1.1, h) (o_n1 n q) [] (lN q.1.2.1) q.1.2.2.1 q.1.2.2.2 (q.2.1 - 25) false
def o_used (g u bk : Nat) : Int32 := (nI g - nI u) - (if nI bk < (nI g - nI u) / nI 5 then nI bk else (nI g - nI u) / nI 5)
def o_n5 (n3 : Nat → Int64) (q : wO) (mk : Nat) (us : Int32) : Nat → Int64 := up1 (up1 n3 (19 * q.1.1) (n3 (19 * q.1.1) + (nI q.2.1 - us).toInt64 * lN q.2.2.1)) (19 * mk) ((up1 n3 (19 * q.1.1) (n3 (19 * q.1.1) + (nI q.2.1 - us).toInt64 * lN q.2.2.1)) (19 * mk) + us.toInt64 * lN q.2.2.1)
theorem cf_price {G : rx_E} {d : Nat} {C : rx_M} {S : gs_T} {a p : Nat} {x : Int32} (hG : rx_OK G) (ha : rk C a 8 7) (hp : C.1 a 5 = nI p) (hp2 : p < 2 ^ 31) : rx_C G MX8_priceOf d [.ref a, .int x] (gl C S) 0 0 (fun v mu => v = some (.long (x.toInt64 * lN p)) ∧ mu = gl C S) := by
  refine rx_meth0 (by decide +kernel) rfl (Nat.le_of_ble_eq_true rfl) ?_
  refine rx_iload_n dX8_priceOf_0 rfl ?_
  refine rx_i2l dX8_priceOf_1 ?_
  refine rx_aload_n dX8_priceOf_2 rfl rfl ?_
  refine gy_getI (v := nI p) hG hf_RX8_26 rfl dX8_priceOf_3 ha hp ?_
  refine rx_i2l dX8_priceOf_6 ?_
  refine rx_tl (y := lN p) (nI_l hp2) ?_
  refine rx_lmul dX8_priceOf_7 ?_
  exact rx_lret rfl dX8_priceOf_8 ⟨rfl, rfl⟩
theorem cs_nonceX {G : rx_E} {d : Nat} {C : rx_M} {S : gs_T} {x : Nat} {y : Int64} (hG : rx_OK G) (hx : x < 32) (hy : C.2.1 8 (32 * x + 1) = y) : rx_C G MX9_nonceOf d [.ref 7, .int (nI x)] (gl C S) 0 0 (fun v mu => v = some (.long y) ∧ mu = gl C S) := by
  refine rx_meth0 (by decide +kernel) rfl (Nat.le_of_ble_eq_true rfl) ?_
  refine rx_aload_n dX9_nonceOf_0 rfl rfl ?_
  refine g_getR hG hf_RX9_9 rfl dX9_nonceOf_1 rfl rfl rfl ?_
  refine rx_bipush (v := nI 32) dX9_nonceOf_4 rfl ?_
  refine rx_iload_n dX9_nonceOf_6 rfl ?_
  refine rx_imul dX9_nonceOf_7 ?_
  refine rx_ti (y := nI (32 * x)) (pk_mul _ _) ?_
  refine rx_iconst (v := nI 1) dX9_nonceOf_8 rfl ?_
  refine rx_iadd dX9_nonceOf_9 ?_
  refine rx_ti (y := nI (32 * x + 1)) (nI_add _ _) ?_
  refine gcv_lald (j := 32 * x + 1) (v := y) hG dX9_nonceOf_10 rfl rfl rfl rfl (by omega) (by decide) hy ?_
  exact rx_lret rfl dX9_nonceOf_11 ⟨rfl, rfl⟩
theorem cs_balX {G : rx_E} {d : Nat} {C : rx_M} {S : gs_T} {x : Nat} {y : Int64} (hG : rx_OK G) (hx : x < 32) (hy : C.2.1 8 (32 * x) = y) : rx_C G MX9_balanceOf d [.ref 7, .int (nI x)] (gl C S) 0 0 (fun v mu => v = some (.long y) ∧ mu = gl C S) := by
  refine rx_meth0 (by decide +kernel) rfl (Nat.le_of_ble_eq_true rfl) ?_
  refine rx_aload_n dX9_balanceOf_0 rfl rfl ?_
  refine g_getR hG hf_RX9_9 rfl dX9_balanceOf_1 rfl rfl rfl ?_
  refine rx_bipush (v := nI 32) dX9_balanceOf_4 rfl ?_
  refine rx_iload_n dX9_balanceOf_6 rfl ?_
  refine rx_imul dX9_balanceOf_7 ?_
  refine rx_ti (y := nI (32 * x)) (pk_mul _ _) ?_
  refine gcv_lald (j := 32 * x) (v := y) hG dX9_balanceOf_8 rfl rfl rfl rfl (by omega) (by decide) hy ?_
  exact rx_lret rfl dX9_balanceOf_9 ⟨rfl, rfl⟩
theorem cs_raiseX {G : rx_E} {d : Nat} {C : rx_M} {S : gs_T} {x : Nat} (hG : rx_OK G) (hx : x < 32) : rx_C G MX9_raiseNonce d [.ref 7, .int (nI x)] (gl C S) 0 0 (fun v mu => v = none ∧ mu = gl (C.1, rx_u C.2.1 8 (32 * x + 1) (C.2.1 8 (32 * x + 1) + 1), C.2.2) S) := by
  refine rx_meth0 (by decide +kernel) rfl (Nat.le_of_ble_eq_true rfl) ?_
  refine rx_aload_n dX9_raiseNonce_0 rfl rfl ?_
  refine g_getR hG hf_RX9_9 rfl dX9_raiseNonce_1 rfl rfl rfl ?_
  refine rx_bipush (v := nI 32) dX9_raiseNonce_4 rfl ?_
  refine rx_iload_n dX9_raiseNonce_6 rfl ?_
  refine rx_imul dX9_raiseNonce_7 ?_
  refine rx_ti (y := nI (32 * x)) ((pk_mul _ _).trans (congrArg nI (by omega))) ?_
  refine rx_iconst (v := nI 1) dX9_raiseNonce_8 rfl ?_
  refine rx_iadd dX9_raiseNonce_9 ?_
  refine rx_ti (y := nI (32 * x + 1)) ((nI_add _ _).trans (congrArg nI (by omega))) ?_
  refine rx_dup2 dX9_raiseNonce_10 rfl rfl ?_
  refine gcv_lald (j := 32 * x + 1) (v := C.2.1 8 (32 * x + 1)) hG dX9_raiseNonce_11 rfl rfl rfl rfl (by omega) (by decide) rfl ?_
  refine rx_lconst (v := 1) dX9_raiseNonce_12 rfl ?_
  refine rx_ladd dX9_raiseNonce_13 ?_
  refine gc_last (j := 32 * x + 1) hG dX9_raiseNonce_14 rfl rfl rfl rfl (by omega) (by decide) ?_
  exact rx_vret rfl dX9_raiseNonce_15 ⟨rfl, rfl⟩
theorem cs_beginX {G : rx_E} {d : Nat} {C : rx_M} {S : gs_T} {x : Int32} (hG : rx_OK G) : rx_C G MX5_beginOrder d [.ref 9, .int x] (gl C S) 0 0 (fun v mu => v = none ∧ mu = gl (rx_u C.1 9 2 x, C.2) S) := by
  refine rx_meth0 (by decide +kernel) rfl (Nat.le_of_ble_eq_true rfl) ?_
  refine rx_aload_n dX5_beginOrder_0 rfl rfl ?_
  refine rx_iload_n dX5_beginOrder_1 rfl ?_
  refine gc_putI hG hf_RX5_19 (gw_nf rfl rfl) rfl dX5_beginOrder_2 rfl rfl rfl rfl rfl ?_
  exact rx_vret rfl dX5_beginOrder_5 ⟨rfl, rfl⟩
theorem cf_void {G : rx_E} {d : Nat} {C : rx_M} {S : gs_T} (hG : rx_OK G) {oa : Nat} {q : wO} {n : Nat → Int64} {left : Int32} (hO : cO1 C oa q) (hf : q.1.1 < 32) (hg : q.2.1 ≤ 30000) (hp : q.2.2.1 ≤ 1000000) (hl : ∀ k, k < 1024 → C.2.1 8 k = lf n k) : rx_C G MX10_isVoid (d + 1) [.ref 0, .ref oa, .int left] (gl C S) 0 0 (fun v mu => (∃ r, ((r = 1 ∧ o_void n q left) ∨ (r = 0 ∧ ¬ o_void n q left)) ∧ v = some (.int (nI r))) ∧ mu = gl C S) := by
  refine rx_meth0 (by decide +kernel) rfl (Nat.le_of_ble_eq_true rfl) ?_
  refine rx_aload_n dX10_isVoid_0 rfl rfl ?_
  refine gy_getI (v := q.2.2.2) hG hf_RX10_309 rfl dX10_isVoid_1 hO.1 hO.2.2.2.2.2 ?_
  refine rx_i2l dX10_isVoid_4 ?_
  refine rx_aload_n dX10_isVoid_5 rfl rfl ?_
  refine g_getR hG hf_RX10_19 rfl dX10_isVoid_6 rfl rfl rfl ?_
  refine g_getR hG hf_RX10_168 rfl dX10_isVoid_9 rfl rfl rfl ?_
  refine rx_aload_n dX10_isVoid_12 rfl rfl ?_
  refine gy_getI (v := nI q.1.1) hG hf_RX10_270 rfl dX10_isVoid_13 hO.1 hO.2.2.1.1 ?_
  refine gv_invV (as := [.int _]) hG okX9_nonceOf lk_RX10_312 rfl rfl dX10_isVoid_16 rfl (by simp [Value.category]) (cs_nonceX (y := n (19 * q.1.1 + 1)) hG hf ((hl _ (by omega)).trans (lf_bal (by decide)))) ?_
  rintro _ _ ⟨rfl, rfl⟩
  refine rx_lc_ne (tgt := 71) dX10_isVoid_19 dX10_isVoid_20 (by decide) (fun h19 => ?_) (fun h19 => ?_)
  · refine rx_iconst (v := nI 1) dX10_isVoid_71 rfl ?_
    refine rx_goto (tgt := 76) dX10_isVoid_72 (by decide) ?_
    exact rx_zret rfl rfl dX10_isVoid_76 ⟨⟨1, Or.inl ⟨rfl, Or.inl h19⟩, rfl⟩, rfl⟩
  · refine rx_aload_n dX10_isVoid_23 rfl rfl ?_
    refine gy_getI (v := nI q.2.1) hG hf_RX10_277 rfl dX10_isVoid_24 hO.1 hO.2.2.2.1 ?_
    refine rx_bipush (v := nI 25) dX10_isVoid_27 rfl ?_
    refine rx_icmp_lt (tgt := 71) dX10_isVoid_29 (by decide) (fun h29 => ?_) (fun h29 => ?_)
    · rw [nI_ltI (by omega) (by omega)] at h29
      refine rx_iconst (v := nI 1) dX10_isVoid_71 rfl ?_
      refine rx_goto (tgt := 76) dX10_isVoid_72 (by decide) ?_
      exact rx_zret rfl rfl dX10_isVoid_76 ⟨⟨1, Or.inl ⟨rfl, Or.inr (Or.inl (by omega))⟩, rfl⟩, rfl⟩
    · rw [nI_ltI (by omega) (by omega)] at h29
      refine rx_aload_n dX10_isVoid_32 rfl rfl ?_
      refine gy_getI (v := nI q.2.1) hG hf_RX10_277 rfl dX10_isVoid_33 hO.1 hO.2.2.2.1 ?_
      refine rx_iload_n dX10_isVoid_36 rfl ?_
      refine rx_icmp_gt (tgt := 71) dX10_isVoid_37 (by decide) (fun h37 => ?_) (fun h37 => ?_)
      · refine rx_iconst (v := nI 1) dX10_isVoid_71 rfl ?_
        refine rx_goto (tgt := 76) dX10_isVoid_72 (by decide) ?_
        exact rx_zret rfl rfl dX10_isVoid_76 ⟨⟨1, Or.inl ⟨rfl, Or.inr (Or.inr (Or.inl h37))⟩, rfl⟩, rfl⟩
      · refine rx_aload_n dX10_isVoid_40 rfl rfl ?_
        refine rx_aload_n dX10_isVoid_41 rfl rfl ?_
        refine gy_getI (v := nI q.2.1) hG hf_RX10_277 rfl dX10_isVoid_42 hO.1 hO.2.2.2.1 ?_
        refine rx_invV0 (as := [.int _]) hG okX8_priceOf lk_RX10_280 (rk_n hO.1) (congrArg Prod.fst (rk_k hO.1)) dX10_isVoid_45 rfl (by simp [Value.category]) (cf_price hG hO.1 hO.2.2.2.2.1 (by omega)) ?_
        rintro _ _ ⟨rfl, rfl⟩
        refine rx_aload_n dX10_isVoid_48 rfl rfl ?_
        refine gy_getL (v := q.1.2.2.1) hG hf_RX10_294 rfl dX10_isVoid_49 hO.1 hO.2.2.1.2.2.1 ?_
        refine rx_ladd dX10_isVoid_52 ?_
        refine rx_tl (y := o_pays q + q.1.2.2.1) (by unfold o_pays; rw [nI_l (by omega)]) ?_
        refine rx_aload_n dX10_isVoid_53 rfl rfl ?_
        refine g_getR hG hf_RX10_19 rfl dX10_isVoid_54 rfl rfl rfl ?_
        refine g_getR hG hf_RX10_168 rfl dX10_isVoid_57 rfl rfl rfl ?_
        refine rx_aload_n dX10_isVoid_60 rfl rfl ?_
        refine gy_getI (v := nI q.1.1) hG hf_RX10_270 rfl dX10_isVoid_61 hO.1 hO.2.2.1.1 ?_
        refine gv_invV (as := [.int _]) hG okX9_balanceOf lk_RX10_315 rfl rfl dX10_isVoid_64 rfl (by simp [Value.category]) (cs_balX (y := n (19 * q.1.1)) hG hf ((hl _ (by omega)).trans lf_b0)) ?_
        rintro _ _ ⟨rfl, rfl⟩
        refine rx_lc_le (tgt := 75) dX10_isVoid_67 dX10_isVoid_68 (by decide) (fun h67 => ?_) (fun h67 => ?_)
        · refine rx_iconst (v := nI 0) dX10_isVoid_75 rfl ?_
          exact rx_zret rfl rfl dX10_isVoid_76 ⟨⟨0, Or.inr ⟨rfl, by rintro (h | h | h | h); (exact h h19); omega; (exact h37 h); (exact absurd h67 (Int64.not_le.mpr h))⟩, rfl⟩, rfl⟩
        · refine rx_iconst (v := nI 1) dX10_isVoid_71 rfl ?_
          refine rx_goto (tgt := 76) dX10_isVoid_72 (by decide) ?_
          exact rx_zret rfl rfl dX10_isVoid_76 ⟨⟨1, Or.inl ⟨rfl, Or.inr (Or.inr (Or.inr (Int64.not_le.mp h67)))⟩, rfl⟩, rfl⟩

theorem dX6_begin_0 : decode cX6_begin 0 = .ok (.aload_n 0, 1) := by decide +kernel
theorem dX6_begin_1 : decode cX6_begin 1 = .ok (.aload_n 2, 1) := by decide +kernel
theorem dX6_begin_2 : decode cX6_begin 2 = .ok (.putfield 18, 3) := by decide +kernel
theorem dX6_begin_5 : decode cX6_begin 5 = .ok (.aload_n 0, 1) := by decide +kernel
theorem dX6_begin_6 : decode cX6_begin 6 = .ok (.aload_n 1, 1) := by decide +kernel
theorem dX6_begin_7 : decode cX6_begin 7 = .ok (.getfield 22, 3) := by decide +kernel
theorem dX6_begin_10 : decode cX6_begin 10 = .ok (.l2i, 1) := by decide +kernel
theorem dX6_begin_11 : decode cX6_begin 11 = .ok (.putfield 28, 3) := by decide +kernel
theorem dX6_begin_14 : decode cX6_begin 14 = .ok (.aload_n 0, 1) := by decide +kernel
theorem dX6_begin_15 : decode cX6_begin 15 = .ok (.aload_n 1, 1) := by decide +kernel
theorem dX6_begin_16 : decode cX6_begin 16 = .ok (.getfield 32, 3) := by decide +kernel
theorem dX6_begin_19 : decode cX6_begin 19 = .ok (.putfield 35, 3) := by decide +kernel
theorem dX6_begin_22 : decode cX6_begin 22 = .ok (.aload_n 0, 1) := by decide +kernel
theorem dX6_begin_23 : decode cX6_begin 23 = .ok (.aload_n 1, 1) := by decide +kernel
theorem dX6_begin_24 : decode cX6_begin 24 = .ok (.getfield 36, 3) := by decide +kernel
theorem dX6_begin_27 : decode cX6_begin 27 = .ok (.putfield 39, 3) := by decide +kernel
theorem dX6_begin_30 : decode cX6_begin 30 = .ok (.aload_n 0, 1) := by decide +kernel
theorem dX6_begin_31 : decode cX6_begin 31 = .ok (.aload_n 1, 1) := by decide +kernel
theorem dX6_begin_32 : decode cX6_begin 32 = .ok (.getfield 40, 3) := by decide +kernel
theorem dX6_begin_35 : decode cX6_begin 35 = .ok (.putfield 43, 3) := by decide +kernel
theorem dX6_begin_38 : decode cX6_begin 38 = .ok (.aload_n 0, 1) := by decide +kernel
theorem dX6_begin_39 : decode cX6_begin 39 = .ok (.aload_n 1, 1) := by decide +kernel
theorem dX6_begin_40 : decode cX6_begin 40 = .ok (.getfield 44, 3) := by decide +kernel
theorem dX6_begin_43 : decode cX6_begin 43 = .ok (.putfield 47, 3) := by decide +kernel
theorem dX6_begin_46 : decode cX6_begin 46 = .ok (.aload_n 0, 1) := by decide +kernel
theorem dX6_begin_47 : decode cX6_begin 47 = .ok (.aload_n 1, 1) := by decide +kernel
theorem dX6_begin_48 : decode cX6_begin 48 = .ok (.getfield 48, 3) := by decide +kernel
theorem dX6_begin_51 : decode cX6_begin 51 = .ok (.putfield 52, 3) := by decide +kernel
theorem dX6_begin_54 : decode cX6_begin 54 = .ok (.aload_n 0, 1) := by decide +kernel
theorem dX6_begin_55 : decode cX6_begin 55 = .ok (.iconst 0, 1) := by decide +kernel
theorem dX6_begin_56 : decode cX6_begin 56 = .ok (.putfield 53, 3) := by decide +kernel
theorem dX6_begin_59 : decode cX6_begin 59 = .ok (.aload_n 0, 1) := by decide +kernel
theorem dX6_begin_60 : decode cX6_begin 60 = .ok (.iconst 0, 1) := by decide +kernel
theorem dX6_begin_61 : decode cX6_begin 61 = .ok (.putfield 56, 3) := by decide +kernel
theorem dX6_begin_64 : decode cX6_begin 64 = .ok (.aload_n 0, 1) := by decide +kernel
theorem dX6_begin_65 : decode cX6_begin 65 = .ok (.iconst 0, 1) := by decide +kernel
theorem dX6_begin_66 : decode cX6_begin 66 = .ok (.putfield 59, 3) := by decide +kernel
theorem dX6_begin_69 : decode cX6_begin 69 = .ok (.return_, 1) := by decide +kernel
theorem dX7_remember_0 : decode cX7_remember 0 = .ok (.aload_n 1, 1) := by decide +kernel
theorem dX7_remember_1 : decode cX7_remember 1 = .ok (.getfield 92, 3) := by decide +kernel
theorem dX7_remember_4 : decode cX7_remember 4 = .ok (.ifCond .ne 33, 3) := by decide +kernel
theorem dX7_remember_7 : decode cX7_remember 7 = .ok (.aload_n 0, 1) := by decide +kernel
theorem dX7_remember_8 : decode cX7_remember 8 = .ok (.getfield 21, 3) := by decide +kernel
theorem dX7_remember_11 : decode cX7_remember 11 = .ok (.aload_n 1, 1) := by decide +kernel
theorem dX7_remember_12 : decode cX7_remember 12 = .ok (.getfield 165, 3) := by decide +kernel
theorem dX7_remember_15 : decode cX7_remember 15 = .ok (.invokevirtual 169, 3) := by decide +kernel
theorem dX7_remember_18 : decode cX7_remember 18 = .ok (.aload_n 1, 1) := by decide +kernel
theorem dX7_remember_19 : decode cX7_remember 19 = .ok (.aload_n 0, 1) := by decide +kernel
theorem dX7_remember_20 : decode cX7_remember 20 = .ok (.getfield 28, 3) := by decide +kernel
theorem dX7_remember_23 : decode cX7_remember 23 = .ok (.getfield 172, 3) := by decide +kernel
theorem dX7_remember_26 : decode cX7_remember 26 = .ok (.putfield 175, 3) := by decide +kernel
theorem dX7_remember_29 : decode cX7_remember 29 = .ok (.aload_n 1, 1) := by decide +kernel
theorem dX7_remember_30 : decode cX7_remember 30 = .ok (.aload_n 0, 1) := by decide +kernel
theorem dX7_remember_31 : decode cX7_remember 31 = .ok (.getfield 63, 3) := by decide +kernel
theorem dX7_remember_34 : decode cX7_remember 34 = .ok (.putfield 178, 3) := by decide +kernel
theorem dX7_remember_37 : decode cX7_remember 37 = .ok (.return_, 1) := by decide +kernel
theorem dX7_begin_0 : decode cX7_begin 0 = .ok (.aload_n 0, 1) := by decide +kernel
theorem dX7_begin_1 : decode cX7_begin 1 = .ok (.invokevirtual 107, 3) := by decide +kernel
theorem dX7_begin_4 : decode cX7_begin 4 = .ok (.ifCond .eq 17, 3) := by decide +kernel
theorem dX7_begin_7 : decode cX7_begin 7 = .ok (.aload_n 0, 1) := by decide +kernel
theorem dX7_begin_8 : decode cX7_begin 8 = .ok (.iconst 2, 1) := by decide +kernel
theorem dX7_begin_9 : decode cX7_begin 9 = .ok (.lconst 0, 1) := by decide +kernel
theorem dX7_begin_10 : decode cX7_begin 10 = .ok (.aload_n 0, 1) := by decide +kernel
theorem dX7_begin_11 : decode cX7_begin 11 = .ok (.getfield 35, 3) := by decide +kernel
theorem dX7_begin_14 : decode cX7_begin 14 = .ok (.getfield 111, 3) := by decide +kernel
theorem dX7_begin_17 : decode cX7_begin 17 = .ok (.invokevirtual 114, 3) := by decide +kernel
theorem dX7_begin_20 : decode cX7_begin 20 = .ok (.return_, 1) := by decide +kernel
theorem dX7_begin_21 : decode cX7_begin 21 = .ok (.aload_n 0, 1) := by decide +kernel
theorem dX7_begin_22 : decode cX7_begin 22 = .ok (.getfield 35, 3) := by decide +kernel
theorem dX7_begin_25 : decode cX7_begin 25 = .ok (.getfield 118, 3) := by decide +kernel
theorem dX7_begin_28 : decode cX7_begin 28 = .ok (.l2i, 1) := by decide +kernel
theorem dX7_begin_29 : decode cX7_begin 29 = .ok (.istore_n 1, 1) := by decide +kernel
theorem dX7_begin_30 : decode cX7_begin 30 = .ok (.aload_n 0, 1) := by decide +kernel
theorem dX7_begin_31 : decode cX7_begin 31 = .ok (.getfield 21, 3) := by decide +kernel
theorem dX7_begin_34 : decode cX7_begin 34 = .ok (.iload_n 1, 1) := by decide +kernel
theorem dX7_begin_35 : decode cX7_begin 35 = .ok (.invokevirtual 122, 3) := by decide +kernel
theorem dX7_begin_38 : decode cX7_begin 38 = .ok (.lstore_n 2, 1) := by decide +kernel
theorem dX7_begin_39 : decode cX7_begin 39 = .ok (.aload_n 0, 1) := by decide +kernel
theorem dX7_begin_40 : decode cX7_begin 40 = .ok (.getfield 12, 3) := by decide +kernel
theorem dX7_begin_43 : decode cX7_begin 43 = .ok (.lload_n 2, 1) := by decide +kernel
theorem dX7_begin_44 : decode cX7_begin 44 = .ok (.invokevirtual 126, 3) := by decide +kernel
theorem dX7_begin_47 : decode cX7_begin 47 = .ok (.ifCond .ne 39, 3) := by decide +kernel
theorem dX7_begin_50 : decode cX7_begin 50 = .ok (.aload_n 0, 1) := by decide +kernel
theorem dX7_begin_51 : decode cX7_begin 51 = .ok (.getfield 21, 3) := by decide +kernel
theorem dX7_begin_54 : decode cX7_begin 54 = .ok (.aload_n 0, 1) := by decide +kernel
theorem dX7_begin_55 : decode cX7_begin 55 = .ok (.getfield 35, 3) := by decide +kernel
theorem dX7_begin_58 : decode cX7_begin 58 = .ok (.getfield 130, 3) := by decide +kernel
theorem dX7_begin_61 : decode cX7_begin 61 = .ok (.iload_n 1, 1) := by decide +kernel
theorem dX7_begin_62 : decode cX7_begin 62 = .ok (.aload_n 0, 1) := by decide +kernel
theorem dX7_begin_63 : decode cX7_begin 63 = .ok (.getfield 35, 3) := by decide +kernel
theorem dX7_begin_66 : decode cX7_begin 66 = .ok (.getfield 133, 3) := by decide +kernel
theorem dX7_begin_69 : decode cX7_begin 69 = .ok (.invokevirtual 136, 3) := by decide +kernel
theorem dX7_begin_72 : decode cX7_begin 72 = .ok (.aload_n 0, 1) := by decide +kernel
theorem dX7_begin_73 : decode cX7_begin 73 = .ok (.iconst 1, 1) := by decide +kernel
theorem dX7_begin_74 : decode cX7_begin 74 = .ok (.lconst 0, 1) := by decide +kernel
theorem dX7_begin_75 : decode cX7_begin 75 = .ok (.aload_n 0, 1) := by decide +kernel
theorem dX7_begin_76 : decode cX7_begin 76 = .ok (.getfield 35, 3) := by decide +kernel
theorem dX7_begin_79 : decode cX7_begin 79 = .ok (.getfield 111, 3) := by decide +kernel
theorem dX7_begin_82 : decode cX7_begin 82 = .ok (.invokevirtual 114, 3) := by decide +kernel
theorem dX7_begin_85 : decode cX7_begin 85 = .ok (.return_, 1) := by decide +kernel
theorem dX7_begin_86 : decode cX7_begin 86 = .ok (.aload_n 0, 1) := by decide +kernel
theorem dX7_begin_87 : decode cX7_begin 87 = .ok (.getfield 41, 3) := by decide +kernel
theorem dX7_begin_90 : decode cX7_begin 90 = .ok (.aload_n 0, 1) := by decide +kernel
theorem dX7_begin_91 : decode cX7_begin 91 = .ok (.getfield 60, 3) := by decide +kernel
theorem dX7_begin_94 : decode cX7_begin 94 = .ok (.aaload, 1) := by decide +kernel
theorem dX7_begin_95 : decode cX7_begin 95 = .ok (.astore 4, 2) := by decide +kernel
theorem dX7_begin_97 : decode cX7_begin 97 = .ok (.aload 4, 2) := by decide +kernel
theorem dX7_begin_99 : decode cX7_begin 99 = .ok (.aload_n 0, 1) := by decide +kernel
theorem dX7_begin_100 : decode cX7_begin 100 = .ok (.getfield 35, 3) := by decide +kernel
theorem dX7_begin_103 : decode cX7_begin 103 = .ok (.aload_n 0, 1) := by decide +kernel
theorem dX7_begin_104 : decode cX7_begin 104 = .ok (.getfield 12, 3) := by decide +kernel
theorem dX7_begin_107 : decode cX7_begin 107 = .ok (.getfield 140, 3) := by decide +kernel
theorem dX7_begin_110 : decode cX7_begin 110 = .ok (.lload_n 2, 1) := by decide +kernel
theorem dX7_begin_111 : decode cX7_begin 111 = .ok (.l2i, 1) := by decide +kernel
theorem dX7_begin_112 : decode cX7_begin 112 = .ok (.aaload, 1) := by decide +kernel
theorem dX7_begin_113 : decode cX7_begin 113 = .ok (.invokevirtual 144, 3) := by decide +kernel
theorem dX7_begin_116 : decode cX7_begin 116 = .ok (.aload_n 0, 1) := by decide +kernel
theorem dX7_begin_117 : decode cX7_begin 117 = .ok (.aload 4, 2) := by decide +kernel
theorem dX7_begin_119 : decode cX7_begin 119 = .ok (.invokevirtual 147, 3) := by decide +kernel
theorem dX7_begin_122 : decode cX7_begin 122 = .ok (.aload_n 0, 1) := by decide +kernel
theorem dX7_begin_123 : decode cX7_begin 123 = .ok (.getfield 21, 3) := by decide +kernel
theorem dX7_begin_126 : decode cX7_begin 126 = .ok (.aload_n 0, 1) := by decide +kernel
theorem dX7_begin_127 : decode cX7_begin 127 = .ok (.getfield 35, 3) := by decide +kernel
theorem dX7_begin_130 : decode cX7_begin 130 = .ok (.getfield 130, 3) := by decide +kernel
theorem dX7_begin_133 : decode cX7_begin 133 = .ok (.iload_n 1, 1) := by decide +kernel
theorem dX7_begin_134 : decode cX7_begin 134 = .ok (.aload_n 0, 1) := by decide +kernel
theorem dX7_begin_135 : decode cX7_begin 135 = .ok (.getfield 35, 3) := by decide +kernel
theorem dX7_begin_138 : decode cX7_begin 138 = .ok (.getfield 133, 3) := by decide +kernel
theorem dX7_begin_141 : decode cX7_begin 141 = .ok (.invokevirtual 136, 3) := by decide +kernel
theorem dX7_begin_144 : decode cX7_begin 144 = .ok (.aload_n 0, 1) := by decide +kernel
theorem dX7_begin_145 : decode cX7_begin 145 = .ok (.dup, 1) := by decide +kernel
theorem dX7_begin_146 : decode cX7_begin 146 = .ok (.getfield 60, 3) := by decide +kernel
theorem dX7_begin_149 : decode cX7_begin 149 = .ok (.iconst 1, 1) := by decide +kernel
theorem dX7_begin_150 : decode cX7_begin 150 = .ok (.iadd, 1) := by decide +kernel
theorem dX7_begin_151 : decode cX7_begin 151 = .ok (.putfield 60, 3) := by decide +kernel
theorem dX7_begin_154 : decode cX7_begin 154 = .ok (.aload_n 0, 1) := by decide +kernel
theorem dX7_begin_155 : decode cX7_begin 155 = .ok (.dup, 1) := by decide +kernel
theorem dX7_begin_156 : decode cX7_begin 156 = .ok (.getfield 66, 3) := by decide +kernel
theorem dX7_begin_159 : decode cX7_begin 159 = .ok (.iconst 1, 1) := by decide +kernel
theorem dX7_begin_160 : decode cX7_begin 160 = .ok (.iadd, 1) := by decide +kernel
theorem dX7_begin_161 : decode cX7_begin 161 = .ok (.putfield 66, 3) := by decide +kernel
theorem dX7_begin_164 : decode cX7_begin 164 = .ok (.return_, 1) := by decide +kernel
theorem cs_balanceE {G : rx_E} {d : Nat} {S : gs_T} {K : Nat → Nat × Nat} {C0 C : rx_M} {g : vg_T} {bs od : Nat} {n : Nat → Int64} {e : List (Nat × Int64 × Int64)} {b m : Nat} {gs : List vf_T} {z : Int32} (hG : rx_OK G) (hY : rc_Y K C0 C g bs od (n, e, b, gs, m) z) {x : Nat} (hx : x < 32) : rx_C G MX9_balanceOf d [.ref 7, .int (nI x)] (gl C S) 0 0 (fun v mu => v = some (.long (n (19 * x))) ∧ mu = gl C S) := by
  refine rx_meth0 (by decide +kernel) rfl (Nat.le_of_ble_eq_true rfl) ?_
  refine rx_aload_n dX9_balanceOf_0 rfl rfl ?_
  refine g_getR hG hf_RX9_9 rfl dX9_balanceOf_1 rfl rfl rfl ?_
  refine rx_bipush (v := nI 32) dX9_balanceOf_4 rfl ?_
  refine rx_iload_n dX9_balanceOf_6 rfl ?_
  refine rx_imul dX9_balanceOf_7 ?_
  refine rx_ti (y := nI (32 * x)) (pk_mul _ _) ?_
  refine gcv_lald (j := 32 * x) (v := n (19 * x)) hG dX9_balanceOf_8 rfl rfl rfl rfl (by omega) (by decide) ((rc_now hY (by omega)).trans lf_b0) ?_
  exact rx_lret rfl dX9_balanceOf_9 ⟨rfl, rfl⟩
theorem cs_codeE {G : rx_E} {d : Nat} {S : gs_T} {K : Nat → Nat × Nat} {C0 C : rx_M} {g : vg_T} {bs od : Nat} {n : Nat → Int64} {e : List (Nat × Int64 × Int64)} {b m : Nat} {gs : List vf_T} {z : Int32} (hG : rx_OK G) (hY : rc_Y K C0 C g bs od (n, e, b, gs, m) z) {x : Nat} (hx : x < 32) : rx_C G MX9_codeOf d [.ref 7, .int (nI x)] (gl C S) 0 0 (fun v mu => v = some (.long (n (19 * x + 2) - 1)) ∧ mu = gl C S) := by
  refine rx_meth0 (by decide +kernel) rfl (Nat.le_of_ble_eq_true rfl) ?_
  refine rx_aload_n dX9_codeOf_0 rfl rfl ?_
  refine g_getR hG hf_RX9_9 rfl dX9_codeOf_1 rfl rfl rfl ?_
  refine rx_bipush (v := nI 32) dX9_codeOf_4 rfl ?_
  refine rx_iload_n dX9_codeOf_6 rfl ?_
  refine rx_imul dX9_codeOf_7 ?_
  refine rx_ti (y := nI (32 * x)) (pk_mul _ _) ?_
  refine rx_iconst (v := nI 2) dX9_codeOf_8 rfl ?_
  refine rx_iadd dX9_codeOf_9 ?_
  refine rx_ti (y := nI (32 * x + 2)) (nI_add _ _) ?_
  refine gcv_lald (j := 32 * x + 2) (v := n (19 * x + 2)) hG dX9_codeOf_10 rfl rfl rfl rfl (by omega) (by decide) ((rc_now hY (by omega)).trans (lf_bal (by decide))) ?_
  refine rx_lconst (v := 1) dX9_codeOf_11 rfl ?_
  refine rx_lsub dX9_codeOf_12 ?_
  exact rx_lret rfl dX9_codeOf_13 ⟨rfl, rfl⟩
/-- a move, by the leaves -/
theorem cs_addE {G : rx_E} {d : Nat} {S : gs_T} {C : rx_M} {x : Nat} {am : Int64} (hG : rx_OK G) (hx : x < 32) : rx_C G MX9_addToBalance d [.ref 7, .int (nI x), .long am] (gl C S) 0 0 (fun v mu => v = none ∧ mu = gl (C.1, rx_u C.2.1 8 (32 * x) (C.2.1 8 (32 * x) + am), C.2.2) S) := by
  refine rx_meth0 (by decide +kernel) rfl (Nat.le_of_ble_eq_true rfl) ?_
  refine rx_aload_n dX9_addToBalance_0 rfl rfl ?_
  refine g_getR hG hf_RX9_9 rfl dX9_addToBalance_1 rfl rfl rfl ?_
  refine rx_bipush (v := nI 32) dX9_addToBalance_4 rfl ?_
  refine rx_iload_n dX9_addToBalance_6 rfl ?_
  refine rx_imul dX9_addToBalance_7 ?_
  refine rx_ti (y := nI (32 * x)) (pk_mul _ _) ?_
  refine rx_dup2 dX9_addToBalance_8 rfl rfl ?_
  refine gcv_lald (j := 32 * x) (v := C.2.1 8 (32 * x)) hG dX9_addToBalance_9 rfl rfl rfl rfl (by omega) (by decide) rfl ?_
  refine rx_lload_n dX9_addToBalance_10 rfl ?_
  refine rx_ladd dX9_addToBalance_11 ?_
  refine gc_last (j := 32 * x) hG dX9_addToBalance_12 rfl rfl rfl rfl (by omega) (by decide) ?_
  exact rx_vret rfl dX9_addToBalance_13 ⟨rfl, rfl⟩
/-- only the leaves of the state differ -/
def rc_st (C C' : rx_M) : Prop := C'.1 = C.1 ∧ (∀ a, a ≠ 8 → C'.2.1 a = C.2.1 a) ∧ C'.2.2 = C.2.2
theorem cs_moveE {G : rx_E} {d : Nat} {S : gs_T} {K : Nat → Nat × Nat} {C0 C : rx_M} {g : vg_T} {bs od : Nat} {n : Nat → Int64} {e : List (Nat × Int64 × Int64)} {b m : Nat} {gs : List vf_T} {z : Int32} (hG : rx_OK G) (hY : rc_Y K C0 C g bs od (n, e, b, gs, m) z) {x y : Nat} {am : Int64} (hx : x < 32) (hy : y < 32) : rx_C G MX9_move (d + 1) [.ref 7, .int (nI x), .int (nI y), .long am] (gl C S) 0 0 (fun v mu => v = none ∧ ∃ C', mu = gl C' S ∧ rc_Y K C0 C' g bs od (up1 (up1 n (19 * x) (n (19 * x) - am)) (19 * y) ((up1 n (19 * x) (n (19 * x) - am)) (19 * y) + am), e, b, gs, m) z ∧ rc_st C C') := by
  refine rx_meth0 (by decide +kernel) rfl (Nat.le_of_ble_eq_true rfl) ?_
  refine rx_aload_n dX9_move_0 rfl rfl ?_
  refine rx_iload_n dX9_move_1 rfl ?_
  refine rx_lload_n dX9_move_2 rfl ?_
  refine rx_lneg dX9_move_3 ?_
  refine gv_invV (as := [.int _, .long _]) hG okX9_addToBalance lk_RX9_26 rfl rfl dX9_move_4 rfl (by simp [Value.category]) (cs_addE hG hx) ?_
  rintro _ _ ⟨rfl, rfl⟩
  have h1 : C.2.1 8 (32 * x) + -am = n (19 * x) - am := by rw [rc_now hY (by omega), lf_b0, Int64.sub_eq_add_neg]
  rw [h1]
  have hY1 := rcY_leaf hY (lf_u0 (a := x) (n (19 * x) - am))
  refine rx_aload_n dX9_move_7 rfl rfl ?_
  refine rx_iload_n dX9_move_8 rfl ?_
  refine rx_lload_n dX9_move_9 rfl ?_
  refine gv_invV (as := [.int _, .long _]) hG okX9_addToBalance lk_RX9_26 rfl rfl dX9_move_10 rfl (by simp [Value.category]) (cs_addE hG hy) ?_
  rintro _ _ ⟨rfl, rfl⟩
  have h2 := rc_now hY1 (j := 32 * y) (by omega)
  rw [lf_b0] at h2
  refine rx_vret rfl dX9_move_13 ⟨rfl, _, rfl, ?_, rfl, fun a ha => ?_, rfl⟩
  · rw [h2]
    exact rcY_leaf hY1 (lf_u0 (a := y) _)
  · show rx_u (rx_u C.2.1 8 _ _) 8 _ _ a = _
    rw [rx_une _ ha, rx_une _ ha]
set_option maxHeartbeats 1000000 in
theorem cc_fails {G : rx_E} {d : Nat} {S : gs_T} {K : Nat → Nat × Nat} {C0 C : rx_M} {g : vg_T} {bs od : Nat} {n : Nat → Int64} {e : List (Nat × Int64 × Int64)} {b m : Nat} {gs : List vf_T} {z : Int32} (hG : rx_OK G) (hY : rc_Y K C0 C g bs od (n, e, b, gs, m) z) {cl q : Nat} {to vl ar : Int64} {l : Bool} (hc : rc_call C cl to vl ar q l) (hcl : cl < 32) (hl10 : gs.length ≤ 10) (hs : ∀ f ∈ gs, fS f < 32) : rx_C G MX7_fails (d + 2) [.ref 4] (gl C S) 0 0 (fun vv mu => (∃ r, ((r = 1 ∧ (¬ vm_acct to ∨ vl < 0 ∨ n (19 * cl) < vl ∨ vm_locked gs to ∨ gs.length = 10)) ∨ (r = 0 ∧ ¬ (¬ vm_acct to ∨ vl < 0 ∨ n (19 * cl) < vl ∨ vm_locked gs to ∨ gs.length = 10))) ∧ vv = some (.int (nI r))) ∧ mu = gl C S) := by
  refine rx_meth0 (by decide +kernel) rfl (Nat.le_of_ble_eq_true rfl) ?_
  by_cases hac : vm_acct to
  · obtain ⟨a, ha, rfl⟩ := lN_acct hac
    refine rx_aload_n dX7_fails_0 rfl rfl ?_
    refine g_getR hG hf_RX7_35 rfl dX7_fails_1 rfl rfl rfl ?_
    refine gcv_getL (v := lN a) hG hf_RX7_118 rfl dX7_fails_4 rfl rfl rfl hc.2.1 ?_
    refine rx_invS0 (as := [.long _]) hG okX10_isAccount lk_RX7_151 dX7_fails_7 rfl (by simp [Value.category]) (cc_isAccount hG) ?_
    rintro _ _ ⟨⟨r, hr, rfl⟩, rfl⟩
    rcases hr with ⟨rfl, hr⟩ | ⟨rfl, hr⟩
    rotate_left
    · exact absurd hac hr
    refine rx_if_eq (tgt := 74) dX7_fails_10 (by decide) (fun h10 => (absurd h10 (by decide))) (fun h10 => ?_)
    refine rx_aload_n dX7_fails_13 rfl rfl ?_
    refine g_getR hG hf_RX7_35 rfl dX7_fails_14 rfl rfl rfl ?_
    refine gcv_getL (v := vl) hG hf_RX7_133 rfl dX7_fails_17 rfl rfl rfl hc.2.2.1 ?_
    refine rx_lconst (v := lN 0) dX7_fails_20 rfl ?_
    refine rx_lc_lt (tgt := 74) dX7_fails_21 dX7_fails_22 (by decide) (fun h21 => ?_) (fun h21 => ?_)
    · refine rx_iconst (v := nI 1) dX7_fails_74 rfl ?_
      refine rx_goto (tgt := 79) dX7_fails_75 (by decide) ?_
      exact rx_zret rfl rfl dX7_fails_79 ⟨⟨1, Or.inl ⟨rfl, Or.inr (Or.inl h21)⟩, rfl⟩, rfl⟩
    · refine rx_aload_n dX7_fails_25 rfl rfl ?_
      refine g_getR hG hf_RX7_35 rfl dX7_fails_26 rfl rfl rfl ?_
      refine gcv_getL (v := vl) hG hf_RX7_133 rfl dX7_fails_29 rfl rfl rfl hc.2.2.1 ?_
      refine rx_aload_n dX7_fails_32 rfl rfl ?_
      refine g_getR hG hf_RX7_21 rfl dX7_fails_33 rfl rfl rfl ?_
      refine rx_aload_n dX7_fails_36 rfl rfl ?_
      refine g_getR hG hf_RX7_35 rfl dX7_fails_37 rfl rfl rfl ?_
      refine gcv_getI (v := nI cl) hG hf_RX7_130 rfl dX7_fails_40 rfl rfl rfl hc.1 ?_
      refine gv_invV (as := [.int _]) hG okX9_balanceOf lk_RX7_154 rfl rfl dX7_fails_43 rfl (by simp [Value.category]) (cs_balanceE hG hY hcl) ?_
      rintro _ _ ⟨rfl, rfl⟩
      refine rx_lc_gt (tgt := 74) dX7_fails_46 dX7_fails_47 (by decide) (fun h46 => ?_) (fun h46 => ?_)
      · refine rx_iconst (v := nI 1) dX7_fails_74 rfl ?_
        refine rx_goto (tgt := 79) dX7_fails_75 (by decide) ?_
        exact rx_zret rfl rfl dX7_fails_79 ⟨⟨1, Or.inl ⟨rfl, Or.inr (Or.inr (Or.inl h46))⟩, rfl⟩, rfl⟩
      · refine rx_aload_n dX7_fails_50 rfl rfl ?_
        refine gcv_getI (v := nI gs.length) hG hf_RX7_60 rfl dX7_fails_51 rfl rfl rfl (rc_dep' hY) ?_
        refine rx_bipush (v := nI 10) dX7_fails_54 rfl ?_
        refine rx_icmp_ge (tgt := 74) dX7_fails_56 (by decide) (fun h56 => ?_) (fun h56 => ?_)
        · rw [nI_leI (by omega) (by omega)] at h56
          refine rx_iconst (v := nI 1) dX7_fails_74 rfl ?_
          refine rx_goto (tgt := 79) dX7_fails_75 (by decide) ?_
          exact rx_zret rfl rfl dX7_fails_79 ⟨⟨1, Or.inl ⟨rfl, Or.inr (Or.inr (Or.inr (Or.inr (by omega))))⟩, rfl⟩, rfl⟩
        · rw [nI_leI (by omega) (by omega)] at h56
          refine rx_aload_n dX7_fails_59 rfl rfl ?_
          refine rx_aload_n dX7_fails_60 rfl rfl ?_
          refine g_getR hG hf_RX7_35 rfl dX7_fails_61 rfl rfl rfl ?_
          refine gcv_getL (v := lN a) hG hf_RX7_118 rfl dX7_fails_64 rfl rfl rfl hc.2.1 ?_
          refine rx_l2i dX7_fails_67 ?_
          refine rx_ti (y := nI a) (lN_i _) ?_
          refine gv_invV (as := [.int _]) hG okX7_hasLock lk_RX7_157 rfl rfl dX7_fails_68 rfl (by simp [Value.category]) (cc_hasLock hG hY ha (by omega) hs) ?_
          rintro _ _ ⟨⟨r, hr, rfl⟩, rfl⟩
          rcases hr with ⟨rfl, hlk⟩ | ⟨rfl, hlk⟩
          · refine rx_if_eq (tgt := 78) dX7_fails_71 (by decide) (fun h71 => (absurd h71 (by decide))) (fun h71 => ?_)
            refine rx_iconst (v := nI 1) dX7_fails_74 rfl ?_
            refine rx_goto (tgt := 79) dX7_fails_75 (by decide) ?_
            exact rx_zret rfl rfl dX7_fails_79 ⟨⟨1, Or.inl ⟨rfl, Or.inr (Or.inr (Or.inr (Or.inl hlk)))⟩, rfl⟩, rfl⟩
          · refine rx_if_eq (tgt := 78) dX7_fails_71 (by decide) (fun h71 => ?_) (fun h71 => (absurd h71 (by decide))) 
            refine rx_iconst (v := nI 0) dX7_fails_78 rfl ?_
            exact rx_zret rfl rfl dX7_fails_79 ⟨⟨0, Or.inr ⟨rfl, by rintro (h | h | h | h | h); (exact h hac); (exact h21 h); (exact h46 h); (exact hlk h); omega⟩, rfl⟩, rfl⟩
  · skip
    refine rx_aload_n dX7_fails_0 rfl rfl ?_
    refine g_getR hG hf_RX7_35 rfl dX7_fails_1 rfl rfl rfl ?_
    refine gcv_getL (v := to) hG hf_RX7_118 rfl dX7_fails_4 rfl rfl rfl hc.2.1 ?_
    refine rx_invS0 (as := [.long _]) hG okX10_isAccount lk_RX7_151 dX7_fails_7 rfl (by simp [Value.category]) (cc_isAccount hG) ?_
    rintro _ _ ⟨⟨r, hr, rfl⟩, rfl⟩
    rcases hr with ⟨rfl, hr⟩ | ⟨rfl, hr⟩
    · exact absurd hr hac
    refine rx_if_eq (tgt := 74) dX7_fails_10 (by decide) (fun h10 => ?_) (fun h10 => (absurd h10 (by decide))) 
    refine rx_iconst (v := nI 1) dX7_fails_74 rfl ?_
    refine rx_goto (tgt := 79) dX7_fails_75 (by decide) ?_
    exact rx_zret rfl rfl dX7_fails_79 ⟨⟨1, Or.inl ⟨rfl, Or.inl hac⟩, rfl⟩, rfl⟩

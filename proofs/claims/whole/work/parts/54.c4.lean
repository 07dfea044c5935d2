theorem dX5_add_0 : decode cX5_add 0 = .ok (.aload_n 0, 1) := by decide +kernel
theorem dX5_add_1 : decode cX5_add 1 = .ok (.getfield 15, 3) := by decide +kernel
theorem dX5_add_4 : decode cX5_add 4 = .ok (.bipush 60, 2) := by decide +kernel
theorem dX5_add_6 : decode cX5_add 6 = .ok (.if_icmp .ge 63, 3) := by decide +kernel
theorem dX5_add_9 : decode cX5_add 9 = .ok (.aload_n 0, 1) := by decide +kernel
theorem dX5_add_10 : decode cX5_add 10 = .ok (.getfield 9, 3) := by decide +kernel
theorem dX5_add_13 : decode cX5_add 13 = .ok (.iconst 4, 1) := by decide +kernel
theorem dX5_add_14 : decode cX5_add 14 = .ok (.aload_n 0, 1) := by decide +kernel
theorem dX5_add_15 : decode cX5_add 15 = .ok (.getfield 15, 3) := by decide +kernel
theorem dX5_add_18 : decode cX5_add 18 = .ok (.imul, 1) := by decide +kernel
theorem dX5_add_19 : decode cX5_add 19 = .ok (.iload_n 1, 1) := by decide +kernel
theorem dX5_add_20 : decode cX5_add 20 = .ok (.i2l, 1) := by decide +kernel
theorem dX5_add_21 : decode cX5_add 21 = .ok (.lastore, 1) := by decide +kernel
theorem dX5_add_22 : decode cX5_add 22 = .ok (.aload_n 0, 1) := by decide +kernel
theorem dX5_add_23 : decode cX5_add 23 = .ok (.getfield 9, 3) := by decide +kernel
theorem dX5_add_26 : decode cX5_add 26 = .ok (.iconst 4, 1) := by decide +kernel
theorem dX5_add_27 : decode cX5_add 27 = .ok (.aload_n 0, 1) := by decide +kernel
theorem dX5_add_28 : decode cX5_add 28 = .ok (.getfield 15, 3) := by decide +kernel
theorem dX5_add_31 : decode cX5_add 31 = .ok (.imul, 1) := by decide +kernel
theorem dX5_add_32 : decode cX5_add 32 = .ok (.iconst 1, 1) := by decide +kernel
theorem dX5_add_33 : decode cX5_add 33 = .ok (.iadd, 1) := by decide +kernel
theorem dX5_add_34 : decode cX5_add 34 = .ok (.lload_n 2, 1) := by decide +kernel
theorem dX5_add_35 : decode cX5_add 35 = .ok (.lastore, 1) := by decide +kernel
theorem dX5_add_36 : decode cX5_add 36 = .ok (.aload_n 0, 1) := by decide +kernel
theorem dX5_add_37 : decode cX5_add 37 = .ok (.getfield 9, 3) := by decide +kernel
theorem dX5_add_40 : decode cX5_add 40 = .ok (.iconst 4, 1) := by decide +kernel
theorem dX5_add_41 : decode cX5_add 41 = .ok (.aload_n 0, 1) := by decide +kernel
theorem dX5_add_42 : decode cX5_add 42 = .ok (.getfield 15, 3) := by decide +kernel
theorem dX5_add_45 : decode cX5_add 45 = .ok (.imul, 1) := by decide +kernel
theorem dX5_add_46 : decode cX5_add 46 = .ok (.iconst 2, 1) := by decide +kernel
theorem dX5_add_47 : decode cX5_add 47 = .ok (.iadd, 1) := by decide +kernel
theorem dX5_add_48 : decode cX5_add 48 = .ok (.lload 4, 2) := by decide +kernel
theorem dX5_add_50 : decode cX5_add 50 = .ok (.lastore, 1) := by decide +kernel
theorem dX5_add_51 : decode cX5_add 51 = .ok (.aload_n 0, 1) := by decide +kernel
theorem dX5_add_52 : decode cX5_add 52 = .ok (.getfield 9, 3) := by decide +kernel
theorem dX5_add_55 : decode cX5_add 55 = .ok (.iconst 4, 1) := by decide +kernel
theorem dX5_add_56 : decode cX5_add 56 = .ok (.aload_n 0, 1) := by decide +kernel
theorem dX5_add_57 : decode cX5_add 57 = .ok (.getfield 15, 3) := by decide +kernel
theorem dX5_add_60 : decode cX5_add 60 = .ok (.imul, 1) := by decide +kernel
theorem dX5_add_61 : decode cX5_add 61 = .ok (.iconst 3, 1) := by decide +kernel
theorem dX5_add_62 : decode cX5_add 62 = .ok (.iadd, 1) := by decide +kernel
theorem dX5_add_63 : decode cX5_add 63 = .ok (.aload_n 0, 1) := by decide +kernel
theorem dX5_add_64 : decode cX5_add 64 = .ok (.getfield 19, 3) := by decide +kernel
theorem dX5_add_67 : decode cX5_add 67 = .ok (.i2l, 1) := by decide +kernel
theorem dX5_add_68 : decode cX5_add 68 = .ok (.lastore, 1) := by decide +kernel
theorem dX5_add_69 : decode cX5_add 69 = .ok (.aload_n 0, 1) := by decide +kernel
theorem dX5_add_70 : decode cX5_add 70 = .ok (.dup, 1) := by decide +kernel
theorem dX5_add_71 : decode cX5_add 71 = .ok (.getfield 15, 3) := by decide +kernel
theorem dX5_add_74 : decode cX5_add 74 = .ok (.iconst 1, 1) := by decide +kernel
theorem dX5_add_75 : decode cX5_add 75 = .ok (.iadd, 1) := by decide +kernel
theorem dX5_add_76 : decode cX5_add 76 = .ok (.putfield 15, 3) := by decide +kernel
theorem dX5_add_79 : decode cX5_add 79 = .ok (.return_, 1) := by decide +kernel
theorem dX5_backTo_0 : decode cX5_backTo 0 = .ok (.aload_n 0, 1) := by decide +kernel
theorem dX5_backTo_1 : decode cX5_backTo 1 = .ok (.iload_n 1, 1) := by decide +kernel
theorem dX5_backTo_2 : decode cX5_backTo 2 = .ok (.putfield 15, 3) := by decide +kernel
theorem dX5_backTo_5 : decode cX5_backTo 5 = .ok (.return_, 1) := by decide +kernel
theorem dX1_set_0 : decode cX1_set 0 = .ok (.aload_n 0, 1) := by decide +kernel
theorem dX1_set_1 : decode cX1_set 1 = .ok (.iload_n 1, 1) := by decide +kernel
theorem dX1_set_2 : decode cX1_set 2 = .ok (.putfield 7, 3) := by decide +kernel
theorem dX1_set_5 : decode cX1_set 5 = .ok (.aload_n 0, 1) := by decide +kernel
theorem dX1_set_6 : decode cX1_set 6 = .ok (.lload_n 2, 1) := by decide +kernel
theorem dX1_set_7 : decode cX1_set 7 = .ok (.putfield 13, 3) := by decide +kernel
theorem dX1_set_10 : decode cX1_set 10 = .ok (.aload_n 0, 1) := by decide +kernel
theorem dX1_set_11 : decode cX1_set 11 = .ok (.lload 4, 2) := by decide +kernel
theorem dX1_set_13 : decode cX1_set 13 = .ok (.putfield 17, 3) := by decide +kernel
theorem dX1_set_16 : decode cX1_set 16 = .ok (.aload_n 0, 1) := by decide +kernel
theorem dX1_set_17 : decode cX1_set 17 = .ok (.lload 6, 2) := by decide +kernel
theorem dX1_set_19 : decode cX1_set 19 = .ok (.putfield 20, 3) := by decide +kernel
theorem dX1_set_22 : decode cX1_set 22 = .ok (.aload_n 0, 1) := by decide +kernel
theorem dX1_set_23 : decode cX1_set 23 = .ok (.iload 8, 2) := by decide +kernel
theorem dX1_set_25 : decode cX1_set 25 = .ok (.putfield 23, 3) := by decide +kernel
theorem dX1_set_28 : decode cX1_set 28 = .ok (.aload_n 0, 1) := by decide +kernel
theorem dX1_set_29 : decode cX1_set 29 = .ok (.iload 9, 2) := by decide +kernel
theorem dX1_set_31 : decode cX1_set 31 = .ok (.putfield 26, 3) := by decide +kernel
theorem dX1_set_34 : decode cX1_set 34 = .ok (.return_, 1) := by decide +kernel
theorem lf_b0 {n : Nat → Int64} {a : Nat} : lf n (32 * a) = n (19 * a) := lf_bal (i := 0) (by decide)
theorem lf_u0 {n : Nat → Int64} {a : Nat} (x : Int64) (k : Nat) : lf (up1 n (19 * a) x) k = if k = 32 * a then x else lf n k := lf_up0 (i := 0) (by decide) x k
theorem lf_uc {n : Nat → Int64} {x y : Nat} (hy : y < 16) (vl : Int64) (k : Nat) : lf (up1 n (y + 19 * x + 3) vl) k = if k = 32 * x + 16 + y then vl else lf n k := by
  rw [show y + 19 * x + 3 = 19 * x + 3 + y by omega]; exact lf_upc hy vl k
theorem cs_balanceOf {G : rx_E} {d : Nat} {S : gs_T} {K : Nat → Nat × Nat} {C0 C : rx_M} {g : vg_T} {bs od : Nat} {n : Nat → Int64} {e : List (Nat × Int64 × Int64)} {b m : Nat} {gs : List vf_T} {z : Int32} (hG : rx_OK G) (hY : rc_Y K C0 C g bs od (n, e, b, gs, m) z) {x : Nat} (hx : x < 32) : rx_C G MX9_balanceOf d [.ref 7, .int (nI x)] (gl C S) 0 0 (rcq S K C0 g bs od (n, e, b, gs, m) z (some (.long (n (19 * x))))) := by
  refine rx_meth0 (by decide +kernel) rfl (Nat.le_of_ble_eq_true rfl) ?_
  refine rx_aload_n dX9_balanceOf_0 rfl rfl ?_
  refine g_getR hG hf_RX9_9 rfl dX9_balanceOf_1 rfl rfl rfl ?_
  refine rx_bipush (v := nI 32) dX9_balanceOf_4 rfl ?_
  refine rx_iload_n dX9_balanceOf_6 rfl ?_
  refine rx_imul dX9_balanceOf_7 ?_
  refine rx_ti (y := nI (32 * x)) ((pk_mul _ _).trans (congrArg nI (by omega))) ?_
  refine gcv_lald (j := 32 * x) (v := n (19 * x)) hG dX9_balanceOf_8 rfl rfl rfl rfl (by omega) (by decide) ((rc_now hY (by omega)).trans lf_b0) ?_
  exact rx_lret rfl dX9_balanceOf_9 ⟨rfl, _, rfl, hY⟩
theorem cs_addTo {G : rx_E} {d : Nat} {S : gs_T} {K : Nat → Nat × Nat} {C0 C : rx_M} {g : vg_T} {bs od : Nat} {n : Nat → Int64} {e : List (Nat × Int64 × Int64)} {b m : Nat} {gs : List vf_T} {z : Int32} (hG : rx_OK G) (hY : rc_Y K C0 C g bs od (n, e, b, gs, m) z) {x : Nat} {am : Int64} (hx : x < 32) : rx_C G MX9_addToBalance d [.ref 7, .int (nI x), .long am] (gl C S) 0 0 (rcq S K C0 g bs od (up1 n (19 * x) (n (19 * x) + am), e, b, gs, m) z none) := by
  refine rx_meth0 (by decide +kernel) rfl (Nat.le_of_ble_eq_true rfl) ?_
  refine rx_aload_n dX9_addToBalance_0 rfl rfl ?_
  refine g_getR hG hf_RX9_9 rfl dX9_addToBalance_1 rfl rfl rfl ?_
  refine rx_bipush (v := nI 32) dX9_addToBalance_4 rfl ?_
  refine rx_iload_n dX9_addToBalance_6 rfl ?_
  refine rx_imul dX9_addToBalance_7 ?_
  refine rx_ti (y := nI (32 * x)) ((pk_mul _ _).trans (congrArg nI (by omega))) ?_
  refine rx_dup2 dX9_addToBalance_8 rfl rfl ?_
  refine gcv_lald (j := 32 * x) (v := n (19 * x)) hG dX9_addToBalance_9 rfl rfl rfl rfl (by omega) (by decide) ((rc_now hY (by omega)).trans lf_b0) ?_
  refine rx_lload_n dX9_addToBalance_10 rfl ?_
  refine rx_ladd dX9_addToBalance_11 ?_
  refine gc_last (j := 32 * x) hG dX9_addToBalance_12 rfl rfl rfl rfl (by omega) (by decide) ?_
  refine rcY_ab (rcY_leaf hY (lf_u0 _)) (fun _ hY1 => ?_)
  exact rx_vret rfl dX9_addToBalance_13 ⟨rfl, _, rfl, hY1⟩
theorem cs_codeOf {G : rx_E} {d : Nat} {S : gs_T} {K : Nat → Nat × Nat} {C0 C : rx_M} {g : vg_T} {bs od : Nat} {n : Nat → Int64} {e : List (Nat × Int64 × Int64)} {b m : Nat} {gs : List vf_T} {z : Int32} (hG : rx_OK G) (hY : rc_Y K C0 C g bs od (n, e, b, gs, m) z) {x : Nat} (hx : x < 32) : rx_C G MX9_codeOf d [.ref 7, .int (nI x)] (gl C S) 0 0 (rcq S K C0 g bs od (n, e, b, gs, m) z (some (.long (n (19 * x + 2) - 1)))) := by
  refine rx_meth0 (by decide +kernel) rfl (Nat.le_of_ble_eq_true rfl) ?_
  refine rx_aload_n dX9_codeOf_0 rfl rfl ?_
  refine g_getR hG hf_RX9_9 rfl dX9_codeOf_1 rfl rfl rfl ?_
  refine rx_bipush (v := nI 32) dX9_codeOf_4 rfl ?_
  refine rx_iload_n dX9_codeOf_6 rfl ?_
  refine rx_imul dX9_codeOf_7 ?_
  refine rx_ti (y := nI (32 * x)) ((pk_mul _ _).trans (congrArg nI (by omega))) ?_
  refine rx_iconst (v := nI 2) dX9_codeOf_8 rfl ?_
  refine rx_iadd dX9_codeOf_9 ?_
  refine rx_ti (y := nI (32 * x + 2)) ((nI_add _ _).trans (congrArg nI (by omega))) ?_
  refine gcv_lald (j := 32 * x + 2) (v := n (19 * x + 2)) hG dX9_codeOf_10 rfl rfl rfl rfl (by omega) (by decide) ((rc_now hY (by omega)).trans (lf_bal (by decide))) ?_
  refine rx_lconst (v := lN 1) dX9_codeOf_11 rfl ?_
  refine rx_lsub dX9_codeOf_12 ?_
  exact rx_lret rfl dX9_codeOf_13 ⟨rfl, _, rfl, hY⟩
theorem cs_setCode {G : rx_E} {d : Nat} {S : gs_T} {K : Nat → Nat × Nat} {C0 C : rx_M} {g : vg_T} {bs od : Nat} {n : Nat → Int64} {e : List (Nat × Int64 × Int64)} {b m : Nat} {gs : List vf_T} {z : Int32} (hG : rx_OK G) (hY : rc_Y K C0 C g bs od (n, e, b, gs, m) z) {x : Nat} {cn : Int64} (hx : x < 32) : rx_C G MX9_setCode d [.ref 7, .int (nI x), .long cn] (gl C S) 0 0 (rcq S K C0 g bs od (up1 n (19 * x + 2) (cn + 1), e, b, gs, m) z none) := by
  refine rx_meth0 (by decide +kernel) rfl (Nat.le_of_ble_eq_true rfl) ?_
  refine rx_aload_n dX9_setCode_0 rfl rfl ?_
  refine g_getR hG hf_RX9_9 rfl dX9_setCode_1 rfl rfl rfl ?_
  refine rx_bipush (v := nI 32) dX9_setCode_4 rfl ?_
  refine rx_iload_n dX9_setCode_6 rfl ?_
  refine rx_imul dX9_setCode_7 ?_
  refine rx_ti (y := nI (32 * x)) ((pk_mul _ _).trans (congrArg nI (by omega))) ?_
  refine rx_iconst (v := nI 2) dX9_setCode_8 rfl ?_
  refine rx_iadd dX9_setCode_9 ?_
  refine rx_ti (y := nI (32 * x + 2)) ((nI_add _ _).trans (congrArg nI (by omega))) ?_
  refine rx_lload_n dX9_setCode_10 rfl ?_
  refine rx_lconst (v := lN 1) dX9_setCode_11 rfl ?_
  refine rx_ladd dX9_setCode_12 ?_
  refine gc_last (j := 32 * x + 2) hG dX9_setCode_13 rfl rfl rfl rfl (by omega) (by decide) ?_
  refine rcY_ab (rcY_leaf hY (lf_up0 (by decide) _)) (fun _ hY1 => ?_)
  exact rx_vret rfl dX9_setCode_14 ⟨rfl, _, rfl, hY1⟩
theorem cs_cellOf {G : rx_E} {d : Nat} {S : gs_T} {K : Nat → Nat × Nat} {C0 C : rx_M} {g : vg_T} {bs od : Nat} {n : Nat → Int64} {e : List (Nat × Int64 × Int64)} {b m : Nat} {gs : List vf_T} {z : Int32} (hG : rx_OK G) (hY : rc_Y K C0 C g bs od (n, e, b, gs, m) z) {x y : Nat} (hx : x < 32) (hy : y < 16) : rx_C G MX9_cellOf d [.ref 7, .int (nI x), .int (nI y)] (gl C S) 0 0 (rcq S K C0 g bs od (n, e, b, gs, m) z (some (.long (n (y + 19 * x + 3))))) := by
  refine rx_meth0 (by decide +kernel) rfl (Nat.le_of_ble_eq_true rfl) ?_
  refine rx_aload_n dX9_cellOf_0 rfl rfl ?_
  refine g_getR hG hf_RX9_9 rfl dX9_cellOf_1 rfl rfl rfl ?_
  refine rx_bipush (v := nI 32) dX9_cellOf_4 rfl ?_
  refine rx_iload_n dX9_cellOf_6 rfl ?_
  refine rx_imul dX9_cellOf_7 ?_
  refine rx_ti (y := nI (32 * x)) ((pk_mul _ _).trans (congrArg nI (by omega))) ?_
  refine rx_bipush (v := nI 16) dX9_cellOf_8 rfl ?_
  refine rx_iadd dX9_cellOf_10 ?_
  refine rx_ti (y := nI (32 * x + 16)) ((nI_add _ _).trans (congrArg nI (by omega))) ?_
  refine rx_iload_n dX9_cellOf_11 rfl ?_
  refine rx_iadd dX9_cellOf_12 ?_
  refine rx_ti (y := nI (32 * x + y + 16)) ((nI_add _ _).trans (congrArg nI (by omega))) ?_
  refine gcv_lald (j := 32 * x + 16 + y) (v := n (y + 19 * x + 3)) hG dX9_cellOf_13 rfl rfl rfl (congrArg nI (by omega)) (by omega) (by decide) (((rc_now hY (by omega)).trans (lf_cell hy)).trans (congrArg n (by omega))) ?_
  exact rx_lret rfl dX9_cellOf_14 ⟨rfl, _, rfl, hY⟩
theorem cs_setCell {G : rx_E} {d : Nat} {S : gs_T} {K : Nat → Nat × Nat} {C0 C : rx_M} {g : vg_T} {bs od : Nat} {n : Nat → Int64} {e : List (Nat × Int64 × Int64)} {b m : Nat} {gs : List vf_T} {z : Int32} (hG : rx_OK G) (hY : rc_Y K C0 C g bs od (n, e, b, gs, m) z) {x y : Nat} {vl : Int64} (hx : x < 32) (hy : y < 16) : rx_C G MX9_setCell d [.ref 7, .int (nI x), .int (nI y), .long vl] (gl C S) 0 0 (rcq S K C0 g bs od (up1 n (y + 19 * x + 3) vl, e, b, gs, m) z none) := by
  refine rx_meth0 (by decide +kernel) rfl (Nat.le_of_ble_eq_true rfl) ?_
  refine rx_aload_n dX9_setCell_0 rfl rfl ?_
  refine g_getR hG hf_RX9_9 rfl dX9_setCell_1 rfl rfl rfl ?_
  refine rx_bipush (v := nI 32) dX9_setCell_4 rfl ?_
  refine rx_iload_n dX9_setCell_6 rfl ?_
  refine rx_imul dX9_setCell_7 ?_
  refine rx_ti (y := nI (32 * x)) ((pk_mul _ _).trans (congrArg nI (by omega))) ?_
  refine rx_bipush (v := nI 16) dX9_setCell_8 rfl ?_
  refine rx_iadd dX9_setCell_10 ?_
  refine rx_ti (y := nI (32 * x + 16)) ((nI_add _ _).trans (congrArg nI (by omega))) ?_
  refine rx_iload_n dX9_setCell_11 rfl ?_
  refine rx_iadd dX9_setCell_12 ?_
  refine rx_ti (y := nI (32 * x + y + 16)) ((nI_add _ _).trans (congrArg nI (by omega))) ?_
  refine rx_lload_n dX9_setCell_13 rfl ?_
  refine gc_last (j := 32 * x + 16 + y) hG dX9_setCell_14 rfl rfl rfl (congrArg nI (by omega)) (by omega) (by decide) ?_
  refine rcY_ab (rcY_leaf hY (lf_uc hy vl)) (fun _ hY1 => ?_)
  exact rx_vret rfl dX9_setCell_15 ⟨rfl, _, rfl, hY1⟩
theorem cs_nonceOf {G : rx_E} {d : Nat} {S : gs_T} {K : Nat → Nat × Nat} {C0 C : rx_M} {g : vg_T} {bs od : Nat} {n : Nat → Int64} {e : List (Nat × Int64 × Int64)} {b m : Nat} {gs : List vf_T} {z : Int32} (hG : rx_OK G) (hY : rc_Y K C0 C g bs od (n, e, b, gs, m) z) {x : Nat} (hx : x < 32) : rx_C G MX9_nonceOf d [.ref 7, .int (nI x)] (gl C S) 0 0 (rcq S K C0 g bs od (n, e, b, gs, m) z (some (.long (n (19 * x + 1))))) := by
  refine rx_meth0 (by decide +kernel) rfl (Nat.le_of_ble_eq_true rfl) ?_
  refine rx_aload_n dX9_nonceOf_0 rfl rfl ?_
  refine g_getR hG hf_RX9_9 rfl dX9_nonceOf_1 rfl rfl rfl ?_
  refine rx_bipush (v := nI 32) dX9_nonceOf_4 rfl ?_
  refine rx_iload_n dX9_nonceOf_6 rfl ?_
  refine rx_imul dX9_nonceOf_7 ?_
  refine rx_ti (y := nI (32 * x)) ((pk_mul _ _).trans (congrArg nI (by omega))) ?_
  refine rx_iconst (v := nI 1) dX9_nonceOf_8 rfl ?_
  refine rx_iadd dX9_nonceOf_9 ?_
  refine rx_ti (y := nI (32 * x + 1)) ((nI_add _ _).trans (congrArg nI (by omega))) ?_
  refine gcv_lald (j := 32 * x + 1) (v := n (19 * x + 1)) hG dX9_nonceOf_10 rfl rfl rfl rfl (by omega) (by decide) ((rc_now hY (by omega)).trans (lf_bal (by decide))) ?_
  exact rx_lret rfl dX9_nonceOf_11 ⟨rfl, _, rfl, hY⟩
theorem cs_raise {G : rx_E} {d : Nat} {S : gs_T} {K : Nat → Nat × Nat} {C0 C : rx_M} {g : vg_T} {bs od : Nat} {n : Nat → Int64} {e : List (Nat × Int64 × Int64)} {b m : Nat} {gs : List vf_T} {z : Int32} (hG : rx_OK G) (hY : rc_Y K C0 C g bs od (n, e, b, gs, m) z) {x : Nat} (hx : x < 32) : rx_C G MX9_raiseNonce d [.ref 7, .int (nI x)] (gl C S) 0 0 (rcq S K C0 g bs od (up1 n (19 * x + 1) (n (19 * x + 1) + 1), e, b, gs, m) z none) := by
  refine rx_meth0 (by decide +kernel) rfl (Nat.le_of_ble_eq_true rfl) ?_
  refine rx_aload_n dX9_raiseNonce_0 rfl rfl ?_
  refine g_getR hG hf_RX9_9 rfl dX9_raiseNonce_1 rfl rfl rfl ?_
  refine rx_bipush (v := nI 32) dX9_raiseNonce_4 rfl ?_
  refine rx_iload_n dX9_raiseNonce_6 rfl ?_
  refine rx_imul dX9_raiseNonce_7 ?_
  refine rx_ti (y := nI (32 * x)) ((pk_mul _ _).trans (congrArg nI (by omega))) ?_
  refine rx_iconst (v := nI 1) dX9_raiseNonce_8 rfl ?_
  refine rx_iadd dX9_raiseNonce_9 ?_
  refine rx_ti (y := nI (32 * x + 1)) ((nI_add _ _).trans (congrArg nI (by omega))) ?_
  refine rx_dup2 dX9_raiseNonce_10 rfl rfl ?_
  refine gcv_lald (j := 32 * x + 1) (v := n (19 * x + 1)) hG dX9_raiseNonce_11 rfl rfl rfl rfl (by omega) (by decide) ((rc_now hY (by omega)).trans (lf_bal (by decide))) ?_
  refine rx_lconst (v := lN 1) dX9_raiseNonce_12 rfl ?_
  refine rx_ladd dX9_raiseNonce_13 ?_
  refine gc_last (j := 32 * x + 1) hG dX9_raiseNonce_14 rfl rfl rfl rfl (by omega) (by decide) ?_
  refine rcY_ab (rcY_leaf hY (lf_up0 (by decide) _)) (fun _ hY1 => ?_)
  exact rx_vret rfl dX9_raiseNonce_15 ⟨rfl, _, rfl, hY1⟩
theorem cs_move {G : rx_E} {d : Nat} {S : gs_T} {K : Nat → Nat × Nat} {C0 C : rx_M} {g : vg_T} {bs od : Nat} {n : Nat → Int64} {e : List (Nat × Int64 × Int64)} {b m : Nat} {gs : List vf_T} {z : Int32} (hG : rx_OK G) (hY : rc_Y K C0 C g bs od (n, e, b, gs, m) z) {x y : Nat} {am : Int64} (hx : x < 32) (hy : y < 32) : rx_C G MX9_move (d + 1) [.ref 7, .int (nI x), .int (nI y), .long am] (gl C S) 0 0 (rcq S K C0 g bs od (up1 (up1 n (19 * x) (n (19 * x) - am)) (19 * y) ((up1 n (19 * x) (n (19 * x) - am)) (19 * y) + am), e, b, gs, m) z none) := by
  refine rx_meth0 (by decide +kernel) rfl (Nat.le_of_ble_eq_true rfl) ?_
  refine rx_aload_n dX9_move_0 rfl rfl ?_
  refine rx_iload_n dX9_move_1 rfl ?_
  refine rx_lload_n dX9_move_2 rfl ?_
  refine rx_lneg dX9_move_3 ?_
  refine gv_invV (as := [.int _, .long _]) hG okX9_addToBalance lk_RX9_26 rfl rfl dX9_move_4 rfl (by simp [Value.category]) (cs_addTo hG hY (by omega)) ?_
  rintro _ _ ⟨rfl, _, rfl, hY1⟩
  rw [← Int64.sub_eq_add_neg] at hY1
  refine rx_aload_n dX9_move_7 rfl rfl ?_
  refine rx_iload_n dX9_move_8 rfl ?_
  refine rx_lload_n dX9_move_9 rfl ?_
  refine gv_invV (as := [.int _, .long _]) hG okX9_addToBalance lk_RX9_26 rfl rfl dX9_move_10 rfl (by simp [Value.category]) (cs_addTo hG hY1 (by omega)) ?_
  rintro _ _ ⟨rfl, _, rfl, hY2⟩
  exact rx_vret rfl dX9_move_13 ⟨rfl, _, rfl, hY2⟩
def vm_clc (n : Nat → Int64) (x i : Nat) : Nat → Int64 := fun j => if 19 * x + 3 ≤ j ∧ j < 19 * x + 3 + i then 0 else n j
theorem vm_clc_0 {n : Nat → Int64} {x : Nat} : vm_clc n x 0 = n := by funext j; unfold vm_clc; rw [if_neg (fun q => by omega)]
theorem vm_clc_up {n : Nat → Int64} {x i : Nat} : up1 (vm_clc n x i) (i + 19 * x + 3) (lN 0) = vm_clc n x (i + 1) := by
  funext j
  unfold up1 vm_clc
  by_cases h1 : j = i + 19 * x + 3
  · subst h1; rw [if_pos rfl, if_pos ⟨by omega, by omega⟩]; rfl
  · rw [if_neg h1]; by_cases h2 : 19 * x + 3 ≤ j ∧ j < 19 * x + 3 + i
    · rw [if_pos h2, if_pos ⟨h2.1, by omega⟩]
    · rw [if_neg h2, if_neg (fun q => h2 ⟨q.1, by omega⟩)]
theorem ls_clear {G : rx_E} {d : Nat} {S : gs_T} {K : Nat → Nat × Nat} {C0 : rx_M} {g : vg_T} {bs od : Nat} {n : Nat → Int64} {e : List (Nat × Int64 × Int64)} {b m : Nat} {gs : List vf_T} {z : Int32} {mc ms x : Nat} {Q : Option Value → rx_M → Prop} {Z : String → rx_M → Prop} (hG : rx_OK G) (hx : x < 32) (hQ : ∀ C, rc_Y K C0 C g bs od (vm_clc n x 16, e, b, gs, m) z → Q none (gl C S)) : ∀ (k i : Nat), i + k = 16 → ∀ C, rc_Y K C0 C g bs od (vm_clc n x i, e, b, gs, m) z → rx_W G MX9_clearCells (d + 1) 2 [(2, .int (nI i)), (0, .ref 7), (1, .int (nI x))] [] (gl C S) mc ms Q Z := by
  intro k
  induction k with
  | zero =>
    intro i hi C hY
    have hi : i = 16 := by omega
    subst hi
    refine rx_iload_n dX9_clearCells_2 rfl ?_
    refine rx_bipush (v := nI 16) dX9_clearCells_3 rfl ?_
    exact rx_icmp_ge (tgt := 21) dX9_clearCells_5 (by decide) (fun _ => rx_vret rfl dX9_clearCells_21 (hQ C hY)) (fun h => absurd (by rw [nI_leI (by omega) (by omega)]; omega) h)
  | succ k ih =>
    intro i hi C hY
    refine rx_iload_n dX9_clearCells_2 rfl ?_
    refine rx_bipush (v := nI 16) dX9_clearCells_3 rfl ?_
    refine rx_icmp_ge (tgt := 21) dX9_clearCells_5 (by decide) (fun h => absurd h (by rw [nI_leI (by omega) (by omega)]; omega)) (fun h5 => ?_)
    refine rx_aload_n dX9_clearCells_8 rfl rfl ?_
    refine rx_iload_n dX9_clearCells_9 rfl ?_
    refine rx_iload_n dX9_clearCells_10 rfl ?_
    refine rx_lconst (v := lN 0) dX9_clearCells_11 rfl ?_
    refine gv_invV (as := [.int _, .int _, .long _]) hG okX9_setCell lk_RX9_30 rfl rfl dX9_clearCells_12 rfl (by simp [Value.category]) (cs_setCell hG hY hx (by omega)) ?_
    rintro _ _ ⟨rfl, _, rfl, hY1⟩
    refine rx_iinc (v := nI (i + 1)) dX9_clearCells_15 rfl ((nI_add _ 1).trans (congrArg nI (by omega))) ?_
    refine rx_goto (tgt := 2) dX9_clearCells_18 (by decide) ?_
    refine rx_lv (lv' := [(2, .int (nI (i + 1))), (0, .ref 7), (1, .int (nI x))]) ⟨rfl, rfl, rfl, trivial⟩ ?_
    refine ih (i + 1) (by omega) _ ?_
    rw [← vm_clc_up]; exact hY1
theorem cs_clear {G : rx_E} {d : Nat} {S : gs_T} {K : Nat → Nat × Nat} {C0 C : rx_M} {g : vg_T} {bs od : Nat} {n : Nat → Int64} {e : List (Nat × Int64 × Int64)} {b m : Nat} {gs : List vf_T} {z : Int32} (hG : rx_OK G) (hY : rc_Y K C0 C g bs od (n, e, b, gs, m) z) {x : Nat} (hx : x < 32) : rx_C G MX9_clearCells (d + 1) [.ref 7, .int (nI x)] (gl C S) 0 0 (rcq S K C0 g bs od (vm_clc n x 16, e, b, gs, m) z none) := by
  refine rx_meth0 (by decide +kernel) rfl (Nat.le_of_ble_eq_true rfl) ?_
  refine rx_iconst (v := nI 0) dX9_clearCells_0 rfl ?_
  refine rx_istore_n dX9_clearCells_1 (by decide) ?_
  refine rx_lv (lv' := [(2, .int (nI 0)), (0, .ref 7), (1, .int (nI x))]) ⟨rfl, rfl, rfl, trivial⟩ ?_
  refine ls_clear hG hx (fun C' hY' => ⟨rfl, C', rfl, hY'⟩) 16 0 (by omega) C ?_
  rw [vm_clc_0]; exact hY
theorem ls_isEmpty {G : rx_E} {d mc ms : Nat} {S : gs_T} {C : rx_M} {x : Nat} {Q : Option Value → rx_M → Prop} {Z : String → rx_M → Prop} (hG : rx_OK G) (hx : x < 32) (hQ : ∀ r, ((r = 1 ∧ ∀ j, j < 32 → C.2.1 8 (32 * x + j) = 0) ∨ (r = 0 ∧ ∃ j, j < 32 ∧ ¬ C.2.1 8 (32 * x + j) = 0)) → Q (some (.int (nI r))) (gl C S)) : ∀ (k i : Nat), i + k = 32 → (∀ j, j < i → C.2.1 8 (32 * x + j) = 0) → rx_W G MX9_isEmpty d 2 [(2, .int (nI i)), (0, .ref 7), (1, .int (nI x))] [] (gl C S) mc ms Q Z := by
  intro k
  induction k with
  | zero =>
    intro i hi hv
    have hi : i = 32 := by omega
    subst hi
    refine rx_iload_n dX9_isEmpty_2 rfl ?_
    refine rx_bipush (v := nI 32) dX9_isEmpty_3 rfl ?_
    refine rx_icmp_ge (tgt := 32) dX9_isEmpty_5 (by decide) (fun _ => ?_) (fun h => absurd (by rw [nI_leI (by omega) (by omega)]; omega) h)
    refine rx_iconst (v := nI 1) dX9_isEmpty_32 rfl ?_
    exact rx_zret rfl rfl dX9_isEmpty_33 (hQ 1 (Or.inl ⟨rfl, hv⟩))
  | succ k ih =>
    intro i hi hv
    refine rx_iload_n dX9_isEmpty_2 rfl ?_
    refine rx_bipush (v := nI 32) dX9_isEmpty_3 rfl ?_
    refine rx_icmp_ge (tgt := 32) dX9_isEmpty_5 (by decide) (fun h => absurd h (by rw [nI_leI (by omega) (by omega)]; omega)) (fun h5 => ?_)
    refine rx_aload_n dX9_isEmpty_8 rfl rfl ?_
    refine g_getR hG hf_RX9_9 rfl dX9_isEmpty_9 rfl rfl rfl ?_
    refine rx_bipush (v := nI 32) dX9_isEmpty_12 rfl ?_
    refine rx_iload_n dX9_isEmpty_14 rfl ?_
    refine rx_imul dX9_isEmpty_15 ?_
    refine rx_ti (y := nI (32 * x)) ((pk_mul _ _).trans (congrArg nI (by omega))) ?_
    refine rx_iload_n dX9_isEmpty_16 rfl ?_
    refine rx_iadd dX9_isEmpty_17 ?_
    refine rx_ti (y := nI (i + 32 * x)) ((nI_add _ _).trans (congrArg nI (by omega))) ?_
    refine gcv_lald (j := 32 * x + i) (v := C.2.1 8 (32 * x + i)) hG dX9_isEmpty_18 rfl rfl rfl (congrArg nI (by omega)) (by omega) (by decide) rfl ?_
    refine rx_lconst (v := lN 0) dX9_isEmpty_19 rfl ?_
    refine rx_lc_eq (tgt := 26) dX9_isEmpty_20 dX9_isEmpty_21 (by decide) (fun h20 => ?_) (fun h20 => ?_)
    · refine rx_iinc (v := nI (i + 1)) dX9_isEmpty_26 rfl ((nI_add _ 1).trans (congrArg nI (by omega))) ?_
      refine rx_goto (tgt := 2) dX9_isEmpty_29 (by decide) ?_
      refine rx_lv (lv' := [(2, .int (nI (i + 1))), (0, .ref 7), (1, .int (nI x))]) ⟨rfl, rfl, rfl, trivial⟩ ?_
      exact ih (i + 1) (by omega) (fun j hj => by by_cases e : j = i; (subst e; exact h20); exact hv j (by omega))
    · refine rx_iconst (v := nI 0) dX9_isEmpty_24 rfl ?_
      exact rx_zret rfl rfl dX9_isEmpty_25 (hQ 0 (Or.inr ⟨rfl, i, by omega, h20⟩))
theorem cs_isEmpty {G : rx_E} {d : Nat} {S : gs_T} {K : Nat → Nat × Nat} {C0 C : rx_M} {g : vg_T} {bs od : Nat} {n : Nat → Int64} {e : List (Nat × Int64 × Int64)} {b m : Nat} {gs : List vf_T} {z : Int32} (hG : rx_OK G) (hY : rc_Y K C0 C g bs od (n, e, b, gs, m) z) {x : Nat} (hx : x < 32) : rx_C G MX9_isEmpty d [.ref 7, .int (nI x)] (gl C S) 0 0 (fun v mu => (∃ r, ((r = 1 ∧ vm_empty n x) ∨ (r = 0 ∧ ¬ vm_empty n x)) ∧ v = some (.int (nI r))) ∧ mu = gl C S) := by
  refine rx_meth0 (by decide +kernel) rfl (Nat.le_of_ble_eq_true rfl) ?_
  refine rx_iconst (v := nI 0) dX9_isEmpty_0 rfl ?_
  refine rx_istore_n dX9_isEmpty_1 (by decide) ?_
  refine rx_lv (lv' := [(2, .int (nI 0)), (0, .ref 7), (1, .int (nI x))]) ⟨rfl, rfl, rfl, trivial⟩ ?_
  refine ls_isEmpty hG hx (fun r hr => ⟨⟨r, ?_, rfl⟩, rfl⟩) 32 0 (by omega) (fun j hj => absurd hj (by omega))
  rcases hr with ⟨rfl, h⟩ | ⟨rfl, j, hj, h⟩
  · refine Or.inl ⟨rfl, fun k hk => ?_⟩
    by_cases h3 : k < 3
    · have := h k (by omega)
      rw [rc_now hY (by omega), lf_bal h3] at this
      exact this
    · have := h (16 + (k - 3)) (by omega)
      rw [rc_now hY (by omega), ← Nat.add_assoc, lf_cell (by omega), show 19 * x + 3 + (k - 3) = 19 * x + k by omega] at this
      exact this
  · refine Or.inr ⟨rfl, fun he => h ?_⟩
    rw [rc_now hY (by omega)]
    unfold lf
    rw [show (32 * x + j) % 32 = j by omega, show (32 * x + j) / 32 = x by omega]
    split
    · exact he _ (by omega)
    · split
      · exact he _ (by omega)
      · rfl
theorem cs_loadFrom {G : rx_E} {d : Nat} {S : gs_T} {C : rx_M} {a0 : Nat} (hG : rx_OK G) (hm : gk_m a0 = false) (hn : a0 < (gl C S).2.2.2.2) (hk : (gl C S).2.2.2.1 a0 = (14, 1024)) : rx_C G MX9_loadFrom (d + 1) [.ref 7, .ref a0] (gl C S) 0 0 (fun v mu => v = none ∧ mu = gl (C.1, rx_k1 C.2.1 8 (va_cpy (C.2.1 a0) (C.2.1 8) 0 0 1024), C.2.2) S) := by
  refine rx_meth0 (by decide +kernel) rfl (Nat.le_of_ble_eq_true rfl) ?_
  refine rx_aload_n dX9_loadFrom_0 rfl rfl ?_
  refine rx_iconst (v := nI 0) dX9_loadFrom_1 rfl ?_
  refine rx_aload_n dX9_loadFrom_2 rfl rfl ?_
  refine g_getR hG hf_RX9_9 rfl dX9_loadFrom_3 rfl rfl rfl ?_
  refine rx_iconst (v := nI 0) dX9_loadFrom_6 rfl ?_
  refine rx_sipush (v := nI 1024) dX9_loadFrom_7 rfl ?_
  refine rx_copyJ hG ⟨hw_918, hw_917, hw_916, hw_798⟩ dX9_loadFrom_10 hn hk (gl_n rfl) (gl_k rfl rfl) rfl rfl rfl (by decide) (by decide) (by decide) (by simp [Value.category]) ?_
  refine rx_vret rfl dX9_loadFrom_13 ⟨rfl, ?_⟩
  rw [gl_kL rfl, gl_LC hm, gl_LC rfl]
theorem cs_saveTo {G : rx_E} {d : Nat} {S : gs_T} {C : rx_M} {a0 : Nat} (hG : rx_OK G) (hm : gk_m a0 = false) (hf : gk_f a0 = true) (hk : gk_K a0 = (14, 1024)) : rx_C G MX9_saveTo (d + 1) [.ref 7, .ref a0] (gl C S) 0 0 (fun v mu => v = none ∧ mu = gl (C.1, rx_k1 C.2.1 a0 (va_cpy (C.2.1 8) (C.2.1 a0) 0 0 1024), C.2.2) S) := by
  refine rx_meth0 (by decide +kernel) rfl (Nat.le_of_ble_eq_true rfl) ?_
  refine rx_aload_n dX9_saveTo_0 rfl rfl ?_
  refine g_getR hG hf_RX9_9 rfl dX9_saveTo_1 rfl rfl rfl ?_
  refine rx_iconst (v := nI 0) dX9_saveTo_4 rfl ?_
  refine rx_aload_n dX9_saveTo_5 rfl rfl ?_
  refine rx_iconst (v := nI 0) dX9_saveTo_6 rfl ?_
  refine rx_sipush (v := nI 1024) dX9_saveTo_7 rfl ?_
  refine rx_copyJ hG ⟨hw_918, hw_917, hw_916, hw_798⟩ dX9_saveTo_10 (gl_n rfl) (gl_k rfl rfl) (gl_n hf) (gl_k hf hk) rfl rfl rfl (by decide) (by decide) (by decide) (by simp [Value.category]) ?_
  refine rx_vret rfl dX9_saveTo_13 ⟨rfl, ?_⟩
  rw [gl_kL hm, gl_LC hm, gl_LC rfl]

theorem dX10_certain_0 : decode cX10_certain 0 = .ok (.iload_n 1, 1) := by decide +kernel
theorem dX10_certain_1 : decode cX10_certain 1 = .ok (.i2l, 1) := by decide +kernel
theorem dX10_certain_2 : decode cX10_certain 2 = .ok (.bipush 40, 2) := by decide +kernel
theorem dX10_certain_4 : decode cX10_certain 4 = .ok (.invokestatic 127, 3) := by decide +kernel
theorem dX10_certain_7 : decode cX10_certain 7 = .ok (.ifCond .ne 13, 3) := by decide +kernel
theorem dX10_certain_10 : decode cX10_certain 10 = .ok (.new 113, 3) := by decide +kernel
theorem dX10_certain_13 : decode cX10_certain 13 = .ok (.dup, 1) := by decide +kernel
theorem dX10_certain_14 : decode cX10_certain 14 = .ok (.ldc 252, 2) := by decide +kernel
theorem dX10_certain_16 : decode cX10_certain 16 = .ok (.invokespecial 117, 3) := by decide +kernel
theorem dX10_certain_19 : decode cX10_certain 19 = .ok (.athrow, 1) := by decide +kernel
theorem dX10_certain_20 : decode cX10_certain 20 = .ok (.iconst 0, 1) := by decide +kernel
theorem dX10_certain_21 : decode cX10_certain 21 = .ok (.istore_n 2, 1) := by decide +kernel
theorem dX10_certain_22 : decode cX10_certain 22 = .ok (.iload_n 2, 1) := by decide +kernel
theorem dX10_certain_23 : decode cX10_certain 23 = .ok (.aload_n 0, 1) := by decide +kernel
theorem dX10_certain_24 : decode cX10_certain 24 = .ok (.getfield 38, 3) := by decide +kernel
theorem dX10_certain_27 : decode cX10_certain 27 = .ok (.if_icmp .ge 32, 3) := by decide +kernel
theorem dX10_certain_30 : decode cX10_certain 30 = .ok (.aload_n 0, 1) := by decide +kernel
theorem dX10_certain_31 : decode cX10_certain 31 = .ok (.getfield 31, 3) := by decide +kernel
theorem dX10_certain_34 : decode cX10_certain 34 = .ok (.iload_n 2, 1) := by decide +kernel
theorem dX10_certain_35 : decode cX10_certain 35 = .ok (.aaload, 1) := by decide +kernel
theorem dX10_certain_36 : decode cX10_certain 36 = .ok (.getfield 157, 3) := by decide +kernel
theorem dX10_certain_39 : decode cX10_certain 39 = .ok (.iload_n 1, 1) := by decide +kernel
theorem dX10_certain_40 : decode cX10_certain 40 = .ok (.if_icmp .ne 13, 3) := by decide +kernel
theorem dX10_certain_43 : decode cX10_certain 43 = .ok (.aload_n 0, 1) := by decide +kernel
theorem dX10_certain_44 : decode cX10_certain 44 = .ok (.iload_n 2, 1) := by decide +kernel
theorem dX10_certain_45 : decode cX10_certain 45 = .ok (.invokevirtual 203, 3) := by decide +kernel
theorem dX10_certain_48 : decode cX10_certain 48 = .ok (.ifCond .eq 5, 3) := by decide +kernel
theorem dX10_certain_51 : decode cX10_certain 51 = .ok (.iload_n 2, 1) := by decide +kernel
theorem dX10_certain_52 : decode cX10_certain 52 = .ok (.ireturn, 1) := by decide +kernel
theorem dX10_certain_53 : decode cX10_certain 53 = .ok (.iinc 2 1, 3) := by decide +kernel
theorem dX10_certain_56 : decode cX10_certain 56 = .ok (.goto (-34), 3) := by decide +kernel
theorem dX10_certain_59 : decode cX10_certain 59 = .ok (.iconst (-1), 1) := by decide +kernel
theorem dX10_certain_60 : decode cX10_certain 60 = .ok (.ireturn, 1) := by decide +kernel
theorem dX11_certain_0 : decode cX11_certain 0 = .ok (.aload_n 0, 1) := by decide +kernel
theorem dX11_certain_1 : decode cX11_certain 1 = .ok (.iload_n 1, 1) := by decide +kernel
theorem dX11_certain_2 : decode cX11_certain 2 = .ok (.ifCond .lt 13, 3) := by decide +kernel
theorem dX11_certain_5 : decode cX11_certain 5 = .ok (.iload_n 1, 1) := by decide +kernel
theorem dX11_certain_6 : decode cX11_certain 6 = .ok (.bipush 39, 2) := by decide +kernel
theorem dX11_certain_8 : decode cX11_certain 8 = .ok (.if_icmp .gt 7, 3) := by decide +kernel
theorem dX11_certain_11 : decode cX11_certain 11 = .ok (.iconst 0, 1) := by decide +kernel
theorem dX11_certain_12 : decode cX11_certain 12 = .ok (.goto 4, 3) := by decide +kernel
theorem dX11_certain_15 : decode cX11_certain 15 = .ok (.iconst 1, 1) := by decide +kernel
theorem dX11_certain_16 : decode cX11_certain 16 = .ok (.putfield 160, 3) := by decide +kernel
theorem dX11_certain_19 : decode cX11_certain 19 = .ok (.iconst 0, 1) := by decide +kernel
theorem dX11_certain_20 : decode cX11_certain 20 = .ok (.istore_n 2, 1) := by decide +kernel
theorem dX11_certain_21 : decode cX11_certain 21 = .ok (.iload_n 2, 1) := by decide +kernel
theorem dX11_certain_22 : decode cX11_certain 22 = .ok (.aload_n 0, 1) := by decide +kernel
theorem dX11_certain_23 : decode cX11_certain 23 = .ok (.getfield 156, 3) := by decide +kernel
theorem dX11_certain_26 : decode cX11_certain 26 = .ok (.if_icmp .ge 37, 3) := by decide +kernel
theorem dX11_certain_29 : decode cX11_certain 29 = .ok (.aload_n 0, 1) := by decide +kernel
theorem dX11_certain_30 : decode cX11_certain 30 = .ok (.getfield 160, 3) := by decide +kernel
theorem dX11_certain_33 : decode cX11_certain 33 = .ok (.ifCond .ne 30, 3) := by decide +kernel
theorem dX11_certain_36 : decode cX11_certain 36 = .ok (.aload_n 0, 1) := by decide +kernel
theorem dX11_certain_37 : decode cX11_certain 37 = .ok (.getfield 48, 3) := by decide +kernel
theorem dX11_certain_40 : decode cX11_certain 40 = .ok (.iload_n 2, 1) := by decide +kernel
theorem dX11_certain_41 : decode cX11_certain 41 = .ok (.iaload, 1) := by decide +kernel
theorem dX11_certain_42 : decode cX11_certain 42 = .ok (.iload_n 1, 1) := by decide +kernel
theorem dX11_certain_43 : decode cX11_certain 43 = .ok (.if_icmp .ne 14, 3) := by decide +kernel
theorem dX11_certain_46 : decode cX11_certain 46 = .ok (.aload_n 0, 1) := by decide +kernel
theorem dX11_certain_47 : decode cX11_certain 47 = .ok (.getfield 63, 3) := by decide +kernel
theorem dX11_certain_50 : decode cX11_certain 50 = .ok (.iload_n 2, 1) := by decide +kernel
theorem dX11_certain_51 : decode cX11_certain 51 = .ok (.baload, 1) := by decide +kernel
theorem dX11_certain_52 : decode cX11_certain 52 = .ok (.ifCond .eq 5, 3) := by decide +kernel
theorem dX11_certain_55 : decode cX11_certain 55 = .ok (.iload_n 2, 1) := by decide +kernel
theorem dX11_certain_56 : decode cX11_certain 56 = .ok (.ireturn, 1) := by decide +kernel
theorem dX11_certain_57 : decode cX11_certain 57 = .ok (.iinc 2 1, 3) := by decide +kernel
theorem dX11_certain_60 : decode cX11_certain 60 = .ok (.goto (-39), 3) := by decide +kernel
theorem dX11_certain_63 : decode cX11_certain 63 = .ok (.aload_n 0, 1) := by decide +kernel
theorem dX11_certain_64 : decode cX11_certain 64 = .ok (.getfield 160, 3) := by decide +kernel
theorem dX11_certain_67 : decode cX11_certain 67 = .ok (.ifCond .le 7, 3) := by decide +kernel
theorem dX11_certain_70 : decode cX11_certain 70 = .ok (.iconst 0, 1) := by decide +kernel
theorem dX11_certain_71 : decode cX11_certain 71 = .ok (.goto 4, 3) := by decide +kernel
theorem dX11_certain_74 : decode cX11_certain 74 = .ok (.iconst (-1), 1) := by decide +kernel
theorem dX11_certain_75 : decode cX11_certain 75 = .ok (.ireturn, 1) := by decide +kernel
theorem m1_toInt : (-1 : Int32).toInt = -1 := by decide
theorem wi_dm {y : Int32} {N : Nat} {P : Prop} (h : wi_out y N) (hm : y ≠ -1) (h1 : ¬ y < -1) (h2 : y < nI N) : P := by
  exfalso
  rw [Int32.lt_iff_toInt_lt, m1_toInt] at h1
  have h3 : y.toInt ≠ -1 := fun q => hm (Int32.toInt_inj.mp (q.trans m1_toInt.symm))
  rcases h with h | h
  · rw [Int32.lt_iff_toInt_lt] at h
    have : (0 : Int32).toInt = 0 := by decide
    omega
  · rw [Int32.le_iff_toInt_le] at h
    rw [Int32.lt_iff_toInt_lt] at h2
    omega
theorem nI_nm1 {j : Nat} (hj : j < 2 ^ 31) : ¬ nI j = -1 := fun q => by
  have := congrArg Int32.toInt q
  rw [nI_toInt hj, m1_toInt] at this
  omega
theorem nI_nlm1 {j : Nat} (hj : j < 2 ^ 31) : ¬ nI j < -1 := fun q => by
  rw [Int32.lt_iff_toInt_lt, nI_toInt hj, m1_toInt] at q
  omega
theorem hw_in {G : rx_E} {d : Nat} {S : gs_T} {C : rx_M} {N c : Nat} (hG : rx_OK G) (hN : C.1 5 1 = nI N) (hN2 : N ≤ 16) (hc : c < N) : rx_C G MX3_has (d + 1) [.ref 5, .long (lN c)] (gl C S) 0 0 (fun v m => v = some (.int (nI 1)) ∧ m = gl C S) := by
  refine rx_Cm (cc_has hG hN hN2) ?_
  rintro _ _ ⟨⟨r, hr, rfl⟩, rfl⟩
  rcases hr with ⟨rfl, _⟩ | ⟨rfl, hr⟩
  · exact ⟨rfl, rfl⟩
  · exfalso
    rcases hr with h | h
    · rw [show (0 : Int64) = lN 0 from rfl, lN_lt (by omega) (by omega)] at h; omega
    · rw [lN_le (by omega) (by omega)] at h; omega
theorem hw_out {G : rx_E} {d : Nat} {S : gs_T} {C : rx_M} {N : Nat} {y : Int32} (hG : rx_OK G) (hN : C.1 5 1 = nI N) (hN2 : N ≤ 16) (hy : wi_out y N) : rx_C G MX3_has (d + 1) [.ref 5, .long y.toInt64] (gl C S) 0 0 (fun v m => v = some (.int (nI 0)) ∧ m = gl C S) := by
  refine rx_Cm (cc_has hG hN hN2) ?_
  rintro _ _ ⟨⟨r, hr, rfl⟩, rfl⟩
  rcases hr with ⟨rfl, h1, h2⟩ | ⟨rfl, hr⟩
  · exfalso
    refine wi_l (show N < 2 ^ 31 by omega) hy ⟨h1, ?_⟩
    rw [nI_l (by omega)]
    exact Int64.not_le.mp h2
  · exact ⟨rfl, rfl⟩
theorem m1_lt {N : Nat} (h : N < 2 ^ 31) : (-1 : Int32) < nI N := by
  rw [Int32.lt_iff_toInt_lt, nI_toInt h, m1_toInt]; omega
theorem cf_endow_a {G : rx_E} {d : Nat} {C : rx_M} {S : gs_T} (hG : rx_OK G) {x y : Int32} {bl : Int64} (hx : wi_out x 32) : rx_X G MX10_endow (d + 8) [.ref 0, .int x, .long bl, .int y] (gl C S) 8 2000 (fun _ _ => False) (zq C S "java/lang/IndexOutOfBoundsException") := by
  refine rx_meth (by decide +kernel) rfl (Nat.le_of_ble_eq_true rfl) ?_
  refine rx_iload_n dX10_endow_0 rfl ?_
  refine rx_i2l dX10_endow_1 ?_
  refine rx_invS0 (as := [.long _]) hG okX10_isAccount lk_RX10_106 dX10_endow_2 rfl (by simp [Value.category]) (cw_acctO hG hx) ?_
  rintro _ _ ⟨rfl, rfl⟩
  refine rx_if_eq (tgt := 30) dX10_endow_5 (by decide) (fun h5 => ?_) (fun h5 => (absurd h5 (by decide))) 
  exact gx_throw hG rfl rfl th_x hw_849 dX10_endow_30 dX10_endow_33 dX10_endow_34 dX10_endow_36 dX10_endow_39
theorem cf_endow_c {G : rx_E} {d : Nat} {C : rx_M} {S : gs_T} (hG : rx_OK G)  {cn : Nat} (h51 : C.1 5 1 = nI cn) (hcn : cn ≤ 16) {x : Nat} {y : Int32} {bl : Int64} (hx : x < 32) (hy : wi_out y cn) (hm : ¬ y = -1) : rx_X G MX10_endow (d + 8) [.ref 0, .int (nI x), .long bl, .int y] (gl C S) 8 2000 (fun _ _ => False) (zq C S "java/lang/IndexOutOfBoundsException") := by
  refine rx_meth (by decide +kernel) rfl (Nat.le_of_ble_eq_true rfl) ?_
  refine rx_iload_n dX10_endow_0 rfl ?_
  refine rx_i2l dX10_endow_1 ?_
  refine rx_tl (y := lN x) (nI_l (by omega)) ?_
  refine rx_invS0 (as := [.long _]) hG okX10_isAccount lk_RX10_106 dX10_endow_2 rfl (by simp [Value.category]) (cw_acct hG hx) ?_
  rintro _ _ ⟨rfl, rfl⟩
  refine rx_if_eq (tgt := 30) dX10_endow_5 (by decide) (fun h5 => (absurd h5 (by decide))) (fun h5 => ?_)
  refine rx_iload dX10_endow_8 rfl ?_
  refine rx_iconst (v := -1) dX10_endow_10 rfl ?_
  refine rx_icmp_eq (tgt := 40) dX10_endow_11 (by decide) (fun h11 => (absurd h11 hm)) (fun h11 => ?_)
  refine rx_aload_n dX10_endow_14 rfl rfl ?_
  refine g_getR hG hf_RX10_19 rfl dX10_endow_15 rfl rfl rfl ?_
  refine g_getR hG hf_RX10_74 rfl dX10_endow_18 rfl rfl rfl ?_
  refine rx_iload dX10_endow_21 rfl ?_
  refine rx_i2l dX10_endow_23 ?_
  refine gv_invV (as := [.long _]) hG okX3_has lk_RX10_110 rfl rfl dX10_endow_24 rfl (by simp [Value.category]) (hw_out hG h51 hcn hy) ?_
  rintro _ _ ⟨rfl, rfl⟩
  refine rx_if_ne (tgt := 40) dX10_endow_27 (by decide) (fun h27 => (absurd h27 (by decide))) (fun h27 => ?_)
  exact gx_throw hG rfl rfl th_x hw_849 dX10_endow_30 dX10_endow_33 dX10_endow_34 dX10_endow_36 dX10_endow_39
theorem cf_endow_bm {G : rx_E} {d : Nat} {C : rx_M} {S : gs_T} (hG : rx_OK G)  {x : Nat} {bl : Int64} (hx : x < 32) (hbl : bl < 0 ∨ 17592186044416 < bl) : rx_X G MX10_endow (d + 8) [.ref 0, .int (nI x), .long bl, .int (-1)] (gl C S) 8 2000 (fun _ _ => False) (zq C S "java/lang/IllegalArgumentException") := by
  refine rx_meth (by decide +kernel) rfl (Nat.le_of_ble_eq_true rfl) ?_
  refine rx_iload_n dX10_endow_0 rfl ?_
  refine rx_i2l dX10_endow_1 ?_
  refine rx_tl (y := lN x) (nI_l (by omega)) ?_
  refine rx_invS0 (as := [.long _]) hG okX10_isAccount lk_RX10_106 dX10_endow_2 rfl (by simp [Value.category]) (cw_acct hG hx) ?_
  rintro _ _ ⟨rfl, rfl⟩
  refine rx_if_eq (tgt := 30) dX10_endow_5 (by decide) (fun h5 => (absurd h5 (by decide))) (fun h5 => ?_)
  refine rx_iload dX10_endow_8 rfl ?_
  refine rx_iconst (v := -1) dX10_endow_10 rfl ?_
  refine rx_icmp_eq (tgt := 40) dX10_endow_11 (by decide) (fun h11 => ?_) (fun h11 => (absurd rfl h11)) 
  refine rx_lload_n dX10_endow_40 rfl ?_
  refine rx_lconst (v := 0) dX10_endow_41 rfl ?_
  refine rx_lc_lt (tgt := 54) dX10_endow_42 dX10_endow_43 (by decide) (fun h42 => ?_) (fun h42 => ?_)
  · exact gx_throw hG rfl rfl th_a hw_851 dX10_endow_54 dX10_endow_57 dX10_endow_58 dX10_endow_60 dX10_endow_63
  · refine rx_lload_n dX10_endow_46 rfl ?_
    refine rx_ldc2 hG hw_850 dX10_endow_47 ?_
    refine rx_lc_le (tgt := 64) dX10_endow_50 dX10_endow_51 (by decide) (fun h50 => (hbl.elim (fun q => absurd q h42) (fun q => absurd h50 (Int64.not_le.mpr q)))) (fun h50 => ?_)
    exact gx_throw hG rfl rfl th_a hw_851 dX10_endow_54 dX10_endow_57 dX10_endow_58 dX10_endow_60 dX10_endow_63
theorem cf_endow_sm {G : rx_E} {d : Nat} {C : rx_M} {S : gs_T} (hG : rx_OK G)  {nb : Nat} (h05 : C.1 0 5 = nI nb) (hnb : nb ≤ 40) {x : Nat} {bl : Int64} (hx : x < 32) (hbl : ¬ (bl < 0 ∨ 17592186044416 < bl)) (h1 : 1 < nb) : rx_X G MX10_endow (d + 8) [.ref 0, .int (nI x), .long bl, .int (-1)] (gl C S) 8 2000 (fun _ _ => False) (zq C S "java/lang/IllegalStateException") := by
  refine rx_meth (by decide +kernel) rfl (Nat.le_of_ble_eq_true rfl) ?_
  refine rx_iload_n dX10_endow_0 rfl ?_
  refine rx_i2l dX10_endow_1 ?_
  refine rx_tl (y := lN x) (nI_l (by omega)) ?_
  refine rx_invS0 (as := [.long _]) hG okX10_isAccount lk_RX10_106 dX10_endow_2 rfl (by simp [Value.category]) (cw_acct hG hx) ?_
  rintro _ _ ⟨rfl, rfl⟩
  refine rx_if_eq (tgt := 30) dX10_endow_5 (by decide) (fun h5 => (absurd h5 (by decide))) (fun h5 => ?_)
  refine rx_iload dX10_endow_8 rfl ?_
  refine rx_iconst (v := -1) dX10_endow_10 rfl ?_
  refine rx_icmp_eq (tgt := 40) dX10_endow_11 (by decide) (fun h11 => ?_) (fun h11 => (absurd rfl h11)) 
  refine rx_lload_n dX10_endow_40 rfl ?_
  refine rx_lconst (v := 0) dX10_endow_41 rfl ?_
  refine rx_lc_lt (tgt := 54) dX10_endow_42 dX10_endow_43 (by decide) (fun h42 => (absurd (Or.inl h42) hbl)) (fun h42 => ?_)
  refine rx_lload_n dX10_endow_46 rfl ?_
  refine rx_ldc2 hG hw_850 dX10_endow_47 ?_
  refine rx_lc_le (tgt := 64) dX10_endow_50 dX10_endow_51 (by decide) (fun h50 => ?_) (fun h50 => (absurd (Or.inr (Int64.not_le.mp h50)) hbl)) 
  refine rx_aload_n dX10_endow_64 rfl rfl ?_
  refine gcv_getI (v := nI nb) hG hf_RX10_38 rfl dX10_endow_65 rfl rfl rfl h05 ?_
  refine rx_iconst (v := nI 1) dX10_endow_68 rfl ?_
  refine rx_icmp_le (tgt := 82) dX10_endow_69 (by decide) (fun h69 => (absurd h69 (by rw [nI_leI (by omega) (by omega)]; omega))) (fun h69 => ?_)
  exact gx_throw hG rfl rfl th_s hw_852 dX10_endow_72 dX10_endow_75 dX10_endow_76 dX10_endow_78 dX10_endow_81
theorem cf_endow_m {G : rx_E} {d : Nat} {C : rx_M} {S : gs_T} (hG : rx_OK G)  {nb : Nat} (h05 : C.1 0 5 = nI nb) (hnb : nb ≤ 40) {a : wA} {q : wB} (hr : C.2.2.1 44 0 = some a.1) (hB : cB1 C a q) {x : Nat} {bl : Int64} (hx : x < 32) (hbl : ¬ (bl < 0 ∨ 17592186044416 < bl)) (h1 : ¬ 1 < nb) : rx_X G MX10_endow (d + 8) [.ref 0, .int (nI x), .long bl, .int (-1)] (gl C S) 8 2000 (fun vv mu => vv = none ∧ ∃ C', mu = gl C' S ∧ C' = (C.1, rx_u (rx_u C.2.1 a.2.1 (32 * x) bl) a.2.1 (32 * x + 2) (0), C.2.2)) (fun _ _ => False) := by
  refine rx_meth (by decide +kernel) rfl (Nat.le_of_ble_eq_true rfl) ?_
  refine rx_iload_n dX10_endow_0 rfl ?_
  refine rx_i2l dX10_endow_1 ?_
  refine rx_tl (y := lN x) (nI_l (by omega)) ?_
  refine rx_invS0 (as := [.long _]) hG okX10_isAccount lk_RX10_106 dX10_endow_2 rfl (by simp [Value.category]) (cw_acct hG hx) ?_
  rintro _ _ ⟨rfl, rfl⟩
  refine rx_if_eq (tgt := 30) dX10_endow_5 (by decide) (fun h5 => (absurd h5 (by decide))) (fun h5 => ?_)
  refine rx_iload dX10_endow_8 rfl ?_
  refine rx_iconst (v := -1) dX10_endow_10 rfl ?_
  refine rx_icmp_eq (tgt := 40) dX10_endow_11 (by decide) (fun h11 => ?_) (fun h11 => (absurd rfl h11)) 
  refine rx_lload_n dX10_endow_40 rfl ?_
  refine rx_lconst (v := 0) dX10_endow_41 rfl ?_
  refine rx_lc_lt (tgt := 54) dX10_endow_42 dX10_endow_43 (by decide) (fun h42 => (absurd (Or.inl h42) hbl)) (fun h42 => ?_)
  refine rx_lload_n dX10_endow_46 rfl ?_
  refine rx_ldc2 hG hw_850 dX10_endow_47 ?_
  refine rx_lc_le (tgt := 64) dX10_endow_50 dX10_endow_51 (by decide) (fun h50 => ?_) (fun h50 => (absurd (Or.inr (Int64.not_le.mp h50)) hbl)) 
  refine rx_aload_n dX10_endow_64 rfl rfl ?_
  refine gcv_getI (v := nI nb) hG hf_RX10_38 rfl dX10_endow_65 rfl rfl rfl h05 ?_
  refine rx_iconst (v := nI 1) dX10_endow_68 rfl ?_
  refine rx_icmp_le (tgt := 82) dX10_endow_69 (by decide) (fun h69 => ?_) (fun h69 => (absurd (by rw [nI_leI (by omega) (by omega)]; omega) h69)) 
  refine rx_aload_n dX10_endow_82 rfl rfl ?_
  refine g_getR hG hf_RX10_31 rfl dX10_endow_83 rfl rfl rfl ?_
  refine rx_iconst (v := nI 0) dX10_endow_86 rfl ?_
  refine gd_aald hG dX10_endow_87 rfl rfl (by decide) rfl (show 0 < 40 by decide) (by decide) (gk44 (by decide)) hr ?_
  refine gy_getR hG hf_RX10_124 rfl dX10_endow_88 hB.1.1 hB.2.1.2.2.1 ?_
  refine rx_astore dX10_endow_91 (by decide) rfl ?_
  refine rx_aload dX10_endow_93 rfl rfl ?_
  refine rx_bipush (v := nI 32) dX10_endow_95 rfl ?_
  refine rx_iload_n dX10_endow_97 rfl ?_
  refine rx_imul dX10_endow_98 ?_
  refine rx_ti (y := nI (32 * x)) ((pk_mul _ _).trans (congrArg nI (by omega))) ?_
  refine rx_lload_n dX10_endow_99 rfl ?_
  refine gy_last (j := 32 * x) hG dX10_endow_100 hB.2.2.1.1.1 rfl (by omega) (by omega) ?_
  refine rx_aload dX10_endow_101 rfl rfl ?_
  refine rx_bipush (v := nI 32) dX10_endow_103 rfl ?_
  refine rx_iload_n dX10_endow_105 rfl ?_
  refine rx_imul dX10_endow_106 ?_
  refine rx_ti (y := nI (32 * x)) ((pk_mul _ _).trans (congrArg nI (by omega))) ?_
  refine rx_iconst (v := nI 2) dX10_endow_107 rfl ?_
  refine rx_iadd dX10_endow_108 ?_
  refine rx_ti (y := nI (32 * x + 2)) ((nI_add _ _).trans (congrArg nI (by omega))) ?_
  refine rx_iload dX10_endow_109 rfl ?_
  refine rx_iconst (v := -1) dX10_endow_111 rfl ?_
  refine rx_icmp_ne (tgt := 119) dX10_endow_112 (by decide) (fun h112 => (absurd rfl h112)) (fun h112 => ?_)
  refine rx_lconst (v := 0) dX10_endow_115 rfl ?_
  refine rx_goto (tgt := 124) dX10_endow_116 (by decide) ?_
  refine gy_last (j := 32 * x + 2) hG dX10_endow_124 hB.2.2.1.1.1 rfl (by omega) (by omega) ?_
  exact rx_vret rfl dX10_endow_125 ⟨rfl, _, rfl, rfl⟩
theorem cf_endow_bk {G : rx_E} {d : Nat} {C : rx_M} {S : gs_T} (hG : rx_OK G)  {cn : Nat} (h51 : C.1 5 1 = nI cn) (hcn : cn ≤ 16) {c : Nat} (hc : c < cn) {x : Nat} {bl : Int64} (hx : x < 32) (hbl : bl < 0 ∨ 17592186044416 < bl) : rx_X G MX10_endow (d + 8) [.ref 0, .int (nI x), .long bl, .int (nI c)] (gl C S) 8 2000 (fun _ _ => False) (zq C S "java/lang/IllegalArgumentException") := by
  refine rx_meth (by decide +kernel) rfl (Nat.le_of_ble_eq_true rfl) ?_
  refine rx_iload_n dX10_endow_0 rfl ?_
  refine rx_i2l dX10_endow_1 ?_
  refine rx_tl (y := lN x) (nI_l (by omega)) ?_
  refine rx_invS0 (as := [.long _]) hG okX10_isAccount lk_RX10_106 dX10_endow_2 rfl (by simp [Value.category]) (cw_acct hG hx) ?_
  rintro _ _ ⟨rfl, rfl⟩
  refine rx_if_eq (tgt := 30) dX10_endow_5 (by decide) (fun h5 => (absurd h5 (by decide))) (fun h5 => ?_)
  refine rx_iload dX10_endow_8 rfl ?_
  refine rx_iconst (v := -1) dX10_endow_10 rfl ?_
  refine rx_icmp_eq (tgt := 40) dX10_endow_11 (by decide) (fun h11 => (absurd h11 (nI_nm1 (by omega)))) (fun h11 => ?_)
  refine rx_aload_n dX10_endow_14 rfl rfl ?_
  refine g_getR hG hf_RX10_19 rfl dX10_endow_15 rfl rfl rfl ?_
  refine g_getR hG hf_RX10_74 rfl dX10_endow_18 rfl rfl rfl ?_
  refine rx_iload dX10_endow_21 rfl ?_
  refine rx_i2l dX10_endow_23 ?_
  refine rx_tl (y := lN c) (nI_l (by omega)) ?_
  refine gv_invV (as := [.long _]) hG okX3_has lk_RX10_110 rfl rfl dX10_endow_24 rfl (by simp [Value.category]) (hw_in hG h51 hcn hc) ?_
  rintro _ _ ⟨rfl, rfl⟩
  refine rx_if_ne (tgt := 40) dX10_endow_27 (by decide) (fun h27 => ?_) (fun h27 => (absurd h27 (by decide))) 
  refine rx_lload_n dX10_endow_40 rfl ?_
  refine rx_lconst (v := 0) dX10_endow_41 rfl ?_
  refine rx_lc_lt (tgt := 54) dX10_endow_42 dX10_endow_43 (by decide) (fun h42 => ?_) (fun h42 => ?_)
  · exact gx_throw hG rfl rfl th_a hw_851 dX10_endow_54 dX10_endow_57 dX10_endow_58 dX10_endow_60 dX10_endow_63
  · refine rx_lload_n dX10_endow_46 rfl ?_
    refine rx_ldc2 hG hw_850 dX10_endow_47 ?_
    refine rx_lc_le (tgt := 64) dX10_endow_50 dX10_endow_51 (by decide) (fun h50 => (hbl.elim (fun q => absurd q h42) (fun q => absurd h50 (Int64.not_le.mpr q)))) (fun h50 => ?_)
    exact gx_throw hG rfl rfl th_a hw_851 dX10_endow_54 dX10_endow_57 dX10_endow_58 dX10_endow_60 dX10_endow_63
theorem cf_endow_sk {G : rx_E} {d : Nat} {C : rx_M} {S : gs_T} (hG : rx_OK G)  {cn : Nat} (h51 : C.1 5 1 = nI cn) (hcn : cn ≤ 16) {c : Nat} (hc : c < cn) {nb : Nat} (h05 : C.1 0 5 = nI nb) (hnb : nb ≤ 40) {x : Nat} {bl : Int64} (hx : x < 32) (hbl : ¬ (bl < 0 ∨ 17592186044416 < bl)) (h1 : 1 < nb) : rx_X G MX10_endow (d + 8) [.ref 0, .int (nI x), .long bl, .int (nI c)] (gl C S) 8 2000 (fun _ _ => False) (zq C S "java/lang/IllegalStateException") := by
  refine rx_meth (by decide +kernel) rfl (Nat.le_of_ble_eq_true rfl) ?_
  refine rx_iload_n dX10_endow_0 rfl ?_
  refine rx_i2l dX10_endow_1 ?_
  refine rx_tl (y := lN x) (nI_l (by omega)) ?_
  refine rx_invS0 (as := [.long _]) hG okX10_isAccount lk_RX10_106 dX10_endow_2 rfl (by simp [Value.category]) (cw_acct hG hx) ?_
  rintro _ _ ⟨rfl, rfl⟩
  refine rx_if_eq (tgt := 30) dX10_endow_5 (by decide) (fun h5 => (absurd h5 (by decide))) (fun h5 => ?_)
  refine rx_iload dX10_endow_8 rfl ?_
  refine rx_iconst (v := -1) dX10_endow_10 rfl ?_
  refine rx_icmp_eq (tgt := 40) dX10_endow_11 (by decide) (fun h11 => (absurd h11 (nI_nm1 (by omega)))) (fun h11 => ?_)
  refine rx_aload_n dX10_endow_14 rfl rfl ?_
  refine g_getR hG hf_RX10_19 rfl dX10_endow_15 rfl rfl rfl ?_
  refine g_getR hG hf_RX10_74 rfl dX10_endow_18 rfl rfl rfl ?_
  refine rx_iload dX10_endow_21 rfl ?_
  refine rx_i2l dX10_endow_23 ?_
  refine rx_tl (y := lN c) (nI_l (by omega)) ?_
  refine gv_invV (as := [.long _]) hG okX3_has lk_RX10_110 rfl rfl dX10_endow_24 rfl (by simp [Value.category]) (hw_in hG h51 hcn hc) ?_
  rintro _ _ ⟨rfl, rfl⟩
  refine rx_if_ne (tgt := 40) dX10_endow_27 (by decide) (fun h27 => ?_) (fun h27 => (absurd h27 (by decide))) 
  refine rx_lload_n dX10_endow_40 rfl ?_
  refine rx_lconst (v := 0) dX10_endow_41 rfl ?_
  refine rx_lc_lt (tgt := 54) dX10_endow_42 dX10_endow_43 (by decide) (fun h42 => (absurd (Or.inl h42) hbl)) (fun h42 => ?_)
  refine rx_lload_n dX10_endow_46 rfl ?_
  refine rx_ldc2 hG hw_850 dX10_endow_47 ?_
  refine rx_lc_le (tgt := 64) dX10_endow_50 dX10_endow_51 (by decide) (fun h50 => ?_) (fun h50 => (absurd (Or.inr (Int64.not_le.mp h50)) hbl)) 
  refine rx_aload_n dX10_endow_64 rfl rfl ?_
  refine gcv_getI (v := nI nb) hG hf_RX10_38 rfl dX10_endow_65 rfl rfl rfl h05 ?_
  refine rx_iconst (v := nI 1) dX10_endow_68 rfl ?_
  refine rx_icmp_le (tgt := 82) dX10_endow_69 (by decide) (fun h69 => (absurd h69 (by rw [nI_leI (by omega) (by omega)]; omega))) (fun h69 => ?_)
  exact gx_throw hG rfl rfl th_s hw_852 dX10_endow_72 dX10_endow_75 dX10_endow_76 dX10_endow_78 dX10_endow_81
theorem cf_endow_k {G : rx_E} {d : Nat} {C : rx_M} {S : gs_T} (hG : rx_OK G)  {cn : Nat} (h51 : C.1 5 1 = nI cn) (hcn : cn ≤ 16) {c : Nat} (hc : c < cn) {nb : Nat} (h05 : C.1 0 5 = nI nb) (hnb : nb ≤ 40) {a : wA} {q : wB} (hr : C.2.2.1 44 0 = some a.1) (hB : cB1 C a q) {x : Nat} {bl : Int64} (hx : x < 32) (hbl : ¬ (bl < 0 ∨ 17592186044416 < bl)) (h1 : ¬ 1 < nb) : rx_X G MX10_endow (d + 8) [.ref 0, .int (nI x), .long bl, .int (nI c)] (gl C S) 8 2000 (fun vv mu => vv = none ∧ ∃ C', mu = gl C' S ∧ C' = (C.1, rx_u (rx_u C.2.1 a.2.1 (32 * x) bl) a.2.1 (32 * x + 2) (lN (c + 1)), C.2.2)) (fun _ _ => False) := by
  refine rx_meth (by decide +kernel) rfl (Nat.le_of_ble_eq_true rfl) ?_
  refine rx_iload_n dX10_endow_0 rfl ?_
  refine rx_i2l dX10_endow_1 ?_
  refine rx_tl (y := lN x) (nI_l (by omega)) ?_
  refine rx_invS0 (as := [.long _]) hG okX10_isAccount lk_RX10_106 dX10_endow_2 rfl (by simp [Value.category]) (cw_acct hG hx) ?_
  rintro _ _ ⟨rfl, rfl⟩
  refine rx_if_eq (tgt := 30) dX10_endow_5 (by decide) (fun h5 => (absurd h5 (by decide))) (fun h5 => ?_)
  refine rx_iload dX10_endow_8 rfl ?_
  refine rx_iconst (v := -1) dX10_endow_10 rfl ?_
  refine rx_icmp_eq (tgt := 40) dX10_endow_11 (by decide) (fun h11 => (absurd h11 (nI_nm1 (by omega)))) (fun h11 => ?_)
  refine rx_aload_n dX10_endow_14 rfl rfl ?_
  refine g_getR hG hf_RX10_19 rfl dX10_endow_15 rfl rfl rfl ?_
  refine g_getR hG hf_RX10_74 rfl dX10_endow_18 rfl rfl rfl ?_
  refine rx_iload dX10_endow_21 rfl ?_
  refine rx_i2l dX10_endow_23 ?_
  refine rx_tl (y := lN c) (nI_l (by omega)) ?_
  refine gv_invV (as := [.long _]) hG okX3_has lk_RX10_110 rfl rfl dX10_endow_24 rfl (by simp [Value.category]) (hw_in hG h51 hcn hc) ?_
  rintro _ _ ⟨rfl, rfl⟩
  refine rx_if_ne (tgt := 40) dX10_endow_27 (by decide) (fun h27 => ?_) (fun h27 => (absurd h27 (by decide))) 
  refine rx_lload_n dX10_endow_40 rfl ?_
  refine rx_lconst (v := 0) dX10_endow_41 rfl ?_
  refine rx_lc_lt (tgt := 54) dX10_endow_42 dX10_endow_43 (by decide) (fun h42 => (absurd (Or.inl h42) hbl)) (fun h42 => ?_)
  refine rx_lload_n dX10_endow_46 rfl ?_
  refine rx_ldc2 hG hw_850 dX10_endow_47 ?_
  refine rx_lc_le (tgt := 64) dX10_endow_50 dX10_endow_51 (by decide) (fun h50 => ?_) (fun h50 => (absurd (Or.inr (Int64.not_le.mp h50)) hbl)) 
  refine rx_aload_n dX10_endow_64 rfl rfl ?_
  refine gcv_getI (v := nI nb) hG hf_RX10_38 rfl dX10_endow_65 rfl rfl rfl h05 ?_
  refine rx_iconst (v := nI 1) dX10_endow_68 rfl ?_
  refine rx_icmp_le (tgt := 82) dX10_endow_69 (by decide) (fun h69 => ?_) (fun h69 => (absurd (by rw [nI_leI (by omega) (by omega)]; omega) h69)) 
  refine rx_aload_n dX10_endow_82 rfl rfl ?_
  refine g_getR hG hf_RX10_31 rfl dX10_endow_83 rfl rfl rfl ?_
  refine rx_iconst (v := nI 0) dX10_endow_86 rfl ?_
  refine gd_aald hG dX10_endow_87 rfl rfl (by decide) rfl (show 0 < 40 by decide) (by decide) (gk44 (by decide)) hr ?_
  refine gy_getR hG hf_RX10_124 rfl dX10_endow_88 hB.1.1 hB.2.1.2.2.1 ?_
  refine rx_astore dX10_endow_91 (by decide) rfl ?_
  refine rx_aload dX10_endow_93 rfl rfl ?_
  refine rx_bipush (v := nI 32) dX10_endow_95 rfl ?_
  refine rx_iload_n dX10_endow_97 rfl ?_
  refine rx_imul dX10_endow_98 ?_
  refine rx_ti (y := nI (32 * x)) ((pk_mul _ _).trans (congrArg nI (by omega))) ?_
  refine rx_lload_n dX10_endow_99 rfl ?_
  refine gy_last (j := 32 * x) hG dX10_endow_100 hB.2.2.1.1.1 rfl (by omega) (by omega) ?_
  refine rx_aload dX10_endow_101 rfl rfl ?_
  refine rx_bipush (v := nI 32) dX10_endow_103 rfl ?_
  refine rx_iload_n dX10_endow_105 rfl ?_
  refine rx_imul dX10_endow_106 ?_
  refine rx_ti (y := nI (32 * x)) ((pk_mul _ _).trans (congrArg nI (by omega))) ?_
  refine rx_iconst (v := nI 2) dX10_endow_107 rfl ?_
  refine rx_iadd dX10_endow_108 ?_
  refine rx_ti (y := nI (32 * x + 2)) ((nI_add _ _).trans (congrArg nI (by omega))) ?_
  refine rx_iload dX10_endow_109 rfl ?_
  refine rx_iconst (v := -1) dX10_endow_111 rfl ?_
  refine rx_icmp_ne (tgt := 119) dX10_endow_112 (by decide) (fun h112 => ?_) (fun h112 => (absurd h112 (nI_nm1 (by omega)))) 
  refine rx_iload dX10_endow_119 rfl ?_
  refine rx_iconst (v := nI 1) dX10_endow_121 rfl ?_
  refine rx_iadd dX10_endow_122 ?_
  refine rx_ti (y := nI (c + 1)) ((nI_add _ _).trans (congrArg nI (by omega))) ?_
  refine rx_i2l dX10_endow_123 ?_
  refine rx_tl (y := lN (c + 1)) (nI_l (by omega)) ?_
  refine gy_last (j := 32 * x + 2) hG dX10_endow_124 hB.2.2.1.1.1 rfl (by omega) (by omega) ?_
  exact rx_vret rfl dX10_endow_125 ⟨rfl, _, rfl, rfl⟩
theorem mf_endow_a {G : rx_E} {d : Nat} {C : rx_M} {S : gs_T} (hG : rx_OK G) {x y : Int32} {bl : Int64} (hx : wi_out x 32) : rx_C G MX11_endow (d + 1) [.ref 52, .int x, .long bl, .int y] (gl C S) 0 0 (fun vv mu => vv = none ∧ mu = gl C (rx_u S.1 52 0 (nI 1), S.2)) := by
  refine rx_meth0 (by decide +kernel) rfl (Nat.le_of_ble_eq_true rfl) ?_
  refine rx_aload_n dX11_endow_0 rfl rfl ?_
  refine rx_iload_n dX11_endow_1 rfl ?_
  refine rx_i2l dX11_endow_2 ?_
  refine rx_invS0 (as := [.long _]) hG okX11_isAccount lk_RX11_181 dX11_endow_3 rfl (by simp [Value.category]) (cm_isAccountF hG (acct_out hx)) ?_
  rintro _ _ ⟨rfl, rfl⟩
  refine rx_if_eq (tgt := 24) dX11_endow_6 (by decide) (fun h6 => ?_) (fun h6 => (absurd h6 (by decide))) 
  refine rx_iconst (v := nI 1) dX11_endow_24 rfl ?_
  refine rx_goto (tgt := 59) dX11_endow_25 (by decide) ?_
  refine gm_putI hG hf_RX11_160 (gw_nf rfl rfl) rfl dX11_endow_59 rfl rfl rfl rfl rfl ?_
  refine rx_aload_n dX11_endow_62 rfl rfl ?_
  refine gmv_getI (v := nI 1) hG hf_RX11_160 rfl dX11_endow_63 rfl rfl rfl (by simp [rx_ru]) ?_
  refine rx_if_ne (tgt := 95) dX11_endow_66 (by decide) (fun h66 => ?_) (fun h66 => (absurd h66 (by decide))) 
  exact rx_vret rfl dX11_endow_95 ⟨rfl, rfl⟩
theorem mf_endow_c {G : rx_E} {d : Nat} {C : rx_M} {S : gs_T} (hG : rx_OK G)  {cn : Nat} (h3 : S.1 52 3 = nI cn) (hcn : cn ≤ 16) {x : Nat} {y : Int32} {bl : Int64} (hx : x < 32) (hy : wi_out y cn) (hm : ¬ y = -1) : rx_C G MX11_endow (d + 1) [.ref 52, .int (nI x), .long bl, .int y] (gl C S) 0 0 (fun vv mu => vv = none ∧ mu = gl C (rx_u S.1 52 0 (nI 1), S.2)) := by
  refine rx_meth0 (by decide +kernel) rfl (Nat.le_of_ble_eq_true rfl) ?_
  refine rx_aload_n dX11_endow_0 rfl rfl ?_
  refine rx_iload_n dX11_endow_1 rfl ?_
  refine rx_i2l dX11_endow_2 ?_
  refine rx_tl (y := lN x) (nI_l (by omega)) ?_
  refine rx_invS0 (as := [.long _]) hG okX11_isAccount lk_RX11_181 dX11_endow_3 rfl (by simp [Value.category]) (cm_isAccountT hG (lN_isacct hx)) ?_
  rintro _ _ ⟨rfl, rfl⟩
  refine rx_if_eq (tgt := 24) dX11_endow_6 (by decide) (fun h6 => (absurd h6 (by decide))) (fun h6 => ?_)
  refine rx_iload dX11_endow_9 rfl ?_
  refine rx_iconst (v := -1) dX11_endow_11 rfl ?_
  refine rx_icmp_lt (tgt := 24) dX11_endow_12 (by decide) (fun h12 => ?_) (fun h12 => ?_)
  · refine rx_iconst (v := nI 1) dX11_endow_24 rfl ?_
    refine rx_goto (tgt := 59) dX11_endow_25 (by decide) ?_
    refine gm_putI hG hf_RX11_160 (gw_nf rfl rfl) rfl dX11_endow_59 rfl rfl rfl rfl rfl ?_
    refine rx_aload_n dX11_endow_62 rfl rfl ?_
    refine gmv_getI (v := nI 1) hG hf_RX11_160 rfl dX11_endow_63 rfl rfl rfl (by simp [rx_ru]) ?_
    refine rx_if_ne (tgt := 95) dX11_endow_66 (by decide) (fun h66 => ?_) (fun h66 => (absurd h66 (by decide))) 
    exact rx_vret rfl dX11_endow_95 ⟨rfl, rfl⟩
  · refine rx_iload dX11_endow_15 rfl ?_
    refine rx_aload_n dX11_endow_17 rfl rfl ?_
    refine gmv_getI (v := nI cn) hG hf_RX11_172 rfl dX11_endow_18 rfl rfl rfl h3 ?_
    refine rx_icmp_lt (tgt := 28) dX11_endow_21 (by decide) (fun h21 => wi_dm hy hm h12 h21) (fun h21 => ?_)
    refine rx_iconst (v := nI 1) dX11_endow_24 rfl ?_
    refine rx_goto (tgt := 59) dX11_endow_25 (by decide) ?_
    refine gm_putI hG hf_RX11_160 (gw_nf rfl rfl) rfl dX11_endow_59 rfl rfl rfl rfl rfl ?_
    refine rx_aload_n dX11_endow_62 rfl rfl ?_
    refine gmv_getI (v := nI 1) hG hf_RX11_160 rfl dX11_endow_63 rfl rfl rfl (by simp [rx_ru]) ?_
    refine rx_if_ne (tgt := 95) dX11_endow_66 (by decide) (fun h66 => ?_) (fun h66 => (absurd h66 (by decide))) 
    exact rx_vret rfl dX11_endow_95 ⟨rfl, rfl⟩
theorem mf_endow_bm {G : rx_E} {d : Nat} {C : rx_M} {S : gs_T} (hG : rx_OK G)  {cn : Nat} (h3 : S.1 52 3 = nI cn) (hcn : cn ≤ 16) {x : Nat} {bl : Int64} (hx : x < 32) (hbl : bl < 0 ∨ 17592186044416 < bl) : rx_C G MX11_endow (d + 1) [.ref 52, .int (nI x), .long bl, .int (-1)] (gl C S) 0 0 (fun vv mu => vv = none ∧ mu = gl C (rx_u S.1 52 0 (nI 2), S.2)) := by
  refine rx_meth0 (by decide +kernel) rfl (Nat.le_of_ble_eq_true rfl) ?_
  refine rx_aload_n dX11_endow_0 rfl rfl ?_
  refine rx_iload_n dX11_endow_1 rfl ?_
  refine rx_i2l dX11_endow_2 ?_
  refine rx_tl (y := lN x) (nI_l (by omega)) ?_
  refine rx_invS0 (as := [.long _]) hG okX11_isAccount lk_RX11_181 dX11_endow_3 rfl (by simp [Value.category]) (cm_isAccountT hG (lN_isacct hx)) ?_
  rintro _ _ ⟨rfl, rfl⟩
  refine rx_if_eq (tgt := 24) dX11_endow_6 (by decide) (fun h6 => (absurd h6 (by decide))) (fun h6 => ?_)
  refine rx_iload dX11_endow_9 rfl ?_
  refine rx_iconst (v := -1) dX11_endow_11 rfl ?_
  refine rx_icmp_lt (tgt := 24) dX11_endow_12 (by decide) (fun h12 => (absurd h12 (by decide))) (fun h12 => ?_)
  refine rx_iload dX11_endow_15 rfl ?_
  refine rx_aload_n dX11_endow_17 rfl rfl ?_
  refine gmv_getI (v := nI cn) hG hf_RX11_172 rfl dX11_endow_18 rfl rfl rfl h3 ?_
  refine rx_icmp_lt (tgt := 28) dX11_endow_21 (by decide) (fun h21 => ?_) (fun h21 => (absurd (m1_lt (by omega)) h21)) 
  refine rx_lload_n dX11_endow_28 rfl ?_
  refine rx_lconst (v := 0) dX11_endow_29 rfl ?_
  refine rx_lc_lt (tgt := 42) dX11_endow_30 dX11_endow_31 (by decide) (fun h30 => ?_) (fun h30 => ?_)
  · refine rx_iconst (v := nI 2) dX11_endow_42 rfl ?_
    refine rx_goto (tgt := 59) dX11_endow_43 (by decide) ?_
    refine gm_putI hG hf_RX11_160 (gw_nf rfl rfl) rfl dX11_endow_59 rfl rfl rfl rfl rfl ?_
    refine rx_aload_n dX11_endow_62 rfl rfl ?_
    refine gmv_getI (v := nI 2) hG hf_RX11_160 rfl dX11_endow_63 rfl rfl rfl (by simp [rx_ru]) ?_
    refine rx_if_ne (tgt := 95) dX11_endow_66 (by decide) (fun h66 => ?_) (fun h66 => (absurd h66 (by decide))) 
    exact rx_vret rfl dX11_endow_95 ⟨rfl, rfl⟩
  · refine rx_lload_n dX11_endow_34 rfl ?_
    refine rx_ldc2 hG hw_887 dX11_endow_35 ?_
    refine rx_lc_le (tgt := 46) dX11_endow_38 dX11_endow_39 (by decide) (fun h38 => (hbl.elim (fun q => absurd q h30) (fun q => absurd h38 (Int64.not_le.mpr q)))) (fun h38 => ?_)
    refine rx_iconst (v := nI 2) dX11_endow_42 rfl ?_
    refine rx_goto (tgt := 59) dX11_endow_43 (by decide) ?_
    refine gm_putI hG hf_RX11_160 (gw_nf rfl rfl) rfl dX11_endow_59 rfl rfl rfl rfl rfl ?_
    refine rx_aload_n dX11_endow_62 rfl rfl ?_
    refine gmv_getI (v := nI 2) hG hf_RX11_160 rfl dX11_endow_63 rfl rfl rfl (by simp [rx_ru]) ?_
    refine rx_if_ne (tgt := 95) dX11_endow_66 (by decide) (fun h66 => ?_) (fun h66 => (absurd h66 (by decide))) 
    exact rx_vret rfl dX11_endow_95 ⟨rfl, rfl⟩
theorem mf_endow_sm {G : rx_E} {d : Nat} {C : rx_M} {S : gs_T} (hG : rx_OK G)  {cn : Nat} (h3 : S.1 52 3 = nI cn) (hcn : cn ≤ 16) {nb : Nat} (h15 : S.1 52 15 = nI nb) (hnb : nb ≤ 40) {x : Nat} {bl : Int64} (hx : x < 32) (hbl : ¬ (bl < 0 ∨ 17592186044416 < bl)) (h1 : 1 < nb) : rx_C G MX11_endow (d + 1) [.ref 52, .int (nI x), .long bl, .int (-1)] (gl C S) 0 0 (fun vv mu => vv = none ∧ mu = gl C (rx_u S.1 52 0 (nI 3), S.2)) := by
  refine rx_meth0 (by decide +kernel) rfl (Nat.le_of_ble_eq_true rfl) ?_
  refine rx_aload_n dX11_endow_0 rfl rfl ?_
  refine rx_iload_n dX11_endow_1 rfl ?_
  refine rx_i2l dX11_endow_2 ?_
  refine rx_tl (y := lN x) (nI_l (by omega)) ?_
  refine rx_invS0 (as := [.long _]) hG okX11_isAccount lk_RX11_181 dX11_endow_3 rfl (by simp [Value.category]) (cm_isAccountT hG (lN_isacct hx)) ?_
  rintro _ _ ⟨rfl, rfl⟩
  refine rx_if_eq (tgt := 24) dX11_endow_6 (by decide) (fun h6 => (absurd h6 (by decide))) (fun h6 => ?_)
  refine rx_iload dX11_endow_9 rfl ?_
  refine rx_iconst (v := -1) dX11_endow_11 rfl ?_
  refine rx_icmp_lt (tgt := 24) dX11_endow_12 (by decide) (fun h12 => (absurd h12 (by decide))) (fun h12 => ?_)
  refine rx_iload dX11_endow_15 rfl ?_
  refine rx_aload_n dX11_endow_17 rfl rfl ?_
  refine gmv_getI (v := nI cn) hG hf_RX11_172 rfl dX11_endow_18 rfl rfl rfl h3 ?_
  refine rx_icmp_lt (tgt := 28) dX11_endow_21 (by decide) (fun h21 => ?_) (fun h21 => (absurd (m1_lt (by omega)) h21)) 
  refine rx_lload_n dX11_endow_28 rfl ?_
  refine rx_lconst (v := 0) dX11_endow_29 rfl ?_
  refine rx_lc_lt (tgt := 42) dX11_endow_30 dX11_endow_31 (by decide) (fun h30 => (absurd (Or.inl h30) hbl)) (fun h30 => ?_)
  refine rx_lload_n dX11_endow_34 rfl ?_
  refine rx_ldc2 hG hw_887 dX11_endow_35 ?_
  refine rx_lc_le (tgt := 46) dX11_endow_38 dX11_endow_39 (by decide) (fun h38 => ?_) (fun h38 => (absurd (Or.inr (Int64.not_le.mp h38)) hbl)) 
  refine rx_aload_n dX11_endow_46 rfl rfl ?_
  refine gmv_getI (v := nI nb) hG hf_RX11_156 rfl dX11_endow_47 rfl rfl rfl h15 ?_
  refine rx_iconst (v := nI 1) dX11_endow_50 rfl ?_
  refine rx_icmp_le (tgt := 58) dX11_endow_51 (by decide) (fun h51 => (absurd h51 (by rw [nI_leI (by omega) (by omega)]; omega))) (fun h51 => ?_)
  refine rx_iconst (v := nI 3) dX11_endow_54 rfl ?_
  refine rx_goto (tgt := 59) dX11_endow_55 (by decide) ?_
  refine gm_putI hG hf_RX11_160 (gw_nf rfl rfl) rfl dX11_endow_59 rfl rfl rfl rfl rfl ?_
  refine rx_aload_n dX11_endow_62 rfl rfl ?_
  refine gmv_getI (v := nI 3) hG hf_RX11_160 rfl dX11_endow_63 rfl rfl rfl (by simp [rx_ru]) ?_
  refine rx_if_ne (tgt := 95) dX11_endow_66 (by decide) (fun h66 => ?_) (fun h66 => (absurd h66 (by decide))) 
  exact rx_vret rfl dX11_endow_95 ⟨rfl, rfl⟩
theorem mf_endow_m {G : rx_E} {d : Nat} {C : rx_M} {S : gs_T} (hG : rx_OK G)  {cn : Nat} (h3 : S.1 52 3 = nI cn) (hcn : cn ≤ 16) {nb : Nat} (h15 : S.1 52 15 = nI nb) (hnb : nb ≤ 40) {x : Nat} {bl : Int64} (hx : x < 32) (hbl : ¬ (bl < 0 ∨ 17592186044416 < bl)) (h1 : ¬ 1 < nb) : rx_C G MX11_endow (d + 1) [.ref 52, .int (nI x), .long bl, .int (-1)] (gl C S) 0 0 (fun vv mu => vv = none ∧ mu = gl C (rx_u S.1 52 0 (nI 0), rx_u (rx_u S.2 71 (19 * x) bl) 71 (19 * x + 2) (0))) := by
  refine rx_meth0 (by decide +kernel) rfl (Nat.le_of_ble_eq_true rfl) ?_
  refine rx_aload_n dX11_endow_0 rfl rfl ?_
  refine rx_iload_n dX11_endow_1 rfl ?_
  refine rx_i2l dX11_endow_2 ?_
  refine rx_tl (y := lN x) (nI_l (by omega)) ?_
  refine rx_invS0 (as := [.long _]) hG okX11_isAccount lk_RX11_181 dX11_endow_3 rfl (by simp [Value.category]) (cm_isAccountT hG (lN_isacct hx)) ?_
  rintro _ _ ⟨rfl, rfl⟩
  refine rx_if_eq (tgt := 24) dX11_endow_6 (by decide) (fun h6 => (absurd h6 (by decide))) (fun h6 => ?_)
  refine rx_iload dX11_endow_9 rfl ?_
  refine rx_iconst (v := -1) dX11_endow_11 rfl ?_
  refine rx_icmp_lt (tgt := 24) dX11_endow_12 (by decide) (fun h12 => (absurd h12 (by decide))) (fun h12 => ?_)
  refine rx_iload dX11_endow_15 rfl ?_
  refine rx_aload_n dX11_endow_17 rfl rfl ?_
  refine gmv_getI (v := nI cn) hG hf_RX11_172 rfl dX11_endow_18 rfl rfl rfl h3 ?_
  refine rx_icmp_lt (tgt := 28) dX11_endow_21 (by decide) (fun h21 => ?_) (fun h21 => (absurd (m1_lt (by omega)) h21)) 
  refine rx_lload_n dX11_endow_28 rfl ?_
  refine rx_lconst (v := 0) dX11_endow_29 rfl ?_
  refine rx_lc_lt (tgt := 42) dX11_endow_30 dX11_endow_31 (by decide) (fun h30 => (absurd (Or.inl h30) hbl)) (fun h30 => ?_)
  refine rx_lload_n dX11_endow_34 rfl ?_
  refine rx_ldc2 hG hw_887 dX11_endow_35 ?_
  refine rx_lc_le (tgt := 46) dX11_endow_38 dX11_endow_39 (by decide) (fun h38 => ?_) (fun h38 => (absurd (Or.inr (Int64.not_le.mp h38)) hbl)) 
  refine rx_aload_n dX11_endow_46 rfl rfl ?_
  refine gmv_getI (v := nI nb) hG hf_RX11_156 rfl dX11_endow_47 rfl rfl rfl h15 ?_
  refine rx_iconst (v := nI 1) dX11_endow_50 rfl ?_
  refine rx_icmp_le (tgt := 58) dX11_endow_51 (by decide) (fun h51 => ?_) (fun h51 => (absurd (by rw [nI_leI (by omega) (by omega)]; omega) h51)) 
  refine rx_iconst (v := nI 0) dX11_endow_58 rfl ?_
  refine gm_putI hG hf_RX11_160 (gw_nf rfl rfl) rfl dX11_endow_59 rfl rfl rfl rfl rfl ?_
  refine rx_aload_n dX11_endow_62 rfl rfl ?_
  refine gmv_getI (v := nI 0) hG hf_RX11_160 rfl dX11_endow_63 rfl rfl rfl (by simp [rx_ru]) ?_
  refine rx_if_ne (tgt := 95) dX11_endow_66 (by decide) (fun h66 => (absurd h66 (by decide))) (fun h66 => ?_)
  refine rx_aload_n dX11_endow_69 rfl rfl ?_
  refine g_getR hG hf_RX11_66 rfl dX11_endow_70 rfl rfl rfl ?_
  refine rx_bipush (v := nI 19) dX11_endow_73 rfl ?_
  refine rx_iload_n dX11_endow_75 rfl ?_
  refine rx_imul dX11_endow_76 ?_
  refine rx_ti (y := nI (19 * x)) ((pk_mul _ _).trans (congrArg nI (by omega))) ?_
  refine rx_lload_n dX11_endow_77 rfl ?_
  refine gm_last (j := 19 * x) hG dX11_endow_78 rfl rfl rfl rfl (by omega) (by decide) ?_
  refine rx_aload_n dX11_endow_79 rfl rfl ?_
  refine g_getR hG hf_RX11_66 rfl dX11_endow_80 rfl rfl rfl ?_
  refine rx_bipush (v := nI 19) dX11_endow_83 rfl ?_
  refine rx_iload_n dX11_endow_85 rfl ?_
  refine rx_imul dX11_endow_86 ?_
  refine rx_ti (y := nI (19 * x)) ((pk_mul _ _).trans (congrArg nI (by omega))) ?_
  refine rx_iconst (v := nI 2) dX11_endow_87 rfl ?_
  refine rx_iadd dX11_endow_88 ?_
  refine rx_ti (y := nI (19 * x + 2)) ((nI_add _ _).trans (congrArg nI (by omega))) ?_
  refine rx_iload dX11_endow_89 rfl ?_
  refine rx_iconst (v := nI 1) dX11_endow_91 rfl ?_
  refine rx_iadd dX11_endow_92 ?_
  refine rx_ti (y := nI 0) (by decide) ?_
  refine rx_i2l dX11_endow_93 ?_
  refine rx_tl (y := 0) (by decide) ?_
  refine gm_last (j := 19 * x + 2) hG dX11_endow_94 rfl rfl rfl rfl (by omega) (by decide) ?_
  exact rx_vret rfl dX11_endow_95 ⟨rfl, rfl⟩
theorem mf_endow_bk {G : rx_E} {d : Nat} {C : rx_M} {S : gs_T} (hG : rx_OK G)  {cn : Nat} (h3 : S.1 52 3 = nI cn) (hcn : cn ≤ 16) {c : Nat} (hc : c < cn) {x : Nat} {bl : Int64} (hx : x < 32) (hbl : bl < 0 ∨ 17592186044416 < bl) : rx_C G MX11_endow (d + 1) [.ref 52, .int (nI x), .long bl, .int (nI c)] (gl C S) 0 0 (fun vv mu => vv = none ∧ mu = gl C (rx_u S.1 52 0 (nI 2), S.2)) := by
  refine rx_meth0 (by decide +kernel) rfl (Nat.le_of_ble_eq_true rfl) ?_
  refine rx_aload_n dX11_endow_0 rfl rfl ?_
  refine rx_iload_n dX11_endow_1 rfl ?_
  refine rx_i2l dX11_endow_2 ?_
  refine rx_tl (y := lN x) (nI_l (by omega)) ?_
  refine rx_invS0 (as := [.long _]) hG okX11_isAccount lk_RX11_181 dX11_endow_3 rfl (by simp [Value.category]) (cm_isAccountT hG (lN_isacct hx)) ?_
  rintro _ _ ⟨rfl, rfl⟩
  refine rx_if_eq (tgt := 24) dX11_endow_6 (by decide) (fun h6 => (absurd h6 (by decide))) (fun h6 => ?_)
  refine rx_iload dX11_endow_9 rfl ?_
  refine rx_iconst (v := -1) dX11_endow_11 rfl ?_
  refine rx_icmp_lt (tgt := 24) dX11_endow_12 (by decide) (fun h12 => (absurd h12 (nI_nlm1 (by omega)))) (fun h12 => ?_)
  refine rx_iload dX11_endow_15 rfl ?_
  refine rx_aload_n dX11_endow_17 rfl rfl ?_
  refine gmv_getI (v := nI cn) hG hf_RX11_172 rfl dX11_endow_18 rfl rfl rfl h3 ?_
  refine rx_icmp_lt (tgt := 28) dX11_endow_21 (by decide) (fun h21 => ?_) (fun h21 => (absurd (by rw [nI_ltI (by omega) (by omega)]; omega) h21)) 
  refine rx_lload_n dX11_endow_28 rfl ?_
  refine rx_lconst (v := 0) dX11_endow_29 rfl ?_
  refine rx_lc_lt (tgt := 42) dX11_endow_30 dX11_endow_31 (by decide) (fun h30 => ?_) (fun h30 => ?_)
  · refine rx_iconst (v := nI 2) dX11_endow_42 rfl ?_
    refine rx_goto (tgt := 59) dX11_endow_43 (by decide) ?_
    refine gm_putI hG hf_RX11_160 (gw_nf rfl rfl) rfl dX11_endow_59 rfl rfl rfl rfl rfl ?_
    refine rx_aload_n dX11_endow_62 rfl rfl ?_
    refine gmv_getI (v := nI 2) hG hf_RX11_160 rfl dX11_endow_63 rfl rfl rfl (by simp [rx_ru]) ?_
    refine rx_if_ne (tgt := 95) dX11_endow_66 (by decide) (fun h66 => ?_) (fun h66 => (absurd h66 (by decide))) 
    exact rx_vret rfl dX11_endow_95 ⟨rfl, rfl⟩
  · refine rx_lload_n dX11_endow_34 rfl ?_
    refine rx_ldc2 hG hw_887 dX11_endow_35 ?_
    refine rx_lc_le (tgt := 46) dX11_endow_38 dX11_endow_39 (by decide) (fun h38 => (hbl.elim (fun q => absurd q h30) (fun q => absurd h38 (Int64.not_le.mpr q)))) (fun h38 => ?_)
    refine rx_iconst (v := nI 2) dX11_endow_42 rfl ?_
    refine rx_goto (tgt := 59) dX11_endow_43 (by decide) ?_
    refine gm_putI hG hf_RX11_160 (gw_nf rfl rfl) rfl dX11_endow_59 rfl rfl rfl rfl rfl ?_
    refine rx_aload_n dX11_endow_62 rfl rfl ?_
    refine gmv_getI (v := nI 2) hG hf_RX11_160 rfl dX11_endow_63 rfl rfl rfl (by simp [rx_ru]) ?_
    refine rx_if_ne (tgt := 95) dX11_endow_66 (by decide) (fun h66 => ?_) (fun h66 => (absurd h66 (by decide))) 
    exact rx_vret rfl dX11_endow_95 ⟨rfl, rfl⟩
theorem mf_endow_sk {G : rx_E} {d : Nat} {C : rx_M} {S : gs_T} (hG : rx_OK G)  {cn : Nat} (h3 : S.1 52 3 = nI cn) (hcn : cn ≤ 16) {c : Nat} (hc : c < cn) {nb : Nat} (h15 : S.1 52 15 = nI nb) (hnb : nb ≤ 40) {x : Nat} {bl : Int64} (hx : x < 32) (hbl : ¬ (bl < 0 ∨ 17592186044416 < bl)) (h1 : 1 < nb) : rx_C G MX11_endow (d + 1) [.ref 52, .int (nI x), .long bl, .int (nI c)] (gl C S) 0 0 (fun vv mu => vv = none ∧ mu = gl C (rx_u S.1 52 0 (nI 3), S.2)) := by
  refine rx_meth0 (by decide +kernel) rfl (Nat.le_of_ble_eq_true rfl) ?_
  refine rx_aload_n dX11_endow_0 rfl rfl ?_
  refine rx_iload_n dX11_endow_1 rfl ?_
  refine rx_i2l dX11_endow_2 ?_
  refine rx_tl (y := lN x) (nI_l (by omega)) ?_
  refine rx_invS0 (as := [.long _]) hG okX11_isAccount lk_RX11_181 dX11_endow_3 rfl (by simp [Value.category]) (cm_isAccountT hG (lN_isacct hx)) ?_
  rintro _ _ ⟨rfl, rfl⟩
  refine rx_if_eq (tgt := 24) dX11_endow_6 (by decide) (fun h6 => (absurd h6 (by decide))) (fun h6 => ?_)
  refine rx_iload dX11_endow_9 rfl ?_
  refine rx_iconst (v := -1) dX11_endow_11 rfl ?_
  refine rx_icmp_lt (tgt := 24) dX11_endow_12 (by decide) (fun h12 => (absurd h12 (nI_nlm1 (by omega)))) (fun h12 => ?_)
  refine rx_iload dX11_endow_15 rfl ?_
  refine rx_aload_n dX11_endow_17 rfl rfl ?_
  refine gmv_getI (v := nI cn) hG hf_RX11_172 rfl dX11_endow_18 rfl rfl rfl h3 ?_
  refine rx_icmp_lt (tgt := 28) dX11_endow_21 (by decide) (fun h21 => ?_) (fun h21 => (absurd (by rw [nI_ltI (by omega) (by omega)]; omega) h21)) 
  refine rx_lload_n dX11_endow_28 rfl ?_
  refine rx_lconst (v := 0) dX11_endow_29 rfl ?_
  refine rx_lc_lt (tgt := 42) dX11_endow_30 dX11_endow_31 (by decide) (fun h30 => (absurd (Or.inl h30) hbl)) (fun h30 => ?_)
  refine rx_lload_n dX11_endow_34 rfl ?_
  refine rx_ldc2 hG hw_887 dX11_endow_35 ?_
  refine rx_lc_le (tgt := 46) dX11_endow_38 dX11_endow_39 (by decide) (fun h38 => ?_) (fun h38 => (absurd (Or.inr (Int64.not_le.mp h38)) hbl)) 
  refine rx_aload_n dX11_endow_46 rfl rfl ?_
  refine gmv_getI (v := nI nb) hG hf_RX11_156 rfl dX11_endow_47 rfl rfl rfl h15 ?_
  refine rx_iconst (v := nI 1) dX11_endow_50 rfl ?_
  refine rx_icmp_le (tgt := 58) dX11_endow_51 (by decide) (fun h51 => (absurd h51 (by rw [nI_leI (by omega) (by omega)]; omega))) (fun h51 => ?_)
  refine rx_iconst (v := nI 3) dX11_endow_54 rfl ?_
  refine rx_goto (tgt := 59) dX11_endow_55 (by decide) ?_
  refine gm_putI hG hf_RX11_160 (gw_nf rfl rfl) rfl dX11_endow_59 rfl rfl rfl rfl rfl ?_
  refine rx_aload_n dX11_endow_62 rfl rfl ?_
  refine gmv_getI (v := nI 3) hG hf_RX11_160 rfl dX11_endow_63 rfl rfl rfl (by simp [rx_ru]) ?_
  refine rx_if_ne (tgt := 95) dX11_endow_66 (by decide) (fun h66 => ?_) (fun h66 => (absurd h66 (by decide))) 
  exact rx_vret rfl dX11_endow_95 ⟨rfl, rfl⟩
theorem mf_endow_k {G : rx_E} {d : Nat} {C : rx_M} {S : gs_T} (hG : rx_OK G)  {cn : Nat} (h3 : S.1 52 3 = nI cn) (hcn : cn ≤ 16) {c : Nat} (hc : c < cn) {nb : Nat} (h15 : S.1 52 15 = nI nb) (hnb : nb ≤ 40) {x : Nat} {bl : Int64} (hx : x < 32) (hbl : ¬ (bl < 0 ∨ 17592186044416 < bl)) (h1 : ¬ 1 < nb) : rx_C G MX11_endow (d + 1) [.ref 52, .int (nI x), .long bl, .int (nI c)] (gl C S) 0 0 (fun vv mu => vv = none ∧ mu = gl C (rx_u S.1 52 0 (nI 0), rx_u (rx_u S.2 71 (19 * x) bl) 71 (19 * x + 2) (lN (c + 1)))) := by
  refine rx_meth0 (by decide +kernel) rfl (Nat.le_of_ble_eq_true rfl) ?_
  refine rx_aload_n dX11_endow_0 rfl rfl ?_
  refine rx_iload_n dX11_endow_1 rfl ?_
  refine rx_i2l dX11_endow_2 ?_
  refine rx_tl (y := lN x) (nI_l (by omega)) ?_
  refine rx_invS0 (as := [.long _]) hG okX11_isAccount lk_RX11_181 dX11_endow_3 rfl (by simp [Value.category]) (cm_isAccountT hG (lN_isacct hx)) ?_
  rintro _ _ ⟨rfl, rfl⟩
  refine rx_if_eq (tgt := 24) dX11_endow_6 (by decide) (fun h6 => (absurd h6 (by decide))) (fun h6 => ?_)
  refine rx_iload dX11_endow_9 rfl ?_
  refine rx_iconst (v := -1) dX11_endow_11 rfl ?_
  refine rx_icmp_lt (tgt := 24) dX11_endow_12 (by decide) (fun h12 => (absurd h12 (nI_nlm1 (by omega)))) (fun h12 => ?_)
  refine rx_iload dX11_endow_15 rfl ?_
  refine rx_aload_n dX11_endow_17 rfl rfl ?_
  refine gmv_getI (v := nI cn) hG hf_RX11_172 rfl dX11_endow_18 rfl rfl rfl h3 ?_
  refine rx_icmp_lt (tgt := 28) dX11_endow_21 (by decide) (fun h21 => ?_) (fun h21 => (absurd (by rw [nI_ltI (by omega) (by omega)]; omega) h21)) 
  refine rx_lload_n dX11_endow_28 rfl ?_
  refine rx_lconst (v := 0) dX11_endow_29 rfl ?_
  refine rx_lc_lt (tgt := 42) dX11_endow_30 dX11_endow_31 (by decide) (fun h30 => (absurd (Or.inl h30) hbl)) (fun h30 => ?_)
  refine rx_lload_n dX11_endow_34 rfl ?_
  refine rx_ldc2 hG hw_887 dX11_endow_35 ?_
  refine rx_lc_le (tgt := 46) dX11_endow_38 dX11_endow_39 (by decide) (fun h38 => ?_) (fun h38 => (absurd (Or.inr (Int64.not_le.mp h38)) hbl)) 
  refine rx_aload_n dX11_endow_46 rfl rfl ?_
  refine gmv_getI (v := nI nb) hG hf_RX11_156 rfl dX11_endow_47 rfl rfl rfl h15 ?_
  refine rx_iconst (v := nI 1) dX11_endow_50 rfl ?_
  refine rx_icmp_le (tgt := 58) dX11_endow_51 (by decide) (fun h51 => ?_) (fun h51 => (absurd (by rw [nI_leI (by omega) (by omega)]; omega) h51)) 
  refine rx_iconst (v := nI 0) dX11_endow_58 rfl ?_
  refine gm_putI hG hf_RX11_160 (gw_nf rfl rfl) rfl dX11_endow_59 rfl rfl rfl rfl rfl ?_
  refine rx_aload_n dX11_endow_62 rfl rfl ?_
  refine gmv_getI (v := nI 0) hG hf_RX11_160 rfl dX11_endow_63 rfl rfl rfl (by simp [rx_ru]) ?_
  refine rx_if_ne (tgt := 95) dX11_endow_66 (by decide) (fun h66 => (absurd h66 (by decide))) (fun h66 => ?_)
  refine rx_aload_n dX11_endow_69 rfl rfl ?_
  refine g_getR hG hf_RX11_66 rfl dX11_endow_70 rfl rfl rfl ?_
  refine rx_bipush (v := nI 19) dX11_endow_73 rfl ?_
  refine rx_iload_n dX11_endow_75 rfl ?_
  refine rx_imul dX11_endow_76 ?_
  refine rx_ti (y := nI (19 * x)) ((pk_mul _ _).trans (congrArg nI (by omega))) ?_
  refine rx_lload_n dX11_endow_77 rfl ?_
  refine gm_last (j := 19 * x) hG dX11_endow_78 rfl rfl rfl rfl (by omega) (by decide) ?_
  refine rx_aload_n dX11_endow_79 rfl rfl ?_
  refine g_getR hG hf_RX11_66 rfl dX11_endow_80 rfl rfl rfl ?_
  refine rx_bipush (v := nI 19) dX11_endow_83 rfl ?_
  refine rx_iload_n dX11_endow_85 rfl ?_
  refine rx_imul dX11_endow_86 ?_
  refine rx_ti (y := nI (19 * x)) ((pk_mul _ _).trans (congrArg nI (by omega))) ?_
  refine rx_iconst (v := nI 2) dX11_endow_87 rfl ?_
  refine rx_iadd dX11_endow_88 ?_
  refine rx_ti (y := nI (19 * x + 2)) ((nI_add _ _).trans (congrArg nI (by omega))) ?_
  refine rx_iload dX11_endow_89 rfl ?_
  refine rx_iconst (v := nI 1) dX11_endow_91 rfl ?_
  refine rx_iadd dX11_endow_92 ?_
  refine rx_ti (y := nI (c + 1)) ((nI_add _ _).trans (congrArg nI (by omega))) ?_
  refine rx_i2l dX11_endow_93 ?_
  refine rx_tl (y := lN (c + 1)) (nI_l (by omega)) ?_
  refine gm_last (j := 19 * x + 2) hG dX11_endow_94 rfl rfl rfl rfl (by omega) (by decide) ?_
  exact rx_vret rfl dX11_endow_95 ⟨rfl, rfl⟩
def w_endow (w : wW) (x : Nat) (bl cp : Int64) : wW := (w.1, w.2.1, (w.2.2.1.1, fun b => if b = 0 then ((w.2.2.1.2 0).1, up1 (up1 (w.2.2.1.2 0).2.1 (19 * x) bl) (19 * x + 2) cp, (w.2.2.1.2 0).2.2) else w.2.2.1.2 b), w.2.2.2)
theorem rcw_endow {A : wP} {C : rx_M} {w : wW} {x : Nat} {bl cp : Int64} (h : rcw A C w) (h1 : ¬ 1 < w.2.2.1.1) (hE : (w.2.2.1.2 0).1.2.2.2 ≤ 60) : rcw A (C.1, rx_u (rx_u C.2.1 (A.2.2 0).2.1 (32 * x) bl) (A.2.2 0).2.1 (32 * x + 2) cp, C.2.2) (w_endow w x bl cp) := by
  have h46 : (A.2.2 0).2.1 = 46 := h.2.2.2.1.2.2.2.1
  rw [h46]
  have hg := agE_L2 (C := C) (u := 46) (j := 32 * x) (j' := 32 * x + 2) (y := bl) (y' := cp)
  refine ⟨cD_agE h.1 hg (by decide) (by decide), cK_agE h.2.1 hg (by decide) (by decide) (fun a ha => by show ¬ a = 46; omega) (fun a _ => noF a), cO_agE h.2.2.1 hg (by decide) (by decide) (fun a ha => by show ¬ a = 46; omega), ⟨h.2.2.2.1.1, fun b hb => ?_, h.2.2.2.1.2.2.1, h.2.2.2.1.2.2.2.1, cT_agE h.2.2.2.1.2.2.2.2 hg (by decide)⟩, cV_agE h.2.2.2.2.1 hg (by decide) (by decide), cS_agE h.2.2.2.2.2.1 hg (by decide), cN_agE h.2.2.2.2.2.2 hg (by decide)⟩
  have hb' : b < w.2.2.1.1 := hb
  have hb0 : b = 0 := by omega
  subst hb0
  have hb0 := h.2.2.2.1.2.1 0 hb'
  refine ⟨hb0.1, ?_⟩
  show cB1 _ (A.2.2 0) ((w.2.2.1.2 0).1, up1 (up1 (w.2.2.1.2 0).2.1 (19 * x) bl) (19 * x + 2) cp, (w.2.2.1.2 0).2.2)
  obtain ⟨c1, c2, ⟨c3, c4⟩, ⟨⟨c5, c5a, c5b⟩, c6⟩, ⟨⟨c7, c7a, c7b⟩, c8⟩⟩ := hb0.2
  have n5 : (A.2.2 0).2.2.1 ≠ 46 := fun q => by
    have := c5.2
    rw [q] at this
    have h3 : (14, 1024) = (14, 3 * (w.2.2.1.2 0).1.2.2.1) := this
    have := congrArg Prod.snd h3
    have h4 : 1024 = 3 * (w.2.2.1.2 0).1.2.2.1 := this
    omega
  have n7 : ∀ i, i < (w.2.2.1.2 0).1.2.2.2 → (A.2.2 0).2.2.2 ≠ 46 := fun i hi q => by
    have := c7.2
    rw [q] at this
    have h3 : (14, 1024) = (14, 4 * (w.2.2.1.2 0).1.2.2.2) := this
    have := congrArg Prod.snd h3
    have h4 : 1024 = 4 * (w.2.2.1.2 0).1.2.2.2 := this
    have h5 := hE
    omega
  refine ⟨c1, c2, ⟨c3, fun k hk => ?_⟩, ⟨⟨c5, c5a, c5b⟩, fun i hi => ?_⟩, ⟨⟨c7, c7a, c7b⟩, fun i hi => ?_⟩⟩
  · rw [h46] at c4 ⊢
    show rx_u (rx_u C.2.1 46 (32 * x) bl) 46 (32 * x + 2) cp 46 k = lf (up1 (up1 (w.2.2.1.2 0).2.1 (19 * x) bl) (19 * x + 2) cp) k
    rw [lf_up0 (i := 2) (by decide), lf_u0, rx_ru, if_pos rfl, rx_ru, if_pos rfl]
    split
    · rfl
    · split
      · rfl
      · exact c4 k hk
  · show rx_u (rx_u C.2.1 46 (32 * x) bl) 46 (32 * x + 2) cp (A.2.2 0).2.2.1 _ = _ ∧ rx_u (rx_u C.2.1 46 (32 * x) bl) 46 (32 * x + 2) cp (A.2.2 0).2.2.1 _ = _ ∧ rx_u (rx_u C.2.1 46 (32 * x) bl) 46 (32 * x + 2) cp (A.2.2 0).2.2.1 _ = _
    rw [rx_une _ n5, rx_une _ n5]; exact c6 i hi
  · have n7 := n7 i hi
    show rx_u (rx_u C.2.1 46 (32 * x) bl) 46 (32 * x + 2) cp (A.2.2 0).2.2.2 _ = _ ∧ rx_u (rx_u C.2.1 46 (32 * x) bl) 46 (32 * x + 2) cp (A.2.2 0).2.2.2 _ = _ ∧ rx_u (rx_u C.2.1 46 (32 * x) bl) 46 (32 * x + 2) cp (A.2.2 0).2.2.2 _ = _ ∧ rx_u (rx_u C.2.1 46 (32 * x) bl) 46 (32 * x + 2) cp (A.2.2 0).2.2.2 _ = _
    rw [rx_une _ n7, rx_une _ n7]; exact c8 i hi
theorem rmw_endow {S : gs_T} {w : wW} {x : Nat} {bl cp : Int64} {y : Int32} (h : rmw S w) (hx : x < 32) (h1 : ¬ 1 < w.2.2.1.1) : rmw (rx_u S.1 52 0 y, rx_u (rx_u S.2 71 (19 * x) bl) 71 (19 * x + 2) cp) (w_endow w x bl cp) := by
  have hg := maE_L2 (S := S) (u := 71) (j := 19 * x) (j' := 19 * x + 2) (x := y) (y := bl) (y' := cp)
  have e : ∀ a, a ≠ 71 → 53 ≤ a → a < 82 → a ≠ 56 → (rx_u S.1 52 0 y) a = S.1 a ∧ (rx_u (rx_u S.2 71 (19 * x) bl) 71 (19 * x + 2) cp) a = S.2 a := hg.1
  refine ⟨mD_agE h.1 hg (by decide) (noF 5), mK_agE h.2.1 hg (by decide) (by decide) (noF 3), mO_agE h.2.2.1 hg (fun a _ _ => by show ¬ a = 71; omega) (noF 7), ⟨(hg.2 15 (noF 15) (by omega)).trans h.2.2.2.1.1, fun b hb => ?_⟩, mV_agE h.2.2.2.2.1 hg (by decide) (by decide), mS_agE h.2.2.2.2.2.1 hg (by decide), mN_agE h.2.2.2.2.2.2 hg (fun k _ _ => noF k)⟩
  have hb' : b < w.2.2.1.1 := hb
  have hb0 : b = 0 := by omega
  subst hb0
  obtain ⟨⟨c1, c2, c3, c4⟩, c5⟩ := h.2.2.2.1.2 0 hb'
  refine ⟨⟨?_, fun k hk => ?_, ?_, ?_⟩, ?_⟩
  · unfold w_endow; simp only [if_pos]
    show rx_u S.1 52 0 y 64 0 = _ ∧ rx_u S.1 52 0 y 65 0 = _ ∧ rx_u S.1 52 0 y 66 0 = _ ∧ rx_u S.1 52 0 y 67 0 = _ ∧ rx_u S.1 52 0 y 68 0 = _ ∧ rx_u S.1 52 0 y 69 0 = _
    rw [(e 64 (by decide) (by decide) (by decide) (by decide)).1, (e 65 (by decide) (by decide) (by decide) (by decide)).1, (e 66 (by decide) (by decide) (by decide) (by decide)).1, (e 67 (by decide) (by decide) (by decide) (by decide)).1, (e 68 (by decide) (by decide) (by decide) (by decide)).1, (e 69 (by decide) (by decide) (by decide) (by decide)).1]
    exact c1
  · show rx_u (rx_u S.2 71 (19 * x) bl) 71 (19 * x + 2) cp 71 (608 * 0 + k) = up1 (up1 (w.2.2.1.2 0).2.1 (19 * x) bl) (19 * x + 2) cp k
    rw [rx_ru, if_pos rfl, rx_ru, if_pos rfl]
    unfold up1
    rw [show 608 * 0 + k = k by omega]
    split
    · rfl
    · split
      · rfl
      · have := c2 k hk
        rw [show 608 * 0 + k = k by omega] at this
        exact this
  · intro i hi
    show rx_u S.1 52 0 y 72 _ = _ ∧ rx_u S.1 52 0 y 73 _ = _ ∧ rx_u (rx_u S.2 71 (19 * x) bl) 71 (19 * x + 2) cp 74 _ = _
    rw [(e 72 (by decide) (by decide) (by decide) (by decide)).1, (e 73 (by decide) (by decide) (by decide) (by decide)).1, (e 74 (by decide) (by decide) (by decide) (by decide)).2]
    exact c3 i hi
  · intro i hi
    show rx_u S.1 52 0 y 75 _ = _ ∧ rx_u (rx_u S.2 71 (19 * x) bl) 71 (19 * x + 2) cp 76 _ = _ ∧ rx_u (rx_u S.2 71 (19 * x) bl) 71 (19 * x + 2) cp 77 _ = _ ∧ rx_u S.1 52 0 y 78 _ = _
    rw [(e 75 (by decide) (by decide) (by decide) (by decide)).1, (e 76 (by decide) (by decide) (by decide) (by decide)).2, (e 77 (by decide) (by decide) (by decide) (by decide)).2, (e 78 (by decide) (by decide) (by decide) (by decide)).1]
    exact c4 i hi
  · show rx_u S.1 52 0 y 70 0 = _
    rw [(e 70 (by decide) (by decide) (by decide) (by decide)).1]
    exact c5.trans rfl
theorem vW_endow {w : wW} {n x c : Nat} {bl : Int64} (h : vW w n) (h1 : ¬ 1 < w.2.2.1.1) (hx : x < 32) (hc : c ≤ w.1.2.2) : vW (w_endow w x bl (lN c)) n := by
  obtain ⟨v1, v2, v3, ⟨v4, v5, v6⟩, v7⟩ := h
  refine ⟨v1, v2, v3, ⟨v4, fun b hb => ?_, fun q => v6 q⟩, v7⟩
  have hb' : b < w.2.2.1.1 := hb
  have hb0 : b = 0 := by omega
  subst hb0
  obtain ⟨c1, c2, c3⟩ := v5 0 hb'
  refine ⟨c1, fun a ha => ?_, c3⟩
  show ∃ c', c' ≤ w.1.2.2 ∧ up1 (up1 (w.2.2.1.2 0).2.1 (19 * x) bl) (19 * x + 2) (lN c) (19 * a + 2) = lN c'
  by_cases e : a = x
  · exact ⟨c, hc, by unfold up1; rw [if_pos (by omega)]⟩
  · obtain ⟨c', h2, h3⟩ := c2 a ha
    exact ⟨c', h2, by unfold up1; rw [if_neg (by omega), if_neg (by omega)]; exact h3⟩
theorem F_endow {G : rx_E} {d n : Nat} {w : wW} (hG : rx_OK G) (hN : rx_NC G) (hv : vW w n) (hn : n ≤ 512) (x : Int32) (y : Int64) (z : Int32) : fPV n w (fun C S Q => rx_H G ML_endow hL_endow (d + 9) [.ref 0, .int x, .long y, .int z] (gl C S) 8 2000 Q) (fun C S Q => rx_C G MX11_endow (d + 9) [.ref 52, .int x, .long y, .int z] (gl C S) 0 0 Q) := by
  have hnb := hv.2.2.2.1.1.2
  have hE : (w.2.2.1.2 0).1.2.2.2 ≤ 60 := (hv.2.2.2.1.2.1 0 hv.2.2.2.1.1.1).1.2.2.1
  have hcn := hv.2.1.1
  rcases wi_ix x (N := 32) (by decide) with hx | ⟨i, hi, rfl⟩
  · exact ⟨1, w, by decide, vW_up hv (Nat.le_succ n), fun A C S hC => rx_Hm (HL_endow_x hG hN (cf_endow_a hG hx)) (hRV_x hC), fun C S hS => rx_Cm (mf_endow_a hG hx) (mRV_t hS)⟩
  by_cases hm : z = -1
  · subst hm
    by_cases hbl : y < 0 ∨ 17592186044416 < y
    · exact ⟨2, w, by decide, vW_up hv (Nat.le_succ n), fun A C S hC => rx_Hm (HL_endow_a hG hN (cf_endow_bm hG hi hbl)) (hRV_x hC), fun C S hS => rx_Cm (mf_endow_bm hG (hS.2.1.2) hv.2.1.1 hi hbl) (mRV_t hS)⟩
    by_cases h1 : 1 < w.2.2.1.1
    · exact ⟨3, w, by decide, vW_up hv (Nat.le_succ n), fun A C S hC => rx_Hm (HL_endow_s hG hN (cf_endow_sm hG (rcw_b hC) hnb hi hbl h1)) (hRV_x hC), fun C S hS => rx_Cm (mf_endow_sm hG (hS.2.1.2) hv.2.1.1 (rmw_b hS) hnb hi hbl h1) (mRV_t hS)⟩
    refine ⟨0, w_endow w i y (lN 0), by decide, vW_endow (vW_up hv (Nat.le_succ n)) h1 hi (Nat.zero_le _), fun A C S hC => rx_Hm (HL_endow hG (cf_endow_m hG (rcw_b hC) hnb (hC.2.2.2.1.2.1 0 hv.2.2.2.1.1.1).1 (hC.2.2.2.1.2.1 0 hv.2.2.2.1.1.1).2 hi hbl h1)) (hRV_v (rcw_endow hC h1 hE)), fun C S hS => rx_Cm (mf_endow_m hG (hS.2.1.2) hv.2.1.1 (rmw_b hS) hnb hi hbl h1) ?_⟩
    rintro _ _ ⟨rfl, rfl⟩
    exact ⟨_, rfl, rfl, rmw_endow hS hi h1, by simp [rx_ru]⟩
  rcases wi_ix z (show w.1.2.2 < 2 ^ 31 by omega) with hz | ⟨c, hc, rfl⟩
  · exact ⟨1, w, by decide, vW_up hv (Nat.le_succ n), fun A C S hC => rx_Hm (HL_endow_x hG hN (cf_endow_c hG (hC.2.1.2) hv.2.1.1 hi hz hm)) (hRV_x hC), fun C S hS => rx_Cm (mf_endow_c hG (hS.2.1.2) hv.2.1.1 hi hz hm) (mRV_t hS)⟩
  by_cases hbl : y < 0 ∨ 17592186044416 < y
  · exact ⟨2, w, by decide, vW_up hv (Nat.le_succ n), fun A C S hC => rx_Hm (HL_endow_a hG hN (cf_endow_bk hG (hC.2.1.2) hv.2.1.1 hc hi hbl)) (hRV_x hC), fun C S hS => rx_Cm (mf_endow_bk hG (hS.2.1.2) hv.2.1.1 hc hi hbl) (mRV_t hS)⟩
  by_cases h1 : 1 < w.2.2.1.1
  · exact ⟨3, w, by decide, vW_up hv (Nat.le_succ n), fun A C S hC => rx_Hm (HL_endow_s hG hN (cf_endow_sk hG (hC.2.1.2) hv.2.1.1 hc (rcw_b hC) hnb hi hbl h1)) (hRV_x hC), fun C S hS => rx_Cm (mf_endow_sk hG (hS.2.1.2) hv.2.1.1 hc (rmw_b hS) hnb hi hbl h1) (mRV_t hS)⟩
  refine ⟨0, w_endow w i y (lN (c + 1)), by decide, vW_endow (vW_up hv (Nat.le_succ n)) h1 hi hc, fun A C S hC => rx_Hm (HL_endow hG (cf_endow_k hG (hC.2.1.2) hv.2.1.1 hc (rcw_b hC) hnb (hC.2.2.2.1.2.1 0 hv.2.2.2.1.1.1).1 (hC.2.2.2.1.2.1 0 hv.2.2.2.1.1.1).2 hi hbl h1)) (hRV_v (rcw_endow hC h1 hE)), fun C S hS => rx_Cm (mf_endow_k hG (hS.2.1.2) hv.2.1.1 hc (rmw_b hS) hnb hi hbl h1) ?_⟩
  rintro _ _ ⟨rfl, rfl⟩
  exact ⟨_, rfl, rfl, rmw_endow hS hi h1, by simp [rx_ru]⟩

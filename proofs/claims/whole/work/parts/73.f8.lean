theorem cf_vote_v {G : rx_E} {d : Nat} {C : rx_M} {S : gs_T} (hG : rx_OK G) {x y : Int32} (hx : wi_out x 7) : rx_X G MX10_vote (d + 8) [.ref 0, .int x, .int y] (gl C S) 8 2000 (fun _ _ => False) (zq C S "java/lang/IndexOutOfBoundsException") := by
  refine rx_meth (by decide +kernel) rfl (Nat.le_of_ble_eq_true rfl) ?_
  refine rx_iload_n dX10_vote_0 rfl ?_
  refine rx_i2l dX10_vote_1 ?_
  refine rx_bipush (v := nI 7) dX10_vote_2 rfl ?_
  refine rx_invS0 (as := [.long _, .int _]) hG okX10_isWithin lk_RX10_127 dX10_vote_4 rfl (by simp [Value.category]) (cw_out hG hx (by omega)) ?_
  rintro _ _ ⟨rfl, rfl⟩
  refine rx_if_eq (tgt := 22) dX10_vote_7 (by decide) (fun h7 => ?_) (fun h7 => (absurd h7 (by decide))) 
  exact gx_throw hG rfl rfl th_x hw_879 dX10_vote_22 dX10_vote_25 dX10_vote_26 dX10_vote_28 dX10_vote_31
theorem cf_vote_b {G : rx_E} {d : Nat} {C : rx_M} {S : gs_T} (hG : rx_OK G) {nb : Nat} (h05 : C.1 0 5 = nI nb) (hnb : nb ≤ 40) {v : Nat} {y : Int32} (hv : v < 7) (hy : wi_out y nb) : rx_X G MX10_vote (d + 8) [.ref 0, .int (nI v), .int y] (gl C S) 8 2000 (fun _ _ => False) (zq C S "java/lang/IndexOutOfBoundsException") := by
  refine rx_meth (by decide +kernel) rfl (Nat.le_of_ble_eq_true rfl) ?_
  refine rx_iload_n dX10_vote_0 rfl ?_
  refine rx_i2l dX10_vote_1 ?_
  refine rx_tl (y := lN v) (nI_l (by omega)) ?_
  refine rx_bipush (v := nI 7) dX10_vote_2 rfl ?_
  refine rx_invS0 (as := [.long _, .int _]) hG okX10_isWithin lk_RX10_127 dX10_vote_4 rfl (by simp [Value.category]) (cw_in hG hv (by omega)) ?_
  rintro _ _ ⟨rfl, rfl⟩
  refine rx_if_eq (tgt := 22) dX10_vote_7 (by decide) (fun h7 => (absurd h7 (by decide))) (fun h7 => ?_)
  refine rx_aload_n dX10_vote_10 rfl rfl ?_
  refine rx_iload_n dX10_vote_11 rfl ?_
  refine gv_invV (as := [.int _]) hG okX10_isBlock lk_RX10_150 rfl rfl dX10_vote_12 rfl (by simp [Value.category]) (cf_isBlockO hG h05 hnb hy) ?_
  rintro _ _ ⟨rfl, rfl⟩
  refine rx_if_eq (tgt := 22) dX10_vote_15 (by decide) (fun h15 => ?_) (fun h15 => (absurd h15 (by decide))) 
  exact gx_throw hG rfl rfl th_x hw_879 dX10_vote_22 dX10_vote_25 dX10_vote_26 dX10_vote_28 dX10_vote_31
theorem cf_vote_0 {G : rx_E} {d : Nat} {C : rx_M} {S : gs_T} (hG : rx_OK G) {nb : Nat} (h05 : C.1 0 5 = nI nb) (hnb : nb ≤ 40) {v : Nat} (hv : v < 7) (hb : 0 < nb) : rx_X G MX10_vote (d + 8) [.ref 0, .int (nI v), .int (nI 0)] (gl C S) 8 2000 (fun _ _ => False) (zq C S "java/lang/IndexOutOfBoundsException") := by
  refine rx_meth (by decide +kernel) rfl (Nat.le_of_ble_eq_true rfl) ?_
  refine rx_iload_n dX10_vote_0 rfl ?_
  refine rx_i2l dX10_vote_1 ?_
  refine rx_tl (y := lN v) (nI_l (by omega)) ?_
  refine rx_bipush (v := nI 7) dX10_vote_2 rfl ?_
  refine rx_invS0 (as := [.long _, .int _]) hG okX10_isWithin lk_RX10_127 dX10_vote_4 rfl (by simp [Value.category]) (cw_in hG hv (by omega)) ?_
  rintro _ _ ⟨rfl, rfl⟩
  refine rx_if_eq (tgt := 22) dX10_vote_7 (by decide) (fun h7 => (absurd h7 (by decide))) (fun h7 => ?_)
  refine rx_aload_n dX10_vote_10 rfl rfl ?_
  refine rx_iload_n dX10_vote_11 rfl ?_
  refine gv_invV (as := [.int _]) hG okX10_isBlock lk_RX10_150 rfl rfl dX10_vote_12 rfl (by simp [Value.category]) (cf_isBlock (b := 0) hG h05 hnb hb) ?_
  rintro _ _ ⟨rfl, rfl⟩
  refine rx_if_eq (tgt := 22) dX10_vote_15 (by decide) (fun h15 => (absurd h15 (by decide))) (fun h15 => ?_)
  refine rx_iload_n dX10_vote_18 rfl ?_
  refine rx_if_ne (tgt := 32) dX10_vote_19 (by decide) (fun h19 => (absurd h19 (by decide))) (fun h19 => ?_)
  exact gx_throw hG rfl rfl th_x hw_879 dX10_vote_22 dX10_vote_25 dX10_vote_26 dX10_vote_28 dX10_vote_31
theorem cf_vote_n1 {G : rx_E} {d : Nat} {C : rx_M} {S : gs_T} {A : wP} {w : wW} {n v b p h wt vo : Nat} {a : wA} (hG : rx_OK G) (hC : rcw A C w) (hv : vW w n) (hn : n ≤ 512) (hv7 : v < 7) (hb : b < w.2.2.1.1) (h1b : 0 < b) (hBa : A.2.2 b = a) (hp : (w.2.2.1.2 b).1.1 = nI p) (hpb : p < w.2.2.1.1) (hh : (w.2.2.1.2 b).1.2.1 = h) (hh40 : h < 40) (hwt : w.2.2.2.1.1 v = wt) (hvo : (w.2.2.1.2 b).2.2.2.2.2 = vo) (hb1 : w.2.2.2.1.2 v &&& hbit h ≠ 0) : rx_X G MX10_vote (d + 8) [.ref 0, .int (nI v), .int (nI b)] (gl C S) 8 2000 (fun v mu => v = some (.int (-1)) ∧ ∃ C', mu = gl C' S ∧ C' = C) (fun _ _ => False) := by
  have hnb := hv.2.2.2.1.1.2
  have hr : C.2.2.1 44 b = some a.1 := hBa ▸ (hC.2.2.2.1.2.1 b hb).1
  have hB : cB1 C a (w.2.2.1.2 b) := hBa ▸ (hC.2.2.2.1.2.1 b hb).2
  have hwl : wt ≤ 1000 := hwt ▸ hv.2.2.2.2 v hv7
  have hvl : vo ≤ 600000 := by have := (hv.2.2.2.1.2.1 b hb).1.2.2.2.2; omega
  refine rx_meth (by decide +kernel) rfl (Nat.le_of_ble_eq_true rfl) ?_
  refine rx_iload_n dX10_vote_0 rfl ?_
  refine rx_i2l dX10_vote_1 ?_
  refine rx_tl (y := lN v) (nI_l (by omega)) ?_
  refine rx_bipush (v := nI 7) dX10_vote_2 rfl ?_
  refine rx_invS0 (as := [.long _, .int _]) hG okX10_isWithin lk_RX10_127 dX10_vote_4 rfl (by simp [Value.category]) (cw_in hG hv7 (by omega)) ?_
  rintro _ _ ⟨rfl, rfl⟩
  refine rx_if_eq (tgt := 22) dX10_vote_7 (by decide) (fun h7 => (absurd h7 (by decide))) (fun h7 => ?_)
  refine rx_aload_n dX10_vote_10 rfl rfl ?_
  refine rx_iload_n dX10_vote_11 rfl ?_
  refine gv_invV (as := [.int _]) hG okX10_isBlock lk_RX10_150 rfl rfl dX10_vote_12 rfl (by simp [Value.category]) (cf_isBlock hG (rcw_b hC) hnb hb) ?_
  rintro _ _ ⟨rfl, rfl⟩
  refine rx_if_eq (tgt := 22) dX10_vote_15 (by decide) (fun h15 => (absurd h15 (by decide))) (fun h15 => ?_)
  refine rx_iload_n dX10_vote_18 rfl ?_
  refine rx_if_ne (tgt := 32) dX10_vote_19 (by decide) (fun h19 => ?_) (fun h19 => (absurd h19 (nI_ne0 h1b (by omega)))) 
  refine rx_aload_n dX10_vote_32 rfl rfl ?_
  refine g_getR hG hf_RX10_31 rfl dX10_vote_33 rfl rfl rfl ?_
  refine rx_iload_n dX10_vote_36 rfl ?_
  refine gd_aald hG dX10_vote_37 rfl rfl (by decide) rfl (show b < 40 by omega) (by decide) (gk44 (by omega)) hr ?_
  refine rx_astore_n dX10_vote_38 (by decide) rfl ?_
  refine rx_lconst (v := 1) dX10_vote_39 rfl ?_
  refine rx_aload_n dX10_vote_40 rfl rfl ?_
  refine gy_getI (v := nI h) hG hf_RX10_157 rfl dX10_vote_41 hB.1.1 (hh ▸ hB.2.1.2.1) ?_
  refine rx_lshl dX10_vote_44 ?_
  refine rx_tl (y := hbit h) (by rw [nI_l (by omega)]; rfl) ?_
  refine rx_lstore dX10_vote_45 (by decide) ?_
  refine rx_aload_n dX10_vote_47 rfl rfl ?_
  refine g_getR hG hf_RX10_52 rfl dX10_vote_48 rfl rfl rfl ?_
  refine rx_iload_n dX10_vote_51 rfl ?_
  refine gcv_lald (j := v) (v := w.2.2.2.1.2 v) hG dX10_vote_52 rfl rfl rfl rfl (by omega) (by decide) (hC.2.2.2.2.1 v hv7).2 ?_
  refine rx_lload dX10_vote_53 rfl ?_
  refine rx_land dX10_vote_55 ?_
  refine rx_lconst (v := 0) dX10_vote_56 rfl ?_
  refine rx_lc_ne (tgt := 72) dX10_vote_57 dX10_vote_58 (by decide) (fun h57 => ?_) (fun h57 => (absurd h57 hb1)) 
  refine rx_iconst (v := -1) dX10_vote_72 rfl ?_
  exact rx_iret rfl dX10_vote_73 ⟨rfl, C, rfl, rfl⟩
theorem cf_vote_n2 {G : rx_E} {d : Nat} {C : rx_M} {S : gs_T} {A : wP} {w : wW} {n v b p h wt vo : Nat} {a : wA} (hG : rx_OK G) (hC : rcw A C w) (hv : vW w n) (hn : n ≤ 512) (hv7 : v < 7) (hb : b < w.2.2.1.1) (h1b : 0 < b) (hBa : A.2.2 b = a) (hp : (w.2.2.1.2 b).1.1 = nI p) (hpb : p < w.2.2.1.1) (hh : (w.2.2.1.2 b).1.2.1 = h) (hh40 : h < 40) (hwt : w.2.2.2.1.1 v = wt) (hvo : (w.2.2.1.2 b).2.2.2.2.2 = vo) (hb0 : w.2.2.2.1.2 v &&& hbit h = 0) (hce : bI (w_cert w.2.2.2.1.1 w.2.2.1.2 p) = 0) : rx_X G MX10_vote (d + 8) [.ref 0, .int (nI v), .int (nI b)] (gl C S) 8 2000 (fun v mu => v = some (.int (-1)) ∧ ∃ C', mu = gl C' S ∧ C' = C) (fun _ _ => False) := by
  have hnb := hv.2.2.2.1.1.2
  have hr : C.2.2.1 44 b = some a.1 := hBa ▸ (hC.2.2.2.1.2.1 b hb).1
  have hB : cB1 C a (w.2.2.1.2 b) := hBa ▸ (hC.2.2.2.1.2.1 b hb).2
  have hwl : wt ≤ 1000 := hwt ▸ hv.2.2.2.2 v hv7
  have hvl : vo ≤ 600000 := by have := (hv.2.2.2.1.2.1 b hb).1.2.2.2.2; omega
  refine rx_meth (by decide +kernel) rfl (Nat.le_of_ble_eq_true rfl) ?_
  refine rx_iload_n dX10_vote_0 rfl ?_
  refine rx_i2l dX10_vote_1 ?_
  refine rx_tl (y := lN v) (nI_l (by omega)) ?_
  refine rx_bipush (v := nI 7) dX10_vote_2 rfl ?_
  refine rx_invS0 (as := [.long _, .int _]) hG okX10_isWithin lk_RX10_127 dX10_vote_4 rfl (by simp [Value.category]) (cw_in hG hv7 (by omega)) ?_
  rintro _ _ ⟨rfl, rfl⟩
  refine rx_if_eq (tgt := 22) dX10_vote_7 (by decide) (fun h7 => (absurd h7 (by decide))) (fun h7 => ?_)
  refine rx_aload_n dX10_vote_10 rfl rfl ?_
  refine rx_iload_n dX10_vote_11 rfl ?_
  refine gv_invV (as := [.int _]) hG okX10_isBlock lk_RX10_150 rfl rfl dX10_vote_12 rfl (by simp [Value.category]) (cf_isBlock hG (rcw_b hC) hnb hb) ?_
  rintro _ _ ⟨rfl, rfl⟩
  refine rx_if_eq (tgt := 22) dX10_vote_15 (by decide) (fun h15 => (absurd h15 (by decide))) (fun h15 => ?_)
  refine rx_iload_n dX10_vote_18 rfl ?_
  refine rx_if_ne (tgt := 32) dX10_vote_19 (by decide) (fun h19 => ?_) (fun h19 => (absurd h19 (nI_ne0 h1b (by omega)))) 
  refine rx_aload_n dX10_vote_32 rfl rfl ?_
  refine g_getR hG hf_RX10_31 rfl dX10_vote_33 rfl rfl rfl ?_
  refine rx_iload_n dX10_vote_36 rfl ?_
  refine gd_aald hG dX10_vote_37 rfl rfl (by decide) rfl (show b < 40 by omega) (by decide) (gk44 (by omega)) hr ?_
  refine rx_astore_n dX10_vote_38 (by decide) rfl ?_
  refine rx_lconst (v := 1) dX10_vote_39 rfl ?_
  refine rx_aload_n dX10_vote_40 rfl rfl ?_
  refine gy_getI (v := nI h) hG hf_RX10_157 rfl dX10_vote_41 hB.1.1 (hh ▸ hB.2.1.2.1) ?_
  refine rx_lshl dX10_vote_44 ?_
  refine rx_tl (y := hbit h) (by rw [nI_l (by omega)]; rfl) ?_
  refine rx_lstore dX10_vote_45 (by decide) ?_
  refine rx_aload_n dX10_vote_47 rfl rfl ?_
  refine g_getR hG hf_RX10_52 rfl dX10_vote_48 rfl rfl rfl ?_
  refine rx_iload_n dX10_vote_51 rfl ?_
  refine gcv_lald (j := v) (v := w.2.2.2.1.2 v) hG dX10_vote_52 rfl rfl rfl rfl (by omega) (by decide) (hC.2.2.2.2.1 v hv7).2 ?_
  refine rx_lload dX10_vote_53 rfl ?_
  refine rx_land dX10_vote_55 ?_
  refine rx_lconst (v := 0) dX10_vote_56 rfl ?_
  refine rx_lc_ne (tgt := 72) dX10_vote_57 dX10_vote_58 (by decide) (fun h57 => (absurd hb0 h57)) (fun h57 => ?_)
  refine rx_aload_n dX10_vote_61 rfl rfl ?_
  refine rx_aload_n dX10_vote_62 rfl rfl ?_
  refine gy_getI (v := nI p) hG hf_RX10_189 rfl dX10_vote_63 hB.1.1 (hB.2.1.1.trans hp) ?_
  refine gv_invV (as := [.int _]) hG okX10_isCertain lk_RX10_203 rfl rfl dX10_vote_66 rfl (by simp [Value.category]) (cw_cert hG hC hv (by omega) hpb) ?_
  rintro _ _ ⟨rfl, rfl⟩
  refine rx_if_ne (tgt := 74) dX10_vote_69 (by decide) (fun h69 => (absurd hce h69)) (fun h69 => ?_)
  refine rx_iconst (v := -1) dX10_vote_72 rfl ?_
  exact rx_iret rfl dX10_vote_73 ⟨rfl, C, rfl, rfl⟩
theorem cf_vote {G : rx_E} {d : Nat} {C : rx_M} {S : gs_T} {A : wP} {w : wW} {n v b p h wt vo : Nat} {a : wA} (hG : rx_OK G) (hC : rcw A C w) (hv : vW w n) (hn : n ≤ 512) (hv7 : v < 7) (hb : b < w.2.2.1.1) (h1b : 0 < b) (hBa : A.2.2 b = a) (hp : (w.2.2.1.2 b).1.1 = nI p) (hpb : p < w.2.2.1.1) (hh : (w.2.2.1.2 b).1.2.1 = h) (hh40 : h < 40) (hwt : w.2.2.2.1.1 v = wt) (hvo : (w.2.2.1.2 b).2.2.2.2.2 = vo) (hb0 : w.2.2.2.1.2 v &&& hbit h = 0) (hce : ¬ bI (w_cert w.2.2.2.1.1 w.2.2.1.2 p) = 0) : rx_X G MX10_vote (d + 8) [.ref 0, .int (nI v), .int (nI b)] (gl C S) 8 2000 (fun vv mu => vv = some (.int (bI (w_cert w.2.2.2.1.1 (w_vote w v b).2.2.1.2 b))) ∧ ∃ C', mu = gl C' S ∧ C' = (rx_u C.1 a.1 6 (nI (vo + wt)), rx_u C.2.1 50 v (w.2.2.2.1.2 v ||| hbit h), C.2.2)) (fun _ _ => False) := by
  have hnb := hv.2.2.2.1.1.2
  have hr : C.2.2.1 44 b = some a.1 := hBa ▸ (hC.2.2.2.1.2.1 b hb).1
  have hB : cB1 C a (w.2.2.1.2 b) := hBa ▸ (hC.2.2.2.1.2.1 b hb).2
  have hwl : wt ≤ 1000 := hwt ▸ hv.2.2.2.2 v hv7
  have hvl : vo ≤ 600000 := by have := (hv.2.2.2.1.2.1 b hb).1.2.2.2.2; omega
  have hC' := rcw_vote (v := v) hC hb
  rw [hBa, hvo, hwt, hh] at hC'
  refine rx_meth (by decide +kernel) rfl (Nat.le_of_ble_eq_true rfl) ?_
  refine rx_iload_n dX10_vote_0 rfl ?_
  refine rx_i2l dX10_vote_1 ?_
  refine rx_tl (y := lN v) (nI_l (by omega)) ?_
  refine rx_bipush (v := nI 7) dX10_vote_2 rfl ?_
  refine rx_invS0 (as := [.long _, .int _]) hG okX10_isWithin lk_RX10_127 dX10_vote_4 rfl (by simp [Value.category]) (cw_in hG hv7 (by omega)) ?_
  rintro _ _ ⟨rfl, rfl⟩
  refine rx_if_eq (tgt := 22) dX10_vote_7 (by decide) (fun h7 => (absurd h7 (by decide))) (fun h7 => ?_)
  refine rx_aload_n dX10_vote_10 rfl rfl ?_
  refine rx_iload_n dX10_vote_11 rfl ?_
  refine gv_invV (as := [.int _]) hG okX10_isBlock lk_RX10_150 rfl rfl dX10_vote_12 rfl (by simp [Value.category]) (cf_isBlock hG (rcw_b hC) hnb hb) ?_
  rintro _ _ ⟨rfl, rfl⟩
  refine rx_if_eq (tgt := 22) dX10_vote_15 (by decide) (fun h15 => (absurd h15 (by decide))) (fun h15 => ?_)
  refine rx_iload_n dX10_vote_18 rfl ?_
  refine rx_if_ne (tgt := 32) dX10_vote_19 (by decide) (fun h19 => ?_) (fun h19 => (absurd h19 (nI_ne0 h1b (by omega)))) 
  refine rx_aload_n dX10_vote_32 rfl rfl ?_
  refine g_getR hG hf_RX10_31 rfl dX10_vote_33 rfl rfl rfl ?_
  refine rx_iload_n dX10_vote_36 rfl ?_
  refine gd_aald hG dX10_vote_37 rfl rfl (by decide) rfl (show b < 40 by omega) (by decide) (gk44 (by omega)) hr ?_
  refine rx_astore_n dX10_vote_38 (by decide) rfl ?_
  refine rx_lconst (v := 1) dX10_vote_39 rfl ?_
  refine rx_aload_n dX10_vote_40 rfl rfl ?_
  refine gy_getI (v := nI h) hG hf_RX10_157 rfl dX10_vote_41 hB.1.1 (hh ▸ hB.2.1.2.1) ?_
  refine rx_lshl dX10_vote_44 ?_
  refine rx_tl (y := hbit h) (by rw [nI_l (by omega)]; rfl) ?_
  refine rx_lstore dX10_vote_45 (by decide) ?_
  refine rx_aload_n dX10_vote_47 rfl rfl ?_
  refine g_getR hG hf_RX10_52 rfl dX10_vote_48 rfl rfl rfl ?_
  refine rx_iload_n dX10_vote_51 rfl ?_
  refine gcv_lald (j := v) (v := w.2.2.2.1.2 v) hG dX10_vote_52 rfl rfl rfl rfl (by omega) (by decide) (hC.2.2.2.2.1 v hv7).2 ?_
  refine rx_lload dX10_vote_53 rfl ?_
  refine rx_land dX10_vote_55 ?_
  refine rx_lconst (v := 0) dX10_vote_56 rfl ?_
  refine rx_lc_ne (tgt := 72) dX10_vote_57 dX10_vote_58 (by decide) (fun h57 => (absurd hb0 h57)) (fun h57 => ?_)
  refine rx_aload_n dX10_vote_61 rfl rfl ?_
  refine rx_aload_n dX10_vote_62 rfl rfl ?_
  refine gy_getI (v := nI p) hG hf_RX10_189 rfl dX10_vote_63 hB.1.1 (hB.2.1.1.trans hp) ?_
  refine gv_invV (as := [.int _]) hG okX10_isCertain lk_RX10_203 rfl rfl dX10_vote_66 rfl (by simp [Value.category]) (cw_cert hG hC hv (by omega) hpb) ?_
  rintro _ _ ⟨rfl, rfl⟩
  refine rx_if_ne (tgt := 74) dX10_vote_69 (by decide) (fun h69 => ?_) (fun h69 => (absurd h69 hce)) 
  refine rx_aload_n dX10_vote_74 rfl rfl ?_
  refine g_getR hG hf_RX10_52 rfl dX10_vote_75 rfl rfl rfl ?_
  refine rx_iload_n dX10_vote_78 rfl ?_
  refine rx_dup2 dX10_vote_79 rfl rfl ?_
  refine gcv_lald (j := v) (v := w.2.2.2.1.2 v) hG dX10_vote_80 rfl rfl rfl rfl (by omega) (by decide) (hC.2.2.2.2.1 v hv7).2 ?_
  refine rx_lload dX10_vote_81 rfl ?_
  refine rx_lor dX10_vote_83 ?_
  refine gc_last (j := v) hG dX10_vote_84 rfl rfl rfl rfl (by omega) (by decide) ?_
  refine rx_aload_n dX10_vote_85 rfl rfl ?_
  refine rx_dup dX10_vote_86 rfl ?_
  refine gy_getI (v := nI vo) hG hf_RX10_200 rfl dX10_vote_87 hB.1.1 (hvo ▸ hB.2.1.2.2.2.2.2.2) ?_
  refine rx_aload_n dX10_vote_90 rfl rfl ?_
  refine g_getR hG hf_RX10_42 rfl dX10_vote_91 rfl rfl rfl ?_
  refine rx_iload_n dX10_vote_94 rfl ?_
  refine gcv_iald (j := v) (v := nI wt) hG dX10_vote_95 rfl rfl rfl rfl (by omega) (by decide) (hwt ▸ (hC.2.2.2.2.1 v hv7).1) ?_
  refine rx_iadd dX10_vote_96 ?_
  refine rx_ti (y := nI (vo + wt)) ((nI_add _ _).trans (congrArg nI (by omega))) ?_
  refine gy_putI hG hf_RX10_200 (gw_nf rfl rfl) rfl dX10_vote_97 hB.1.1 rfl rfl ?_
  refine rx_aload_n dX10_vote_100 rfl rfl ?_
  refine rx_iload_n dX10_vote_101 rfl ?_
  refine gv_invV (as := [.int _]) hG okX10_isCertain lk_RX10_203 rfl rfl dX10_vote_102 rfl (by simp [Value.category]) (cw_cert hG hC' (vW_vote hv hv7) (by omega) hb) ?_
  rintro _ _ ⟨rfl, rfl⟩
  refine rx_if_eq (tgt := 112) dX10_vote_105 (by decide) (fun h105 => ?_) (fun h105 => ?_)
  · refine rx_iconst (v := nI 0) dX10_vote_112 rfl ?_
    exact rx_iret rfl dX10_vote_113 ⟨congrArg (fun x => some (Value.int x)) (by show _ = bI (w_cert (w_vote w v b).2.2.2.1.1 (w_vote w v b).2.2.1.2 b); cases hc : w_cert (w_vote w v b).2.2.2.1.1 (w_vote w v b).2.2.1.2 b; (first | rfl | exact absurd (by rw [hc]; rfl) h105); (first | rfl | exact absurd h105 (by rw [hc]; decide))), _, rfl, rfl⟩
  · refine rx_iconst (v := nI 1) dX10_vote_108 rfl ?_
    refine rx_goto (tgt := 113) dX10_vote_109 (by decide) ?_
    exact rx_iret rfl dX10_vote_113 ⟨congrArg (fun x => some (Value.int x)) (by show _ = bI (w_cert (w_vote w v b).2.2.2.1.1 (w_vote w v b).2.2.1.2 b); cases hc : w_cert (w_vote w v b).2.2.2.1.1 (w_vote w v b).2.2.1.2 b; (first | rfl | exact absurd (by rw [hc]; rfl) h105); (first | rfl | exact absurd h105 (by rw [hc]; decide))), _, rfl, rfl⟩
theorem mf_vote_v {G : rx_E} {d : Nat} {C : rx_M} {S : gs_T} (hG : rx_OK G) {x y : Int32} (hx : wi_out x 7) : rx_C G MX11_vote d [.ref 52, .int x, .int y] (gl C S) 0 0 (fun vv mu => vv = some (.int (nI 0)) ∧ mu = gl C (rx_u S.1 52 0 (nI 1), S.2)) := by
  refine rx_meth0 (by decide +kernel) rfl (Nat.le_of_ble_eq_true rfl) ?_
  refine rx_aload_n dX11_vote_0 rfl rfl ?_
  refine rx_iload_n dX11_vote_1 rfl ?_
  refine rx_if_lt (tgt := 28) dX11_vote_2 (by decide) (fun h2 => ?_) (fun h2 => ?_)
  · refine rx_iconst (v := nI 1) dX11_vote_28 rfl ?_
    refine gm_putI hG hf_RX11_160 (gw_nf rfl rfl) rfl dX11_vote_29 rfl rfl rfl rfl rfl ?_
    refine rx_aload_n dX11_vote_32 rfl rfl ?_
    refine gmv_getI (v := nI 1) hG hf_RX11_160 rfl dX11_vote_33 rfl rfl rfl (by simp [rx_ru]) ?_
    refine rx_if_le (tgt := 41) dX11_vote_36 (by decide) (fun h36 => (absurd h36 (by decide))) (fun h36 => ?_)
    refine rx_iconst (v := nI 0) dX11_vote_39 rfl ?_
    exact rx_iret rfl dX11_vote_40 ⟨rfl, rfl⟩
  · refine rx_iload_n dX11_vote_5 rfl ?_
    refine rx_bipush (v := nI 6) dX11_vote_6 rfl ?_
    refine rx_icmp_gt (tgt := 28) dX11_vote_8 (by decide) (fun h8 => ?_) (fun h8 => wi_d2 hx (by decide) (by decide) h2 h8) 
    refine rx_iconst (v := nI 1) dX11_vote_28 rfl ?_
    refine gm_putI hG hf_RX11_160 (gw_nf rfl rfl) rfl dX11_vote_29 rfl rfl rfl rfl rfl ?_
    refine rx_aload_n dX11_vote_32 rfl rfl ?_
    refine gmv_getI (v := nI 1) hG hf_RX11_160 rfl dX11_vote_33 rfl rfl rfl (by simp [rx_ru]) ?_
    refine rx_if_le (tgt := 41) dX11_vote_36 (by decide) (fun h36 => (absurd h36 (by decide))) (fun h36 => ?_)
    refine rx_iconst (v := nI 0) dX11_vote_39 rfl ?_
    exact rx_iret rfl dX11_vote_40 ⟨rfl, rfl⟩
theorem wi_d4 {x : Int32} {N : Nat} {P : Prop} (h : wi_out x N) (h1 : ¬ x < nI 1) (h2 : ¬ nI N ≤ x) : P := by
  rcases h with h | h
  · exfalso
    apply h1
    rw [Int32.lt_iff_toInt_lt] at h ⊢
    have e1 : (0 : Int32).toInt = 0 := by decide
    have e2 : (nI 1).toInt = 1 := by decide
    omega
  · exact absurd h h2
theorem mf_vote_b {G : rx_E} {d : Nat} {C : rx_M} {S : gs_T} (hG : rx_OK G) {nb : Nat} (h15 : S.1 52 15 = nI nb) (hnb : nb ≤ 40) {v : Nat} {y : Int32} (hv : v < 7) (hy : wi_out y nb) : rx_C G MX11_vote d [.ref 52, .int (nI v), .int y] (gl C S) 0 0 (fun vv mu => vv = some (.int (nI 0)) ∧ mu = gl C (rx_u S.1 52 0 (nI 1), S.2)) := by
  refine rx_meth0 (by decide +kernel) rfl (Nat.le_of_ble_eq_true rfl) ?_
  refine rx_aload_n dX11_vote_0 rfl rfl ?_
  refine rx_iload_n dX11_vote_1 rfl ?_
  refine rx_if_lt (tgt := 28) dX11_vote_2 (by decide) (fun h2 => (absurd h2 (nI_pos (by omega)))) (fun h2 => ?_)
  refine rx_iload_n dX11_vote_5 rfl ?_
  refine rx_bipush (v := nI 6) dX11_vote_6 rfl ?_
  refine rx_icmp_gt (tgt := 28) dX11_vote_8 (by decide) (fun h8 => (absurd h8 (by rw [nI_ltI (by omega) (by omega)]; omega))) (fun h8 => ?_)
  refine rx_iload_n dX11_vote_11 rfl ?_
  refine rx_iconst (v := nI 1) dX11_vote_12 rfl ?_
  refine rx_icmp_lt (tgt := 28) dX11_vote_13 (by decide) (fun h13 => ?_) (fun h13 => ?_)
  · refine rx_iconst (v := nI 1) dX11_vote_28 rfl ?_
    refine gm_putI hG hf_RX11_160 (gw_nf rfl rfl) rfl dX11_vote_29 rfl rfl rfl rfl rfl ?_
    refine rx_aload_n dX11_vote_32 rfl rfl ?_
    refine gmv_getI (v := nI 1) hG hf_RX11_160 rfl dX11_vote_33 rfl rfl rfl (by simp [rx_ru]) ?_
    refine rx_if_le (tgt := 41) dX11_vote_36 (by decide) (fun h36 => (absurd h36 (by decide))) (fun h36 => ?_)
    refine rx_iconst (v := nI 0) dX11_vote_39 rfl ?_
    exact rx_iret rfl dX11_vote_40 ⟨rfl, rfl⟩
  · refine rx_iload_n dX11_vote_16 rfl ?_
    refine rx_aload_n dX11_vote_17 rfl rfl ?_
    refine gmv_getI (v := nI nb) hG hf_RX11_156 rfl dX11_vote_18 rfl rfl rfl h15 ?_
    refine rx_icmp_ge (tgt := 28) dX11_vote_21 (by decide) (fun h21 => ?_) (fun h21 => wi_d4 hy h13 h21) 
    refine rx_iconst (v := nI 1) dX11_vote_28 rfl ?_
    refine gm_putI hG hf_RX11_160 (gw_nf rfl rfl) rfl dX11_vote_29 rfl rfl rfl rfl rfl ?_
    refine rx_aload_n dX11_vote_32 rfl rfl ?_
    refine gmv_getI (v := nI 1) hG hf_RX11_160 rfl dX11_vote_33 rfl rfl rfl (by simp [rx_ru]) ?_
    refine rx_if_le (tgt := 41) dX11_vote_36 (by decide) (fun h36 => (absurd h36 (by decide))) (fun h36 => ?_)
    refine rx_iconst (v := nI 0) dX11_vote_39 rfl ?_
    exact rx_iret rfl dX11_vote_40 ⟨rfl, rfl⟩
theorem mf_vote_0 {G : rx_E} {d : Nat} {C : rx_M} {S : gs_T} (hG : rx_OK G) {v : Nat} (hv : v < 7) : rx_C G MX11_vote d [.ref 52, .int (nI v), .int (nI 0)] (gl C S) 0 0 (fun vv mu => vv = some (.int (nI 0)) ∧ mu = gl C (rx_u S.1 52 0 (nI 1), S.2)) := by
  refine rx_meth0 (by decide +kernel) rfl (Nat.le_of_ble_eq_true rfl) ?_
  refine rx_aload_n dX11_vote_0 rfl rfl ?_
  refine rx_iload_n dX11_vote_1 rfl ?_
  refine rx_if_lt (tgt := 28) dX11_vote_2 (by decide) (fun h2 => (absurd h2 (nI_pos (by omega)))) (fun h2 => ?_)
  refine rx_iload_n dX11_vote_5 rfl ?_
  refine rx_bipush (v := nI 6) dX11_vote_6 rfl ?_
  refine rx_icmp_gt (tgt := 28) dX11_vote_8 (by decide) (fun h8 => (absurd h8 (by rw [nI_ltI (by omega) (by omega)]; omega))) (fun h8 => ?_)
  refine rx_iload_n dX11_vote_11 rfl ?_
  refine rx_iconst (v := nI 1) dX11_vote_12 rfl ?_
  refine rx_icmp_lt (tgt := 28) dX11_vote_13 (by decide) (fun h13 => ?_) (fun h13 => (absurd h13 (by decide))) 
  refine rx_iconst (v := nI 1) dX11_vote_28 rfl ?_
  refine gm_putI hG hf_RX11_160 (gw_nf rfl rfl) rfl dX11_vote_29 rfl rfl rfl rfl rfl ?_
  refine rx_aload_n dX11_vote_32 rfl rfl ?_
  refine gmv_getI (v := nI 1) hG hf_RX11_160 rfl dX11_vote_33 rfl rfl rfl (by simp [rx_ru]) ?_
  refine rx_if_le (tgt := 41) dX11_vote_36 (by decide) (fun h36 => (absurd h36 (by decide))) (fun h36 => ?_)
  refine rx_iconst (v := nI 0) dX11_vote_39 rfl ?_
  exact rx_iret rfl dX11_vote_40 ⟨rfl, rfl⟩
theorem mf_vote_n1 {G : rx_E} {d : Nat} {C : rx_M} {S : gs_T} {w : wW} {n v b p h wt vo : Nat} {cp bt : Bool} (hG : rx_OK G) (hS : rmw S w) (hv : vW w n) (hn : n ≤ 512) (hv7 : v < 7) (hb : b < w.2.2.1.1) (h1b : 0 < b) (hp : (w.2.2.1.2 b).1.1 = nI p) (hpb : p < w.2.2.1.1) (hh : (w.2.2.1.2 b).1.2.1 = h) (hh40 : h < 40) (hwt : w.2.2.2.1.1 v = wt) (hvo : (w.2.2.1.2 b).2.2.2.2.2 = vo) (hcp : S.1 70 p = bI cp) (hbt : S.1 80 (h + 40 * v) = bI bt) (g1 : cp = false) : rx_C G MX11_vote d [.ref 52, .int (nI v), .int (nI b)] (gl C S) 0 0 (fun vv mu => vv = some (.int (-1)) ∧ mu = gl C (rx_u S.1 52 0 (nI 0), S.2)) := by
  have hnb := hv.2.2.2.1.1.2
  have hB := hS.2.2.2.1.2 b hb
  have hwl : wt ≤ 1000 := hwt ▸ hv.2.2.2.2 v hv7
  have hvl : vo ≤ 600000 := by have := (hv.2.2.2.1.2.1 b hb).1.2.2.2.2; omega
  refine rx_meth0 (by decide +kernel) rfl (Nat.le_of_ble_eq_true rfl) ?_
  refine rx_aload_n dX11_vote_0 rfl rfl ?_
  refine rx_iload_n dX11_vote_1 rfl ?_
  refine rx_if_lt (tgt := 28) dX11_vote_2 (by decide) (fun h2 => (absurd h2 (nI_pos (by omega)))) (fun h2 => ?_)
  refine rx_iload_n dX11_vote_5 rfl ?_
  refine rx_bipush (v := nI 6) dX11_vote_6 rfl ?_
  refine rx_icmp_gt (tgt := 28) dX11_vote_8 (by decide) (fun h8 => (absurd h8 (by rw [nI_ltI (by omega) (by omega)]; omega))) (fun h8 => ?_)
  refine rx_iload_n dX11_vote_11 rfl ?_
  refine rx_iconst (v := nI 1) dX11_vote_12 rfl ?_
  refine rx_icmp_lt (tgt := 28) dX11_vote_13 (by decide) (fun h13 => (absurd h13 (by rw [nI_ltI (by omega) (by omega)]; omega))) (fun h13 => ?_)
  refine rx_iload_n dX11_vote_16 rfl ?_
  refine rx_aload_n dX11_vote_17 rfl rfl ?_
  refine gmv_getI (v := nI w.2.2.1.1) hG hf_RX11_156 rfl dX11_vote_18 rfl rfl rfl (rmw_b hS) ?_
  refine rx_icmp_ge (tgt := 28) dX11_vote_21 (by decide) (fun h21 => (absurd h21 (by rw [nI_leI (by omega) (by omega)]; omega))) (fun h21 => ?_)
  refine rx_iconst (v := nI 0) dX11_vote_24 rfl ?_
  refine rx_goto (tgt := 29) dX11_vote_25 (by decide) ?_
  refine gm_putI hG hf_RX11_160 (gw_nf rfl rfl) rfl dX11_vote_29 rfl rfl rfl rfl rfl ?_
  refine rx_aload_n dX11_vote_32 rfl rfl ?_
  refine gmv_getI (v := nI 0) hG hf_RX11_160 rfl dX11_vote_33 rfl rfl rfl (by simp [rx_ru]) ?_
  refine rx_if_le (tgt := 41) dX11_vote_36 (by decide) (fun h36 => ?_) (fun h36 => (absurd h36 (by decide))) 
  refine rx_bipush (v := nI 40) dX11_vote_41 rfl ?_
  refine rx_iload_n dX11_vote_43 rfl ?_
  refine rx_imul dX11_vote_44 ?_
  refine rx_ti (y := nI (40 * v)) ((pk_mul _ _).trans (congrArg nI (by omega))) ?_
  refine rx_aload_n dX11_vote_45 rfl rfl ?_
  refine g_getR hG hf_RX11_48 rfl dX11_vote_46 rfl rfl rfl ?_
  refine rx_iload_n dX11_vote_49 rfl ?_
  refine gmv_iald (j := b) (v := nI h) hG dX11_vote_50 rfl rfl rfl rfl (by omega) (by decide) (by simpa [rx_ru] using (hh ▸ hB.1.1.2.1)) ?_
  refine rx_iadd dX11_vote_51 ?_
  refine rx_ti (y := nI (h + 40 * v)) ((nI_add _ _).trans (congrArg nI (by omega))) ?_
  refine rx_istore_n dX11_vote_52 (by decide) ?_
  refine rx_aload_n dX11_vote_53 rfl rfl ?_
  refine g_getR hG hf_RX11_63 rfl dX11_vote_54 rfl rfl rfl ?_
  refine rx_aload_n dX11_vote_57 rfl rfl ?_
  refine g_getR hG hf_RX11_45 rfl dX11_vote_58 rfl rfl rfl ?_
  refine rx_iload_n dX11_vote_61 rfl ?_
  refine gmv_iald (j := b) (v := nI p) hG dX11_vote_62 rfl rfl rfl rfl (by omega) (by decide) (by simpa [rx_ru] using (hB.1.1.1.trans hp)) ?_
  refine gmv_zald (j := p) (v := bI cp) hG dX11_vote_63 rfl rfl rfl rfl (by omega) (by decide) (by simpa [rx_ru] using hcp) ?_
  refine rx_if_eq (tgt := 76) dX11_vote_64 (by decide) (fun h64 => ?_) (fun h64 => (absurd (by rw [g1]; rfl) h64)) 
  refine rx_iconst (v := -1) dX11_vote_76 rfl ?_
  exact rx_iret rfl dX11_vote_77 ⟨rfl, rfl⟩
theorem mf_vote_n2 {G : rx_E} {d : Nat} {C : rx_M} {S : gs_T} {w : wW} {n v b p h wt vo : Nat} {cp bt : Bool} (hG : rx_OK G) (hS : rmw S w) (hv : vW w n) (hn : n ≤ 512) (hv7 : v < 7) (hb : b < w.2.2.1.1) (h1b : 0 < b) (hp : (w.2.2.1.2 b).1.1 = nI p) (hpb : p < w.2.2.1.1) (hh : (w.2.2.1.2 b).1.2.1 = h) (hh40 : h < 40) (hwt : w.2.2.2.1.1 v = wt) (hvo : (w.2.2.1.2 b).2.2.2.2.2 = vo) (hcp : S.1 70 p = bI cp) (hbt : S.1 80 (h + 40 * v) = bI bt) (g1 : cp = true) (g2 : bt = true) : rx_C G MX11_vote d [.ref 52, .int (nI v), .int (nI b)] (gl C S) 0 0 (fun vv mu => vv = some (.int (-1)) ∧ mu = gl C (rx_u S.1 52 0 (nI 0), S.2)) := by
  have hnb := hv.2.2.2.1.1.2
  have hB := hS.2.2.2.1.2 b hb
  have hwl : wt ≤ 1000 := hwt ▸ hv.2.2.2.2 v hv7
  have hvl : vo ≤ 600000 := by have := (hv.2.2.2.1.2.1 b hb).1.2.2.2.2; omega
  refine rx_meth0 (by decide +kernel) rfl (Nat.le_of_ble_eq_true rfl) ?_
  refine rx_aload_n dX11_vote_0 rfl rfl ?_
  refine rx_iload_n dX11_vote_1 rfl ?_
  refine rx_if_lt (tgt := 28) dX11_vote_2 (by decide) (fun h2 => (absurd h2 (nI_pos (by omega)))) (fun h2 => ?_)
  refine rx_iload_n dX11_vote_5 rfl ?_
  refine rx_bipush (v := nI 6) dX11_vote_6 rfl ?_
  refine rx_icmp_gt (tgt := 28) dX11_vote_8 (by decide) (fun h8 => (absurd h8 (by rw [nI_ltI (by omega) (by omega)]; omega))) (fun h8 => ?_)
  refine rx_iload_n dX11_vote_11 rfl ?_
  refine rx_iconst (v := nI 1) dX11_vote_12 rfl ?_
  refine rx_icmp_lt (tgt := 28) dX11_vote_13 (by decide) (fun h13 => (absurd h13 (by rw [nI_ltI (by omega) (by omega)]; omega))) (fun h13 => ?_)
  refine rx_iload_n dX11_vote_16 rfl ?_
  refine rx_aload_n dX11_vote_17 rfl rfl ?_
  refine gmv_getI (v := nI w.2.2.1.1) hG hf_RX11_156 rfl dX11_vote_18 rfl rfl rfl (rmw_b hS) ?_
  refine rx_icmp_ge (tgt := 28) dX11_vote_21 (by decide) (fun h21 => (absurd h21 (by rw [nI_leI (by omega) (by omega)]; omega))) (fun h21 => ?_)
  refine rx_iconst (v := nI 0) dX11_vote_24 rfl ?_
  refine rx_goto (tgt := 29) dX11_vote_25 (by decide) ?_
  refine gm_putI hG hf_RX11_160 (gw_nf rfl rfl) rfl dX11_vote_29 rfl rfl rfl rfl rfl ?_
  refine rx_aload_n dX11_vote_32 rfl rfl ?_
  refine gmv_getI (v := nI 0) hG hf_RX11_160 rfl dX11_vote_33 rfl rfl rfl (by simp [rx_ru]) ?_
  refine rx_if_le (tgt := 41) dX11_vote_36 (by decide) (fun h36 => ?_) (fun h36 => (absurd h36 (by decide))) 
  refine rx_bipush (v := nI 40) dX11_vote_41 rfl ?_
  refine rx_iload_n dX11_vote_43 rfl ?_
  refine rx_imul dX11_vote_44 ?_
  refine rx_ti (y := nI (40 * v)) ((pk_mul _ _).trans (congrArg nI (by omega))) ?_
  refine rx_aload_n dX11_vote_45 rfl rfl ?_
  refine g_getR hG hf_RX11_48 rfl dX11_vote_46 rfl rfl rfl ?_
  refine rx_iload_n dX11_vote_49 rfl ?_
  refine gmv_iald (j := b) (v := nI h) hG dX11_vote_50 rfl rfl rfl rfl (by omega) (by decide) (by simpa [rx_ru] using (hh ▸ hB.1.1.2.1)) ?_
  refine rx_iadd dX11_vote_51 ?_
  refine rx_ti (y := nI (h + 40 * v)) ((nI_add _ _).trans (congrArg nI (by omega))) ?_
  refine rx_istore_n dX11_vote_52 (by decide) ?_
  refine rx_aload_n dX11_vote_53 rfl rfl ?_
  refine g_getR hG hf_RX11_63 rfl dX11_vote_54 rfl rfl rfl ?_
  refine rx_aload_n dX11_vote_57 rfl rfl ?_
  refine g_getR hG hf_RX11_45 rfl dX11_vote_58 rfl rfl rfl ?_
  refine rx_iload_n dX11_vote_61 rfl ?_
  refine gmv_iald (j := b) (v := nI p) hG dX11_vote_62 rfl rfl rfl rfl (by omega) (by decide) (by simpa [rx_ru] using (hB.1.1.1.trans hp)) ?_
  refine gmv_zald (j := p) (v := bI cp) hG dX11_vote_63 rfl rfl rfl rfl (by omega) (by decide) (by simpa [rx_ru] using hcp) ?_
  refine rx_if_eq (tgt := 76) dX11_vote_64 (by decide) (fun h64 => (absurd h64 ((bI_ne _).mpr g1))) (fun h64 => ?_)
  refine rx_aload_n dX11_vote_67 rfl rfl ?_
  refine g_getR hG hf_RX11_93 rfl dX11_vote_68 rfl rfl rfl ?_
  refine rx_iload_n dX11_vote_71 rfl ?_
  refine gmv_zald (j := h + 40 * v) (v := bI bt) hG dX11_vote_72 rfl rfl rfl rfl (by omega) (by decide) (by simpa [rx_ru] using hbt) ?_
  refine rx_if_eq (tgt := 78) dX11_vote_73 (by decide) (fun h73 => (absurd h73 ((bI_ne _).mpr g2))) (fun h73 => ?_)
  refine rx_iconst (v := -1) dX11_vote_76 rfl ?_
  exact rx_iret rfl dX11_vote_77 ⟨rfl, rfl⟩
set_option maxHeartbeats 1000000 in
theorem mf_vote {G : rx_E} {d : Nat} {C : rx_M} {S : gs_T} {w : wW} {n v b p h wt vo u0 u1 u2 u3 u4 u5 u6 : Nat} {cp bt cb : Bool} (hG : rx_OK G) (hS : rmw S w) (hv : vW w n) (hn : n ≤ 512) (hv7 : v < 7) (hb : b < w.2.2.1.1) (h1b : 0 < b) (hp : (w.2.2.1.2 b).1.1 = nI p) (hpb : p < w.2.2.1.1) (hh : (w.2.2.1.2 b).1.2.1 = h) (hh40 : h < 40) (hwt : w.2.2.2.1.1 v = wt) (hvo : (w.2.2.1.2 b).2.2.2.2.2 = vo) (hcp : S.1 70 p = bI cp) (hbt : S.1 80 (h + 40 * v) = bI bt) (g1 : cp = true) (g2 : bt = false) (hcb : w_cert w.2.2.2.1.1 w.2.2.1.2 b = cb) (hcb2 : cb = true → 2 * (u0 + u1 + u2 + u3 + u4 + u5 + u6) < 3 * (vo + wt)) (hu : S.1 79 0 = nI u0 ∧ S.1 79 1 = nI u1 ∧ S.1 79 2 = nI u2 ∧ S.1 79 3 = nI u3 ∧ S.1 79 4 = nI u4 ∧ S.1 79 5 = nI u5 ∧ S.1 79 6 = nI u6) (hul : u0 ≤ 1000 ∧ u1 ≤ 1000 ∧ u2 ≤ 1000 ∧ u3 ≤ 1000 ∧ u4 ≤ 1000 ∧ u5 ≤ 1000 ∧ u6 ≤ 1000) {ce : Bool} (hce : ce = decide (2 * (u0 + u1 + u2 + u3 + u4 + u5 + u6) < 3 * (vo + wt))) : rx_C G MX11_vote d [.ref 52, .int (nI v), .int (nI b)] (gl C S) 0 0 (fun vv mu => vv = some (.int (bI ce)) ∧ mu = gl C (rx_u (rx_u (rx_u (rx_u S.1 52 0 (nI 0)) 80 (h + 40 * v) (nI 1)) 69 b (nI (vo + wt))) 70 b (bI ce), S.2)) := by
  have hnb := hv.2.2.2.1.1.2
  have hB := hS.2.2.2.1.2 b hb
  have hwl : wt ≤ 1000 := hwt ▸ hv.2.2.2.2 v hv7
  have hvl : vo ≤ 600000 := by have := (hv.2.2.2.1.2.1 b hb).1.2.2.2.2; omega
  refine rx_meth0 (by decide +kernel) rfl (Nat.le_of_ble_eq_true rfl) ?_
  refine rx_aload_n dX11_vote_0 rfl rfl ?_
  refine rx_iload_n dX11_vote_1 rfl ?_
  refine rx_if_lt (tgt := 28) dX11_vote_2 (by decide) (fun h2 => (absurd h2 (nI_pos (by omega)))) (fun h2 => ?_)
  refine rx_iload_n dX11_vote_5 rfl ?_
  refine rx_bipush (v := nI 6) dX11_vote_6 rfl ?_
  refine rx_icmp_gt (tgt := 28) dX11_vote_8 (by decide) (fun h8 => (absurd h8 (by rw [nI_ltI (by omega) (by omega)]; omega))) (fun h8 => ?_)
  refine rx_iload_n dX11_vote_11 rfl ?_
  refine rx_iconst (v := nI 1) dX11_vote_12 rfl ?_
  refine rx_icmp_lt (tgt := 28) dX11_vote_13 (by decide) (fun h13 => (absurd h13 (by rw [nI_ltI (by omega) (by omega)]; omega))) (fun h13 => ?_)
  refine rx_iload_n dX11_vote_16 rfl ?_
  refine rx_aload_n dX11_vote_17 rfl rfl ?_
  refine gmv_getI (v := nI w.2.2.1.1) hG hf_RX11_156 rfl dX11_vote_18 rfl rfl rfl (rmw_b hS) ?_
  refine rx_icmp_ge (tgt := 28) dX11_vote_21 (by decide) (fun h21 => (absurd h21 (by rw [nI_leI (by omega) (by omega)]; omega))) (fun h21 => ?_)
  refine rx_iconst (v := nI 0) dX11_vote_24 rfl ?_
  refine rx_goto (tgt := 29) dX11_vote_25 (by decide) ?_
  refine gm_putI hG hf_RX11_160 (gw_nf rfl rfl) rfl dX11_vote_29 rfl rfl rfl rfl rfl ?_
  refine rx_aload_n dX11_vote_32 rfl rfl ?_
  refine gmv_getI (v := nI 0) hG hf_RX11_160 rfl dX11_vote_33 rfl rfl rfl (by simp [rx_ru]) ?_
  refine rx_if_le (tgt := 41) dX11_vote_36 (by decide) (fun h36 => ?_) (fun h36 => (absurd h36 (by decide))) 
  refine rx_bipush (v := nI 40) dX11_vote_41 rfl ?_
  refine rx_iload_n dX11_vote_43 rfl ?_
  refine rx_imul dX11_vote_44 ?_
  refine rx_ti (y := nI (40 * v)) ((pk_mul _ _).trans (congrArg nI (by omega))) ?_
  refine rx_aload_n dX11_vote_45 rfl rfl ?_
  refine g_getR hG hf_RX11_48 rfl dX11_vote_46 rfl rfl rfl ?_
  refine rx_iload_n dX11_vote_49 rfl ?_
  refine gmv_iald (j := b) (v := nI h) hG dX11_vote_50 rfl rfl rfl rfl (by omega) (by decide) (by simpa [rx_ru] using (hh ▸ hB.1.1.2.1)) ?_
  refine rx_iadd dX11_vote_51 ?_
  refine rx_ti (y := nI (h + 40 * v)) ((nI_add _ _).trans (congrArg nI (by omega))) ?_
  refine rx_istore_n dX11_vote_52 (by decide) ?_
  refine rx_aload_n dX11_vote_53 rfl rfl ?_
  refine g_getR hG hf_RX11_63 rfl dX11_vote_54 rfl rfl rfl ?_
  refine rx_aload_n dX11_vote_57 rfl rfl ?_
  refine g_getR hG hf_RX11_45 rfl dX11_vote_58 rfl rfl rfl ?_
  refine rx_iload_n dX11_vote_61 rfl ?_
  refine gmv_iald (j := b) (v := nI p) hG dX11_vote_62 rfl rfl rfl rfl (by omega) (by decide) (by simpa [rx_ru] using (hB.1.1.1.trans hp)) ?_
  refine gmv_zald (j := p) (v := bI cp) hG dX11_vote_63 rfl rfl rfl rfl (by omega) (by decide) (by simpa [rx_ru] using hcp) ?_
  refine rx_if_eq (tgt := 76) dX11_vote_64 (by decide) (fun h64 => (absurd h64 ((bI_ne _).mpr g1))) (fun h64 => ?_)
  refine rx_aload_n dX11_vote_67 rfl rfl ?_
  refine g_getR hG hf_RX11_93 rfl dX11_vote_68 rfl rfl rfl ?_
  refine rx_iload_n dX11_vote_71 rfl ?_
  refine gmv_zald (j := h + 40 * v) (v := bI bt) hG dX11_vote_72 rfl rfl rfl rfl (by omega) (by decide) (by simpa [rx_ru] using hbt) ?_
  refine rx_if_eq (tgt := 78) dX11_vote_73 (by decide) (fun h73 => ?_) (fun h73 => (absurd (by rw [g2]; rfl) h73)) 
  refine rx_aload_n dX11_vote_78 rfl rfl ?_
  refine g_getR hG hf_RX11_93 rfl dX11_vote_79 rfl rfl rfl ?_
  refine rx_iload_n dX11_vote_82 rfl ?_
  refine rx_iconst (v := nI 1) dX11_vote_83 rfl ?_
  refine gm_zast (j := h + 40 * v) hG dX11_vote_84 rfl rfl rfl rfl (by omega) (by decide) rfl ?_
  refine rx_aload_n dX11_vote_85 rfl rfl ?_
  refine g_getR hG hf_RX11_60 rfl dX11_vote_86 rfl rfl rfl ?_
  refine rx_iload_n dX11_vote_89 rfl ?_
  refine rx_dup2 dX11_vote_90 rfl rfl ?_
  refine gmv_iald (j := b) (v := nI vo) hG dX11_vote_91 rfl rfl rfl rfl (by omega) (by decide) (by simpa [rx_ru] using (hvo ▸ hB.1.1.2.2.2.2.2)) ?_
  refine rx_aload_n dX11_vote_92 rfl rfl ?_
  refine g_getR hG hf_RX11_90 rfl dX11_vote_93 rfl rfl rfl ?_
  refine rx_iload_n dX11_vote_96 rfl ?_
  refine gmv_iald (j := v) (v := nI wt) hG dX11_vote_97 rfl rfl rfl rfl (by omega) (by decide) (by simpa [rx_ru] using (hwt ▸ (hS.2.2.2.2.1 v hv7).1)) ?_
  refine rx_iadd dX11_vote_98 ?_
  refine rx_ti (y := nI (vo + wt)) ((nI_add _ _).trans (congrArg nI (by omega))) ?_
  refine gm_iast (j := b) hG dX11_vote_99 rfl rfl rfl rfl (by omega) (by decide) ?_
  refine rx_iconst (v := nI 0) dX11_vote_100 rfl ?_
  refine rx_istore dX11_vote_101 (by decide) ?_
  refine rx_iconst (v := nI 0) dX11_vote_103 rfl ?_
  refine rx_istore dX11_vote_104 (by decide) ?_
  refine rx_iload dX11_vote_106 rfl ?_
  refine rx_bipush (v := nI 7) dX11_vote_108 rfl ?_
  refine rx_icmp_ge (tgt := 131) dX11_vote_110 (by decide) (fun h110 => (absurd h110 (by decide))) (fun h110 => ?_)
  refine rx_iload dX11_vote_113 rfl ?_
  refine rx_aload_n dX11_vote_115 rfl rfl ?_
  refine g_getR hG hf_RX11_90 rfl dX11_vote_116 rfl rfl rfl ?_
  refine rx_iload dX11_vote_119 rfl ?_
  refine gmv_iald (j := 0) (v := nI u0) hG dX11_vote_121 rfl rfl rfl rfl (by omega) (by decide) (by simpa [rx_ru] using hu.1) ?_
  refine rx_iadd dX11_vote_122 ?_
  refine rx_ti (y := nI u0) ((nI_add _ _).trans (congrArg nI (by omega))) ?_
  refine rx_istore dX11_vote_123 (by decide) ?_
  refine rx_iinc (v := nI 1) dX11_vote_125 rfl ((nI_add _ 1).trans (congrArg nI (by omega))) ?_
  refine rx_goto (tgt := 106) dX11_vote_128 (by decide) ?_
  refine rx_iload dX11_vote_106 rfl ?_
  refine rx_bipush (v := nI 7) dX11_vote_108 rfl ?_
  refine rx_icmp_ge (tgt := 131) dX11_vote_110 (by decide) (fun h110 => (absurd h110 (by decide))) (fun h110 => ?_)
  refine rx_iload dX11_vote_113 rfl ?_
  refine rx_aload_n dX11_vote_115 rfl rfl ?_
  refine g_getR hG hf_RX11_90 rfl dX11_vote_116 rfl rfl rfl ?_
  refine rx_iload dX11_vote_119 rfl ?_
  refine gmv_iald (j := 1) (v := nI u1) hG dX11_vote_121 rfl rfl rfl rfl (by omega) (by decide) (by simpa [rx_ru] using hu.2.1) ?_
  refine rx_iadd dX11_vote_122 ?_
  refine rx_ti (y := nI (u0 + u1)) ((nI_add _ _).trans (congrArg nI (by omega))) ?_
  refine rx_istore dX11_vote_123 (by decide) ?_
  refine rx_iinc (v := nI 2) dX11_vote_125 rfl ((nI_add _ 1).trans (congrArg nI (by omega))) ?_
  refine rx_goto (tgt := 106) dX11_vote_128 (by decide) ?_
  refine rx_iload dX11_vote_106 rfl ?_
  refine rx_bipush (v := nI 7) dX11_vote_108 rfl ?_
  refine rx_icmp_ge (tgt := 131) dX11_vote_110 (by decide) (fun h110 => (absurd h110 (by decide))) (fun h110 => ?_)
  refine rx_iload dX11_vote_113 rfl ?_
  refine rx_aload_n dX11_vote_115 rfl rfl ?_
  refine g_getR hG hf_RX11_90 rfl dX11_vote_116 rfl rfl rfl ?_
  refine rx_iload dX11_vote_119 rfl ?_
  refine gmv_iald (j := 2) (v := nI u2) hG dX11_vote_121 rfl rfl rfl rfl (by omega) (by decide) (by simpa [rx_ru] using hu.2.2.1) ?_
  refine rx_iadd dX11_vote_122 ?_
  refine rx_ti (y := nI (u0 + u1 + u2)) ((nI_add _ _).trans (congrArg nI (by omega))) ?_
  refine rx_istore dX11_vote_123 (by decide) ?_
  refine rx_iinc (v := nI 3) dX11_vote_125 rfl ((nI_add _ 1).trans (congrArg nI (by omega))) ?_
  refine rx_goto (tgt := 106) dX11_vote_128 (by decide) ?_
  refine rx_iload dX11_vote_106 rfl ?_
  refine rx_bipush (v := nI 7) dX11_vote_108 rfl ?_
  refine rx_icmp_ge (tgt := 131) dX11_vote_110 (by decide) (fun h110 => (absurd h110 (by decide))) (fun h110 => ?_)
  refine rx_iload dX11_vote_113 rfl ?_
  refine rx_aload_n dX11_vote_115 rfl rfl ?_
  refine g_getR hG hf_RX11_90 rfl dX11_vote_116 rfl rfl rfl ?_
  refine rx_iload dX11_vote_119 rfl ?_
  refine gmv_iald (j := 3) (v := nI u3) hG dX11_vote_121 rfl rfl rfl rfl (by omega) (by decide) (by simpa [rx_ru] using hu.2.2.2.1) ?_
  refine rx_iadd dX11_vote_122 ?_
  refine rx_ti (y := nI (u0 + u1 + u2 + u3)) ((nI_add _ _).trans (congrArg nI (by omega))) ?_
  refine rx_istore dX11_vote_123 (by decide) ?_
  refine rx_iinc (v := nI 4) dX11_vote_125 rfl ((nI_add _ 1).trans (congrArg nI (by omega))) ?_
  refine rx_goto (tgt := 106) dX11_vote_128 (by decide) ?_
  refine rx_iload dX11_vote_106 rfl ?_
  refine rx_bipush (v := nI 7) dX11_vote_108 rfl ?_
  refine rx_icmp_ge (tgt := 131) dX11_vote_110 (by decide) (fun h110 => (absurd h110 (by decide))) (fun h110 => ?_)
  refine rx_iload dX11_vote_113 rfl ?_
  refine rx_aload_n dX11_vote_115 rfl rfl ?_
  refine g_getR hG hf_RX11_90 rfl dX11_vote_116 rfl rfl rfl ?_
  refine rx_iload dX11_vote_119 rfl ?_
  refine gmv_iald (j := 4) (v := nI u4) hG dX11_vote_121 rfl rfl rfl rfl (by omega) (by decide) (by simpa [rx_ru] using hu.2.2.2.2.1) ?_
  refine rx_iadd dX11_vote_122 ?_
  refine rx_ti (y := nI (u0 + u1 + u2 + u3 + u4)) ((nI_add _ _).trans (congrArg nI (by omega))) ?_
  refine rx_istore dX11_vote_123 (by decide) ?_
  refine rx_iinc (v := nI 5) dX11_vote_125 rfl ((nI_add _ 1).trans (congrArg nI (by omega))) ?_
  refine rx_goto (tgt := 106) dX11_vote_128 (by decide) ?_
  refine rx_iload dX11_vote_106 rfl ?_
  refine rx_bipush (v := nI 7) dX11_vote_108 rfl ?_
  refine rx_icmp_ge (tgt := 131) dX11_vote_110 (by decide) (fun h110 => (absurd h110 (by decide))) (fun h110 => ?_)
  refine rx_iload dX11_vote_113 rfl ?_
  refine rx_aload_n dX11_vote_115 rfl rfl ?_
  refine g_getR hG hf_RX11_90 rfl dX11_vote_116 rfl rfl rfl ?_
  refine rx_iload dX11_vote_119 rfl ?_
  refine gmv_iald (j := 5) (v := nI u5) hG dX11_vote_121 rfl rfl rfl rfl (by omega) (by decide) (by simpa [rx_ru] using hu.2.2.2.2.2.1) ?_
  refine rx_iadd dX11_vote_122 ?_
  refine rx_ti (y := nI (u0 + u1 + u2 + u3 + u4 + u5)) ((nI_add _ _).trans (congrArg nI (by omega))) ?_
  refine rx_istore dX11_vote_123 (by decide) ?_
  refine rx_iinc (v := nI 6) dX11_vote_125 rfl ((nI_add _ 1).trans (congrArg nI (by omega))) ?_
  refine rx_goto (tgt := 106) dX11_vote_128 (by decide) ?_
  refine rx_iload dX11_vote_106 rfl ?_
  refine rx_bipush (v := nI 7) dX11_vote_108 rfl ?_
  refine rx_icmp_ge (tgt := 131) dX11_vote_110 (by decide) (fun h110 => (absurd h110 (by decide))) (fun h110 => ?_)
  refine rx_iload dX11_vote_113 rfl ?_
  refine rx_aload_n dX11_vote_115 rfl rfl ?_
  refine g_getR hG hf_RX11_90 rfl dX11_vote_116 rfl rfl rfl ?_
  refine rx_iload dX11_vote_119 rfl ?_
  refine gmv_iald (j := 6) (v := nI u6) hG dX11_vote_121 rfl rfl rfl rfl (by omega) (by decide) (by simpa [rx_ru] using hu.2.2.2.2.2.2) ?_
  refine rx_iadd dX11_vote_122 ?_
  refine rx_ti (y := nI (u0 + u1 + u2 + u3 + u4 + u5 + u6)) ((nI_add _ _).trans (congrArg nI (by omega))) ?_
  refine rx_istore dX11_vote_123 (by decide) ?_
  refine rx_iinc (v := nI 7) dX11_vote_125 rfl ((nI_add _ 1).trans (congrArg nI (by omega))) ?_
  refine rx_goto (tgt := 106) dX11_vote_128 (by decide) ?_
  refine rx_iload dX11_vote_106 rfl ?_
  refine rx_bipush (v := nI 7) dX11_vote_108 rfl ?_
  refine rx_icmp_ge (tgt := 131) dX11_vote_110 (by decide) (fun h110 => ?_) (fun h110 => (absurd h110 (by decide))) 
  refine rx_aload_n dX11_vote_131 rfl rfl ?_
  refine g_getR hG hf_RX11_63 rfl dX11_vote_132 rfl rfl rfl ?_
  refine rx_iload_n dX11_vote_135 rfl ?_
  refine rx_aload_n dX11_vote_136 rfl rfl ?_
  refine g_getR hG hf_RX11_63 rfl dX11_vote_137 rfl rfl rfl ?_
  refine rx_iload_n dX11_vote_140 rfl ?_
  refine gmv_zald (j := b) (v := bI cb) hG dX11_vote_141 rfl rfl rfl rfl (by omega) (by decide) (by simpa [rx_ru] using (hcb ▸ hB.2)) ?_
  refine rx_if_ne (tgt := 160) dX11_vote_142 (by decide) (fun h142 => ?_) (fun h142 => ?_)
  · refine rx_iconst (v := nI 1) dX11_vote_160 rfl ?_
    refine rx_goto (tgt := 165) dX11_vote_161 (by decide) ?_
    refine gm_zast (j := b) hG dX11_vote_165 rfl rfl rfl rfl (by omega) (by decide) rfl ?_
    refine rx_aload_n dX11_vote_166 rfl rfl ?_
    refine g_getR hG hf_RX11_63 rfl dX11_vote_167 rfl rfl rfl ?_
    refine rx_iload_n dX11_vote_170 rfl ?_
    refine gmv_zald (j := b) (v := nI 1) hG dX11_vote_171 rfl rfl rfl rfl (by omega) (by decide) (by simp [rx_ru]) ?_
    refine rx_if_eq (tgt := 179) dX11_vote_172 (by decide) (fun h172 => (absurd h172 (by decide))) (fun h172 => ?_)
    refine rx_iconst (v := nI 1) dX11_vote_175 rfl ?_
    refine rx_goto (tgt := 180) dX11_vote_176 (by decide) ?_
    exact rx_iret rfl dX11_vote_180 ⟨congrArg (fun x => some (Value.int x)) (show nI 1 = bI ce from (by rw [hce]; exact bI_t (by first | omega | (have := hcb2 (by cases cb; (exact absurd rfl h142); rfl); omega)) : bI ce = nI 1).symm), by rw [(by rw [hce]; exact bI_t (by first | omega | (have := hcb2 (by cases cb; (exact absurd rfl h142); rfl); omega)) : bI ce = nI 1)]⟩
  · refine rx_iconst (v := nI 3) dX11_vote_145 rfl ?_
    refine rx_aload_n dX11_vote_146 rfl rfl ?_
    refine g_getR hG hf_RX11_60 rfl dX11_vote_147 rfl rfl rfl ?_
    refine rx_iload_n dX11_vote_150 rfl ?_
    refine gmv_iald (j := b) (v := nI (vo + wt)) hG dX11_vote_151 rfl rfl rfl rfl (by omega) (by decide) (by simp [rx_ru]) ?_
    refine rx_imul dX11_vote_152 ?_
    refine rx_ti (y := nI (3 * vo + 3 * wt)) ((pk_mul _ _).trans (congrArg nI (by omega))) ?_
    refine rx_iconst (v := nI 2) dX11_vote_153 rfl ?_
    refine rx_iload dX11_vote_154 rfl ?_
    refine rx_imul dX11_vote_156 ?_
    refine rx_ti (y := nI (2 * u0 + 2 * u1 + 2 * u2 + 2 * u3 + 2 * u4 + 2 * u5 + 2 * u6)) ((pk_mul _ _).trans (congrArg nI (by omega))) ?_
    refine rx_icmp_le (tgt := 164) dX11_vote_157 (by decide) (fun h157 => ?_) (fun h157 => ?_)
    · rw [nI_leI (by omega) (by omega)] at h157
      refine rx_iconst (v := nI 0) dX11_vote_164 rfl ?_
      refine gm_zast (j := b) hG dX11_vote_165 rfl rfl rfl rfl (by omega) (by decide) rfl ?_
      refine rx_aload_n dX11_vote_166 rfl rfl ?_
      refine g_getR hG hf_RX11_63 rfl dX11_vote_167 rfl rfl rfl ?_
      refine rx_iload_n dX11_vote_170 rfl ?_
      refine gmv_zald (j := b) (v := nI 0) hG dX11_vote_171 rfl rfl rfl rfl (by omega) (by decide) (by simp [rx_ru]) ?_
      refine rx_if_eq (tgt := 179) dX11_vote_172 (by decide) (fun h172 => ?_) (fun h172 => (absurd h172 (by decide))) 
      refine rx_iconst (v := nI 0) dX11_vote_179 rfl ?_
      exact rx_iret rfl dX11_vote_180 ⟨congrArg (fun x => some (Value.int x)) (show nI 0 = bI ce from (by rw [hce]; exact bI_f (by omega) : bI ce = nI 0).symm), by rw [(by rw [hce]; exact bI_f (by omega) : bI ce = nI 0)]⟩
    · rw [nI_leI (by omega) (by omega)] at h157
      refine rx_iconst (v := nI 1) dX11_vote_160 rfl ?_
      refine rx_goto (tgt := 165) dX11_vote_161 (by decide) ?_
      refine gm_zast (j := b) hG dX11_vote_165 rfl rfl rfl rfl (by omega) (by decide) rfl ?_
      refine rx_aload_n dX11_vote_166 rfl rfl ?_
      refine g_getR hG hf_RX11_63 rfl dX11_vote_167 rfl rfl rfl ?_
      refine rx_iload_n dX11_vote_170 rfl ?_
      refine gmv_zald (j := b) (v := nI 1) hG dX11_vote_171 rfl rfl rfl rfl (by omega) (by decide) (by simp [rx_ru]) ?_
      refine rx_if_eq (tgt := 179) dX11_vote_172 (by decide) (fun h172 => (absurd h172 (by decide))) (fun h172 => ?_)
      refine rx_iconst (v := nI 1) dX11_vote_175 rfl ?_
      refine rx_goto (tgt := 180) dX11_vote_176 (by decide) ?_
      exact rx_iret rfl dX11_vote_180 ⟨congrArg (fun x => some (Value.int x)) (show nI 1 = bI ce from (by rw [hce]; exact bI_t (by first | omega | (have := hcb2 (by cases cb; (exact absurd rfl h142); rfl); omega)) : bI ce = nI 1).symm), by rw [(by rw [hce]; exact bI_t (by first | omega | (have := hcb2 (by cases cb; (exact absurd rfl h142); rfl); omega)) : bI ce = nI 1)]⟩
theorem F_vote {G : rx_E} {d n : Nat} {w : wW} (hG : rx_OK G) (hN : rx_NC G) (hv : vW w n) (hn : n ≤ 512) (x y : Int32) : fP n w (fun C S Q => rx_H G ML_vote hL_vote (d + 9) [.ref 0, .int x, .int y, .ref 101] (gl C S) 8 2000 Q) (fun C S Q => rx_C G MX11_vote (d + 9) [.ref 52, .int x, .int y] (gl C S) 0 0 Q) mRI := by
  have hnb := hv.2.2.2.1.1.2
  have h1n := hv.2.2.2.1.1.1
  rcases wi_ix x (N := 7) (by decide) with hx | ⟨v, hv7, rfl⟩
  · exact ⟨1, 0, w, by decide, vW_up hv (Nat.le_succ n), fun A C S hC => rx_Hm (HL_vote_x hG hN (cf_vote_v hG hx)) (hR_x hC (by decide)), fun C S hS => rx_Cm (mf_vote_v hG hx) (mRI_t hS (fun h => absurd h (by decide)))⟩
  rcases wi_ix y (show w.2.2.1.1 < 2 ^ 31 by omega) with hy | ⟨b, hb, rfl⟩
  · exact ⟨1, 0, w, by decide, vW_up hv (Nat.le_succ n), fun A C S hC => rx_Hm (HL_vote_x hG hN (cf_vote_b hG (rcw_b hC) hnb hv7 hy)) (hR_x hC (by decide)), fun C S hS => rx_Cm (mf_vote_b hG (rmw_b hS) hnb hv7 hy) (mRI_t hS (fun h => absurd h (by decide)))⟩
  by_cases hb0 : b = 0
  · subst hb0
    exact ⟨1, 0, w, by decide, vW_up hv (Nat.le_succ n), fun A C S hC => rx_Hm (HL_vote_x hG hN (cf_vote_0 hG (rcw_b hC) hnb hv7 hb)) (hR_x hC (by decide)), fun C S hS => rx_Cm (mf_vote_0 hG hv7) (mRI_t hS (fun h => absurd h (by decide)))⟩
  have hB := hv.2.2.2.1.2.1 b hb
  obtain ⟨p, hpb, hp⟩ := hB.2.2.1 (by omega)
  have hpn : p < w.2.2.1.1 := by omega
  have hh40 : (w.2.2.1.2 b).1.2.1 < 40 := by have := hB.1.1; omega
  have hbt : ∀ S, rmw S w → S.1 80 ((w.2.2.1.2 b).1.2.1 + 40 * v) = bI (w_bit w.2.2.2.1.2 v (w.2.2.1.2 b).1.2.1) := fun S hS => by rw [Nat.add_comm]; exact (hS.2.2.2.2.1 v hv7).2 _ hh40
  by_cases hce : w_cert w.2.2.2.1.1 w.2.2.1.2 p = true
  rotate_left
  · have hce0 : w_cert w.2.2.2.1.1 w.2.2.1.2 p = false := Bool.eq_false_iff.mpr hce
    by_cases hbi : w.2.2.2.1.2 v &&& hbit (w.2.2.1.2 b).1.2.1 = 0
    · exact ⟨0, _, w, by decide, vW_up hv (Nat.le_succ n), fun A C S hC => rx_Hm (HL_vote hG (cf_vote_n2 hG hC hv hn hv7 hb (by omega) rfl hp hpn rfl hh40 rfl rfl hbi (by rw [hce0]; rfl))) (hR_o hC), fun C S hS => rx_Cm (mf_vote_n1 hG hS hv hn hv7 hb (by omega) hp hpn rfl hh40 rfl rfl (hS.2.2.2.1.2 p hpn).2 (hbt S hS) hce0) (mRI_t hS (fun _ => rfl))⟩
    · exact ⟨0, _, w, by decide, vW_up hv (Nat.le_succ n), fun A C S hC => rx_Hm (HL_vote hG (cf_vote_n1 hG hC hv hn hv7 hb (by omega) rfl hp hpn rfl hh40 rfl rfl hbi)) (hR_o hC), fun C S hS => rx_Cm (mf_vote_n1 hG hS hv hn hv7 hb (by omega) hp hpn rfl hh40 rfl rfl (hS.2.2.2.1.2 p hpn).2 (hbt S hS) hce0) (mRI_t hS (fun _ => rfl))⟩
  by_cases hbi : w.2.2.2.1.2 v &&& hbit (w.2.2.1.2 b).1.2.1 = 0
  rotate_left
  · exact ⟨0, _, w, by decide, vW_up hv (Nat.le_succ n), fun A C S hC => rx_Hm (HL_vote hG (cf_vote_n1 hG hC hv hn hv7 hb (by omega) rfl hp hpn rfl hh40 rfl rfl hbi)) (hR_o hC), fun C S hS => rx_Cm (mf_vote_n2 hG hS hv hn hv7 hb (by omega) hp hpn rfl hh40 rfl rfl (hS.2.2.2.1.2 p hpn).2 (hbt S hS) hce (decide_eq_true hbi)) (mRI_t hS (fun _ => rfl))⟩
  refine ⟨0, _, w_vote w v b, by decide, vW_vote hv hv7, fun A C S hC => rx_Hm (HL_vote hG (cf_vote hG hC hv hn hv7 hb (by omega) rfl hp hpn rfl hh40 rfl rfl hbi (fun q => by rw [hce] at q; exact absurd q (by decide)))) (hR_o (rcw_vote hC hb)), fun C S hS => rx_Cm (mf_vote (cb := w_cert w.2.2.2.1.1 w.2.2.1.2 b) (ce := w_cert w.2.2.2.1.1 (w_vote w v b).2.2.1.2 b) (u0 := w.2.2.2.1.1 0) (u1 := w.2.2.2.1.1 1) (u2 := w.2.2.2.1.1 2) (u3 := w.2.2.2.1.1 3) (u4 := w.2.2.2.1.1 4) (u5 := w.2.2.2.1.1 5) (u6 := w.2.2.2.1.1 6) hG hS hv hn hv7 hb (by omega) hp hpn rfl hh40 rfl rfl (hS.2.2.2.1.2 p hpn).2 (hbt S hS) hce (decide_eq_false (fun q => q hbi)) rfl (fun q => ?_) ⟨(hS.2.2.2.2.1 0 (by decide)).1, (hS.2.2.2.2.1 1 (by decide)).1, (hS.2.2.2.2.1 2 (by decide)).1, (hS.2.2.2.2.1 3 (by decide)).1, (hS.2.2.2.2.1 4 (by decide)).1, (hS.2.2.2.2.1 5 (by decide)).1, (hS.2.2.2.2.1 6 (by decide)).1⟩ ⟨hv.2.2.2.2 0 (by decide), hv.2.2.2.2 1 (by decide), hv.2.2.2.2 2 (by decide), hv.2.2.2.2 3 (by decide), hv.2.2.2.2 4 (by decide), hv.2.2.2.2 5 (by decide), hv.2.2.2.2 6 (by decide)⟩ (w_certV rfl hb0)) ?_⟩
  · have q' := (of_decide_eq_true q).resolve_left hb0
    unfold w_all at q'
    omega
  · rintro _ _ ⟨rfl, rfl⟩
    refine ⟨_, _, rfl, rfl, ?_, by simp [rx_ru], fun _ => rfl⟩
    have := rmw_vote (x := nI 0) hS hv7 hb (fun k hk => by have := (hv.2.2.2.1.2.1 k hk).1.1; omega)
    rw [Nat.add_comm (40 * v)] at this
    exact this

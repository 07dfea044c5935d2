theorem mf_told_b {G : rx_E} {d : Nat} {C : rx_M} {S : gs_T} (hG : rx_OK G) {nb : Nat} (h15 : S.1 52 15 = nI nb) (hnb : nb ≤ 40) {x : Int32} {y2 : Int32} (hx : wi_out x nb) : rx_C G MX11_told (d + 2) [.ref 52, .int x, .int y2] (gl C S) 0 0 (fun vv mu => vv = some (.int (nI 0)) ∧ mu = gl C (rx_u S.1 52 0 (nI 1), S.2)) := by
  refine rx_meth0 (by decide +kernel) rfl (Nat.le_of_ble_eq_true rfl) ?_
  refine rx_aload_n dX11_told_0 rfl rfl ?_
  refine rx_aload_n dX11_told_1 rfl rfl ?_
  refine rx_iload_n dX11_told_2 rfl ?_
  refine gv_invV (as := [.int _]) hG okX11_isBlock lk_RX11_318 rfl rfl dX11_told_3 rfl (by simp [Value.category]) (mf_isBlockO hG h15 hnb hx) ?_
  rintro _ _ ⟨rfl, rfl⟩
  refine rx_if_eq (tgt := 23) dX11_told_6 (by decide) (fun h6 => ?_) (fun h6 => (absurd h6 (by decide))) 
  refine rx_iconst (v := nI 1) dX11_told_23 rfl ?_
  refine gm_putI hG hf_RX11_160 (gw_nf rfl rfl) rfl dX11_told_24 rfl rfl rfl rfl rfl ?_
  refine rx_aload_n dX11_told_27 rfl rfl ?_
  refine gmv_getI (v := nI 1) hG hf_RX11_160 rfl dX11_told_28 rfl rfl rfl (by simp [rx_ru]) ?_
  refine rx_if_le (tgt := 36) dX11_told_31 (by decide) (fun h31 => (absurd h31 (by decide))) (fun h31 => ?_)
  refine rx_iconst (v := nI 0) dX11_told_34 rfl ?_
  exact rx_iret rfl dX11_told_35 ⟨rfl, rfl⟩
theorem mf_receipt_b {G : rx_E} {d : Nat} {C : rx_M} {S : gs_T} (hG : rx_OK G) {nb : Nat} (h15 : S.1 52 15 = nI nb) (hnb : nb ≤ 40) {x : Int32} {y2 : Int32} {y3 : Int32} (hx : wi_out x nb) : rx_C G MX11_receipt (d + 2) [.ref 52, .int x, .int y2, .int y3] (gl C S) 0 0 (fun vv mu => vv = some (.long 0) ∧ mu = gl C (rx_u S.1 52 0 (nI 1), S.2)) := by
  refine rx_meth0 (by decide +kernel) rfl (Nat.le_of_ble_eq_true rfl) ?_
  refine rx_aload_n dX11_receipt_0 rfl rfl ?_
  refine rx_aload_n dX11_receipt_1 rfl rfl ?_
  refine rx_iload_n dX11_receipt_2 rfl ?_
  refine gv_invV (as := [.int _]) hG okX11_isBlock lk_RX11_318 rfl rfl dX11_receipt_3 rfl (by simp [Value.category]) (mf_isBlockO hG h15 hnb hx) ?_
  rintro _ _ ⟨rfl, rfl⟩
  refine rx_if_eq (tgt := 36) dX11_receipt_6 (by decide) (fun h6 => ?_) (fun h6 => (absurd h6 (by decide))) 
  refine rx_iconst (v := nI 1) dX11_receipt_36 rfl ?_
  refine gm_putI hG hf_RX11_160 (gw_nf rfl rfl) rfl dX11_receipt_37 rfl rfl rfl rfl rfl ?_
  refine rx_aload_n dX11_receipt_40 rfl rfl ?_
  refine gmv_getI (v := nI 1) hG hf_RX11_160 rfl dX11_receipt_41 rfl rfl rfl (by simp [rx_ru]) ?_
  refine rx_if_le (tgt := 49) dX11_receipt_44 (by decide) (fun h44 => (absurd h44 (by decide))) (fun h44 => ?_)
  refine rx_lconst (v := 0) dX11_receipt_47 rfl ?_
  exact rx_lret rfl dX11_receipt_48 ⟨rfl, rfl⟩
theorem mf_event_b {G : rx_E} {d : Nat} {C : rx_M} {S : gs_T} (hG : rx_OK G) {nb : Nat} (h15 : S.1 52 15 = nI nb) (hnb : nb ≤ 40) {x : Int32} {y2 : Int32} {y3 : Int32} (hx : wi_out x nb) : rx_C G MX11_event (d + 2) [.ref 52, .int x, .int y2, .int y3] (gl C S) 0 0 (fun vv mu => vv = some (.long 0) ∧ mu = gl C (rx_u S.1 52 0 (nI 1), S.2)) := by
  refine rx_meth0 (by decide +kernel) rfl (Nat.le_of_ble_eq_true rfl) ?_
  refine rx_aload_n dX11_event_0 rfl rfl ?_
  refine rx_aload_n dX11_event_1 rfl rfl ?_
  refine rx_iload_n dX11_event_2 rfl ?_
  refine gv_invV (as := [.int _]) hG okX11_isBlock lk_RX11_318 rfl rfl dX11_event_3 rfl (by simp [Value.category]) (mf_isBlockO hG h15 hnb hx) ?_
  rintro _ _ ⟨rfl, rfl⟩
  refine rx_if_eq (tgt := 36) dX11_event_6 (by decide) (fun h6 => ?_) (fun h6 => (absurd h6 (by decide))) 
  refine rx_iconst (v := nI 1) dX11_event_36 rfl ?_
  refine gm_putI hG hf_RX11_160 (gw_nf rfl rfl) rfl dX11_event_37 rfl rfl rfl rfl rfl ?_
  refine rx_aload_n dX11_event_40 rfl rfl ?_
  refine gmv_getI (v := nI 1) hG hf_RX11_160 rfl dX11_event_41 rfl rfl rfl (by simp [rx_ru]) ?_
  refine rx_if_le (tgt := 49) dX11_event_44 (by decide) (fun h44 => (absurd h44 (by decide))) (fun h44 => ?_)
  refine rx_lconst (v := 0) dX11_event_47 rfl ?_
  exact rx_lret rfl dX11_event_48 ⟨rfl, rfl⟩
theorem mf_leaf_b {G : rx_E} {d : Nat} {C : rx_M} {S : gs_T} (hG : rx_OK G) {nb : Nat} (h15 : S.1 52 15 = nI nb) (hnb : nb ≤ 40) {x : Int32} {y2 : Int32} (hx : wi_out x nb) : rx_C G MX11_leaf (d + 2) [.ref 52, .int x, .int y2] (gl C S) 0 0 (fun vv mu => vv = some (.long 0) ∧ mu = gl C (rx_u S.1 52 0 (nI 1), S.2)) := by
  refine rx_meth0 (by decide +kernel) rfl (Nat.le_of_ble_eq_true rfl) ?_
  refine rx_aload_n dX11_leaf_0 rfl rfl ?_
  refine rx_aload_n dX11_leaf_1 rfl rfl ?_
  refine rx_iload_n dX11_leaf_2 rfl ?_
  refine gv_invV (as := [.int _]) hG okX11_isBlock lk_RX11_318 rfl rfl dX11_leaf_3 rfl (by simp [Value.category]) (mf_isBlockO hG h15 hnb hx) ?_
  rintro _ _ ⟨rfl, rfl⟩
  refine rx_if_eq (tgt := 24) dX11_leaf_6 (by decide) (fun h6 => ?_) (fun h6 => (absurd h6 (by decide))) 
  refine rx_iconst (v := nI 1) dX11_leaf_24 rfl ?_
  refine gm_putI hG hf_RX11_160 (gw_nf rfl rfl) rfl dX11_leaf_25 rfl rfl rfl rfl rfl ?_
  refine rx_aload_n dX11_leaf_28 rfl rfl ?_
  refine gmv_getI (v := nI 1) hG hf_RX11_160 rfl dX11_leaf_29 rfl rfl rfl (by simp [rx_ru]) ?_
  refine rx_if_le (tgt := 39) dX11_leaf_32 (by decide) (fun h32 => (absurd h32 (by decide))) (fun h32 => ?_)
  refine rx_lconst (v := 0) dX11_leaf_35 rfl ?_
  refine rx_goto (tgt := 45) dX11_leaf_36 (by decide) ?_
  exact rx_lret rfl dX11_leaf_45 ⟨rfl, rfl⟩
theorem mf_told_w {G : rx_E} {d : Nat} {C : rx_M} {S : gs_T} (hG : rx_OK G) {nb : Nat} (h15 : S.1 52 15 = nI nb) (hnb : nb ≤ 40) {b : Nat} {x : Int32} (hb : b < nb) (hx : wi_out x 7) : rx_C G MX11_told (d + 2) [.ref 52, .int (nI b), .int x] (gl C S) 0 0 (fun vv mu => vv = some (.int (nI 0)) ∧ mu = gl C (rx_u S.1 52 0 (nI 1), S.2)) := by
  refine rx_meth0 (by decide +kernel) rfl (Nat.le_of_ble_eq_true rfl) ?_
  refine rx_aload_n dX11_told_0 rfl rfl ?_
  refine rx_aload_n dX11_told_1 rfl rfl ?_
  refine rx_iload_n dX11_told_2 rfl ?_
  refine gv_invV (as := [.int _]) hG okX11_isBlock lk_RX11_318 rfl rfl dX11_told_3 rfl (by simp [Value.category]) (mf_isBlock hG h15 hnb hb) ?_
  rintro _ _ ⟨rfl, rfl⟩
  refine rx_if_eq (tgt := 23) dX11_told_6 (by decide) (fun h6 => (absurd h6 (by decide))) (fun h6 => ?_)
  refine rx_iload_n dX11_told_9 rfl ?_
  refine rx_if_lt (tgt := 23) dX11_told_10 (by decide) (fun h10 => ?_) (fun h10 => ?_)
  · refine rx_iconst (v := nI 1) dX11_told_23 rfl ?_
    refine gm_putI hG hf_RX11_160 (gw_nf rfl rfl) rfl dX11_told_24 rfl rfl rfl rfl rfl ?_
    refine rx_aload_n dX11_told_27 rfl rfl ?_
    refine gmv_getI (v := nI 1) hG hf_RX11_160 rfl dX11_told_28 rfl rfl rfl (by simp [rx_ru]) ?_
    refine rx_if_le (tgt := 36) dX11_told_31 (by decide) (fun h31 => (absurd h31 (by decide))) (fun h31 => ?_)
    refine rx_iconst (v := nI 0) dX11_told_34 rfl ?_
    exact rx_iret rfl dX11_told_35 ⟨rfl, rfl⟩
  · refine rx_iload_n dX11_told_13 rfl ?_
    refine rx_bipush (v := nI 6) dX11_told_14 rfl ?_
    refine rx_icmp_gt (tgt := 23) dX11_told_16 (by decide) (fun h16 => ?_) (fun h16 => wi_d2 hx (by decide) (by decide) h10 h16) 
    refine rx_iconst (v := nI 1) dX11_told_23 rfl ?_
    refine gm_putI hG hf_RX11_160 (gw_nf rfl rfl) rfl dX11_told_24 rfl rfl rfl rfl rfl ?_
    refine rx_aload_n dX11_told_27 rfl rfl ?_
    refine gmv_getI (v := nI 1) hG hf_RX11_160 rfl dX11_told_28 rfl rfl rfl (by simp [rx_ru]) ?_
    refine rx_if_le (tgt := 36) dX11_told_31 (by decide) (fun h31 => (absurd h31 (by decide))) (fun h31 => ?_)
    refine rx_iconst (v := nI 0) dX11_told_34 rfl ?_
    exact rx_iret rfl dX11_told_35 ⟨rfl, rfl⟩
theorem mf_told0 {G : rx_E} {d : Nat} {C : rx_M} {S : gs_T} (hG : rx_OK G) {nb : Nat} (h15 : S.1 52 15 = nI nb) (hnb : nb ≤ 40) {b : Nat} {q : wB} (hb : b < nb) (hB : mB1 S b q) : rx_C G MX11_told (d + 2) [.ref 52, .int (nI b), .int (nI 0)] (gl C S) 0 0 (fun vv mu => vv = some (.int (q.1.1)) ∧ mu = gl C (rx_u S.1 52 0 (nI 0), S.2)) := by
  refine rx_meth0 (by decide +kernel) rfl (Nat.le_of_ble_eq_true rfl) ?_
  refine rx_aload_n dX11_told_0 rfl rfl ?_
  refine rx_aload_n dX11_told_1 rfl rfl ?_
  refine rx_iload_n dX11_told_2 rfl ?_
  refine gv_invV (as := [.int _]) hG okX11_isBlock lk_RX11_318 rfl rfl dX11_told_3 rfl (by simp [Value.category]) (mf_isBlock hG h15 hnb hb) ?_
  rintro _ _ ⟨rfl, rfl⟩
  refine rx_if_eq (tgt := 23) dX11_told_6 (by decide) (fun h6 => (absurd h6 (by decide))) (fun h6 => ?_)
  refine rx_iload_n dX11_told_9 rfl ?_
  refine rx_if_lt (tgt := 23) dX11_told_10 (by decide) (fun h10 => (absurd h10 (by decide))) (fun h10 => ?_)
  refine rx_iload_n dX11_told_13 rfl ?_
  refine rx_bipush (v := nI 6) dX11_told_14 rfl ?_
  refine rx_icmp_gt (tgt := 23) dX11_told_16 (by decide) (fun h16 => (absurd h16 (by decide))) (fun h16 => ?_)
  refine rx_iconst (v := nI 0) dX11_told_19 rfl ?_
  refine rx_goto (tgt := 24) dX11_told_20 (by decide) ?_
  refine gm_putI hG hf_RX11_160 (gw_nf rfl rfl) rfl dX11_told_24 rfl rfl rfl rfl rfl ?_
  refine rx_aload_n dX11_told_27 rfl rfl ?_
  refine gmv_getI (v := nI 0) hG hf_RX11_160 rfl dX11_told_28 rfl rfl rfl (by simp [rx_ru]) ?_
  refine rx_if_le (tgt := 36) dX11_told_31 (by decide) (fun h31 => ?_) (fun h31 => (absurd h31 (by decide))) 
  refine rx_iload_n dX11_told_36 rfl ?_
  refine rx_tabIn (tgt := 76) dX11_told_37 (by decide) (by decide) rfl (by decide) ?_
  refine rx_aload_n dX11_told_76 rfl rfl ?_
  refine g_getR hG hf_RX11_45 rfl dX11_told_77 rfl rfl rfl ?_
  refine rx_iload_n dX11_told_80 rfl ?_
  refine gmv_iald (j := b) (v := q.1.1) hG dX11_told_81 rfl rfl rfl rfl (by omega) (by decide) (by simpa [rx_ru] using hB.1.1) ?_
  exact rx_iret rfl dX11_told_82 ⟨rfl, rfl⟩
theorem mf_told1 {G : rx_E} {d : Nat} {C : rx_M} {S : gs_T} (hG : rx_OK G) {nb : Nat} (h15 : S.1 52 15 = nI nb) (hnb : nb ≤ 40) {b : Nat} {q : wB} (hb : b < nb) (hB : mB1 S b q) : rx_C G MX11_told (d + 2) [.ref 52, .int (nI b), .int (nI 1)] (gl C S) 0 0 (fun vv mu => vv = some (.int (nI q.1.2.1)) ∧ mu = gl C (rx_u S.1 52 0 (nI 0), S.2)) := by
  refine rx_meth0 (by decide +kernel) rfl (Nat.le_of_ble_eq_true rfl) ?_
  refine rx_aload_n dX11_told_0 rfl rfl ?_
  refine rx_aload_n dX11_told_1 rfl rfl ?_
  refine rx_iload_n dX11_told_2 rfl ?_
  refine gv_invV (as := [.int _]) hG okX11_isBlock lk_RX11_318 rfl rfl dX11_told_3 rfl (by simp [Value.category]) (mf_isBlock hG h15 hnb hb) ?_
  rintro _ _ ⟨rfl, rfl⟩
  refine rx_if_eq (tgt := 23) dX11_told_6 (by decide) (fun h6 => (absurd h6 (by decide))) (fun h6 => ?_)
  refine rx_iload_n dX11_told_9 rfl ?_
  refine rx_if_lt (tgt := 23) dX11_told_10 (by decide) (fun h10 => (absurd h10 (by decide))) (fun h10 => ?_)
  refine rx_iload_n dX11_told_13 rfl ?_
  refine rx_bipush (v := nI 6) dX11_told_14 rfl ?_
  refine rx_icmp_gt (tgt := 23) dX11_told_16 (by decide) (fun h16 => (absurd h16 (by decide))) (fun h16 => ?_)
  refine rx_iconst (v := nI 0) dX11_told_19 rfl ?_
  refine rx_goto (tgt := 24) dX11_told_20 (by decide) ?_
  refine gm_putI hG hf_RX11_160 (gw_nf rfl rfl) rfl dX11_told_24 rfl rfl rfl rfl rfl ?_
  refine rx_aload_n dX11_told_27 rfl rfl ?_
  refine gmv_getI (v := nI 0) hG hf_RX11_160 rfl dX11_told_28 rfl rfl rfl (by simp [rx_ru]) ?_
  refine rx_if_le (tgt := 36) dX11_told_31 (by decide) (fun h31 => ?_) (fun h31 => (absurd h31 (by decide))) 
  refine rx_iload_n dX11_told_36 rfl ?_
  refine rx_tabIn (tgt := 83) dX11_told_37 (by decide) (by decide) rfl (by decide) ?_
  refine rx_aload_n dX11_told_83 rfl rfl ?_
  refine g_getR hG hf_RX11_48 rfl dX11_told_84 rfl rfl rfl ?_
  refine rx_iload_n dX11_told_87 rfl ?_
  refine gmv_iald (j := b) (v := nI q.1.2.1) hG dX11_told_88 rfl rfl rfl rfl (by omega) (by decide) (by simpa [rx_ru] using hB.1.2.1) ?_
  exact rx_iret rfl dX11_told_89 ⟨rfl, rfl⟩
theorem mf_told2 {G : rx_E} {d : Nat} {C : rx_M} {S : gs_T} (hG : rx_OK G) {nb : Nat} (h15 : S.1 52 15 = nI nb) (hnb : nb ≤ 40) {b : Nat} {q : wB} (hb : b < nb) (hB : mB1 S b q) : rx_C G MX11_told (d + 2) [.ref 52, .int (nI b), .int (nI 2)] (gl C S) 0 0 (fun vv mu => vv = some (.int (nI q.1.2.2.1)) ∧ mu = gl C (rx_u S.1 52 0 (nI 0), S.2)) := by
  refine rx_meth0 (by decide +kernel) rfl (Nat.le_of_ble_eq_true rfl) ?_
  refine rx_aload_n dX11_told_0 rfl rfl ?_
  refine rx_aload_n dX11_told_1 rfl rfl ?_
  refine rx_iload_n dX11_told_2 rfl ?_
  refine gv_invV (as := [.int _]) hG okX11_isBlock lk_RX11_318 rfl rfl dX11_told_3 rfl (by simp [Value.category]) (mf_isBlock hG h15 hnb hb) ?_
  rintro _ _ ⟨rfl, rfl⟩
  refine rx_if_eq (tgt := 23) dX11_told_6 (by decide) (fun h6 => (absurd h6 (by decide))) (fun h6 => ?_)
  refine rx_iload_n dX11_told_9 rfl ?_
  refine rx_if_lt (tgt := 23) dX11_told_10 (by decide) (fun h10 => (absurd h10 (by decide))) (fun h10 => ?_)
  refine rx_iload_n dX11_told_13 rfl ?_
  refine rx_bipush (v := nI 6) dX11_told_14 rfl ?_
  refine rx_icmp_gt (tgt := 23) dX11_told_16 (by decide) (fun h16 => (absurd h16 (by decide))) (fun h16 => ?_)
  refine rx_iconst (v := nI 0) dX11_told_19 rfl ?_
  refine rx_goto (tgt := 24) dX11_told_20 (by decide) ?_
  refine gm_putI hG hf_RX11_160 (gw_nf rfl rfl) rfl dX11_told_24 rfl rfl rfl rfl rfl ?_
  refine rx_aload_n dX11_told_27 rfl rfl ?_
  refine gmv_getI (v := nI 0) hG hf_RX11_160 rfl dX11_told_28 rfl rfl rfl (by simp [rx_ru]) ?_
  refine rx_if_le (tgt := 36) dX11_told_31 (by decide) (fun h31 => ?_) (fun h31 => (absurd h31 (by decide))) 
  refine rx_iload_n dX11_told_36 rfl ?_
  refine rx_tabIn (tgt := 90) dX11_told_37 (by decide) (by decide) rfl (by decide) ?_
  refine rx_aload_n dX11_told_90 rfl rfl ?_
  refine g_getR hG hf_RX11_51 rfl dX11_told_91 rfl rfl rfl ?_
  refine rx_iload_n dX11_told_94 rfl ?_
  refine gmv_iald (j := b) (v := nI q.1.2.2.1) hG dX11_told_95 rfl rfl rfl rfl (by omega) (by decide) (by simpa [rx_ru] using hB.1.2.2.1) ?_
  exact rx_iret rfl dX11_told_96 ⟨rfl, rfl⟩
theorem mf_told3 {G : rx_E} {d : Nat} {C : rx_M} {S : gs_T} (hG : rx_OK G) {nb : Nat} (h15 : S.1 52 15 = nI nb) (hnb : nb ≤ 40) {b : Nat} {q : wB} (hb : b < nb) (hB : mB1 S b q) : rx_C G MX11_told (d + 2) [.ref 52, .int (nI b), .int (nI 3)] (gl C S) 0 0 (fun vv mu => vv = some (.int (nI q.1.2.2.2)) ∧ mu = gl C (rx_u S.1 52 0 (nI 0), S.2)) := by
  refine rx_meth0 (by decide +kernel) rfl (Nat.le_of_ble_eq_true rfl) ?_
  refine rx_aload_n dX11_told_0 rfl rfl ?_
  refine rx_aload_n dX11_told_1 rfl rfl ?_
  refine rx_iload_n dX11_told_2 rfl ?_
  refine gv_invV (as := [.int _]) hG okX11_isBlock lk_RX11_318 rfl rfl dX11_told_3 rfl (by simp [Value.category]) (mf_isBlock hG h15 hnb hb) ?_
  rintro _ _ ⟨rfl, rfl⟩
  refine rx_if_eq (tgt := 23) dX11_told_6 (by decide) (fun h6 => (absurd h6 (by decide))) (fun h6 => ?_)
  refine rx_iload_n dX11_told_9 rfl ?_
  refine rx_if_lt (tgt := 23) dX11_told_10 (by decide) (fun h10 => (absurd h10 (by decide))) (fun h10 => ?_)
  refine rx_iload_n dX11_told_13 rfl ?_
  refine rx_bipush (v := nI 6) dX11_told_14 rfl ?_
  refine rx_icmp_gt (tgt := 23) dX11_told_16 (by decide) (fun h16 => (absurd h16 (by decide))) (fun h16 => ?_)
  refine rx_iconst (v := nI 0) dX11_told_19 rfl ?_
  refine rx_goto (tgt := 24) dX11_told_20 (by decide) ?_
  refine gm_putI hG hf_RX11_160 (gw_nf rfl rfl) rfl dX11_told_24 rfl rfl rfl rfl rfl ?_
  refine rx_aload_n dX11_told_27 rfl rfl ?_
  refine gmv_getI (v := nI 0) hG hf_RX11_160 rfl dX11_told_28 rfl rfl rfl (by simp [rx_ru]) ?_
  refine rx_if_le (tgt := 36) dX11_told_31 (by decide) (fun h31 => ?_) (fun h31 => (absurd h31 (by decide))) 
  refine rx_iload_n dX11_told_36 rfl ?_
  refine rx_tabIn (tgt := 97) dX11_told_37 (by decide) (by decide) rfl (by decide) ?_
  refine rx_aload_n dX11_told_97 rfl rfl ?_
  refine g_getR hG hf_RX11_54 rfl dX11_told_98 rfl rfl rfl ?_
  refine rx_iload_n dX11_told_101 rfl ?_
  refine gmv_iald (j := b) (v := nI q.1.2.2.2) hG dX11_told_102 rfl rfl rfl rfl (by omega) (by decide) (by simpa [rx_ru] using hB.1.2.2.2.1) ?_
  exact rx_iret rfl dX11_told_103 ⟨rfl, rfl⟩
theorem mf_told4 {G : rx_E} {d : Nat} {C : rx_M} {S : gs_T} (hG : rx_OK G) {nb : Nat} (h15 : S.1 52 15 = nI nb) (hnb : nb ≤ 40) {b : Nat} {q : wB} (hb : b < nb) (hB : mB1 S b q) : rx_C G MX11_told (d + 2) [.ref 52, .int (nI b), .int (nI 4)] (gl C S) 0 0 (fun vv mu => vv = some (.int (q.2.2.2.2.1)) ∧ mu = gl C (rx_u S.1 52 0 (nI 0), S.2)) := by
  refine rx_meth0 (by decide +kernel) rfl (Nat.le_of_ble_eq_true rfl) ?_
  refine rx_aload_n dX11_told_0 rfl rfl ?_
  refine rx_aload_n dX11_told_1 rfl rfl ?_
  refine rx_iload_n dX11_told_2 rfl ?_
  refine gv_invV (as := [.int _]) hG okX11_isBlock lk_RX11_318 rfl rfl dX11_told_3 rfl (by simp [Value.category]) (mf_isBlock hG h15 hnb hb) ?_
  rintro _ _ ⟨rfl, rfl⟩
  refine rx_if_eq (tgt := 23) dX11_told_6 (by decide) (fun h6 => (absurd h6 (by decide))) (fun h6 => ?_)
  refine rx_iload_n dX11_told_9 rfl ?_
  refine rx_if_lt (tgt := 23) dX11_told_10 (by decide) (fun h10 => (absurd h10 (by decide))) (fun h10 => ?_)
  refine rx_iload_n dX11_told_13 rfl ?_
  refine rx_bipush (v := nI 6) dX11_told_14 rfl ?_
  refine rx_icmp_gt (tgt := 23) dX11_told_16 (by decide) (fun h16 => (absurd h16 (by decide))) (fun h16 => ?_)
  refine rx_iconst (v := nI 0) dX11_told_19 rfl ?_
  refine rx_goto (tgt := 24) dX11_told_20 (by decide) ?_
  refine gm_putI hG hf_RX11_160 (gw_nf rfl rfl) rfl dX11_told_24 rfl rfl rfl rfl rfl ?_
  refine rx_aload_n dX11_told_27 rfl rfl ?_
  refine gmv_getI (v := nI 0) hG hf_RX11_160 rfl dX11_told_28 rfl rfl rfl (by simp [rx_ru]) ?_
  refine rx_if_le (tgt := 36) dX11_told_31 (by decide) (fun h31 => ?_) (fun h31 => (absurd h31 (by decide))) 
  refine rx_iload_n dX11_told_36 rfl ?_
  refine rx_tabIn (tgt := 104) dX11_told_37 (by decide) (by decide) rfl (by decide) ?_
  refine rx_aload_n dX11_told_104 rfl rfl ?_
  refine g_getR hG hf_RX11_57 rfl dX11_told_105 rfl rfl rfl ?_
  refine rx_iload_n dX11_told_108 rfl ?_
  refine gmv_iald (j := b) (v := q.2.2.2.2.1) hG dX11_told_109 rfl rfl rfl rfl (by omega) (by decide) (by simpa [rx_ru] using hB.1.2.2.2.2.1) ?_
  exact rx_iret rfl dX11_told_110 ⟨rfl, rfl⟩
theorem mf_told5 {G : rx_E} {d : Nat} {C : rx_M} {S : gs_T} (hG : rx_OK G) {nb : Nat} (h15 : S.1 52 15 = nI nb) (hnb : nb ≤ 40) {b : Nat} {q : wB} (hb : b < nb) (hB : mB1 S b q) : rx_C G MX11_told (d + 2) [.ref 52, .int (nI b), .int (nI 5)] (gl C S) 0 0 (fun vv mu => vv = some (.int (nI q.2.2.2.2.2)) ∧ mu = gl C (rx_u S.1 52 0 (nI 0), S.2)) := by
  refine rx_meth0 (by decide +kernel) rfl (Nat.le_of_ble_eq_true rfl) ?_
  refine rx_aload_n dX11_told_0 rfl rfl ?_
  refine rx_aload_n dX11_told_1 rfl rfl ?_
  refine rx_iload_n dX11_told_2 rfl ?_
  refine gv_invV (as := [.int _]) hG okX11_isBlock lk_RX11_318 rfl rfl dX11_told_3 rfl (by simp [Value.category]) (mf_isBlock hG h15 hnb hb) ?_
  rintro _ _ ⟨rfl, rfl⟩
  refine rx_if_eq (tgt := 23) dX11_told_6 (by decide) (fun h6 => (absurd h6 (by decide))) (fun h6 => ?_)
  refine rx_iload_n dX11_told_9 rfl ?_
  refine rx_if_lt (tgt := 23) dX11_told_10 (by decide) (fun h10 => (absurd h10 (by decide))) (fun h10 => ?_)
  refine rx_iload_n dX11_told_13 rfl ?_
  refine rx_bipush (v := nI 6) dX11_told_14 rfl ?_
  refine rx_icmp_gt (tgt := 23) dX11_told_16 (by decide) (fun h16 => (absurd h16 (by decide))) (fun h16 => ?_)
  refine rx_iconst (v := nI 0) dX11_told_19 rfl ?_
  refine rx_goto (tgt := 24) dX11_told_20 (by decide) ?_
  refine gm_putI hG hf_RX11_160 (gw_nf rfl rfl) rfl dX11_told_24 rfl rfl rfl rfl rfl ?_
  refine rx_aload_n dX11_told_27 rfl rfl ?_
  refine gmv_getI (v := nI 0) hG hf_RX11_160 rfl dX11_told_28 rfl rfl rfl (by simp [rx_ru]) ?_
  refine rx_if_le (tgt := 36) dX11_told_31 (by decide) (fun h31 => ?_) (fun h31 => (absurd h31 (by decide))) 
  refine rx_iload_n dX11_told_36 rfl ?_
  refine rx_tabIn (tgt := 111) dX11_told_37 (by decide) (by decide) rfl (by decide) ?_
  refine rx_aload_n dX11_told_111 rfl rfl ?_
  refine g_getR hG hf_RX11_60 rfl dX11_told_112 rfl rfl rfl ?_
  refine rx_iload_n dX11_told_115 rfl ?_
  refine gmv_iald (j := b) (v := nI q.2.2.2.2.2) hG dX11_told_116 rfl rfl rfl rfl (by omega) (by decide) (by simpa [rx_ru] using hB.1.2.2.2.2.2) ?_
  exact rx_iret rfl dX11_told_117 ⟨rfl, rfl⟩
theorem mf_told6 {G : rx_E} {d : Nat} {C : rx_M} {S : gs_T} (hG : rx_OK G) {nb : Nat} (h15 : S.1 52 15 = nI nb) (hnb : nb ≤ 40) {b : Nat} {ce : Bool} (hb : b < nb) (hce : S.1 70 b = bI ce) : rx_C G MX11_told (d + 2) [.ref 52, .int (nI b), .int (nI 6)] (gl C S) 0 0 (fun vv mu => vv = some (.int (bI ce)) ∧ mu = gl C (rx_u S.1 52 0 (nI 0), S.2)) := by
  refine rx_meth0 (by decide +kernel) rfl (Nat.le_of_ble_eq_true rfl) ?_
  refine rx_aload_n dX11_told_0 rfl rfl ?_
  refine rx_aload_n dX11_told_1 rfl rfl ?_
  refine rx_iload_n dX11_told_2 rfl ?_
  refine gv_invV (as := [.int _]) hG okX11_isBlock lk_RX11_318 rfl rfl dX11_told_3 rfl (by simp [Value.category]) (mf_isBlock hG h15 hnb hb) ?_
  rintro _ _ ⟨rfl, rfl⟩
  refine rx_if_eq (tgt := 23) dX11_told_6 (by decide) (fun h6 => (absurd h6 (by decide))) (fun h6 => ?_)
  refine rx_iload_n dX11_told_9 rfl ?_
  refine rx_if_lt (tgt := 23) dX11_told_10 (by decide) (fun h10 => (absurd h10 (by decide))) (fun h10 => ?_)
  refine rx_iload_n dX11_told_13 rfl ?_
  refine rx_bipush (v := nI 6) dX11_told_14 rfl ?_
  refine rx_icmp_gt (tgt := 23) dX11_told_16 (by decide) (fun h16 => (absurd h16 (by decide))) (fun h16 => ?_)
  refine rx_iconst (v := nI 0) dX11_told_19 rfl ?_
  refine rx_goto (tgt := 24) dX11_told_20 (by decide) ?_
  refine gm_putI hG hf_RX11_160 (gw_nf rfl rfl) rfl dX11_told_24 rfl rfl rfl rfl rfl ?_
  refine rx_aload_n dX11_told_27 rfl rfl ?_
  refine gmv_getI (v := nI 0) hG hf_RX11_160 rfl dX11_told_28 rfl rfl rfl (by simp [rx_ru]) ?_
  refine rx_if_le (tgt := 36) dX11_told_31 (by decide) (fun h31 => ?_) (fun h31 => (absurd h31 (by decide))) 
  refine rx_iload_n dX11_told_36 rfl ?_
  refine rx_tabOut (tgt := 118) dX11_told_37 (by decide) (by decide) ?_
  refine rx_aload_n dX11_told_118 rfl rfl ?_
  refine g_getR hG hf_RX11_63 rfl dX11_told_119 rfl rfl rfl ?_
  refine rx_iload_n dX11_told_122 rfl ?_
  refine gmv_zald (j := b) (v := bI ce) hG dX11_told_123 rfl rfl rfl rfl (by omega) (by decide) (by simpa [rx_ru] using hce) ?_
  refine rx_if_eq (tgt := 131) dX11_told_124 (by decide) (fun h124 => ?_) (fun h124 => ?_)
  · refine rx_iconst (v := nI 0) dX11_told_131 rfl ?_
    exact rx_iret rfl dX11_told_132 ⟨by cases ce; (first | rfl | exact absurd rfl h124); (first | rfl | exact absurd h124 (by decide)), rfl⟩
  · refine rx_iconst (v := nI 1) dX11_told_127 rfl ?_
    refine rx_goto (tgt := 132) dX11_told_128 (by decide) ?_
    exact rx_iret rfl dX11_told_132 ⟨by cases ce; (first | rfl | exact absurd rfl h124); (first | rfl | exact absurd h124 (by decide)), rfl⟩
theorem mf_receipt_i {G : rx_E} {d : Nat} {C : rx_M} {S : gs_T} (hG : rx_OK G) {nb : Nat} (h15 : S.1 52 15 = nI nb) (hnb : nb ≤ 40) {b : Nat} {q : wB} (hb : b < nb) (hB : mB1 S b q) {x y : Int32} (hx : wi_out x q.1.2.2.1) : rx_C G MX11_receipt (d + 2) [.ref 52, .int (nI b), .int x, .int y] (gl C S) 0 0 (fun vv mu => vv = some (.long 0) ∧ mu = gl C (rx_u S.1 52 0 (nI 1), S.2)) := by
  refine rx_meth0 (by decide +kernel) rfl (Nat.le_of_ble_eq_true rfl) ?_
  refine rx_aload_n dX11_receipt_0 rfl rfl ?_
  refine rx_aload_n dX11_receipt_1 rfl rfl ?_
  refine rx_iload_n dX11_receipt_2 rfl ?_
  refine gv_invV (as := [.int _]) hG okX11_isBlock lk_RX11_318 rfl rfl dX11_receipt_3 rfl (by simp [Value.category]) (mf_isBlock hG h15 hnb hb) ?_
  rintro _ _ ⟨rfl, rfl⟩
  refine rx_if_eq (tgt := 36) dX11_receipt_6 (by decide) (fun h6 => (absurd h6 (by decide))) (fun h6 => ?_)
  refine rx_iload_n dX11_receipt_9 rfl ?_
  refine rx_if_lt (tgt := 36) dX11_receipt_10 (by decide) (fun h10 => ?_) (fun h10 => ?_)
  · refine rx_iconst (v := nI 1) dX11_receipt_36 rfl ?_
    refine gm_putI hG hf_RX11_160 (gw_nf rfl rfl) rfl dX11_receipt_37 rfl rfl rfl rfl rfl ?_
    refine rx_aload_n dX11_receipt_40 rfl rfl ?_
    refine gmv_getI (v := nI 1) hG hf_RX11_160 rfl dX11_receipt_41 rfl rfl rfl (by simp [rx_ru]) ?_
    refine rx_if_le (tgt := 49) dX11_receipt_44 (by decide) (fun h44 => (absurd h44 (by decide))) (fun h44 => ?_)
    refine rx_lconst (v := 0) dX11_receipt_47 rfl ?_
    exact rx_lret rfl dX11_receipt_48 ⟨rfl, rfl⟩
  · refine rx_iload_n dX11_receipt_13 rfl ?_
    refine rx_if_lt (tgt := 36) dX11_receipt_14 (by decide) (fun h14 => ?_) (fun h14 => ?_)
    · refine rx_iconst (v := nI 1) dX11_receipt_36 rfl ?_
      refine gm_putI hG hf_RX11_160 (gw_nf rfl rfl) rfl dX11_receipt_37 rfl rfl rfl rfl rfl ?_
      refine rx_aload_n dX11_receipt_40 rfl rfl ?_
      refine gmv_getI (v := nI 1) hG hf_RX11_160 rfl dX11_receipt_41 rfl rfl rfl (by simp [rx_ru]) ?_
      refine rx_if_le (tgt := 49) dX11_receipt_44 (by decide) (fun h44 => (absurd h44 (by decide))) (fun h44 => ?_)
      refine rx_lconst (v := 0) dX11_receipt_47 rfl ?_
      exact rx_lret rfl dX11_receipt_48 ⟨rfl, rfl⟩
    · refine rx_iload_n dX11_receipt_17 rfl ?_
      refine rx_iconst (v := nI 2) dX11_receipt_18 rfl ?_
      refine rx_icmp_gt (tgt := 36) dX11_receipt_19 (by decide) (fun h19 => ?_) (fun h19 => ?_)
      · refine rx_iconst (v := nI 1) dX11_receipt_36 rfl ?_
        refine gm_putI hG hf_RX11_160 (gw_nf rfl rfl) rfl dX11_receipt_37 rfl rfl rfl rfl rfl ?_
        refine rx_aload_n dX11_receipt_40 rfl rfl ?_
        refine gmv_getI (v := nI 1) hG hf_RX11_160 rfl dX11_receipt_41 rfl rfl rfl (by simp [rx_ru]) ?_
        refine rx_if_le (tgt := 49) dX11_receipt_44 (by decide) (fun h44 => (absurd h44 (by decide))) (fun h44 => ?_)
        refine rx_lconst (v := 0) dX11_receipt_47 rfl ?_
        exact rx_lret rfl dX11_receipt_48 ⟨rfl, rfl⟩
      · refine rx_iload_n dX11_receipt_22 rfl ?_
        refine rx_aload_n dX11_receipt_23 rfl rfl ?_
        refine g_getR hG hf_RX11_51 rfl dX11_receipt_24 rfl rfl rfl ?_
        refine rx_iload_n dX11_receipt_27 rfl ?_
        refine gmv_iald (j := b) (v := nI q.1.2.2.1) hG dX11_receipt_28 rfl rfl rfl rfl (by omega) (by decide) hB.1.2.2.1 ?_
        refine rx_icmp_ge (tgt := 36) dX11_receipt_29 (by decide) (fun h29 => ?_) (fun h29 => wi_d1 hx h10 h29) 
        refine rx_iconst (v := nI 1) dX11_receipt_36 rfl ?_
        refine gm_putI hG hf_RX11_160 (gw_nf rfl rfl) rfl dX11_receipt_37 rfl rfl rfl rfl rfl ?_
        refine rx_aload_n dX11_receipt_40 rfl rfl ?_
        refine gmv_getI (v := nI 1) hG hf_RX11_160 rfl dX11_receipt_41 rfl rfl rfl (by simp [rx_ru]) ?_
        refine rx_if_le (tgt := 49) dX11_receipt_44 (by decide) (fun h44 => (absurd h44 (by decide))) (fun h44 => ?_)
        refine rx_lconst (v := 0) dX11_receipt_47 rfl ?_
        exact rx_lret rfl dX11_receipt_48 ⟨rfl, rfl⟩
theorem mf_receipt_w {G : rx_E} {d : Nat} {C : rx_M} {S : gs_T} (hG : rx_OK G) {nb : Nat} (h15 : S.1 52 15 = nI nb) (hnb : nb ≤ 40) {b : Nat} {q : wB} (hb : b < nb) (hB : mB1 S b q) {i : Nat} {y : Int32} (hm : q.1.2.2.1 ≤ 60) (hi : i < q.1.2.2.1) (hy : wi_out y 3) : rx_C G MX11_receipt (d + 2) [.ref 52, .int (nI b), .int (nI i), .int y] (gl C S) 0 0 (fun vv mu => vv = some (.long 0) ∧ mu = gl C (rx_u S.1 52 0 (nI 1), S.2)) := by
  refine rx_meth0 (by decide +kernel) rfl (Nat.le_of_ble_eq_true rfl) ?_
  refine rx_aload_n dX11_receipt_0 rfl rfl ?_
  refine rx_aload_n dX11_receipt_1 rfl rfl ?_
  refine rx_iload_n dX11_receipt_2 rfl ?_
  refine gv_invV (as := [.int _]) hG okX11_isBlock lk_RX11_318 rfl rfl dX11_receipt_3 rfl (by simp [Value.category]) (mf_isBlock hG h15 hnb hb) ?_
  rintro _ _ ⟨rfl, rfl⟩
  refine rx_if_eq (tgt := 36) dX11_receipt_6 (by decide) (fun h6 => (absurd h6 (by decide))) (fun h6 => ?_)
  refine rx_iload_n dX11_receipt_9 rfl ?_
  refine rx_if_lt (tgt := 36) dX11_receipt_10 (by decide) (fun h10 => (absurd h10 (nI_pos (by omega)))) (fun h10 => ?_)
  refine rx_iload_n dX11_receipt_13 rfl ?_
  refine rx_if_lt (tgt := 36) dX11_receipt_14 (by decide) (fun h14 => ?_) (fun h14 => ?_)
  · refine rx_iconst (v := nI 1) dX11_receipt_36 rfl ?_
    refine gm_putI hG hf_RX11_160 (gw_nf rfl rfl) rfl dX11_receipt_37 rfl rfl rfl rfl rfl ?_
    refine rx_aload_n dX11_receipt_40 rfl rfl ?_
    refine gmv_getI (v := nI 1) hG hf_RX11_160 rfl dX11_receipt_41 rfl rfl rfl (by simp [rx_ru]) ?_
    refine rx_if_le (tgt := 49) dX11_receipt_44 (by decide) (fun h44 => (absurd h44 (by decide))) (fun h44 => ?_)
    refine rx_lconst (v := 0) dX11_receipt_47 rfl ?_
    exact rx_lret rfl dX11_receipt_48 ⟨rfl, rfl⟩
  · refine rx_iload_n dX11_receipt_17 rfl ?_
    refine rx_iconst (v := nI 2) dX11_receipt_18 rfl ?_
    refine rx_icmp_gt (tgt := 36) dX11_receipt_19 (by decide) (fun h19 => ?_) (fun h19 => wi_d2 hy (by decide) (by decide) h14 h19) 
    refine rx_iconst (v := nI 1) dX11_receipt_36 rfl ?_
    refine gm_putI hG hf_RX11_160 (gw_nf rfl rfl) rfl dX11_receipt_37 rfl rfl rfl rfl rfl ?_
    refine rx_aload_n dX11_receipt_40 rfl rfl ?_
    refine gmv_getI (v := nI 1) hG hf_RX11_160 rfl dX11_receipt_41 rfl rfl rfl (by simp [rx_ru]) ?_
    refine rx_if_le (tgt := 49) dX11_receipt_44 (by decide) (fun h44 => (absurd h44 (by decide))) (fun h44 => ?_)
    refine rx_lconst (v := 0) dX11_receipt_47 rfl ?_
    exact rx_lret rfl dX11_receipt_48 ⟨rfl, rfl⟩
theorem mf_receipt0 {G : rx_E} {d : Nat} {C : rx_M} {S : gs_T} (hG : rx_OK G) {nb : Nat} (h15 : S.1 52 15 = nI nb) (hnb : nb ≤ 40) {b : Nat} {q : wB} (hb : b < nb) (hB : mB1 S b q) {i : Nat} (hm : q.1.2.2.1 ≤ 10) (hi : i < q.1.2.2.1) {u : Nat} (hul : u < 2 ^ 31) (hu : S.1 72 (10 * b + i) = nI u) : rx_C G MX11_receipt (d + 2) [.ref 52, .int (nI b), .int (nI i), .int (nI 0)] (gl C S) 0 0 (fun vv mu => vv = some (.long (lN u)) ∧ mu = gl C (rx_u S.1 52 0 (nI 0), S.2)) := by
  refine rx_meth0 (by decide +kernel) rfl (Nat.le_of_ble_eq_true rfl) ?_
  refine rx_aload_n dX11_receipt_0 rfl rfl ?_
  refine rx_aload_n dX11_receipt_1 rfl rfl ?_
  refine rx_iload_n dX11_receipt_2 rfl ?_
  refine gv_invV (as := [.int _]) hG okX11_isBlock lk_RX11_318 rfl rfl dX11_receipt_3 rfl (by simp [Value.category]) (mf_isBlock hG h15 hnb hb) ?_
  rintro _ _ ⟨rfl, rfl⟩
  refine rx_if_eq (tgt := 36) dX11_receipt_6 (by decide) (fun h6 => (absurd h6 (by decide))) (fun h6 => ?_)
  refine rx_iload_n dX11_receipt_9 rfl ?_
  refine rx_if_lt (tgt := 36) dX11_receipt_10 (by decide) (fun h10 => (absurd h10 (nI_pos (by omega)))) (fun h10 => ?_)
  refine rx_iload_n dX11_receipt_13 rfl ?_
  refine rx_if_lt (tgt := 36) dX11_receipt_14 (by decide) (fun h14 => (absurd h14 (by decide))) (fun h14 => ?_)
  refine rx_iload_n dX11_receipt_17 rfl ?_
  refine rx_iconst (v := nI 2) dX11_receipt_18 rfl ?_
  refine rx_icmp_gt (tgt := 36) dX11_receipt_19 (by decide) (fun h19 => (absurd h19 (by decide))) (fun h19 => ?_)
  refine rx_iload_n dX11_receipt_22 rfl ?_
  refine rx_aload_n dX11_receipt_23 rfl rfl ?_
  refine g_getR hG hf_RX11_51 rfl dX11_receipt_24 rfl rfl rfl ?_
  refine rx_iload_n dX11_receipt_27 rfl ?_
  refine gmv_iald (j := b) (v := nI q.1.2.2.1) hG dX11_receipt_28 rfl rfl rfl rfl (by omega) (by decide) hB.1.2.2.1 ?_
  refine rx_icmp_ge (tgt := 36) dX11_receipt_29 (by decide) (fun h29 => (absurd h29 (by rw [nI_leI (by omega) (by omega)]; omega))) (fun h29 => ?_)
  refine rx_iconst (v := nI 0) dX11_receipt_32 rfl ?_
  refine rx_goto (tgt := 37) dX11_receipt_33 (by decide) ?_
  refine gm_putI hG hf_RX11_160 (gw_nf rfl rfl) rfl dX11_receipt_37 rfl rfl rfl rfl rfl ?_
  refine rx_aload_n dX11_receipt_40 rfl rfl ?_
  refine gmv_getI (v := nI 0) hG hf_RX11_160 rfl dX11_receipt_41 rfl rfl rfl (by simp [rx_ru]) ?_
  refine rx_if_le (tgt := 49) dX11_receipt_44 (by decide) (fun h44 => ?_) (fun h44 => (absurd h44 (by decide))) 
  refine rx_bipush (v := nI 10) dX11_receipt_49 rfl ?_
  refine rx_iload_n dX11_receipt_51 rfl ?_
  refine rx_imul dX11_receipt_52 ?_
  refine rx_ti (y := nI (10 * b)) ((pk_mul _ _).trans (congrArg nI (by omega))) ?_
  refine rx_iload_n dX11_receipt_53 rfl ?_
  refine rx_iadd dX11_receipt_54 ?_
  refine rx_ti (y := nI (10 * b + i)) ((nI_add _ _).trans (congrArg nI (by omega))) ?_
  refine rx_istore dX11_receipt_55 (by decide) ?_
  refine rx_iload_n dX11_receipt_57 rfl ?_
  refine rx_if_ne (tgt := 72) dX11_receipt_58 (by decide) (fun h58 => (absurd h58 (by decide))) (fun h58 => ?_)
  refine rx_aload_n dX11_receipt_61 rfl rfl ?_
  refine g_getR hG hf_RX11_69 rfl dX11_receipt_62 rfl rfl rfl ?_
  refine rx_iload dX11_receipt_65 rfl ?_
  refine gmv_iald (j := 10 * b + i) (v := nI u) hG dX11_receipt_67 rfl rfl rfl rfl (by omega) (by decide) (by simpa [rx_ru] using hu) ?_
  refine rx_i2l dX11_receipt_68 ?_
  refine rx_tl (y := lN u) (nI_l (by omega)) ?_
  refine rx_goto (tgt := 95) dX11_receipt_69 (by decide) ?_
  exact rx_lret rfl dX11_receipt_95 ⟨rfl, rfl⟩
theorem mf_receipt1 {G : rx_E} {d : Nat} {C : rx_M} {S : gs_T} (hG : rx_OK G) {nb : Nat} (h15 : S.1 52 15 = nI nb) (hnb : nb ≤ 40) {b : Nat} {q : wB} (hb : b < nb) (hB : mB1 S b q) {i : Nat} (hm : q.1.2.2.1 ≤ 10) (hi : i < q.1.2.2.1) {u : Int32} (hu : S.1 73 (10 * b + i) = u) : rx_C G MX11_receipt (d + 2) [.ref 52, .int (nI b), .int (nI i), .int (nI 1)] (gl C S) 0 0 (fun vv mu => vv = some (.long (u.toInt64)) ∧ mu = gl C (rx_u S.1 52 0 (nI 0), S.2)) := by
  refine rx_meth0 (by decide +kernel) rfl (Nat.le_of_ble_eq_true rfl) ?_
  refine rx_aload_n dX11_receipt_0 rfl rfl ?_
  refine rx_aload_n dX11_receipt_1 rfl rfl ?_
  refine rx_iload_n dX11_receipt_2 rfl ?_
  refine gv_invV (as := [.int _]) hG okX11_isBlock lk_RX11_318 rfl rfl dX11_receipt_3 rfl (by simp [Value.category]) (mf_isBlock hG h15 hnb hb) ?_
  rintro _ _ ⟨rfl, rfl⟩
  refine rx_if_eq (tgt := 36) dX11_receipt_6 (by decide) (fun h6 => (absurd h6 (by decide))) (fun h6 => ?_)
  refine rx_iload_n dX11_receipt_9 rfl ?_
  refine rx_if_lt (tgt := 36) dX11_receipt_10 (by decide) (fun h10 => (absurd h10 (nI_pos (by omega)))) (fun h10 => ?_)
  refine rx_iload_n dX11_receipt_13 rfl ?_
  refine rx_if_lt (tgt := 36) dX11_receipt_14 (by decide) (fun h14 => (absurd h14 (by decide))) (fun h14 => ?_)
  refine rx_iload_n dX11_receipt_17 rfl ?_
  refine rx_iconst (v := nI 2) dX11_receipt_18 rfl ?_
  refine rx_icmp_gt (tgt := 36) dX11_receipt_19 (by decide) (fun h19 => (absurd h19 (by decide))) (fun h19 => ?_)
  refine rx_iload_n dX11_receipt_22 rfl ?_
  refine rx_aload_n dX11_receipt_23 rfl rfl ?_
  refine g_getR hG hf_RX11_51 rfl dX11_receipt_24 rfl rfl rfl ?_
  refine rx_iload_n dX11_receipt_27 rfl ?_
  refine gmv_iald (j := b) (v := nI q.1.2.2.1) hG dX11_receipt_28 rfl rfl rfl rfl (by omega) (by decide) hB.1.2.2.1 ?_
  refine rx_icmp_ge (tgt := 36) dX11_receipt_29 (by decide) (fun h29 => (absurd h29 (by rw [nI_leI (by omega) (by omega)]; omega))) (fun h29 => ?_)
  refine rx_iconst (v := nI 0) dX11_receipt_32 rfl ?_
  refine rx_goto (tgt := 37) dX11_receipt_33 (by decide) ?_
  refine gm_putI hG hf_RX11_160 (gw_nf rfl rfl) rfl dX11_receipt_37 rfl rfl rfl rfl rfl ?_
  refine rx_aload_n dX11_receipt_40 rfl rfl ?_
  refine gmv_getI (v := nI 0) hG hf_RX11_160 rfl dX11_receipt_41 rfl rfl rfl (by simp [rx_ru]) ?_
  refine rx_if_le (tgt := 49) dX11_receipt_44 (by decide) (fun h44 => ?_) (fun h44 => (absurd h44 (by decide))) 
  refine rx_bipush (v := nI 10) dX11_receipt_49 rfl ?_
  refine rx_iload_n dX11_receipt_51 rfl ?_
  refine rx_imul dX11_receipt_52 ?_
  refine rx_ti (y := nI (10 * b)) ((pk_mul _ _).trans (congrArg nI (by omega))) ?_
  refine rx_iload_n dX11_receipt_53 rfl ?_
  refine rx_iadd dX11_receipt_54 ?_
  refine rx_ti (y := nI (10 * b + i)) ((nI_add _ _).trans (congrArg nI (by omega))) ?_
  refine rx_istore dX11_receipt_55 (by decide) ?_
  refine rx_iload_n dX11_receipt_57 rfl ?_
  refine rx_if_ne (tgt := 72) dX11_receipt_58 (by decide) (fun h58 => ?_) (fun h58 => (absurd h58 (by decide))) 
  refine rx_iload_n dX11_receipt_72 rfl ?_
  refine rx_iconst (v := nI 1) dX11_receipt_73 rfl ?_
  refine rx_icmp_ne (tgt := 88) dX11_receipt_74 (by decide) (fun h74 => (absurd h74 (by decide))) (fun h74 => ?_)
  refine rx_aload_n dX11_receipt_77 rfl rfl ?_
  refine g_getR hG hf_RX11_72 rfl dX11_receipt_78 rfl rfl rfl ?_
  refine rx_iload dX11_receipt_81 rfl ?_
  refine gmv_iald (j := 10 * b + i) (v := u) hG dX11_receipt_83 rfl rfl rfl rfl (by omega) (by decide) (by simpa [rx_ru] using hu) ?_
  refine rx_i2l dX11_receipt_84 ?_
  refine rx_goto (tgt := 95) dX11_receipt_85 (by decide) ?_
  exact rx_lret rfl dX11_receipt_95 ⟨rfl, rfl⟩
theorem mf_receipt2 {G : rx_E} {d : Nat} {C : rx_M} {S : gs_T} (hG : rx_OK G) {nb : Nat} (h15 : S.1 52 15 = nI nb) (hnb : nb ≤ 40) {b : Nat} {q : wB} (hb : b < nb) (hB : mB1 S b q) {i : Nat} (hm : q.1.2.2.1 ≤ 10) (hi : i < q.1.2.2.1) {u : Int64} (hu : S.2 74 (10 * b + i) = u) : rx_C G MX11_receipt (d + 2) [.ref 52, .int (nI b), .int (nI i), .int (nI 2)] (gl C S) 0 0 (fun vv mu => vv = some (.long (u)) ∧ mu = gl C (rx_u S.1 52 0 (nI 0), S.2)) := by
  refine rx_meth0 (by decide +kernel) rfl (Nat.le_of_ble_eq_true rfl) ?_
  refine rx_aload_n dX11_receipt_0 rfl rfl ?_
  refine rx_aload_n dX11_receipt_1 rfl rfl ?_
  refine rx_iload_n dX11_receipt_2 rfl ?_
  refine gv_invV (as := [.int _]) hG okX11_isBlock lk_RX11_318 rfl rfl dX11_receipt_3 rfl (by simp [Value.category]) (mf_isBlock hG h15 hnb hb) ?_
  rintro _ _ ⟨rfl, rfl⟩
  refine rx_if_eq (tgt := 36) dX11_receipt_6 (by decide) (fun h6 => (absurd h6 (by decide))) (fun h6 => ?_)
  refine rx_iload_n dX11_receipt_9 rfl ?_
  refine rx_if_lt (tgt := 36) dX11_receipt_10 (by decide) (fun h10 => (absurd h10 (nI_pos (by omega)))) (fun h10 => ?_)
  refine rx_iload_n dX11_receipt_13 rfl ?_
  refine rx_if_lt (tgt := 36) dX11_receipt_14 (by decide) (fun h14 => (absurd h14 (by decide))) (fun h14 => ?_)
  refine rx_iload_n dX11_receipt_17 rfl ?_
  refine rx_iconst (v := nI 2) dX11_receipt_18 rfl ?_
  refine rx_icmp_gt (tgt := 36) dX11_receipt_19 (by decide) (fun h19 => (absurd h19 (by decide))) (fun h19 => ?_)
  refine rx_iload_n dX11_receipt_22 rfl ?_
  refine rx_aload_n dX11_receipt_23 rfl rfl ?_
  refine g_getR hG hf_RX11_51 rfl dX11_receipt_24 rfl rfl rfl ?_
  refine rx_iload_n dX11_receipt_27 rfl ?_
  refine gmv_iald (j := b) (v := nI q.1.2.2.1) hG dX11_receipt_28 rfl rfl rfl rfl (by omega) (by decide) hB.1.2.2.1 ?_
  refine rx_icmp_ge (tgt := 36) dX11_receipt_29 (by decide) (fun h29 => (absurd h29 (by rw [nI_leI (by omega) (by omega)]; omega))) (fun h29 => ?_)
  refine rx_iconst (v := nI 0) dX11_receipt_32 rfl ?_
  refine rx_goto (tgt := 37) dX11_receipt_33 (by decide) ?_
  refine gm_putI hG hf_RX11_160 (gw_nf rfl rfl) rfl dX11_receipt_37 rfl rfl rfl rfl rfl ?_
  refine rx_aload_n dX11_receipt_40 rfl rfl ?_
  refine gmv_getI (v := nI 0) hG hf_RX11_160 rfl dX11_receipt_41 rfl rfl rfl (by simp [rx_ru]) ?_
  refine rx_if_le (tgt := 49) dX11_receipt_44 (by decide) (fun h44 => ?_) (fun h44 => (absurd h44 (by decide))) 
  refine rx_bipush (v := nI 10) dX11_receipt_49 rfl ?_
  refine rx_iload_n dX11_receipt_51 rfl ?_
  refine rx_imul dX11_receipt_52 ?_
  refine rx_ti (y := nI (10 * b)) ((pk_mul _ _).trans (congrArg nI (by omega))) ?_
  refine rx_iload_n dX11_receipt_53 rfl ?_
  refine rx_iadd dX11_receipt_54 ?_
  refine rx_ti (y := nI (10 * b + i)) ((nI_add _ _).trans (congrArg nI (by omega))) ?_
  refine rx_istore dX11_receipt_55 (by decide) ?_
  refine rx_iload_n dX11_receipt_57 rfl ?_
  refine rx_if_ne (tgt := 72) dX11_receipt_58 (by decide) (fun h58 => ?_) (fun h58 => (absurd h58 (by decide))) 
  refine rx_iload_n dX11_receipt_72 rfl ?_
  refine rx_iconst (v := nI 1) dX11_receipt_73 rfl ?_
  refine rx_icmp_ne (tgt := 88) dX11_receipt_74 (by decide) (fun h74 => ?_) (fun h74 => (absurd h74 (by decide))) 
  refine rx_aload_n dX11_receipt_88 rfl rfl ?_
  refine g_getR hG hf_RX11_75 rfl dX11_receipt_89 rfl rfl rfl ?_
  refine rx_iload dX11_receipt_92 rfl ?_
  refine gmv_lald (j := 10 * b + i) (v := u) hG dX11_receipt_94 rfl rfl rfl rfl (by omega) (by decide) hu ?_
  exact rx_lret rfl dX11_receipt_95 ⟨rfl, rfl⟩
theorem mf_event_i {G : rx_E} {d : Nat} {C : rx_M} {S : gs_T} (hG : rx_OK G) {nb : Nat} (h15 : S.1 52 15 = nI nb) (hnb : nb ≤ 40) {b : Nat} {q : wB} (hb : b < nb) (hB : mB1 S b q) {x y : Int32} (hx : wi_out x q.1.2.2.2) : rx_C G MX11_event (d + 2) [.ref 52, .int (nI b), .int x, .int y] (gl C S) 0 0 (fun vv mu => vv = some (.long 0) ∧ mu = gl C (rx_u S.1 52 0 (nI 1), S.2)) := by
  refine rx_meth0 (by decide +kernel) rfl (Nat.le_of_ble_eq_true rfl) ?_
  refine rx_aload_n dX11_event_0 rfl rfl ?_
  refine rx_aload_n dX11_event_1 rfl rfl ?_
  refine rx_iload_n dX11_event_2 rfl ?_
  refine gv_invV (as := [.int _]) hG okX11_isBlock lk_RX11_318 rfl rfl dX11_event_3 rfl (by simp [Value.category]) (mf_isBlock hG h15 hnb hb) ?_
  rintro _ _ ⟨rfl, rfl⟩
  refine rx_if_eq (tgt := 36) dX11_event_6 (by decide) (fun h6 => (absurd h6 (by decide))) (fun h6 => ?_)
  refine rx_iload_n dX11_event_9 rfl ?_
  refine rx_if_lt (tgt := 36) dX11_event_10 (by decide) (fun h10 => ?_) (fun h10 => ?_)
  · refine rx_iconst (v := nI 1) dX11_event_36 rfl ?_
    refine gm_putI hG hf_RX11_160 (gw_nf rfl rfl) rfl dX11_event_37 rfl rfl rfl rfl rfl ?_
    refine rx_aload_n dX11_event_40 rfl rfl ?_
    refine gmv_getI (v := nI 1) hG hf_RX11_160 rfl dX11_event_41 rfl rfl rfl (by simp [rx_ru]) ?_
    refine rx_if_le (tgt := 49) dX11_event_44 (by decide) (fun h44 => (absurd h44 (by decide))) (fun h44 => ?_)
    refine rx_lconst (v := 0) dX11_event_47 rfl ?_
    exact rx_lret rfl dX11_event_48 ⟨rfl, rfl⟩
  · refine rx_iload_n dX11_event_13 rfl ?_
    refine rx_if_lt (tgt := 36) dX11_event_14 (by decide) (fun h14 => ?_) (fun h14 => ?_)
    · refine rx_iconst (v := nI 1) dX11_event_36 rfl ?_
      refine gm_putI hG hf_RX11_160 (gw_nf rfl rfl) rfl dX11_event_37 rfl rfl rfl rfl rfl ?_
      refine rx_aload_n dX11_event_40 rfl rfl ?_
      refine gmv_getI (v := nI 1) hG hf_RX11_160 rfl dX11_event_41 rfl rfl rfl (by simp [rx_ru]) ?_
      refine rx_if_le (tgt := 49) dX11_event_44 (by decide) (fun h44 => (absurd h44 (by decide))) (fun h44 => ?_)
      refine rx_lconst (v := 0) dX11_event_47 rfl ?_
      exact rx_lret rfl dX11_event_48 ⟨rfl, rfl⟩
    · refine rx_iload_n dX11_event_17 rfl ?_
      refine rx_iconst (v := nI 3) dX11_event_18 rfl ?_
      refine rx_icmp_gt (tgt := 36) dX11_event_19 (by decide) (fun h19 => ?_) (fun h19 => ?_)
      · refine rx_iconst (v := nI 1) dX11_event_36 rfl ?_
        refine gm_putI hG hf_RX11_160 (gw_nf rfl rfl) rfl dX11_event_37 rfl rfl rfl rfl rfl ?_
        refine rx_aload_n dX11_event_40 rfl rfl ?_
        refine gmv_getI (v := nI 1) hG hf_RX11_160 rfl dX11_event_41 rfl rfl rfl (by simp [rx_ru]) ?_
        refine rx_if_le (tgt := 49) dX11_event_44 (by decide) (fun h44 => (absurd h44 (by decide))) (fun h44 => ?_)
        refine rx_lconst (v := 0) dX11_event_47 rfl ?_
        exact rx_lret rfl dX11_event_48 ⟨rfl, rfl⟩
      · refine rx_iload_n dX11_event_22 rfl ?_
        refine rx_aload_n dX11_event_23 rfl rfl ?_
        refine g_getR hG hf_RX11_54 rfl dX11_event_24 rfl rfl rfl ?_
        refine rx_iload_n dX11_event_27 rfl ?_
        refine gmv_iald (j := b) (v := nI q.1.2.2.2) hG dX11_event_28 rfl rfl rfl rfl (by omega) (by decide) hB.1.2.2.2.1 ?_
        refine rx_icmp_ge (tgt := 36) dX11_event_29 (by decide) (fun h29 => ?_) (fun h29 => wi_d1 hx h10 h29) 
        refine rx_iconst (v := nI 1) dX11_event_36 rfl ?_
        refine gm_putI hG hf_RX11_160 (gw_nf rfl rfl) rfl dX11_event_37 rfl rfl rfl rfl rfl ?_
        refine rx_aload_n dX11_event_40 rfl rfl ?_
        refine gmv_getI (v := nI 1) hG hf_RX11_160 rfl dX11_event_41 rfl rfl rfl (by simp [rx_ru]) ?_
        refine rx_if_le (tgt := 49) dX11_event_44 (by decide) (fun h44 => (absurd h44 (by decide))) (fun h44 => ?_)
        refine rx_lconst (v := 0) dX11_event_47 rfl ?_
        exact rx_lret rfl dX11_event_48 ⟨rfl, rfl⟩
theorem mf_event_w {G : rx_E} {d : Nat} {C : rx_M} {S : gs_T} (hG : rx_OK G) {nb : Nat} (h15 : S.1 52 15 = nI nb) (hnb : nb ≤ 40) {b : Nat} {q : wB} (hb : b < nb) (hB : mB1 S b q) {i : Nat} {y : Int32} (hm : q.1.2.2.2 ≤ 60) (hi : i < q.1.2.2.2) (hy : wi_out y 4) : rx_C G MX11_event (d + 2) [.ref 52, .int (nI b), .int (nI i), .int y] (gl C S) 0 0 (fun vv mu => vv = some (.long 0) ∧ mu = gl C (rx_u S.1 52 0 (nI 1), S.2)) := by
  refine rx_meth0 (by decide +kernel) rfl (Nat.le_of_ble_eq_true rfl) ?_
  refine rx_aload_n dX11_event_0 rfl rfl ?_
  refine rx_aload_n dX11_event_1 rfl rfl ?_
  refine rx_iload_n dX11_event_2 rfl ?_
  refine gv_invV (as := [.int _]) hG okX11_isBlock lk_RX11_318 rfl rfl dX11_event_3 rfl (by simp [Value.category]) (mf_isBlock hG h15 hnb hb) ?_
  rintro _ _ ⟨rfl, rfl⟩
  refine rx_if_eq (tgt := 36) dX11_event_6 (by decide) (fun h6 => (absurd h6 (by decide))) (fun h6 => ?_)
  refine rx_iload_n dX11_event_9 rfl ?_
  refine rx_if_lt (tgt := 36) dX11_event_10 (by decide) (fun h10 => (absurd h10 (nI_pos (by omega)))) (fun h10 => ?_)
  refine rx_iload_n dX11_event_13 rfl ?_
  refine rx_if_lt (tgt := 36) dX11_event_14 (by decide) (fun h14 => ?_) (fun h14 => ?_)
  · refine rx_iconst (v := nI 1) dX11_event_36 rfl ?_
    refine gm_putI hG hf_RX11_160 (gw_nf rfl rfl) rfl dX11_event_37 rfl rfl rfl rfl rfl ?_
    refine rx_aload_n dX11_event_40 rfl rfl ?_
    refine gmv_getI (v := nI 1) hG hf_RX11_160 rfl dX11_event_41 rfl rfl rfl (by simp [rx_ru]) ?_
    refine rx_if_le (tgt := 49) dX11_event_44 (by decide) (fun h44 => (absurd h44 (by decide))) (fun h44 => ?_)
    refine rx_lconst (v := 0) dX11_event_47 rfl ?_
    exact rx_lret rfl dX11_event_48 ⟨rfl, rfl⟩
  · refine rx_iload_n dX11_event_17 rfl ?_
    refine rx_iconst (v := nI 3) dX11_event_18 rfl ?_
    refine rx_icmp_gt (tgt := 36) dX11_event_19 (by decide) (fun h19 => ?_) (fun h19 => wi_d2 hy (by decide) (by decide) h14 h19) 
    refine rx_iconst (v := nI 1) dX11_event_36 rfl ?_
    refine gm_putI hG hf_RX11_160 (gw_nf rfl rfl) rfl dX11_event_37 rfl rfl rfl rfl rfl ?_
    refine rx_aload_n dX11_event_40 rfl rfl ?_
    refine gmv_getI (v := nI 1) hG hf_RX11_160 rfl dX11_event_41 rfl rfl rfl (by simp [rx_ru]) ?_
    refine rx_if_le (tgt := 49) dX11_event_44 (by decide) (fun h44 => (absurd h44 (by decide))) (fun h44 => ?_)
    refine rx_lconst (v := 0) dX11_event_47 rfl ?_
    exact rx_lret rfl dX11_event_48 ⟨rfl, rfl⟩
theorem mf_event0 {G : rx_E} {d : Nat} {C : rx_M} {S : gs_T} (hG : rx_OK G) {nb : Nat} (h15 : S.1 52 15 = nI nb) (hnb : nb ≤ 40) {b : Nat} {q : wB} (hb : b < nb) (hB : mB1 S b q) {i : Nat} (hm : q.1.2.2.2 ≤ 60) (hi : i < q.1.2.2.2) {u : Nat} (hul : u < 2 ^ 31) (hu : S.1 75 (60 * b + i) = nI u) : rx_C G MX11_event (d + 2) [.ref 52, .int (nI b), .int (nI i), .int (nI 0)] (gl C S) 0 0 (fun vv mu => vv = some (.long (lN u)) ∧ mu = gl C (rx_u S.1 52 0 (nI 0), S.2)) := by
  refine rx_meth0 (by decide +kernel) rfl (Nat.le_of_ble_eq_true rfl) ?_
  refine rx_aload_n dX11_event_0 rfl rfl ?_
  refine rx_aload_n dX11_event_1 rfl rfl ?_
  refine rx_iload_n dX11_event_2 rfl ?_
  refine gv_invV (as := [.int _]) hG okX11_isBlock lk_RX11_318 rfl rfl dX11_event_3 rfl (by simp [Value.category]) (mf_isBlock hG h15 hnb hb) ?_
  rintro _ _ ⟨rfl, rfl⟩
  refine rx_if_eq (tgt := 36) dX11_event_6 (by decide) (fun h6 => (absurd h6 (by decide))) (fun h6 => ?_)
  refine rx_iload_n dX11_event_9 rfl ?_
  refine rx_if_lt (tgt := 36) dX11_event_10 (by decide) (fun h10 => (absurd h10 (nI_pos (by omega)))) (fun h10 => ?_)
  refine rx_iload_n dX11_event_13 rfl ?_
  refine rx_if_lt (tgt := 36) dX11_event_14 (by decide) (fun h14 => (absurd h14 (by decide))) (fun h14 => ?_)
  refine rx_iload_n dX11_event_17 rfl ?_
  refine rx_iconst (v := nI 3) dX11_event_18 rfl ?_
  refine rx_icmp_gt (tgt := 36) dX11_event_19 (by decide) (fun h19 => (absurd h19 (by decide))) (fun h19 => ?_)
  refine rx_iload_n dX11_event_22 rfl ?_
  refine rx_aload_n dX11_event_23 rfl rfl ?_
  refine g_getR hG hf_RX11_54 rfl dX11_event_24 rfl rfl rfl ?_
  refine rx_iload_n dX11_event_27 rfl ?_
  refine gmv_iald (j := b) (v := nI q.1.2.2.2) hG dX11_event_28 rfl rfl rfl rfl (by omega) (by decide) hB.1.2.2.2.1 ?_
  refine rx_icmp_ge (tgt := 36) dX11_event_29 (by decide) (fun h29 => (absurd h29 (by rw [nI_leI (by omega) (by omega)]; omega))) (fun h29 => ?_)
  refine rx_iconst (v := nI 0) dX11_event_32 rfl ?_
  refine rx_goto (tgt := 37) dX11_event_33 (by decide) ?_
  refine gm_putI hG hf_RX11_160 (gw_nf rfl rfl) rfl dX11_event_37 rfl rfl rfl rfl rfl ?_
  refine rx_aload_n dX11_event_40 rfl rfl ?_
  refine gmv_getI (v := nI 0) hG hf_RX11_160 rfl dX11_event_41 rfl rfl rfl (by simp [rx_ru]) ?_
  refine rx_if_le (tgt := 49) dX11_event_44 (by decide) (fun h44 => ?_) (fun h44 => (absurd h44 (by decide))) 
  refine rx_bipush (v := nI 60) dX11_event_49 rfl ?_
  refine rx_iload_n dX11_event_51 rfl ?_
  refine rx_imul dX11_event_52 ?_
  refine rx_ti (y := nI (60 * b)) ((pk_mul _ _).trans (congrArg nI (by omega))) ?_
  refine rx_iload_n dX11_event_53 rfl ?_
  refine rx_iadd dX11_event_54 ?_
  refine rx_ti (y := nI (60 * b + i)) ((nI_add _ _).trans (congrArg nI (by omega))) ?_
  refine rx_istore dX11_event_55 (by decide) ?_
  refine rx_iload_n dX11_event_57 rfl ?_
  refine rx_if_ne (tgt := 72) dX11_event_58 (by decide) (fun h58 => (absurd h58 (by decide))) (fun h58 => ?_)
  refine rx_aload_n dX11_event_61 rfl rfl ?_
  refine g_getR hG hf_RX11_78 rfl dX11_event_62 rfl rfl rfl ?_
  refine rx_iload dX11_event_65 rfl ?_
  refine gmv_iald (j := 60 * b + i) (v := nI u) hG dX11_event_67 rfl rfl rfl rfl (by omega) (by decide) (by simpa [rx_ru] using hu) ?_
  refine rx_i2l dX11_event_68 ?_
  refine rx_tl (y := lN u) (nI_l (by omega)) ?_
  refine rx_goto (tgt := 110) dX11_event_69 (by decide) ?_
  exact rx_lret rfl dX11_event_110 ⟨rfl, rfl⟩
theorem mf_event1 {G : rx_E} {d : Nat} {C : rx_M} {S : gs_T} (hG : rx_OK G) {nb : Nat} (h15 : S.1 52 15 = nI nb) (hnb : nb ≤ 40) {b : Nat} {q : wB} (hb : b < nb) (hB : mB1 S b q) {i : Nat} (hm : q.1.2.2.2 ≤ 60) (hi : i < q.1.2.2.2) {u : Int64} (hu : S.2 76 (60 * b + i) = u) : rx_C G MX11_event (d + 2) [.ref 52, .int (nI b), .int (nI i), .int (nI 1)] (gl C S) 0 0 (fun vv mu => vv = some (.long (u)) ∧ mu = gl C (rx_u S.1 52 0 (nI 0), S.2)) := by
  refine rx_meth0 (by decide +kernel) rfl (Nat.le_of_ble_eq_true rfl) ?_
  refine rx_aload_n dX11_event_0 rfl rfl ?_
  refine rx_aload_n dX11_event_1 rfl rfl ?_
  refine rx_iload_n dX11_event_2 rfl ?_
  refine gv_invV (as := [.int _]) hG okX11_isBlock lk_RX11_318 rfl rfl dX11_event_3 rfl (by simp [Value.category]) (mf_isBlock hG h15 hnb hb) ?_
  rintro _ _ ⟨rfl, rfl⟩
  refine rx_if_eq (tgt := 36) dX11_event_6 (by decide) (fun h6 => (absurd h6 (by decide))) (fun h6 => ?_)
  refine rx_iload_n dX11_event_9 rfl ?_
  refine rx_if_lt (tgt := 36) dX11_event_10 (by decide) (fun h10 => (absurd h10 (nI_pos (by omega)))) (fun h10 => ?_)
  refine rx_iload_n dX11_event_13 rfl ?_
  refine rx_if_lt (tgt := 36) dX11_event_14 (by decide) (fun h14 => (absurd h14 (by decide))) (fun h14 => ?_)
  refine rx_iload_n dX11_event_17 rfl ?_
  refine rx_iconst (v := nI 3) dX11_event_18 rfl ?_
  refine rx_icmp_gt (tgt := 36) dX11_event_19 (by decide) (fun h19 => (absurd h19 (by decide))) (fun h19 => ?_)
  refine rx_iload_n dX11_event_22 rfl ?_
  refine rx_aload_n dX11_event_23 rfl rfl ?_
  refine g_getR hG hf_RX11_54 rfl dX11_event_24 rfl rfl rfl ?_
  refine rx_iload_n dX11_event_27 rfl ?_
  refine gmv_iald (j := b) (v := nI q.1.2.2.2) hG dX11_event_28 rfl rfl rfl rfl (by omega) (by decide) hB.1.2.2.2.1 ?_
  refine rx_icmp_ge (tgt := 36) dX11_event_29 (by decide) (fun h29 => (absurd h29 (by rw [nI_leI (by omega) (by omega)]; omega))) (fun h29 => ?_)
  refine rx_iconst (v := nI 0) dX11_event_32 rfl ?_
  refine rx_goto (tgt := 37) dX11_event_33 (by decide) ?_
  refine gm_putI hG hf_RX11_160 (gw_nf rfl rfl) rfl dX11_event_37 rfl rfl rfl rfl rfl ?_
  refine rx_aload_n dX11_event_40 rfl rfl ?_
  refine gmv_getI (v := nI 0) hG hf_RX11_160 rfl dX11_event_41 rfl rfl rfl (by simp [rx_ru]) ?_
  refine rx_if_le (tgt := 49) dX11_event_44 (by decide) (fun h44 => ?_) (fun h44 => (absurd h44 (by decide))) 
  refine rx_bipush (v := nI 60) dX11_event_49 rfl ?_
  refine rx_iload_n dX11_event_51 rfl ?_
  refine rx_imul dX11_event_52 ?_
  refine rx_ti (y := nI (60 * b)) ((pk_mul _ _).trans (congrArg nI (by omega))) ?_
  refine rx_iload_n dX11_event_53 rfl ?_
  refine rx_iadd dX11_event_54 ?_
  refine rx_ti (y := nI (60 * b + i)) ((nI_add _ _).trans (congrArg nI (by omega))) ?_
  refine rx_istore dX11_event_55 (by decide) ?_
  refine rx_iload_n dX11_event_57 rfl ?_
  refine rx_if_ne (tgt := 72) dX11_event_58 (by decide) (fun h58 => ?_) (fun h58 => (absurd h58 (by decide))) 
  refine rx_iload_n dX11_event_72 rfl ?_
  refine rx_iconst (v := nI 1) dX11_event_73 rfl ?_
  refine rx_icmp_ne (tgt := 87) dX11_event_74 (by decide) (fun h74 => (absurd h74 (by decide))) (fun h74 => ?_)
  refine rx_aload_n dX11_event_77 rfl rfl ?_
  refine g_getR hG hf_RX11_81 rfl dX11_event_78 rfl rfl rfl ?_
  refine rx_iload dX11_event_81 rfl ?_
  refine gmv_lald (j := 60 * b + i) (v := u) hG dX11_event_83 rfl rfl rfl rfl (by omega) (by decide) hu ?_
  refine rx_goto (tgt := 110) dX11_event_84 (by decide) ?_
  exact rx_lret rfl dX11_event_110 ⟨rfl, rfl⟩
theorem mf_event2 {G : rx_E} {d : Nat} {C : rx_M} {S : gs_T} (hG : rx_OK G) {nb : Nat} (h15 : S.1 52 15 = nI nb) (hnb : nb ≤ 40) {b : Nat} {q : wB} (hb : b < nb) (hB : mB1 S b q) {i : Nat} (hm : q.1.2.2.2 ≤ 60) (hi : i < q.1.2.2.2) {u : Int64} (hu : S.2 77 (60 * b + i) = u) : rx_C G MX11_event (d + 2) [.ref 52, .int (nI b), .int (nI i), .int (nI 2)] (gl C S) 0 0 (fun vv mu => vv = some (.long (u)) ∧ mu = gl C (rx_u S.1 52 0 (nI 0), S.2)) := by
  refine rx_meth0 (by decide +kernel) rfl (Nat.le_of_ble_eq_true rfl) ?_
  refine rx_aload_n dX11_event_0 rfl rfl ?_
  refine rx_aload_n dX11_event_1 rfl rfl ?_
  refine rx_iload_n dX11_event_2 rfl ?_
  refine gv_invV (as := [.int _]) hG okX11_isBlock lk_RX11_318 rfl rfl dX11_event_3 rfl (by simp [Value.category]) (mf_isBlock hG h15 hnb hb) ?_
  rintro _ _ ⟨rfl, rfl⟩
  refine rx_if_eq (tgt := 36) dX11_event_6 (by decide) (fun h6 => (absurd h6 (by decide))) (fun h6 => ?_)
  refine rx_iload_n dX11_event_9 rfl ?_
  refine rx_if_lt (tgt := 36) dX11_event_10 (by decide) (fun h10 => (absurd h10 (nI_pos (by omega)))) (fun h10 => ?_)
  refine rx_iload_n dX11_event_13 rfl ?_
  refine rx_if_lt (tgt := 36) dX11_event_14 (by decide) (fun h14 => (absurd h14 (by decide))) (fun h14 => ?_)
  refine rx_iload_n dX11_event_17 rfl ?_
  refine rx_iconst (v := nI 3) dX11_event_18 rfl ?_
  refine rx_icmp_gt (tgt := 36) dX11_event_19 (by decide) (fun h19 => (absurd h19 (by decide))) (fun h19 => ?_)
  refine rx_iload_n dX11_event_22 rfl ?_
  refine rx_aload_n dX11_event_23 rfl rfl ?_
  refine g_getR hG hf_RX11_54 rfl dX11_event_24 rfl rfl rfl ?_
  refine rx_iload_n dX11_event_27 rfl ?_
  refine gmv_iald (j := b) (v := nI q.1.2.2.2) hG dX11_event_28 rfl rfl rfl rfl (by omega) (by decide) hB.1.2.2.2.1 ?_
  refine rx_icmp_ge (tgt := 36) dX11_event_29 (by decide) (fun h29 => (absurd h29 (by rw [nI_leI (by omega) (by omega)]; omega))) (fun h29 => ?_)
  refine rx_iconst (v := nI 0) dX11_event_32 rfl ?_
  refine rx_goto (tgt := 37) dX11_event_33 (by decide) ?_
  refine gm_putI hG hf_RX11_160 (gw_nf rfl rfl) rfl dX11_event_37 rfl rfl rfl rfl rfl ?_
  refine rx_aload_n dX11_event_40 rfl rfl ?_
  refine gmv_getI (v := nI 0) hG hf_RX11_160 rfl dX11_event_41 rfl rfl rfl (by simp [rx_ru]) ?_
  refine rx_if_le (tgt := 49) dX11_event_44 (by decide) (fun h44 => ?_) (fun h44 => (absurd h44 (by decide))) 
  refine rx_bipush (v := nI 60) dX11_event_49 rfl ?_
  refine rx_iload_n dX11_event_51 rfl ?_
  refine rx_imul dX11_event_52 ?_
  refine rx_ti (y := nI (60 * b)) ((pk_mul _ _).trans (congrArg nI (by omega))) ?_
  refine rx_iload_n dX11_event_53 rfl ?_
  refine rx_iadd dX11_event_54 ?_
  refine rx_ti (y := nI (60 * b + i)) ((nI_add _ _).trans (congrArg nI (by omega))) ?_
  refine rx_istore dX11_event_55 (by decide) ?_
  refine rx_iload_n dX11_event_57 rfl ?_
  refine rx_if_ne (tgt := 72) dX11_event_58 (by decide) (fun h58 => ?_) (fun h58 => (absurd h58 (by decide))) 
  refine rx_iload_n dX11_event_72 rfl ?_
  refine rx_iconst (v := nI 1) dX11_event_73 rfl ?_
  refine rx_icmp_ne (tgt := 87) dX11_event_74 (by decide) (fun h74 => ?_) (fun h74 => (absurd h74 (by decide))) 
  refine rx_iload_n dX11_event_87 rfl ?_
  refine rx_iconst (v := nI 2) dX11_event_88 rfl ?_
  refine rx_icmp_ne (tgt := 102) dX11_event_89 (by decide) (fun h89 => (absurd h89 (by decide))) (fun h89 => ?_)
  refine rx_aload_n dX11_event_92 rfl rfl ?_
  refine g_getR hG hf_RX11_84 rfl dX11_event_93 rfl rfl rfl ?_
  refine rx_iload dX11_event_96 rfl ?_
  refine gmv_lald (j := 60 * b + i) (v := u) hG dX11_event_98 rfl rfl rfl rfl (by omega) (by decide) hu ?_
  refine rx_goto (tgt := 110) dX11_event_99 (by decide) ?_
  exact rx_lret rfl dX11_event_110 ⟨rfl, rfl⟩
theorem mf_event3 {G : rx_E} {d : Nat} {C : rx_M} {S : gs_T} (hG : rx_OK G) {nb : Nat} (h15 : S.1 52 15 = nI nb) (hnb : nb ≤ 40) {b : Nat} {q : wB} (hb : b < nb) (hB : mB1 S b q) {i : Nat} (hm : q.1.2.2.2 ≤ 60) (hi : i < q.1.2.2.2) {u : Nat} (hul : u < 2 ^ 31) (hu : S.1 78 (60 * b + i) = nI u) : rx_C G MX11_event (d + 2) [.ref 52, .int (nI b), .int (nI i), .int (nI 3)] (gl C S) 0 0 (fun vv mu => vv = some (.long (lN u)) ∧ mu = gl C (rx_u S.1 52 0 (nI 0), S.2)) := by
  refine rx_meth0 (by decide +kernel) rfl (Nat.le_of_ble_eq_true rfl) ?_
  refine rx_aload_n dX11_event_0 rfl rfl ?_
  refine rx_aload_n dX11_event_1 rfl rfl ?_
  refine rx_iload_n dX11_event_2 rfl ?_
  refine gv_invV (as := [.int _]) hG okX11_isBlock lk_RX11_318 rfl rfl dX11_event_3 rfl (by simp [Value.category]) (mf_isBlock hG h15 hnb hb) ?_
  rintro _ _ ⟨rfl, rfl⟩
  refine rx_if_eq (tgt := 36) dX11_event_6 (by decide) (fun h6 => (absurd h6 (by decide))) (fun h6 => ?_)
  refine rx_iload_n dX11_event_9 rfl ?_
  refine rx_if_lt (tgt := 36) dX11_event_10 (by decide) (fun h10 => (absurd h10 (nI_pos (by omega)))) (fun h10 => ?_)
  refine rx_iload_n dX11_event_13 rfl ?_
  refine rx_if_lt (tgt := 36) dX11_event_14 (by decide) (fun h14 => (absurd h14 (by decide))) (fun h14 => ?_)
  refine rx_iload_n dX11_event_17 rfl ?_
  refine rx_iconst (v := nI 3) dX11_event_18 rfl ?_
  refine rx_icmp_gt (tgt := 36) dX11_event_19 (by decide) (fun h19 => (absurd h19 (by decide))) (fun h19 => ?_)
  refine rx_iload_n dX11_event_22 rfl ?_
  refine rx_aload_n dX11_event_23 rfl rfl ?_
  refine g_getR hG hf_RX11_54 rfl dX11_event_24 rfl rfl rfl ?_
  refine rx_iload_n dX11_event_27 rfl ?_
  refine gmv_iald (j := b) (v := nI q.1.2.2.2) hG dX11_event_28 rfl rfl rfl rfl (by omega) (by decide) hB.1.2.2.2.1 ?_
  refine rx_icmp_ge (tgt := 36) dX11_event_29 (by decide) (fun h29 => (absurd h29 (by rw [nI_leI (by omega) (by omega)]; omega))) (fun h29 => ?_)
  refine rx_iconst (v := nI 0) dX11_event_32 rfl ?_
  refine rx_goto (tgt := 37) dX11_event_33 (by decide) ?_
  refine gm_putI hG hf_RX11_160 (gw_nf rfl rfl) rfl dX11_event_37 rfl rfl rfl rfl rfl ?_
  refine rx_aload_n dX11_event_40 rfl rfl ?_
  refine gmv_getI (v := nI 0) hG hf_RX11_160 rfl dX11_event_41 rfl rfl rfl (by simp [rx_ru]) ?_
  refine rx_if_le (tgt := 49) dX11_event_44 (by decide) (fun h44 => ?_) (fun h44 => (absurd h44 (by decide))) 
  refine rx_bipush (v := nI 60) dX11_event_49 rfl ?_
  refine rx_iload_n dX11_event_51 rfl ?_
  refine rx_imul dX11_event_52 ?_
  refine rx_ti (y := nI (60 * b)) ((pk_mul _ _).trans (congrArg nI (by omega))) ?_
  refine rx_iload_n dX11_event_53 rfl ?_
  refine rx_iadd dX11_event_54 ?_
  refine rx_ti (y := nI (60 * b + i)) ((nI_add _ _).trans (congrArg nI (by omega))) ?_
  refine rx_istore dX11_event_55 (by decide) ?_
  refine rx_iload_n dX11_event_57 rfl ?_
  refine rx_if_ne (tgt := 72) dX11_event_58 (by decide) (fun h58 => ?_) (fun h58 => (absurd h58 (by decide))) 
  refine rx_iload_n dX11_event_72 rfl ?_
  refine rx_iconst (v := nI 1) dX11_event_73 rfl ?_
  refine rx_icmp_ne (tgt := 87) dX11_event_74 (by decide) (fun h74 => ?_) (fun h74 => (absurd h74 (by decide))) 
  refine rx_iload_n dX11_event_87 rfl ?_
  refine rx_iconst (v := nI 2) dX11_event_88 rfl ?_
  refine rx_icmp_ne (tgt := 102) dX11_event_89 (by decide) (fun h89 => ?_) (fun h89 => (absurd h89 (by decide))) 
  refine rx_aload_n dX11_event_102 rfl rfl ?_
  refine g_getR hG hf_RX11_87 rfl dX11_event_103 rfl rfl rfl ?_
  refine rx_iload dX11_event_106 rfl ?_
  refine gmv_iald (j := 60 * b + i) (v := nI u) hG dX11_event_108 rfl rfl rfl rfl (by omega) (by decide) (by simpa [rx_ru] using hu) ?_
  refine rx_i2l dX11_event_109 ?_
  refine rx_tl (y := lN u) (nI_l (by omega)) ?_
  exact rx_lret rfl dX11_event_110 ⟨rfl, rfl⟩
theorem lf_lo {n : Nat → Int64} {i : Nat} (h : i % 32 < 3) : lf n i = n (19 * (i / 32) + i % 32) := by unfold lf; rw [if_pos h]
theorem lf_hi {n : Nat → Int64} {i : Nat} (h : 16 ≤ i % 32) : lf n i = n (19 * (i / 32) + (i % 32 - 13)) := by unfold lf; rw [if_neg (by omega), if_pos h]
theorem lf_mid {n : Nat → Int64} {i : Nat} (h : ¬ i % 32 < 3) (h2 : i % 32 < 16) : lf n i = 0 := by unfold lf; rw [if_neg h, if_neg (by omega)]
theorem mf_valueOf {G : rx_E} {d : Nat} {C : rx_M} {S : gs_T} (hG : rx_OK G) {b i : Nat} {n : Nat → Int64} (hb : b < 40) (hi : i < 1024) (hS : ∀ k, k < 608 → S.2 71 (608 * b + k) = n k) : rx_C G MX11_valueOf d [.ref 52, .int (nI b), .int (nI i)] (gl C S) 0 0 (fun vv mu => vv = some (.long (lf n i)) ∧ mu = gl C S) := by
  refine rx_meth0 (by decide +kernel) rfl (Nat.le_of_ble_eq_true rfl) ?_
  refine rx_sipush (v := nI 608) dX11_valueOf_0 rfl ?_
  refine rx_iload_n dX11_valueOf_3 rfl ?_
  refine rx_imul dX11_valueOf_4 ?_
  refine rx_ti (y := nI (608 * b)) ((pk_mul _ _).trans (congrArg nI (by omega))) ?_
  refine rx_bipush (v := nI 19) dX11_valueOf_5 rfl ?_
  refine rx_iload_n dX11_valueOf_7 rfl ?_
  refine rx_bipush (v := nI 32) dX11_valueOf_8 rfl ?_
  refine rx_idiv dX11_valueOf_10 (by decide) ?_
  refine rx_ti (y := nI (i / 32)) (pk_div (by omega) (by decide) (by decide)) ?_
  refine rx_imul dX11_valueOf_11 ?_
  refine rx_ti (y := nI (19 * (i / 32))) (pk_mul _ _) ?_
  refine rx_iadd dX11_valueOf_12 ?_
  refine rx_ti (y := nI ((19 * (i / 32)) + 608 * b)) ((nI_add _ _).trans (congrArg nI (by omega))) ?_
  refine rx_ti (y := nI (608 * b + 19 * (i / 32))) (congrArg nI (Nat.add_comm _ _)) ?_
  refine rx_istore_n dX11_valueOf_13 (by decide) ?_
  refine rx_iload_n dX11_valueOf_14 rfl ?_
  refine rx_bipush (v := nI 32) dX11_valueOf_15 rfl ?_
  refine rx_irem dX11_valueOf_17 (by decide) ?_
  refine rx_ti (y := nI (i % 32)) (pk_rem (by omega) (by decide) (by decide)) ?_
  refine rx_istore dX11_valueOf_18 (by decide) ?_
  refine rx_iload dX11_valueOf_20 rfl ?_
  refine rx_iconst (v := nI 3) dX11_valueOf_22 rfl ?_
  refine rx_icmp_ge (tgt := 38) dX11_valueOf_23 (by decide) (fun h23 => ?_) (fun h23 => ?_)
  · rw [nI_leI (by omega) (by omega)] at h23
    refine rx_iload dX11_valueOf_38 rfl ?_
    refine rx_bipush (v := nI 16) dX11_valueOf_40 rfl ?_
    refine rx_icmp_lt (tgt := 62) dX11_valueOf_42 (by decide) (fun h42 => ?_) (fun h42 => ?_)
    · rw [nI_ltI (by omega) (by omega)] at h42
      refine rx_lconst (v := 0) dX11_valueOf_62 rfl ?_
      exact rx_lret rfl dX11_valueOf_63 ⟨by rw [lf_mid (by omega) h42], rfl⟩
    · rw [nI_ltI (by omega) (by omega)] at h42
      refine rx_aload_n dX11_valueOf_45 rfl rfl ?_
      refine g_getR hG hf_RX11_66 rfl dX11_valueOf_46 rfl rfl rfl ?_
      refine rx_iload_n dX11_valueOf_49 rfl ?_
      refine rx_iconst (v := nI 3) dX11_valueOf_50 rfl ?_
      refine rx_iadd dX11_valueOf_51 ?_
      refine rx_ti (y := nI ((608 * b + 19 * (i / 32)) + 3)) ((nI_add _ _).trans (congrArg nI (by omega))) ?_
      refine rx_iload dX11_valueOf_52 rfl ?_
      refine rx_iadd dX11_valueOf_54 ?_
      refine rx_ti (y := nI ((608 * b + 19 * (i / 32)) + (i % 32) + 3)) ((nI_add _ _).trans (congrArg nI (by omega))) ?_
      refine rx_bipush (v := nI 16) dX11_valueOf_55 rfl ?_
      refine rx_isub dX11_valueOf_57 ?_
      refine rx_ti (y := nI ((608 * b + 19 * (i / 32)) + (i % 32) + 3 - 16)) (pk_sub (by omega)) ?_
      refine gmv_lald (j := 608 * b + (19 * (i / 32) + (i % 32 - 13))) (v := n (19 * (i / 32) + (i % 32 - 13))) hG dX11_valueOf_58 rfl rfl rfl (congrArg nI (by omega)) (by omega) (by decide) (hS _ (by omega)) ?_
      refine rx_goto (tgt := 63) dX11_valueOf_59 (by decide) ?_
      exact rx_lret rfl dX11_valueOf_63 ⟨by rw [lf_hi (by omega)], rfl⟩
  · rw [nI_leI (by omega) (by omega)] at h23
    refine rx_aload_n dX11_valueOf_26 rfl rfl ?_
    refine g_getR hG hf_RX11_66 rfl dX11_valueOf_27 rfl rfl rfl ?_
    refine rx_iload_n dX11_valueOf_30 rfl ?_
    refine rx_iload dX11_valueOf_31 rfl ?_
    refine rx_iadd dX11_valueOf_33 ?_
    refine rx_ti (y := nI ((608 * b + 19 * (i / 32)) + (i % 32))) ((nI_add _ _).trans (congrArg nI (by omega))) ?_
    refine gmv_lald (j := 608 * b + (19 * (i / 32) + i % 32)) (v := n (19 * (i / 32) + i % 32)) hG dX11_valueOf_34 rfl rfl rfl (congrArg nI (by omega)) (by omega) (by decide) (hS _ (by omega)) ?_
    refine rx_goto (tgt := 63) dX11_valueOf_35 (by decide) ?_
    exact rx_lret rfl dX11_valueOf_63 ⟨by rw [lf_lo (by omega)], rfl⟩
theorem mf_leaf_w {G : rx_E} {d : Nat} {C : rx_M} {S : gs_T} (hG : rx_OK G) {nb : Nat} (h15 : S.1 52 15 = nI nb) (hnb : nb ≤ 40) {b : Nat} {x : Int32} (hb : b < nb) (hx : wi_out x 1024) : rx_C G MX11_leaf (d + 2) [.ref 52, .int (nI b), .int x] (gl C S) 0 0 (fun vv mu => vv = some (.long 0) ∧ mu = gl C (rx_u S.1 52 0 (nI 1), S.2)) := by
  refine rx_meth0 (by decide +kernel) rfl (Nat.le_of_ble_eq_true rfl) ?_
  refine rx_aload_n dX11_leaf_0 rfl rfl ?_
  refine rx_aload_n dX11_leaf_1 rfl rfl ?_
  refine rx_iload_n dX11_leaf_2 rfl ?_
  refine gv_invV (as := [.int _]) hG okX11_isBlock lk_RX11_318 rfl rfl dX11_leaf_3 rfl (by simp [Value.category]) (mf_isBlock hG h15 hnb hb) ?_
  rintro _ _ ⟨rfl, rfl⟩
  refine rx_if_eq (tgt := 24) dX11_leaf_6 (by decide) (fun h6 => (absurd h6 (by decide))) (fun h6 => ?_)
  refine rx_iload_n dX11_leaf_9 rfl ?_
  refine rx_if_lt (tgt := 24) dX11_leaf_10 (by decide) (fun h10 => ?_) (fun h10 => ?_)
  · refine rx_iconst (v := nI 1) dX11_leaf_24 rfl ?_
    refine gm_putI hG hf_RX11_160 (gw_nf rfl rfl) rfl dX11_leaf_25 rfl rfl rfl rfl rfl ?_
    refine rx_aload_n dX11_leaf_28 rfl rfl ?_
    refine gmv_getI (v := nI 1) hG hf_RX11_160 rfl dX11_leaf_29 rfl rfl rfl (by simp [rx_ru]) ?_
    refine rx_if_le (tgt := 39) dX11_leaf_32 (by decide) (fun h32 => (absurd h32 (by decide))) (fun h32 => ?_)
    refine rx_lconst (v := 0) dX11_leaf_35 rfl ?_
    refine rx_goto (tgt := 45) dX11_leaf_36 (by decide) ?_
    exact rx_lret rfl dX11_leaf_45 ⟨rfl, rfl⟩
  · refine rx_iload_n dX11_leaf_13 rfl ?_
    refine rx_sipush (v := nI 1024) dX11_leaf_14 rfl ?_
    refine rx_icmp_ge (tgt := 24) dX11_leaf_17 (by decide) (fun h17 => ?_) (fun h17 => wi_d1 hx h10 h17) 
    refine rx_iconst (v := nI 1) dX11_leaf_24 rfl ?_
    refine gm_putI hG hf_RX11_160 (gw_nf rfl rfl) rfl dX11_leaf_25 rfl rfl rfl rfl rfl ?_
    refine rx_aload_n dX11_leaf_28 rfl rfl ?_
    refine gmv_getI (v := nI 1) hG hf_RX11_160 rfl dX11_leaf_29 rfl rfl rfl (by simp [rx_ru]) ?_
    refine rx_if_le (tgt := 39) dX11_leaf_32 (by decide) (fun h32 => (absurd h32 (by decide))) (fun h32 => ?_)
    refine rx_lconst (v := 0) dX11_leaf_35 rfl ?_
    refine rx_goto (tgt := 45) dX11_leaf_36 (by decide) ?_
    exact rx_lret rfl dX11_leaf_45 ⟨rfl, rfl⟩
theorem mf_leaf {G : rx_E} {d : Nat} {C : rx_M} {S : gs_T} (hG : rx_OK G) {nb : Nat} (h15 : S.1 52 15 = nI nb) (hnb : nb ≤ 40) {b : Nat} {q : wB} (hb : b < nb) (hB : mB1 S b q) {i : Nat} (hi : i < 1024) : rx_C G MX11_leaf (d + 2) [.ref 52, .int (nI b), .int (nI i)] (gl C S) 0 0 (fun vv mu => vv = some (.long (lf q.2.1 i)) ∧ mu = gl C (rx_u S.1 52 0 (nI 0), S.2)) := by
  refine rx_meth0 (by decide +kernel) rfl (Nat.le_of_ble_eq_true rfl) ?_
  refine rx_aload_n dX11_leaf_0 rfl rfl ?_
  refine rx_aload_n dX11_leaf_1 rfl rfl ?_
  refine rx_iload_n dX11_leaf_2 rfl ?_
  refine gv_invV (as := [.int _]) hG okX11_isBlock lk_RX11_318 rfl rfl dX11_leaf_3 rfl (by simp [Value.category]) (mf_isBlock hG h15 hnb hb) ?_
  rintro _ _ ⟨rfl, rfl⟩
  refine rx_if_eq (tgt := 24) dX11_leaf_6 (by decide) (fun h6 => (absurd h6 (by decide))) (fun h6 => ?_)
  refine rx_iload_n dX11_leaf_9 rfl ?_
  refine rx_if_lt (tgt := 24) dX11_leaf_10 (by decide) (fun h10 => (absurd h10 (nI_pos (by omega)))) (fun h10 => ?_)
  refine rx_iload_n dX11_leaf_13 rfl ?_
  refine rx_sipush (v := nI 1024) dX11_leaf_14 rfl ?_
  refine rx_icmp_ge (tgt := 24) dX11_leaf_17 (by decide) (fun h17 => (absurd h17 (by rw [nI_leI (by omega) (by omega)]; omega))) (fun h17 => ?_)
  refine rx_iconst (v := nI 0) dX11_leaf_20 rfl ?_
  refine rx_goto (tgt := 25) dX11_leaf_21 (by decide) ?_
  refine gm_putI hG hf_RX11_160 (gw_nf rfl rfl) rfl dX11_leaf_25 rfl rfl rfl rfl rfl ?_
  refine rx_aload_n dX11_leaf_28 rfl rfl ?_
  refine gmv_getI (v := nI 0) hG hf_RX11_160 rfl dX11_leaf_29 rfl rfl rfl (by simp [rx_ru]) ?_
  refine rx_if_le (tgt := 39) dX11_leaf_32 (by decide) (fun h32 => ?_) (fun h32 => (absurd h32 (by decide))) 
  refine rx_aload_n dX11_leaf_39 rfl rfl ?_
  refine rx_iload_n dX11_leaf_40 rfl ?_
  refine rx_iload_n dX11_leaf_41 rfl ?_
  refine gv_invV (as := [.int _, .int _]) hG okX11_valueOf lk_RX11_327 rfl rfl dX11_leaf_42 rfl (by simp [Value.category]) (mf_valueOf (S := (rx_u S.1 52 0 (nI 0), S.2)) hG (by omega) hi hB.2.1) ?_
  rintro _ _ ⟨rfl, rfl⟩
  exact rx_lret rfl dX11_leaf_45 ⟨rfl, rfl⟩
theorem mf_seen0 {G : rx_E} {d : Nat} {C : rx_M} {S : gs_T} (hG : rx_OK G) {v0 v1 v2 : Int32} (hz0 : S.1 52 61 = v0) (hz1 : S.1 52 62 = v1) (hz2 : S.1 52 63 = v2) : rx_C G MX11_seen d [.ref 52, .int (nI 0)] (gl C S) 0 0 (fun vv mu => vv = some (.int v0) ∧ mu = gl C (rx_u S.1 52 0 (nI 0), S.2)) := by
  refine rx_meth0 (by decide +kernel) rfl (Nat.le_of_ble_eq_true rfl) ?_
  refine rx_aload_n dX11_seen_0 rfl rfl ?_
  refine rx_iload_n dX11_seen_1 rfl ?_
  refine rx_if_lt (tgt := 14) dX11_seen_2 (by decide) (fun h2 => (absurd h2 (by decide))) (fun h2 => ?_)
  refine rx_iload_n dX11_seen_5 rfl ?_
  refine rx_iconst (v := nI 2) dX11_seen_6 rfl ?_
  refine rx_icmp_gt (tgt := 14) dX11_seen_7 (by decide) (fun h7 => (absurd h7 (by decide))) (fun h7 => ?_)
  refine rx_iconst (v := nI 0) dX11_seen_10 rfl ?_
  refine rx_goto (tgt := 15) dX11_seen_11 (by decide) ?_
  refine gm_putI hG hf_RX11_160 (gw_nf rfl rfl) rfl dX11_seen_15 rfl rfl rfl rfl rfl ?_
  refine rx_iload_n dX11_seen_18 rfl ?_
  refine rx_if_ne (tgt := 29) dX11_seen_19 (by decide) (fun h19 => (absurd h19 (by decide))) (fun h19 => ?_)
  refine rx_aload_n dX11_seen_22 rfl rfl ?_
  refine gmv_getI (v := v0) hG hf_RX11_338 rfl dX11_seen_23 rfl rfl rfl (by simpa [rx_ru] using hz0) ?_
  refine rx_goto (tgt := 54) dX11_seen_26 (by decide) ?_
  exact rx_iret rfl dX11_seen_54 ⟨rfl, rfl⟩
theorem mf_seen1 {G : rx_E} {d : Nat} {C : rx_M} {S : gs_T} (hG : rx_OK G) {v0 v1 v2 : Int32} (hz0 : S.1 52 61 = v0) (hz1 : S.1 52 62 = v1) (hz2 : S.1 52 63 = v2) : rx_C G MX11_seen d [.ref 52, .int (nI 1)] (gl C S) 0 0 (fun vv mu => vv = some (.int v1) ∧ mu = gl C (rx_u S.1 52 0 (nI 0), S.2)) := by
  refine rx_meth0 (by decide +kernel) rfl (Nat.le_of_ble_eq_true rfl) ?_
  refine rx_aload_n dX11_seen_0 rfl rfl ?_
  refine rx_iload_n dX11_seen_1 rfl ?_
  refine rx_if_lt (tgt := 14) dX11_seen_2 (by decide) (fun h2 => (absurd h2 (by decide))) (fun h2 => ?_)
  refine rx_iload_n dX11_seen_5 rfl ?_
  refine rx_iconst (v := nI 2) dX11_seen_6 rfl ?_
  refine rx_icmp_gt (tgt := 14) dX11_seen_7 (by decide) (fun h7 => (absurd h7 (by decide))) (fun h7 => ?_)
  refine rx_iconst (v := nI 0) dX11_seen_10 rfl ?_
  refine rx_goto (tgt := 15) dX11_seen_11 (by decide) ?_
  refine gm_putI hG hf_RX11_160 (gw_nf rfl rfl) rfl dX11_seen_15 rfl rfl rfl rfl rfl ?_
  refine rx_iload_n dX11_seen_18 rfl ?_
  refine rx_if_ne (tgt := 29) dX11_seen_19 (by decide) (fun h19 => ?_) (fun h19 => (absurd h19 (by decide))) 
  refine rx_iload_n dX11_seen_29 rfl ?_
  refine rx_iconst (v := nI 1) dX11_seen_30 rfl ?_
  refine rx_icmp_ne (tgt := 41) dX11_seen_31 (by decide) (fun h31 => (absurd h31 (by decide))) (fun h31 => ?_)
  refine rx_aload_n dX11_seen_34 rfl rfl ?_
  refine gmv_getI (v := v1) hG hf_RX11_341 rfl dX11_seen_35 rfl rfl rfl (by simpa [rx_ru] using hz1) ?_
  refine rx_goto (tgt := 54) dX11_seen_38 (by decide) ?_
  exact rx_iret rfl dX11_seen_54 ⟨rfl, rfl⟩
theorem mf_seen2 {G : rx_E} {d : Nat} {C : rx_M} {S : gs_T} (hG : rx_OK G) {v0 v1 v2 : Int32} (hz0 : S.1 52 61 = v0) (hz1 : S.1 52 62 = v1) (hz2 : S.1 52 63 = v2) : rx_C G MX11_seen d [.ref 52, .int (nI 2)] (gl C S) 0 0 (fun vv mu => vv = some (.int v2) ∧ mu = gl C (rx_u S.1 52 0 (nI 0), S.2)) := by
  refine rx_meth0 (by decide +kernel) rfl (Nat.le_of_ble_eq_true rfl) ?_
  refine rx_aload_n dX11_seen_0 rfl rfl ?_
  refine rx_iload_n dX11_seen_1 rfl ?_
  refine rx_if_lt (tgt := 14) dX11_seen_2 (by decide) (fun h2 => (absurd h2 (by decide))) (fun h2 => ?_)
  refine rx_iload_n dX11_seen_5 rfl ?_
  refine rx_iconst (v := nI 2) dX11_seen_6 rfl ?_
  refine rx_icmp_gt (tgt := 14) dX11_seen_7 (by decide) (fun h7 => (absurd h7 (by decide))) (fun h7 => ?_)
  refine rx_iconst (v := nI 0) dX11_seen_10 rfl ?_
  refine rx_goto (tgt := 15) dX11_seen_11 (by decide) ?_
  refine gm_putI hG hf_RX11_160 (gw_nf rfl rfl) rfl dX11_seen_15 rfl rfl rfl rfl rfl ?_
  refine rx_iload_n dX11_seen_18 rfl ?_
  refine rx_if_ne (tgt := 29) dX11_seen_19 (by decide) (fun h19 => ?_) (fun h19 => (absurd h19 (by decide))) 
  refine rx_iload_n dX11_seen_29 rfl ?_
  refine rx_iconst (v := nI 1) dX11_seen_30 rfl ?_
  refine rx_icmp_ne (tgt := 41) dX11_seen_31 (by decide) (fun h31 => ?_) (fun h31 => (absurd h31 (by decide))) 
  refine rx_iload_n dX11_seen_41 rfl ?_
  refine rx_iconst (v := nI 2) dX11_seen_42 rfl ?_
  refine rx_icmp_ne (tgt := 53) dX11_seen_43 (by decide) (fun h43 => (absurd h43 (by decide))) (fun h43 => ?_)
  refine rx_aload_n dX11_seen_46 rfl rfl ?_
  refine gmv_getI (v := v2) hG hf_RX11_344 rfl dX11_seen_47 rfl rfl rfl (by simpa [rx_ru] using hz2) ?_
  refine rx_goto (tgt := 54) dX11_seen_50 (by decide) ?_
  exact rx_iret rfl dX11_seen_54 ⟨rfl, rfl⟩
theorem wi_nk {x : Int32} {N k : Nat} {P : Prop} (h : wi_out x N) (hk : k < N) (hN : N < 2 ^ 31) (he : x = nI k) : P := by
  subst he
  rcases h with h | h
  · exact absurd h (nI_pos (by omega))
  · rw [nI_leI (by omega) (by omega)] at h; omega
theorem mf_seen_w {G : rx_E} {d : Nat} {C : rx_M} {S : gs_T} (hG : rx_OK G) {x : Int32} (hx : wi_out x 3) : rx_C G MX11_seen d [.ref 52, .int x] (gl C S) 0 0 (fun vv mu => vv = some (.int (nI 0)) ∧ mu = gl C (rx_u S.1 52 0 (nI 1), S.2)) := by
  refine rx_meth0 (by decide +kernel) rfl (Nat.le_of_ble_eq_true rfl) ?_
  refine rx_aload_n dX11_seen_0 rfl rfl ?_
  refine rx_iload_n dX11_seen_1 rfl ?_
  refine rx_if_lt (tgt := 14) dX11_seen_2 (by decide) (fun h2q => ?_) (fun h2q => ?_)
  · refine rx_iconst (v := nI 1) dX11_seen_14 rfl ?_
    refine gm_putI hG hf_RX11_160 (gw_nf rfl rfl) rfl dX11_seen_15 rfl rfl rfl rfl rfl ?_
    refine rx_iload_n dX11_seen_18 rfl ?_
    refine rx_if_ne (tgt := 29) dX11_seen_19 (by decide) (fun h19 => ?_) (fun h19 => (wi_nk hx (k := 0) (by decide) (by decide) h19)) 
    refine rx_iload_n dX11_seen_29 rfl ?_
    refine rx_iconst (v := nI 1) dX11_seen_30 rfl ?_
    refine rx_icmp_ne (tgt := 41) dX11_seen_31 (by decide) (fun h31 => ?_) (fun h31 => (wi_nk hx (k := 1) (by decide) (by decide) h31)) 
    refine rx_iload_n dX11_seen_41 rfl ?_
    refine rx_iconst (v := nI 2) dX11_seen_42 rfl ?_
    refine rx_icmp_ne (tgt := 53) dX11_seen_43 (by decide) (fun h43 => ?_) (fun h43 => (wi_nk hx (k := 2) (by decide) (by decide) h43)) 
    refine rx_iconst (v := nI 0) dX11_seen_53 rfl ?_
    exact rx_iret rfl dX11_seen_54 ⟨rfl, rfl⟩
  · refine rx_iload_n dX11_seen_5 rfl ?_
    refine rx_iconst (v := nI 2) dX11_seen_6 rfl ?_
    refine rx_icmp_gt (tgt := 14) dX11_seen_7 (by decide) (fun h7 => ?_) (fun h7 => wi_d2 hx (by decide) (by decide) h2q h7) 
    refine rx_iconst (v := nI 1) dX11_seen_14 rfl ?_
    refine gm_putI hG hf_RX11_160 (gw_nf rfl rfl) rfl dX11_seen_15 rfl rfl rfl rfl rfl ?_
    refine rx_iload_n dX11_seen_18 rfl ?_
    refine rx_if_ne (tgt := 29) dX11_seen_19 (by decide) (fun h19 => ?_) (fun h19 => (wi_nk hx (k := 0) (by decide) (by decide) h19)) 
    refine rx_iload_n dX11_seen_29 rfl ?_
    refine rx_iconst (v := nI 1) dX11_seen_30 rfl ?_
    refine rx_icmp_ne (tgt := 41) dX11_seen_31 (by decide) (fun h31 => ?_) (fun h31 => (wi_nk hx (k := 1) (by decide) (by decide) h31)) 
    refine rx_iload_n dX11_seen_41 rfl ?_
    refine rx_iconst (v := nI 2) dX11_seen_42 rfl ?_
    refine rx_icmp_ne (tgt := 53) dX11_seen_43 (by decide) (fun h43 => ?_) (fun h43 => (wi_nk hx (k := 2) (by decide) (by decide) h43)) 
    refine rx_iconst (v := nI 0) dX11_seen_53 rfl ?_
    exact rx_iret rfl dX11_seen_54 ⟨rfl, rfl⟩
theorem mf_beside_w {G : rx_E} {d : Nat} {C : rx_M} {S : gs_T} (hG : rx_OK G) {x : Int32} {y : Int64} (hx : wi_out x 10) : rx_C G MX11_beside d [.ref 52, .int x, .long y] (gl C S) 0 0 (fun vv mu => vv = none ∧ mu = gl C (rx_u S.1 52 0 (nI 1), S.2)) := by
  refine rx_meth0 (by decide +kernel) rfl (Nat.le_of_ble_eq_true rfl) ?_
  refine rx_aload_n dX11_beside_0 rfl rfl ?_
  refine rx_iload_n dX11_beside_1 rfl ?_
  refine rx_if_lt (tgt := 15) dX11_beside_2 (by decide) (fun h2 => ?_) (fun h2 => ?_)
  · refine rx_iconst (v := nI 1) dX11_beside_15 rfl ?_
    refine gm_putI hG hf_RX11_160 (gw_nf rfl rfl) rfl dX11_beside_16 rfl rfl rfl rfl rfl ?_
    refine rx_aload_n dX11_beside_19 rfl rfl ?_
    refine gmv_getI (v := nI 1) hG hf_RX11_160 rfl dX11_beside_20 rfl rfl rfl (by simp [rx_ru]) ?_
    refine rx_if_ne (tgt := 33) dX11_beside_23 (by decide) (fun h23 => ?_) (fun h23 => (absurd h23 (by decide))) 
    exact rx_vret rfl dX11_beside_33 ⟨rfl, rfl⟩
  · refine rx_iload_n dX11_beside_5 rfl ?_
    refine rx_bipush (v := nI 9) dX11_beside_6 rfl ?_
    refine rx_icmp_gt (tgt := 15) dX11_beside_8 (by decide) (fun h8 => ?_) (fun h8 => wi_d2 hx (by decide) (by decide) h2 h8) 
    refine rx_iconst (v := nI 1) dX11_beside_15 rfl ?_
    refine gm_putI hG hf_RX11_160 (gw_nf rfl rfl) rfl dX11_beside_16 rfl rfl rfl rfl rfl ?_
    refine rx_aload_n dX11_beside_19 rfl rfl ?_
    refine gmv_getI (v := nI 1) hG hf_RX11_160 rfl dX11_beside_20 rfl rfl rfl (by simp [rx_ru]) ?_
    refine rx_if_ne (tgt := 33) dX11_beside_23 (by decide) (fun h23 => ?_) (fun h23 => (absurd h23 (by decide))) 
    exact rx_vret rfl dX11_beside_33 ⟨rfl, rfl⟩
theorem mf_beside {G : rx_E} {d : Nat} {C : rx_M} {S : gs_T} (hG : rx_OK G) {i : Nat} {y : Int64} (hi : i < 10) : rx_C G MX11_beside d [.ref 52, .int (nI i), .long y] (gl C S) 0 0 (fun vv mu => vv = none ∧ mu = gl C (rx_u S.1 52 0 (nI 0), rx_u S.2 81 i y)) := by
  refine rx_meth0 (by decide +kernel) rfl (Nat.le_of_ble_eq_true rfl) ?_
  refine rx_aload_n dX11_beside_0 rfl rfl ?_
  refine rx_iload_n dX11_beside_1 rfl ?_
  refine rx_if_lt (tgt := 15) dX11_beside_2 (by decide) (fun h2 => (absurd h2 (nI_pos (by omega)))) (fun h2 => ?_)
  refine rx_iload_n dX11_beside_5 rfl ?_
  refine rx_bipush (v := nI 9) dX11_beside_6 rfl ?_
  refine rx_icmp_gt (tgt := 15) dX11_beside_8 (by decide) (fun h8 => (absurd h8 (by rw [nI_ltI (by omega) (by omega)]; omega))) (fun h8 => ?_)
  refine rx_iconst (v := nI 0) dX11_beside_11 rfl ?_
  refine rx_goto (tgt := 16) dX11_beside_12 (by decide) ?_
  refine gm_putI hG hf_RX11_160 (gw_nf rfl rfl) rfl dX11_beside_16 rfl rfl rfl rfl rfl ?_
  refine rx_aload_n dX11_beside_19 rfl rfl ?_
  refine gmv_getI (v := nI 0) hG hf_RX11_160 rfl dX11_beside_20 rfl rfl rfl (by simp [rx_ru]) ?_
  refine rx_if_ne (tgt := 33) dX11_beside_23 (by decide) (fun h23 => (absurd h23 (by decide))) (fun h23 => ?_)
  refine rx_aload_n dX11_beside_26 rfl rfl ?_
  refine g_getR hG hf_RX11_96 rfl dX11_beside_27 rfl rfl rfl ?_
  refine rx_iload_n dX11_beside_30 rfl ?_
  refine rx_lload_n dX11_beside_31 rfl ?_
  refine gm_last (j := i) hG dX11_beside_32 rfl rfl rfl rfl (by omega) (by decide) ?_
  exact rx_vret rfl dX11_beside_33 ⟨rfl, rfl⟩

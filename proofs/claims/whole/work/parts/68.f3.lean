theorem bI_t {p : Prop} [Decidable p] (h : p) : bI (decide p) = nI 1 := by rw [decide_eq_true h]; rfl
theorem bI_f {p : Prop} [Decidable p] (h : ¬ p) : bI (decide p) = nI 0 := by rw [decide_eq_false h]; rfl
theorem cf_isCertain {G : rx_E} {d : Nat} {C : rx_M} {S : gs_T} (hG : rx_OK G) {nb : Nat} (h05 : C.1 0 5 = nI nb) (hnb : nb ≤ 40) {b : Nat} {a : wA} {q : wB} (hb : b < nb) (hr : C.2.2.1 44 b = some a.1) (hB : cB1 C a q) {ws0 ws1 ws2 ws3 ws4 ws5 ws6 : Nat} (hw : C.1 49 0 = nI ws0 ∧ C.1 49 1 = nI ws1 ∧ C.1 49 2 = nI ws2 ∧ C.1 49 3 = nI ws3 ∧ C.1 49 4 = nI ws4 ∧ C.1 49 5 = nI ws5 ∧ C.1 49 6 = nI ws6) (hw1 : ws0 ≤ 1000 ∧ ws1 ≤ 1000 ∧ ws2 ≤ 1000 ∧ ws3 ≤ 1000 ∧ ws4 ≤ 1000 ∧ ws5 ≤ 1000 ∧ ws6 ≤ 1000) {ce : Bool} (hv : q.2.2.2.2.2 ≤ 600000) (hce : ce = decide (b = 0 ∨ 2 * (ws0 + ws1 + ws2 + ws3 + ws4 + ws5 + ws6) < 3 * q.2.2.2.2.2)) : rx_C G MX10_isCertain (d + 2) [.ref 0, .int (nI b)] (gl C S) 0 0 (fun v mu => v = some (.int (bI ce)) ∧ mu = gl C S) := by
  refine rx_meth0 (by decide +kernel) rfl (Nat.le_of_ble_eq_true rfl) ?_
  refine rx_iload_n dX10_isCertain_0 rfl ?_
  refine rx_if_ne (tgt := 6) dX10_isCertain_1 (by decide) (fun h1 => ?_) (fun h1 => ?_)
  · rw [← nI_0, nI_eq (by omega) (by omega)] at h1
    refine rx_iconst (v := nI 0) dX10_isCertain_6 rfl ?_
    refine rx_istore_n dX10_isCertain_7 (by decide) ?_
    refine rx_iconst (v := nI 0) dX10_isCertain_8 rfl ?_
    refine rx_istore_n dX10_isCertain_9 (by decide) ?_
    refine rx_iload_n dX10_isCertain_10 rfl ?_
    refine rx_bipush (v := nI 7) dX10_isCertain_11 rfl ?_
    refine rx_icmp_ge (tgt := 31) dX10_isCertain_13 (by decide) (fun h13 => (absurd h13 (by decide))) (fun h13 => ?_)
    refine rx_iload_n dX10_isCertain_16 rfl ?_
    refine rx_aload_n dX10_isCertain_17 rfl rfl ?_
    refine g_getR hG hf_RX10_42 rfl dX10_isCertain_18 rfl rfl rfl ?_
    refine rx_iload_n dX10_isCertain_21 rfl ?_
    refine gcv_iald (j := 0) (v := nI ws0) hG dX10_isCertain_22 rfl rfl rfl rfl (by omega) (by decide) hw.1 ?_
    refine rx_iadd dX10_isCertain_23 ?_
    refine rx_ti (y := nI ws0) ((nI_add _ _).trans (congrArg nI (by omega))) ?_
    refine rx_istore_n dX10_isCertain_24 (by decide) ?_
    refine rx_iinc (v := nI 1) dX10_isCertain_25 rfl ((nI_add _ 1).trans (congrArg nI (by omega))) ?_
    refine rx_goto (tgt := 10) dX10_isCertain_28 (by decide) ?_
    refine rx_iload_n dX10_isCertain_10 rfl ?_
    refine rx_bipush (v := nI 7) dX10_isCertain_11 rfl ?_
    refine rx_icmp_ge (tgt := 31) dX10_isCertain_13 (by decide) (fun h13 => (absurd h13 (by decide))) (fun h13 => ?_)
    refine rx_iload_n dX10_isCertain_16 rfl ?_
    refine rx_aload_n dX10_isCertain_17 rfl rfl ?_
    refine g_getR hG hf_RX10_42 rfl dX10_isCertain_18 rfl rfl rfl ?_
    refine rx_iload_n dX10_isCertain_21 rfl ?_
    refine gcv_iald (j := 1) (v := nI ws1) hG dX10_isCertain_22 rfl rfl rfl rfl (by omega) (by decide) hw.2.1 ?_
    refine rx_iadd dX10_isCertain_23 ?_
    refine rx_ti (y := nI (ws0 + ws1)) ((nI_add _ _).trans (congrArg nI (by omega))) ?_
    refine rx_istore_n dX10_isCertain_24 (by decide) ?_
    refine rx_iinc (v := nI 2) dX10_isCertain_25 rfl ((nI_add _ 1).trans (congrArg nI (by omega))) ?_
    refine rx_goto (tgt := 10) dX10_isCertain_28 (by decide) ?_
    refine rx_iload_n dX10_isCertain_10 rfl ?_
    refine rx_bipush (v := nI 7) dX10_isCertain_11 rfl ?_
    refine rx_icmp_ge (tgt := 31) dX10_isCertain_13 (by decide) (fun h13 => (absurd h13 (by decide))) (fun h13 => ?_)
    refine rx_iload_n dX10_isCertain_16 rfl ?_
    refine rx_aload_n dX10_isCertain_17 rfl rfl ?_
    refine g_getR hG hf_RX10_42 rfl dX10_isCertain_18 rfl rfl rfl ?_
    refine rx_iload_n dX10_isCertain_21 rfl ?_
    refine gcv_iald (j := 2) (v := nI ws2) hG dX10_isCertain_22 rfl rfl rfl rfl (by omega) (by decide) hw.2.2.1 ?_
    refine rx_iadd dX10_isCertain_23 ?_
    refine rx_ti (y := nI (ws0 + ws1 + ws2)) ((nI_add _ _).trans (congrArg nI (by omega))) ?_
    refine rx_istore_n dX10_isCertain_24 (by decide) ?_
    refine rx_iinc (v := nI 3) dX10_isCertain_25 rfl ((nI_add _ 1).trans (congrArg nI (by omega))) ?_
    refine rx_goto (tgt := 10) dX10_isCertain_28 (by decide) ?_
    refine rx_iload_n dX10_isCertain_10 rfl ?_
    refine rx_bipush (v := nI 7) dX10_isCertain_11 rfl ?_
    refine rx_icmp_ge (tgt := 31) dX10_isCertain_13 (by decide) (fun h13 => (absurd h13 (by decide))) (fun h13 => ?_)
    refine rx_iload_n dX10_isCertain_16 rfl ?_
    refine rx_aload_n dX10_isCertain_17 rfl rfl ?_
    refine g_getR hG hf_RX10_42 rfl dX10_isCertain_18 rfl rfl rfl ?_
    refine rx_iload_n dX10_isCertain_21 rfl ?_
    refine gcv_iald (j := 3) (v := nI ws3) hG dX10_isCertain_22 rfl rfl rfl rfl (by omega) (by decide) hw.2.2.2.1 ?_
    refine rx_iadd dX10_isCertain_23 ?_
    refine rx_ti (y := nI (ws0 + ws1 + ws2 + ws3)) ((nI_add _ _).trans (congrArg nI (by omega))) ?_
    refine rx_istore_n dX10_isCertain_24 (by decide) ?_
    refine rx_iinc (v := nI 4) dX10_isCertain_25 rfl ((nI_add _ 1).trans (congrArg nI (by omega))) ?_
    refine rx_goto (tgt := 10) dX10_isCertain_28 (by decide) ?_
    refine rx_iload_n dX10_isCertain_10 rfl ?_
    refine rx_bipush (v := nI 7) dX10_isCertain_11 rfl ?_
    refine rx_icmp_ge (tgt := 31) dX10_isCertain_13 (by decide) (fun h13 => (absurd h13 (by decide))) (fun h13 => ?_)
    refine rx_iload_n dX10_isCertain_16 rfl ?_
    refine rx_aload_n dX10_isCertain_17 rfl rfl ?_
    refine g_getR hG hf_RX10_42 rfl dX10_isCertain_18 rfl rfl rfl ?_
    refine rx_iload_n dX10_isCertain_21 rfl ?_
    refine gcv_iald (j := 4) (v := nI ws4) hG dX10_isCertain_22 rfl rfl rfl rfl (by omega) (by decide) hw.2.2.2.2.1 ?_
    refine rx_iadd dX10_isCertain_23 ?_
    refine rx_ti (y := nI (ws0 + ws1 + ws2 + ws3 + ws4)) ((nI_add _ _).trans (congrArg nI (by omega))) ?_
    refine rx_istore_n dX10_isCertain_24 (by decide) ?_
    refine rx_iinc (v := nI 5) dX10_isCertain_25 rfl ((nI_add _ 1).trans (congrArg nI (by omega))) ?_
    refine rx_goto (tgt := 10) dX10_isCertain_28 (by decide) ?_
    refine rx_iload_n dX10_isCertain_10 rfl ?_
    refine rx_bipush (v := nI 7) dX10_isCertain_11 rfl ?_
    refine rx_icmp_ge (tgt := 31) dX10_isCertain_13 (by decide) (fun h13 => (absurd h13 (by decide))) (fun h13 => ?_)
    refine rx_iload_n dX10_isCertain_16 rfl ?_
    refine rx_aload_n dX10_isCertain_17 rfl rfl ?_
    refine g_getR hG hf_RX10_42 rfl dX10_isCertain_18 rfl rfl rfl ?_
    refine rx_iload_n dX10_isCertain_21 rfl ?_
    refine gcv_iald (j := 5) (v := nI ws5) hG dX10_isCertain_22 rfl rfl rfl rfl (by omega) (by decide) hw.2.2.2.2.2.1 ?_
    refine rx_iadd dX10_isCertain_23 ?_
    refine rx_ti (y := nI (ws0 + ws1 + ws2 + ws3 + ws4 + ws5)) ((nI_add _ _).trans (congrArg nI (by omega))) ?_
    refine rx_istore_n dX10_isCertain_24 (by decide) ?_
    refine rx_iinc (v := nI 6) dX10_isCertain_25 rfl ((nI_add _ 1).trans (congrArg nI (by omega))) ?_
    refine rx_goto (tgt := 10) dX10_isCertain_28 (by decide) ?_
    refine rx_iload_n dX10_isCertain_10 rfl ?_
    refine rx_bipush (v := nI 7) dX10_isCertain_11 rfl ?_
    refine rx_icmp_ge (tgt := 31) dX10_isCertain_13 (by decide) (fun h13 => (absurd h13 (by decide))) (fun h13 => ?_)
    refine rx_iload_n dX10_isCertain_16 rfl ?_
    refine rx_aload_n dX10_isCertain_17 rfl rfl ?_
    refine g_getR hG hf_RX10_42 rfl dX10_isCertain_18 rfl rfl rfl ?_
    refine rx_iload_n dX10_isCertain_21 rfl ?_
    refine gcv_iald (j := 6) (v := nI ws6) hG dX10_isCertain_22 rfl rfl rfl rfl (by omega) (by decide) hw.2.2.2.2.2.2 ?_
    refine rx_iadd dX10_isCertain_23 ?_
    refine rx_ti (y := nI (ws0 + ws1 + ws2 + ws3 + ws4 + ws5 + ws6)) ((nI_add _ _).trans (congrArg nI (by omega))) ?_
    refine rx_istore_n dX10_isCertain_24 (by decide) ?_
    refine rx_iinc (v := nI 7) dX10_isCertain_25 rfl ((nI_add _ 1).trans (congrArg nI (by omega))) ?_
    refine rx_goto (tgt := 10) dX10_isCertain_28 (by decide) ?_
    refine rx_iload_n dX10_isCertain_10 rfl ?_
    refine rx_bipush (v := nI 7) dX10_isCertain_11 rfl ?_
    refine rx_icmp_ge (tgt := 31) dX10_isCertain_13 (by decide) (fun h13 => ?_) (fun h13 => (absurd h13 (by decide))) 
    refine rx_aload_n dX10_isCertain_31 rfl rfl ?_
    refine rx_iload_n dX10_isCertain_32 rfl ?_
    refine gv_invV (as := [.int _]) hG okX10_isBlock lk_RX10_150 rfl rfl dX10_isCertain_33 rfl (by simp [Value.category]) (cf_isBlock hG h05 hnb hb) ?_
    rintro _ _ ⟨rfl, rfl⟩
    refine rx_if_eq (tgt := 60) dX10_isCertain_36 (by decide) (fun h36 => (absurd h36 (by decide))) (fun h36 => ?_)
    refine rx_iconst (v := nI 3) dX10_isCertain_39 rfl ?_
    refine rx_aload_n dX10_isCertain_40 rfl rfl ?_
    refine g_getR hG hf_RX10_31 rfl dX10_isCertain_41 rfl rfl rfl ?_
    refine rx_iload_n dX10_isCertain_44 rfl ?_
    refine gd_aald hG dX10_isCertain_45 rfl rfl (by decide) rfl (show b < 40 by omega) (by decide) (gk44 (by omega)) hr ?_
    refine gy_getI (v := nI q.2.2.2.2.2) hG hf_RX10_200 rfl dX10_isCertain_46 hB.1.1 hB.2.1.2.2.2.2.2.2 ?_
    refine rx_imul dX10_isCertain_49 ?_
    refine rx_ti (y := nI (3 * q.2.2.2.2.2)) ((pk_mul _ _).trans (congrArg nI (by omega))) ?_
    refine rx_iconst (v := nI 2) dX10_isCertain_50 rfl ?_
    refine rx_iload_n dX10_isCertain_51 rfl ?_
    refine rx_imul dX10_isCertain_52 ?_
    refine rx_ti (y := nI (2 * ws0 + 2 * ws1 + 2 * ws2 + 2 * ws3 + 2 * ws4 + 2 * ws5 + 2 * ws6)) ((pk_mul _ _).trans (congrArg nI (by omega))) ?_
    refine rx_icmp_le (tgt := 60) dX10_isCertain_53 (by decide) (fun h53 => ?_) (fun h53 => ?_)
    · rw [nI_leI (by omega) (by omega)] at h53
      refine rx_iconst (v := nI 0) dX10_isCertain_60 rfl ?_
      exact rx_zret rfl rfl dX10_isCertain_61 ⟨congrArg (fun x => some (Value.int x)) (by rw [hce]; exact (bI_f (by omega)).symm), rfl⟩
    · rw [nI_leI (by omega) (by omega)] at h53
      refine rx_iconst (v := nI 1) dX10_isCertain_56 rfl ?_
      refine rx_goto (tgt := 61) dX10_isCertain_57 (by decide) ?_
      exact rx_zret rfl rfl dX10_isCertain_61 ⟨congrArg (fun x => some (Value.int x)) (by rw [hce]; exact (bI_t (by omega)).symm), rfl⟩
  · rw [← nI_0, nI_eq (by omega) (by omega)] at h1
    refine rx_iconst (v := nI 1) dX10_isCertain_4 rfl ?_
    exact rx_zret rfl rfl dX10_isCertain_5 ⟨congrArg (fun x => some (Value.int x)) (by rw [hce]; exact (bI_t (by omega)).symm), rfl⟩
theorem cf_told6 {G : rx_E} {d : Nat} {C : rx_M} {S : gs_T} (hG : rx_OK G) {nb : Nat} (h05 : C.1 0 5 = nI nb) (hnb : nb ≤ 40) {b : Nat} {a : wA} {q : wB} (hb : b < nb) (hr : C.2.2.1 44 b = some a.1) (hB : cB1 C a q) {ws0 ws1 ws2 ws3 ws4 ws5 ws6 : Nat} (hw : C.1 49 0 = nI ws0 ∧ C.1 49 1 = nI ws1 ∧ C.1 49 2 = nI ws2 ∧ C.1 49 3 = nI ws3 ∧ C.1 49 4 = nI ws4 ∧ C.1 49 5 = nI ws5 ∧ C.1 49 6 = nI ws6) (hw1 : ws0 ≤ 1000 ∧ ws1 ≤ 1000 ∧ ws2 ≤ 1000 ∧ ws3 ≤ 1000 ∧ ws4 ≤ 1000 ∧ ws5 ≤ 1000 ∧ ws6 ≤ 1000) {ce : Bool} (hv : q.2.2.2.2.2 ≤ 600000) (hce : ce = decide (b = 0 ∨ 2 * (ws0 + ws1 + ws2 + ws3 + ws4 + ws5 + ws6) < 3 * q.2.2.2.2.2)) : rx_X G MX10_told (d + 8) [.ref 0, .int (nI b), .int (nI 6)] (gl C S) 8 2000 (fun v mu => v = some (.int (bI ce)) ∧ ∃ C', mu = gl C' S ∧ C' = C) (fun _ _ => False) := by
  refine rx_meth (by decide +kernel) rfl (Nat.le_of_ble_eq_true rfl) ?_
  refine rx_aload_n dX10_told_0 rfl rfl ?_
  refine rx_iload_n dX10_told_1 rfl ?_
  refine gv_invV (as := [.int _]) hG okX10_isBlock lk_RX10_150 rfl rfl dX10_told_2 rfl (by simp [Value.category]) (cf_isBlock hG h05 hnb hb) ?_
  rintro _ _ ⟨rfl, rfl⟩
  refine rx_if_eq (tgt := 18) dX10_told_5 (by decide) (fun h5 => (absurd h5 (by decide))) (fun h5 => ?_)
  refine rx_iload_n dX10_told_8 rfl ?_
  refine rx_i2l dX10_told_9 ?_
  refine rx_tl (y := lN 6) (nI_l (by omega)) ?_
  refine rx_bipush (v := nI 7) dX10_told_10 rfl ?_
  refine rx_invS0 (as := [.long _, .int _]) hG okX10_isWithin lk_RX10_127 dX10_told_12 rfl (by simp [Value.category]) (cw_in (j := 6) (N := 7) hG (by decide) (by decide)) ?_
  rintro _ _ ⟨rfl, rfl⟩
  refine rx_if_ne (tgt := 28) dX10_told_15 (by decide) (fun h15 => ?_) (fun h15 => (absurd h15 (by decide))) 
  refine rx_aload_n dX10_told_28 rfl rfl ?_
  refine g_getR hG hf_RX10_31 rfl dX10_told_29 rfl rfl rfl ?_
  refine rx_iload_n dX10_told_32 rfl ?_
  refine gd_aald hG dX10_told_33 rfl rfl (by decide) rfl (show b < 40 by omega) (by decide) (gk44 (by omega)) hr ?_
  refine rx_astore_n dX10_told_34 (by decide) rfl ?_
  refine rx_iload_n dX10_told_35 rfl ?_
  refine rx_tabOut (tgt := 112) dX10_told_36 (by decide) (by decide) ?_
  refine rx_aload_n dX10_told_112 rfl rfl ?_
  refine rx_iload_n dX10_told_113 rfl ?_
  refine gv_invV (as := [.int _]) hG okX10_isCertain lk_RX10_203 rfl rfl dX10_told_114 rfl (by simp [Value.category]) (cf_isCertain hG h05 hnb hb hr hB hw hw1 hv hce) ?_
  rintro _ _ ⟨rfl, rfl⟩
  refine rx_if_eq (tgt := 124) dX10_told_117 (by decide) (fun h117 => ?_) (fun h117 => ?_)
  · refine rx_iconst (v := nI 0) dX10_told_124 rfl ?_
    exact rx_iret rfl dX10_told_125 ⟨congrArg (fun x => some (Value.int x)) (by cases hc : ce; (first | rfl | exact absurd (by rw [hc]; rfl) h117); (first | rfl | exact absurd h117 (by rw [hc]; decide))), C, rfl, rfl⟩
  · refine rx_iconst (v := nI 1) dX10_told_120 rfl ?_
    refine rx_goto (tgt := 125) dX10_told_121 (by decide) ?_
    exact rx_iret rfl dX10_told_125 ⟨congrArg (fun x => some (Value.int x)) (by cases hc : ce; (first | rfl | exact absurd (by rw [hc]; rfl) h117); (first | rfl | exact absurd h117 (by rw [hc]; decide))), C, rfl, rfl⟩
theorem rx_Hm {G : rx_E} {M : rx_Me} {hh : List (Nat × Nat × Nat × Nat)} {d mc ms : Nat} {as : List Value} {mu : rx_M} {Q1 Q2 : Option Value → rx_M → Prop} (h : rx_H G M hh d as mu mc ms Q1) (hq : ∀ v m, Q1 v m → Q2 v m) : rx_H G M hh d as mu mc ms Q2 := by
  intro p e h1 h2 h3 s m args below h4 h5 h6 h7
  obtain ⟨k', o, a1, a2, a3, ⟨v, m', b1, b2, b3⟩, a5⟩ := h p e h1 h2 h3 s m args below h4 h5 h6 h7
  exact ⟨k', o, a1, a2, a3, ⟨v, m', b1, hq v m' b2, b3⟩, a5⟩
/-- the class's answer: what was thrown, or the answer in the law's own row; the world -/
def hR (S : gs_T) (w : wW) (t : Nat) (ans : Int64) (v : Option Value) (mu : rx_M) : Prop := v = some (.int (nI t)) ∧ ∃ A C', mu = gl C' S ∧ rcw A C' w ∧ (t = 0 → C'.2.1 101 0 = ans)
/-- the model's -/
def mRI (C : rx_M) (w : wW) (t : Nat) (ans : Int64) (v : Option Value) (mu : rx_M) : Prop := ∃ S' r, v = some (.int r) ∧ mu = gl C S' ∧ rmw S' w ∧ S'.1 52 0 = nI t ∧ (t = 0 → r.toInt64 = ans)
def mRL (C : rx_M) (w : wW) (t : Nat) (ans : Int64) (v : Option Value) (mu : rx_M) : Prop := ∃ S' r, v = some (.long r) ∧ mu = gl C S' ∧ rmw S' w ∧ S'.1 52 0 = nI t ∧ (t = 0 → r = ans)
def mRV (C : rx_M) (w : wW) (t : Nat) (_ : Int64) (v : Option Value) (mu : rx_M) : Prop := ∃ S', v = none ∧ mu = gl C S' ∧ rmw S' w ∧ S'.1 52 0 = nI t
def mRZ (C : rx_M) (w : wW) (t : Nat) (ans : Int64) (v : Option Value) (mu : rx_M) : Prop := ∃ S' r, v = some (.int (bI r)) ∧ mu = gl C S' ∧ rmw S' w ∧ S'.1 52 0 = nI t ∧ (t = 0 → (if r then 1 else 0 : Int64) = ans)
/-- one call: both sides throw alike, answer alike, and hold one world after it -/
def fP (n : Nat) (w : wW) (Hc : rx_M → gs_T → (Option Value → rx_M → Prop) → Prop) (Mc : rx_M → gs_T → (Option Value → rx_M → Prop) → Prop) (mR : rx_M → wW → Nat → Int64 → Option Value → rx_M → Prop) : Prop :=
  ∃ t ans w', t < 4 ∧ vW w' (n + 1) ∧ (∀ A C S, rcw A C w → Hc C S (hR S w' t ans)) ∧ (∀ C S, rmw S w → Mc C S (mR C w' t ans))
theorem rc_ag_out {C : rx_M} {x : Int64} : rc_ag C (C.1, rx_u C.2.1 101 0 x, C.2.2) := ⟨fun a ha _ => ⟨rfl, rx_une _ (by omega)⟩, fun _ _ _ => rfl, fun _ _ _ => rfl, Nat.le_refl _⟩
theorem rmw_th {S : gs_T} {w : wW} {x : Int32} (h : rmw S w) : rmw (rx_u S.1 52 0 x, S.2) w := rmw_ag h ⟨fun a h1 h2 _ => ⟨rx_une _ (by omega), rfl⟩, fun k hk => by show rx_u S.1 52 0 x 52 k = _; rw [rx_ru, if_pos rfl, if_neg (by omega)]⟩
theorem hR_x {C : rx_M} {S : gs_T} {A : wP} {w : wW} {t : Nat} {ans : Int64} (hC : rcw A C w) (ht : t ≠ 0) : ∀ v mu, (v = some (.int (nI t)) ∧ ∃ C', mu = gl C' S ∧ rc_ag C C') → hR S w t ans v mu := by
  rintro _ _ ⟨rfl, C', rfl, hg⟩
  exact ⟨rfl, A, C', rfl, rcw_ag hC hg, fun h => absurd h ht⟩
theorem hR_o {S : gs_T} {A : wP} {w : wW} {ans : Int64} {C1 : rx_M} (hC : rcw A C1 w) : ∀ v mu, (v = some (.int (nI 0)) ∧ ∃ C', mu = gl (C'.1, rx_u C'.2.1 101 0 ans, C'.2.2) S ∧ C' = C1) → hR S w 0 ans v mu := by
  rintro _ _ ⟨rfl, C', rfl, rfl⟩
  exact ⟨rfl, A, _, rfl, rcw_ag hC rc_ag_out, fun _ => by simp [rx_ru]⟩
theorem hR_v {S : gs_T} {A : wP} {w : wW} {ans : Int64} {C1 : rx_M} (hC : rcw A C1 w) (h0 : C1.2.1 101 0 = ans) : ∀ v mu, (v = some (.int (nI 0)) ∧ ∃ C', mu = gl C' S ∧ C' = C1) → hR S w 0 ans v mu := by
  rintro _ _ ⟨rfl, C', rfl, rfl⟩
  exact ⟨rfl, A, _, rfl, hC, fun _ => h0⟩
theorem mRI_t {C : rx_M} {S : gs_T} {w : wW} {t : Nat} {r : Int32} {ans : Int64} (hS : rmw S w) (hr : t = 0 → r.toInt64 = ans) : ∀ v mu, (v = some (.int r) ∧ mu = gl C (rx_u S.1 52 0 (nI t), S.2)) → mRI C w t ans v mu := by
  rintro _ _ ⟨rfl, rfl⟩
  exact ⟨_, r, rfl, rfl, rmw_th hS, by simp [rx_ru], hr⟩
theorem mRL_t {C : rx_M} {S : gs_T} {w : wW} {t : Nat} {r : Int64} {ans : Int64} (hS : rmw S w) (hr : t = 0 → r = ans) : ∀ v mu, (v = some (.long r) ∧ mu = gl C (rx_u S.1 52 0 (nI t), S.2)) → mRL C w t ans v mu := by
  rintro _ _ ⟨rfl, rfl⟩
  exact ⟨_, r, rfl, rfl, rmw_th hS, by simp [rx_ru], hr⟩
theorem mRV_t {C : rx_M} {S : gs_T} {w : wW} {t : Nat} {ans : Int64} (hS : rmw S w) : ∀ v mu, (v = none ∧ mu = gl C (rx_u S.1 52 0 (nI t), S.2)) → mRV C w t ans v mu := by
  rintro _ _ ⟨rfl, rfl⟩
  exact ⟨_, rfl, rfl, rmw_th hS, by simp [rx_ru]⟩
theorem rcw_b {A : wP} {C : rx_M} {w : wW} (h : rcw A C w) : C.1 0 5 = nI w.2.2.1.1 := h.2.2.2.1.1
theorem rmw_b {S : gs_T} {w : wW} (h : rmw S w) : S.1 52 15 = nI w.2.2.1.1 := h.2.2.2.1.1
theorem F_told {G : rx_E} {d n : Nat} {w : wW} (hG : rx_OK G) (hN : rx_NC G) (hv : vW w n) (hn : n ≤ 512) (x y : Int32) : fP n w (fun C S Q => rx_H G ML_told hL_told (d + 9) [.ref 0, .int x, .int y, .ref 101] (gl C S) 8 2000 Q) (fun C S Q => rx_C G MX11_told (d + 9) [.ref 52, .int x, .int y] (gl C S) 0 0 Q) mRI := by
  have hnb := hv.2.2.2.1.1.2
  rcases wi_ix x (show w.2.2.1.1 < 2 ^ 31 by omega) with hx | ⟨b, hb, rfl⟩
  · exact ⟨1, 0, w, by decide, vW_up hv (Nat.le_succ n), fun A C S hC => rx_Hm (HL_told_x hG hN (cf_told_b hG (rcw_b hC) hnb hx)) (hR_x hC (by decide)), fun C S hS => rx_Cm (mf_told_b hG (rmw_b hS) hnb hx) (mRI_t hS (fun h => absurd h (by decide)))⟩
  have hB := hv.2.2.2.1.2.1 b hb
  rcases wi_ix y (N := 7) (by decide) with hy | ⟨j, hj, rfl⟩
  · exact ⟨1, 0, w, by decide, vW_up hv (Nat.le_succ n), fun A C S hC => rx_Hm (HL_told_x hG hN (cf_told_w hG (rcw_b hC) hnb hb hy)) (hR_x hC (by decide)), fun C S hS => rx_Cm (mf_told_w hG (rmw_b hS) hnb hb hy) (mRI_t hS (fun h => absurd h (by decide)))⟩
  have hc6 : j = 0 ∨ j = 1 ∨ j = 2 ∨ j = 3 ∨ j = 4 ∨ j = 5 ∨ j = 6 := by omega
  rcases hc6 with rfl | rfl | rfl | rfl | rfl | rfl | rfl
  · exact ⟨0, _, w, by decide, vW_up hv (Nat.le_succ n), fun A C S hC => rx_Hm (HL_told hG (cf_told0 hG (rcw_b hC) hnb hb (hC.2.2.2.1.2.1 b hb).1 (hC.2.2.2.1.2.1 b hb).2 hB.1.2.1 hB.1.2.2.1)) (hR_o hC), fun C S hS => rx_Cm (mf_told0 hG (rmw_b hS) hnb hb (hS.2.2.2.1.2 b hb).1) (mRI_t hS (fun _ => rfl))⟩
  · exact ⟨0, _, w, by decide, vW_up hv (Nat.le_succ n), fun A C S hC => rx_Hm (HL_told hG (cf_told1 hG (rcw_b hC) hnb hb (hC.2.2.2.1.2.1 b hb).1 (hC.2.2.2.1.2.1 b hb).2 hB.1.2.1 hB.1.2.2.1)) (hR_o hC), fun C S hS => rx_Cm (mf_told1 hG (rmw_b hS) hnb hb (hS.2.2.2.1.2 b hb).1) (mRI_t hS (fun _ => rfl))⟩
  · exact ⟨0, _, w, by decide, vW_up hv (Nat.le_succ n), fun A C S hC => rx_Hm (HL_told hG (cf_told2 hG (rcw_b hC) hnb hb (hC.2.2.2.1.2.1 b hb).1 (hC.2.2.2.1.2.1 b hb).2 hB.1.2.1 hB.1.2.2.1)) (hR_o hC), fun C S hS => rx_Cm (mf_told2 hG (rmw_b hS) hnb hb (hS.2.2.2.1.2 b hb).1) (mRI_t hS (fun _ => rfl))⟩
  · exact ⟨0, _, w, by decide, vW_up hv (Nat.le_succ n), fun A C S hC => rx_Hm (HL_told hG (cf_told3 hG (rcw_b hC) hnb hb (hC.2.2.2.1.2.1 b hb).1 (hC.2.2.2.1.2.1 b hb).2 hB.1.2.1 hB.1.2.2.1)) (hR_o hC), fun C S hS => rx_Cm (mf_told3 hG (rmw_b hS) hnb hb (hS.2.2.2.1.2 b hb).1) (mRI_t hS (fun _ => rfl))⟩
  · exact ⟨0, _, w, by decide, vW_up hv (Nat.le_succ n), fun A C S hC => rx_Hm (HL_told hG (cf_told4 hG (rcw_b hC) hnb hb (hC.2.2.2.1.2.1 b hb).1 (hC.2.2.2.1.2.1 b hb).2 hB.1.2.1 hB.1.2.2.1)) (hR_o hC), fun C S hS => rx_Cm (mf_told4 hG (rmw_b hS) hnb hb (hS.2.2.2.1.2 b hb).1) (mRI_t hS (fun _ => rfl))⟩
  · exact ⟨0, _, w, by decide, vW_up hv (Nat.le_succ n), fun A C S hC => rx_Hm (HL_told hG (cf_told5 hG (rcw_b hC) hnb hb (hC.2.2.2.1.2.1 b hb).1 (hC.2.2.2.1.2.1 b hb).2 hB.1.2.1 hB.1.2.2.1)) (hR_o hC), fun C S hS => rx_Cm (mf_told5 hG (rmw_b hS) hnb hb (hS.2.2.2.1.2 b hb).1) (mRI_t hS (fun _ => rfl))⟩
  · exact ⟨0, _, w, by decide, vW_up hv (Nat.le_succ n), fun A C S hC => rx_Hm (HL_told hG (cf_told6 (ce := w_cert w.2.2.2.1.1 w.2.2.1.2 b) hG (rcw_b hC) hnb hb (hC.2.2.2.1.2.1 b hb).1 (hC.2.2.2.1.2.1 b hb).2 ⟨(hC.2.2.2.2.1 0 (by decide)).1, (hC.2.2.2.2.1 1 (by decide)).1, (hC.2.2.2.2.1 2 (by decide)).1, (hC.2.2.2.2.1 3 (by decide)).1, (hC.2.2.2.2.1 4 (by decide)).1, (hC.2.2.2.2.1 5 (by decide)).1, (hC.2.2.2.2.1 6 (by decide)).1⟩ ⟨hv.2.2.2.2 0 (by decide), hv.2.2.2.2 1 (by decide), hv.2.2.2.2 2 (by decide), hv.2.2.2.2 3 (by decide), hv.2.2.2.2 4 (by decide), hv.2.2.2.2 5 (by decide), hv.2.2.2.2 6 (by decide)⟩ (by have := hB.1.2.2.2.2; omega) rfl)) (hR_o hC), fun C S hS => rx_Cm (mf_told6 hG (rmw_b hS) hnb hb (hS.2.2.2.1.2 b hb).2) (mRI_t hS (fun _ => rfl))⟩

theorem F_receipt {G : rx_E} {d n : Nat} {w : wW} (hG : rx_OK G) (hN : rx_NC G) (hv : vW w n) (hn : n ≤ 512) (x y u : Int32) : fP n w (fun C S Q => rx_H G ML_receipt hL_receipt (d + 9) [.ref 0, .int x, .int y, .int u, .ref 101] (gl C S) 8 2000 Q) (fun C S Q => rx_C G MX11_receipt (d + 9) [.ref 52, .int x, .int y, .int u] (gl C S) 0 0 Q) mRL := by
  have hnb := hv.2.2.2.1.1.2
  rcases wi_ix x (show w.2.2.1.1 < 2 ^ 31 by omega) with hx | ⟨b, hb, rfl⟩
  · exact ⟨1, 0, w, by decide, vW_up hv (Nat.le_succ n), fun A C S hC => rx_Hm (HL_receipt_x hG hN (cf_receipt_b hG (rcw_b hC) hnb hx)) (hR_x hC (by decide)), fun C S hS => rx_Cm (mf_receipt_b hG (rmw_b hS) hnb hx) (mRL_t hS (fun h => absurd h (by decide)))⟩
  have hB := hv.2.2.2.1.2.1 b hb
  have hm := hB.1.2.1
  rcases wi_ix y (show (w.2.2.1.2 b).1.2.2.1 < 2 ^ 31 by omega) with hy | ⟨i, hi, rfl⟩
  · exact ⟨1, 0, w, by decide, vW_up hv (Nat.le_succ n), fun A C S hC => rx_Hm (HL_receipt_x hG hN (cf_receipt_i hG (rcw_b hC) hnb hb (hC.2.2.2.1.2.1 b hb).1 (hC.2.2.2.1.2.1 b hb).2 hm hy)) (hR_x hC (by decide)), fun C S hS => rx_Cm (mf_receipt_i hG (rmw_b hS) hnb hb (hS.2.2.2.1.2 b hb).1 hy) (mRL_t hS (fun h => absurd h (by decide)))⟩
  rcases wi_ix u (N := 3) (by decide) with hu | ⟨j, hj, rfl⟩
  · exact ⟨1, 0, w, by decide, vW_up hv (Nat.le_succ n), fun A C S hC => rx_Hm (HL_receipt_x hG hN (cf_receipt_w hG (rcw_b hC) hnb hb (hC.2.2.2.1.2.1 b hb).1 (hC.2.2.2.1.2.1 b hb).2 hm hi hu)) (hR_x hC (by decide)), fun C S hS => rx_Cm (mf_receipt_w hG (rmw_b hS) hnb hb (hS.2.2.2.1.2 b hb).1 (by omega) hi hu) (mRL_t hS (fun h => absurd h (by decide)))⟩
  have hc6 : j = 0 ∨ j = 1 ∨ j = 2 := by omega
  rcases hc6 with rfl | rfl | rfl
  · exact ⟨0, _, w, by decide, vW_up hv (Nat.le_succ n), fun A C S hC => rx_Hm (HL_receipt hG (cf_receipt (y := 0) hG (rcw_b hC) hnb hb (hC.2.2.2.1.2.1 b hb).1 (hC.2.2.2.1.2.1 b hb).2 hm hi (by decide) ((hC.2.2.2.1.2.1 b hb).2.2.2.2.1.2 i hi).1)) (hR_o hC), fun C S hS => rx_Cm (mf_receipt0 hG (rmw_b hS) hnb hb (hS.2.2.2.1.2 b hb).1 hm hi (by have := hB.2.2.2.1 i hi; omega) ((hS.2.2.2.1.2 b hb).1.2.2.1 i hi).1) (mRL_t hS (fun _ => rfl))⟩
  · exact ⟨0, _, w, by decide, vW_up hv (Nat.le_succ n), fun A C S hC => rx_Hm (HL_receipt hG (cf_receipt (y := 1) hG (rcw_b hC) hnb hb (hC.2.2.2.1.2.1 b hb).1 (hC.2.2.2.1.2.1 b hb).2 hm hi (by decide) ((hC.2.2.2.1.2.1 b hb).2.2.2.2.1.2 i hi).2.1)) (hR_o hC), fun C S hS => rx_Cm (mf_receipt1 hG (rmw_b hS) hnb hb (hS.2.2.2.1.2 b hb).1 hm hi ((hS.2.2.2.1.2 b hb).1.2.2.1 i hi).2.1) (mRL_t hS (fun _ => rfl))⟩
  · exact ⟨0, _, w, by decide, vW_up hv (Nat.le_succ n), fun A C S hC => rx_Hm (HL_receipt hG (cf_receipt (y := 2) hG (rcw_b hC) hnb hb (hC.2.2.2.1.2.1 b hb).1 (hC.2.2.2.1.2.1 b hb).2 hm hi (by decide) ((hC.2.2.2.1.2.1 b hb).2.2.2.2.1.2 i hi).2.2)) (hR_o hC), fun C S hS => rx_Cm (mf_receipt2 hG (rmw_b hS) hnb hb (hS.2.2.2.1.2 b hb).1 hm hi ((hS.2.2.2.1.2 b hb).1.2.2.1 i hi).2.2) (mRL_t hS (fun _ => rfl))⟩

theorem F_event {G : rx_E} {d n : Nat} {w : wW} (hG : rx_OK G) (hN : rx_NC G) (hv : vW w n) (hn : n ≤ 512) (x y u : Int32) : fP n w (fun C S Q => rx_H G ML_event hL_event (d + 9) [.ref 0, .int x, .int y, .int u, .ref 101] (gl C S) 8 2000 Q) (fun C S Q => rx_C G MX11_event (d + 9) [.ref 52, .int x, .int y, .int u] (gl C S) 0 0 Q) mRL := by
  have hnb := hv.2.2.2.1.1.2
  rcases wi_ix x (show w.2.2.1.1 < 2 ^ 31 by omega) with hx | ⟨b, hb, rfl⟩
  · exact ⟨1, 0, w, by decide, vW_up hv (Nat.le_succ n), fun A C S hC => rx_Hm (HL_event_x hG hN (cf_event_b hG (rcw_b hC) hnb hx)) (hR_x hC (by decide)), fun C S hS => rx_Cm (mf_event_b hG (rmw_b hS) hnb hx) (mRL_t hS (fun h => absurd h (by decide)))⟩
  have hB := hv.2.2.2.1.2.1 b hb
  have hm := hB.1.2.2.1
  rcases wi_ix y (show (w.2.2.1.2 b).1.2.2.2 < 2 ^ 31 by omega) with hy | ⟨i, hi, rfl⟩
  · exact ⟨1, 0, w, by decide, vW_up hv (Nat.le_succ n), fun A C S hC => rx_Hm (HL_event_x hG hN (cf_event_i hG (rcw_b hC) hnb hb (hC.2.2.2.1.2.1 b hb).1 (hC.2.2.2.1.2.1 b hb).2 hm hy)) (hR_x hC (by decide)), fun C S hS => rx_Cm (mf_event_i hG (rmw_b hS) hnb hb (hS.2.2.2.1.2 b hb).1 hy) (mRL_t hS (fun h => absurd h (by decide)))⟩
  rcases wi_ix u (N := 4) (by decide) with hu | ⟨j, hj, rfl⟩
  · exact ⟨1, 0, w, by decide, vW_up hv (Nat.le_succ n), fun A C S hC => rx_Hm (HL_event_x hG hN (cf_event_w hG (rcw_b hC) hnb hb (hC.2.2.2.1.2.1 b hb).1 (hC.2.2.2.1.2.1 b hb).2 hm hi hu)) (hR_x hC (by decide)), fun C S hS => rx_Cm (mf_event_w hG (rmw_b hS) hnb hb (hS.2.2.2.1.2 b hb).1 (by omega) hi hu) (mRL_t hS (fun h => absurd h (by decide)))⟩
  have hc6 : j = 0 ∨ j = 1 ∨ j = 2 ∨ j = 3 := by omega
  rcases hc6 with rfl | rfl | rfl | rfl
  · exact ⟨0, _, w, by decide, vW_up hv (Nat.le_succ n), fun A C S hC => rx_Hm (HL_event hG (cf_event (y := 0) hG (rcw_b hC) hnb hb (hC.2.2.2.1.2.1 b hb).1 (hC.2.2.2.1.2.1 b hb).2 hm hi (by decide) ((hC.2.2.2.1.2.1 b hb).2.2.2.2.2.2 i hi).1)) (hR_o hC), fun C S hS => rx_Cm (mf_event0 hG (rmw_b hS) hnb hb (hS.2.2.2.1.2 b hb).1 hm hi (by have := hB.2.2.2.2 i hi; omega) ((hS.2.2.2.1.2 b hb).1.2.2.2 i hi).1) (mRL_t hS (fun _ => rfl))⟩
  · exact ⟨0, _, w, by decide, vW_up hv (Nat.le_succ n), fun A C S hC => rx_Hm (HL_event hG (cf_event (y := 1) hG (rcw_b hC) hnb hb (hC.2.2.2.1.2.1 b hb).1 (hC.2.2.2.1.2.1 b hb).2 hm hi (by decide) ((hC.2.2.2.1.2.1 b hb).2.2.2.2.2.2 i hi).2.1)) (hR_o hC), fun C S hS => rx_Cm (mf_event1 hG (rmw_b hS) hnb hb (hS.2.2.2.1.2 b hb).1 hm hi ((hS.2.2.2.1.2 b hb).1.2.2.2 i hi).2.1) (mRL_t hS (fun _ => rfl))⟩
  · exact ⟨0, _, w, by decide, vW_up hv (Nat.le_succ n), fun A C S hC => rx_Hm (HL_event hG (cf_event (y := 2) hG (rcw_b hC) hnb hb (hC.2.2.2.1.2.1 b hb).1 (hC.2.2.2.1.2.1 b hb).2 hm hi (by decide) ((hC.2.2.2.1.2.1 b hb).2.2.2.2.2.2 i hi).2.2.1)) (hR_o hC), fun C S hS => rx_Cm (mf_event2 hG (rmw_b hS) hnb hb (hS.2.2.2.1.2 b hb).1 hm hi ((hS.2.2.2.1.2 b hb).1.2.2.2 i hi).2.2.1) (mRL_t hS (fun _ => rfl))⟩
  · exact ⟨0, _, w, by decide, vW_up hv (Nat.le_succ n), fun A C S hC => rx_Hm (HL_event hG (cf_event (y := 3) hG (rcw_b hC) hnb hb (hC.2.2.2.1.2.1 b hb).1 (hC.2.2.2.1.2.1 b hb).2 hm hi (by decide) ((hC.2.2.2.1.2.1 b hb).2.2.2.2.2.2 i hi).2.2.2)) (hR_o hC), fun C S hS => rx_Cm (mf_event3 hG (rmw_b hS) hnb hb (hS.2.2.2.1.2 b hb).1 hm hi (by have := hB.2.2.2.2 i hi; omega) ((hS.2.2.2.1.2 b hb).1.2.2.2 i hi).2.2.2) (mRL_t hS (fun _ => rfl))⟩

theorem F_leaf {G : rx_E} {d n : Nat} {w : wW} (hG : rx_OK G) (hN : rx_NC G) (hv : vW w n) (hn : n ≤ 512) (x y : Int32) : fP n w (fun C S Q => rx_H G ML_leaf hL_leaf (d + 9) [.ref 0, .int x, .int y, .ref 101] (gl C S) 8 2000 Q) (fun C S Q => rx_C G MX11_leaf (d + 9) [.ref 52, .int x, .int y] (gl C S) 0 0 Q) mRL := by
  have hnb := hv.2.2.2.1.1.2
  rcases wi_ix x (show w.2.2.1.1 < 2 ^ 31 by omega) with hx | ⟨b, hb, rfl⟩
  · exact ⟨1, 0, w, by decide, vW_up hv (Nat.le_succ n), fun A C S hC => rx_Hm (HL_leaf_x hG hN (cf_leaf_b hG (rcw_b hC) hnb hx)) (hR_x hC (by decide)), fun C S hS => rx_Cm (mf_leaf_b hG (rmw_b hS) hnb hx) (mRL_t hS (fun h => absurd h (by decide)))⟩
  rcases wi_ix y (N := 1024) (by decide) with hy | ⟨i, hi, rfl⟩
  · exact ⟨1, 0, w, by decide, vW_up hv (Nat.le_succ n), fun A C S hC => rx_Hm (HL_leaf_x hG hN (cf_leaf_w hG (rcw_b hC) hnb hb hy)) (hR_x hC (by decide)), fun C S hS => rx_Cm (mf_leaf_w hG (rmw_b hS) hnb hb hy) (mRL_t hS (fun h => absurd h (by decide)))⟩
  exact ⟨0, _, w, by decide, vW_up hv (Nat.le_succ n), fun A C S hC => rx_Hm (HL_leaf hG (cf_leaf hG (rcw_b hC) hnb hb (hC.2.2.2.1.2.1 b hb).1 (hC.2.2.2.1.2.1 b hb).2 hi)) (hR_o hC), fun C S hS => rx_Cm (mf_leaf hG (rmw_b hS) hnb hb (hS.2.2.2.1.2 b hb).1 hi) (mRL_t hS (fun _ => rfl))⟩
theorem F_seen {G : rx_E} {d n : Nat} {w : wW} (hG : rx_OK G) (hN : rx_NC G) (hv : vW w n) (hn : n ≤ 512) (x : Int32) : fP n w (fun C S Q => rx_H G ML_seen hL_seen (d + 9) [.ref 0, .int x, .ref 101] (gl C S) 8 2000 Q) (fun C S Q => rx_C G MX11_seen (d + 9) [.ref 52, .int x] (gl C S) 0 0 Q) mRI := by
  have hnb := hv.2.2.2.1.1.2
  rcases wi_ix x (N := 3) (by decide) with hx | ⟨j, hj, rfl⟩
  · exact ⟨1, 0, w, by decide, vW_up hv (Nat.le_succ n), fun A C S hC => rx_Hm (HL_seen_x hG hN (cf_seen_w hG hx)) (hR_x hC (by decide)), fun C S hS => rx_Cm (mf_seen_w hG hx) (mRI_t hS (fun h => absurd h (by decide)))⟩
  have hc6 : j = 0 ∨ j = 1 ∨ j = 2 := by omega
  rcases hc6 with rfl | rfl | rfl
  · exact ⟨0, _, w, by decide, vW_up hv (Nat.le_succ n), fun A C S hC => rx_Hm (HL_seen hG (cf_seen0 hG hC.2.2.2.2.2.2.1 hC.2.2.2.2.2.2.2.1 hC.2.2.2.2.2.2.2.2)) (hR_o hC), fun C S hS => rx_Cm (mf_seen0 hG hS.2.2.2.2.2.2.1 hS.2.2.2.2.2.2.2.1 hS.2.2.2.2.2.2.2.2) (mRI_t hS (fun _ => rfl))⟩
  · exact ⟨0, _, w, by decide, vW_up hv (Nat.le_succ n), fun A C S hC => rx_Hm (HL_seen hG (cf_seen1 hG hC.2.2.2.2.2.2.1 hC.2.2.2.2.2.2.2.1 hC.2.2.2.2.2.2.2.2)) (hR_o hC), fun C S hS => rx_Cm (mf_seen1 hG hS.2.2.2.2.2.2.1 hS.2.2.2.2.2.2.2.1 hS.2.2.2.2.2.2.2.2) (mRI_t hS (fun _ => rfl))⟩
  · exact ⟨0, _, w, by decide, vW_up hv (Nat.le_succ n), fun A C S hC => rx_Hm (HL_seen hG (cf_seen2 hG hC.2.2.2.2.2.2.1 hC.2.2.2.2.2.2.2.1 hC.2.2.2.2.2.2.2.2)) (hR_o hC), fun C S hS => rx_Cm (mf_seen2 hG hS.2.2.2.2.2.2.1 hS.2.2.2.2.2.2.2.1 hS.2.2.2.2.2.2.2.2) (mRI_t hS (fun _ => rfl))⟩


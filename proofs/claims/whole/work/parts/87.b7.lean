theorem cf_block_b {G : rx_E} {d : Nat} {C : rx_M} {S : gs_T} (hG : rx_OK G) {nb : Nat} (h05 : C.1 0 5 = nI nb) (hnb : nb ≤ 40) {x y : Int32} (hx : wi_out x nb) : rx_X G MX10_block (d + 8) [.ref 0, .int x, .int y] (gl C S) 8 2000 (fun _ _ => False) (zq C S "java/lang/IndexOutOfBoundsException") := by
  refine rx_meth (by decide +kernel) rfl (Nat.le_of_ble_eq_true rfl) ?_
  refine rx_aload_n dX10_block_0 rfl rfl ?_
  refine rx_iload_n dX10_block_1 rfl ?_
  refine gv_invV (as := [.int _]) hG okX10_isBlock lk_RX10_150 rfl rfl dX10_block_2 rfl (by simp [Value.category]) (cf_isBlockO hG h05 hnb hx) ?_
  rintro _ _ ⟨rfl, rfl⟩
  refine rx_if_eq (tgt := 16) dX10_block_5 (by decide) (fun h5 => ?_) (fun h5 => (absurd h5 (by decide))) 
  exact gx_throw hG rfl rfl th_x hw_861 dX10_block_16 dX10_block_19 dX10_block_20 dX10_block_22 dX10_block_25
theorem cf_block_m {G : rx_E} {d : Nat} {C : rx_M} {S : gs_T} (hG : rx_OK G) {nb : Nat} (h05 : C.1 0 5 = nI nb) (hnb : nb ≤ 40) {b : Nat} {y : Int32} (hb : b < nb) (hy : wi_out y 32) : rx_X G MX10_block (d + 8) [.ref 0, .int (nI b), .int y] (gl C S) 8 2000 (fun _ _ => False) (zq C S "java/lang/IndexOutOfBoundsException") := by
  refine rx_meth (by decide +kernel) rfl (Nat.le_of_ble_eq_true rfl) ?_
  refine rx_aload_n dX10_block_0 rfl rfl ?_
  refine rx_iload_n dX10_block_1 rfl ?_
  refine gv_invV (as := [.int _]) hG okX10_isBlock lk_RX10_150 rfl rfl dX10_block_2 rfl (by simp [Value.category]) (cf_isBlock hG h05 hnb hb) ?_
  rintro _ _ ⟨rfl, rfl⟩
  refine rx_if_eq (tgt := 16) dX10_block_5 (by decide) (fun h5 => (absurd h5 (by decide))) (fun h5 => ?_)
  refine rx_iload_n dX10_block_8 rfl ?_
  refine rx_i2l dX10_block_9 ?_
  refine rx_invS0 (as := [.long _]) hG okX10_isAccount lk_RX10_106 dX10_block_10 rfl (by simp [Value.category]) (cw_acctO hG hy) ?_
  rintro _ _ ⟨rfl, rfl⟩
  refine rx_if_ne (tgt := 26) dX10_block_13 (by decide) (fun h13 => (absurd h13 (by decide))) (fun h13 => ?_)
  exact gx_throw hG rfl rfl th_x hw_861 dX10_block_16 dX10_block_19 dX10_block_20 dX10_block_22 dX10_block_25
theorem cf_block_s {G : rx_E} {d : Nat} {C : rx_M} {S : gs_T} (hG : rx_OK G) {nb : Nat} (h05 : C.1 0 5 = nI nb) (hnb : nb ≤ 40) {b mk : Nat} (hb : b < nb) (hmk : mk < 32) (h40 : nb = 40) : rx_X G MX10_block (d + 8) [.ref 0, .int (nI b), .int (nI mk)] (gl C S) 8 2000 (fun _ _ => False) (zq C S "java/lang/IllegalStateException") := by
  refine rx_meth (by decide +kernel) rfl (Nat.le_of_ble_eq_true rfl) ?_
  subst h40
  refine rx_aload_n dX10_block_0 rfl rfl ?_
  refine rx_iload_n dX10_block_1 rfl ?_
  refine gv_invV (as := [.int _]) hG okX10_isBlock lk_RX10_150 rfl rfl dX10_block_2 rfl (by simp [Value.category]) (cf_isBlock (nb := 40) hG h05 hnb hb) ?_
  rintro _ _ ⟨rfl, rfl⟩
  refine rx_if_eq (tgt := 16) dX10_block_5 (by decide) (fun h5 => (absurd h5 (by decide))) (fun h5 => ?_)
  refine rx_iload_n dX10_block_8 rfl ?_
  refine rx_i2l dX10_block_9 ?_
  refine rx_tl (y := lN mk) (nI_l (by omega)) ?_
  refine rx_invS0 (as := [.long _]) hG okX10_isAccount lk_RX10_106 dX10_block_10 rfl (by simp [Value.category]) (cw_acct hG hmk) ?_
  rintro _ _ ⟨rfl, rfl⟩
  refine rx_if_ne (tgt := 26) dX10_block_13 (by decide) (fun h13 => ?_) (fun h13 => (absurd h13 (by decide))) 
  refine rx_aload_n dX10_block_26 rfl rfl ?_
  refine gcv_getI (v := nI 40) hG hf_RX10_38 rfl dX10_block_27 rfl rfl rfl h05 ?_
  refine rx_bipush (v := nI 40) dX10_block_30 rfl ?_
  refine rx_icmp_lt (tgt := 45) dX10_block_32 (by decide) (fun h32 => (absurd h32 (by decide))) (fun h32 => ?_)
  exact gx_throw hG rfl rfl th_s hw_862 dX10_block_35 dX10_block_38 dX10_block_39 dX10_block_41 dX10_block_44
theorem u4_0 {f : Nat → Nat → Int32} {N k : Nat} {x1 x2 x3 x4 : Int32} (hN : 0 ≠ N) (hk : k ≠ 5) : rx_u (rx_u (rx_u (rx_u f N 0 x1) N 1 x2) N 5 x3) 0 5 x4 0 k = f 0 k := by rw [rx_ru, if_pos rfl, if_neg hk, rx_une _ hN, rx_une _ hN, rx_une _ hN]
theorem u4_9 {f : Nat → Nat → Int32} {N : Nat} {x1 x2 x3 x4 : Int32} (hN : 9 ≠ N) : rx_u (rx_u (rx_u (rx_u f N 0 x1) N 1 x2) N 5 x3) 0 5 x4 9 = f 9 := by rw [rx_une _ (by decide), rx_une _ hN, rx_une _ hN, rx_une _ hN]
theorem u4_44 {f : Nat → Nat → Option Nat} {N k j : Nat} {x1 x2 x3 x4 : Option Nat} (hN : 44 ≠ N) : rx_u (rx_u (rx_u (rx_u f N 2 x1) N 3 x2) N 4 x3) 44 j x4 44 k = if k = j then x4 else f 44 k := by rw [rx_ru, if_pos rfl, rx_une _ hN, rx_une _ hN, rx_une _ hN]
theorem blk_fin {C C2 C3 : rx_M} {A : wP} {w : wW} {b mk : Nat} {a : wA} {q0 : wB} {od : Nat} {K : Nat → Nat × Nat} (hC : rcw A C w) (hnb : w.2.2.1.1 ≤ 40) (hL : cL K (ca (cld C a.2.1 (q0.1.2.1 + 1)) 14 (3 * w.2.1.1)) C2 w.1.2.1 w.1.2.2 (q0.1.2.1 + 1) (102 + C.2.2.2.2) w.2.1.1 w.2.1.1 (o_all w.1.2.1 w.1.2.2 (q0.1.2.1 + 1) mk w.2.1.2 (q0.2.1, 0, (fun _ => (0, 0, 0, 0)), (fun _ => (0, 0, 0)), nI 0) w.2.1.1)) (hg0 : rc_agE (fun a => a = 9) (fun _ => False) C (ca (cld C a.2.1 (q0.1.2.1 + 1)) 14 (3 * w.2.1.1))) (hP : rc_P K C2 (w.1.2.1, w.1.2.2, 0, (q0.1.2.1 + 1)) (o_all w.1.2.1 w.1.2.2 (q0.1.2.1 + 1) mk w.2.1.2 (q0.2.1, 0, (fun _ => (0, 0, 0, 0)), (fun _ => (0, 0, 0)), nI 0) w.2.1.1).2.1 od (o_all w.1.2.1 w.1.2.2 (q0.1.2.1 + 1) mk w.2.1.2 (q0.2.1, 0, (fun _ => (0, 0, 0, 0)), (fun _ => (0, 0, 0)), nI 0) w.2.1.1).1) (hod : od < 10) (hc3 : cpy10 (ccl (ca (rx_u C2.1 0 3 (nI 0), C2.2) 0 7) 8 1024) C3 (4 * min 60 (o_all w.1.2.1 w.1.2.2 (q0.1.2.1 + 1) mk w.2.1.2 (q0.2.1, 0, (fun _ => (0, 0, 0, 0)), (fun _ => (0, 0, 0)), nI 0) w.2.1.1).2.1)) (hec : (o_all w.1.2.1 w.1.2.2 (q0.1.2.1 + 1) mk w.2.1.2 (q0.2.1, 0, (fun _ => (0, 0, 0, 0)), (fun _ => (0, 0, 0)), nI 0) w.2.1.1).2.1 < 2 ^ 30) (h1b : 1 ≤ w.2.2.1.1) : rcw (A.1, A.2.1, fun k => if k = w.2.2.1.1 then ((102 + C2.2.2.2.2), (102 + C2.2.2.2.2 + 1), (102 + C.2.2.2.2), (102 + C2.2.2.2.2 + 2)) else A.2.2 k) (rx_u (rx_u (rx_u (rx_u C3.1 (102 + C2.2.2.2.2) 0 (nI b)) (102 + C2.2.2.2.2) 1 (nI (q0.1.2.1 + 1))) (102 + C2.2.2.2.2) 5 (o_all w.1.2.1 w.1.2.2 (q0.1.2.1 + 1) mk w.2.1.2 (q0.2.1, 0, (fun _ => (0, 0, 0, 0)), (fun _ => (0, 0, 0)), nI 0) w.2.1.1).2.2.2.2) 0 5 (nI (w.2.2.1.1 + 1)), C3.2.1, rx_u (rx_u (rx_u (rx_u C3.2.2.1 (102 + C2.2.2.2.2) 2 (some (102 + C2.2.2.2.2 + 1))) (102 + C2.2.2.2.2) 3 (some (102 + C.2.2.2.2))) (102 + C2.2.2.2.2) 4 (some (102 + C2.2.2.2.2 + 2))) 44 w.2.2.1.1 (some (102 + C2.2.2.2.2)), C3.2.2.2) (w_block w ((nI b, (q0.1.2.1 + 1), w.2.1.1, min 60 (o_all w.1.2.1 w.1.2.2 (q0.1.2.1 + 1) mk w.2.1.2 (q0.2.1, 0, (fun _ => (0, 0, 0, 0)), (fun _ => (0, 0, 0)), nI 0) w.2.1.1).2.1), (o_all w.1.2.1 w.1.2.2 (q0.1.2.1 + 1) mk w.2.1.2 (q0.2.1, 0, (fun _ => (0, 0, 0, 0)), (fun _ => (0, 0, 0)), nI 0) w.2.1.1).1, (o_all w.1.2.1 w.1.2.2 (q0.1.2.1 + 1) mk w.2.1.2 (q0.2.1, 0, (fun _ => (0, 0, 0, 0)), (fun _ => (0, 0, 0)), nI 0) w.2.1.1).2.2.2.1, (o_all w.1.2.1 w.1.2.2 (q0.1.2.1 + 1) mk w.2.1.2 (q0.2.1, 0, (fun _ => (0, 0, 0, 0)), (fun _ => (0, 0, 0)), nI 0) w.2.1.1).2.2.1, ((o_all w.1.2.1 w.1.2.2 (q0.1.2.1 + 1) mk w.2.1.2 (q0.2.1, 0, (fun _ => (0, 0, 0, 0)), (fun _ => (0, 0, 0)), nI 0) w.2.1.1).2.2.2.2, 0))) := by
  have n0 : (ca (cld C a.2.1 (q0.1.2.1 + 1)) 14 (3 * w.2.1.1)).2.2.2.2 = C.2.2.2.2 + 1 := rfl
  have hn2 : C.2.2.2.2 + 1 ≤ C2.2.2.2.2 := hL.1.2.2.2
  obtain ⟨g3, k3, v3, n3⟩ := hc3
  have n3 : C3.2.2.2.2 = C2.2.2.2.2 + 1 + 1 + 1 := n3
  have hN0 : (ca (rx_u C2.1 0 3 (nI 0), C2.2) 0 7).2.2.2.2 = C2.2.2.2.2 + 1 := rfl
  have gb := ca_ag (C := (rx_u C2.1 0 3 (nI 0), C2.2)) (t := 0) (n := 7)
  have gc := ccl_ag (C := (ca (rx_u C2.1 0 3 (nI 0), C2.2) 0 7)) (a := 8) (n := 1024)
  have rkr := rk_agE (ca_rk (C := cld C a.2.1 (q0.1.2.1 + 1)) (t := 14) (n := 3 * w.2.1.1)) hL.1
  have rkr2 : rk C3 (102 + C.2.2.2.2) 14 (3 * w.2.1.1) := rk_ag (rk_ag (rk_ag (C := (rx_u C2.1 0 3 (nI 0), C2.2)) rkr gb) gc) g3
  have rkN0 : rk C3 (102 + C2.2.2.2.2) 0 7 := rk_ag (rk_ag (ca_rk (C := (rx_u C2.1 0 3 (nI 0), C2.2)) (t := 0) (n := 7)) gc) g3
  have rkN1 : rk C3 (102 + C2.2.2.2.2 + 1) 14 1024 := rk_ag (ccl_rk (C := (ca (rx_u C2.1 0 3 (nI 0), C2.2) 0 7)) (a := 8) (n := 1024)) g3
  have rkN2 : rk C3 (102 + C2.2.2.2.2 + 2) 14 (4 * min 60 (o_all w.1.2.1 w.1.2.2 (q0.1.2.1 + 1) mk w.2.1.2 (q0.2.1, 0, (fun _ => (0, 0, 0, 0)), (fun _ => (0, 0, 0)), nI 0) w.2.1.1).2.1) := k3
  -- longs of old cells
  have l3 : ∀ x, x < (102 + C2.2.2.2.2) → (x < 4 ∨ x = 5 ∨ x = 9 ∨ (42 < x ∧ x ≠ 101)) → C3.1 x = (rx_u C2.1 0 3 (nI 0), C2.2).1 x ∧ C3.2.1 x = C2.2.1 x := fun x hx hm => by
    have e1 := g3.1 x hm (by show x < 102 + (C2.2.2.2.2 + 1 + 1); omega)
    have e2 := gc.1 x hm (by show x < 102 + (C2.2.2.2.2 + 1); omega)
    have e3 := gb.1 x hm hx
    exact ⟨e1.1.trans (e2.1.trans e3.1), e1.2.trans (e2.2.trans e3.2)⟩
  have r3 : ∀ x, x < (102 + C2.2.2.2.2) → (x = 6 ∨ 42 < x) → C3.2.2.1 x = C2.2.2.1 x := fun x hx hm => (g3.2.1 x hm (by show x < 102 + (C2.2.2.2.2 + 1 + 1); omega)).trans ((gc.2.1 x hm (by show x < 102 + (C2.2.2.2.2 + 1); omega)).trans (gb.2.1 x hm hx))
  have k3' : ∀ x, 102 ≤ x → x < (102 + C2.2.2.2.2) → C3.2.2.2.1 x = C2.2.2.2.1 x := fun x hm hx => (g3.2.2.1 x hm (by show x < 102 + (C2.2.2.2.2 + 1 + 1); omega)).trans ((gc.2.2.1 x hm (by show x < 102 + (C2.2.2.2.2 + 1); omega)).trans (gb.2.2.1 x hm hx))
  have e9 : C3.1 9 = C2.1 9 := (l3 9 (by omega) (by omega)).1.trans (show rx_u C2.1 0 3 (nI 0) 9 = C2.1 9 from rx_une _ (by decide))
  have e03 : (rx_u C2.1 0 3 (nI 0), C2.2).1 0 3 = nI 0 := by
    show rx_u C2.1 0 3 (nI 0) 0 3 = _
    rw [rx_ru, if_pos rfl, if_pos rfl]
  have e0k : ∀ k, k ≠ 3 → (rx_u C2.1 0 3 (nI 0), C2.2).1 0 k = C.1 0 k := fun k hk => by
    show rx_u C2.1 0 3 (nI 0) 0 k = _
    rw [rx_ru, if_pos rfl, if_neg hk, (hL.1.1 0 (by show ¬ (0 = 9 ∨ 0 = (102 + C.2.2.2.2)); omega) (by omega) (by omega)).1, (hg0.1 0 (by decide) (by omega) (by omega)).1]
  refine rcw_block (a := ((102 + C2.2.2.2.2), (102 + C2.2.2.2.2 + 1), (102 + C.2.2.2.2), (102 + C2.2.2.2.2 + 2))) hC ⟨fun x hE hx hn => ?_, fun x hF hx hn => ?_, fun x hx hn => ?_, ?_⟩ ?_ ?_ ⟨?_, ?_, ?_⟩ ⟨od, hod, ?_⟩ (fun kx => ?_) ?_ (by show (102 + C.2.2.2.2) ≤ (102 + C2.2.2.2.2); omega) h1b
  · have hE : ¬ (x = 9 ∨ x = 0) := hE
    have hne : x ≠ (102 + C2.2.2.2.2) := by omega
    have a1 := l3 x (by omega) hx
    have a2 := hL.1.1 x (by show ¬ (x = 9 ∨ x = (102 + C.2.2.2.2)); omega) hx (by omega)
    have a3 := hg0.1 x (by show ¬ x = 9; omega) hx hn
    refine ⟨?_, a1.2.trans (a2.2.trans a3.2)⟩
    refine (rx_une _ (by omega)).trans ((rx_une _ hne).trans ((rx_une _ hne).trans ((rx_une _ hne).trans (a1.1.trans ?_))))
    exact (rx_une _ (by omega)).trans (a2.1.trans a3.1)
  · have hF : ¬ x = 44 := hF
    have hne : x ≠ (102 + C2.2.2.2.2) := by omega
    refine (rx_une _ hF).trans ((rx_une _ hne).trans ((rx_une _ hne).trans ((rx_une _ hne).trans ((r3 x (by omega) hx).trans ((hL.1.2.1 x (noF x) hx (by omega)).trans (hg0.2.1 x (noF x) hx hn))))))
  · exact (k3' x hx (by omega)).trans ((hL.1.2.2.1 x hx (by omega)).trans (hg0.2.2.1 x hx hn))
  · show C.2.2.2.2 ≤ C3.2.2.2.2
    omega
  · refine (u4_0 (f := C3.1) (N := (102 + C2.2.2.2.2)) (x1 := nI b) (x2 := nI (q0.1.2.1 + 1)) (x3 := (o_all w.1.2.1 w.1.2.2 (q0.1.2.1 + 1) mk w.2.1.2 (q0.2.1, 0, (fun _ => (0, 0, 0, 0)), (fun _ => (0, 0, 0)), nI 0) w.2.1.1).2.2.2.2) (x4 := nI (w.2.2.1.1 + 1)) (k := 3) (by omega) (by decide)).trans ?_
    rw [(l3 0 (by omega) (by omega)).1]
    exact e03
  · simp [rx_ru]
  · refine (u4_0 (f := C3.1) (N := (102 + C2.2.2.2.2)) (x1 := nI b) (x2 := nI (q0.1.2.1 + 1)) (x3 := (o_all w.1.2.1 w.1.2.2 (q0.1.2.1 + 1) mk w.2.1.2 (q0.2.1, 0, (fun _ => (0, 0, 0, 0)), (fun _ => (0, 0, 0)), nI 0) w.2.1.1).2.2.2.2) (x4 := nI (w.2.2.1.1 + 1)) (k := 9) (by omega) (by decide)).trans ?_
    rw [(l3 0 (by omega) (by omega)).1]
    exact e0k 9 (by decide)
  · refine (u4_0 (f := C3.1) (N := (102 + C2.2.2.2.2)) (x1 := nI b) (x2 := nI (q0.1.2.1 + 1)) (x3 := (o_all w.1.2.1 w.1.2.2 (q0.1.2.1 + 1) mk w.2.1.2 (q0.2.1, 0, (fun _ => (0, 0, 0, 0)), (fun _ => (0, 0, 0)), nI 0) w.2.1.1).2.2.2.2) (x4 := nI (w.2.2.1.1 + 1)) (k := 10) (by omega) (by decide)).trans ?_
    rw [(l3 0 (by omega) (by omega)).1]
    exact e0k 10 (by decide)
  · refine (u4_0 (f := C3.1) (N := (102 + C2.2.2.2.2)) (x1 := nI b) (x2 := nI (q0.1.2.1 + 1)) (x3 := (o_all w.1.2.1 w.1.2.2 (q0.1.2.1 + 1) mk w.2.1.2 (q0.2.1, 0, (fun _ => (0, 0, 0, 0)), (fun _ => (0, 0, 0)), nI 0) w.2.1.1).2.2.2.2) (x4 := nI (w.2.2.1.1 + 1)) (k := 11) (by omega) (by decide)).trans ?_
    rw [(l3 0 (by omega) (by omega)).1]
    exact e0k 11 (by decide)
  · refine (congrFun (u4_9 (f := C3.1) (N := (102 + C2.2.2.2.2)) (x1 := nI b) (x2 := nI (q0.1.2.1 + 1)) (x3 := (o_all w.1.2.1 w.1.2.2 (q0.1.2.1 + 1) mk w.2.1.2 (q0.2.1, 0, (fun _ => (0, 0, 0, 0)), (fun _ => (0, 0, 0)), nI 0) w.2.1.1).2.2.2.2) (x4 := nI (w.2.2.1.1 + 1)) (by omega)) 2).trans ?_
    rw [e9]
    exact hP.2.2.2
  · refine (u4_44 (f := C3.2.2.1) (N := (102 + C2.2.2.2.2)) (x1 := some (102 + C2.2.2.2.2 + 1)) (x2 := some (102 + C.2.2.2.2)) (x3 := some (102 + C2.2.2.2.2 + 2)) (x4 := some (102 + C2.2.2.2.2)) (j := w.2.2.1.1) (k := kx) (by omega)).trans ?_
    split
    · rfl
    · rw [r3 44 (by omega) (by omega), hL.1.2.1 44 (noF 44) (by omega) (by omega), hg0.2.1 44 (noF 44) (by omega) (by omega)]
  · have hne0 : (102 + C2.2.2.2.2) ≠ 0 := by omega
    have hne44 : (102 + C2.2.2.2.2) ≠ 44 := by omega
    have z6 : C3.1 (102 + C2.2.2.2.2) 6 = 0 := by
      rw [(g3.1 (102 + C2.2.2.2.2) (by omega) (by show (102 + C2.2.2.2.2) < 102 + (C2.2.2.2.2 + 1 + 1); omega)).1, (gc.1 (102 + C2.2.2.2.2) (by omega) (by show (102 + C2.2.2.2.2) < 102 + (C2.2.2.2.2 + 1); omega)).1]
      show rx_k1 (rx_u C2.1 0 3 (nI 0)) (102 + C2.2.2.2.2) (fun _ => 0) (102 + C2.2.2.2.2) 6 = 0
      rw [k1_eq]
    refine ⟨⟨rkN0, by show 44 < (102 + C2.2.2.2.2); omega, Or.inr (by show 101 < (102 + C2.2.2.2.2); omega)⟩, ⟨?_, ?_, ?_, ?_, ?_, ?_, ?_⟩, ⟨⟨rkN1, by show 44 < (102 + C2.2.2.2.2 + 1); omega, Or.inr (by show 101 < (102 + C2.2.2.2.2 + 1); omega)⟩, fun k hk => ?_⟩, ⟨⟨rkr2, by show 44 < (102 + C.2.2.2.2); omega, Or.inr (by show 101 < (102 + C.2.2.2.2); omega)⟩, fun i hi => ?_⟩, ⟨⟨rkN2, by show 44 < (102 + C2.2.2.2.2 + 2); omega, Or.inr (by show 101 < (102 + C2.2.2.2.2 + 2); omega)⟩, fun i hi => ?_⟩⟩
    · refine (congrFun (rx_une _ hne0) 0).trans ?_
      simp [rx_ru]
    · refine (congrFun (rx_une _ hne0) 1).trans ?_
      simp [rx_ru]
    · refine (congrFun (rx_une _ hne44) 2).trans ?_
      simp [rx_ru]
    · refine (congrFun (rx_une _ hne44) 3).trans ?_
      simp [rx_ru]
    · refine (congrFun (rx_une _ hne44) 4).trans ?_
      simp [rx_ru]
    · refine (congrFun (rx_une _ hne0) 5).trans ?_
      simp [rx_ru]
    · refine (congrFun (rx_une _ hne0) 6).trans ?_
      have z6' : C3.1 (102 + C2.2.2.2.2) 6 = nI 0 := z6.trans nI_0.symm
      simpa [rx_ru] using z6'
    · show C3.2.1 (102 + C2.2.2.2.2 + 1) k = _
      rw [(g3.1 (102 + C2.2.2.2.2 + 1) (by omega) (by show (102 + C2.2.2.2.2 + 1) < 102 + (C2.2.2.2.2 + 1 + 1); omega)).2]
      show rx_k1 (ca (rx_u C2.1 0 3 (nI 0), C2.2) 0 7).2.1 (102 + C2.2.2.2.2 + 1) ((ca (rx_u C2.1 0 3 (nI 0), C2.2) 0 7).2.1 8) (102 + C2.2.2.2.2 + 1) k = _
      rw [k1_eq]
      show rx_k1 C2.2.1 (102 + C2.2.2.2.2) _ 8 k = _
      rw [k1_ne _ (by omega)]
      exact hP.2.1 k hk
    · show C3.2.1 (102 + C.2.2.2.2) _ = _ ∧ C3.2.1 (102 + C.2.2.2.2) _ = _ ∧ C3.2.1 (102 + C.2.2.2.2) _ = _
      rw [(l3 (102 + C.2.2.2.2) (by omega) (by omega)).2]
      exact hL.2.2.2.1 i hi
    · have hi' : i < min 60 (o_all w.1.2.1 w.1.2.2 (q0.1.2.1 + 1) mk w.2.1.2 (q0.2.1, 0, (fun _ => (0, 0, 0, 0)), (fun _ => (0, 0, 0)), nI 0) w.2.1.1).2.1 := hi
      have h10 : ∀ j, j < 4 * min 60 (o_all w.1.2.1 w.1.2.2 (q0.1.2.1 + 1) mk w.2.1.2 (q0.2.1, 0, (fun _ => (0, 0, 0, 0)), (fun _ => (0, 0, 0)), nI 0) w.2.1.1).2.1 → C3.2.1 (102 + C2.2.2.2.2 + 2) j = C2.2.1 10 j := fun j hj => (v3 j hj).trans (by
        show rx_k1 (rx_k1 C2.2.1 _ _) _ _ 10 j = _
        rw [k1_ne _ (by show 10 ≠ 102 + (C2.2.2.2.2 + 1); omega), k1_ne _ (by show 10 ≠ 102 + C2.2.2.2.2; omega)])
      show C3.2.1 (102 + C2.2.2.2.2 + 2) _ = _ ∧ C3.2.1 (102 + C2.2.2.2.2 + 2) _ = _ ∧ C3.2.1 (102 + C2.2.2.2.2 + 2) _ = _ ∧ C3.2.1 (102 + C2.2.2.2.2 + 2) _ = _
      rw [h10 _ (by omega), h10 _ (by omega), h10 _ (by omega), h10 _ (by omega)]
      exact hL.2.2.1 i (by omega) (by omega)
set_option maxHeartbeats 4000000 in
theorem cf_block {G : rx_E} {d : Nat} {C : rx_M} {S : gs_T} (hG : rx_OK G) {A : wP} {w : wW} {b mk : Nat} {a : wA} {q0 : wB} (hC : rcw A C w) (hnb : w.2.2.1.1 ≤ 40) (h40 : w.2.2.1.1 < 40) (h1b : 1 ≤ w.2.2.1.1) (hon : w.2.1.1 ≤ 10) (hb : b < w.2.2.1.1) (hmk : mk < 32) (hr : C.2.2.1 44 b = some a.1) (hB : cB1 C a q0) (hh : q0.1.2.1 < 40) (hvg : ∀ o, o < 32 → vw_G (w.1.2.1, w.1.2.2, o, (q0.1.2.1 + 1))) (hob : ∀ i, i < w.2.1.1 → ((w.2.1.2 i).1.1 < 32 ∧ (w.2.1.2 i).1.2.1 < 32) ∧ (w.2.1.2 i).2.1 ≤ 30000 ∧ (w.2.1.2 i).2.2.1 ≤ 1000000) (hcd : vw_codes (w.1.2.1, w.1.2.2, 0, 0) q0.2.1) {Q : Option Value → rx_M → Prop} (hK : ∀ C', (∃ A', rcw A' C' (w_block w ((nI b, (q0.1.2.1 + 1), w.2.1.1, min 60 (o_all w.1.2.1 w.1.2.2 (q0.1.2.1 + 1) mk w.2.1.2 (q0.2.1, 0, (fun _ => (0, 0, 0, 0)), (fun _ => (0, 0, 0)), nI 0) w.2.1.1).2.1), (o_all w.1.2.1 w.1.2.2 (q0.1.2.1 + 1) mk w.2.1.2 (q0.2.1, 0, (fun _ => (0, 0, 0, 0)), (fun _ => (0, 0, 0)), nI 0) w.2.1.1).1, (o_all w.1.2.1 w.1.2.2 (q0.1.2.1 + 1) mk w.2.1.2 (q0.2.1, 0, (fun _ => (0, 0, 0, 0)), (fun _ => (0, 0, 0)), nI 0) w.2.1.1).2.2.2.1, (o_all w.1.2.1 w.1.2.2 (q0.1.2.1 + 1) mk w.2.1.2 (q0.2.1, 0, (fun _ => (0, 0, 0, 0)), (fun _ => (0, 0, 0)), nI 0) w.2.1.1).2.2.1, ((o_all w.1.2.1 w.1.2.2 (q0.1.2.1 + 1) mk w.2.1.2 (q0.2.1, 0, (fun _ => (0, 0, 0, 0)), (fun _ => (0, 0, 0)), nI 0) w.2.1.1).2.2.2.2, 0)))) → oI w.1.2.1 w.1.2.2 w.2.1.1 (o_all w.1.2.1 w.1.2.2 (q0.1.2.1 + 1) mk w.2.1.2 (q0.2.1, 0, (fun _ => (0, 0, 0, 0)), (fun _ => (0, 0, 0)), nI 0) w.2.1.1) → Q (some (.int (nI w.2.2.1.1))) (gl C' S)) : rx_X G MX10_block (d + 8) [.ref 0, .int (nI b), .int (nI mk)] (gl C S) 8 2000 Q (fun _ _ => False) := by
  refine rx_meth (by decide +kernel) rfl (Nat.le_of_ble_eq_true rfl) ?_
  refine rx_aload_n dX10_block_0 rfl rfl ?_
  refine rx_iload_n dX10_block_1 rfl ?_
  refine gv_invV (as := [.int _]) hG okX10_isBlock lk_RX10_150 rfl rfl dX10_block_2 rfl (by simp [Value.category]) (cf_isBlock hG (rcw_b hC) hnb hb) ?_
  rintro _ _ ⟨rfl, rfl⟩
  refine rx_if_eq (tgt := 16) dX10_block_5 (by decide) (fun h5 => (absurd h5 (by decide))) (fun h5 => ?_)
  refine rx_iload_n dX10_block_8 rfl ?_
  refine rx_i2l dX10_block_9 ?_
  refine rx_tl (y := lN mk) (nI_l (by omega)) ?_
  refine rx_invS0 (as := [.long _]) hG okX10_isAccount lk_RX10_106 dX10_block_10 rfl (by simp [Value.category]) (cw_acct hG hmk) ?_
  rintro _ _ ⟨rfl, rfl⟩
  refine rx_if_ne (tgt := 26) dX10_block_13 (by decide) (fun h13 => ?_) (fun h13 => (absurd h13 (by decide))) 
  refine rx_aload_n dX10_block_26 rfl rfl ?_
  refine gcv_getI (v := nI w.2.2.1.1) hG hf_RX10_38 rfl dX10_block_27 rfl rfl rfl (rcw_b hC) ?_
  refine rx_bipush (v := nI 40) dX10_block_30 rfl ?_
  refine rx_icmp_lt (tgt := 45) dX10_block_32 (by decide) (fun h32 => ?_) (fun h32 => (absurd (by rw [nI_ltI (by omega) (by omega)]; omega) h32)) 
  refine rx_aload_n dX10_block_45 rfl rfl ?_
  refine g_getR hG hf_RX10_31 rfl dX10_block_46 rfl rfl rfl ?_
  refine rx_iload_n dX10_block_49 rfl ?_
  refine gd_aald hG dX10_block_50 rfl rfl (by decide) rfl (show b < 40 by omega) (by decide) (gk44 (by omega)) hr ?_
  refine gy_getI (v := nI q0.1.2.1) hG hf_RX10_157 rfl dX10_block_51 hB.1.1 hB.2.1.2.1 ?_
  refine rx_iconst (v := nI 1) dX10_block_54 rfl ?_
  refine rx_iadd dX10_block_55 ?_
  refine rx_ti (y := nI (q0.1.2.1 + 1)) ((nI_add _ _).trans (congrArg nI (by omega))) ?_
  refine rx_istore_n dX10_block_56 (by decide) ?_
  refine rx_aload_n dX10_block_57 rfl rfl ?_
  refine g_getR hG hf_RX10_19 rfl dX10_block_58 rfl rfl rfl ?_
  refine rx_aload_n dX10_block_61 rfl rfl ?_
  refine g_getR hG hf_RX10_31 rfl dX10_block_62 rfl rfl rfl ?_
  refine rx_iload_n dX10_block_65 rfl ?_
  refine gd_aald hG dX10_block_66 rfl rfl (by decide) rfl (show b < 40 by omega) (by decide) (gk44 (by omega)) hr ?_
  refine gy_getR hG hf_RX10_124 rfl dX10_block_67 hB.1.1 hB.2.1.2.2.1 ?_
  refine rx_iload_n dX10_block_70 rfl ?_
  refine gv_invV (as := [.ref _, .int _]) hG okX7_load lk_RX10_160 rfl rfl dX10_block_71 rfl (by simp [Value.category]) (cf_load hG hB.2.2.1.1.1) ?_
  rintro _ _ ⟨rfl, rfl⟩
  refine rx_iconst (v := nI 3) dX10_block_74 rfl ?_
  refine rx_aload_n dX10_block_75 rfl rfl ?_
  refine gcv_getI (v := nI w.2.1.1) hG hf_RX10_142 rfl dX10_block_76 rfl rfl rfl (by simpa [cld, rx_ru] using hC.2.2.1.1) ?_
  refine rx_imul dX10_block_79 ?_
  refine rx_ti (y := nI (3 * w.2.1.1)) (pk_mul _ _) ?_
  refine rx_Wm (mc := 7 + 1) (ms := 1900 + 3 * w.2.1.1) ?_ (by decide) (by omega)
  refine ga_newa (t := 14) hG (Or.inr (Or.inr (Or.inl ⟨rfl, rfl⟩))) hw_814 dX10_block_80 rfl (by omega) ?_
  refine rx_astore dX10_block_82 (by decide) rfl ?_
  refine rx_iconst (v := nI 0) dX10_block_84 rfl ?_
  refine rx_istore dX10_block_85 (by decide) ?_
  refine rx_iconst (v := nI 0) dX10_block_87 rfl ?_
  refine rx_istore dX10_block_88 (by decide) ?_
  refine rx_lv (lv' := [(5, .int (nI 0)), (6, .int (nI 0)), (0, .ref 0), (1, .int (nI b)), (2, .int (nI mk)), (3, .int (nI (q0.1.2.1 + 1))), (4, .ref (102 + C.2.2.2.2))]) ⟨rfl, rfl, rfl, rfl, rfl, rfl, rfl, trivial⟩ ?_
  have hg0 : rc_agE (fun a => a = 9) (fun _ => False) C (ca (cld C a.2.1 (q0.1.2.1 + 1)) 14 (3 * w.2.1.1)) := by
    have h1 := cld_ag (C := C) (a0 := a.2.1) (h := (q0.1.2.1 + 1))
    have h2 := ca_ag (C := cld C a.2.1 (q0.1.2.1 + 1)) (t := 14) (n := 3 * w.2.1.1)
    exact ⟨fun x hE hx hn => ⟨(h2.1 x hx hn).1.trans (h1.1 x hE hx hn).1, (h2.1 x hx hn).2.trans (h1.1 x hE hx hn).2⟩, fun x hF hx hn => (h2.2.1 x hx hn).trans (h1.2.1 x hF hx hn), fun x hx hn => (h2.2.2.1 x hx hn).trans (h1.2.2.1 x hx hn), Nat.le_succ _⟩
  obtain ⟨od, hod, hod2⟩ := hC.2.2.2.1.2.2.2.2
  have hP0 : rc_P A.1 (ca (cld C a.2.1 (q0.1.2.1 + 1)) 14 (3 * w.2.1.1)) (w.1.2.1, w.1.2.2, 0, (q0.1.2.1 + 1)) 0 od q0.2.1 := by
    have h1 := cld_P (o := 0) (h := (q0.1.2.1 + 1)) hC.2.1 hB.2.2.1.2 hod2
    obtain ⟨⟨p1, p2, p3⟩, p4, p5, p6⟩ := h1
    have h2 := rc_agE_of (ca_ag (C := cld C a.2.1 (q0.1.2.1 + 1)) (t := 14) (n := 3 * w.2.1.1))
    have e4 : ∀ x, x ≠ 102 + (cld C a.2.1 (q0.1.2.1 + 1)).2.2.2.2 → (ca (cld C a.2.1 (q0.1.2.1 + 1)) 14 (3 * w.2.1.1)).1 x = (cld C a.2.1 (q0.1.2.1 + 1)).1 x ∧ (ca (cld C a.2.1 (q0.1.2.1 + 1)) 14 (3 * w.2.1.1)).2.1 x = (cld C a.2.1 (q0.1.2.1 + 1)).2.1 x ∧ (ca (cld C a.2.1 (q0.1.2.1 + 1)) 14 (3 * w.2.1.1)).2.2.1 x = (cld C a.2.1 (q0.1.2.1 + 1)).2.2.1 x := fun x hx => ⟨k1_ne _ hx, k1_ne _ hx, k1_ne _ hx⟩
    refine ⟨⟨fun c hc => ⟨?_, rc_K_agE (p1 c hc).2 h2 (fun x _ => noF x) (fun x _ => noF x)⟩, ?_, ?_⟩, fun k hk => ?_, ?_, ?_⟩
    · rw [(e4 6 (by omega)).2.2]; exact (p1 c hc).1
    · rw [(e4 5 (by omega)).1]; exact p2
    · rw [(e4 4 (by omega)).1]; exact p3
    · rw [(e4 8 (by omega)).2.1]; exact p4 k hk
    · rw [(e4 9 (by omega)).1]; exact p5
    · rw [(e4 9 (by omega)).1]; exact p6
  refine lc_block (C0 := (ca (cld C a.2.1 (q0.1.2.1 + 1)) 14 (3 * w.2.1.1))) (K := A.1) (O := A.2.1) (f := w.2.1.2) (T0 := (q0.2.1, 0, (fun _ => (0, 0, 0, 0)), (fun _ => (0, 0, 0)), nI 0)) hG (by omega) hmk (cO_agE hC.2.2.1 hg0 (by decide) (noF 43) (fun x hx => by show ¬ x = 9; omega)) ca_rk (by show 102 ≤ (102 + C.2.2.2.2); omega) hvg hob (fun C2 hL hI => ?_) w.2.1.1 0 _ (by omega) ⟨⟨fun _ _ _ _ => ⟨rfl, rfl⟩, fun _ _ _ _ => rfl, fun _ _ _ => rfl, Nat.le_refl _⟩, ⟨od, hod, hP0⟩, fun j hj => absurd hj (Nat.not_lt_zero _), fun j hj => absurd hj (Nat.not_lt_zero _), fun j _ => ?_⟩ ⟨hcd, Nat.le_refl _, fun j hj => absurd hj (Nat.not_lt_zero _), fun j hj => absurd hj (Nat.not_lt_zero _)⟩
  rotate_left
  · show rx_k1 (cld C a.2.1 (q0.1.2.1 + 1)).2.1 (102 + C.2.2.2.2) (fun _ => 0) (102 + C.2.2.2.2) j = 0
    rw [k1_eq]
  obtain ⟨od2, hod3, hP⟩ := hL.2.1
  have e0 : C2.1 0 = C.1 0 := ((hL.1.1 0 (by show ¬ (0 = 9 ∨ 0 = (102 + C.2.2.2.2)); omega) (by omega) (by omega)).1).trans ((hg0.1 0 (by decide) (by omega) (by omega)).1)
  refine rx_aload_n dX10_block_125 rfl rfl ?_
  refine rx_iconst (v := nI 0) dX10_block_126 rfl ?_
  refine gc_putI hG hf_RX10_142 (gw_nf rfl rfl) rfl dX10_block_127 rfl rfl rfl rfl rfl ?_
  refine rx_aload_n dX10_block_130 rfl rfl ?_
  refine gcv_getI (v := nI w.2.2.1.1) hG hf_RX10_38 rfl dX10_block_131 rfl rfl rfl (by have := rcw_b hC; rw [← e0] at this; simpa [rx_ru] using this) ?_
  refine rx_istore dX10_block_134 (by decide) ?_
  refine rx_aload_n dX10_block_136 rfl rfl ?_
  refine g_getR hG hf_RX10_31 rfl dX10_block_137 rfl rfl rfl ?_
  refine rx_iload dX10_block_140 rfl ?_
  refine rx_Wm (mc := 6 + 1) (ms := 1800 + 7) ?_ (by decide) (by decide)
  refine ga_new hG hc_0 ⟨hw_824, hw_826, hw_1⟩ (by decide +kernel) dX10_block_142 ?_
  refine rx_dup dX10_block_145 rfl ?_
  refine rx_iload_n dX10_block_146 rfl ?_
  refine rx_iload_n dX10_block_147 rfl ?_
  refine rx_aload_n dX10_block_148 rfl rfl ?_
  refine g_getR hG hf_RX10_19 rfl dX10_block_149 rfl rfl rfl ?_
  refine g_getR hG hf_RX10_168 rfl dX10_block_152 rfl rfl rfl ?_
  refine rx_Wm (mc := 1 + 5) (ms := 1024 + 700) ?_ (by decide) (by decide)
  refine rx_invV (as := []) hG okX9_copyLeaves lk_RX10_172 (gl_n rfl) rfl dX10_block_155 rfl (Nat.le_of_ble_eq_true rfl) (cf_copyLeaves hG) ?_
  rintro _ _ ⟨rfl, rfl⟩
  refine rx_aload dX10_block_158 rfl rfl ?_
  refine rx_aload_n dX10_block_160 rfl rfl ?_
  refine g_getR hG hf_RX10_19 rfl dX10_block_161 rfl rfl rfl ?_
  refine g_getR hG hf_RX10_178 rfl dX10_block_164 rfl rfl rfl ?_
  refine rx_Wm (mc := 1 + 4) (ms := 240 + 400) ?_ (by decide) (by decide)
  have hec := hI.2.1
  have hP9 : (ccl (ca (rx_u C2.1 0 3 (nI 0), C2.2) 0 7) 8 1024).1 9 1 = nI (o_all w.1.2.1 w.1.2.2 (q0.1.2.1 + 1) mk w.2.1.2 (q0.2.1, 0, (fun _ => (0, 0, 0, 0)), (fun _ => (0, 0, 0)), nI 0) w.2.1.1).2.1 := by
    show rx_k1 (rx_k1 (rx_u C2.1 0 3 (nI 0)) _ _) _ _ 9 1 = _
    rw [k1_ne _ (by show 9 ≠ 102 + (C2.2.2.2.2 + 1); omega), k1_ne _ (by show 9 ≠ 102 + C2.2.2.2.2; omega), rx_une _ (by decide)]
    exact hP.2.2.1
  refine rx_invV (as := []) hG okX5_copyRows lk_RX10_182 (gl_n rfl) rfl dX10_block_167 rfl (Nat.le_of_ble_eq_true rfl) (cf_copyRows (ec := (o_all w.1.2.1 w.1.2.2 (q0.1.2.1 + 1) mk w.2.1.2 (q0.2.1, 0, (fun _ => (0, 0, 0, 0)), (fun _ => (0, 0, 0)), nI 0) w.2.1.1).2.1) hG hP9 (by omega)) ?_
  rintro _ _ ⟨rfl, C3, rfl, hc3⟩
  refine rx_iload dX10_block_170 rfl ?_
  refine rx_invI (mc := 4) (ms := 400) (mc' := 0) (ms' := 0) (as := [.int _, .int _, .ref _, .ref _, .ref _, .int _]) hG okX0_init lk_RX10_35 dX10_block_172 rfl (Nat.le_of_ble_eq_true rfl) (ci_block hG (rk_ag (rk_ag ca_rk ccl_ag) hc3.1)) ?_
  rintro _ _ ⟨rfl, rfl⟩
  have hn3 : C3.2.2.2.2 = C2.2.2.2.2 + 1 + 1 + 1 := hc3.2.2.2
  have rkN0 : rk C3 (102 + C2.2.2.2.2) 0 7 := rk_ag (rk_ag (ca_rk (C := (rx_u C2.1 0 3 (nI 0), C2.2)) (t := 0) (n := 7)) ccl_ag) hc3.1
  refine ga_aast hG dX10_block_175 rfl rfl (by decide) rfl (show w.2.2.1.1 < 40 by omega) (by decide) (gk44 (by omega)) rkN0 rfl ?_
  have e05 : C3.1 0 = rx_u C2.1 0 3 (nI 0) 0 := by
    rw [(hc3.1.1 0 (by omega) (by show 0 < 102 + (C2.2.2.2.2 + 1 + 1); omega)).1, ((ccl_ag (C := (ca (rx_u C2.1 0 3 (nI 0), C2.2) 0 7)) (a := 8) (n := 1024)).1 0 (by omega) (by show 0 < 102 + (C2.2.2.2.2 + 1); omega)).1, ((ca_ag (C := (rx_u C2.1 0 3 (nI 0), C2.2)) (t := 0) (n := 7)).1 0 (by omega) (by omega)).1]
  have hne : (0 : Nat) ≠ (102 + C2.2.2.2.2) := by omega
  refine rx_aload_n dX10_block_176 rfl rfl ?_
  refine rx_dup dX10_block_177 rfl ?_
  refine gcv_getI (v := nI w.2.2.1.1) hG hf_RX10_38 rfl dX10_block_178 rfl rfl rfl (by
    show rx_u (rx_u (rx_u C3.1 (102 + C2.2.2.2.2) 0 _) (102 + C2.2.2.2.2) 1 _) (102 + C2.2.2.2.2) 5 _ 0 5 = _
    rw [rx_une _ hne, rx_une _ hne, rx_une _ hne, e05, rx_ru, if_pos rfl, if_neg (by decide), e0]
    exact rcw_b hC) ?_
  refine rx_iconst (v := nI 1) dX10_block_181 rfl ?_
  refine rx_iadd dX10_block_182 ?_
  refine rx_ti (y := nI (w.2.2.1.1 + 1)) (nI_add _ _) ?_
  refine gc_putI hG hf_RX10_38 (gw_nf rfl rfl) rfl dX10_block_183 rfl rfl rfl rfl rfl ?_
  refine rx_iload dX10_block_186 rfl ?_
  refine rx_iret rfl dX10_block_188 (hK _ ?_ hI)
  exact ⟨_, blk_fin (C := C) (C2 := C2) (C3 := C3) (a := a) hC hnb hL hg0 hP hod3 hc3 (by omega) h1b⟩

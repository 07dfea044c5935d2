theorem rc_E_drop {C : rx_M} {bs od : Nat} : ∀ {es : List (Nat × Int64 × Int64)} (k : Nat), rc_E C bs od es → rc_E C bs od (es.drop k)
  | [], k, _ => by rw [List.drop_nil]; exact trivial
  | e :: es, 0, h => h
  | e :: es, k + 1, h => by rw [List.drop_succ_cons]; exact rc_E_drop k h.2
theorem rcY_setEv {K : Nat → Nat × Nat} {C0 C : rx_M} {g : vg_T} {bs od : Nat} {n : Nat → Int64} {e : List (Nat × Int64 × Int64)} {b m : Nat} {gs : List vf_T} {z : Int32} (h : rc_Y K C0 C g bs od (n, e, b, gs, m) z) {j : Nat} (hj : j ≤ e.length) : rc_Y K C0 (rx_u C.1 9 1 (nI (bs + j)), C.2) g bs od (n, e.drop (e.length - j), b, gs, m) z := by
  obtain ⟨⟨h1, h2, ⟨h3, h4, h5⟩, h6, ⟨h7, h8⟩, h9⟩, ⟨r1, r2, r3, r4⟩, hz⟩ := h
  refine ⟨⟨rc_G_congr h1 (fun a ha => rx_une _ (by omega)) (fun _ _ => rfl) rfl rfl (by simp [rx_ru]) (by simp [rx_ru]) (by simp [rx_ru]), h2, ⟨?_, by simpa [rx_ru] using h4, rc_E_congr (C := C) (fun _ _ => rfl) (rc_E_drop _ h5)⟩, by simpa [rx_ru] using h6, ⟨by simpa [rx_ru] using h7, rc_Fs_congr (C := C) (fun a ha ha2 => ⟨rx_une _ (by omega), rfl, rfl⟩) h8⟩, by simpa [rx_ru] using h9⟩, ⟨fun a ha => ⟨(rx_une _ (by omega)).trans (r1 a ha).1, (r1 a ha).2⟩, r2, r3, r4⟩, (congrFun (rx_une _ (by omega)) 7).trans hz⟩
  show rx_u C.1 9 1 (nI (bs + j)) 9 1 = nI (bs + (e.drop (e.length - j)).length)
  rw [List.length_drop, rx_ru, if_pos rfl, if_pos rfl]
  congr 1
  omega
theorem rcY_cnt {K : Nat → Nat × Nat} {C0 C : rx_M} {g : vg_T} {bs od : Nat} {n : Nat → Int64} {e : List (Nat × Int64 × Int64)} {b m : Nat} {gs : List vf_T} {z : Int32} (h : rc_Y K C0 C g bs od (n, e, b, gs, m) z) {L : Nat → Nat → Int64} (sf : Nat) (tp dt : Int64) (hL : ∀ a, a ≠ 10 → L a = C.2.1 a) (h10 : ∀ j, j < 4 * (bs + e.length) → L 10 j = C.2.1 10 j) (hE : bs + e.length < 60 → L 10 (4 * (bs + e.length)) = lN sf ∧ L 10 (4 * (bs + e.length) + 1) = tp ∧ L 10 (4 * (bs + e.length) + 2) = dt ∧ L 10 (4 * (bs + e.length) + 3) = lN od) : rc_Y K C0 (rx_u C.1 9 1 (nI (bs + e.length + 1)), L, C.2.2) g bs od (n, (sf, tp, dt) :: e, b, gs, m) z := by
  obtain ⟨⟨h1, h2, ⟨h3, h4, h5⟩, h6, ⟨h7, h8⟩, h9⟩, ⟨r1, r2, r3, r4⟩, hz⟩ := h
  refine ⟨⟨rc_G_congr h1 (fun a ha => rx_une _ (by omega)) (fun _ _ => rfl) rfl rfl (by simp [rx_ru]) (by simp [rx_ru]) (by simp [rx_ru]), fun k hk => by show L 8 k = _; rw [hL 8 (by decide)]; exact h2 k hk, ⟨by simp [rx_ru, Nat.add_assoc], by simpa [rx_ru] using h4, ⟨fun hb => hE hb, rc_E_congr (C := C) (fun j hj => h10 j hj) h5⟩⟩, by simpa [rx_ru] using h6, ⟨by simpa [rx_ru] using h7, rc_Fs_congr (C := C) (fun a ha ha2 => ⟨rx_une _ (by omega), hL a (by omega), rfl⟩) h8⟩, by simpa [rx_ru] using h9⟩, ⟨fun a ha => ⟨(rx_une _ (by omega)).trans (r1 a ha).1, (hL a (by omega)).trans (r1 a ha).2⟩, r2, r3, fun j hj => (h10 j (by omega)).trans (r4 j hj)⟩, (congrFun (rx_une _ (by omega)) 7).trans hz⟩
theorem cs_add {G : rx_E} {d : Nat} {S : gs_T} {K : Nat → Nat × Nat} {C0 C : rx_M} {g : vg_T} {bs od : Nat} {n : Nat → Int64} {e : List (Nat × Int64 × Int64)} {b m : Nat} {gs : List vf_T} {z : Int32} (hG : rx_OK G) (hY : rc_Y K C0 C g bs od (n, e, b, gs, m) z) {sf : Nat} {tp dt : Int64} (hsf : sf < 32) (hod : od < 10) (hbs : bs + e.length ≤ 40000) : rx_C G MX5_add d [.ref 9, .int (nI sf), .long tp, .long dt] (gl C S) 0 0 (rcq S K C0 g bs od (n, (sf, tp, dt) :: e, b, gs, m) z none) := by
  refine rx_meth0 (by decide +kernel) rfl (Nat.le_of_ble_eq_true rfl) ?_
  refine rx_aload_n dX5_add_0 rfl rfl ?_
  refine gcv_getI (v := nI (bs + e.length)) hG hf_RX5_15 rfl dX5_add_1 rfl rfl rfl (show C.1 9 1 = _ from rc_ev hY) ?_
  refine rx_bipush (v := nI 60) dX5_add_4 rfl ?_
  refine rx_icmp_ge (tgt := 69) dX5_add_6 (by decide) (fun h6 => ?_) (fun h6 => ?_)
  · rw [nI_leI (by omega) (by omega)] at h6
    refine rx_aload_n dX5_add_69 rfl rfl ?_
    refine rx_dup dX5_add_70 rfl ?_
    refine gcv_getI (v := nI (bs + e.length)) hG hf_RX5_15 rfl dX5_add_71 rfl rfl rfl (show C.1 9 1 = _ from rc_ev hY) ?_
    refine rx_iconst (v := nI 1) dX5_add_74 rfl ?_
    refine rx_iadd dX5_add_75 ?_
    refine rx_ti (y := nI (bs + e.length + 1)) ((nI_add _ _).trans (congrArg nI (by omega))) ?_
    refine gc_putI hG hf_RX5_15 (gw_nf rfl rfl) rfl dX5_add_76 rfl rfl rfl rfl rfl ?_
    exact rx_vret rfl dX5_add_79 ⟨rfl, _, rfl, rcY_cnt hY sf tp dt (fun _ _ => rfl) (fun _ _ => rfl) (fun hb => by omega)⟩
  · rw [nI_leI (by omega) (by omega)] at h6
    refine rx_aload_n dX5_add_9 rfl rfl ?_
    refine g_getR hG hf_RX5_9 rfl dX5_add_10 rfl rfl rfl ?_
    refine rx_iconst (v := nI 4) dX5_add_13 rfl ?_
    refine rx_aload_n dX5_add_14 rfl rfl ?_
    refine gcv_getI (v := nI (bs + e.length)) hG hf_RX5_15 rfl dX5_add_15 rfl rfl rfl (show C.1 9 1 = _ from rc_ev hY) ?_
    refine rx_imul dX5_add_18 ?_
    refine rx_ti (y := nI (4 * bs + 4 * e.length)) ((pk_mul _ _).trans (congrArg nI (by omega))) ?_
    refine rx_iload_n dX5_add_19 rfl ?_
    refine rx_i2l dX5_add_20 ?_
    refine rx_tl (y := lN sf) (nI_l (by omega)) ?_
    refine gc_last (j := 4 * bs + 4 * e.length) hG dX5_add_21 rfl rfl rfl rfl (by omega) (by decide) ?_
    refine rx_aload_n dX5_add_22 rfl rfl ?_
    refine g_getR hG hf_RX5_9 rfl dX5_add_23 rfl rfl rfl ?_
    refine rx_iconst (v := nI 4) dX5_add_26 rfl ?_
    refine rx_aload_n dX5_add_27 rfl rfl ?_
    refine gcv_getI (v := nI (bs + e.length)) hG hf_RX5_15 rfl dX5_add_28 rfl rfl rfl (show C.1 9 1 = _ from rc_ev hY) ?_
    refine rx_imul dX5_add_31 ?_
    refine rx_ti (y := nI (4 * bs + 4 * e.length)) ((pk_mul _ _).trans (congrArg nI (by omega))) ?_
    refine rx_iconst (v := nI 1) dX5_add_32 rfl ?_
    refine rx_iadd dX5_add_33 ?_
    refine rx_ti (y := nI (4 * bs + 4 * e.length + 1)) ((nI_add _ _).trans (congrArg nI (by omega))) ?_
    refine rx_lload_n dX5_add_34 rfl ?_
    refine gc_last (j := 4 * bs + 4 * e.length + 1) hG dX5_add_35 rfl rfl rfl rfl (by omega) (by decide) ?_
    refine rx_aload_n dX5_add_36 rfl rfl ?_
    refine g_getR hG hf_RX5_9 rfl dX5_add_37 rfl rfl rfl ?_
    refine rx_iconst (v := nI 4) dX5_add_40 rfl ?_
    refine rx_aload_n dX5_add_41 rfl rfl ?_
    refine gcv_getI (v := nI (bs + e.length)) hG hf_RX5_15 rfl dX5_add_42 rfl rfl rfl (show C.1 9 1 = _ from rc_ev hY) ?_
    refine rx_imul dX5_add_45 ?_
    refine rx_ti (y := nI (4 * bs + 4 * e.length)) ((pk_mul _ _).trans (congrArg nI (by omega))) ?_
    refine rx_iconst (v := nI 2) dX5_add_46 rfl ?_
    refine rx_iadd dX5_add_47 ?_
    refine rx_ti (y := nI (4 * bs + 4 * e.length + 2)) ((nI_add _ _).trans (congrArg nI (by omega))) ?_
    refine rx_lload dX5_add_48 rfl ?_
    refine gc_last (j := 4 * bs + 4 * e.length + 2) hG dX5_add_50 rfl rfl rfl rfl (by omega) (by decide) ?_
    refine rx_aload_n dX5_add_51 rfl rfl ?_
    refine g_getR hG hf_RX5_9 rfl dX5_add_52 rfl rfl rfl ?_
    refine rx_iconst (v := nI 4) dX5_add_55 rfl ?_
    refine rx_aload_n dX5_add_56 rfl rfl ?_
    refine gcv_getI (v := nI (bs + e.length)) hG hf_RX5_15 rfl dX5_add_57 rfl rfl rfl (show C.1 9 1 = _ from rc_ev hY) ?_
    refine rx_imul dX5_add_60 ?_
    refine rx_ti (y := nI (4 * bs + 4 * e.length)) ((pk_mul _ _).trans (congrArg nI (by omega))) ?_
    refine rx_iconst (v := nI 3) dX5_add_61 rfl ?_
    refine rx_iadd dX5_add_62 ?_
    refine rx_ti (y := nI (4 * bs + 4 * e.length + 3)) ((nI_add _ _).trans (congrArg nI (by omega))) ?_
    refine rx_aload_n dX5_add_63 rfl rfl ?_
    refine gcv_getI (v := nI od) hG hf_RX5_19 rfl dX5_add_64 rfl rfl rfl (show C.1 9 2 = _ from rc_od hY) ?_
    refine rx_i2l dX5_add_67 ?_
    refine rx_tl (y := lN od) (nI_l (by omega)) ?_
    refine gc_last (j := 4 * bs + 4 * e.length + 3) hG dX5_add_68 rfl rfl rfl rfl (by omega) (by decide) ?_
    refine rx_aload_n dX5_add_69 rfl rfl ?_
    refine rx_dup dX5_add_70 rfl ?_
    refine gcv_getI (v := nI (bs + e.length)) hG hf_RX5_15 rfl dX5_add_71 rfl rfl rfl (show C.1 9 1 = _ from rc_ev hY) ?_
    refine rx_iconst (v := nI 1) dX5_add_74 rfl ?_
    refine rx_iadd dX5_add_75 ?_
    refine rx_ti (y := nI (bs + e.length + 1)) ((nI_add _ _).trans (congrArg nI (by omega))) ?_
    refine gc_putI hG hf_RX5_15 (gw_nf rfl rfl) rfl dX5_add_76 rfl rfl rfl rfl rfl ?_
    refine rx_vret rfl dX5_add_79 ⟨rfl, _, rfl, rcY_cnt hY (L := rx_u (rx_u (rx_u (rx_u C.2.1 10 (4 * bs + 4 * e.length) (lN sf)) 10 (4 * bs + 4 * e.length + 1) tp) 10 (4 * bs + 4 * e.length + 2) dt) 10 (4 * bs + 4 * e.length + 3) (lN od)) sf tp dt (fun a ha => by simp only [rx_une _ ha]) (fun j hj => by rw [rx_ru, if_pos rfl, if_neg (by omega), rx_ru, if_pos rfl, if_neg (by omega), rx_ru, if_pos rfl, if_neg (by omega), rx_ru, if_pos rfl, if_neg (by omega)]) (fun _ => ?_)⟩
    rw [show 4 * (bs + e.length) = 4 * bs + 4 * e.length by omega]
    exact ⟨by simp [rx_ru], by simp [rx_ru], by simp [rx_ru], by simp [rx_ru]⟩
theorem bI_fit (l : Bool) : fits .boolean (.int (bI l)) = true := by cases l <;> rfl
def rc_call (C : rx_M) (cl : Nat) (to vl ar : Int64) (gg : Nat) (l : Bool) : Prop := C.1 11 0 = nI cl ∧ C.2.1 11 1 = to ∧ C.2.1 11 2 = vl ∧ C.2.1 11 3 = ar ∧ C.1 11 4 = nI gg ∧ C.1 11 5 = bI l
theorem cs_set {G : rx_E} {d : Nat} {S : gs_T} {K : Nat → Nat × Nat} {C0 C : rx_M} {g : vg_T} {bs od : Nat} {n : Nat → Int64} {e : List (Nat × Int64 × Int64)} {b m : Nat} {gs : List vf_T} {z : Int32} (hG : rx_OK G) (hY : rc_Y K C0 C g bs od (n, e, b, gs, m) z) {cl gg : Nat} {to vl ar : Int64} {l : Bool} : rx_C G MX1_set d [.ref 11, .int (nI cl), .long to, .long vl, .long ar, .int (nI gg), .int (bI l)] (gl C S) 0 0 (fun vv mu => vv = none ∧ ∃ C', mu = gl C' S ∧ rc_Y K C0 C' g bs od (n, e, b, gs, m) z ∧ rc_call C' cl to vl ar gg l) := by
  refine rx_meth0 (by decide +kernel) rfl (Nat.le_of_ble_eq_true rfl) ?_
  refine rx_aload_n dX1_set_0 rfl rfl ?_
  refine rx_iload_n dX1_set_1 rfl ?_
  refine gc_putI hG hf_RX1_7 (gw_nf rfl rfl) rfl dX1_set_2 rfl rfl rfl rfl rfl ?_
  refine rx_aload_n dX1_set_5 rfl rfl ?_
  refine rx_lload_n dX1_set_6 rfl ?_
  refine gc_putL hG hf_RX1_13 (gw_nf rfl rfl) dX1_set_7 rfl rfl rfl ?_
  refine rx_aload_n dX1_set_10 rfl rfl ?_
  refine rx_lload dX1_set_11 rfl ?_
  refine gc_putL hG hf_RX1_17 (gw_nf rfl rfl) dX1_set_13 rfl rfl rfl ?_
  refine rx_aload_n dX1_set_16 rfl rfl ?_
  refine rx_lload dX1_set_17 rfl ?_
  refine gc_putL hG hf_RX1_20 (gw_nf rfl rfl) dX1_set_19 rfl rfl rfl ?_
  refine rx_aload_n dX1_set_22 rfl rfl ?_
  refine rx_iload dX1_set_23 rfl ?_
  refine gc_putI hG hf_RX1_23 (gw_nf rfl rfl) rfl dX1_set_25 rfl rfl rfl rfl rfl ?_
  refine rx_aload_n dX1_set_28 rfl rfl ?_
  refine rx_iload dX1_set_29 rfl ?_
  refine gc_putI hG hf_RX1_26 (gw_nf rfl rfl) rfl dX1_set_31 rfl rfl rfl (bI_nar l) (bI_fit l) ?_
  exact rx_vret rfl dX1_set_34 ⟨rfl, _, rfl, rcY_call hY 0 4 5 _ _ _ 1 2 3 _ _ _, ⟨by simp [rx_ru], by simp [rx_ru], by simp [rx_ru], by simp [rx_ru], by simp [rx_ru], by simp [rx_ru]⟩⟩
theorem rc_Fs_ex {K : Nat → Nat × Nat} {C : rx_M} {bs : Nat} {P : Nat → Prop} {R : vf_T → Prop} : ∀ {fs : List vf_T}, rc_Fs K C bs fs → (∀ j f, f ∈ fs → rc_F K C bs j f → (P j ↔ R f)) → ((∃ j, j < fs.length ∧ P j) ↔ ∃ f ∈ fs, R f)
  | [], _, _ => ⟨fun ⟨j, h, _⟩ => absurd h (Nat.not_lt_zero j), fun ⟨f, h, _⟩ => absurd h List.not_mem_nil⟩
  | f :: fs, h, hp => by
    have ih := rc_Fs_ex h.2 (fun j f hf => hp j f (List.mem_cons_of_mem _ hf))
    constructor
    · rintro ⟨j, hj, hP⟩
      have hj : j < fs.length + 1 := hj
      by_cases e : j = fs.length
      · subst e
        exact ⟨f, List.mem_cons_self, (hp _ f List.mem_cons_self h.1).mp hP⟩
      · obtain ⟨f', hf', hR⟩ := ih.mp ⟨j, by omega, hP⟩
        exact ⟨f', List.mem_cons_of_mem _ hf', hR⟩
    · rintro ⟨f', hf', hR⟩
      rcases List.mem_cons.mp hf' with rfl | hf'
      · exact ⟨fs.length, by simp, (hp _ f' List.mem_cons_self h.1).mpr hR⟩
      · obtain ⟨j, hj, hP⟩ := ih.mpr ⟨f', hf', hR⟩
        exact ⟨j, by simp; omega, hP⟩
theorem dX7_hasLock_0 : decode cX7_hasLock 0 = .ok (.iconst 0, 1) := by decide +kernel
theorem dX7_hasLock_1 : decode cX7_hasLock 1 = .ok (.istore_n 2, 1) := by decide +kernel
theorem dX7_hasLock_2 : decode cX7_hasLock 2 = .ok (.iload_n 2, 1) := by decide +kernel
theorem dX7_hasLock_3 : decode cX7_hasLock 3 = .ok (.aload_n 0, 1) := by decide +kernel
theorem dX7_hasLock_4 : decode cX7_hasLock 4 = .ok (.getfield 60, 3) := by decide +kernel
theorem dX7_hasLock_7 : decode cX7_hasLock 7 = .ok (.if_icmp .ge 36, 3) := by decide +kernel
theorem dX7_hasLock_10 : decode cX7_hasLock 10 = .ok (.aload_n 0, 1) := by decide +kernel
theorem dX7_hasLock_11 : decode cX7_hasLock 11 = .ok (.getfield 41, 3) := by decide +kernel
theorem dX7_hasLock_14 : decode cX7_hasLock 14 = .ok (.iload_n 2, 1) := by decide +kernel
theorem dX7_hasLock_15 : decode cX7_hasLock 15 = .ok (.aaload, 1) := by decide +kernel
theorem dX7_hasLock_16 : decode cX7_hasLock 16 = .ok (.getfield 160, 3) := by decide +kernel
theorem dX7_hasLock_19 : decode cX7_hasLock 19 = .ok (.iload_n 1, 1) := by decide +kernel
theorem dX7_hasLock_20 : decode cX7_hasLock 20 = .ok (.if_icmp .ne 17, 3) := by decide +kernel
theorem dX7_hasLock_23 : decode cX7_hasLock 23 = .ok (.aload_n 0, 1) := by decide +kernel
theorem dX7_hasLock_24 : decode cX7_hasLock 24 = .ok (.getfield 41, 3) := by decide +kernel
theorem dX7_hasLock_27 : decode cX7_hasLock 27 = .ok (.iload_n 2, 1) := by decide +kernel
theorem dX7_hasLock_28 : decode cX7_hasLock 28 = .ok (.aaload, 1) := by decide +kernel
theorem dX7_hasLock_29 : decode cX7_hasLock 29 = .ok (.getfield 163, 3) := by decide +kernel
theorem dX7_hasLock_32 : decode cX7_hasLock 32 = .ok (.ifCond .eq 5, 3) := by decide +kernel
theorem dX7_hasLock_35 : decode cX7_hasLock 35 = .ok (.iconst 1, 1) := by decide +kernel
theorem dX7_hasLock_36 : decode cX7_hasLock 36 = .ok (.ireturn, 1) := by decide +kernel
theorem dX7_hasLock_37 : decode cX7_hasLock 37 = .ok (.iinc 2 1, 3) := by decide +kernel
theorem dX7_hasLock_40 : decode cX7_hasLock 40 = .ok (.goto (-38), 3) := by decide +kernel
theorem dX7_hasLock_43 : decode cX7_hasLock 43 = .ok (.iconst 0, 1) := by decide +kernel
theorem dX7_hasLock_44 : decode cX7_hasLock 44 = .ok (.ireturn, 1) := by decide +kernel
theorem dX7_hasFrame_0 : decode cX7_hasFrame 0 = .ok (.iconst 0, 1) := by decide +kernel
theorem dX7_hasFrame_1 : decode cX7_hasFrame 1 = .ok (.istore_n 2, 1) := by decide +kernel
theorem dX7_hasFrame_2 : decode cX7_hasFrame 2 = .ok (.iload_n 2, 1) := by decide +kernel
theorem dX7_hasFrame_3 : decode cX7_hasFrame 3 = .ok (.aload_n 0, 1) := by decide +kernel
theorem dX7_hasFrame_4 : decode cX7_hasFrame 4 = .ok (.getfield 60, 3) := by decide +kernel
theorem dX7_hasFrame_7 : decode cX7_hasFrame 7 = .ok (.if_icmp .ge 24, 3) := by decide +kernel
theorem dX7_hasFrame_10 : decode cX7_hasFrame 10 = .ok (.aload_n 0, 1) := by decide +kernel
theorem dX7_hasFrame_11 : decode cX7_hasFrame 11 = .ok (.getfield 41, 3) := by decide +kernel
theorem dX7_hasFrame_14 : decode cX7_hasFrame 14 = .ok (.iload_n 2, 1) := by decide +kernel
theorem dX7_hasFrame_15 : decode cX7_hasFrame 15 = .ok (.aaload, 1) := by decide +kernel
theorem dX7_hasFrame_16 : decode cX7_hasFrame 16 = .ok (.getfield 160, 3) := by decide +kernel
theorem dX7_hasFrame_19 : decode cX7_hasFrame 19 = .ok (.iload_n 1, 1) := by decide +kernel
theorem dX7_hasFrame_20 : decode cX7_hasFrame 20 = .ok (.if_icmp .ne 5, 3) := by decide +kernel
theorem dX7_hasFrame_23 : decode cX7_hasFrame 23 = .ok (.iconst 1, 1) := by decide +kernel
theorem dX7_hasFrame_24 : decode cX7_hasFrame 24 = .ok (.ireturn, 1) := by decide +kernel
theorem dX7_hasFrame_25 : decode cX7_hasFrame 25 = .ok (.iinc 2 1, 3) := by decide +kernel
theorem dX7_hasFrame_28 : decode cX7_hasFrame 28 = .ok (.goto (-26), 3) := by decide +kernel
theorem dX7_hasFrame_31 : decode cX7_hasFrame 31 = .ok (.iconst 0, 1) := by decide +kernel
theorem dX7_hasFrame_32 : decode cX7_hasFrame 32 = .ok (.ireturn, 1) := by decide +kernel
theorem lc_hasLock {G : rx_E} {d mc ms : Nat} {S : gs_T} {C : rx_M} {x N : Nat} {Q : Option Value → rx_M → Prop} {Z : String → rx_M → Prop} (hG : rx_OK G) (hN : C.1 4 5 = nI N) (hN10 : N ≤ 10) (hQ : ∀ r, ((r = 1 ∧ ∃ j, j < N ∧ (C.1 (13 + 3 * j) 9 = nI x ∧ ¬ C.1 (13 + 3 * j) 14 = 0)) ∨ (r = 0 ∧ ¬ ∃ j, j < N ∧ (C.1 (13 + 3 * j) 9 = nI x ∧ ¬ C.1 (13 + 3 * j) 14 = 0))) → Q (some (.int (nI r))) (gl C S)) : ∀ (k i : Nat), i + k = N → (¬ ∃ j, j < i ∧ (C.1 (13 + 3 * j) 9 = nI x ∧ ¬ C.1 (13 + 3 * j) 14 = 0)) → rx_W G MX7_hasLock d 2 [(2, .int (nI i)), (0, .ref 4), (1, .int (nI x))] [] (gl C S) mc ms Q Z := by
  intro k
  induction k with
  | zero =>
    intro i hi hv
    have hi : i = N := by omega
    subst hi
    refine rx_iload_n dX7_hasLock_2 rfl ?_
    refine rx_aload_n dX7_hasLock_3 rfl rfl ?_
    refine gcv_getI (v := nI i) hG hf_RX7_60 rfl dX7_hasLock_4 rfl rfl rfl hN ?_
    refine rx_icmp_ge (tgt := 43) dX7_hasLock_7 (by decide) (fun _ => ?_) (fun h => absurd (by rw [nI_leI (by omega) (by omega)]; omega) h)
    refine rx_iconst (v := nI 0) dX7_hasLock_43 rfl ?_
    exact rx_zret rfl rfl dX7_hasLock_44 (hQ 0 (Or.inr ⟨rfl, hv⟩))
  | succ k ih =>
    intro i hi hv
    have hp : i < 10 := by omega
    refine rx_iload_n dX7_hasLock_2 rfl ?_
    refine rx_aload_n dX7_hasLock_3 rfl rfl ?_
    refine gcv_getI (v := nI N) hG hf_RX7_60 rfl dX7_hasLock_4 rfl rfl rfl hN ?_
    refine rx_icmp_ge (tgt := 43) dX7_hasLock_7 (by decide) (fun h => absurd h (by rw [nI_leI (by omega) (by omega)]; omega)) (fun h7 => ?_)
    refine rx_aload_n dX7_hasLock_10 rfl rfl ?_
    refine g_getR hG hf_RX7_41 rfl dX7_hasLock_11 rfl rfl rfl ?_
    refine rx_iload_n dX7_hasLock_14 rfl ?_
    refine g_aald hG dX7_hasLock_15 rfl rfl (by decide) rfl hp (by decide) (gkF_12 hp) ?_
    refine gcv_getI (v := C.1 (13 + 3 * i) 9) hG hf_RX7_160 rfl dX7_hasLock_16 (gkF_m hp) (gkF_f hp) (gkF_k hp) rfl ?_
    refine rx_iload_n dX7_hasLock_19 rfl ?_
    refine rx_icmp_ne (tgt := 37) dX7_hasLock_20 (by decide) (fun h20 => ?_) (fun h20 => ?_)
    · refine rx_iinc (v := nI (i + 1)) dX7_hasLock_37 rfl (nI_add _ 1) ?_
      refine rx_goto (tgt := 2) dX7_hasLock_40 (by decide) ?_
      refine rx_lv (lv' := [(2, .int (nI (i + 1))), (0, .ref 4), (1, .int (nI x))]) ⟨rfl, rfl, rfl, trivial⟩ ?_
      exact ih (i + 1) (by omega) (fun ⟨j, h1, h2⟩ => by by_cases e : j = i; (subst e; exact h20 h2.1); exact hv ⟨j, by omega, h2⟩)
    · refine rx_aload_n dX7_hasLock_23 rfl rfl ?_
      refine g_getR hG hf_RX7_41 rfl dX7_hasLock_24 rfl rfl rfl ?_
      refine rx_iload_n dX7_hasLock_27 rfl ?_
      refine g_aald hG dX7_hasLock_28 rfl rfl (by decide) rfl hp (by decide) (gkF_12 hp) ?_
      refine gcv_getI (v := C.1 (13 + 3 * i) 14) hG hf_RX7_163 rfl dX7_hasLock_29 (gkF_m hp) (gkF_f hp) (gkF_k hp) rfl ?_
      refine rx_if_eq (tgt := 37) dX7_hasLock_32 (by decide) (fun h32 => ?_) (fun h32 => ?_)
      · refine rx_iinc (v := nI (i + 1)) dX7_hasLock_37 rfl (nI_add _ 1) ?_
        refine rx_goto (tgt := 2) dX7_hasLock_40 (by decide) ?_
        refine rx_lv (lv' := [(2, .int (nI (i + 1))), (0, .ref 4), (1, .int (nI x))]) ⟨rfl, rfl, rfl, trivial⟩ ?_
        exact ih (i + 1) (by omega) (fun ⟨j, h1, h2⟩ => by by_cases e : j = i; (subst e; exact h2.2 h32); exact hv ⟨j, by omega, h2⟩)
      · refine rx_iconst (v := nI 1) dX7_hasLock_35 rfl ?_
        exact rx_zret rfl rfl dX7_hasLock_36 (hQ 1 (Or.inl ⟨rfl, i, by omega, h20, h32⟩))
theorem lc_hasFrame {G : rx_E} {d mc ms : Nat} {S : gs_T} {C : rx_M} {x N : Nat} {Q : Option Value → rx_M → Prop} {Z : String → rx_M → Prop} (hG : rx_OK G) (hN : C.1 4 5 = nI N) (hN10 : N ≤ 10) (hQ : ∀ r, ((r = 1 ∧ ∃ j, j < N ∧ (C.1 (13 + 3 * j) 9 = nI x)) ∨ (r = 0 ∧ ¬ ∃ j, j < N ∧ (C.1 (13 + 3 * j) 9 = nI x))) → Q (some (.int (nI r))) (gl C S)) : ∀ (k i : Nat), i + k = N → (¬ ∃ j, j < i ∧ (C.1 (13 + 3 * j) 9 = nI x)) → rx_W G MX7_hasFrame d 2 [(2, .int (nI i)), (0, .ref 4), (1, .int (nI x))] [] (gl C S) mc ms Q Z := by
  intro k
  induction k with
  | zero =>
    intro i hi hv
    have hi : i = N := by omega
    subst hi
    refine rx_iload_n dX7_hasFrame_2 rfl ?_
    refine rx_aload_n dX7_hasFrame_3 rfl rfl ?_
    refine gcv_getI (v := nI i) hG hf_RX7_60 rfl dX7_hasFrame_4 rfl rfl rfl hN ?_
    refine rx_icmp_ge (tgt := 31) dX7_hasFrame_7 (by decide) (fun _ => ?_) (fun h => absurd (by rw [nI_leI (by omega) (by omega)]; omega) h)
    refine rx_iconst (v := nI 0) dX7_hasFrame_31 rfl ?_
    exact rx_zret rfl rfl dX7_hasFrame_32 (hQ 0 (Or.inr ⟨rfl, hv⟩))
  | succ k ih =>
    intro i hi hv
    have hp : i < 10 := by omega
    refine rx_iload_n dX7_hasFrame_2 rfl ?_
    refine rx_aload_n dX7_hasFrame_3 rfl rfl ?_
    refine gcv_getI (v := nI N) hG hf_RX7_60 rfl dX7_hasFrame_4 rfl rfl rfl hN ?_
    refine rx_icmp_ge (tgt := 31) dX7_hasFrame_7 (by decide) (fun h => absurd h (by rw [nI_leI (by omega) (by omega)]; omega)) (fun h7 => ?_)
    refine rx_aload_n dX7_hasFrame_10 rfl rfl ?_
    refine g_getR hG hf_RX7_41 rfl dX7_hasFrame_11 rfl rfl rfl ?_
    refine rx_iload_n dX7_hasFrame_14 rfl ?_
    refine g_aald hG dX7_hasFrame_15 rfl rfl (by decide) rfl hp (by decide) (gkF_12 hp) ?_
    refine gcv_getI (v := C.1 (13 + 3 * i) 9) hG hf_RX7_160 rfl dX7_hasFrame_16 (gkF_m hp) (gkF_f hp) (gkF_k hp) rfl ?_
    refine rx_iload_n dX7_hasFrame_19 rfl ?_
    refine rx_icmp_ne (tgt := 25) dX7_hasFrame_20 (by decide) (fun h20 => ?_) (fun h20 => ?_)
    · refine rx_iinc (v := nI (i + 1)) dX7_hasFrame_25 rfl (nI_add _ 1) ?_
      refine rx_goto (tgt := 2) dX7_hasFrame_28 (by decide) ?_
      refine rx_lv (lv' := [(2, .int (nI (i + 1))), (0, .ref 4), (1, .int (nI x))]) ⟨rfl, rfl, rfl, trivial⟩ ?_
      exact ih (i + 1) (by omega) (fun ⟨j, h1, h2⟩ => by by_cases e : j = i; (subst e; exact h20 h2); exact hv ⟨j, by omega, h2⟩)
    · refine rx_iconst (v := nI 1) dX7_hasFrame_23 rfl ?_
      exact rx_zret rfl rfl dX7_hasFrame_24 (hQ 1 (Or.inl ⟨rfl, i, by omega, h20⟩))
theorem cc_hasLock {G : rx_E} {d : Nat} {S : gs_T} {K : Nat → Nat × Nat} {C0 C : rx_M} {g : vg_T} {bs od : Nat} {n : Nat → Int64} {e : List (Nat × Int64 × Int64)} {b m : Nat} {gs : List vf_T} {z : Int32} (hG : rx_OK G) (hY : rc_Y K C0 C g bs od (n, e, b, gs, m) z) {x : Nat} (hx : x < 32) (hN10 : gs.length ≤ 10) (hs : ∀ f ∈ gs, fS f < 32) : rx_C G MX7_hasLock d [.ref 4, .int (nI x)] (gl C S) 0 0 (fun v mu => (∃ r, ((r = 1 ∧ vm_locked gs (lN x)) ∨ (r = 0 ∧ ¬ vm_locked gs (lN x))) ∧ v = some (.int (nI r))) ∧ mu = gl C S) := by
  have hex : (∃ j, j < gs.length ∧ (C.1 (13 + 3 * j) 9 = nI x ∧ ¬ C.1 (13 + 3 * j) 14 = 0)) ↔ vm_locked gs (lN x) := rc_Fs_ex hY.1.2.2.2.2.1.2 (fun j f hf hF => by
    have := hs f hf
    rw [hF.1.2.2.2.1, hF.2.2.1.2, nI_eq (by omega) (by omega)]; constructor; (rintro ⟨h1, h2⟩; exact ⟨(bI_ne _).mp h2, by rw [h1]⟩); (rintro ⟨h1, h2⟩; exact ⟨by rw [lN_eq (by omega) (by omega)] at h2; exact h2.symm, (bI_ne _).mpr h1⟩))
  refine rx_meth0 (by decide +kernel) rfl (Nat.le_of_ble_eq_true rfl) ?_
  refine rx_iconst (v := nI 0) dX7_hasLock_0 rfl ?_
  refine rx_istore_n dX7_hasLock_1 (by decide) ?_
  refine rx_lv (lv' := [(2, .int (nI 0)), (0, .ref 4), (1, .int (nI x))]) ⟨rfl, rfl, rfl, trivial⟩ ?_
  refine lc_hasLock hG (rc_dep' hY) hN10 (fun r hr => ⟨⟨r, ?_, rfl⟩, rfl⟩) gs.length 0 (by omega) (fun ⟨j, h, _⟩ => by omega)
  rw [hex] at hr
  exact hr
theorem cc_hasFrame {G : rx_E} {d : Nat} {S : gs_T} {K : Nat → Nat × Nat} {C0 C : rx_M} {g : vg_T} {bs od : Nat} {n : Nat → Int64} {e : List (Nat × Int64 × Int64)} {b m : Nat} {gs : List vf_T} {z : Int32} (hG : rx_OK G) (hY : rc_Y K C0 C g bs od (n, e, b, gs, m) z) {x : Nat} (hx : x < 32) (hN10 : gs.length ≤ 10) (hs : ∀ f ∈ gs, fS f < 32) : rx_C G MX7_hasFrame d [.ref 4, .int (nI x)] (gl C S) 0 0 (fun v mu => (∃ r, ((r = 1 ∧ (∃ f ∈ gs, fS f = x)) ∨ (r = 0 ∧ ¬ (∃ f ∈ gs, fS f = x))) ∧ v = some (.int (nI r))) ∧ mu = gl C S) := by
  have hex : (∃ j, j < gs.length ∧ (C.1 (13 + 3 * j) 9 = nI x)) ↔ (∃ f ∈ gs, fS f = x) := rc_Fs_ex hY.1.2.2.2.2.1.2 (fun j f hf hF => by
    have := hs f hf
    rw [hF.1.2.2.2.1, nI_eq (by omega) (by omega)])
  refine rx_meth0 (by decide +kernel) rfl (Nat.le_of_ble_eq_true rfl) ?_
  refine rx_iconst (v := nI 0) dX7_hasFrame_0 rfl ?_
  refine rx_istore_n dX7_hasFrame_1 (by decide) ?_
  refine rx_lv (lv' := [(2, .int (nI 0)), (0, .ref 4), (1, .int (nI x))]) ⟨rfl, rfl, rfl, trivial⟩ ?_
  refine lc_hasFrame hG (rc_dep' hY) hN10 (fun r hr => ⟨⟨r, ?_, rfl⟩, rfl⟩) gs.length 0 (by omega) (fun ⟨j, h, _⟩ => by omega)
  rw [hex] at hr
  exact hr

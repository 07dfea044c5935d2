/-- a frame's cells but for what was before it -/
def rc_B (K : Nat → Nat × Nat) (C : rx_M) (p : Nat) (f : vf_T) : Prop :=
  (C.2.2.1 (13 + 3 * p) 5 = some (K (fC f)).1 ∧ C.1 (13 + 3 * p) 6 = nI (fA f) ∧ C.1 (13 + 3 * p) 8 = nI (fG f) ∧ C.1 (13 + 3 * p) 9 = nI (fS f) ∧ C.1 (13 + 3 * p) 10 = nI (fK f)) ∧ (C.2.1 (13 + 3 * p) 11 = fV f ∧ C.2.1 (13 + 3 * p) 12 = fR f) ∧ (C.1 (13 + 3 * p) 13 = bI (fL f) ∧ C.1 (13 + 3 * p) 14 = bI (fO f)) ∧ ((fT f).length ≤ 24 ∧ C.1 (13 + 3 * p) 4 = nI (fT f).length ∧ rc_T C p (fT f))
theorem ne1513 {p : Nat} : (13 + 3 * p = 15 + 3 * p) = False := eq_false (by omega)
theorem ne1113 {p : Nat} : (11 = 13 + 3 * p) = False := eq_false (by omega)
theorem ne815 {p : Nat} : (8 = 15 + 3 * p) = False := eq_false (by omega)
theorem rcY_abv {K : Nat → Nat × Nat} {C0 C C' : rx_M} {g : vg_T} {bs od : Nat} {n : Nat → Int64} {e : List (Nat × Int64 × Int64)} {b m : Nat} {gs : List vf_T} {z : Int32} (h : rc_Y K C0 C g bs od (n, e, b, gs, m) z) (hn : rc_near C C' gs.length) : rc_Y K C0 C' g bs od (n, e, b, gs, m) (C'.1 (13 + 3 * (gs.length - 1)) 7) := ⟨rcY_above h.1 hn, rc_rest_near h.2.1 hn, rfl⟩
theorem rcY_up {K : Nat → Nat × Nat} {C0 C : rx_M} {g : vg_T} {bs od : Nat} {n : Nat → Int64} {e : List (Nat × Int64 × Int64)} {b m : Nat} {gs : List vf_T} {f : vf_T} {z : Int32} (h : rc_Y K C0 C g bs od (n, e, b, gs, m) z) (hf : rc_F K C bs gs.length f) : rc_Y K C0 (rx_u (rx_u C.1 4 5 (nI (gs.length + 1))) 4 9 (nI (m + 1)), C.2) g bs od (n, e, b, f :: gs, m + 1) (C.1 (13 + 3 * gs.length) 7) := by
  obtain ⟨⟨h1, h2, ⟨h3, h4, h5⟩, h6, ⟨h7, h8⟩, h9⟩, ⟨r1, r2, r3, r4⟩, hz⟩ := h
  have hu : ∀ a, a ≠ 4 → rx_u (rx_u C.1 4 5 (nI (gs.length + 1))) 4 9 (nI (m + 1)) a = C.1 a := fun a ha => by rw [rx_une _ ha, rx_une _ ha]
  refine ⟨⟨rc_G_congr h1 (fun a ha => hu a (by omega)) (fun _ _ => rfl) rfl rfl (congrFun (hu 5 (by decide)) 1) (by simp [rx_ru]) (by simp [rx_ru]), h2, ⟨(congrFun (hu 9 (by decide)) 1).trans h3, (congrFun (hu 9 (by decide)) 2).trans h4, rc_E_congr (C := C) (fun j _ => rfl) h5⟩, by simpa [rx_ru] using h6, ⟨by simp [rx_ru], rc_F_congr (C := C) (hu _ (by omega)) rfl rfl rfl rfl hf, rc_Fs_congr (C := C) (fun a ha ha2 => ⟨hu a (by omega), rfl, rfl⟩) h8⟩, by simp [rx_ru]⟩, ⟨fun a ha => ⟨(hu a (by omega)).trans (r1 a ha).1, (r1 a ha).2⟩, r2, r3, r4⟩, ?_⟩
  show rx_u (rx_u C.1 4 5 (nI (gs.length + 1))) 4 9 (nI (m + 1)) (13 + 3 * (gs.length + 1 - 1)) 7 = _
  rw [hu _ (by omega), Nat.add_sub_cancel]
theorem cc_fbegin {G : rx_E} {d : Nat} {S : gs_T} {K : Nat → Nat × Nat} {C : rx_M} {p c q x cl : Nat} {vl ar : Int64} {l : Bool} {w : (Nat → Int64) × Nat × Nat} (hG : rx_OK G) (hp : p < 10) (hc : rc_call C cl (lN x) vl ar q l) : rx_C G MX6_begin d [.ref (13 + 3 * p), .ref 11, .ref (K c).1] (gl C S) 0 0 (fun vv mu => vv = none ∧ ∃ C', mu = gl C' S ∧ rc_near C C' p ∧ rc_B K C' p ((c, 0, q, x, cl), (vl, ar), (l, false), [], w)) := by
  refine rx_meth0 (by decide +kernel) rfl (Nat.le_of_ble_eq_true rfl) ?_
  refine rx_aload_n dX6_begin_0 rfl rfl ?_
  refine rx_aload_n dX6_begin_1 rfl rfl ?_
  refine gc_putR hG hf_RX6_18 (gw_nf rfl rfl) ⟨.int, Or.inr ⟨_, rfl⟩⟩ dX6_begin_2 (gkF_f hp) (gkF_k hp) (gkF_r5 hp) ?_
  refine rx_aload_n dX6_begin_5 rfl rfl ?_
  refine rx_aload_n dX6_begin_6 rfl rfl ?_
  refine gcv_getL (v := lN x) hG hf_RX6_22 rfl dX6_begin_7 rfl rfl rfl (by simpa [rx_ru, ne1113] using hc.2.1) ?_
  refine rx_l2i dX6_begin_10 ?_
  refine rx_ti (y := nI x) (lN_i _) ?_
  refine gc_putI hG hf_RX6_28 (gw_nf rfl rfl) rfl dX6_begin_11 (gkF_m hp) (gkF_f hp) (gkF_k hp) rfl rfl ?_
  refine rx_aload_n dX6_begin_14 rfl rfl ?_
  refine rx_aload_n dX6_begin_15 rfl rfl ?_
  refine gcv_getI (v := nI cl) hG hf_RX6_32 rfl dX6_begin_16 rfl rfl rfl (by simpa [rx_ru, ne1113] using hc.1) ?_
  refine gc_putI hG hf_RX6_35 (gw_nf rfl rfl) rfl dX6_begin_19 (gkF_m hp) (gkF_f hp) (gkF_k hp) rfl rfl ?_
  refine rx_aload_n dX6_begin_22 rfl rfl ?_
  refine rx_aload_n dX6_begin_23 rfl rfl ?_
  refine gcv_getL (v := vl) hG hf_RX6_36 rfl dX6_begin_24 rfl rfl rfl (by simpa [rx_ru, ne1113] using hc.2.2.1) ?_
  refine gc_putL hG hf_RX6_39 (gw_nf rfl rfl) dX6_begin_27 (gkF_m hp) (gkF_f hp) (gkF_k hp) ?_
  refine rx_aload_n dX6_begin_30 rfl rfl ?_
  refine rx_aload_n dX6_begin_31 rfl rfl ?_
  refine gcv_getL (v := ar) hG hf_RX6_40 rfl dX6_begin_32 rfl rfl rfl (by simpa [rx_ru, ne1113] using hc.2.2.2.1) ?_
  refine gc_putL hG hf_RX6_43 (gw_nf rfl rfl) dX6_begin_35 (gkF_m hp) (gkF_f hp) (gkF_k hp) ?_
  refine rx_aload_n dX6_begin_38 rfl rfl ?_
  refine rx_aload_n dX6_begin_39 rfl rfl ?_
  refine gcv_getI (v := nI q) hG hf_RX6_44 rfl dX6_begin_40 rfl rfl rfl (by simpa [rx_ru, ne1113] using hc.2.2.2.2.1) ?_
  refine gc_putI hG hf_RX6_47 (gw_nf rfl rfl) rfl dX6_begin_43 (gkF_m hp) (gkF_f hp) (gkF_k hp) rfl rfl ?_
  refine rx_aload_n dX6_begin_46 rfl rfl ?_
  refine rx_aload_n dX6_begin_47 rfl rfl ?_
  refine gcv_getI (v := bI l) hG hf_RX6_48 rfl dX6_begin_48 rfl rfl rfl (by simpa [rx_ru, ne1113] using hc.2.2.2.2.2) ?_
  refine gc_putI hG hf_RX6_52 (gw_nf rfl rfl) rfl dX6_begin_51 (gkF_m hp) (gkF_f hp) (gkF_k hp) (bI_nar l) (bI_fit l) ?_
  refine rx_aload_n dX6_begin_54 rfl rfl ?_
  refine rx_iconst (v := nI 0) dX6_begin_55 rfl ?_
  refine gc_putI hG hf_RX6_53 (gw_nf rfl rfl) rfl dX6_begin_56 (gkF_m hp) (gkF_f hp) (gkF_k hp) rfl rfl ?_
  refine rx_aload_n dX6_begin_59 rfl rfl ?_
  refine rx_iconst (v := nI 0) dX6_begin_60 rfl ?_
  refine gc_putI hG hf_RX6_56 (gw_nf rfl rfl) rfl dX6_begin_61 (gkF_m hp) (gkF_f hp) (gkF_k hp) rfl rfl ?_
  refine rx_aload_n dX6_begin_64 rfl rfl ?_
  refine rx_iconst (v := nI 0) dX6_begin_65 rfl ?_
  refine gc_putI hG hf_RX6_59 (gw_nf rfl rfl) rfl dX6_begin_66 (gkF_m hp) (gkF_f hp) (gkF_k hp) rfl rfl ?_
  refine rx_vret rfl dX6_begin_69 ⟨rfl, _, rfl, (rc_near_I (rc_near_I (rc_near_I (rc_near_I (rc_near_I (rc_near_L (rc_near_L (rc_near_I (rc_near_I (rc_near_R rc_near_refl (by omega) (by omega)) (by omega) (by omega)) (by omega) (by omega)) (by omega) (by omega)) (by omega) (by omega)) (by omega) (by omega)) (by omega) (by omega)) (by omega) (by omega)) (by omega) (by omega)) (by omega) (by omega)), ⟨⟨by simp [rx_ru], by simp [rx_ru], by simp [rx_ru], by simp [rx_ru], by simp [rx_ru]⟩, ⟨by simp [rx_ru], by simp [rx_ru]⟩, ⟨by simp [rx_ru], by simp [rx_ru, bI]⟩, ⟨Nat.zero_le _, (by show rx_u _ _ _ _ _ 4 = nI 0; simp [rx_ru]), trivial⟩⟩⟩
theorem rc_B_1 {K : Nat → Nat × Nat} {C : rx_M} {bs p c q x cl : Nat} {vl ar : Int64} {w w' : (Nat → Int64) × Nat × Nat} (h : rc_B K C p ((c, 0, q, x, cl), (vl, ar), (true, false), [], w)) : rc_F K C bs p ((c, 0, q, x, cl), (vl, ar), (true, false), [], w') := ⟨h.1, h.2.1, h.2.2.1, h.2.2.2, fun hl => absurd (show true = false from hl) (by decide)⟩
theorem cc_remember {G : rx_E} {d : Nat} {S : gs_T} {K : Nat → Nat × Nat} {C0 C : rx_M} {g : vg_T} {bs od : Nat} {n : Nat → Int64} {e : List (Nat × Int64 × Int64)} {b m : Nat} {gs : List vf_T} {z : Int32} (hG : rx_OK G) (hY : rc_Y K C0 C g bs od (n, e, b, gs, m) z) {c q x cl : Nat} {vl ar : Int64} {l : Bool} {w : (Nat → Int64) × Nat × Nat} (hp : gs.length < 10) (hB : rc_B K C gs.length ((c, 0, q, x, cl), (vl, ar), (l, false), [], w)) : rx_C G MX7_remember (d + 2) [.ref 4, .ref (13 + 3 * gs.length)] (gl C S) 0 0 (fun vv mu => vv = none ∧ ∃ C', mu = gl C' S ∧ rc_near C C' gs.length ∧ C'.1 11 = C.1 11 ∧ C'.2.1 11 = C.2.1 11 ∧ rc_F K C' bs gs.length ((c, 0, q, x, cl), (vl, ar), (l, false), [], (n, e.length, b))) := by
  refine rx_meth0 (by decide +kernel) rfl (Nat.le_of_ble_eq_true rfl) ?_
  refine rx_aload_n dX7_remember_0 rfl rfl ?_
  cases l
  · refine gcv_getI (v := nI 0) hG hf_RX7_92 rfl dX7_remember_1 (gkF_m hp) (gkF_f hp) (gkF_k hp) hB.2.2.1.1 ?_
    refine rx_if_ne (tgt := 37) dX7_remember_4 (by decide) (fun h4 => absurd h4 (by decide)) (fun h4 => ?_)
    refine rx_aload_n dX7_remember_7 rfl rfl ?_
    refine g_getR hG hf_RX7_21 rfl dX7_remember_8 rfl rfl rfl ?_
    refine rx_aload_n dX7_remember_11 rfl rfl ?_
    refine g_getR hG hf_RX7_165 rfl dX7_remember_12 (gkF_f hp) (gkF_k hp) (gkF_r1 hp) ?_
    refine gv_invV (as := [.ref _]) hG okX9_saveTo lk_RX7_169 rfl rfl dX7_remember_15 rfl (by simp [Value.category]) (cs_saveTo hG (gkL_m hp) (gkL_f hp) (gkL_k hp)) ?_
    rintro _ _ ⟨rfl, rfl⟩
    refine rx_aload_n dX7_remember_18 rfl rfl ?_
    refine rx_aload_n dX7_remember_19 rfl rfl ?_
    refine g_getR hG hf_RX7_28 rfl dX7_remember_20 rfl rfl rfl ?_
    refine gcv_getI (v := nI (bs + e.length)) hG hf_RX7_172 rfl dX7_remember_23 rfl rfl rfl (show C.1 9 1 = _ from rc_ev hY) ?_
    refine gc_putI hG hf_RX7_175 (gw_nf rfl rfl) rfl dX7_remember_26 (gkF_m hp) (gkF_f hp) (gkF_k hp) rfl rfl ?_
    refine rx_aload_n dX7_remember_29 rfl rfl ?_
    refine rx_aload_n dX7_remember_30 rfl rfl ?_
    refine gcv_getI (v := nI b) hG hf_RX7_63 rfl dX7_remember_31 rfl rfl rfl (by simpa [rx_ru] using rc_back hY) ?_
    refine gc_putI hG hf_RX7_178 (gw_nf rfl rfl) rfl dX7_remember_34 (gkF_m hp) (gkF_f hp) (gkF_k hp) rfl rfl ?_
    refine rx_vret rfl dX7_remember_37 ⟨rfl, _, rfl, rc_near_I (rc_near_I (rc_near_k rc_near_refl (by omega) (by omega)) (by omega) (by omega)) (by omega) (by omega), ?_, ?_, ?_⟩
    · show rx_u (rx_u C.1 _ _ _) _ _ _ 11 = _
      rw [rx_une _ (by omega), rx_une _ (by omega)]
    · show rx_k1 C.2.1 _ _ 11 = _
      unfold rx_k1; rw [if_neg (by omega)]
    · obtain ⟨⟨b1, b2, b3, b4, b5⟩, ⟨b6, b7⟩, ⟨b8, b9⟩, b10, b11, b12⟩ := hB
      refine ⟨⟨b1, by simpa [rx_ru] using b2, by simpa [rx_ru] using b3, by simpa [rx_ru] using b4, by simpa [rx_ru] using b5⟩, ⟨by simpa [rx_k1, ne1513] using b6, by simpa [rx_k1, ne1513] using b7⟩, ⟨by simpa [rx_ru] using b8, by simpa [rx_ru] using b9⟩, ⟨b10, by simpa [rx_ru] using b11, trivial⟩, fun _ => ⟨fun k hk => ?_, by simp [rx_ru], by simp [rx_ru]⟩⟩
      show rx_k1 C.2.1 _ _ (15 + 3 * gs.length) k = lf n k
      unfold rx_k1
      rw [if_pos rfl, pk_cpy_in (by omega) (by omega), show 0 + (k - 0) = k by omega]
      exact rc_now hY hk
  · refine gcv_getI (v := nI 1) hG hf_RX7_92 rfl dX7_remember_1 (gkF_m hp) (gkF_f hp) (gkF_k hp) hB.2.2.1.1 ?_
    refine rx_if_ne (tgt := 37) dX7_remember_4 (by decide) (fun h4 => ?_) (fun h4 => absurd h4 (by decide))
    exact rx_vret rfl dX7_remember_37 ⟨rfl, _, rfl, rc_near_refl, rfl, rfl, rc_B_1 hB⟩
theorem gk6 : ∀ {j : Nat}, j < 16 → gk_R 6 j = none := by decide
set_option maxHeartbeats 1000000 in
theorem cc_begin {G : rx_E} {d : Nat} {S : gs_T} {K : Nat → Nat × Nat} {C0 C : rx_M} {g : vg_T} {bs od : Nat} {n : Nat → Int64} {e : List (Nat × Int64 × Int64)} {b m : Nat} {gs : List vf_T} {z : Int32} (hG : rx_OK G) (hY : rc_Y K C0 C g bs od (n, e, b, gs, m) z) {cl q : Nat} {to vl ar : Int64} {l : Bool} (hc : rc_call C cl to vl ar q l) (hcl : cl < 32) (hl10 : gs.length ≤ 10) (hs : ∀ f ∈ gs, fS f < 32) (hlow : vw_low gs) (hsum : vw_sum gs + q ≤ 30001) (hcod : vw_codes g n) (hg : g.2.1 ≤ 16) : rx_C G MX7_begin (d + 3) [.ref 4] (gl C S) 0 0 (rc_res S K C0 g bs od (vm_begin (n, e, b, gs, m) cl to vl ar q l)) := by
  refine rx_meth0 (by decide +kernel) rfl (Nat.le_of_ble_eq_true rfl) ?_
  refine rx_aload_n dX7_begin_0 rfl rfl ?_
  refine gv_invV (as := []) hG okX7_fails lk_RX7_107 rfl rfl dX7_begin_1 rfl (by simp [Value.category]) (cc_fails hG hY hc hcl hl10 hs) ?_
  rintro _ _ ⟨⟨r, hr, rfl⟩, rfl⟩
  rcases hr with ⟨rfl, hf⟩ | ⟨rfl, hf⟩
  · skip
    refine rx_if_eq (tgt := 21) dX7_begin_4 (by decide) (fun h4 => (absurd h4 (by decide))) (fun h4 => ?_)
    refine rx_aload_n dX7_begin_7 rfl rfl ?_
    refine rx_iconst (v := nI 2) dX7_begin_8 rfl ?_
    refine rx_lconst (v := 0) dX7_begin_9 rfl ?_
    refine rx_aload_n dX7_begin_10 rfl rfl ?_
    refine g_getR hG hf_RX7_35 rfl dX7_begin_11 rfl rfl rfl ?_
    refine gcv_getI (v := nI q) hG hf_RX7_111 rfl dX7_begin_14 rfl rfl rfl hc.2.2.2.2.1 ?_
    refine gv_invV (as := [.int _, .long _, .int _]) hG okX7_end lk_RX7_114 rfl rfl dX7_begin_17 rfl (by simp [Value.category]) (cc_end hG hlow hl10 hsum (by decide) hY) ?_
    intro _ _ hres
    obtain ⟨rfl, hres⟩ := hres
    exact rx_vret rfl dX7_begin_20 ⟨rfl, by rw [vm_notacct (X := (n, e, b, gs, m)) hf]; exact hres⟩
  · have hac : vm_acct to := Classical.byContradiction fun h => hf (Or.inl h)
    obtain ⟨x, hx, rfl⟩ := lN_acct hac
    have hp : gs.length < 10 := by have h1 : gs.length ≠ 10 := fun h => hf (Or.inr (Or.inr (Or.inr (Or.inr h)))); omega
    obtain ⟨c, hcg, hcn⟩ := hcod x hx
    refine rx_if_eq (tgt := 21) dX7_begin_4 (by decide) (fun h4 => ?_) (fun h4 => (absurd h4 (by decide))) 
    refine rx_aload_n dX7_begin_21 rfl rfl ?_
    refine g_getR hG hf_RX7_35 rfl dX7_begin_22 rfl rfl rfl ?_
    refine gcv_getL (v := lN x) hG hf_RX7_118 rfl dX7_begin_25 rfl rfl rfl hc.2.1 ?_
    refine rx_l2i dX7_begin_28 ?_
    refine rx_ti (y := nI x) (lN_i _) ?_
    refine rx_istore_n dX7_begin_29 (by decide) ?_
    refine rx_aload_n dX7_begin_30 rfl rfl ?_
    refine g_getR hG hf_RX7_21 rfl dX7_begin_31 rfl rfl rfl ?_
    refine rx_iload_n dX7_begin_34 rfl ?_
    refine gv_invV (as := [.int _]) hG okX9_codeOf lk_RX7_122 rfl rfl dX7_begin_35 rfl (by simp [Value.category]) (cs_codeE hG hY hx) ?_
    rintro _ _ ⟨rfl, rfl⟩
    refine rx_lstore_n dX7_begin_38 (by decide) ?_
    refine rx_aload_n dX7_begin_39 rfl rfl ?_
    refine g_getR hG hf_RX7_12 rfl dX7_begin_40 rfl rfl rfl ?_
    refine rx_lload_n dX7_begin_43 rfl ?_
    refine gv_invV (as := [.long _]) hG okX3_has lk_RX7_126 rfl rfl dX7_begin_44 rfl (by simp [Value.category]) (cc_has hG (rc_many hY) hg) ?_
    rintro _ _ ⟨⟨r, hr, rfl⟩, rfl⟩
    have hN2 : (up1 (up1 n (19 * cl) (n (19 * cl) - vl)) (19 * x) ((up1 n (19 * cl) (n (19 * cl) - vl)) (19 * x) + vl)) (19 * x + 2) = lN c := by unfold up1; rw [if_neg (by omega), if_neg (by omega)]; exact hcn
    by_cases hc0 : c = 0
    · subst hc0
      rcases hr with ⟨rfl, h1, h2⟩ | ⟨rfl, -⟩
      · rw [hcn] at h1; exact absurd (by decide : (lN 0 - 1 : Int64) < 0) h1
      refine rx_if_ne (tgt := 86) dX7_begin_47 (by decide) (fun h47 => (absurd h47 (by decide))) (fun h47 => ?_)
      refine rx_aload_n dX7_begin_50 rfl rfl ?_
      refine g_getR hG hf_RX7_21 rfl dX7_begin_51 rfl rfl rfl ?_
      refine rx_aload_n dX7_begin_54 rfl rfl ?_
      refine g_getR hG hf_RX7_35 rfl dX7_begin_55 rfl rfl rfl ?_
      refine gcv_getI (v := nI cl) hG hf_RX7_130 rfl dX7_begin_58 rfl rfl rfl hc.1 ?_
      refine rx_iload_n dX7_begin_61 rfl ?_
      refine rx_aload_n dX7_begin_62 rfl rfl ?_
      refine g_getR hG hf_RX7_35 rfl dX7_begin_63 rfl rfl rfl ?_
      refine gcv_getL (v := vl) hG hf_RX7_133 rfl dX7_begin_66 rfl rfl rfl hc.2.2.1 ?_
      refine gv_invV (as := [.int _, .int _, .long _]) hG okX9_move lk_RX7_136 rfl rfl dX7_begin_69 rfl (by simp [Value.category]) (cs_moveE hG hY hcl hx) ?_
      rintro _ _ ⟨rfl, C1, rfl, hY1, hst⟩
      have hq2 : C1.1 11 4 = nI q := by rw [hst.1]; exact hc.2.2.2.2.1
      refine rx_aload_n dX7_begin_72 rfl rfl ?_
      refine rx_iconst (v := nI 1) dX7_begin_73 rfl ?_
      refine rx_lconst (v := 0) dX7_begin_74 rfl ?_
      refine rx_aload_n dX7_begin_75 rfl rfl ?_
      refine g_getR hG hf_RX7_35 rfl dX7_begin_76 rfl rfl rfl ?_
      refine gcv_getI (v := nI q) hG hf_RX7_111 rfl dX7_begin_79 rfl rfl rfl hq2 ?_
      refine gv_invV (as := [.int _, .long _, .int _]) hG okX7_end lk_RX7_114 rfl rfl dX7_begin_82 rfl (by simp [Value.category]) (cc_end hG hlow hl10 hsum (by decide) hY1) ?_
      intro _ _ hres
      obtain ⟨rfl, hres⟩ := hres
      exact rx_vret rfl dX7_begin_85 ⟨rfl, by rw [vm_begunW (X := (n, e, b, gs, m)) hx hf hN2]; exact hres⟩
    · have hcm : n (19 * x + 2) - 1 = lN (c - 1) := by rw [hcn]; exact lN_sub (b := 1) (by omega)
      rcases hr with ⟨rfl, -⟩ | ⟨rfl, h1⟩
      rotate_left
      · exfalso
        rw [hcm] at h1
        rcases h1 with h1 | h1
        · rw [show (0 : Int64) = lN 0 from rfl, lN_lt (by omega) (by omega)] at h1; omega
        · rw [lN_le (by omega) (by omega)] at h1; omega
      refine rx_if_ne (tgt := 86) dX7_begin_47 (by decide) (fun h47 => ?_) (fun h47 => absurd h47 (by decide))
      refine rx_aload_n dX7_begin_86 rfl rfl ?_
      refine g_getR hG hf_RX7_41 rfl dX7_begin_87 rfl rfl rfl ?_
      refine rx_aload_n dX7_begin_90 rfl rfl ?_
      refine gcv_getI (v := nI gs.length) hG hf_RX7_60 rfl dX7_begin_91 rfl rfl rfl (rc_dep' hY) ?_
      refine g_aald hG dX7_begin_94 rfl rfl (by decide) rfl hp (by decide) (gkF_12 hp) ?_
      refine rx_astore dX7_begin_95 (by decide) rfl ?_
      refine rx_aload dX7_begin_97 rfl rfl ?_
      refine rx_aload_n dX7_begin_99 rfl rfl ?_
      refine g_getR hG hf_RX7_35 rfl dX7_begin_100 rfl rfl rfl ?_
      refine rx_aload_n dX7_begin_103 rfl rfl ?_
      refine g_getR hG hf_RX7_12 rfl dX7_begin_104 rfl rfl rfl ?_
      refine g_getR hG hf_RX7_140 rfl dX7_begin_107 rfl rfl rfl ?_
      refine rx_lload_n dX7_begin_110 rfl ?_
      refine rx_l2i dX7_begin_111 ?_
      refine rx_ti (y := nI (c - 1)) (by rw [hcm]; exact lN_i _) ?_
      refine gd_aald hG dX7_begin_112 rfl rfl (by decide) rfl (show c - 1 < 16 by omega) (by decide) (gk6 (by omega)) (rc_cod hY (j := c - 1) (by omega)).1 ?_
      refine gv_invV (as := [.ref _, .ref _]) hG okX6_begin lk_RX7_144 (gkF_f hp) (gkF_k hp) dX7_begin_113 rfl (by simp [Value.category]) (cc_fbegin (K := K) (c := c - 1) (w := (n, 0, 0)) hG hp hc) ?_
      rintro _ _ ⟨rfl, C1, rfl, hn1, hB⟩
      have hY1 := rcY_abv hY hn1
      refine rx_aload_n dX7_begin_116 rfl rfl ?_
      refine rx_aload dX7_begin_117 rfl rfl ?_
      refine gv_invV (as := [.ref _]) hG okX7_remember lk_RX7_147 rfl rfl dX7_begin_119 rfl (by simp [Value.category]) (cc_remember hG hY1 hp hB) ?_
      rintro _ _ ⟨rfl, C2, rfl, hn2, h2I, h2L, hF⟩
      have hY2 := rcY_abv hY1 hn2
      have k1 : C2.1 11 = C.1 11 := h2I.trans (hn1.1 11 (by omega)).1
      have k2 : C2.2.1 11 = C.2.1 11 := h2L.trans (hn1.1 11 (by omega)).2.1
      refine rx_aload_n dX7_begin_122 rfl rfl ?_
      refine g_getR hG hf_RX7_21 rfl dX7_begin_123 rfl rfl rfl ?_
      refine rx_aload_n dX7_begin_126 rfl rfl ?_
      refine g_getR hG hf_RX7_35 rfl dX7_begin_127 rfl rfl rfl ?_
      refine gcv_getI (v := nI cl) hG hf_RX7_130 rfl dX7_begin_130 rfl rfl rfl (by rw [k1]; exact hc.1) ?_
      refine rx_iload_n dX7_begin_133 rfl ?_
      refine rx_aload_n dX7_begin_134 rfl rfl ?_
      refine g_getR hG hf_RX7_35 rfl dX7_begin_135 rfl rfl rfl ?_
      refine gcv_getL (v := vl) hG hf_RX7_133 rfl dX7_begin_138 rfl rfl rfl (by rw [k2]; exact hc.2.2.1) ?_
      refine gv_invV (as := [.int _, .int _, .long _]) hG okX9_move lk_RX7_136 rfl rfl dX7_begin_141 rfl (by simp [Value.category]) (cs_moveE hG hY2 hcl hx) ?_
      rintro _ _ ⟨rfl, C3, rfl, hY3, hst⟩
      have hF3 : rc_F K C3 bs gs.length _ := rc_F_congr (C := C2) (by rw [hst.1]) (hst.2.1 _ (by omega)) (by rw [hst.2.2]) (hst.2.1 _ (by omega)) (hst.2.1 _ (by omega)) hF
      refine rx_aload_n dX7_begin_144 rfl rfl ?_
      refine rx_dup dX7_begin_145 rfl ?_
      refine gcv_getI (v := nI gs.length) hG hf_RX7_60 rfl dX7_begin_146 rfl rfl rfl (rc_dep' hY3) ?_
      refine rx_iconst (v := nI 1) dX7_begin_149 rfl ?_
      refine rx_iadd dX7_begin_150 ?_
      refine rx_ti (y := nI (gs.length + 1)) ((nI_add _ _).trans (congrArg nI (by omega))) ?_
      refine gc_putI hG hf_RX7_60 (gw_nf rfl rfl) rfl dX7_begin_151 rfl rfl rfl rfl rfl ?_
      refine rx_aload_n dX7_begin_154 rfl rfl ?_
      refine rx_dup dX7_begin_155 rfl ?_
      refine gcv_getI (v := nI m) hG hf_RX7_66 rfl dX7_begin_156 rfl rfl rfl (by simpa [rx_ru] using rc_run hY3) ?_
      refine rx_iconst (v := nI 1) dX7_begin_159 rfl ?_
      refine rx_iadd dX7_begin_160 ?_
      refine rx_ti (y := nI (m + 1)) ((nI_add _ _).trans (congrArg nI (by omega))) ?_
      refine gc_putI hG hf_RX7_66 (gw_nf rfl rfl) rfl dX7_begin_161 rfl rfl rfl rfl rfl ?_
      have hY4 := rcY_up hY3 hF3
      have hne : ¬ (up1 (up1 n (19 * cl) (n (19 * cl) - vl)) (19 * x) ((up1 n (19 * cl) (n (19 * cl) - vl)) (19 * x) + vl)) (19 * x + 2) = 0 := by rw [hN2, show (0 : Int64) = lN 0 from rfl, lN_eq (by omega) (by omega)]; exact hc0
      refine rx_vret rfl dX7_begin_164 ⟨rfl, _, rfl, ?_, ?_⟩
      · rw [vm_begunF (X := (n, e, b, gs, m)) hx hf hne]
        rw [hN2, lN_toNat (by omega)]
        exact ⟨_, hY4⟩
      · rw [vm_begunF (X := (n, e, b, gs, m)) hx hf hne]
        intro _ _ _ h; exact absurd h (by simp)

/-- a whole call of the class has ended -/
def rcq_E (S : gs_T) (K : Nat → Nat × Nat) (C0 : rx_M) (g : vg_T) (bs od : Nat) (R : vx_S × Option (Nat × Int64 × Nat)) (v : Option Value) (mu : rx_M) : Prop := v = none ∧ ∃ C' X' how x gas, mu = gl C' S ∧ R = (X', some (how, x, gas)) ∧ vw_E g X' how gas ∧ rc_U K C0 C' g bs od X' ∧ rc_fin C' how x gas
theorem rc_room {K : Nat → Nat × Nat} {C0 C : rx_M} {g : vg_T} {bs od : Nat} {X : vx_S} {z : Int32} (hY : rc_Y K C0 C g bs od X z) : ∀ f fs', X.2.2.2.1 = f :: fs' → (fT f).length ≤ 24 := by
  intro f fs' h
  have h1 := hY.1.2.2.2.2.1.2
  rw [h] at h1
  exact h1.1.2.2.2.1.1
theorem lc_body2 {G : rx_E} {d mc ms : Nat} {S : gs_T} {K : Nat → Nat × Nat} {C0 : rx_M} {g : vg_T} {bs od : Nat} {C : rx_M} {X : vx_S} {z : Int32} {i : Nat} {Q : Option Value → rx_M → Prop} {Z : String → rx_M → Prop} (hG : rx_OK G) (hod : od < 10) (hbs : bs ≤ 30000) (hZ : vw_Z g X) (hne : X.2.2.2.1 ≠ []) (hY : rc_Y K C0 C g bs od X z) (kk : ∀ C', rc_U K C0 C' g bs od (vm_act g X).1 → (∀ how x u, (vm_act g X).2 = some (how, x, u) → rc_fin C' how x u) → rx_W G MX7_run (d + 4) 170 [(9, .int (nI i)), (0, .ref 4)] [] (gl C' S) mc ms Q Z) : rx_W G MX7_run (d + 4) 58 [(9, .int (nI i)), (0, .ref 4)] [] (gl C S) mc ms Q Z := by
  obtain ⟨n, e, b, fr, m⟩ := X
  match fr, hne with
  | ((c, a, q, s, k), (v, r), (l, o), t, w) :: fs, _ =>
    obtain ⟨⟨h1, h2, h10, h11⟩, h3, ⟨h4, h5⟩, h6, h7, h8, h9, h12⟩ := hZ
    have h3' := List.forall_mem_cons.mp h3
    obtain ⟨⟨f1, ⟨f2, f3, beg, f4, f5⟩, f6, f7, f8⟩, f9⟩ := h3'.1
    have h5' : fs.length + 1 ≤ 10 := h5
    have h6' : 15 * e.length + b + m + (q + vw_sum fs) + 0 ≤ 30001 := h6
    exact lc_body hG (by omega) f7 f8 (fun f hf => (h3'.2 f hf).1.2.2.2.1) h1 h10 h11 f6 (by omega) hod (by omega) h7 h8.1.1 h8.1.2.2.2 h4 (show q + vw_sum fs ≤ 30001 by omega) f1 f2 f3 f9 rfl (fun ha => (f5 a f4 ha).1) hY kk
theorem lc_run {G : rx_E} {d mc ms : Nat} {S : gs_T} {K : Nat → Nat × Nat} {C0 : rx_M} {g : vg_T} {bs od : Nat} {Z : String → rx_M → Prop} (hG : rx_OK G) (hod : od < 10) (hbs : bs ≤ 30000) : ∀ (k : Nat) (X : vx_S) (C : rx_M) (z : Int32) (i : Nat), vw_Z g X → X.2.2.2.1 ≠ [] → vme X.2.2.2.1 < k → i + k ≤ 1000000 → rc_Y K C0 C g bs od X z → rx_W G MX7_run (d + 4) 44 [(9, .int (nI i)), (0, .ref 4)] [] (gl C S) mc ms (rcq_E S K C0 g bs od (vm_run g k X)) Z := by
  intro k
  induction k with
  | zero => intro X C z i _ _ h; exact absurd h (Nat.not_lt_zero _)
  | succ k ih =>
    intro X C z i hZ hne hk hik hY
    have hR := vz_act hZ hne (rc_room hY)
    have hlen : 0 < X.2.2.2.1.length := List.length_pos_iff.mpr hne
    have hl10 : X.2.2.2.1.length ≤ 10 := hZ.2.2.1.2
    refine rx_aload_n dX7_run_44 rfl rfl ?_
    refine gcv_getI (v := nI X.2.2.2.1.length) hG hf_RX7_60 rfl dX7_run_45 rfl rfl rfl (rc_dep' (n := X.1) (e := X.2.1) (b := X.2.2.1) (m := X.2.2.2.2) hY) ?_
    refine rx_if_le (tgt := 176) dX7_run_48 (by decide) (fun h => absurd h (by rw [← nI_0, nI_leI (by omega) (by omega)]; omega)) (fun _ => ?_)
    refine rx_iload dX7_run_51 rfl ?_
    refine rx_ldc (v := 1000000) hG hw_863 dX7_run_53 ?_
    refine rx_ti (y := nI 1000000) rfl ?_
    refine rx_icmp_ge (tgt := 176) dX7_run_55 (by decide) (fun h => absurd h (by rw [nI_leI (by omega) (by omega)]; omega)) (fun _ => ?_)
    refine lc_body2 hG hod hbs hZ hne hY (fun C1 hU hF => ?_)
    obtain ⟨z1, hU⟩ := hU
    refine rx_iinc (v := nI (i + 1)) dX7_run_170 rfl (nI_add _ 1) ?_
    refine rx_goto (tgt := 44) dX7_run_173 (by decide) ?_
    refine rx_lv (lv' := [(9, .int (nI (i + 1))), (0, .ref 4)]) ⟨rfl, rfl, trivial⟩ ?_
    obtain ⟨⟨hZ', hm', hne'⟩, hE⟩ := hR
    cases hv : (vm_act g X).2 with
    | none =>
      rw [vm_run_none (Y := (vm_act g X).1) (Prod.ext rfl hv)]
      exact ih _ C1 z1 (i + 1) hZ' (hne' hv) (by omega) (by omega) hU
    | some res =>
      obtain ⟨how, x, gas⟩ := res
      rw [vm_run_some (Y := (vm_act g X).1) (r := (how, x, gas)) (Prod.ext rfl hv)]
      have hE' := hE how x gas hv
      have hd0 := rc_dep' (n := (vm_act g X).1.1) (e := (vm_act g X).1.2.1) (b := (vm_act g X).1.2.2.1) (m := (vm_act g X).1.2.2.2.2) hU
      rw [hE'.1] at hd0
      refine rx_aload_n dX7_run_44 rfl rfl ?_
      refine gcv_getI (v := nI 0) hG hf_RX7_60 rfl dX7_run_45 rfl rfl rfl hd0 ?_
      refine rx_if_le (tgt := 176) dX7_run_48 (by decide) (fun _ => ?_) (fun h => absurd (by decide) h)
      exact rx_vret rfl dX7_run_176 ⟨rfl, C1, _, how, x, gas, rfl, rfl, ⟨hZ', hE'⟩, ⟨z1, hU⟩, hF how x gas hv⟩
/-- what a whole call needs of the class's cells -/
def rc_P (K : Nat → Nat × Nat) (C : rx_M) (g : vg_T) (bs od : Nat) (n : Nat → Int64) : Prop := ((∀ c, c < g.2.1 → C.2.2.1 6 c = some (K c).1 ∧ rc_K C (K c) (g.1 c)) ∧ C.1 5 1 = nI g.2.1 ∧ C.1 4 6 = nI g.2.2.2) ∧ (∀ k, k < 1024 → C.2.1 8 k = lf n k) ∧ C.1 9 1 = nI bs ∧ C.1 9 2 = nI od
theorem rcY_start {K : Nat → Nat × Nat} {C : rx_M} {g : vg_T} {bs od : Nat} {n : Nat → Int64} (h : rc_P K C g bs od n) : rc_Y K C ((rx_u (rx_u (rx_u (rx_u C.1 4 7 (nI g.2.2.1)) 4 5 (nI 0)) 4 8 (nI 0)) 4 9 (nI 0)), C.2) g bs od (n, [], 0, [], 0) (C.1 13 7) := by
  obtain ⟨⟨h1, h2, h3⟩, h4, h5, h6⟩ := h
  have hu : ∀ a, a ≠ 4 → (rx_u (rx_u (rx_u (rx_u C.1 4 7 (nI g.2.2.1)) 4 5 (nI 0)) 4 8 (nI 0)) 4 9 (nI 0)) a = C.1 a := fun a ha => by rw [rx_une _ ha, rx_une _ ha, rx_une _ ha, rx_une _ ha]
  refine ⟨⟨⟨fun c hc => ⟨(h1 c hc).1, rc_K_congr (h1 c hc).2 (fun a ha => hu a (by omega)) (fun _ _ => rfl) rfl⟩, (congrFun (hu 5 (by decide)) 1).trans h2, by simp [rx_ru], by simpa [rx_ru] using h3⟩, h4, ⟨(congrFun (hu 9 (by decide)) 1).trans h5, (congrFun (hu 9 (by decide)) 2).trans h6, trivial⟩, by simp [rx_ru], ⟨by simp [rx_ru], trivial⟩, by simp [rx_ru]⟩, ⟨fun a ha => ⟨hu a (by omega), rfl⟩, fun _ _ => rfl, rfl, fun _ _ => rfl⟩, congrFun (hu 13 (by decide)) 7⟩
set_option maxHeartbeats 1000000 in
theorem cc_run {G : rx_E} {d : Nat} {S : gs_T} {K : Nat → Nat × Nat} {C : rx_M} {g : vg_T} {bs od : Nat} {n : Nat → Int64} {to_ q : Nat} {vl ar : Int64} {l : Bool} (hG : rx_OK G) (hod : od < 10) (hbs : bs ≤ 30000) (hg : vw_G g) (hc : vw_codes g n) (hq : q ≤ 30000) (hto : to_ < 32) (hl : l = true → vl = 0) (hP : rc_P K C g bs od n) : rx_C G MX7_run (d + 4) [.ref 4, .int (nI g.2.2.1), .int (nI to_), .long vl, .long ar, .int (nI q), .int (bI l)] (gl C S) 0 0 (rcq_E S K C g bs od (vm_whole g n [] (lN to_) vl ar q l)) := by
  refine rx_meth0 (by decide +kernel) rfl (Nat.le_of_ble_eq_true rfl) ?_
  refine rx_aload_n dX7_run_0 rfl rfl ?_
  refine rx_iload_n dX7_run_1 rfl ?_
  refine gc_putI hG hf_RX7_57 (gw_nf rfl rfl) rfl dX7_run_2 rfl rfl rfl rfl rfl ?_
  refine rx_aload_n dX7_run_5 rfl rfl ?_
  refine rx_iconst (v := nI 0) dX7_run_6 rfl ?_
  refine gc_putI hG hf_RX7_60 (gw_nf rfl rfl) rfl dX7_run_7 rfl rfl rfl rfl rfl ?_
  refine rx_aload_n dX7_run_10 rfl rfl ?_
  refine rx_iconst (v := nI 0) dX7_run_11 rfl ?_
  refine gc_putI hG hf_RX7_63 (gw_nf rfl rfl) rfl dX7_run_12 rfl rfl rfl rfl rfl ?_
  refine rx_aload_n dX7_run_15 rfl rfl ?_
  refine rx_iconst (v := nI 0) dX7_run_16 rfl ?_
  refine gc_putI hG hf_RX7_66 (gw_nf rfl rfl) rfl dX7_run_17 rfl rfl rfl rfl rfl ?_
  refine rcY_ab (rcY_start hP) (fun C1 hY1 => ?_)
  refine rx_aload_n dX7_run_20 rfl rfl ?_
  refine g_getR hG hf_RX7_35 rfl dX7_run_21 rfl rfl rfl ?_
  refine rx_iload_n dX7_run_24 rfl ?_
  refine rx_iload_n dX7_run_25 rfl ?_
  refine rx_i2l dX7_run_26 ?_
  refine rx_tl (y := lN to_) (nI_l (by omega)) ?_
  refine rx_lload_n dX7_run_27 rfl ?_
  refine rx_lload dX7_run_28 rfl ?_
  refine rx_iload dX7_run_30 rfl ?_
  refine rx_iload dX7_run_32 rfl ?_
  refine gv_invV (as := [.int _, .long _, .long _, .long _, .int _, .int _]) hG okX1_set lk_RX7_69 rfl rfl dX7_run_34 rfl (by simp [Value.category]) (cs_set hG hY1) ?_
  rintro _ _ ⟨rfl, C2, rfl, hY2, hcl⟩
  refine rx_aload_n dX7_run_37 rfl rfl ?_
  have hb := vz_begin (cl := g.2.2.1) (to := lN to_) (vl := vl) (ar := ar) (l := l) (u := 100000) (vw_start (q := q) hg hc hq) trivial hq hg.2.2.1 hl (fun f fs' h => by cases h) (by show 2 * (0 + q) + 0 + 1 < 100000; omega)
  refine gv_invV (as := []) hG okX7_begin lk_RX7_73 rfl rfl dX7_run_38 rfl (by simp [Value.category]) (cc_begin hG hY2 hcl hg.2.2.1 (by decide) (fun f hf => absurd hf List.not_mem_nil) trivial (by show 0 + q ≤ 30001; omega) hc hg.1) ?_
  rintro _ _ ⟨rfl, C3, rfl, ⟨z3, hY3⟩, hF⟩
  refine rx_iconst (v := nI 0) dX7_run_41 rfl ?_
  refine rx_istore dX7_run_42 (by decide) ?_
  refine rx_lv (lv' := [(9, .int (nI 0)), (0, .ref 4)]) ⟨rfl, rfl, trivial⟩ ?_
  obtain ⟨⟨hZ', hm', hne'⟩, hE⟩ := hb
  unfold vm_whole
  generalize hR : vm_begin (n, [], 0, [], 0) g.2.2.1 (lN to_) vl ar q l = R at *
  obtain ⟨Y, res⟩ := R
  cases res with
  | none => exact lc_run hG hod hbs 100000 Y C3 z3 0 hZ' (hne' rfl) hm' (by decide) hY3
  | some res =>
    obtain ⟨how, x, gas⟩ := res
    have hE' := hE how x gas rfl
    have hd0 := rc_dep' (n := Y.1) (e := Y.2.1) (b := Y.2.2.1) (m := Y.2.2.2.2) hY3
    have hf0 : Y.2.2.2.1 = [] := hE'.1
    rw [hf0] at hd0
    refine rx_aload_n dX7_run_44 rfl rfl ?_
    refine gcv_getI (v := nI 0) hG hf_RX7_60 rfl dX7_run_45 rfl rfl rfl hd0 ?_
    refine rx_if_le (tgt := 176) dX7_run_48 (by decide) (fun _ => ?_) (fun h => absurd (by decide) h)
    exact rx_vret rfl dX7_run_176 ⟨rfl, C3, Y, how, x, gas, rfl, rfl, ⟨hZ', hE'⟩, ⟨z3, hY3⟩, hF how x gas rfl⟩

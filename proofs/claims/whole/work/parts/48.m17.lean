theorem dX11_run_0 : decode cX11_run 0 = .ok (.aload_n 0, 1) := by decide +kernel
theorem dX11_run_1 : decode cX11_run 1 = .ok (.getfield 203, 3) := by decide +kernel
theorem dX11_run_4 : decode cX11_run 4 = .ok (.iload_n 1, 1) := by decide +kernel
theorem dX11_run_5 : decode cX11_run 5 = .ok (.if_icmp .le 34, 3) := by decide +kernel
theorem dX11_run_8 : decode cX11_run 8 = .ok (.aload_n 0, 1) := by decide +kernel
theorem dX11_run_9 : decode cX11_run 9 = .ok (.invokevirtual 225, 3) := by decide +kernel
theorem dX11_run_12 : decode cX11_run 12 = .ok (.aload_n 0, 1) := by decide +kernel
theorem dX11_run_13 : decode cX11_run 13 = .ok (.getfield 203, 3) := by decide +kernel
theorem dX11_run_16 : decode cX11_run 16 = .ok (.iload_n 1, 1) := by decide +kernel
theorem dX11_run_17 : decode cX11_run 17 = .ok (.if_icmp .le (-17), 3) := by decide +kernel
theorem dX11_run_20 : decode cX11_run 20 = .ok (.aload_n 0, 1) := by decide +kernel
theorem dX11_run_21 : decode cX11_run 21 = .ok (.getfield 193, 3) := by decide +kernel
theorem dX11_run_24 : decode cX11_run 24 = .ok (.ifCond .eq (-24), 3) := by decide +kernel
theorem dX11_run_27 : decode cX11_run 27 = .ok (.aload_n 0, 1) := by decide +kernel
theorem dX11_run_28 : decode cX11_run 28 = .ok (.invokevirtual 228, 3) := by decide +kernel
theorem dX11_run_31 : decode cX11_run 31 = .ok (.aload_n 0, 1) := by decide +kernel
theorem dX11_run_32 : decode cX11_run 32 = .ok (.iconst 0, 1) := by decide +kernel
theorem dX11_run_33 : decode cX11_run 33 = .ok (.putfield 193, 3) := by decide +kernel
theorem dX11_run_36 : decode cX11_run 36 = .ok (.goto (-36), 3) := by decide +kernel
theorem dX11_run_39 : decode cX11_run 39 = .ok (.return_, 1) := by decide +kernel
theorem dX11_wholeCall_0 : decode cX11_wholeCall 0 = .ok (.aload_n 0, 1) := by decide +kernel
theorem dX11_wholeCall_1 : decode cX11_wholeCall 1 = .ok (.iconst 0, 1) := by decide +kernel
theorem dX11_wholeCall_2 : decode cX11_wholeCall 2 = .ok (.putfield 203, 3) := by decide +kernel
theorem dX11_wholeCall_5 : decode cX11_wholeCall 5 = .ok (.aload_n 0, 1) := by decide +kernel
theorem dX11_wholeCall_6 : decode cX11_wholeCall 6 = .ok (.iload_n 1, 1) := by decide +kernel
theorem dX11_wholeCall_7 : decode cX11_wholeCall 7 = .ok (.putfield 272, 3) := by decide +kernel
theorem dX11_wholeCall_10 : decode cX11_wholeCall 10 = .ok (.aload_n 0, 1) := by decide +kernel
theorem dX11_wholeCall_11 : decode cX11_wholeCall 11 = .ok (.iconst 0, 1) := by decide +kernel
theorem dX11_wholeCall_12 : decode cX11_wholeCall 12 = .ok (.putfield 215, 3) := by decide +kernel
theorem dX11_wholeCall_15 : decode cX11_wholeCall 15 = .ok (.aload_n 0, 1) := by decide +kernel
theorem dX11_wholeCall_16 : decode cX11_wholeCall 16 = .ok (.iconst 0, 1) := by decide +kernel
theorem dX11_wholeCall_17 : decode cX11_wholeCall 17 = .ok (.putfield 218, 3) := by decide +kernel
theorem dX11_wholeCall_20 : decode cX11_wholeCall 20 = .ok (.aload_n 0, 1) := by decide +kernel
theorem dX11_wholeCall_21 : decode cX11_wholeCall 21 = .ok (.iconst 0, 1) := by decide +kernel
theorem dX11_wholeCall_22 : decode cX11_wholeCall 22 = .ok (.putfield 193, 3) := by decide +kernel
theorem dX11_wholeCall_25 : decode cX11_wholeCall 25 = .ok (.aload_n 0, 1) := by decide +kernel
theorem dX11_wholeCall_26 : decode cX11_wholeCall 26 = .ok (.iload_n 1, 1) := by decide +kernel
theorem dX11_wholeCall_27 : decode cX11_wholeCall 27 = .ok (.iload_n 2, 1) := by decide +kernel
theorem dX11_wholeCall_28 : decode cX11_wholeCall 28 = .ok (.i2l, 1) := by decide +kernel
theorem dX11_wholeCall_29 : decode cX11_wholeCall 29 = .ok (.lload_n 3, 1) := by decide +kernel
theorem dX11_wholeCall_30 : decode cX11_wholeCall 30 = .ok (.lload 5, 2) := by decide +kernel
theorem dX11_wholeCall_32 : decode cX11_wholeCall 32 = .ok (.lload 7, 2) := by decide +kernel
theorem dX11_wholeCall_34 : decode cX11_wholeCall 34 = .ok (.iload 9, 2) := by decide +kernel
theorem dX11_wholeCall_36 : decode cX11_wholeCall 36 = .ok (.invokevirtual 291, 3) := by decide +kernel
theorem dX11_wholeCall_39 : decode cX11_wholeCall 39 = .ok (.ifCond .eq 13, 3) := by decide +kernel
theorem dX11_wholeCall_42 : decode cX11_wholeCall 42 = .ok (.aload_n 0, 1) := by decide +kernel
theorem dX11_wholeCall_43 : decode cX11_wholeCall 43 = .ok (.iconst 0, 1) := by decide +kernel
theorem dX11_wholeCall_44 : decode cX11_wholeCall 44 = .ok (.putfield 193, 3) := by decide +kernel
theorem dX11_wholeCall_47 : decode cX11_wholeCall 47 = .ok (.aload_n 0, 1) := by decide +kernel
theorem dX11_wholeCall_48 : decode cX11_wholeCall 48 = .ok (.iconst 0, 1) := by decide +kernel
theorem dX11_wholeCall_49 : decode cX11_wholeCall 49 = .ok (.invokevirtual 304, 3) := by decide +kernel
theorem dX11_wholeCall_52 : decode cX11_wholeCall 52 = .ok (.return_, 1) := by decide +kernel
/-- a whole call has ended -/
def vw_E (g : vg_T) (X : vx_S) (how gas : Nat) : Prop := vw_Z g X ∧ X.2.2.2.1 = [] ∧ (1 ≤ how ∧ how ≤ 3) ∧ 15 * X.2.1.length + X.2.2.1 + X.2.2.2.2 + gas ≤ 30001
def rq_E (C : rx_M) (S0 : gs_T) (g : vg_T) (R : vx_S × Option (Nat × Int64 × Nat)) (v : Option Value) (mu : rx_M) : Prop := v = none ∧ ∃ S' X' how x gas, mu = gl C S' ∧ R = (X', some (how, x, gas)) ∧ vw_E g X' how gas ∧ rm_Y S0 S' g X' how ∧ S'.2 52 59 = x ∧ S'.2 52 60 = lN gas
theorem vm_run_none {g : vg_T} {k : Nat} {X Y : vx_S} (h : vm_act g X = (Y, none)) : vm_run g (k + 1) X = vm_run g k Y := by rw [vm_run, h]
theorem vm_run_some {g : vg_T} {k : Nat} {X Y : vx_S} {r : Nat × Int64 × Nat} (h : vm_act g X = (Y, some r)) : vm_run g (k + 1) X = (Y, some r) := by rw [vm_run, h]
theorem rY_room {S0 S : gs_T} {g : vg_T} {X : vx_S} {E : Nat} (hY : rm_Y S0 S g X E) : ∀ f fs', X.2.2.2.1 = f :: fs' → (fT f).length ≤ 24 := by
  intro f fs' h
  have h1 := hY.1.2.2.2.2.1.2
  rw [h] at h1
  exact h1.1.2.2.2.1.1
theorem lm_run {G : rx_E} {d mc ms : Nat} {C : rx_M} {S0 : gs_T} {g : vg_T} {Z : String → rx_M → Prop} (hG : rx_OK G) : ∀ (k : Nat) (X : vx_S) (S : gs_T), vw_Z g X → X.2.2.2.1 ≠ [] → vme X.2.2.2.1 < k → rm_Y S0 S g X 0 → rx_W G MX11_run (d + 5) 0 [(0, .ref 52), (1, .int (nI 0))] [] (gl C S) mc ms (rq_E C S0 g (vm_run g k X)) Z := by
  intro k
  induction k with
  | zero => intro X S _ _ h; exact absurd h (Nat.not_lt_zero _)
  | succ k ih =>
    intro X S hZ hne hk hY
    have hR := vz_act hZ hne (rY_room hY)
    have hlen : 0 < X.2.2.2.1.length := List.length_pos_iff.mpr hne
    have hl10 : X.2.2.2.1.length ≤ 10 := hZ.2.2.1.2
    refine rx_aload_n dX11_run_0 rfl rfl ?_
    refine gmv_getI (v := nI X.2.2.2.1.length) hG hf_RX11_203 rfl dX11_run_1 rfl rfl rfl (rY_dep' hY) ?_
    refine rx_iload_n dX11_run_4 rfl ?_
    refine rx_icmp_le (tgt := 39) dX11_run_5 (by decide) (fun h => absurd h (by rw [nI_leI (by omega) (by omega)]; omega)) (fun _ => ?_)
    refine rx_aload_n dX11_run_8 rfl rfl ?_
    refine gv_invV (as := []) hG okX11_act lk_RX11_225 rfl rfl dX11_run_9 rfl (by simp [Value.category]) (cr_act hG hZ hne hY) ?_
    rintro _ _ ⟨rfl, S1, rfl, hon⟩
    rcases hon with ⟨X', hX, hY1⟩ | ⟨X1, how, x, gas, ⟨hh, hlow⟩, hX, hY1, hx, hu⟩
    · rw [hX] at hR
      obtain ⟨⟨hZ', hm', hne'⟩, _⟩ := hR
      have hne' : X'.2.2.2.1 ≠ [] := hne' rfl
      have hm' : vme X'.2.2.2.1 < vme X.2.2.2.1 := hm'
      have hZ' : vw_Z g X' := hZ'
      have hlen : 0 < X'.2.2.2.1.length := List.length_pos_iff.mpr hne'
      have hl10 : X'.2.2.2.1.length ≤ 10 := hZ'.2.2.1.2
      refine rx_aload_n dX11_run_12 rfl rfl ?_
      refine gmv_getI (v := nI X'.2.2.2.1.length) hG hf_RX11_203 rfl dX11_run_13 rfl rfl rfl (rY_dep' hY1) ?_
      refine rx_iload_n dX11_run_16 rfl ?_
      refine rx_icmp_le (tgt := 0) dX11_run_17 (by decide) (fun h => absurd h (by rw [nI_leI (by omega) (by omega)]; omega)) (fun _ => ?_)
      refine rx_aload_n dX11_run_20 rfl rfl ?_
      refine gmv_getI (v := nI 0) hG hf_RX11_193 rfl dX11_run_21 rfl rfl rfl (rY_end hY1) ?_
      refine rx_if_eq (tgt := 0) dX11_run_24 (by decide) (fun _ => ?_) (fun h => absurd (by decide) h)
      rw [vm_run_none hX]
      exact ih X' S1 hZ' hne' (by omega) hY1
    · rw [hX] at hR
      obtain ⟨n1, e1, b1, fr, m1⟩ := X1
      match fr, hlow with
      | [], _ =>
        refine rx_aload_n dX11_run_12 rfl rfl ?_
        refine gmv_getI (v := nI 0) hG hf_RX11_203 rfl dX11_run_13 rfl rfl rfl (rY_dep' hY1) ?_
        refine rx_iload_n dX11_run_16 rfl ?_
        refine rx_icmp_le (tgt := 0) dX11_run_17 (by decide) (fun _ => ?_) (fun h => absurd (by decide) h)
        refine rx_aload_n dX11_run_0 rfl rfl ?_
        refine gmv_getI (v := nI 0) hG hf_RX11_203 rfl dX11_run_1 rfl rfl rfl (rY_dep' hY1) ?_
        refine rx_iload_n dX11_run_4 rfl ?_
        refine rx_icmp_le (tgt := 39) dX11_run_5 (by decide) (fun _ => ?_) (fun h => absurd (by decide) h)
        rw [vm_run_some (Y := (n1, e1, b1, [], m1)) (r := (how, x, gas)) hX]
        refine rx_vret rfl dX11_run_39 ⟨rfl, S1, _, how, x, gas, rfl, rfl, ?_, hY1, hx, hu⟩
        obtain ⟨⟨hZ', _, _⟩, hE⟩ := hR
        exact ⟨hZ', (hE how x gas rfl).1, (hE how x gas rfl).2.1, (hE how x gas rfl).2.2⟩
      | ((c, a, q, s, k), (v, r), (l, o), t, w) :: fs, hlow =>
        have ht : t.length ≤ 21 := hlow.1
        obtain ⟨⟨hZ', hm', hne'⟩, _⟩ := hR
        have hZ' : vw_Z g (n1, e1, b1, ((c, a, q + gas, s, k), (v, r), (l, o), ((if how = 1 then 1 else 0) :: x :: t), w) :: fs, m1) := hZ'
        have hl10 : fs.length + 1 ≤ 10 := hZ'.2.2.1.2
        have hm' : vme (((c, a, q + gas, s, k), (v, r), (l, o), ((if how = 1 then 1 else 0) :: x :: t), w) :: fs) < vme X.2.2.2.1 := hm'
        refine rx_aload_n dX11_run_12 rfl rfl ?_
        refine gmv_getI (v := nI (fs.length + 1)) hG hf_RX11_203 rfl dX11_run_13 rfl rfl rfl (rY_dep hY1) ?_
        refine rx_iload_n dX11_run_16 rfl ?_
        refine rx_icmp_le (tgt := 0) dX11_run_17 (by decide) (fun h => absurd h (by rw [nI_leI (by omega) (by omega)]; omega)) (fun _ => ?_)
        refine rx_aload_n dX11_run_20 rfl rfl ?_
        refine gmv_getI (v := nI how) hG hf_RX11_193 rfl dX11_run_21 rfl rfl rfl (rY_end hY1) ?_
        refine rx_if_eq (tgt := 0) dX11_run_24 (by decide) (fun h => absurd h (by rw [← nI_0, nI_eq (by omega) (by omega)]; omega)) (fun _ => ?_)
        refine rx_aload_n dX11_run_27 rfl rfl ?_
        refine gv_invV (as := []) hG okX11_tell lk_RX11_228 rfl rfl dX11_run_28 rfl (by simp [Value.category]) (cr_tell hG (by omega) (by omega) hx hu hh hY1) ?_
        rintro _ _ ⟨rfl, S2, rfl, hY2⟩
        refine rx_aload_n dX11_run_31 rfl rfl ?_
        refine rx_iconst (v := nI 0) dX11_run_32 rfl ?_
        refine gm_putI hG hf_RX11_193 (gw_nf rfl rfl) rfl dX11_run_33 rfl rfl rfl rfl rfl ?_
        refine rY_ab (rY_setEnd hY2 0) (fun S3 hY3 => ?_)
        refine rx_goto (tgt := 0) dX11_run_36 (by decide) ?_
        rw [vm_run_none (hX.trans rfl)]
        exact ih _ S3 hZ' (List.cons_ne_nil _ _) (Nat.lt_of_lt_of_le hm' (Nat.le_of_lt_succ hk)) hY3
theorem cr_run {G : rx_E} {d : Nat} {C : rx_M} {S0 S : gs_T} {g : vg_T} {X : vx_S} (hG : rx_OK G) {k : Nat} (hZ : vw_Z g X) (hne : X.2.2.2.1 ≠ []) (hk : vme X.2.2.2.1 < k) (hY : rm_Y S0 S g X 0) : rx_C G MX11_run (d + 5) [.ref 52, .int (nI 0)] (gl C S) 0 0 (rq_E C S0 g (vm_run g k X)) :=
  rx_meth0 (by decide +kernel) rfl (Nat.le_of_ble_eq_true rfl) (lm_run hG k X S hZ hne hk hY)
/-- what a whole call needs of the rows -/
def rm_P (S : gs_T) (g : vg_T) (n : Nat → Int64) : Prop := ((∀ c, c < g.2.1 → S.1 54 c = nI (g.1 c).length ∧ ∀ k, k < (g.1 c).length → S.1 53 (200 * c + k) = nI ((g.1 c).getD k 0)) ∧ S.1 52 3 = nI g.2.1 ∧ S.1 52 51 = nI g.2.2.2) ∧ (∀ k, k < 608 → S.2 82 k = n k) ∧ S.1 52 52 = nI 0
theorem rY_start {S : gs_T} {g : vg_T} {n : Nat → Int64} (h : rm_P S g n) : rm_Y S ((rx_u (rx_u (rx_u (rx_u (rx_u S.1 52 49 (nI 0)) 52 50 (nI g.2.2.1)) 52 56 (nI 0)) 52 57 (nI 0)) 52 58 (nI 0)), S.2) g (n, [], 0, [], 0) 0 := by
  obtain ⟨⟨h1, h2, h3⟩, h4, h5⟩ := h
  refine ⟨⟨⟨fun c hc => by simpa [rx_ru] using h1 c hc, by simpa [rx_ru] using h2, by simp [rx_ru], by simpa [rx_ru] using h3⟩, h4, ⟨by simpa [rx_ru] using h5, trivial⟩, by simp [rx_ru], ⟨by simp [rx_ru], trivial⟩, by simp [rx_ru]⟩, ?_, by simp [rx_ru]⟩
  have h0 : rm_rest S S := ⟨fun _ _ _ => ⟨rfl, rfl⟩, ⟨rfl, rfl⟩, fun _ _ _ _ _ _ _ _ _ => ⟨rfl, rfl⟩⟩
  have a1 := rm_rest_I (x := nI 0) h0 (a := 52) (j := 49) (by omega)
  have a2 := rm_rest_I (x := nI g.2.2.1) a1 (a := 52) (j := 50) (by omega)
  have a3 := rm_rest_I (x := nI 0) a2 (a := 52) (j := 56) (by omega)
  have a4 := rm_rest_I (x := nI 0) a3 (a := 52) (j := 57) (by omega)
  exact rm_rest_I (x := nI 0) a4 (a := 52) (j := 58) (by omega)
/-- codes, origin, height are in their bounds -/
def vw_G (g : vg_T) : Prop := g.2.1 ≤ 16 ∧ (∀ c, c < g.2.1 → vw_code (g.1 c)) ∧ g.2.2.1 < 32 ∧ g.2.2.2 < 100
theorem vw_start {g : vg_T} {n : Nat → Int64} {q : Nat} (hg : vw_G g) (hc : vw_codes g n) (hq : q ≤ 30000) : vw_W g n [] 0 [] 0 (q + 1) := ⟨hg, fun f hf => absurd hf List.not_mem_nil, ⟨trivial, by decide⟩, by show 15 * 0 + 0 + 0 + 0 + (q + 1) ≤ 30001; omega, hc, trivial, trivial, fun h => absurd rfl h⟩
theorem cr_whole {G : rx_E} {d : Nat} {C : rx_M} {S : gs_T} {g : vg_T} {n : Nat → Int64} {to_ q : Nat} {vl ar : Int64} {l : Bool} (hG : rx_OK G) (hg : vw_G g) (hc : vw_codes g n) (hq : q ≤ 30000) (hto : to_ < 32) (hl : l = true → vl = 0) (hP : rm_P S g n) : rx_C G MX11_wholeCall (d + 6) [.ref 52, .int (nI g.2.2.1), .int (nI to_), .long vl, .long ar, .long (lN q), .int (bI l)] (gl C S) 0 0 (rq_E C S g (vm_whole g n [] (lN to_) vl ar q l)) := by
  refine rx_meth0 (by decide +kernel) rfl (Nat.le_of_ble_eq_true rfl) ?_
  refine rx_aload_n dX11_wholeCall_0 rfl rfl ?_
  refine rx_iconst (v := nI 0) dX11_wholeCall_1 rfl ?_
  refine gm_putI hG hf_RX11_203 (gw_nf rfl rfl) rfl dX11_wholeCall_2 rfl rfl rfl rfl rfl ?_
  refine rx_aload_n dX11_wholeCall_5 rfl rfl ?_
  refine rx_iload_n dX11_wholeCall_6 rfl ?_
  refine gm_putI hG hf_RX11_272 (gw_nf rfl rfl) rfl dX11_wholeCall_7 rfl rfl rfl rfl rfl ?_
  refine rx_aload_n dX11_wholeCall_10 rfl rfl ?_
  refine rx_iconst (v := nI 0) dX11_wholeCall_11 rfl ?_
  refine gm_putI hG hf_RX11_215 (gw_nf rfl rfl) rfl dX11_wholeCall_12 rfl rfl rfl rfl rfl ?_
  refine rx_aload_n dX11_wholeCall_15 rfl rfl ?_
  refine rx_iconst (v := nI 0) dX11_wholeCall_16 rfl ?_
  refine gm_putI hG hf_RX11_218 (gw_nf rfl rfl) rfl dX11_wholeCall_17 rfl rfl rfl rfl rfl ?_
  refine rx_aload_n dX11_wholeCall_20 rfl rfl ?_
  refine rx_iconst (v := nI 0) dX11_wholeCall_21 rfl ?_
  refine gm_putI hG hf_RX11_193 (gw_nf rfl rfl) rfl dX11_wholeCall_22 rfl rfl rfl rfl rfl ?_
  refine rx_aload_n dX11_wholeCall_25 rfl rfl ?_
  refine rx_iload_n dX11_wholeCall_26 rfl ?_
  refine rx_iload_n dX11_wholeCall_27 rfl ?_
  refine rx_i2l dX11_wholeCall_28 ?_
  refine rx_tl (y := lN to_) (nI_l (by omega)) ?_
  refine rx_lload_n dX11_wholeCall_29 rfl ?_
  refine rx_lload dX11_wholeCall_30 rfl ?_
  refine rx_lload dX11_wholeCall_32 rfl ?_
  refine rx_iload dX11_wholeCall_34 rfl ?_
  have hb := vz_begin (cl := g.2.2.1) (to := lN to_) (vl := vl) (ar := ar) (l := l) (u := 100000) (vw_start (q := q) hg hc hq) trivial hq hg.2.2.1 hl (fun f fs' h => by cases h) (by show 2 * (0 + q) + 0 + 1 < 100000; omega)
  refine gv_invV (as := [.int _, .long _, .long _, .long _, .long _, .int _]) hG okX11_begin lk_RX11_291 rfl rfl dX11_wholeCall_36 rfl (by simp [Value.category]) (cr_begin hG (rY_start hP) (by decide) (fun f hf => absurd hf List.not_mem_nil) hc hg.1 hg.2.2.1 (lN to_) vl ar l) ?_
  rintro _ _ (⟨rfl, S2, rfl, n1, how, hh, hR, hY8, hx, hu⟩ | ⟨rfl, S2, rfl, X', hR, hY8⟩)
  · refine rx_if_eq (tgt := 52) dX11_wholeCall_39 (by decide) (fun _ => ?_) (fun h => absurd (by decide) h)
    rw [hR] at hb
    obtain ⟨⟨hZ', _, _⟩, hE⟩ := hb
    refine rx_vret rfl dX11_wholeCall_52 ⟨rfl, S2, _, how, 0, q, rfl, ?_, ⟨hZ', (hE how 0 q rfl).1, (hE how 0 q rfl).2.1, (hE how 0 q rfl).2.2⟩, hY8, hx, hu⟩
    unfold vm_whole
    rw [hR]
    rfl
  · refine rx_if_eq (tgt := 52) dX11_wholeCall_39 (by decide) (fun h => absurd h (by decide)) (fun _ => ?_)
    rw [hR] at hb
    obtain ⟨⟨hZ', hm', hne'⟩, _⟩ := hb
    refine rx_aload_n dX11_wholeCall_42 rfl rfl ?_
    refine rx_iconst (v := nI 0) dX11_wholeCall_43 rfl ?_
    refine gm_putI hG hf_RX11_193 (gw_nf rfl rfl) rfl dX11_wholeCall_44 rfl rfl rfl rfl rfl ?_
    obtain ⟨n9, e9, b9, fr9, m9⟩ := X'
    refine rY_ab (rY_setEnd hY8 0) (fun S3 hY3 => ?_)
    refine rx_aload_n dX11_wholeCall_47 rfl rfl ?_
    refine rx_iconst (v := nI 0) dX11_wholeCall_48 rfl ?_
    refine gv_invV (as := [.int _]) hG okX11_run lk_RX11_304 rfl rfl dX11_wholeCall_49 rfl (by simp [Value.category]) (cr_run hG hZ' (hne' rfl) hm' hY3) ?_
    rintro _ mu' ⟨rfl, hq'⟩
    refine rx_vret rfl dX11_wholeCall_52 ?_
    have e1 : vm_whole g n [] (lN to_) vl ar q l = vm_run g 100000 (n9, e9, b9, fr9, m9) := by
      unfold vm_whole
      rw [hR]
    rw [e1]
    exact ⟨rfl, hq'⟩

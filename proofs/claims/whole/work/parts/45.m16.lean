set_option maxHeartbeats 1000000 in
theorem cr_act1 {G : rx_E} {d : Nat} {C : rx_M} {S0 S : gs_T} {g : vg_T} {n : Nat → Int64} {e : List (Nat × Int64 × Int64)} {b m c a q s k : Nat} {v r : Int64} {l o : Bool} {t : List Int64} {w : (Nat → Int64) × Nat × Nat} {fs : List vf_T} (hG : rx_OK G) (hp : fs.length < 10) (hs1 : s < 32) (hk : k < 32) (hs : ∀ f ∈ fs, fS f < 32) (hcod : vw_codes g n) (hg : g.2.1 ≤ 16) (ho : g.2.2.1 < 32) (hh : g.2.2.2 < 100) (hq : q ≤ 30000) (hb : b ≤ 30001) (hw : w.2.1 ≤ e.length) (he : e.length ≤ 2001) (hlow : vw_low fs) (ha : a < 256) (hc : c < g.2.1) (hcl : (g.1 c).length ≤ 200) (hoct : ∀ k, k < (g.1 c).length → (g.1 c).getD k 0 < 256) (hact : a < (g.1 c).length → (g.1 c).getD a 0 < 40 ∧ a + vm_size ((g.1 c).getD a 0) ≤ (g.1 c).length) (hY : rm_Y S0 S g (n, e, b, ((c, a, q, s, k), (v, r), (l, o), t, w) :: fs, m) 0) : rx_C G MX11_act (d + 4) [.ref 52] (gl C S) 0 0 (rq_on C S0 g (vm_act g (n, e, b, ((c, a, q, s, k), (v, r), (l, o), t, w) :: fs, m))) := by
  refine rx_meth0 (by decide +kernel) rfl (Nat.le_of_ble_eq_true rfl) ?_
  refine rx_aload_n dX11_act_0 rfl rfl ?_
  refine gmv_getI (v := nI (fs.length + 1)) hG hf_RX11_203 rfl dX11_act_1 rfl rfl rfl (rY_dep hY) ?_
  refine rx_iconst (v := nI 1) dX11_act_4 rfl ?_
  refine rx_isub dX11_act_5 ?_
  refine rx_ti (y := nI fs.length) ((pk_sub (by omega)).trans (congrArg nI (by omega))) ?_
  refine rx_istore_n dX11_act_6 (by decide) ?_
  refine rx_sipush (v := nI 200) dX11_act_7 rfl ?_
  refine rx_aload_n dX11_act_10 rfl rfl ?_
  refine g_getR hG hf_RX11_111 rfl dX11_act_11 rfl rfl rfl ?_
  refine rx_iload_n dX11_act_14 rfl ?_
  refine gmv_iald (j := fs.length) (v := nI c) hG dX11_act_15 rfl rfl rfl rfl (by omega) (by decide) (rY_code hY) ?_
  refine rx_imul dX11_act_16 ?_
  refine rx_ti (y := nI (200 * c)) ((pk_mul _ _).trans (congrArg nI (by omega))) ?_
  refine rx_istore_n dX11_act_17 (by decide) ?_
  refine rx_aload_n dX11_act_18 rfl rfl ?_
  refine g_getR hG hf_RX11_114 rfl dX11_act_19 rfl rfl rfl ?_
  refine rx_iload_n dX11_act_22 rfl ?_
  refine gmv_iald (j := fs.length) (v := nI a) hG dX11_act_23 rfl rfl rfl rfl (by omega) (by decide) (rY_at hY) ?_
  refine rx_aload_n dX11_act_24 rfl rfl ?_
  refine g_getR hG hf_RX11_13 rfl dX11_act_25 rfl rfl rfl ?_
  refine rx_aload_n dX11_act_28 rfl rfl ?_
  refine g_getR hG hf_RX11_111 rfl dX11_act_29 rfl rfl rfl ?_
  refine rx_iload_n dX11_act_32 rfl ?_
  refine gmv_iald (j := fs.length) (v := nI c) hG dX11_act_33 rfl rfl rfl rfl (by omega) (by decide) (rY_code hY) ?_
  refine gmv_iald (j := c) (v := nI (g.1 c).length) hG dX11_act_34 rfl rfl rfl rfl (by omega) (by decide) (rY_csize hY hc) ?_
  refine rx_icmp_lt (tgt := 45) dX11_act_35 (by decide) (fun h35 => ?_) (fun h35 => ?_)
  · rw [nI_ltI (by omega) (by omega)] at h35
    have h1 : ¬ (g.1 c).length ≤ a := by omega
    obtain ⟨op, hgo⟩ : ∃ op, (g.1 c).getD a 0 = op := ⟨_, rfl⟩
    obtain ⟨hop, hal⟩ := hact (by omega)
    rw [hgo] at hop hal
    have hsz := @vb_size op
    refine rx_aload_n dX11_act_45 rfl rfl ?_
    refine g_getR hG hf_RX11_7 rfl dX11_act_46 rfl rfl rfl ?_
    refine rx_iload_n dX11_act_49 rfl ?_
    refine rx_aload_n dX11_act_50 rfl rfl ?_
    refine g_getR hG hf_RX11_114 rfl dX11_act_51 rfl rfl rfl ?_
    refine rx_iload_n dX11_act_54 rfl ?_
    refine gmv_iald (j := fs.length) (v := nI a) hG dX11_act_55 rfl rfl rfl rfl (by omega) (by decide) (rY_at hY) ?_
    refine rx_iadd dX11_act_56 ?_
    refine rx_ti (y := nI (a + 200 * c)) ((nI_add _ _).trans (congrArg nI (by omega))) ?_
    refine gmv_iald (j := 200 * c + a) (v := nI op) hG dX11_act_57 rfl rfl rfl (congrArg nI (Nat.add_comm _ _)) (by omega) (by decide) ((rY_octet hY hc (by omega)).trans (congrArg nI hgo)) ?_
    refine rx_istore_n dX11_act_58 (by decide) ?_
    refine rx_iload_n dX11_act_59 rfl ?_
    refine rx_invS0 (as := [.int _]) hG okX11_sizeOf lk_RX11_166 dX11_act_60 rfl (by simp [Value.category]) (cm_sizeOf hG hop) ?_
    rintro _ _ ⟨rfl, rfl⟩
    refine rx_iconst (v := nI 1) dX11_act_63 rfl ?_
    refine rx_icmp_le (tgt := 85) dX11_act_64 (by decide) (fun h64 => ?_) (fun h64 => ?_)
    · rw [nI_leI (by omega) (by omega)] at h64
      refine rx_iconst (v := nI 0) dX11_act_85 rfl ?_
      refine rx_istore dX11_act_86 (by decide) ?_
      refine rx_lv (lv' := [(4, .int (nI 0)), (3, .int (nI op)), (2, .int (nI (200 * c))), (1, .int (nI fs.length)), (0, .ref 52)]) ⟨rfl, rfl, rfl, rfl, rfl, trivial⟩ ?_
      exact lm_act1 (mo := 0) hG hop hp hY (fun br hbr => lm_act2 hG hop (by decide) hp hY (fun dp hdp => lm_act3 (Q := fun _ _ => True) hG hp hs1 hk hs hcod hg ho hh hq hb hw he hlow h1 hgo (if_neg (by omega)) hop (by decide) hc hcl hal hoct hbr hdp hY))
    · rw [nI_leI (by omega) (by omega)] at h64
      refine rx_aload_n dX11_act_67 rfl rfl ?_
      refine g_getR hG hf_RX11_7 rfl dX11_act_68 rfl rfl rfl ?_
      refine rx_iload_n dX11_act_71 rfl ?_
      refine rx_aload_n dX11_act_72 rfl rfl ?_
      refine g_getR hG hf_RX11_114 rfl dX11_act_73 rfl rfl rfl ?_
      refine rx_iload_n dX11_act_76 rfl ?_
      refine gmv_iald (j := fs.length) (v := nI a) hG dX11_act_77 rfl rfl rfl rfl (by omega) (by decide) (rY_at hY) ?_
      refine rx_iadd dX11_act_78 ?_
      refine rx_ti (y := nI (a + 200 * c)) ((nI_add _ _).trans (congrArg nI (by omega))) ?_
      refine rx_iconst (v := nI 1) dX11_act_79 rfl ?_
      refine rx_iadd dX11_act_80 ?_
      refine rx_ti (y := nI (a + 200 * c + 1)) ((nI_add _ _).trans (congrArg nI (by omega))) ?_
      refine gmv_iald (j := 200 * c + (a + 1)) (v := nI ((g.1 c).getD (a + 1) 0)) hG dX11_act_81 rfl rfl rfl (congrArg nI (by omega)) (by omega) (by decide) (rY_octet hY hc (by omega)) ?_
      refine rx_goto (tgt := 86) dX11_act_82 (by decide) ?_
      refine rx_istore dX11_act_86 (by decide) ?_
      refine rx_lv (lv' := [(4, .int (nI ((g.1 c).getD (a + 1) 0))), (3, .int (nI op)), (2, .int (nI (200 * c))), (1, .int (nI fs.length)), (0, .ref 52)]) ⟨rfl, rfl, rfl, rfl, rfl, trivial⟩ ?_
      exact lm_act1 (mo := ((g.1 c).getD (a + 1) 0)) hG hop hp hY (fun br hbr => lm_act2 hG hop (hoct _ (by omega)) hp hY (fun dp hdp => lm_act3 (Q := fun _ _ => True) hG hp hs1 hk hs hcod hg ho hh hq hb hw he hlow h1 hgo (if_pos (by omega)) hop (hoct _ (by omega)) hc hcl hal hoct hbr hdp hY))
  · rw [nI_ltI (by omega) (by omega)] at h35
    refine rx_aload_n dX11_act_38 rfl rfl ?_
    refine rx_iconst (v := nI 1) dX11_act_39 rfl ?_
    refine rx_lconst (v := lN 0) dX11_act_40 rfl ?_
    refine gv_invV (as := [.int _, .long _]) hG okX11_finish lk_RX11_231 rfl rfl dX11_act_41 rfl (by simp [Value.category]) (cr_fin1 hG hY (by omega) hlow _) ?_
    rintro _ _ ⟨rfl, _, rfl, hF⟩
    exact rx_vret rfl dX11_act_44 ⟨rfl, _, rfl, rm_onE (va_end (by omega)) hF⟩
/-- the frames within a LOOK are LOOKS -/
def vw_lk : List vf_T → Prop
  | f :: f' :: fs => (fL f' = true → fL f = true) ∧ vw_lk (f' :: fs)
  | _ => True
/-- all that holds of a machine that has x gas besides -/
def vw_W (g : vg_T) (n : Nat → Int64) (e : List (Nat × Int64 × Int64)) (b : Nat) (fs : List vf_T) (m x : Nat) : Prop :=
  (g.2.1 ≤ 16 ∧ (∀ c, c < g.2.1 → vw_code (g.1 c)) ∧ g.2.2.1 < 32 ∧ g.2.2.2 < 100) ∧ (∀ f ∈ fs, vw_F g f ∧ fA f < 256) ∧ (vw_low fs.tail ∧ fs.length ≤ 10) ∧ 15 * e.length + b + m + vw_sum fs + x ≤ 30001 ∧ vw_codes g n ∧ vw_kept g (n, e.length, b) fs ∧ vw_lk fs ∧ (fs ≠ [] → 1 ≤ m)
def vw_Z (g : vg_T) (X : vx_S) : Prop := vw_W g X.1 X.2.1 X.2.2.1 X.2.2.2.1 X.2.2.2.2 0
theorem cr_act {G : rx_E} {d : Nat} {C : rx_M} {S0 S : gs_T} {g : vg_T} {X : vx_S} (hG : rx_OK G) (hZ : vw_Z g X) (hne : X.2.2.2.1 ≠ []) (hY : rm_Y S0 S g X 0) : rx_C G MX11_act (d + 4) [.ref 52] (gl C S) 0 0 (rq_on C S0 g (vm_act g X)) := by
  obtain ⟨n, e, b, fr, m⟩ := X
  match fr, hne with
  | ((c, a, q, s, k), (v, r), (l, o), t, w) :: fs, _ =>
    obtain ⟨⟨h1, h2, h10, h11⟩, h3, ⟨h4, h5⟩, h6, h7, h8, h9, h12⟩ := hZ
    have h3' := List.forall_mem_cons.mp h3
    obtain ⟨⟨f1, ⟨f2, f3, beg, f4, f5⟩, f6, f7, f8⟩, f9⟩ := h3'.1
    have h5' : fs.length + 1 ≤ 10 := h5
    have h6' : 15 * e.length + b + m + (q + vw_sum fs) + 0 ≤ 30001 := h6
    refine cr_act1 hG (by omega) f7 f8 (fun f hf => (h3'.2 f hf).1.2.2.2.1) h7 h1 h10 h11 f6 (by omega) h8.1.1 (by omega) h4 f9 f1 f2 f3 (fun ha => ?_) hY
    exact ⟨(f5 a f4 ha).1, (f5 a f4 ha).2.1⟩

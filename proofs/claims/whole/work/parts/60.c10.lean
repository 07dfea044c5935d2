theorem lc_free {G : rx_E} {d mc ms : Nat} {S : gs_T} {K : Nat → Nat × Nat} {C0 C : rx_M} {g : vg_T} {bs od : Nat} {n : Nat → Int64} {e : List (Nat × Int64 × Int64)} {b m : Nat} {gs : List vf_T} {z : Int32} {Q : Option Value → rx_M → Prop} {Z : String → rx_M → Prop} (hG : rx_OK G) (hY : rc_Y K C0 C g bs od (n, e, b, gs, m) z) (hN10 : gs.length ≤ 10) (hs : ∀ f ∈ gs, fS f < 32) (ho : g.2.2.1 < 32) : ∀ (k i : Nat), i + k = 32 → (∀ a, a < 32 → vm_free n gs g.2.2.1 k i = some a → Q (some (.int (nI a))) (gl C S)) → (vm_free n gs g.2.2.1 k i = none → Q (some (.int (-1))) (gl C S)) → rx_W G MX7_leastFreeAccount (d + 1) 2 [(1, .int (nI i)), (0, .ref 4)] [] (gl C S) mc ms Q Z := by
  intro k
  induction k with
  | zero =>
    intro i hi hq1 hq2
    have hi : i = 32 := by omega
    subst hi
    refine rx_iload_n dX7_leastFreeAccount_2 rfl ?_
    refine rx_bipush (v := nI 32) dX7_leastFreeAccount_3 rfl ?_
    refine rx_icmp_ge (tgt := 43) dX7_leastFreeAccount_5 (by decide) (fun _ => ?_) (fun h => absurd (by decide) h)
    refine rx_iconst (v := -1) dX7_leastFreeAccount_43 rfl ?_
    exact rx_iret rfl dX7_leastFreeAccount_44 (hq2 rfl)
  | succ k ih =>
    intro i hi hq1 hq2
    have hi32 : i < 32 := by omega
    refine rx_iload_n dX7_leastFreeAccount_2 rfl ?_
    refine rx_bipush (v := nI 32) dX7_leastFreeAccount_3 rfl ?_
    refine rx_icmp_ge (tgt := 43) dX7_leastFreeAccount_5 (by decide) (fun h => absurd h (by rw [nI_leI (by omega) (by omega)]; omega)) (fun _ => ?_)
    refine rx_iload_n dX7_leastFreeAccount_8 rfl ?_
    refine rx_aload_n dX7_leastFreeAccount_9 rfl rfl ?_
    refine gcv_getI (v := nI g.2.2.1) hG hf_RX7_57 rfl dX7_leastFreeAccount_10 rfl rfl rfl (rc_orig hY) ?_
    have hnx : ¬ (vm_empty n i ∧ i ≠ g.2.2.1 ∧ ∀ f ∈ gs, fS f ≠ i) → rx_W G MX7_leastFreeAccount (d + 1) 37 [(1, .int (nI i)), (0, .ref 4)] [] (gl C S) mc ms Q Z := by
      intro hno
      refine rx_iinc (v := nI (i + 1)) dX7_leastFreeAccount_37 rfl (nI_add _ 1) ?_
      refine rx_goto (tgt := 2) dX7_leastFreeAccount_40 (by decide) ?_
      refine rx_lv (lv' := [(1, .int (nI (i + 1))), (0, .ref 4)]) ⟨rfl, rfl, trivial⟩ ?_
      rw [vm_free_next hno] at hq1 hq2
      exact ih (i + 1) (by omega) hq1 hq2
    refine rx_icmp_eq (tgt := 37) dX7_leastFreeAccount_13 (by decide) (fun h13 => ?_) (fun h13 => ?_)
    · rw [nI_eq (by omega) (by omega)] at h13
      exact hnx (fun h => h.2.1 h13)
    · rw [nI_eq (by omega) (by omega)] at h13
      refine rx_aload_n dX7_leastFreeAccount_16 rfl rfl ?_
      refine rx_iload_n dX7_leastFreeAccount_17 rfl ?_
      refine gv_invV (as := [.int _]) hG okX7_hasFrame lk_RX7_281 rfl rfl dX7_leastFreeAccount_18 rfl (by simp [Value.category]) (cc_hasFrame hG hY hi32 hN10 hs) ?_
      rintro _ _ ⟨⟨r, hr, rfl⟩, rfl⟩
      rcases hr with ⟨rfl, hr⟩ | ⟨rfl, hr⟩
      · refine rx_if_ne (tgt := 37) dX7_leastFreeAccount_21 (by decide) (fun _ => ?_) (fun h => absurd h (by decide))
        obtain ⟨f, hf, he⟩ := hr
        exact hnx (fun h => h.2.2 f hf he)
      · refine rx_if_ne (tgt := 37) dX7_leastFreeAccount_21 (by decide) (fun h => absurd h (by decide)) (fun _ => ?_)
        refine rx_aload_n dX7_leastFreeAccount_24 rfl rfl ?_
        refine g_getR hG hf_RX7_21 rfl dX7_leastFreeAccount_25 rfl rfl rfl ?_
        refine rx_iload_n dX7_leastFreeAccount_28 rfl ?_
        refine gv_invV (as := [.int _]) hG okX9_isEmpty lk_RX7_284 rfl rfl dX7_leastFreeAccount_29 rfl (by simp [Value.category]) (cs_isEmpty hG hY hi32) ?_
        rintro _ _ ⟨⟨r, hr2, rfl⟩, rfl⟩
        rcases hr2 with ⟨rfl, hr2⟩ | ⟨rfl, hr2⟩
        · refine rx_if_eq (tgt := 37) dX7_leastFreeAccount_32 (by decide) (fun h => absurd h (by decide)) (fun _ => ?_)
          refine rx_iload_n dX7_leastFreeAccount_35 rfl ?_
          exact rx_iret rfl dX7_leastFreeAccount_36 (hq1 i hi32 (vm_free_some ⟨hr2, h13, fun f hf he => hr ⟨f, hf, he⟩⟩))
        · refine rx_if_eq (tgt := 37) dX7_leastFreeAccount_32 (by decide) (fun _ => ?_) (fun h => absurd h (by decide))
          exact hnx (fun h => hr2 h.1)
theorem cc_free {G : rx_E} {d : Nat} {S : gs_T} {K : Nat → Nat × Nat} {C0 C : rx_M} {g : vg_T} {bs od : Nat} {n : Nat → Int64} {e : List (Nat × Int64 × Int64)} {b m : Nat} {gs : List vf_T} {z : Int32} (hG : rx_OK G) (hY : rc_Y K C0 C g bs od (n, e, b, gs, m) z) (hN10 : gs.length ≤ 10) (hs : ∀ f ∈ gs, fS f < 32) (ho : g.2.2.1 < 32) : rx_C G MX7_leastFreeAccount (d + 1) [.ref 4] (gl C S) 0 0 (fun vv mu => ((∃ a, a < 32 ∧ vm_free n gs g.2.2.1 32 0 = some a ∧ vv = some (.int (nI a))) ∨ (vm_free n gs g.2.2.1 32 0 = none ∧ vv = some (.int (-1)))) ∧ mu = gl C S) := by
  refine rx_meth0 (by decide +kernel) rfl (Nat.le_of_ble_eq_true rfl) ?_
  refine rx_iconst (v := nI 0) dX7_leastFreeAccount_0 rfl ?_
  refine rx_istore_n dX7_leastFreeAccount_1 (by decide) ?_
  refine rx_lv (lv' := [(1, .int (nI 0)), (0, .ref 4)]) ⟨rfl, rfl, trivial⟩ ?_
  exact lc_free hG hY hN10 hs ho 32 0 rfl (fun a ha h => ⟨Or.inl ⟨a, ha, h, rfl⟩, rfl⟩) (fun h => ⟨Or.inr ⟨h, rfl⟩, rfl⟩)
theorem nI_m1 {j : Nat} (hj : j < 32) : ¬ nI j = -1 := by
  have h : ∀ j, j < 32 → ¬ nI j = -1 := by decide
  exact h j hj
theorem vmk_no {g : vg_T} {X : vx_S} {c a q s k : Nat} {v r : Int64} {l o : Bool} {t : List Int64} {w : (Nat → Int64) × Nat × Nat} {fs : List vf_T} {x y : Int64} {z : List Int64} (h : vm_free X.1 (((c, a, q, s, k), (v, r), (l, o), z, w) :: fs) g.2.2.1 32 0 = none ∨ (x < 0 ∨ lN g.2.1 ≤ x ∨ y < 0 ∨ X.1 (19 * s) < y)) : vm_make g X y x ((c, a, q, s, k), (v, r), (l, o), z, w) fs t = vm_on X ((c, a, q, s, k), (v, r), (l, o), (-1) :: t, w) fs := by
  cases hf : vm_free X.1 (((c, a, q, s, k), (v, r), (l, o), z, w) :: fs) g.2.2.1 32 0 with
  | none => exact vmk_none hf
  | some j =>
    rcases h with h | h
    · rw [hf] at h; exact absurd h (by simp)
    · exact vmk_bad hf h
set_option maxHeartbeats 1000000 in
theorem cp_make {G : rx_E} {d : Nat} {S : gs_T} {K : Nat → Nat × Nat} {C0 C : rx_M} {g : vg_T} {bs od : Nat} {n : Nat → Int64} {e : List (Nat × Int64 × Int64)} {b m c a q s k : Nat} {v r : Int64} {l o : Bool} {t : List Int64} {w : (Nat → Int64) × Nat × Nat} {fs : List vf_T} {z : Int32} (hG : rx_OK G) {x y : Int64} {t0 t2 : List Int64} (hp : fs.length < 10) (hs1 : s < 32) (hs : ∀ f ∈ fs, fS f < 32) (ho : g.2.2.1 < 32) (hg : g.2.1 ≤ 16) (ht : t.length < 24) (hY : rc_Y K C0 C g bs od (n, e, b, ((c, a, q, s, k), (v, r), (l, o), t, w) :: fs, m) z) : rx_C G MX7_make (d + 2) [.ref 4, .ref (13 + 3 * fs.length), .long y, .long x] (gl C S) 0 0 (rc_out S K C0 g bs od n e b m ((c, a, q, s, k), (v, r), (l, o), t0, w) fs (vm_make g (n, e, b, ((c, a, q, s, k), (v, r), (l, o), t2, w) :: fs, m) y x ((c, a, q, s, k), (v, r), (l, o), t0, w) fs t)) := by
  refine rx_meth0 (by decide +kernel) rfl (Nat.le_of_ble_eq_true rfl) ?_
  have hs' : ∀ f ∈ ((c, a, q, s, k), (v, r), (l, o), t, w) :: fs, fS f < 32 := fun f hf => by rcases List.mem_cons.mp hf with rfl | hf; (exact hs1); exact hs f hf
  refine rx_lload_n dX7_make_0 rfl ?_
  refine rx_lconst (v := 0) dX7_make_1 rfl ?_
  refine rx_lc_lt (tgt := 26) dX7_make_2 dX7_make_3 (by decide) (fun h2 => ?_) (fun h2 => ?_)
  · refine rx_iconst (v := nI 0) dX7_make_26 rfl ?_
    refine rx_istore dX7_make_27 (by decide) ?_
    refine rx_iload dX7_make_29 rfl ?_
    refine rx_if_eq (tgt := 53) dX7_make_31 (by decide) (fun h31 => ?_) (fun h31 => (absurd h31 (by decide))) 
    refine rx_iconst (v := -1) dX7_make_53 rfl ?_
    refine rx_istore dX7_make_54 (by decide) ?_
    refine rx_iload dX7_make_56 rfl ?_
    refine rx_iconst (v := -1) dX7_make_58 rfl ?_
    refine rx_icmp_eq (tgt := 87) dX7_make_59 (by decide) (fun h59 => ?_) (fun h59 => (absurd rfl h59)) 
    refine rx_aload_n dX7_make_87 rfl rfl ?_
    refine rx_iload dX7_make_88 rfl ?_
    refine rx_i2l dX7_make_90 ?_
    refine rx_tl (y := (-1)) rfl ?_
    refine gv_invV (as := [.long _]) hG okX6_push lk_RX7_198 (gkF_f hp) (gkF_k hp) dX7_make_91 rfl (by simp [Value.category]) (cc_push hG hY hp (by (try simp only [List.length_cons, List.length_nil]); omega) _) ?_
    rintro _ _ ⟨rfl, _, rfl, hY1⟩
    refine rx_iconst (v := nI 0) dX7_make_94 rfl ?_
    exact rx_iret rfl dX7_make_95 (rc_out0 (vmk_no (Or.inr (Or.inr (Or.inr (Or.inl h2))))) hY1)
  · refine rx_lload_n dX7_make_6 rfl ?_
    refine rx_aload_n dX7_make_7 rfl rfl ?_
    refine g_getR hG hf_RX7_21 rfl dX7_make_8 rfl rfl rfl ?_
    refine rx_aload_n dX7_make_11 rfl rfl ?_
    refine gcv_getI (v := nI s) hG hf_RX7_160 rfl dX7_make_12 (gkF_m hp) (gkF_f hp) (gkF_k hp) (rc_self hY) ?_
    refine gv_invV (as := [.int _]) hG okX9_balanceOf lk_RX7_154 rfl rfl dX7_make_15 rfl (by simp [Value.category]) (cs_balanceE hG hY hs1) ?_
    rintro _ _ ⟨rfl, rfl⟩
    refine rx_lc_gt (tgt := 26) dX7_make_18 dX7_make_19 (by decide) (fun h18 => ?_) (fun h18 => ?_)
    · refine rx_iconst (v := nI 0) dX7_make_26 rfl ?_
      refine rx_istore dX7_make_27 (by decide) ?_
      refine rx_iload dX7_make_29 rfl ?_
      refine rx_if_eq (tgt := 53) dX7_make_31 (by decide) (fun h31 => ?_) (fun h31 => (absurd h31 (by decide))) 
      refine rx_iconst (v := -1) dX7_make_53 rfl ?_
      refine rx_istore dX7_make_54 (by decide) ?_
      refine rx_iload dX7_make_56 rfl ?_
      refine rx_iconst (v := -1) dX7_make_58 rfl ?_
      refine rx_icmp_eq (tgt := 87) dX7_make_59 (by decide) (fun h59 => ?_) (fun h59 => (absurd rfl h59)) 
      refine rx_aload_n dX7_make_87 rfl rfl ?_
      refine rx_iload dX7_make_88 rfl ?_
      refine rx_i2l dX7_make_90 ?_
      refine rx_tl (y := (-1)) rfl ?_
      refine gv_invV (as := [.long _]) hG okX6_push lk_RX7_198 (gkF_f hp) (gkF_k hp) dX7_make_91 rfl (by simp [Value.category]) (cc_push hG hY hp (by (try simp only [List.length_cons, List.length_nil]); omega) _) ?_
      rintro _ _ ⟨rfl, _, rfl, hY1⟩
      refine rx_iconst (v := nI 0) dX7_make_94 rfl ?_
      exact rx_iret rfl dX7_make_95 (rc_out0 (vmk_no (Or.inr (Or.inr (Or.inr (Or.inr h18))))) hY1)
    · refine rx_iconst (v := nI 1) dX7_make_22 rfl ?_
      refine rx_goto (tgt := 27) dX7_make_23 (by decide) ?_
      refine rx_istore dX7_make_27 (by decide) ?_
      refine rx_iload dX7_make_29 rfl ?_
      refine rx_if_eq (tgt := 53) dX7_make_31 (by decide) (fun h31 => (absurd h31 (by decide))) (fun h31 => ?_)
      refine rx_aload_n dX7_make_34 rfl rfl ?_
      refine g_getR hG hf_RX7_12 rfl dX7_make_35 rfl rfl rfl ?_
      refine rx_lload dX7_make_38 rfl ?_
      refine gv_invV (as := [.long _]) hG okX3_has lk_RX7_126 rfl rfl dX7_make_40 rfl (by simp [Value.category]) (cc_has hG (rc_many hY) hg) ?_
      rintro _ _ ⟨⟨r, hr, rfl⟩, rfl⟩
      rcases hr with ⟨rfl, hr⟩ | ⟨rfl, hr⟩
      · refine rx_if_eq (tgt := 53) dX7_make_43 (by decide) (fun h43 => (absurd h43 (by decide))) (fun h43 => ?_)
        refine rx_aload_n dX7_make_46 rfl rfl ?_
        refine gv_invV (as := []) hG okX7_leastFreeAccount lk_RX7_274 rfl rfl dX7_make_47 rfl (by simp [Value.category]) (cc_free (gs := ((c, a, q, s, k), (v, r), (l, o), t, w) :: fs) hG hY (by simp; omega) hs' ho) ?_
        rintro _ _ ⟨hr2, rfl⟩
        rcases hr2 with ⟨j, hj, hfr, rfl⟩ | ⟨hfr, rfl⟩
        · refine rx_goto (tgt := 54) dX7_make_50 (by decide) ?_
          refine rx_istore dX7_make_54 (by decide) ?_
          refine rx_iload dX7_make_56 rfl ?_
          refine rx_iconst (v := -1) dX7_make_58 rfl ?_
          refine rx_icmp_eq (tgt := 87) dX7_make_59 (by decide) (fun h59 => (absurd h59 (nI_m1 hj))) (fun h59 => ?_)
          refine rx_aload_n dX7_make_62 rfl rfl ?_
          refine g_getR hG hf_RX7_21 rfl dX7_make_63 rfl rfl rfl ?_
          refine rx_aload_n dX7_make_66 rfl rfl ?_
          refine gcv_getI (v := nI s) hG hf_RX7_160 rfl dX7_make_67 (gkF_m hp) (gkF_f hp) (gkF_k hp) (rc_self hY) ?_
          refine rx_iload dX7_make_70 rfl ?_
          refine rx_lload_n dX7_make_72 rfl ?_
          refine gv_invV (as := [.int _, .int _, .long _]) hG okX9_move lk_RX7_136 rfl rfl dX7_make_73 rfl (by simp [Value.category]) (cs_move hG hY hs1 hj) ?_
          rintro _ _ ⟨rfl, _, rfl, hY1⟩
          refine rx_aload_n dX7_make_76 rfl rfl ?_
          refine g_getR hG hf_RX7_21 rfl dX7_make_77 rfl rfl rfl ?_
          refine rx_iload dX7_make_80 rfl ?_
          refine rx_lload dX7_make_82 rfl ?_
          refine gv_invV (as := [.int _, .long _]) hG okX9_setCode lk_RX7_277 rfl rfl dX7_make_84 rfl (by simp [Value.category]) (cs_setCode hG hY1 hj) ?_
          rintro _ _ ⟨rfl, _, rfl, hY2⟩
          refine rx_aload_n dX7_make_87 rfl rfl ?_
          refine rx_iload dX7_make_88 rfl ?_
          refine rx_i2l dX7_make_90 ?_
          refine rx_tl (y := lN j) (nI_l (by omega)) ?_
          refine gv_invV (as := [.long _]) hG okX6_push lk_RX7_198 (gkF_f hp) (gkF_k hp) dX7_make_91 rfl (by simp [Value.category]) (cc_push hG hY2 hp (by (try simp only [List.length_cons, List.length_nil]); omega) _) ?_
          rintro _ _ ⟨rfl, _, rfl, hY3⟩
          refine rx_iconst (v := nI 0) dX7_make_94 rfl ?_
          exact rx_iret rfl dX7_make_95 (rc_out0 (vmk_ok ((vm_free_congr (f := ((c, a, q, s, k), (v, r), (l, o), t0, w)) (f' := ((c, a, q, s, k), (v, r), (l, o), t, w)) rfl 32 0).trans hfr) (fun h => by rcases h with h | h | h | h; (exact hr.1 h); (exact hr.2 h); (exact h2 h); (exact h18 h))) hY3)
        · refine rx_goto (tgt := 54) dX7_make_50 (by decide) ?_
          refine rx_istore dX7_make_54 (by decide) ?_
          refine rx_iload dX7_make_56 rfl ?_
          refine rx_iconst (v := -1) dX7_make_58 rfl ?_
          refine rx_icmp_eq (tgt := 87) dX7_make_59 (by decide) (fun h59 => ?_) (fun h59 => (absurd rfl h59)) 
          refine rx_aload_n dX7_make_87 rfl rfl ?_
          refine rx_iload dX7_make_88 rfl ?_
          refine rx_i2l dX7_make_90 ?_
          refine rx_tl (y := (-1)) rfl ?_
          refine gv_invV (as := [.long _]) hG okX6_push lk_RX7_198 (gkF_f hp) (gkF_k hp) dX7_make_91 rfl (by simp [Value.category]) (cc_push hG hY hp (by (try simp only [List.length_cons, List.length_nil]); omega) _) ?_
          rintro _ _ ⟨rfl, _, rfl, hY1⟩
          refine rx_iconst (v := nI 0) dX7_make_94 rfl ?_
          exact rx_iret rfl dX7_make_95 (rc_out0 (vmk_no (Or.inl ((vm_free_congr (f := ((c, a, q, s, k), (v, r), (l, o), t0, w)) (f' := ((c, a, q, s, k), (v, r), (l, o), t, w)) rfl 32 0).trans hfr))) hY1)
      · refine rx_if_eq (tgt := 53) dX7_make_43 (by decide) (fun h43 => ?_) (fun h43 => (absurd h43 (by decide))) 
        refine rx_iconst (v := -1) dX7_make_53 rfl ?_
        refine rx_istore dX7_make_54 (by decide) ?_
        refine rx_iload dX7_make_56 rfl ?_
        refine rx_iconst (v := -1) dX7_make_58 rfl ?_
        refine rx_icmp_eq (tgt := 87) dX7_make_59 (by decide) (fun h59 => ?_) (fun h59 => (absurd rfl h59)) 
        refine rx_aload_n dX7_make_87 rfl rfl ?_
        refine rx_iload dX7_make_88 rfl ?_
        refine rx_i2l dX7_make_90 ?_
        refine rx_tl (y := (-1)) rfl ?_
        refine gv_invV (as := [.long _]) hG okX6_push lk_RX7_198 (gkF_f hp) (gkF_k hp) dX7_make_91 rfl (by simp [Value.category]) (cc_push hG hY hp (by (try simp only [List.length_cons, List.length_nil]); omega) _) ?_
        rintro _ _ ⟨rfl, _, rfl, hY1⟩
        refine rx_iconst (v := nI 0) dX7_make_94 rfl ?_
        exact rx_iret rfl dX7_make_95 (rc_out0 (vmk_no (Or.inr (by rcases hr with h | h; (exact Or.inl h); (exact Or.inr (Or.inl h))))) hY1)
theorem cp_become {G : rx_E} {d : Nat} {S : gs_T} {K : Nat → Nat × Nat} {C0 C : rx_M} {g : vg_T} {bs od : Nat} {n : Nat → Int64} {e : List (Nat × Int64 × Int64)} {b m c a q s k : Nat} {v r : Int64} {l o : Bool} {t : List Int64} {w : (Nat → Int64) × Nat × Nat} {fs : List vf_T} {z : Int32} (hG : rx_OK G) {y : Int64} {t0 t2 : List Int64} (hp : fs.length < 10) (hs1 : s < 32) (hg : g.2.1 ≤ 16) (hY : rc_Y K C0 C g bs od (n, e, b, ((c, a, q, s, k), (v, r), (l, o), t, w) :: fs, m) z) : rx_C G MX7_become (d + 2) [.ref 4, .ref (13 + 3 * fs.length), .long y] (gl C S) 0 0 (rc_out S K C0 g bs od n e b m ((c, a, q, s, k), (v, r), (l, o), t0, w) fs (if y < 0 ∨ lN g.2.1 ≤ y then vm_end (n, e, b, ((c, a, q, s, k), (v, r), (l, o), t2, w) :: fs, m) ((c, a, q, s, k), (v, r), (l, o), t, w) fs 3 0 else vm_on (up1 n (19 * s + 2) (y + 1), ((n, e, b, ((c, a, q, s, k), (v, r), (l, o), t2, w) :: fs, m) : vx_S).2) ((c, a, q, s, k), (v, r), (l, o), t, w) fs)) := by
  refine rx_meth0 (by decide +kernel) rfl (Nat.le_of_ble_eq_true rfl) ?_
  refine rx_aload_n dX7_become_0 rfl rfl ?_
  refine g_getR hG hf_RX7_12 rfl dX7_become_1 rfl rfl rfl ?_
  refine rx_lload_n dX7_become_4 rfl ?_
  refine gv_invV (as := [.long _]) hG okX3_has lk_RX7_126 rfl rfl dX7_become_5 rfl (by simp [Value.category]) (cc_has hG (rc_many hY) hg) ?_
  rintro _ _ ⟨⟨r, hr, rfl⟩, rfl⟩
  rcases hr with ⟨rfl, hr⟩ | ⟨rfl, hr⟩
  · refine rx_if_ne (tgt := 13) dX7_become_8 (by decide) (fun h8 => ?_) (fun h8 => (absurd h8 (by decide))) 
    refine rx_aload_n dX7_become_13 rfl rfl ?_
    refine g_getR hG hf_RX7_21 rfl dX7_become_14 rfl rfl rfl ?_
    refine rx_aload_n dX7_become_17 rfl rfl ?_
    refine gcv_getI (v := nI s) hG hf_RX7_160 rfl dX7_become_18 (gkF_m hp) (gkF_f hp) (gkF_k hp) (rc_self hY) ?_
    refine rx_lload_n dX7_become_21 rfl ?_
    refine gv_invV (as := [.int _, .long _]) hG okX9_setCode lk_RX7_277 rfl rfl dX7_become_22 rfl (by simp [Value.category]) (cs_setCode hG hY hs1) ?_
    rintro _ _ ⟨rfl, _, rfl, hY2⟩
    refine rx_iconst (v := nI 0) dX7_become_25 rfl ?_
    exact rx_iret rfl dX7_become_26 (rc_out0 (if_neg (fun h => h.elim hr.1 hr.2)) hY2)
  · refine rx_if_ne (tgt := 13) dX7_become_8 (by decide) (fun h8 => (absurd h8 (by decide))) (fun h8 => ?_)
    refine rx_iconst (v := nI 3) dX7_become_11 rfl ?_
    exact rx_iret rfl dX7_become_12 (rc_out3 (if_pos hr) (fun _ => rfl) (Nat.le_refl _) hY)
theorem cp_emit {G : rx_E} {d : Nat} {S : gs_T} {K : Nat → Nat × Nat} {C0 C : rx_M} {g : vg_T} {bs od : Nat} {n : Nat → Int64} {e : List (Nat × Int64 × Int64)} {b m c a q s k : Nat} {v r : Int64} {l o : Bool} {t : List Int64} {w : (Nat → Int64) × Nat × Nat} {fs : List vf_T} {z : Int32} (hG : rx_OK G) {x y : Int64} {t0 t2 : List Int64} (hp : fs.length < 10) (hs1 : s < 32) (hod : od < 10) (hbs : bs + e.length ≤ 40000) (hY : rc_Y K C0 C g bs od (n, e, b, ((c, a, q, s, k), (v, r), (l, o), t, w) :: fs, m) z) : rx_C G MX7_emit (d + 1) [.ref 4, .ref (13 + 3 * fs.length), .long y, .long x] (gl C S) 0 0 (rc_out S K C0 g bs od n e b m ((c, a, q, s, k), (v, r), (l, o), t0, w) fs (vm_on (((n, e, b, ((c, a, q, s, k), (v, r), (l, o), t2, w) :: fs, m) : vx_S).1, (s, x, y) :: ((n, e, b, ((c, a, q, s, k), (v, r), (l, o), t2, w) :: fs, m) : vx_S).2.1, ((n, e, b, ((c, a, q, s, k), (v, r), (l, o), t2, w) :: fs, m) : vx_S).2.2) ((c, a, q, s, k), (v, r), (l, o), t, w) fs)) := by
  refine rx_meth0 (by decide +kernel) rfl (Nat.le_of_ble_eq_true rfl) ?_
  refine rx_aload_n dX7_emit_0 rfl rfl ?_
  refine g_getR hG hf_RX7_28 rfl dX7_emit_1 rfl rfl rfl ?_
  refine rx_aload_n dX7_emit_4 rfl rfl ?_
  refine gcv_getI (v := nI s) hG hf_RX7_160 rfl dX7_emit_5 (gkF_m hp) (gkF_f hp) (gkF_k hp) (rc_self hY) ?_
  refine rx_lload dX7_emit_8 rfl ?_
  refine rx_lload_n dX7_emit_10 rfl ?_
  refine gv_invV (as := [.int _, .long _, .long _]) hG okX5_add lk_RX7_287 rfl rfl dX7_emit_11 rfl (by simp [Value.category]) (cs_add hG hY hs1 hod (by omega)) ?_
  rintro _ _ ⟨rfl, _, rfl, hY1⟩
  refine rx_iconst (v := nI 0) dX7_emit_14 rfl ?_
  exact rx_iret rfl dX7_emit_15 (rc_out0 rfl hY1)
theorem vm_clE {n : Nat → Int64} {j s : Nat} (hj : j ≠ s) : vm_clc (up1 (up1 (up1 n (19 * s) (n (19 * s) - n (19 * s))) (19 * j) ((up1 n (19 * s) (n (19 * s) - n (19 * s))) (19 * j) + n (19 * s))) (19 * s + 2) (-1 + 1)) s 16 = vm_clear (up1 (up1 n (19 * j) (n (19 * j) + n (19 * s))) (19 * s) 0) s := by
  funext i
  unfold vm_clc vm_clear up1
  by_cases h1 : 19 * s + 3 ≤ i ∧ i < 19 * s + 3 + 16
  · rw [if_pos h1, if_pos (by omega)]
  · rw [if_neg h1]
    by_cases h2 : i = 19 * s + 2
    · rw [if_pos h2, if_pos (by omega)]; decide
    · rw [if_neg h2, if_neg (show ¬ (19 * s + 2 ≤ i ∧ i < 19 * s + 19) by omega), if_neg (show ¬ 19 * j = 19 * s by omega)]
      by_cases h3 : i = 19 * s
      · rw [if_neg (show ¬ i = 19 * j by omega), if_pos h3, if_pos h3, Int64.sub_self]
      · rw [if_neg h3, if_neg h3]
theorem cp_close {G : rx_E} {d : Nat} {S : gs_T} {K : Nat → Nat × Nat} {C0 C : rx_M} {g : vg_T} {bs od : Nat} {n : Nat → Int64} {e : List (Nat × Int64 × Int64)} {b m c a q s k : Nat} {v r : Int64} {l o : Bool} {t : List Int64} {w : (Nat → Int64) × Nat × Nat} {fs : List vf_T} {z : Int32} (hG : rx_OK G) {y : Int64} {t0 t2 : List Int64} (hp : fs.length < 10) (hs1 : s < 32) (hl : l = false) (hY : rc_Y K C0 C g bs od (n, e, b, ((c, a, q, s, k), (v, r), (l, o), t, w) :: fs, m) z) : rx_C G MX7_close (d + 2) [.ref 4, .ref (13 + 3 * fs.length), .long y] (gl C S) 0 0 (rc_out S K C0 g bs od n e b m ((c, a, q, s, k), (v, r), (l, o), t0, w) fs (vm_close (n, e, b, ((c, a, q, s, k), (v, r), (l, o), t2, w) :: fs, m) y ((c, a, q, s, k), (v, r), (l, o), t0, w) fs t)) := by
  refine rx_meth0 (by decide +kernel) rfl (Nat.le_of_ble_eq_true rfl) ?_
  by_cases hac : vm_acct y
  · obtain ⟨j, hj, rfl⟩ := lN_acct hac
    refine rx_lload_n dX7_close_0 rfl ?_
    refine rx_invS0 (as := [.long _]) hG okX10_isAccount lk_RX7_151 dX7_close_1 rfl (by simp [Value.category]) (cc_isAccount hG) ?_
    rintro _ _ ⟨⟨r, hr, rfl⟩, rfl⟩
    rcases hr with ⟨rfl, hr⟩ | ⟨rfl, hr⟩
    rotate_left
    · exact absurd hac hr
    refine rx_if_eq (tgt := 17) dX7_close_4 (by decide) (fun h4 => (absurd h4 (by decide))) (fun h4 => ?_)
    refine rx_lload_n dX7_close_7 rfl ?_
    refine rx_aload_n dX7_close_8 rfl rfl ?_
    refine gcv_getI (v := nI s) hG hf_RX7_160 rfl dX7_close_9 (gkF_m hp) (gkF_f hp) (gkF_k hp) (rc_self hY) ?_
    refine rx_i2l dX7_close_12 ?_
    refine rx_tl (y := lN s) (nI_l (by omega)) ?_
    refine rx_lc_ne (tgt := 19) dX7_close_13 dX7_close_14 (by decide) (fun h13 => ?_) (fun h13 => ?_)
    · rw [lN_eq (by omega) (by omega)] at h13
      refine rx_aload_n dX7_close_19 rfl rfl ?_
      refine g_getR hG hf_RX7_21 rfl dX7_close_20 rfl rfl rfl ?_
      refine rx_aload_n dX7_close_23 rfl rfl ?_
      refine gcv_getI (v := nI s) hG hf_RX7_160 rfl dX7_close_24 (gkF_m hp) (gkF_f hp) (gkF_k hp) (rc_self hY) ?_
      refine rx_lload_n dX7_close_27 rfl ?_
      refine rx_l2i dX7_close_28 ?_
      refine rx_ti (y := nI j) (lN_i _) ?_
      refine rx_aload_n dX7_close_29 rfl rfl ?_
      refine g_getR hG hf_RX7_21 rfl dX7_close_30 rfl rfl rfl ?_
      refine rx_aload_n dX7_close_33 rfl rfl ?_
      refine gcv_getI (v := nI s) hG hf_RX7_160 rfl dX7_close_34 (gkF_m hp) (gkF_f hp) (gkF_k hp) (rc_self hY) ?_
      refine gv_invV (as := [.int _]) hG okX9_balanceOf lk_RX7_154 rfl rfl dX7_close_37 rfl (by simp [Value.category]) (cs_balanceE hG hY hs1) ?_
      rintro _ _ ⟨rfl, rfl⟩
      refine gv_invV (as := [.int _, .int _, .long _]) hG okX9_move lk_RX7_136 rfl rfl dX7_close_40 rfl (by simp [Value.category]) (cs_move hG hY hs1 hj) ?_
      rintro _ _ ⟨rfl, _, rfl, hY3⟩
      refine rx_aload_n dX7_close_43 rfl rfl ?_
      refine g_getR hG hf_RX7_21 rfl dX7_close_44 rfl rfl rfl ?_
      refine rx_aload_n dX7_close_47 rfl rfl ?_
      refine gcv_getI (v := nI s) hG hf_RX7_160 rfl dX7_close_48 (gkF_m hp) (gkF_f hp) (gkF_k hp) (rc_self hY3) ?_
      refine rx_ldc2 hG hw_866 dX7_close_51 ?_
      refine gv_invV (as := [.int _, .long _]) hG okX9_setCode lk_RX7_277 rfl rfl dX7_close_54 rfl (by simp [Value.category]) (cs_setCode hG hY3 hs1) ?_
      rintro _ _ ⟨rfl, _, rfl, hY4⟩
      refine rx_aload_n dX7_close_57 rfl rfl ?_
      refine g_getR hG hf_RX7_21 rfl dX7_close_58 rfl rfl rfl ?_
      refine rx_aload_n dX7_close_61 rfl rfl ?_
      refine gcv_getI (v := nI s) hG hf_RX7_160 rfl dX7_close_62 (gkF_m hp) (gkF_f hp) (gkF_k hp) (rc_self hY4) ?_
      refine gv_invV (as := [.int _]) hG okX9_clearCells lk_RX7_293 rfl rfl dX7_close_65 rfl (by simp [Value.category]) (cs_clear hG hY4 hs1) ?_
      rintro _ _ ⟨rfl, _, rfl, hY5⟩
      refine rx_aload_n dX7_close_68 rfl rfl ?_
      refine rx_iconst (v := nI 1) dX7_close_69 rfl ?_
      refine rx_lconst (v := 0) dX7_close_70 rfl ?_
      refine gv_invV (as := [.int _, .long _]) hG okX7_endWith lk_RX7_202 rfl rfl dX7_close_71 rfl (by simp [Value.category]) (cp_endWith hG hY5) ?_
      rintro _ _ ⟨rfl, _, rfl, hY6, hA⟩
      exact rx_iret rfl dX7_close_74 (rc_outW (Or.inl rfl) ((vd5_38 hj (fun q => h13 (by rw [lN_eq (by omega) (by omega)] at q; exact q))).trans (by rw [← vm_clE (fun q => h13 q)]; rfl)) (fun h => absurd (hl.symm.trans h) (by decide)) (Nat.le_refl _) hY6 hA)
    · rw [lN_eq (by omega) (by omega)] at h13
      refine rx_iconst (v := nI 3) dX7_close_17 rfl ?_
      exact rx_iret rfl dX7_close_18 (rc_out3 (vd5_38b (Or.inr (congrArg lN h13))) (fun _ => rfl) (Nat.le_refl _) hY)
  · skip
    refine rx_lload_n dX7_close_0 rfl ?_
    refine rx_invS0 (as := [.long _]) hG okX10_isAccount lk_RX7_151 dX7_close_1 rfl (by simp [Value.category]) (cc_isAccount hG) ?_
    rintro _ _ ⟨⟨r, hr, rfl⟩, rfl⟩
    rcases hr with ⟨rfl, hr⟩ | ⟨rfl, hr⟩
    · exact absurd hr hac
    refine rx_if_eq (tgt := 17) dX7_close_4 (by decide) (fun h4 => ?_) (fun h4 => (absurd h4 (by decide))) 
    refine rx_iconst (v := nI 3) dX7_close_17 rfl ?_
    exact rx_iret rfl dX7_close_18 (rc_out3 (vd5_38b (Or.inl hac)) (fun _ => rfl) (Nat.le_refl _) hY)
theorem cc_changes {G : rx_E} {d : Nat} {op : Nat} {mu : rx_M} (hG : rx_OK G) (hop : op < 40) : rx_C G MX7_changesState d [.int (nI op)] mu 0 0 (fun v m => (∃ r, ((r = 1 ∧ vm_bars op = true) ∨ (r = 0 ∧ vm_bars op = false)) ∧ v = some (.int (nI r))) ∧ m = mu) := by
  refine rx_meth0 (by decide +kernel) rfl (Nat.le_of_ble_eq_true rfl) ?_
  refine rx_iload_n dX7_changesState_0 rfl ?_
  refine rx_bipush (v := nI 22) dX7_changesState_1 rfl ?_
  refine rx_icmp_eq (tgt := 30) dX7_changesState_3 (by decide) (fun h3 => ?_) (fun h3 => ?_)
  · rw [nI_eq (by omega) (by omega)] at h3
    refine rx_iconst (v := nI 1) dX7_changesState_30 rfl ?_
    refine rx_goto (tgt := 35) dX7_changesState_31 (by decide) ?_
    exact rx_zret rfl rfl dX7_changesState_35 ⟨⟨1, Or.inl ⟨rfl, by simp [vm_bars]; omega⟩, rfl⟩, rfl⟩
  · rw [nI_eq (by omega) (by omega)] at h3
    refine rx_iload_n dX7_changesState_6 rfl ?_
    refine rx_bipush (v := nI 33) dX7_changesState_7 rfl ?_
    refine rx_icmp_eq (tgt := 30) dX7_changesState_9 (by decide) (fun h9 => ?_) (fun h9 => ?_)
    · rw [nI_eq (by omega) (by omega)] at h9
      refine rx_iconst (v := nI 1) dX7_changesState_30 rfl ?_
      refine rx_goto (tgt := 35) dX7_changesState_31 (by decide) ?_
      exact rx_zret rfl rfl dX7_changesState_35 ⟨⟨1, Or.inl ⟨rfl, by simp [vm_bars]; omega⟩, rfl⟩, rfl⟩
    · rw [nI_eq (by omega) (by omega)] at h9
      refine rx_iload_n dX7_changesState_12 rfl ?_
      refine rx_bipush (v := nI 34) dX7_changesState_13 rfl ?_
      refine rx_icmp_eq (tgt := 30) dX7_changesState_15 (by decide) (fun h15 => ?_) (fun h15 => ?_)
      · rw [nI_eq (by omega) (by omega)] at h15
        refine rx_iconst (v := nI 1) dX7_changesState_30 rfl ?_
        refine rx_goto (tgt := 35) dX7_changesState_31 (by decide) ?_
        exact rx_zret rfl rfl dX7_changesState_35 ⟨⟨1, Or.inl ⟨rfl, by simp [vm_bars]; omega⟩, rfl⟩, rfl⟩
      · rw [nI_eq (by omega) (by omega)] at h15
        refine rx_iload_n dX7_changesState_18 rfl ?_
        refine rx_bipush (v := nI 35) dX7_changesState_19 rfl ?_
        refine rx_icmp_eq (tgt := 30) dX7_changesState_21 (by decide) (fun h21 => ?_) (fun h21 => ?_)
        · rw [nI_eq (by omega) (by omega)] at h21
          refine rx_iconst (v := nI 1) dX7_changesState_30 rfl ?_
          refine rx_goto (tgt := 35) dX7_changesState_31 (by decide) ?_
          exact rx_zret rfl rfl dX7_changesState_35 ⟨⟨1, Or.inl ⟨rfl, by simp [vm_bars]; omega⟩, rfl⟩, rfl⟩
        · rw [nI_eq (by omega) (by omega)] at h21
          refine rx_iload_n dX7_changesState_24 rfl ?_
          refine rx_bipush (v := nI 38) dX7_changesState_25 rfl ?_
          refine rx_icmp_ne (tgt := 34) dX7_changesState_27 (by decide) (fun h27 => ?_) (fun h27 => ?_)
          · rw [nI_eq (by omega) (by omega)] at h27
            refine rx_iconst (v := nI 0) dX7_changesState_34 rfl ?_
            exact rx_zret rfl rfl dX7_changesState_35 ⟨⟨0, Or.inr ⟨rfl, by simp [vm_bars]; omega⟩, rfl⟩, rfl⟩
          · rw [nI_eq (by omega) (by omega)] at h27
            refine rx_iconst (v := nI 1) dX7_changesState_30 rfl ?_
            refine rx_goto (tgt := 35) dX7_changesState_31 (by decide) ?_
            exact rx_zret rfl rfl dX7_changesState_35 ⟨⟨1, Or.inl ⟨rfl, by simp [vm_bars]; omega⟩, rfl⟩, rfl⟩

theorem lm_isEmpty {G : rx_E} {d mc ms : Nat} {C : rx_M} {S : gs_T} {Q : Option Value → rx_M → Prop} {Z : String → rx_M → Prop} (hG : rx_OK G) {a : Nat} (ha : a < 32) (hQ : ∀ v, (v = 0 ∧ (∃ j, j < 19 ∧ ¬ S.2 82 (19 * a + j) = 0)) ∨ (v = 1 ∧ ¬ ∃ j, j < 19 ∧ ¬ S.2 82 (19 * a + j) = 0) → Q (some (.int (nI v))) (gl C S)) : ∀ (k i v : Nat), i + k = 19 → ((v = 0 ∧ ∃ j, j < i ∧ ¬ S.2 82 (19 * a + j) = 0) ∨ (v = 1 ∧ ¬ ∃ j, j < i ∧ ¬ S.2 82 (19 * a + j) = 0)) → rx_W G MX11_isEmpty d 4 [(3, .int (nI i)), (2, .int (nI v)), (1, .int (nI a)), (0, .ref 52)] [] (gl C S) mc ms Q Z := by
  intro k
  induction k with
  | zero =>
    intro i v hi hv
    have hi : i = 19 := by omega
    subst hi
    refine rx_iload_n dX11_isEmpty_4 rfl ?_
    refine rx_bipush (v := nI 19) dX11_isEmpty_5 rfl ?_
    refine rx_icmp_ge (tgt := 42) dX11_isEmpty_7 (by decide) (fun h7 => ?_) (fun h7 => absurd (by rw [nI_leI (by omega) (by omega)]; omega) h7) 
    refine rx_iload_n dX11_isEmpty_42 rfl ?_
    exact rx_zret rfl (by rcases hv with ⟨rfl, -⟩ | ⟨rfl, -⟩ <;> rfl) dX11_isEmpty_43 (hQ v hv)
  | succ k ih =>
    intro i v hi hv
    rcases hv with ⟨rfl, hv⟩ | ⟨rfl, hv⟩
    · refine rx_iload_n dX11_isEmpty_4 rfl ?_
      refine rx_bipush (v := nI 19) dX11_isEmpty_5 rfl ?_
      refine rx_icmp_ge (tgt := 42) dX11_isEmpty_7 (by decide) (fun h7 => absurd h7 (by rw [nI_leI (by omega) (by omega)]; omega)) (fun h7 => ?_)
      refine rx_iload_n dX11_isEmpty_10 rfl ?_
      refine rx_if_eq (tgt := 34) dX11_isEmpty_11 (by decide) (fun h11 => ?_) (fun h11 => (absurd h11 (by decide))) 
      refine rx_iconst (v := nI 0) dX11_isEmpty_34 rfl ?_
      refine rx_istore_n dX11_isEmpty_35 (by decide) ?_
      refine rx_iinc (v := nI (i + 1)) dX11_isEmpty_36 rfl ((nI_add _ 1).trans (congrArg nI (by omega))) ?_
      refine rx_goto (tgt := 4) dX11_isEmpty_39 (by decide) ?_
      refine rx_lv (lv' := [(3, .int (nI (i + 1))), (2, .int (nI 0)), (1, .int (nI a)), (0, .ref 52)]) ⟨rfl, rfl, rfl, rfl, trivial⟩ ?_
      exact ih (i + 1) 0 (by omega) (Or.inl ⟨rfl, by obtain ⟨j, h1, h2⟩ := hv; exact ⟨j, by omega, h2⟩⟩)
    · refine rx_iload_n dX11_isEmpty_4 rfl ?_
      refine rx_bipush (v := nI 19) dX11_isEmpty_5 rfl ?_
      refine rx_icmp_ge (tgt := 42) dX11_isEmpty_7 (by decide) (fun h7 => absurd h7 (by rw [nI_leI (by omega) (by omega)]; omega)) (fun h7 => ?_)
      refine rx_iload_n dX11_isEmpty_10 rfl ?_
      refine rx_if_eq (tgt := 34) dX11_isEmpty_11 (by decide) (fun h11 => (absurd h11 (by decide))) (fun h11 => ?_)
      refine rx_aload_n dX11_isEmpty_14 rfl rfl ?_
      refine g_getR hG hf_RX11_99 rfl dX11_isEmpty_15 rfl rfl rfl ?_
      refine rx_bipush (v := nI 19) dX11_isEmpty_18 rfl ?_
      refine rx_iload_n dX11_isEmpty_20 rfl ?_
      refine rx_imul dX11_isEmpty_21 ?_
      refine rx_ti (y := nI (19 * a)) ((pk_mul _ _).trans (congrArg nI (by omega))) ?_
      refine rx_iload_n dX11_isEmpty_22 rfl ?_
      refine rx_iadd dX11_isEmpty_23 ?_
      refine rx_ti (y := nI (19 * a + i)) ((nI_add _ _).trans (congrArg nI (by omega))) ?_
      refine gmv_lald (j := 19 * a + i) (v := S.2 82 (19 * a + i)) hG dX11_isEmpty_24 rfl rfl rfl rfl (by omega) (by decide) rfl ?_
      refine rx_lconst (v := 0) dX11_isEmpty_25 rfl ?_
      refine rx_lc_ne (tgt := 34) dX11_isEmpty_26 dX11_isEmpty_27 (by decide) (fun h26 => ?_) (fun h26 => ?_)
      · refine rx_iconst (v := nI 0) dX11_isEmpty_34 rfl ?_
        refine rx_istore_n dX11_isEmpty_35 (by decide) ?_
        refine rx_iinc (v := nI (i + 1)) dX11_isEmpty_36 rfl ((nI_add _ 1).trans (congrArg nI (by omega))) ?_
        refine rx_goto (tgt := 4) dX11_isEmpty_39 (by decide) ?_
        refine rx_lv (lv' := [(3, .int (nI (i + 1))), (2, .int (nI 0)), (1, .int (nI a)), (0, .ref 52)]) ⟨rfl, rfl, rfl, rfl, trivial⟩ ?_
        exact ih (i + 1) 0 (by omega) (Or.inl ⟨rfl, i, by omega, h26⟩)
      · refine rx_iconst (v := nI 1) dX11_isEmpty_30 rfl ?_
        refine rx_goto (tgt := 35) dX11_isEmpty_31 (by decide) ?_
        refine rx_istore_n dX11_isEmpty_35 (by decide) ?_
        refine rx_iinc (v := nI (i + 1)) dX11_isEmpty_36 rfl ((nI_add _ 1).trans (congrArg nI (by omega))) ?_
        refine rx_goto (tgt := 4) dX11_isEmpty_39 (by decide) ?_
        refine rx_lv (lv' := [(3, .int (nI (i + 1))), (2, .int (nI 1)), (1, .int (nI a)), (0, .ref 52)]) ⟨rfl, rfl, rfl, rfl, trivial⟩ ?_
        exact ih (i + 1) 1 (by omega) (Or.inr ⟨rfl, fun ⟨j, h1, h2⟩ => by by_cases e : j = i; (subst e; exact h2 h26); exact hv ⟨j, by omega, h2⟩⟩)
theorem cm_isEmpty {G : rx_E} {d : Nat} {C : rx_M} {S : gs_T} (hG : rx_OK G) {a : Nat} (ha : a < 32) : rx_C G MX11_isEmpty d [.ref 52, .int (nI a)] (gl C S) 0 0 (fun v mu => (∃ r, ((r = 0 ∧ ∃ j, j < 19 ∧ ¬ S.2 82 (19 * a + j) = 0) ∨ (r = 1 ∧ ¬ ∃ j, j < 19 ∧ ¬ S.2 82 (19 * a + j) = 0)) ∧ v = some (.int (nI r))) ∧ mu = gl C S) := by
  refine rx_meth0 (by decide +kernel) rfl (Nat.le_of_ble_eq_true rfl) ?_
  refine rx_iconst (v := nI 1) dX11_isEmpty_0 rfl ?_
  refine rx_istore_n dX11_isEmpty_1 (by decide) ?_
  refine rx_iconst (v := nI 0) dX11_isEmpty_2 rfl ?_
  refine rx_istore_n dX11_isEmpty_3 (by decide) ?_
  refine rx_lv (lv' := [(3, .int (nI 0)), (2, .int (nI 1)), (1, .int (nI a)), (0, .ref 52)]) ⟨rfl, rfl, rfl, rfl, trivial⟩ ?_
  refine lm_isEmpty (a := a) hG ha ?_ 19 0 1 (by omega) (Or.inr ⟨rfl, fun ⟨j, h1, _⟩ => by omega⟩)
  exact fun v hv => ⟨⟨v, hv, rfl⟩, rfl⟩
theorem cr_isEmpty {G : rx_E} {d : Nat} {C : rx_M} {S0 S : gs_T} {g : vg_T} {n : Nat → Int64} {e : List (Nat × Int64 × Int64)} {b m E : Nat} {gs : List vf_T} (hG : rx_OK G) (hY : rm_Y S0 S g (n, e, b, gs, m) E) {a : Nat} (ha : a < 32) : rx_C G MX11_isEmpty d [.ref 52, .int (nI a)] (gl C S) 0 0 (fun v mu => (∃ r, ((r = 0 ∧ ¬ vm_empty n a) ∨ (r = 1 ∧ vm_empty n a)) ∧ v = some (.int (nI r))) ∧ mu = gl C S) := by
  refine rx_Cm (cm_isEmpty hG ha) (fun v mu hq => ⟨?_, hq.2⟩)
  obtain ⟨r, hr, hv⟩ := hq.1
  refine ⟨r, ?_, hv⟩
  rcases hr with ⟨rfl, j, hj, hn⟩ | ⟨rfl, hn⟩
  · refine Or.inl ⟨rfl, fun h => hn ?_⟩
    rw [rY_now hY (by omega)]; exact h j hj
  · refine Or.inr ⟨rfl, fun j hj => ?_⟩
    have := Classical.not_not.mp (fun h => hn ⟨j, hj, h⟩)
    rw [rY_now hY (by omega)] at this
    exact this
theorem cr_hasFrame {G : rx_E} {d : Nat} {C : rx_M} {S0 S : gs_T} {g : vg_T} {n : Nat → Int64} {e : List (Nat × Int64 × Int64)} {b m E : Nat} {gs : List vf_T} (hG : rx_OK G) (hY : rm_Y S0 S g (n, e, b, gs, m) E) (hp : gs.length ≤ 11) (hs : ∀ f ∈ gs, fS f < 32) {a : Nat} (ha : a < 32) : rx_C G MX11_hasFrame d [.ref 52, .int (nI a)] (gl C S) 0 0 (fun v mu => (∃ r, ((r = 0 ∧ ∀ f ∈ gs, fS f ≠ a) ∨ (r = 1 ∧ ¬ ∀ f ∈ gs, fS f ≠ a)) ∧ v = some (.int (nI r))) ∧ mu = gl C S) := by
  refine rx_Cm (cm_hasFrame hG (rY_dep' hY) hp) (fun v mu hq => ⟨?_, hq.2⟩)
  have hx : (∃ j, j < gs.length ∧ (S.1 89 j = nI a)) ↔ ∃ f ∈ gs, fS f = a := rm_Fs_ex hY.1.2.2.2.2.1.2 (fun j f hf hF => by
    have := hs f hf
    rw [hF.1.2.2.2.1, nI_eq (by omega) (by omega)])
  obtain ⟨r, hr, hv⟩ := hq.1
  refine ⟨r, ?_, hv⟩
  rw [hx] at hr
  rcases hr with ⟨rfl, f, hf, hn⟩ | ⟨rfl, hn⟩
  · exact Or.inr ⟨rfl, fun h => h f hf hn⟩
  · exact Or.inl ⟨rfl, fun f hf h => hn ⟨f, hf, h⟩⟩
theorem vm_free_some {n : Nat → Int64} {fs : List vf_T} {og k a : Nat} (h : vm_empty n a ∧ a ≠ og ∧ ∀ f ∈ fs, fS f ≠ a) : vm_free n fs og (k + 1) a = some a := by
  unfold vm_free; rw [if_pos h]
theorem vm_free_next {n : Nat → Int64} {fs : List vf_T} {og k a : Nat} (h : ¬ (vm_empty n a ∧ a ≠ og ∧ ∀ f ∈ fs, fS f ≠ a)) : vm_free n fs og (k + 1) a = vm_free n fs og k (a + 1) := by
  rw [vm_free, if_neg h]
theorem lm_make {G : rx_E} {d mc ms : Nat} {C : rx_M} {S0 S : gs_T} {g : vg_T} {n : Nat → Int64} {e : List (Nat × Int64 × Int64)} {b m s : Nat} {gs : List vf_T} {vl cd : Int64} {Q : Option Value → rx_M → Prop} {Z : String → rx_M → Prop} (hG : rx_OK G) (hY : rm_Y S0 S g (n, e, b, gs, m) 0) (hp : gs.length ≤ 11) (hs : ∀ f ∈ gs, fS f < 32) (ho : g.2.2.1 < 32) : ∀ (k i : Nat), i + k = 32 → (∀ j, j ≤ 32 → vm_free n gs g.2.2.1 k i = (if j = 32 then none else some j) → rx_W G MX11_make (d + 1) 54 [(6, .int (nI j)), (0, .ref 52), (1, .int (nI s)), (2, .long vl), (4, .long cd)] [] (gl C S) mc ms Q Z) → rx_W G MX11_make (d + 1) 14 [(6, .int (nI i)), (0, .ref 52), (1, .int (nI s)), (2, .long vl), (4, .long cd)] [] (gl C S) mc ms Q Z := by
  intro k
  induction k with
  | zero =>
    intro i hi K
    have hi : i = 32 := by omega
    subst hi
    refine rx_iload dX11_make_14 rfl ?_
    refine rx_bipush (v := nI 32) dX11_make_16 rfl ?_
    exact rx_icmp_ge (tgt := 54) dX11_make_18 (by decide) (fun _ => K 32 (by omega) (by rw [if_pos rfl]; rfl)) (fun h => absurd (by rw [nI_leI (by omega) (by omega)]; omega) h)
  | succ k ih =>
    intro i hi K
    refine rx_iload dX11_make_14 rfl ?_
    refine rx_bipush (v := nI 32) dX11_make_16 rfl ?_
    refine rx_icmp_ge (tgt := 54) dX11_make_18 (by decide) (fun h => absurd h (by rw [nI_leI (by omega) (by omega)]; omega)) (fun h18 => ?_)
    refine rx_aload_n dX11_make_21 rfl rfl ?_
    refine rx_iload dX11_make_22 rfl ?_
    refine gv_invV (as := [.int _]) hG okX11_isEmpty lk_RX11_295 rfl rfl dX11_make_24 rfl (by simp [Value.category]) (cr_isEmpty hG hY (by omega)) ?_
    rintro _ _ ⟨⟨r, hr, rfl⟩, rfl⟩
    rcases hr with ⟨rfl, hem⟩ | ⟨rfl, hem⟩
    · refine rx_if_eq (tgt := 48) dX11_make_27 (by decide) (fun _ => ?_) (fun h => absurd (by decide) h)
      refine rx_iinc (v := nI (i + 1)) dX11_make_48 rfl (nI_add _ 1) ?_
      refine rx_goto (tgt := 14) dX11_make_51 (by decide) ?_
      refine rx_lv (lv' := [(6, .int (nI (i + 1))), (0, .ref 52), (1, .int (nI s)), (2, .long vl), (4, .long cd)]) ⟨rfl, rfl, rfl, rfl, rfl, trivial⟩ ?_
      exact ih (i + 1) (by omega) (fun j hj hf => K j hj (by rw [vm_free_next (fun h => hem h.1)]; exact hf))
    · refine rx_if_eq (tgt := 48) dX11_make_27 (by decide) (fun h => absurd h (by decide)) (fun _ => ?_)
      refine rx_iload dX11_make_30 rfl ?_
      refine rx_aload_n dX11_make_32 rfl rfl ?_
      refine gmv_getI (v := nI g.2.2.1) hG hf_RX11_272 rfl dX11_make_33 rfl rfl rfl (rY_orig hY) ?_
      refine rx_icmp_eq (tgt := 48) dX11_make_36 (by decide) (fun h36 => ?_) (fun h36 => ?_)
      · rw [nI_eq (by omega) (by omega)] at h36
        refine rx_iinc (v := nI (i + 1)) dX11_make_48 rfl (nI_add _ 1) ?_
        refine rx_goto (tgt := 14) dX11_make_51 (by decide) ?_
        refine rx_lv (lv' := [(6, .int (nI (i + 1))), (0, .ref 52), (1, .int (nI s)), (2, .long vl), (4, .long cd)]) ⟨rfl, rfl, rfl, rfl, rfl, trivial⟩ ?_
        exact ih (i + 1) (by omega) (fun j hj hf => K j hj (by rw [vm_free_next (fun h => h.2.1 h36)]; exact hf))
      · rw [nI_eq (by omega) (by omega)] at h36
        refine rx_aload_n dX11_make_39 rfl rfl ?_
        refine rx_iload dX11_make_40 rfl ?_
        refine gv_invV (as := [.int _]) hG okX11_hasFrame lk_RX11_299 rfl rfl dX11_make_42 rfl (by simp [Value.category]) (cr_hasFrame hG hY hp hs (by omega)) ?_
        rintro _ _ ⟨⟨r, hr, rfl⟩, rfl⟩
        rcases hr with ⟨rfl, hfr⟩ | ⟨rfl, hfr⟩
        · refine rx_if_eq (tgt := 54) dX11_make_45 (by decide) (fun _ => ?_) (fun h => absurd (by decide) h)
          exact K i (by omega) (by rw [vm_free_some ⟨hem, h36, hfr⟩, if_neg (by omega)])
        · refine rx_if_eq (tgt := 54) dX11_make_45 (by decide) (fun h => absurd h (by decide)) (fun _ => ?_)
          refine rx_iinc (v := nI (i + 1)) dX11_make_48 rfl (nI_add _ 1) ?_
          refine rx_goto (tgt := 14) dX11_make_51 (by decide) ?_
          refine rx_lv (lv' := [(6, .int (nI (i + 1))), (0, .ref 52), (1, .int (nI s)), (2, .long vl), (4, .long cd)]) ⟨rfl, rfl, rfl, rfl, rfl, trivial⟩ ?_
          exact ih (i + 1) (by omega) (fun j hj hf => K j hj (by rw [vm_free_next (fun h => hfr h.2.2)]; exact hf))
theorem vmk_none {g : vg_T} {X : vx_S} {c a q s k : Nat} {v r : Int64} {l o : Bool} {t : List Int64} {w : (Nat → Int64) × Nat × Nat} {fs : List vf_T} {x y : Int64} {z : List Int64} (h : vm_free X.1 (((c, a, q, s, k), (v, r), (l, o), z, w) :: fs) g.2.2.1 32 0 = none) : vm_make g X y x ((c, a, q, s, k), (v, r), (l, o), z, w) fs t = vm_on X ((c, a, q, s, k), (v, r), (l, o), (-1) :: t, w) fs := by
  unfold vm_make; rw [h]; rfl
theorem vmk_bad {g : vg_T} {X : vx_S} {c a q s k : Nat} {v r : Int64} {l o : Bool} {t : List Int64} {w : (Nat → Int64) × Nat × Nat} {fs : List vf_T} {x y : Int64} {z : List Int64} {j : Nat} (h : vm_free X.1 (((c, a, q, s, k), (v, r), (l, o), z, w) :: fs) g.2.2.1 32 0 = some j) (h1 : x < 0 ∨ lN g.2.1 ≤ x ∨ y < 0 ∨ X.1 (19 * s) < y) : vm_make g X y x ((c, a, q, s, k), (v, r), (l, o), z, w) fs t = vm_on X ((c, a, q, s, k), (v, r), (l, o), (-1) :: t, w) fs := by
  unfold vm_make; rw [h]; exact if_pos h1
theorem vmk_ok {g : vg_T} {X : vx_S} {c a q s k : Nat} {v r : Int64} {l o : Bool} {t : List Int64} {w : (Nat → Int64) × Nat × Nat} {fs : List vf_T} {x y : Int64} {z : List Int64} {j : Nat} (h : vm_free X.1 (((c, a, q, s, k), (v, r), (l, o), z, w) :: fs) g.2.2.1 32 0 = some j) (h1 : ¬ (x < 0 ∨ lN g.2.1 ≤ x ∨ y < 0 ∨ X.1 (19 * s) < y)) : vm_make g X y x ((c, a, q, s, k), (v, r), (l, o), z, w) fs t = vm_on (up1 (up1 (up1 X.1 (19 * s) (X.1 (19 * s) - y)) (19 * j) ((up1 X.1 (19 * s) (X.1 (19 * s) - y)) (19 * j) + y)) (19 * j + 2) (x + 1), X.2) ((c, a, q, s, k), (v, r), (l, o), lN j :: t, w) fs := by
  unfold vm_make; rw [h]; exact if_neg h1
theorem vm_free_congr {n : Nat → Int64} {og : Nat} {f f' : vf_T} {fs : List vf_T} (h : fS f = fS f') : ∀ k a, vm_free n (f :: fs) og k a = vm_free n (f' :: fs) og k a
  | 0, _ => rfl
  | k + 1, a => by
    have e : (∀ g ∈ f :: fs, fS g ≠ a) ↔ (∀ g ∈ f' :: fs, fS g ≠ a) := by
      rw [List.forall_mem_cons, List.forall_mem_cons, h]
    by_cases hc : vm_empty n a ∧ a ≠ og ∧ ∀ g ∈ f :: fs, fS g ≠ a
    · rw [vm_free_some hc, vm_free_some ⟨hc.1, hc.2.1, e.mp hc.2.2⟩]
    · rw [vm_free_next hc, vm_free_next (fun q => hc ⟨q.1, q.2.1, e.mpr q.2.2⟩), vm_free_congr h k (a + 1)]
theorem cr_make {G : rx_E} {d : Nat} {C : rx_M} {S0 S : gs_T} {g : vg_T} {n : Nat → Int64} {e : List (Nat × Int64 × Int64)} {b m c a q s k : Nat} {v r : Int64} {l o : Bool} {t : List Int64} {w : (Nat → Int64) × Nat × Nat} {fs : List vf_T} (hG : rx_OK G) {x y : Int64} (hp : fs.length < 10) (hs1 : s < 32) (hs : ∀ f ∈ fs, fS f < 32) (ho : g.2.2.1 < 32) (hg : g.2.1 ≤ 16) (hY : rm_Y S0 S g (n, e, b, ((c, a, q, s, k), (v, r), (l, o), (y :: (x :: t)), w) :: fs, m) 0) : rx_C G MX11_make (d + 1) [.ref 52, .int (nI s)] (gl C S) 0 0 (rq_on C S0 g (vm_make g (n, e, b, ((c, a, q, s, k), (v, r), (l, o), (y :: (x :: t)), w) :: fs, m) y x ((c, a, q, s, k), (v, r), (l, o), (y :: (x :: t)), w) fs t)) := by
  refine rx_meth0 (by decide +kernel) rfl (Nat.le_of_ble_eq_true rfl) ?_
  have ht : t.length + 2 ≤ 24 := rY_n hY
  have hs2 : ∀ f ∈ ((c, a, q, s, k), (v, r), (l, o), t, w) :: fs, fS f < 32 := List.forall_mem_cons.mpr ⟨hs1, hs⟩
  refine rx_aload_n dX11_make_0 rfl rfl ?_
  refine gv_invV (as := []) hG okX11_pop lk_RX11_262 rfl rfl dX11_make_1 rfl (by simp [Value.category]) (cr_pop hG hY (by omega)) ?_
  rintro _ _ ⟨rfl, _, rfl, hY1⟩
  refine rx_lstore_n dX11_make_4 (by decide) ?_
  refine rx_aload_n dX11_make_5 rfl rfl ?_
  refine gv_invV (as := []) hG okX11_pop lk_RX11_262 rfl rfl dX11_make_6 rfl (by simp [Value.category]) (cr_pop hG hY1 (by omega)) ?_
  rintro _ _ ⟨rfl, _, rfl, hY2⟩
  refine rx_lstore dX11_make_9 (by decide) ?_
  refine rx_iconst (v := nI 0) dX11_make_11 rfl ?_
  refine rx_istore dX11_make_12 (by decide) ?_
  refine rx_lv (lv' := [(6, .int (nI 0)), (0, .ref 52), (1, .int (nI s)), (2, .long y), (4, .long x)]) ⟨rfl, rfl, rfl, rfl, rfl, trivial⟩ ?_
  refine lm_make hG hY2 (by show fs.length + 1 ≤ 11; omega) hs2 ho 32 0 (by omega) (fun j hj hf => ?_)
  rw [vm_free_congr (f := ((c, a, q, s, k), (v, r), (l, o), t, w)) (f' := ((c, a, q, s, k), (v, r), (l, o), y :: x :: t, w)) rfl] at hf
  refine rx_iload dX11_make_54 rfl ?_
  refine rx_bipush (v := nI 32) dX11_make_56 rfl ?_
  refine rx_icmp_eq (tgt := 99) dX11_make_58 (by decide) (fun h58 => ?_) (fun h58 => ?_)
  · rw [nI_eq (by omega) (by omega)] at h58
    refine rx_aload_n dX11_make_99 rfl rfl ?_
    refine rx_ldc2 hG hw_893 dX11_make_100 ?_
    refine gv_invV (as := [.long _]) hG okX11_push lk_RX11_221 rfl rfl dX11_make_103 rfl (by simp [Value.category]) (cr_push hG hY2 (by omega) (by (try simp only [List.length_cons, List.length_nil]); omega) _) ?_
    rintro _ _ ⟨rfl, _, rfl, hY3⟩
    exact rx_vret rfl dX11_make_106 ⟨rfl, _, rfl, Or.inl ⟨_, (vmk_none (by rw [hf, if_pos h58])).trans rfl, hY3⟩⟩
  · rw [nI_eq (by omega) (by omega)] at h58
    refine rx_lload dX11_make_61 rfl ?_
    refine rx_lconst (v := lN 0) dX11_make_63 rfl ?_
    refine rx_lc_lt (tgt := 99) dX11_make_64 dX11_make_65 (by decide) (fun h64 => ?_) (fun h64 => ?_)
    · refine rx_aload_n dX11_make_99 rfl rfl ?_
      refine rx_ldc2 hG hw_893 dX11_make_100 ?_
      refine gv_invV (as := [.long _]) hG okX11_push lk_RX11_221 rfl rfl dX11_make_103 rfl (by simp [Value.category]) (cr_push hG hY2 (by omega) (by (try simp only [List.length_cons, List.length_nil]); omega) _) ?_
      rintro _ _ ⟨rfl, _, rfl, hY3⟩
      exact rx_vret rfl dX11_make_106 ⟨rfl, _, rfl, Or.inl ⟨_, (vmk_bad (by rw [hf, if_neg h58]) (Or.inl h64)).trans rfl, hY3⟩⟩
    · refine rx_lload dX11_make_68 rfl ?_
      refine rx_aload_n dX11_make_70 rfl rfl ?_
      refine gmv_getI (v := nI g.2.1) hG hf_RX11_172 rfl dX11_make_71 rfl rfl rfl (rY_many hY2) ?_
      refine rx_i2l dX11_make_74 ?_
      refine rx_tl (y := lN g.2.1) (nI_l (by omega)) ?_
      refine rx_lc_ge (tgt := 99) dX11_make_75 dX11_make_76 (by decide) (fun h75 => ?_) (fun h75 => ?_)
      · refine rx_aload_n dX11_make_99 rfl rfl ?_
        refine rx_ldc2 hG hw_893 dX11_make_100 ?_
        refine gv_invV (as := [.long _]) hG okX11_push lk_RX11_221 rfl rfl dX11_make_103 rfl (by simp [Value.category]) (cr_push hG hY2 (by omega) (by (try simp only [List.length_cons, List.length_nil]); omega) _) ?_
        rintro _ _ ⟨rfl, _, rfl, hY3⟩
        exact rx_vret rfl dX11_make_106 ⟨rfl, _, rfl, Or.inl ⟨_, (vmk_bad (by rw [hf, if_neg h58]) (Or.inr (Or.inl h75))).trans rfl, hY3⟩⟩
      · refine rx_lload_n dX11_make_79 rfl ?_
        refine rx_lconst (v := lN 0) dX11_make_80 rfl ?_
        refine rx_lc_lt (tgt := 99) dX11_make_81 dX11_make_82 (by decide) (fun h81 => ?_) (fun h81 => ?_)
        · refine rx_aload_n dX11_make_99 rfl rfl ?_
          refine rx_ldc2 hG hw_893 dX11_make_100 ?_
          refine gv_invV (as := [.long _]) hG okX11_push lk_RX11_221 rfl rfl dX11_make_103 rfl (by simp [Value.category]) (cr_push hG hY2 (by omega) (by (try simp only [List.length_cons, List.length_nil]); omega) _) ?_
          rintro _ _ ⟨rfl, _, rfl, hY3⟩
          exact rx_vret rfl dX11_make_106 ⟨rfl, _, rfl, Or.inl ⟨_, (vmk_bad (by rw [hf, if_neg h58]) (Or.inr (Or.inr (Or.inl h81)))).trans rfl, hY3⟩⟩
        · refine rx_aload_n dX11_make_85 rfl rfl ?_
          refine g_getR hG hf_RX11_99 rfl dX11_make_86 rfl rfl rfl ?_
          refine rx_bipush (v := nI 19) dX11_make_89 rfl ?_
          refine rx_iload_n dX11_make_91 rfl ?_
          refine rx_imul dX11_make_92 ?_
          refine rx_ti (y := nI (19 * s)) ((pk_mul _ _).trans (congrArg nI (by omega))) ?_
          refine gmv_lald (j := 19 * s) (v := n (19 * s)) hG dX11_make_93 rfl rfl rfl rfl (by omega) (by decide) (rY_now hY2 (by omega)) ?_
          refine rx_lload_n dX11_make_94 rfl ?_
          refine rx_lc_ge (tgt := 107) dX11_make_95 dX11_make_96 (by decide) (fun h95 => ?_) (fun h95 => ?_)
          · refine rx_aload_n dX11_make_107 rfl rfl ?_
            refine g_getR hG hf_RX11_99 rfl dX11_make_108 rfl rfl rfl ?_
            refine rx_bipush (v := nI 19) dX11_make_111 rfl ?_
            refine rx_iload_n dX11_make_113 rfl ?_
            refine rx_imul dX11_make_114 ?_
            refine rx_ti (y := nI (19 * s)) ((pk_mul _ _).trans (congrArg nI (by omega))) ?_
            refine rx_dup2 dX11_make_115 rfl rfl ?_
            refine gmv_lald (j := 19 * s) (v := n (19 * s)) hG dX11_make_116 rfl rfl rfl rfl (by omega) (by decide) (rY_now hY2 (by omega)) ?_
            refine rx_lload_n dX11_make_117 rfl ?_
            refine rx_lsub dX11_make_118 ?_
            refine gm_last (j := 19 * s) hG dX11_make_119 rfl rfl rfl rfl (by omega) (by decide) ?_
            refine rY_ab (rY_setNow hY2 (19 * s) ((n (19 * s)) - y)) (fun _ hY3 => ?_)
            refine rx_aload_n dX11_make_120 rfl rfl ?_
            refine g_getR hG hf_RX11_99 rfl dX11_make_121 rfl rfl rfl ?_
            refine rx_bipush (v := nI 19) dX11_make_124 rfl ?_
            refine rx_iload dX11_make_126 rfl ?_
            refine rx_imul dX11_make_128 ?_
            refine rx_ti (y := nI (19 * j)) ((pk_mul _ _).trans (congrArg nI (by omega))) ?_
            refine rx_dup2 dX11_make_129 rfl rfl ?_
            refine gmv_lald (j := 19 * j) (v := (up1 n (19 * s) ((n (19 * s)) - y)) (19 * j)) hG dX11_make_130 rfl rfl rfl rfl (by omega) (by decide) (rY_now hY3 (by omega)) ?_
            refine rx_lload_n dX11_make_131 rfl ?_
            refine rx_ladd dX11_make_132 ?_
            refine gm_last (j := 19 * j) hG dX11_make_133 rfl rfl rfl rfl (by omega) (by decide) ?_
            refine rY_ab (rY_setNow hY3 (19 * j) (((up1 n (19 * s) ((n (19 * s)) - y)) (19 * j)) + y)) (fun _ hY4 => ?_)
            refine rx_aload_n dX11_make_134 rfl rfl ?_
            refine g_getR hG hf_RX11_99 rfl dX11_make_135 rfl rfl rfl ?_
            refine rx_bipush (v := nI 19) dX11_make_138 rfl ?_
            refine rx_iload dX11_make_140 rfl ?_
            refine rx_imul dX11_make_142 ?_
            refine rx_ti (y := nI (19 * j)) ((pk_mul _ _).trans (congrArg nI (by omega))) ?_
            refine rx_iconst (v := nI 2) dX11_make_143 rfl ?_
            refine rx_iadd dX11_make_144 ?_
            refine rx_ti (y := nI (19 * j + 2)) ((nI_add _ _).trans (congrArg nI (by omega))) ?_
            refine rx_lload dX11_make_145 rfl ?_
            refine rx_lconst (v := lN 1) dX11_make_147 rfl ?_
            refine rx_ladd dX11_make_148 ?_
            refine gm_last (j := 19 * j + 2) hG dX11_make_149 rfl rfl rfl rfl (by omega) (by decide) ?_
            refine rY_ab (rY_setNow hY4 (19 * j + 2) (x + (lN 1))) (fun _ hY5 => ?_)
            refine rx_aload_n dX11_make_150 rfl rfl ?_
            refine rx_iload dX11_make_151 rfl ?_
            refine rx_i2l dX11_make_153 ?_
            refine rx_tl (y := lN j) (nI_l (by omega)) ?_
            refine gv_invV (as := [.long _]) hG okX11_push lk_RX11_221 rfl rfl dX11_make_154 rfl (by simp [Value.category]) (cr_push hG hY5 (by omega) (by (try simp only [List.length_cons, List.length_nil]); omega) _) ?_
            rintro _ _ ⟨rfl, _, rfl, hY6⟩
            exact rx_vret rfl dX11_make_157 ⟨rfl, _, rfl, Or.inl ⟨_, (vmk_ok (by rw [hf, if_neg h58]) (by rintro (h | h | h | h); (exact h64 h); (exact h75 h); (exact h81 h); exact absurd h95 (Int64.not_le.mpr h))).trans rfl, hY6⟩⟩
          · refine rx_aload_n dX11_make_99 rfl rfl ?_
            refine rx_ldc2 hG hw_893 dX11_make_100 ?_
            refine gv_invV (as := [.long _]) hG okX11_push lk_RX11_221 rfl rfl dX11_make_103 rfl (by simp [Value.category]) (cr_push hG hY2 (by omega) (by (try simp only [List.length_cons, List.length_nil]); omega) _) ?_
            rintro _ _ ⟨rfl, _, rfl, hY3⟩
            exact rx_vret rfl dX11_make_106 ⟨rfl, _, rfl, Or.inl ⟨_, (vmk_bad (by rw [hf, if_neg h58]) (Or.inr (Or.inr (Or.inr (Int64.not_le.mp h95))))).trans rfl, hY3⟩⟩

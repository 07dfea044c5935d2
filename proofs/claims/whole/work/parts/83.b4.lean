/-- the j-th event of an order, the oldest first -/
def ev_of (e : List (Nat × Int64 × Int64)) (j : Nat) : Nat × Int64 × Int64 := e.getD (e.length - 1 - j) (0, 0, 0)
theorem ev_top {x : Nat × Int64 × Int64} {e : List (Nat × Int64 × Int64)} : ev_of (x :: e) e.length = x := by
  unfold ev_of
  rw [show (x :: e).length - 1 - e.length = 0 by simp]; rfl
theorem ev_low {x : Nat × Int64 × Int64} {e : List (Nat × Int64 × Int64)} {j : Nat} (hj : j < e.length) : ev_of (x :: e) j = ev_of e j := by
  unfold ev_of
  rw [show (x :: e).length - 1 - j = (e.length - 1 - j) + 1 by simp; omega]; rfl
theorem rmE_get {S : gs_T} : ∀ {e : List (Nat × Int64 × Int64)}, rm_E S e → ∀ j, j < e.length → S.1 97 j = nI (ev_of e j).1 ∧ S.2 98 j = (ev_of e j).2.1 ∧ S.2 99 j = (ev_of e j).2.2
  | x :: e, h, j, hj => by
    have hj' : j < e.length + 1 := hj
    by_cases q : j = e.length
    · subst q; rw [ev_top]; exact h.1
    · rw [ev_low (by omega)]; exact rmE_get h.2 j (by omega)
theorem rcE_get {C : rx_M} {bs od : Nat} : ∀ {e : List (Nat × Int64 × Int64)}, rc_E C bs od e → ∀ j, j < e.length → bs + j < 60 → C.2.1 10 (4 * (bs + j)) = lN (ev_of e j).1 ∧ C.2.1 10 (4 * (bs + j) + 1) = (ev_of e j).2.1 ∧ C.2.1 10 (4 * (bs + j) + 2) = (ev_of e j).2.2 ∧ C.2.1 10 (4 * (bs + j) + 3) = lN od
  | x :: e, h, j, hj, h6 => by
    have hj' : j < e.length + 1 := hj
    by_cases q : j = e.length
    · subst q; rw [ev_top]; exact h.1 h6
    · rw [ev_low (by omega)]; exact rcE_get h.2 j (by omega) h6
def ev_add (ec : Nat) (ev : Nat → wE) (e : List (Nat × Int64 × Int64)) (i : Nat) : Nat → wE := fun k => if k < ec then ev k else ((ev_of e (k - ec)).1, (ev_of e (k - ec)).2.1, (ev_of e (k - ec)).2.2, i)
/-- the model's rows of the events of block b: the first em of them are ev -/
def mEv (S : gs_T) (b em : Nat) (ev : Nat → wE) : Prop := S.1 67 b = nI em ∧ ∀ j, j < em → S.1 75 (60 * b + j) = nI (ev j).1 ∧ S.2 76 (60 * b + j) = (ev j).2.1 ∧ S.2 77 (60 * b + j) = (ev j).2.2.1 ∧ S.1 78 (60 * b + j) = nI (ev j).2.2.2
/-- nothing else changed -/
def mEk (S S' : gs_T) (b : Nat) : Prop := (∀ a, a ≠ 67 → a ≠ 75 → a ≠ 78 → S'.1 a = S.1 a) ∧ (∀ a, a ≠ 76 → a ≠ 77 → S'.2 a = S.2 a) ∧ (∀ j, j ≠ b → S'.1 67 j = S.1 67 j) ∧ ∀ j, j < 60 * b → S'.1 75 j = S.1 75 j ∧ S'.2 76 j = S.2 76 j ∧ S'.2 77 j = S.2 77 j ∧ S'.1 78 j = S.1 78 j
theorem mEk_refl {S : gs_T} {b : Nat} : mEk S S b := ⟨fun _ _ _ _ => rfl, fun _ _ _ => rfl, fun _ _ => rfl, fun _ _ => ⟨rfl, rfl, rfl, rfl⟩⟩
theorem mEk_up {S S' : gs_T} {b p : Nat} {x y z : Int32} {u v : Int64} (h : mEk S S' b) (hp : 60 * b ≤ p) : mEk S (rx_u (rx_u (rx_u S'.1 75 p x) 78 p y) 67 b z, rx_u (rx_u S'.2 76 p u) 77 p v) b := by
  obtain ⟨h1, h2, h3, h4⟩ := h
  refine ⟨fun a a1 a2 a3 => (rx_une _ a1).trans ((rx_une _ a3).trans ((rx_une _ a2).trans (h1 a a1 a2 a3))), fun a a1 a2 => (rx_une _ a2).trans ((rx_une _ a1).trans (h2 a a1 a2)), fun j hj => by simpa [rx_ru, hj] using h3 j hj, fun j hj => ?_⟩
  have hne : ¬ j = p := by omega
  obtain ⟨k1, k2, k3, k4⟩ := h4 j hj
  exact ⟨by simpa [rx_ru, hne] using k1, by simpa [rx_ru, hne] using k2, by simpa [rx_ru, hne] using k3, by simpa [rx_ru, hne] using k4⟩
theorem mEv_up {S : gs_T} {b ec k i : Nat} {ev : Nat → wE} {e : List (Nat × Int64 × Int64)} (h : mEv S b (ec + k) (ev_add ec ev e i)) : mEv (rx_u (rx_u (rx_u S.1 75 (60 * b + (ec + k)) (nI (ev_of e k).1)) 78 (60 * b + (ec + k)) (nI i)) 67 b (nI (ec + k + 1)), rx_u (rx_u S.2 76 (60 * b + (ec + k)) (ev_of e k).2.1) 77 (60 * b + (ec + k)) (ev_of e k).2.2) b (ec + k + 1) (ev_add ec ev e i) := by
  refine ⟨by simp [rx_ru], fun j hj => ?_⟩
  by_cases q : j = ec + k
  · subst q
    have e1 : ev_add ec ev e i (ec + k) = ((ev_of e k).1, (ev_of e k).2.1, (ev_of e k).2.2, i) := by
      unfold ev_add
      rw [if_neg (by omega), show ec + k - ec = k by omega]
    rw [e1]
    exact ⟨by simp [rx_ru], by simp [rx_ru], by simp [rx_ru], by simp [rx_ru]⟩
  · obtain ⟨k1, k2, k3, k4⟩ := h.2 j (by omega)
    have hne : ¬ 60 * b + j = 60 * b + (ec + k) := by omega
    have hne' : ¬ j = ec + k := q
    exact ⟨by simpa [rx_ru, hne, hne'] using k1, by simpa [rx_ru, hne, hne'] using k2, by simpa [rx_ru, hne, hne'] using k3, by simpa [rx_ru, hne, hne'] using k4⟩
theorem lm_keep {G : rx_E} {d mc ms : Nat} {C : rx_M} {S : gs_T} {b i ec : Nat} {ev : Nat → wE} {e : List (Nat × Int64 × Int64)} {Q : Option Value → rx_M → Prop} {Z : String → rx_M → Prop} (hG : rx_OK G) (hb : b < 40) (hel : e.length ≤ 2100) (hec : ec ≤ 30000) (hen : S.1 52 52 = nI e.length) (hE : rm_E S e) (kk : ∀ S', mEk S S' b → mEv S' b (min 60 (ec + e.length)) (ev_add ec ev e i) → Q none (gl C S')) : ∀ (m k : Nat) (S' : gs_T), k + m = e.length → mEk S S' b → mEv S' b (min 60 (ec + k)) (ev_add ec ev e i) → rx_W G MX11_keepEvents d 2 [(3, .int (nI k)), (0, .ref 52), (1, .int (nI b)), (2, .int (nI i))] [] (gl C S') mc ms Q Z := by
  intro m
  induction m with
  | zero =>
    intro k S' hk hk1 hv
    have hk : k = e.length := by omega
    subst hk
    refine rx_iload_n dX11_keepEvents_2 rfl ?_
    refine rx_aload_n dX11_keepEvents_3 rfl rfl ?_
    refine gmv_getI (v := nI e.length) hG hf_RX11_212 rfl dX11_keepEvents_4 rfl rfl rfl (by rw [hk1.1 52 (by decide) (by decide) (by decide)]; exact hen) ?_
    refine rx_icmp_ge (tgt := 97) dX11_keepEvents_7 (by decide) (fun _ => ?_) (fun q => absurd (by rw [nI_leI (by omega) (by omega)]; omega) q)
    exact rx_vret rfl dX11_keepEvents_97 (kk S' hk1 hv)
  | succ m ih =>
    intro k S' hk hk1 hv
    refine rx_iload_n dX11_keepEvents_2 rfl ?_
    refine rx_aload_n dX11_keepEvents_3 rfl rfl ?_
    refine gmv_getI (v := nI e.length) hG hf_RX11_212 rfl dX11_keepEvents_4 rfl rfl rfl (by rw [hk1.1 52 (by decide) (by decide) (by decide)]; exact hen) ?_
    refine rx_icmp_ge (tgt := 97) dX11_keepEvents_7 (by decide) (fun q => absurd q (by rw [nI_leI (by omega) (by omega)]; omega)) (fun _ => ?_)
    by_cases h60 : 60 ≤ ec + k
    · have e1 : min 60 (ec + k) = 60 := by omega
      have e2 : min 60 (ec + e.length) = 60 := by omega
      rw [e1] at hv
      refine rx_aload_n dX11_keepEvents_10 rfl rfl ?_
      refine g_getR hG hf_RX11_54 rfl dX11_keepEvents_11 rfl rfl rfl ?_
      refine rx_iload_n dX11_keepEvents_14 rfl ?_
      refine gmv_iald (j := b) (v := nI 60) hG dX11_keepEvents_15 rfl rfl rfl rfl (by omega) (by decide) hv.1 ?_
      refine rx_bipush (v := nI 60) dX11_keepEvents_16 rfl ?_
      refine rx_icmp_ge (tgt := 97) dX11_keepEvents_18 (by decide) (fun _ => ?_) (fun q => absurd (by decide) q)
      exact rx_vret rfl dX11_keepEvents_97 (kk S' hk1 (by rw [e2]; exact hv))
    · have e1 : min 60 (ec + k) = ec + k := by omega
      rw [e1] at hv
      refine rx_aload_n dX11_keepEvents_10 rfl rfl ?_
      refine g_getR hG hf_RX11_54 rfl dX11_keepEvents_11 rfl rfl rfl ?_
      refine rx_iload_n dX11_keepEvents_14 rfl ?_
      refine gmv_iald (j := b) (v := nI (ec + k)) hG dX11_keepEvents_15 rfl rfl rfl rfl (by omega) (by decide) hv.1 ?_
      refine rx_bipush (v := nI 60) dX11_keepEvents_16 rfl ?_
      refine rx_icmp_ge (tgt := 97) dX11_keepEvents_18 (by decide) (fun h18 => (absurd h18 (by rw [nI_leI (by omega) (by omega)]; omega))) (fun h18 => ?_)
      refine rx_bipush (v := nI 60) dX11_keepEvents_21 rfl ?_
      refine rx_iload_n dX11_keepEvents_23 rfl ?_
      refine rx_imul dX11_keepEvents_24 ?_
      refine rx_ti (y := nI (60 * b)) ((pk_mul _ _).trans (congrArg nI (by omega))) ?_
      refine rx_aload_n dX11_keepEvents_25 rfl rfl ?_
      refine g_getR hG hf_RX11_54 rfl dX11_keepEvents_26 rfl rfl rfl ?_
      refine rx_iload_n dX11_keepEvents_29 rfl ?_
      refine gmv_iald (j := b) (v := nI (ec + k)) hG dX11_keepEvents_30 rfl rfl rfl rfl (by omega) (by decide) hv.1 ?_
      refine rx_iadd dX11_keepEvents_31 ?_
      refine rx_ti (y := nI (60 * b + ec + k)) ((nI_add _ _).trans (congrArg nI (by omega))) ?_
      refine rx_istore dX11_keepEvents_32 (by decide) ?_
      refine rx_aload_n dX11_keepEvents_34 rfl rfl ?_
      refine g_getR hG hf_RX11_78 rfl dX11_keepEvents_35 rfl rfl rfl ?_
      refine rx_iload dX11_keepEvents_38 rfl ?_
      refine rx_aload_n dX11_keepEvents_40 rfl rfl ?_
      refine g_getR hG hf_RX11_144 rfl dX11_keepEvents_41 rfl rfl rfl ?_
      refine rx_iload_n dX11_keepEvents_44 rfl ?_
      refine gmv_iald (j := k) (v := nI (ev_of e k).1) hG dX11_keepEvents_45 rfl rfl rfl rfl (by omega) (by decide) (by rw [hk1.1 97 (by decide) (by decide) (by decide)]; exact (rmE_get hE k (by omega)).1) ?_
      refine gm_iast (j := 60 * b + (ec + k)) hG dX11_keepEvents_46 rfl rfl rfl (congrArg nI (by omega)) (by omega) (by decide) ?_
      refine rx_aload_n dX11_keepEvents_47 rfl rfl ?_
      refine g_getR hG hf_RX11_81 rfl dX11_keepEvents_48 rfl rfl rfl ?_
      refine rx_iload dX11_keepEvents_51 rfl ?_
      refine rx_aload_n dX11_keepEvents_53 rfl rfl ?_
      refine g_getR hG hf_RX11_147 rfl dX11_keepEvents_54 rfl rfl rfl ?_
      refine rx_iload_n dX11_keepEvents_57 rfl ?_
      refine gmv_lald (j := k) (v := (ev_of e k).2.1) hG dX11_keepEvents_58 rfl rfl rfl rfl (by omega) (by decide) (by rw [hk1.2.1 98 (by decide) (by decide)]; exact (rmE_get hE k (by omega)).2.1) ?_
      refine gm_last (j := 60 * b + (ec + k)) hG dX11_keepEvents_59 rfl rfl rfl (congrArg nI (by omega)) (by omega) (by decide) ?_
      refine rx_aload_n dX11_keepEvents_60 rfl rfl ?_
      refine g_getR hG hf_RX11_84 rfl dX11_keepEvents_61 rfl rfl rfl ?_
      refine rx_iload dX11_keepEvents_64 rfl ?_
      refine rx_aload_n dX11_keepEvents_66 rfl rfl ?_
      refine g_getR hG hf_RX11_150 rfl dX11_keepEvents_67 rfl rfl rfl ?_
      refine rx_iload_n dX11_keepEvents_70 rfl ?_
      refine gmv_lald (j := k) (v := (ev_of e k).2.2) hG dX11_keepEvents_71 rfl rfl rfl rfl (by omega) (by decide) (by simpa [rx_ru] using (by rw [hk1.2.1 99 (by decide) (by decide)]; exact (rmE_get hE k (by omega)).2.2)) ?_
      refine gm_last (j := 60 * b + (ec + k)) hG dX11_keepEvents_72 rfl rfl rfl (congrArg nI (by omega)) (by omega) (by decide) ?_
      refine rx_aload_n dX11_keepEvents_73 rfl rfl ?_
      refine g_getR hG hf_RX11_87 rfl dX11_keepEvents_74 rfl rfl rfl ?_
      refine rx_iload dX11_keepEvents_77 rfl ?_
      refine rx_iload_n dX11_keepEvents_79 rfl ?_
      refine gm_iast (j := 60 * b + (ec + k)) hG dX11_keepEvents_80 rfl rfl rfl (congrArg nI (by omega)) (by omega) (by decide) ?_
      refine rx_aload_n dX11_keepEvents_81 rfl rfl ?_
      refine g_getR hG hf_RX11_54 rfl dX11_keepEvents_82 rfl rfl rfl ?_
      refine rx_iload_n dX11_keepEvents_85 rfl ?_
      refine rx_dup2 dX11_keepEvents_86 rfl rfl ?_
      refine gmv_iald (j := b) (v := nI (ec + k)) hG dX11_keepEvents_87 rfl rfl rfl rfl (by omega) (by decide) (by simpa [rx_ru] using hv.1) ?_
      refine rx_iconst (v := nI 1) dX11_keepEvents_88 rfl ?_
      refine rx_iadd dX11_keepEvents_89 ?_
      refine rx_ti (y := nI (ec + k + 1)) ((nI_add _ _).trans (congrArg nI (by omega))) ?_
      refine gm_iast (j := b) hG dX11_keepEvents_90 rfl rfl rfl rfl (by omega) (by decide) ?_
      refine rx_iinc (v := nI (k + 1)) dX11_keepEvents_91 rfl ((nI_add _ 1).trans (congrArg nI (by omega))) ?_
      refine rx_goto (tgt := 2) dX11_keepEvents_94 (by decide) ?_
      refine rx_lv (lv' := [(3, .int (nI (k + 1))), (0, .ref 52), (1, .int (nI b)), (2, .int (nI i))]) ⟨rfl, rfl, rfl, rfl, trivial⟩ ?_
      refine ih (k + 1) _ (by omega) (mEk_up hk1 (by omega)) ?_
      rw [show min 60 (ec + (k + 1)) = ec + k + 1 by omega]; exact mEv_up hv
theorem mf_keep {G : rx_E} {d : Nat} {C : rx_M} {S : gs_T} {b i ec : Nat} {ev : Nat → wE} {e : List (Nat × Int64 × Int64)} {Q : Option Value → rx_M → Prop} (hG : rx_OK G) (hb : b < 40) (hel : e.length ≤ 2100) (hec : ec ≤ 30000) (hen : S.1 52 52 = nI e.length) (hE : rm_E S e) (hv : mEv S b (min 60 ec) ev) (kk : ∀ S', mEk S S' b → mEv S' b (min 60 (ec + e.length)) (ev_add ec ev e i) → Q none (gl C S')) : rx_C G MX11_keepEvents d [.ref 52, .int (nI b), .int (nI i)] (gl C S) 0 0 Q := by
  refine rx_meth0 (by decide +kernel) rfl (Nat.le_of_ble_eq_true rfl) ?_
  refine rx_iconst (v := nI 0) dX11_keepEvents_0 rfl ?_
  refine rx_istore_n dX11_keepEvents_1 (by decide) ?_
  refine rx_lv (lv' := [(3, .int (nI 0)), (0, .ref 52), (1, .int (nI b)), (2, .int (nI i))]) ⟨rfl, rfl, rfl, rfl, trivial⟩ ?_
  refine lm_keep hG hb hel hec hen hE kk e.length 0 S (by omega) mEk_refl ⟨hv.1, fun j hj => ?_⟩
  have e1 : ev_add ec ev e i j = ev j := by
    unfold ev_add
    rw [if_pos (by omega)]
  rw [e1]
  exact hv.2 j hj

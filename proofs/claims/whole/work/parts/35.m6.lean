/-! THE MODEL'S MACHINE BY RELATION: each method takes rows that hold a machine to rows that hold another -/
theorem rx_une {α : Type} (f : Nat → Nat → α) {a b i : Nat} {x : α} (h : b ≠ a) : rx_u f a i x b = f b := rx_u_ne f i x h
/-- what a whole call leaves as it was -/
def rm_rest (S0 S : gs_T) : Prop := (∀ a, a < 82 → a ≠ 52 → S.1 a = S0.1 a ∧ S.2 a = S0.2 a) ∧ (S.1 100 = S0.1 100 ∧ S.2 100 = S0.2 100) ∧ ∀ k, k ≠ 49 → k ≠ 50 → k ≠ 52 → k ≠ 56 → k ≠ 57 → k ≠ 58 → k ≠ 59 → k ≠ 60 → S.1 52 k = S0.1 52 k ∧ S.2 52 k = S0.2 52 k
def rm_Y (S0 S : gs_T) (g : vg_T) (X : vx_S) (E : Nat) : Prop := rm_X S g X ∧ rm_rest S0 S ∧ S.1 52 58 = nI E
theorem rm_rest_I {S0 S : gs_T} {a j : Nat} {x : Int32} (h : rm_rest S0 S) (ha : (82 ≤ a ∧ a < 100) ∨ (a = 52 ∧ (j = 49 ∨ j = 50 ∨ j = 52 ∨ j = 56 ∨ j = 57 ∨ j = 58 ∨ j = 59 ∨ j = 60))) : rm_rest S0 (rx_u S.1 a j x, S.2) := by
  obtain ⟨h1, h2, h3⟩ := h
  refine ⟨fun b hb hb2 => ?_, ?_, fun k k1 k2 k3 k4 k5 k6 k7 k8 => ?_⟩
  · refine ⟨?_, (h1 b hb hb2).2⟩
    show rx_u S.1 a j x b = _
    rw [rx_une _ (by omega)]; exact (h1 b hb hb2).1
  · refine ⟨?_, h2.2⟩
    show rx_u S.1 a j x 100 = _
    rw [rx_une _ (by omega)]; exact h2.1
  · refine ⟨?_, (h3 k k1 k2 k3 k4 k5 k6 k7 k8).2⟩
    show rx_u S.1 a j x 52 k = _
    rw [rx_ru]
    rcases ha with ha | ⟨rfl, ha⟩
    · rw [if_neg (by omega)]; exact (h3 k k1 k2 k3 k4 k5 k6 k7 k8).1
    · rw [if_pos rfl, if_neg (by omega)]; exact (h3 k k1 k2 k3 k4 k5 k6 k7 k8).1
theorem rm_rest_L {S0 S : gs_T} {a j : Nat} {x : Int64} (h : rm_rest S0 S) (ha : (82 ≤ a ∧ a < 100) ∨ (a = 52 ∧ (j = 49 ∨ j = 50 ∨ j = 52 ∨ j = 56 ∨ j = 57 ∨ j = 58 ∨ j = 59 ∨ j = 60))) : rm_rest S0 (S.1, rx_u S.2 a j x) := by
  obtain ⟨h1, h2, h3⟩ := h
  refine ⟨fun b hb hb2 => ?_, ?_, fun k k1 k2 k3 k4 k5 k6 k7 k8 => ?_⟩
  · refine ⟨(h1 b hb hb2).1, ?_⟩
    show rx_u S.2 a j x b = _
    rw [rx_une _ (by omega)]; exact (h1 b hb hb2).2
  · refine ⟨h2.1, ?_⟩
    show rx_u S.2 a j x 100 = _
    rw [rx_une _ (by omega)]; exact h2.2
  · refine ⟨(h3 k k1 k2 k3 k4 k5 k6 k7 k8).1, ?_⟩
    show rx_u S.2 a j x 52 k = _
    rw [rx_ru]
    rcases ha with ha | ⟨rfl, ha⟩
    · rw [if_neg (by omega)]; exact (h3 k k1 k2 k3 k4 k5 k6 k7 k8).2
    · rw [if_pos rfl, if_neg (by omega)]; exact (h3 k k1 k2 k3 k4 k5 k6 k7 k8).2
theorem rm_rest_cp {S0 S : gs_T} {a o b p n : Nat} (h : rm_rest S0 S) (ha : 82 ≤ a ∧ a < 100) : rm_rest S0 (S.1, rx_cp S.2 a o b p n) := by
  obtain ⟨h1, h2, h3⟩ := h
  have hz : ∀ c, c ≠ a → rx_cp S.2 a o b p n c = S.2 c := fun c hc => funext fun j => rx_cp_get hc
  refine ⟨fun b hb hb2 => ⟨(h1 b hb hb2).1, ?_⟩, ⟨h2.1, ?_⟩, fun k k1 k2 k3 k4 k5 k6 k7 k8 => ⟨(h3 k k1 k2 k3 k4 k5 k6 k7 k8).1, ?_⟩⟩
  · exact (hz b (by omega)).trans (h1 b hb hb2).2
  · exact (hz 100 (by omega)).trans h2.2
  · exact (congrFun (hz 52 (by omega)) k).trans (h3 k k1 k2 k3 k4 k5 k6 k7 k8).2
/-- the rows are the same but for the p-th frame -/
def rm_near (S S' : gs_T) (p : Nat) : Prop := (∀ i, i < p → rm_same S S' i) ∧ (∀ a, a < 83 ∨ 96 < a → S'.1 a = S.1 a ∧ S'.2 a = S.2 a)
theorem rm_near_I {S : gs_T} {a p : Nat} {x : Int32} (h1 : 84 ≤ a) (h2 : a ≤ 96) : rm_near S (rx_u S.1 a p x, S.2) p := by
  refine ⟨fun i hi => ⟨fun b _ _ _ => ⟨?_, rfl⟩, ⟨?_, ?_⟩, fun _ _ => rfl, fun _ _ => rfl⟩, fun b hb => ⟨?_, rfl⟩⟩
  · show rx_u S.1 a p x b i = _
    rw [rx_ru]; split
    · rw [if_neg (by omega)]
    · rfl
  · show rx_u S.1 a p x 84 i = _
    rw [rx_ru]; split
    · rw [if_neg (by omega)]
    · rfl
  · show rx_u S.1 a p x 85 i = _
    rw [rx_ru]; split
    · rw [if_neg (by omega)]
    · rfl
  · show rx_u S.1 a p x b = _
    rw [rx_une _ (by omega)]
theorem rm_near_L {S : gs_T} {a p : Nat} {x : Int64} (h1 : 86 ≤ a) (h2 : a ≤ 96) (h3 : a ≠ 95) : rm_near S (S.1, rx_u S.2 a p x) p := by
  refine ⟨fun i hi => ⟨fun b _ _ _ => ⟨rfl, ?_⟩, ⟨rfl, rfl⟩, fun j _ => ?_, fun j _ => ?_⟩, fun b hb => ⟨rfl, ?_⟩⟩
  · show rx_u S.2 a p x b i = _
    rw [rx_ru]; split
    · rw [if_neg (by omega)]
    · rfl
  · show rx_u S.2 a p x 95 _ = _
    rw [rx_une _ (by omega)]
  · show rx_u S.2 a p x 83 _ = _
    rw [rx_une _ (by omega)]
  · show rx_u S.2 a p x b = _
    rw [rx_une _ (by omega)]
theorem rm_near_T {S : gs_T} {p j : Nat} {x : Int64} (h : 24 * p ≤ j) : rm_near S (S.1, rx_u S.2 95 j x) p := by
  refine ⟨fun i hi => ⟨fun b _ _ hb => ⟨rfl, ?_⟩, ⟨rfl, rfl⟩, fun k hk => ?_, fun k _ => ?_⟩, fun b hb => ⟨rfl, ?_⟩⟩
  · show rx_u S.2 95 j x b i = _
    rw [rx_une _ hb]
  · show rx_u S.2 95 j x 95 _ = _
    rw [rx_ru, if_pos rfl, if_neg (by omega)]
  · show rx_u S.2 95 j x 83 _ = _
    rw [rx_une _ (by decide)]
  · show rx_u S.2 95 j x b = _
    rw [rx_une _ (by omega)]
theorem rm_same_trans {S T U : gs_T} {i : Nat} (h1 : rm_same S T i) (h2 : rm_same T U i) : rm_same S U i :=
  ⟨fun a x y z => ⟨(h2.1 a x y z).1.trans (h1.1 a x y z).1, (h2.1 a x y z).2.trans (h1.1 a x y z).2⟩, ⟨h2.2.1.1.trans h1.2.1.1, h2.2.1.2.trans h1.2.1.2⟩, fun j hj => (h2.2.2.1 j hj).trans (h1.2.2.1 j hj), fun j hj => (h2.2.2.2 j hj).trans (h1.2.2.2 j hj)⟩
theorem rm_near_trans {S T U : gs_T} {p : Nat} (h1 : rm_near S T p) (h2 : rm_near T U p) : rm_near S U p :=
  ⟨fun i hi => rm_same_trans (h1.1 i hi) (h2.1 i hi), fun a ha => ⟨((h2.2 a ha).1).trans (h1.2 a ha).1, ((h2.2 a ha).2).trans (h1.2 a ha).2⟩⟩
/-- the inmost frame changed alone -/
theorem rY_top {S0 S S' : gs_T} {g : vg_T} {n : Nat → Int64} {e : List (Nat × Int64 × Int64)} {b m E : Nat} {f f' : vf_T} {fs : List vf_T} (h : rm_Y S0 S g (n, e, b, f :: fs, m) E) (hn : rm_near S S' fs.length) (hf : rm_F S' fs.length f') : rm_Y S0 S' g (n, e, b, f' :: fs, m) E := by
  obtain ⟨⟨⟨g1, g2, g3, g4⟩, h2, ⟨h3, h4⟩, h5, ⟨h6, h7⟩, h8⟩, ⟨r1, r2, r3⟩, h9⟩ := h
  have hI : ∀ a, a < 83 ∨ 96 < a → S'.1 a = S.1 a := fun a ha => (hn.2 a ha).1
  have hL : ∀ a, a < 83 ∨ 96 < a → S'.2 a = S.2 a := fun a ha => (hn.2 a ha).2
  have i52 := hI 52 (by decide)
  have l52 := hL 52 (by decide)
  refine ⟨⟨⟨fun c hc => ?_, ?_, ?_, ?_⟩, fun k hk => ?_, ⟨?_, ?_⟩, ?_, ⟨?_, hf, rm_Fs_congr hn.1 h7.2⟩, ?_⟩, ⟨fun a ha ha2 => ?_, ?_, fun k k1 k2 k3 k4 k5 k6 k7 k8 => ?_⟩, ?_⟩
  · rw [hI 54 (by decide), hI 53 (by decide)]; exact g1 c hc
  · rw [i52]; exact g2
  · rw [i52]; exact g3
  · rw [i52]; exact g4
  · rw [hL 82 (by decide)]; exact h2 k hk
  · rw [i52]; exact h3
  · exact rm_E_congr (fun i _ => ⟨by rw [hI 97 (by decide)], by rw [hL 98 (by decide)], by rw [hL 99 (by decide)]⟩) h4
  · rw [i52]; exact h5
  · rw [i52]; exact h6
  · rw [i52]; exact h8
  · rw [hI a (by omega), hL a (by omega)]; exact r1 a ha ha2
  · rw [hI 100 (by omega), hL 100 (by omega)]; exact r2
  · rw [i52, l52]; exact r3 k k1 k2 k3 k4 k5 k6 k7 k8
  · rw [i52]; exact h9
section RY
variable {S0 S : gs_T} {g : vg_T} {n : Nat → Int64} {e : List (Nat × Int64 × Int64)} {b m E c a q s k : Nat} {v r : Int64} {l o : Bool} {t : List Int64} {w : (Nat → Int64) × Nat × Nat} {fs : List vf_T}
theorem rY_dep (h : rm_Y S0 S g (n, e, b, ((c, a, q, s, k), (v, r), (l, o), t, w) :: fs, m) E) : S.1 52 49 = nI (fs.length + 1) := h.1.2.2.2.2.1.1
theorem rY_dep' {gs : List vf_T} (h : rm_Y S0 S g (n, e, b, gs, m) E) : S.1 52 49 = nI gs.length := h.1.2.2.2.2.1.1
theorem rY_F (h : rm_Y S0 S g (n, e, b, ((c, a, q, s, k), (v, r), (l, o), t, w) :: fs, m) E) : rm_F S fs.length ((c, a, q, s, k), (v, r), (l, o), t, w) := h.1.2.2.2.2.1.2.1
theorem rY_code (h : rm_Y S0 S g (n, e, b, ((c, a, q, s, k), (v, r), (l, o), t, w) :: fs, m) E) : S.1 86 fs.length = nI c := (rY_F h).1.1
theorem rY_at (h : rm_Y S0 S g (n, e, b, ((c, a, q, s, k), (v, r), (l, o), t, w) :: fs, m) E) : S.1 87 fs.length = nI a := (rY_F h).1.2.1
theorem rY_gas (h : rm_Y S0 S g (n, e, b, ((c, a, q, s, k), (v, r), (l, o), t, w) :: fs, m) E) : S.2 88 fs.length = lN q := (rY_F h).1.2.2.1
theorem rY_self (h : rm_Y S0 S g (n, e, b, ((c, a, q, s, k), (v, r), (l, o), t, w) :: fs, m) E) : S.1 89 fs.length = nI s := (rY_F h).1.2.2.2.1
theorem rY_call (h : rm_Y S0 S g (n, e, b, ((c, a, q, s, k), (v, r), (l, o), t, w) :: fs, m) E) : S.1 90 fs.length = nI k := (rY_F h).1.2.2.2.2
theorem rY_val (h : rm_Y S0 S g (n, e, b, ((c, a, q, s, k), (v, r), (l, o), t, w) :: fs, m) E) : S.2 91 fs.length = v := (rY_F h).2.1.1
theorem rY_arg (h : rm_Y S0 S g (n, e, b, ((c, a, q, s, k), (v, r), (l, o), t, w) :: fs, m) E) : S.2 92 fs.length = r := (rY_F h).2.1.2
theorem rY_look (h : rm_Y S0 S g (n, e, b, ((c, a, q, s, k), (v, r), (l, o), t, w) :: fs, m) E) : S.1 93 fs.length = bI l := (rY_F h).2.2.1.1
theorem rY_lock (h : rm_Y S0 S g (n, e, b, ((c, a, q, s, k), (v, r), (l, o), t, w) :: fs, m) E) : S.1 94 fs.length = bI o := (rY_F h).2.2.1.2
theorem rY_n (h : rm_Y S0 S g (n, e, b, ((c, a, q, s, k), (v, r), (l, o), t, w) :: fs, m) E) : t.length ≤ 24 := (rY_F h).2.2.2.1.1
theorem rY_size (h : rm_Y S0 S g (n, e, b, ((c, a, q, s, k), (v, r), (l, o), t, w) :: fs, m) E) : S.1 96 fs.length = nI t.length := (rY_F h).2.2.2.1.2.1
theorem rY_T (h : rm_Y S0 S g (n, e, b, ((c, a, q, s, k), (v, r), (l, o), t, w) :: fs, m) E) : rm_T S fs.length t := (rY_F h).2.2.2.1.2.2
theorem rY_now {gs : List vf_T} (h : rm_Y S0 S g (n, e, b, gs, m) E) {j : Nat} (hj : j < 608) : S.2 82 j = n j := h.1.2.1 j hj
theorem rY_many {gs : List vf_T} (h : rm_Y S0 S g (n, e, b, gs, m) E) : S.1 52 3 = nI g.2.1 := h.1.1.2.1
theorem rY_orig {gs : List vf_T} (h : rm_Y S0 S g (n, e, b, gs, m) E) : S.1 52 50 = nI g.2.2.1 := h.1.1.2.2.1
theorem rY_high {gs : List vf_T} (h : rm_Y S0 S g (n, e, b, gs, m) E) : S.1 52 51 = nI g.2.2.2 := h.1.1.2.2.2
theorem rY_csize {gs : List vf_T} (h : rm_Y S0 S g (n, e, b, gs, m) E) {j : Nat} (hj : j < g.2.1) : S.1 54 j = nI (g.1 j).length := (h.1.1.1 j hj).1
theorem rY_octet {gs : List vf_T} (h : rm_Y S0 S g (n, e, b, gs, m) E) {j i : Nat} (hj : j < g.2.1) (hi : i < (g.1 j).length) : S.1 53 (200 * j + i) = nI ((g.1 j).getD i 0) := (h.1.1.1 j hj).2 i hi
theorem rY_ev {gs : List vf_T} (h : rm_Y S0 S g (n, e, b, gs, m) E) : S.1 52 52 = nI e.length := h.1.2.2.1.1
theorem rY_back {gs : List vf_T} (h : rm_Y S0 S g (n, e, b, gs, m) E) : S.1 52 56 = nI b := h.1.2.2.2.1
theorem rY_run {gs : List vf_T} (h : rm_Y S0 S g (n, e, b, gs, m) E) : S.1 52 57 = nI m := h.1.2.2.2.2.2
theorem rY_end {gs : List vf_T} (h : rm_Y S0 S g (n, e, b, gs, m) E) : S.1 52 58 = nI E := h.2.2
/-- the inmost frame's place, gas, lock -/
theorem rY_setAt (h : rm_Y S0 S g (n, e, b, ((c, a, q, s, k), (v, r), (l, o), t, w) :: fs, m) E) (a' : Nat) : rm_Y S0 (rx_u S.1 87 fs.length (nI a'), S.2) g (n, e, b, ((c, a', q, s, k), (v, r), (l, o), t, w) :: fs, m) E := by
  refine rY_top h (rm_near_I (by decide) (by decide)) ?_
  obtain ⟨⟨h1, h2, h3, h4, h5⟩, ⟨h6, h7⟩, ⟨h8, h9⟩, ⟨h10, h11, h12⟩, ⟨h13, h14, h15⟩⟩ := rY_F h
  exact ⟨⟨by simpa [rx_ru] using h1, by simp [rx_ru], h3, by simpa [rx_ru] using h4, by simpa [rx_ru] using h5⟩, ⟨h6, h7⟩, ⟨by simpa [rx_ru] using h8, by simpa [rx_ru] using h9⟩, ⟨h10, by simpa [rx_ru] using h11, rm_T_congr (S := S) h10 (fun _ _ => rfl) h12⟩, ⟨h13, by simpa [rx_ru] using h14, by simpa [rx_ru] using h15⟩⟩
theorem rY_setGas (h : rm_Y S0 S g (n, e, b, ((c, a, q, s, k), (v, r), (l, o), t, w) :: fs, m) E) (q' : Nat) : rm_Y S0 (S.1, rx_u S.2 88 fs.length (lN q')) g (n, e, b, ((c, a, q', s, k), (v, r), (l, o), t, w) :: fs, m) E := by
  refine rY_top h (rm_near_L (by decide) (by decide) (by decide)) ?_
  obtain ⟨⟨h1, h2, h3, h4, h5⟩, ⟨h6, h7⟩, ⟨h8, h9⟩, ⟨h10, h11, h12⟩, ⟨h13, h14, h15⟩⟩ := rY_F h
  exact ⟨⟨h1, h2, by simp [rx_ru], h4, h5⟩, ⟨by simpa [rx_ru] using h6, by simpa [rx_ru] using h7⟩, ⟨h8, h9⟩, ⟨h10, h11, rm_T_congr (S := S) h10 (fun _ _ => by simp [rx_ru]) h12⟩, ⟨fun j hj => by simpa [rx_ru] using h13 j hj, h14, h15⟩⟩
theorem rY_setLock (h : rm_Y S0 S g (n, e, b, ((c, a, q, s, k), (v, r), (l, o), t, w) :: fs, m) E) : rm_Y S0 (rx_u S.1 94 fs.length (nI 1), S.2) g (n, e, b, ((c, a, q, s, k), (v, r), (l, true), t, w) :: fs, m) E := by
  refine rY_top h (rm_near_I (by decide) (by decide)) ?_
  obtain ⟨⟨h1, h2, h3, h4, h5⟩, ⟨h6, h7⟩, ⟨h8, h9⟩, ⟨h10, h11, h12⟩, ⟨h13, h14, h15⟩⟩ := rY_F h
  exact ⟨⟨by simpa [rx_ru] using h1, by simpa [rx_ru] using h2, h3, by simpa [rx_ru] using h4, by simpa [rx_ru] using h5⟩, ⟨h6, h7⟩, ⟨by simpa [rx_ru] using h8, by simp [rx_ru, bI]⟩, ⟨h10, by simpa [rx_ru] using h11, rm_T_congr (S := S) h10 (fun _ _ => rfl) h12⟩, ⟨h13, by simpa [rx_ru] using h14, by simpa [rx_ru] using h15⟩⟩
theorem rY_pushed (h : rm_Y S0 S g (n, e, b, ((c, a, q, s, k), (v, r), (l, o), t, w) :: fs, m) E) (ht : t.length < 24) (x : Int64) : rm_Y S0 (rx_u S.1 96 fs.length (nI (t.length + 1)), rx_u S.2 95 (24 * fs.length + t.length) x) g (n, e, b, ((c, a, q, s, k), (v, r), (l, o), x :: t, w) :: fs, m) E := by
  refine rY_top h (rm_near_trans (rm_near_I (by decide) (by decide)) (rm_near_T (S := (rx_u S.1 96 fs.length (nI (t.length + 1)), S.2)) (by omega))) ?_
  obtain ⟨⟨h1, h2, h3, h4, h5⟩, ⟨h6, h7⟩, ⟨h8, h9⟩, ⟨h10, h11, h12⟩, ⟨h13, h14, h15⟩⟩ := rY_F h
  exact ⟨⟨by simpa [rx_ru] using h1, by simpa [rx_ru] using h2, by simpa [rx_ru] using h3, by simpa [rx_ru] using h4, by simpa [rx_ru] using h5⟩, ⟨by simpa [rx_ru] using h6, by simpa [rx_ru] using h7⟩, ⟨by simpa [rx_ru] using h8, by simpa [rx_ru] using h9⟩, ⟨ht, (by show rx_u S.1 96 fs.length (nI (t.length + 1)) 96 fs.length = nI (t.length + 1); simp [rx_ru]), ⟨by simp [rx_ru], rm_T_congr (S := S) h10 (fun j hj => by simp [rx_ru]; omega) h12⟩⟩, ⟨fun j hj => by simpa [rx_ru] using h13 j hj, by simpa [rx_ru] using h14, by simpa [rx_ru] using h15⟩⟩
theorem rY_popped {x : Int64} (h : rm_Y S0 S g (n, e, b, ((c, a, q, s, k), (v, r), (l, o), x :: t, w) :: fs, m) E) : rm_Y S0 (rx_u S.1 96 fs.length (nI t.length), S.2) g (n, e, b, ((c, a, q, s, k), (v, r), (l, o), t, w) :: fs, m) E := by
  refine rY_top h (rm_near_I (by decide) (by decide)) ?_
  obtain ⟨⟨h1, h2, h3, h4, h5⟩, ⟨h6, h7⟩, ⟨h8, h9⟩, ⟨h10, h11, h12⟩, ⟨h13, h14, h15⟩⟩ := rY_F h
  have h10' : t.length + 1 ≤ 24 := h10
  exact ⟨⟨by simpa [rx_ru] using h1, by simpa [rx_ru] using h2, h3, by simpa [rx_ru] using h4, by simpa [rx_ru] using h5⟩, ⟨h6, h7⟩, ⟨by simpa [rx_ru] using h8, by simpa [rx_ru] using h9⟩, ⟨(by show t.length ≤ 24; omega), (by show rx_u S.1 96 fs.length (nI t.length) 96 fs.length = nI t.length; simp [rx_ru]), rm_T_congr (S := S) (t := t) (by omega) (fun _ _ => rfl) h12.2⟩, ⟨h13, by simpa [rx_ru] using h14, by simpa [rx_ru] using h15⟩⟩
/-- two places of the state and the like: one of the state -/
theorem rY_setNow {gs : List vf_T} (h : rm_Y S0 S g (n, e, b, gs, m) E) (j : Nat) (x : Int64) : rm_Y S0 (S.1, rx_u S.2 82 j x) g (up1 n j x, e, b, gs, m) E := by
  obtain ⟨⟨⟨g1, g2, g3, g4⟩, h2, ⟨h3, h4⟩, h5, ⟨h6, h7⟩, h8⟩, hr, h9⟩ := h
  refine ⟨⟨⟨g1, g2, g3, g4⟩, fun i hi => ?_, ⟨h3, ?_⟩, h5, ⟨h6, ?_⟩, h8⟩, rm_rest_L hr (by omega), h9⟩
  · show rx_u S.2 82 j x 82 i = up1 n j x i
    rw [rx_ru, if_pos rfl]
    unfold up1
    split
    · rfl
    · exact h2 i hi
  · exact rm_E_congr (S := S) (fun i _ => ⟨rfl, by simp [rx_ru], by simp [rx_ru]⟩) h4
  · exact rm_Fs_congr (S := S) (fun i _ => ⟨fun a ha ha2 _ => ⟨rfl, by show rx_u S.2 82 j x a i = _; rw [rx_une _ (by omega)]⟩, ⟨rfl, rfl⟩, fun _ _ => by simp [rx_ru], fun _ _ => by simp [rx_ru]⟩) h7
theorem rY_setBack {gs : List vf_T} (h : rm_Y S0 S g (n, e, b, gs, m) E) (b' : Nat) : rm_Y S0 (rx_u S.1 52 56 (nI b'), S.2) g (n, e, b', gs, m) E := by
  obtain ⟨⟨⟨g1, g2, g3, g4⟩, h2, ⟨h3, h4⟩, h5, ⟨h6, h7⟩, h8⟩, hr, h9⟩ := h
  refine ⟨⟨⟨fun c hc => by simpa [rx_ru] using g1 c hc, by simpa [rx_ru] using g2, by simpa [rx_ru] using g3, by simpa [rx_ru] using g4⟩, h2, ⟨by simpa [rx_ru] using h3, ?_⟩, by simp [rx_ru], ⟨by simpa [rx_ru] using h6, ?_⟩, by simpa [rx_ru] using h8⟩, rm_rest_I hr (by omega), by simpa [rx_ru] using h9⟩
  · exact rm_E_congr (S := S) (fun i _ => ⟨by simp [rx_ru], rfl, rfl⟩) h4
  · exact rm_Fs_congr (S := S) (fun i _ => ⟨fun a ha ha2 _ => ⟨by show rx_u S.1 52 56 _ a i = _; rw [rx_une _ (by omega)], rfl⟩, ⟨by simp [rx_ru], by simp [rx_ru]⟩, fun _ _ => rfl, fun _ _ => rfl⟩) h7
theorem rY_setEnd {gs : List vf_T} (h : rm_Y S0 S g (n, e, b, gs, m) E) (E' : Nat) : rm_Y S0 (rx_u S.1 52 58 (nI E'), S.2) g (n, e, b, gs, m) E' := by
  obtain ⟨⟨⟨g1, g2, g3, g4⟩, h2, ⟨h3, h4⟩, h5, ⟨h6, h7⟩, h8⟩, hr, h9⟩ := h
  refine ⟨⟨⟨fun c hc => by simpa [rx_ru] using g1 c hc, by simpa [rx_ru] using g2, by simpa [rx_ru] using g3, by simpa [rx_ru] using g4⟩, h2, ⟨by simpa [rx_ru] using h3, ?_⟩, by simpa [rx_ru] using h5, ⟨by simpa [rx_ru] using h6, ?_⟩, by simpa [rx_ru] using h8⟩, rm_rest_I hr (by omega), by simp [rx_ru]⟩
  · exact rm_E_congr (S := S) (fun i _ => ⟨by simp [rx_ru], rfl, rfl⟩) h4
  · exact rm_Fs_congr (S := S) (fun i _ => ⟨fun a ha ha2 _ => ⟨by show rx_u S.1 52 58 _ a i = _; rw [rx_une _ (by omega)], rfl⟩, ⟨by simp [rx_ru], by simp [rx_ru]⟩, fun _ _ => rfl, fun _ _ => rfl⟩) h7
/-- longs of the model's own: what was ended with -/
theorem rY_set52 {gs : List vf_T} (h : rm_Y S0 S g (n, e, b, gs, m) E) {j : Nat} (hj : j = 59 ∨ j = 60) (x : Int64) : rm_Y S0 (S.1, rx_u S.2 52 j x) g (n, e, b, gs, m) E := by
  obtain ⟨⟨⟨g1, g2, g3, g4⟩, h2, ⟨h3, h4⟩, h5, ⟨h6, h7⟩, h8⟩, hr, h9⟩ := h
  refine ⟨⟨⟨g1, g2, g3, g4⟩, fun i hi => by simpa [rx_ru] using h2 i hi, ⟨h3, ?_⟩, h5, ⟨h6, ?_⟩, h8⟩, rm_rest_L hr (by omega), h9⟩
  · exact rm_E_congr (S := S) (fun i _ => ⟨rfl, by simp [rx_ru], by simp [rx_ru]⟩) h4
  · exact rm_Fs_congr (S := S) (fun i _ => ⟨fun a ha ha2 _ => ⟨rfl, by show rx_u S.2 52 j x a i = _; rw [rx_une _ (by omega)]⟩, ⟨rfl, rfl⟩, fun _ _ => by simp [rx_ru], fun _ _ => by simp [rx_ru]⟩) h7
end RY

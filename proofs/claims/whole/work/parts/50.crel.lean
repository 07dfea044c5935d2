/-! THE CLASS'S MACHINE: its cells hold a machine X. A state's 1024 leaves, 32 of an account -/
def lf (n : Nat → Int64) (k : Nat) : Int64 := if k % 32 < 3 then n (19 * (k / 32) + k % 32) else if 16 ≤ k % 32 then n (19 * (k / 32) + (k % 32 - 13)) else 0
def rc_T (C : rx_M) (p : Nat) : List Int64 → Prop
  | [] => True
  | v :: r => C.2.1 (14 + 3 * p) r.length = v ∧ rc_T C p r
/-- a frame's cells; K: where a code and its octets lie; bs: the events of earlier orders -/
def rc_F (K : Nat → Nat × Nat) (C : rx_M) (bs p : Nat) (f : vf_T) : Prop :=
  (C.2.2.1 (13 + 3 * p) 5 = some (K (fC f)).1 ∧ C.1 (13 + 3 * p) 6 = nI (fA f) ∧ C.1 (13 + 3 * p) 8 = nI (fG f) ∧ C.1 (13 + 3 * p) 9 = nI (fS f) ∧ C.1 (13 + 3 * p) 10 = nI (fK f)) ∧ (C.2.1 (13 + 3 * p) 11 = fV f ∧ C.2.1 (13 + 3 * p) 12 = fR f) ∧ (C.1 (13 + 3 * p) 13 = bI (fL f) ∧ C.1 (13 + 3 * p) 14 = bI (fO f)) ∧
  ((fT f).length ≤ 24 ∧ C.1 (13 + 3 * p) 4 = nI (fT f).length ∧ rc_T C p (fT f)) ∧ (fL f = false → (∀ k, k < 1024 → C.2.1 (15 + 3 * p) k = lf (fB f).1 k) ∧ C.1 (13 + 3 * p) 2 = nI (bs + (fB f).2.1) ∧ C.1 (13 + 3 * p) 3 = nI (fB f).2.2)
def rc_Fs (K : Nat → Nat × Nat) (C : rx_M) (bs : Nat) : List vf_T → Prop
  | [] => True
  | f :: fs => rc_F K C bs fs.length f ∧ rc_Fs K C bs fs
def rc_E (C : rx_M) (bs od : Nat) : List (Nat × Int64 × Int64) → Prop
  | [] => True
  | e :: es => (bs + es.length < 60 → C.2.1 10 (4 * (bs + es.length)) = lN e.1 ∧ C.2.1 10 (4 * (bs + es.length) + 1) = e.2.1 ∧ C.2.1 10 (4 * (bs + es.length) + 2) = e.2.2 ∧ C.2.1 10 (4 * (bs + es.length) + 3) = lN od) ∧ rc_E C bs od es
/-- a code at its places -/
def rc_K (C : rx_M) (w : Nat × Nat) (c : List Nat) : Prop := ((102 ≤ w.1 ∧ w.1 < 102 + C.2.2.2.2) ∧ (C.2.2.2.1 w.1).1 = 2 ∧ C.2.2.1 w.1 0 = some w.2) ∧ ((102 ≤ w.2 ∧ w.2 < 102 + C.2.2.2.2) ∧ C.2.2.2.1 w.2 = (12, c.length) ∧ ∀ k, k < c.length → C.1 w.2 k = (nI (c.getD k 0)).toInt8.toInt32)
def rc_G (K : Nat → Nat × Nat) (C : rx_M) (g : vg_T) : Prop := (∀ c, c < g.2.1 → C.2.2.1 6 c = some (K c).1 ∧ rc_K C (K c) (g.1 c)) ∧ C.1 5 1 = nI g.2.1 ∧ C.1 4 7 = nI g.2.2.1 ∧ C.1 4 6 = nI g.2.2.2
def rc_X (K : Nat → Nat × Nat) (C : rx_M) (g : vg_T) (bs od : Nat) (X : vx_S) : Prop := rc_G K C g ∧ (∀ k, k < 1024 → C.2.1 8 k = lf X.1 k) ∧ (C.1 9 1 = nI (bs + X.2.1.length) ∧ C.1 9 2 = nI od ∧ rc_E C bs od X.2.1) ∧ C.1 4 8 = nI X.2.2.1 ∧ (C.1 4 5 = nI X.2.2.2.1.length ∧ rc_Fs K C bs X.2.2.2.1) ∧ C.1 4 9 = nI X.2.2.2.2
/-- what a run leaves as it was -/
def rc_rest (bs : Nat) (C0 C : rx_M) : Prop := (∀ a, (a < 4 ∨ a = 5 ∨ a = 6 ∨ 42 < a) → C.1 a = C0.1 a ∧ C.2.1 a = C0.2.1 a) ∧ (∀ a, (a < 13 ∨ 42 < a) → C.2.2.1 a = C0.2.2.1 a) ∧ C.2.2.2 = C0.2.2.2 ∧ ∀ j, j < 4 * bs → C.2.1 10 j = C0.2.1 10 j
/-- z: the inmost frame's operandPlace -/
def rc_Y (K : Nat → Nat × Nat) (C0 C : rx_M) (g : vg_T) (bs od : Nat) (X : vx_S) (z : Int32) : Prop := rc_X K C g bs od X ∧ rc_rest bs C0 C ∧ C.1 (13 + 3 * (X.2.2.2.1.length - 1)) 7 = z
theorem rc_K_congr {C C' : rx_M} {w : Nat × Nat} {c : List Nat} (h : rc_K C w c) (hI : ∀ a, 42 < a → C'.1 a = C.1 a) (hR : ∀ a, 42 < a → C'.2.2.1 a = C.2.2.1 a) (hk : C'.2.2.2 = C.2.2.2) : rc_K C' w c := by
  obtain ⟨⟨h1, h2, h3⟩, ⟨h4, h5, h6⟩⟩ := h
  refine ⟨⟨by rw [hk]; exact h1, by rw [hk]; exact h2, by rw [hR _ (by omega)]; exact h3⟩, ⟨by rw [hk]; exact h4, by rw [hk]; exact h5, fun k hk' => by rw [hI _ (by omega)]; exact h6 k hk'⟩⟩
theorem rc_G_congr {K : Nat → Nat × Nat} {C C' : rx_M} {g : vg_T} (h : rc_G K C g) (hI : ∀ a, 42 < a → C'.1 a = C.1 a) (hR : ∀ a, 42 < a → C'.2.2.1 a = C.2.2.1 a) (hR6 : C'.2.2.1 6 = C.2.2.1 6) (hk : C'.2.2.2 = C.2.2.2) (h5 : C'.1 5 1 = C.1 5 1) (h46 : C'.1 4 6 = C.1 4 6) (h47 : C'.1 4 7 = C.1 4 7) : rc_G K C' g :=
  ⟨fun c hc => ⟨by rw [hR6]; exact (h.1 c hc).1, rc_K_congr (h.1 c hc).2 hI hR hk⟩, h5.trans h.2.1, h47.trans h.2.2.1, h46.trans h.2.2.2⟩
theorem rc_E_congr {C C' : rx_M} {bs od : Nat} : ∀ {es : List (Nat × Int64 × Int64)}, (∀ j, j < 4 * (bs + es.length) → C'.2.1 10 j = C.2.1 10 j) → rc_E C bs od es → rc_E C' bs od es
  | [], _, _ => trivial
  | e :: es, hs, h => by
    have hs' : ∀ j, j < 4 * (bs + (es.length + 1)) → C'.2.1 10 j = C.2.1 10 j := hs
    refine ⟨fun hb => ?_, rc_E_congr (fun j hj => hs' j (by omega)) h.2⟩
    rw [hs' _ (by omega), hs' _ (by omega), hs' _ (by omega), hs' _ (by omega)]
    exact h.1 hb
theorem rc_T_congr {C C' : rx_M} {p : Nat} : ∀ {t : List Int64}, (∀ j, j < t.length → C'.2.1 (14 + 3 * p) j = C.2.1 (14 + 3 * p) j) → rc_T C p t → rc_T C' p t
  | [], _, _ => trivial
  | v :: r, hs, h => ⟨(hs r.length (by simp)).trans h.1, rc_T_congr (fun j hj => hs j (by simp; omega)) h.2⟩
theorem rc_F_congr {K : Nat → Nat × Nat} {C C' : rx_M} {bs p : Nat} {f : vf_T} (hI : C'.1 (13 + 3 * p) = C.1 (13 + 3 * p)) (hL : C'.2.1 (13 + 3 * p) = C.2.1 (13 + 3 * p)) (hR : C'.2.2.1 (13 + 3 * p) = C.2.2.1 (13 + 3 * p)) (hT : C'.2.1 (14 + 3 * p) = C.2.1 (14 + 3 * p)) (hB : C'.2.1 (15 + 3 * p) = C.2.1 (15 + 3 * p)) (h : rc_F K C bs p f) : rc_F K C' bs p f := by
  obtain ⟨h1, h2, h3, ⟨h4, h5, h6⟩, h7⟩ := h
  refine ⟨by rw [hI, hR]; exact h1, by rw [hL]; exact h2, by rw [hI]; exact h3, ⟨h4, by rw [hI]; exact h5, rc_T_congr (fun j _ => by rw [hT]) h6⟩, fun hl => ?_⟩
  rw [hB, hI]; exact h7 hl
theorem rc_Fs_congr {K : Nat → Nat × Nat} {C C' : rx_M} {bs : Nat} : ∀ {fs : List vf_T}, (∀ a, 13 ≤ a → a < 13 + 3 * fs.length → C'.1 a = C.1 a ∧ C'.2.1 a = C.2.1 a ∧ C'.2.2.1 a = C.2.2.1 a) → rc_Fs K C bs fs → rc_Fs K C' bs fs
  | [], _, _ => trivial
  | f :: fs, hs, h => by
    have hs' : ∀ a, 13 ≤ a → a < 13 + 3 * (fs.length + 1) → C'.1 a = C.1 a ∧ C'.2.1 a = C.2.1 a ∧ C'.2.2.1 a = C.2.2.1 a := hs
    have h13 := hs' (13 + 3 * fs.length) (by omega) (by omega)
    exact ⟨rc_F_congr h13.1 h13.2.1 h13.2.2 (hs' (14 + 3 * fs.length) (by omega) (by omega)).2.1 (hs' (15 + 3 * fs.length) (by omega) (by omega)).2.1 h.1, rc_Fs_congr (fun a ha ha2 => hs' a ha (by omega)) h.2⟩
/-- the same but for the frames from the p-th on -/
def rc_near (C C' : rx_M) (p : Nat) : Prop := (∀ a, a < 13 + 3 * p ∨ 42 < a → C'.1 a = C.1 a ∧ C'.2.1 a = C.2.1 a ∧ C'.2.2.1 a = C.2.2.1 a) ∧ C'.2.2.2 = C.2.2.2
theorem rc_near_refl {C : rx_M} {p : Nat} : rc_near C C p := ⟨fun _ _ => ⟨rfl, rfl, rfl⟩, rfl⟩
theorem rc_near_I {C : rx_M} {A : Nat → Nat → Int32} {B : (Nat → Nat → Int64) × (Nat → Nat → Option Nat) × (Nat → Nat × Nat) × Nat} {a p j : Nat} {x : Int32} (h : rc_near C (A, B) p) (h1 : 13 + 3 * p ≤ a) (h2 : a ≤ 42) : rc_near C (rx_u A a j x, B) p := by
  refine ⟨fun b hb => ⟨?_, (h.1 b hb).2⟩, h.2⟩
  show rx_u A a j x b = _
  rw [rx_une _ (by omega)]; exact (h.1 b hb).1
theorem rc_near_L {C : rx_M} {A : Nat → Nat → Int32} {L : Nat → Nat → Int64} {B : (Nat → Nat → Option Nat) × (Nat → Nat × Nat) × Nat} {a p j : Nat} {x : Int64} (h : rc_near C (A, L, B) p) (h1 : 13 + 3 * p ≤ a) (h2 : a ≤ 42) : rc_near C (A, rx_u L a j x, B) p := by
  refine ⟨fun b hb => ⟨(h.1 b hb).1, ?_, (h.1 b hb).2.2⟩, h.2⟩
  show rx_u L a j x b = _
  rw [rx_une _ (by omega)]; exact (h.1 b hb).2.1
theorem rc_near_R {C : rx_M} {A : Nat → Nat → Int32} {L : Nat → Nat → Int64} {R : Nat → Nat → Option Nat} {B : (Nat → Nat × Nat) × Nat} {a p j : Nat} {x : Option Nat} (h : rc_near C (A, L, R, B) p) (h1 : 13 + 3 * p ≤ a) (h2 : a ≤ 42) : rc_near C (A, L, rx_u R a j x, B) p := by
  refine ⟨fun b hb => ⟨(h.1 b hb).1, (h.1 b hb).2.1, ?_⟩, h.2⟩
  show rx_u R a j x b = _
  rw [rx_une _ (by omega)]; exact (h.1 b hb).2.2
theorem rc_near_k {C : rx_M} {A : Nat → Nat → Int32} {L : Nat → Nat → Int64} {B : (Nat → Nat → Option Nat) × (Nat → Nat × Nat) × Nat} {a p : Nat} {x : Nat → Int64} (h : rc_near C (A, L, B) p) (h1 : 13 + 3 * p ≤ a) (h2 : a ≤ 42) : rc_near C (A, rx_k1 L a x, B) p := by
  refine ⟨fun b hb => ⟨(h.1 b hb).1, ?_, (h.1 b hb).2.2⟩, h.2⟩
  show rx_k1 L a x b = _
  unfold rx_k1
  rw [if_neg (by omega)]; exact (h.1 b hb).2.1
section RCY
variable {K : Nat → Nat × Nat} {C0 C C' : rx_M} {g : vg_T} {bs od : Nat} {n : Nat → Int64} {e : List (Nat × Int64 × Int64)} {b m c a q s k : Nat} {v r : Int64} {l o : Bool} {t : List Int64} {w : (Nat → Int64) × Nat × Nat} {fs gs : List vf_T} {f f' : vf_T} {z : Int32}
theorem rc_rest_near (h : rc_rest bs C0 C) {p : Nat} (hn : rc_near C C' p) : rc_rest bs C0 C' := by
  obtain ⟨h1, h2, h3, h4⟩ := h
  refine ⟨fun a ha => ?_, fun a ha => ?_, hn.2.trans h3, fun j hj => ?_⟩
  · rw [(hn.1 a (by omega)).1, (hn.1 a (by omega)).2.1]; exact h1 a ha
  · rw [(hn.1 a (by omega)).2.2]; exact h2 a ha
  · rw [(hn.1 10 (by omega)).2.1]; exact h4 j hj
/-- the frames above the machine's changed -/
theorem rcY_above (h : rc_X K C g bs od (n, e, b, gs, m)) (hn : rc_near C C' gs.length) : rc_X K C' g bs od (n, e, b, gs, m) := by
  obtain ⟨h1, h2, ⟨h3, h4, h5⟩, h6, ⟨h7, h8⟩, h9⟩ := h
  have hI : ∀ a, a < 13 + 3 * gs.length ∨ 42 < a → C'.1 a = C.1 a := fun a ha => (hn.1 a ha).1
  have hL : ∀ a, a < 13 + 3 * gs.length ∨ 42 < a → C'.2.1 a = C.2.1 a := fun a ha => (hn.1 a ha).2.1
  have hR : ∀ a, a < 13 + 3 * gs.length ∨ 42 < a → C'.2.2.1 a = C.2.2.1 a := fun a ha => (hn.1 a ha).2.2
  refine ⟨rc_G_congr h1 (fun a ha => hI a (by omega)) (fun a ha => hR a (by omega)) (hR 6 (by omega)) hn.2 (by rw [hI 5 (by omega)]) (by rw [hI 4 (by omega)]) (by rw [hI 4 (by omega)]), fun k hk => by rw [hL 8 (by omega)]; exact h2 k hk, ⟨by rw [hI 9 (by omega)]; exact h3, by rw [hI 9 (by omega)]; exact h4, rc_E_congr (fun j _ => by rw [hL 10 (by omega)]) h5⟩, by rw [hI 4 (by omega)]; exact h6, ⟨by rw [hI 4 (by omega)]; exact h7, rc_Fs_congr (fun a ha (ha2 : a < 13 + 3 * gs.length) => hn.1 a (by omega)) h8⟩, by rw [hI 4 (by omega)]; exact h9⟩
/-- the inmost frame changed alone -/
theorem rcY_top (h : rc_X K C g bs od (n, e, b, f :: fs, m)) (hn : rc_near C C' fs.length) (hf : rc_F K C' bs fs.length f') : rc_X K C' g bs od (n, e, b, f' :: fs, m) := by
  obtain ⟨h1, h2, ⟨h3, h4, h5⟩, h6, ⟨h7, h8⟩, h9⟩ := h
  have hI : ∀ a, a < 13 + 3 * fs.length ∨ 42 < a → C'.1 a = C.1 a := fun a ha => (hn.1 a ha).1
  have hL : ∀ a, a < 13 + 3 * fs.length ∨ 42 < a → C'.2.1 a = C.2.1 a := fun a ha => (hn.1 a ha).2.1
  have hR : ∀ a, a < 13 + 3 * fs.length ∨ 42 < a → C'.2.2.1 a = C.2.2.1 a := fun a ha => (hn.1 a ha).2.2
  refine ⟨rc_G_congr h1 (fun a ha => hI a (by omega)) (fun a ha => hR a (by omega)) (hR 6 (by omega)) hn.2 (by rw [hI 5 (by omega)]) (by rw [hI 4 (by omega)]) (by rw [hI 4 (by omega)]), fun k hk => by rw [hL 8 (by omega)]; exact h2 k hk, ⟨by rw [hI 9 (by omega)]; exact h3, by rw [hI 9 (by omega)]; exact h4, rc_E_congr (fun j _ => by rw [hL 10 (by omega)]) h5⟩, by rw [hI 4 (by omega)]; exact h6, ⟨by rw [hI 4 (by omega)]; exact h7, hf, rc_Fs_congr (fun a ha ha2 => hn.1 a (by omega)) h8.2⟩, by rw [hI 4 (by omega)]; exact h9⟩
/-- fields of the machine that say nothing of X, and the call's -/
theorem rcY_irr {X : vx_S} (h : rc_Y K C0 C g bs od X z) (hI : ∀ a, a ≠ 4 → a ≠ 11 → C'.1 a = C.1 a ∧ C'.2.1 a = C.2.1 a) (h4 : ∀ k, 5 ≤ k → k ≤ 9 → C'.1 4 k = C.1 4 k) (hr : C'.2.2 = C.2.2) : rc_Y K C0 C' g bs od X z := by
  obtain ⟨⟨h1, h2, ⟨h3, h4', h5⟩, h6, ⟨h7, h8⟩, h9⟩, ⟨r1, r2, r3, r4⟩, hz⟩ := h
  refine ⟨⟨rc_G_congr h1 (fun a ha => (hI a (by omega) (by omega)).1) (fun a ha => by rw [hr]) (by rw [hr]) (by rw [hr]) (by rw [(hI 5 (by decide) (by decide)).1]) (h4 6 (by decide) (by decide)) (h4 7 (by decide) (by decide)), fun k hk => by rw [(hI 8 (by decide) (by decide)).2]; exact h2 k hk, ⟨by rw [(hI 9 (by decide) (by decide)).1]; exact h3, by rw [(hI 9 (by decide) (by decide)).1]; exact h4', rc_E_congr (fun j _ => by rw [(hI 10 (by decide) (by decide)).2]) h5⟩, (h4 8 (by decide) (by decide)).trans h6, ⟨(h4 5 (by decide) (by decide)).trans h7, rc_Fs_congr (fun a ha ha2 => ⟨(hI a (by omega) (by omega)).1, (hI a (by omega) (by omega)).2, by rw [hr]⟩) h8⟩, (h4 9 (by decide) (by decide)).trans h9⟩, ⟨fun a ha => ?_, fun a ha => by rw [hr]; exact r2 a ha, by rw [hr]; exact r3, fun j hj => by rw [(hI 10 (by decide) (by decide)).2]; exact r4 j hj⟩, ?_⟩
  · rw [(hI a (by omega) (by omega)).1, (hI a (by omega) (by omega)).2]; exact r1 a ha
  · rw [(hI _ (by omega) (by omega)).1]; exact hz
theorem rcY_set4 {X : vx_S} (h : rc_Y K C0 C g bs od X z) {j : Nat} (hj : j = 10 ∨ j = 12) (x : Int32) : rc_Y K C0 (rx_u C.1 4 j x, C.2) g bs od X z :=
  rcY_irr h (fun a h4 _ => ⟨rx_une _ h4, rfl⟩) (fun k h1 h2 => by show rx_u C.1 4 j x 4 k = _; rw [rx_ru, if_pos rfl, if_neg (by omega)]) rfl
theorem rcY_setA {X : vx_S} (h : rc_Y K C0 C g bs od X z) (x : Int64) : rc_Y K C0 (C.1, rx_u C.2.1 4 11 x, C.2.2) g bs od X z :=
  rcY_irr h (fun a h4 _ => ⟨rfl, rx_une _ h4⟩) (fun k h1 h2 => rfl) rfl
theorem rcY_call {X : vx_S} (h : rc_Y K C0 C g bs od X z) (j1 j5 j6 : Nat) (x1 x5 x6 : Int32) (j2 j3 j4 : Nat) (x2 x3 x4 : Int64) : rc_Y K C0 (rx_u (rx_u (rx_u C.1 11 j1 x1) 11 j5 x5) 11 j6 x6, rx_u (rx_u (rx_u C.2.1 11 j2 x2) 11 j3 x3) 11 j4 x4, C.2.2) g bs od X z :=
  rcY_irr h (fun a _ h11 => ⟨by show rx_u (rx_u (rx_u C.1 11 j1 x1) 11 j5 x5) 11 j6 x6 a = _; rw [rx_une _ h11, rx_une _ h11, rx_une _ h11], by show rx_u (rx_u (rx_u C.2.1 11 j2 x2) 11 j3 x3) 11 j4 x4 a = _; rw [rx_une _ h11, rx_une _ h11, rx_une _ h11]⟩) (fun k h1 h2 => by show rx_u (rx_u (rx_u C.1 11 j1 x1) 11 j5 x5) 11 j6 x6 4 k = _; rw [rx_une _ (by decide), rx_une _ (by decide), rx_une _ (by decide)]) rfl
-- reading
theorem rcF (h : rc_Y K C0 C g bs od (n, e, b, ((c, a, q, s, k), (v, r), (l, o), t, w) :: fs, m) z) : rc_F K C bs fs.length ((c, a, q, s, k), (v, r), (l, o), t, w) := h.1.2.2.2.2.1.2.1
theorem rc_dep (h : rc_Y K C0 C g bs od (n, e, b, ((c, a, q, s, k), (v, r), (l, o), t, w) :: fs, m) z) : C.1 4 5 = nI (fs.length + 1) := h.1.2.2.2.2.1.1
theorem rc_dep' (h : rc_Y K C0 C g bs od (n, e, b, gs, m) z) : C.1 4 5 = nI gs.length := h.1.2.2.2.2.1.1
theorem rc_code (h : rc_Y K C0 C g bs od (n, e, b, ((c, a, q, s, k), (v, r), (l, o), t, w) :: fs, m) z) : C.2.2.1 (13 + 3 * fs.length) 5 = some (K c).1 := (rcF h).1.1
theorem rc_at (h : rc_Y K C0 C g bs od (n, e, b, ((c, a, q, s, k), (v, r), (l, o), t, w) :: fs, m) z) : C.1 (13 + 3 * fs.length) 6 = nI a := (rcF h).1.2.1
theorem rc_op (h : rc_Y K C0 C g bs od (n, e, b, ((c, a, q, s, k), (v, r), (l, o), t, w) :: fs, m) z) : C.1 (13 + 3 * fs.length) 7 = z := h.2.2
theorem rc_gas (h : rc_Y K C0 C g bs od (n, e, b, ((c, a, q, s, k), (v, r), (l, o), t, w) :: fs, m) z) : C.1 (13 + 3 * fs.length) 8 = nI q := (rcF h).1.2.2.1
theorem rc_self (h : rc_Y K C0 C g bs od (n, e, b, ((c, a, q, s, k), (v, r), (l, o), t, w) :: fs, m) z) : C.1 (13 + 3 * fs.length) 9 = nI s := (rcF h).1.2.2.2.1
theorem rc_clr (h : rc_Y K C0 C g bs od (n, e, b, ((c, a, q, s, k), (v, r), (l, o), t, w) :: fs, m) z) : C.1 (13 + 3 * fs.length) 10 = nI k := (rcF h).1.2.2.2.2
theorem rc_val (h : rc_Y K C0 C g bs od (n, e, b, ((c, a, q, s, k), (v, r), (l, o), t, w) :: fs, m) z) : C.2.1 (13 + 3 * fs.length) 11 = v := (rcF h).2.1.1
theorem rc_arg (h : rc_Y K C0 C g bs od (n, e, b, ((c, a, q, s, k), (v, r), (l, o), t, w) :: fs, m) z) : C.2.1 (13 + 3 * fs.length) 12 = r := (rcF h).2.1.2
theorem rc_look (h : rc_Y K C0 C g bs od (n, e, b, ((c, a, q, s, k), (v, r), (l, o), t, w) :: fs, m) z) : C.1 (13 + 3 * fs.length) 13 = bI l := (rcF h).2.2.1.1
theorem rc_lock (h : rc_Y K C0 C g bs od (n, e, b, ((c, a, q, s, k), (v, r), (l, o), t, w) :: fs, m) z) : C.1 (13 + 3 * fs.length) 14 = bI o := (rcF h).2.2.1.2
theorem rc_n (h : rc_Y K C0 C g bs od (n, e, b, ((c, a, q, s, k), (v, r), (l, o), t, w) :: fs, m) z) : t.length ≤ 24 := (rcF h).2.2.2.1.1
theorem rc_size (h : rc_Y K C0 C g bs od (n, e, b, ((c, a, q, s, k), (v, r), (l, o), t, w) :: fs, m) z) : C.1 (13 + 3 * fs.length) 4 = nI t.length := (rcF h).2.2.2.1.2.1
theorem rc_stk (h : rc_Y K C0 C g bs od (n, e, b, ((c, a, q, s, k), (v, r), (l, o), t, w) :: fs, m) z) : rc_T C fs.length t := (rcF h).2.2.2.1.2.2
theorem rc_now (h : rc_Y K C0 C g bs od (n, e, b, gs, m) z) {j : Nat} (hj : j < 1024) : C.2.1 8 j = lf n j := h.1.2.1 j hj
theorem rc_many (h : rc_Y K C0 C g bs od (n, e, b, gs, m) z) : C.1 5 1 = nI g.2.1 := h.1.1.2.1
theorem rc_orig (h : rc_Y K C0 C g bs od (n, e, b, gs, m) z) : C.1 4 7 = nI g.2.2.1 := h.1.1.2.2.1
theorem rc_high (h : rc_Y K C0 C g bs od (n, e, b, gs, m) z) : C.1 4 6 = nI g.2.2.2 := h.1.1.2.2.2
theorem rc_cod (h : rc_Y K C0 C g bs od (n, e, b, gs, m) z) {j : Nat} (hj : j < g.2.1) : C.2.2.1 6 j = some (K j).1 ∧ rc_K C (K j) (g.1 j) := h.1.1.1 j hj
theorem rc_ev (h : rc_Y K C0 C g bs od (n, e, b, gs, m) z) : C.1 9 1 = nI (bs + e.length) := h.1.2.2.1.1
theorem rc_od (h : rc_Y K C0 C g bs od (n, e, b, gs, m) z) : C.1 9 2 = nI od := h.1.2.2.1.2.1
theorem rc_back (h : rc_Y K C0 C g bs od (n, e, b, gs, m) z) : C.1 4 8 = nI b := h.1.2.2.2.1
theorem rc_run (h : rc_Y K C0 C g bs od (n, e, b, gs, m) z) : C.1 4 9 = nI m := h.1.2.2.2.2.2
-- the leaf of a balance, a nonce, a code, a cell
theorem lf_bal {n : Nat → Int64} {a : Nat} {i : Nat} (hi : i < 3) : lf n (32 * a + i) = n (19 * a + i) := by
  unfold lf
  rw [show (32 * a + i) % 32 = i by omega, show (32 * a + i) / 32 = a by omega, if_pos hi]
theorem lf_cell {n : Nat → Int64} {a : Nat} {i : Nat} (hi : i < 16) : lf n (32 * a + 16 + i) = n (19 * a + 3 + i) := by
  unfold lf
  rw [show (32 * a + 16 + i) % 32 = 16 + i by omega, show (32 * a + 16 + i) / 32 = a by omega, if_neg (by omega), if_pos (by omega)]
  congr 1; omega
theorem lf_up0 {n : Nat → Int64} {a i : Nat} (hi : i < 3) (x : Int64) (k : Nat) : lf (up1 n (19 * a + i) x) k = if k = 32 * a + i then x else lf n k := by
  by_cases hk : k = 32 * a + i
  · rw [if_pos hk, hk, lf_bal hi]; unfold up1; rw [if_pos rfl]
  · rw [if_neg hk]
    unfold lf up1
    split
    · rw [if_neg (by omega)]
    · split
      · rw [if_neg (by omega)]
      · rfl
theorem lf_upc {n : Nat → Int64} {a i : Nat} (hi : i < 16) (x : Int64) (k : Nat) : lf (up1 n (19 * a + 3 + i) x) k = if k = 32 * a + 16 + i then x else lf n k := by
  by_cases hk : k = 32 * a + 16 + i
  · rw [if_pos hk, hk, lf_cell hi]; unfold up1; rw [if_pos rfl]
  · rw [if_neg hk]
    unfold lf up1
    split
    · rw [if_neg (by omega)]
    · split
      · rw [if_neg (by omega)]
      · rfl
theorem rcY_leaf (h : rc_Y K C0 C g bs od (n, e, b, gs, m) z) {n' : Nat → Int64} {j : Nat} {x : Int64} (hn : ∀ k, lf n' k = if k = j then x else lf n k) : rc_Y K C0 (C.1, rx_u C.2.1 8 j x, C.2.2) g bs od (n', e, b, gs, m) z := by
  obtain ⟨⟨h1, h2, ⟨h3, h4, h5⟩, h6, ⟨h7, h8⟩, h9⟩, ⟨r1, r2, r3, r4⟩, hz⟩ := h
  refine ⟨⟨h1, fun k hk => ?_, ⟨h3, h4, rc_E_congr (C := C) (fun i _ => by show rx_u C.2.1 8 j x 10 i = _; rw [rx_une _ (by decide)]) h5⟩, h6, ⟨h7, rc_Fs_congr (C := C) (fun a ha ha2 => ⟨rfl, by show rx_u C.2.1 8 j x a = _; rw [rx_une _ (by omega)], rfl⟩) h8⟩, h9⟩, ⟨fun a ha => ⟨(r1 a ha).1, by show rx_u C.2.1 8 j x a = _; rw [rx_une _ (by omega)]; exact (r1 a ha).2⟩, r2, r3, fun i hi => by show rx_u C.2.1 8 j x 10 i = _; rw [rx_une _ (by decide)]; exact r4 i hi⟩, hz⟩
  show rx_u C.2.1 8 j x 8 k = lf n' k
  rw [rx_ru, if_pos rfl, hn k]
  split
  · rfl
  · exact h2 k hk
theorem rcY_setBack (h : rc_Y K C0 C g bs od (n, e, b, gs, m) z) (b' : Nat) : rc_Y K C0 (rx_u C.1 4 8 (nI b'), C.2) g bs od (n, e, b', gs, m) z := by
  obtain ⟨⟨h1, h2, ⟨h3, h4, h5⟩, h6, ⟨h7, h8⟩, h9⟩, ⟨r1, r2, r3, r4⟩, hz⟩ := h
  refine ⟨⟨rc_G_congr h1 (fun a ha => rx_une _ (by omega)) (fun _ _ => rfl) rfl rfl (by simp [rx_ru]) (by simp [rx_ru]) (by simp [rx_ru]), h2, ⟨by simpa [rx_ru] using h3, by simpa [rx_ru] using h4, rc_E_congr (C := C) (fun j _ => rfl) h5⟩, by simp [rx_ru], ⟨by simpa [rx_ru] using h7, rc_Fs_congr (C := C) (fun a ha ha2 => ⟨rx_une _ (by omega), rfl, rfl⟩) h8⟩, by simpa [rx_ru] using h9⟩, ⟨fun a ha => ⟨(rx_une _ (by omega)).trans (r1 a ha).1, (r1 a ha).2⟩, r2, r3, r4⟩, ?_⟩
  show rx_u C.1 4 8 (nI b') _ 7 = z
  rw [rx_une _ (by omega)]; exact hz
end RCY

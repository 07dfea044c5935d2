/-! THE MODEL'S MACHINE: its rows hold a machine X -/
def bI (b : Bool) : Int32 := if b then nI 1 else nI 0
/-- the stack's numbers, from place 24 p on -/
def rm_T (S : gs_T) (p : Nat) : List Int64 → Prop
  | [] => True
  | v :: r => S.2 95 (24 * p + r.length) = v ∧ rm_T S p r
def rm_F (S : gs_T) (p : Nat) (f : vf_T) : Prop :=
  (S.1 86 p = nI (fC f) ∧ S.1 87 p = nI (fA f) ∧ S.2 88 p = lN (fG f) ∧ S.1 89 p = nI (fS f) ∧ S.1 90 p = nI (fK f)) ∧ (S.2 91 p = fV f ∧ S.2 92 p = fR f) ∧ (S.1 93 p = bI (fL f) ∧ S.1 94 p = bI (fO f)) ∧
  ((fT f).length ≤ 24 ∧ S.1 96 p = nI (fT f).length ∧ rm_T S p (fT f)) ∧ ((∀ k, k < 608 → S.2 83 (608 * p + k) = (fB f).1 k) ∧ S.1 84 p = nI (fB f).2.1 ∧ S.1 85 p = nI (fB f).2.2)
def rm_Fs (S : gs_T) : List vf_T → Prop
  | [] => True
  | f :: fs => rm_F S fs.length f ∧ rm_Fs S fs
/-- events, newest first -/
def rm_E (S : gs_T) : List (Nat × Int64 × Int64) → Prop
  | [] => True
  | e :: es => (S.1 97 es.length = nI e.1 ∧ S.2 98 es.length = e.2.1 ∧ S.2 99 es.length = e.2.2) ∧ rm_E S es
/-- codes, their sizes and number, origin, height -/
def rm_G (S : gs_T) (g : vg_T) : Prop := (∀ c, c < g.2.1 → S.1 54 c = nI (g.1 c).length ∧ ∀ k, k < (g.1 c).length → S.1 53 (200 * c + k) = nI ((g.1 c).getD k 0)) ∧ S.1 52 3 = nI g.2.1 ∧ S.1 52 50 = nI g.2.2.1 ∧ S.1 52 51 = nI g.2.2.2
def rm_X (S : gs_T) (g : vg_T) (X : vx_S) : Prop := rm_G S g ∧ (∀ k, k < 608 → S.2 82 k = X.1 k) ∧ (S.1 52 52 = nI X.2.1.length ∧ rm_E S X.2.1) ∧ S.1 52 56 = nI X.2.2.1 ∧ (S.1 52 49 = nI X.2.2.2.1.length ∧ rm_Fs S X.2.2.2.1) ∧ S.1 52 57 = nI X.2.2.2.2
/-- a code is whole: beg says where acts begin -/
def vw_code (c : List Nat) : Prop := c.length ≤ 200 ∧ (∀ k, k < c.length → c.getD k 0 < 256) ∧ ∃ beg : Nat → Prop, beg 0 ∧ (∀ k, beg k → k < c.length → c.getD k 0 < 40 ∧ k + vm_size (c.getD k 0) ≤ c.length ∧ beg (k + vm_size (c.getD k 0)) ∧ (c.getD k 0 = 19 ∨ c.getD k 0 = 20 → beg (c.getD (k + 1) 0)))
/-- a place of a code at which an act begins, or its end -/
def vw_at (c : List Nat) (k : Nat) : Prop := c.length ≤ 200 ∧ (∀ k, k < c.length → c.getD k 0 < 256) ∧ ∃ beg : Nat → Prop, beg k ∧ (∀ k, beg k → k < c.length → c.getD k 0 < 40 ∧ k + vm_size (c.getD k 0) ≤ c.length ∧ beg (k + vm_size (c.getD k 0)) ∧ (c.getD k 0 = 19 ∨ c.getD k 0 = 20 → beg (c.getD (k + 1) 0)))
def vw_F (g : vg_T) (f : vf_T) : Prop := fC f < g.2.1 ∧ vw_at (g.1 (fC f)) (fA f) ∧ fG f ≤ 30000 ∧ fS f < 32 ∧ fK f < 32
/-- gas of all frames together -/
def vw_sum : List vf_T → Nat
  | [] => 0
  | f :: fs => fG f + vw_sum fs
/-- the frames below the inmost have room for what is told them -/
def vw_low : List vf_T → Prop
  | [] => True
  | f :: fs => (fT f).length ≤ 21 ∧ vw_low fs
/-- each account's code is none or one of those that are there -/
def vw_codes (g : vg_T) (n : Nat → Int64) : Prop := ∀ a, a < 32 → ∃ c, c ≤ g.2.1 ∧ n (19 * a + 2) = lN c
/-- what the frames keep, inmost first, below the state (now, how many events, what is to be given back) -/
def vw_kept (g : vg_T) : (Nat → Int64) × Nat × Nat → List vf_T → Prop
  | _, [] => True
  | w, f :: fs => ((fB f).2.1 ≤ w.2.1 ∧ (fB f).2.2 ≤ w.2.2 ∧ vw_codes g (fB f).1 ∧ (fL f = true → fB f = w)) ∧ vw_kept g (fB f) fs
def vw_X (g : vg_T) (X : vx_S) : Prop := (g.2.1 ≤ 16 ∧ ∀ c, c < g.2.1 → vw_code (g.1 c)) ∧ (∀ f ∈ X.2.2.2.1, vw_F g f) ∧ vw_low X.2.2.2.1.tail ∧ X.2.2.2.1.length ≤ 10 ∧ 15 * X.2.1.length + X.2.2.1 + X.2.2.2.2 + vw_sum X.2.2.2.1 ≤ 30001 ∧ vw_codes g X.1 ∧ vw_kept g (X.1, X.2.1.length, X.2.2.1) X.2.2.2.1
/-- frames hold the same where their places do -/
def rm_same (S S' : gs_T) (i : Nat) : Prop := (∀ a, 86 ≤ a → a ≤ 96 → a ≠ 95 → S'.1 a i = S.1 a i ∧ S'.2 a i = S.2 a i) ∧ (S'.1 84 i = S.1 84 i ∧ S'.1 85 i = S.1 85 i) ∧ (∀ j, j < 24 → S'.2 95 (24 * i + j) = S.2 95 (24 * i + j)) ∧ ∀ k, k < 608 → S'.2 83 (608 * i + k) = S.2 83 (608 * i + k)
theorem rm_T_congr {S S' : gs_T} {p : Nat} : ∀ {t : List Int64}, t.length ≤ 24 → (∀ j, j < t.length → S'.2 95 (24 * p + j) = S.2 95 (24 * p + j)) → rm_T S p t → rm_T S' p t
  | [], _, _, _ => trivial
  | v :: r, hl, hs, h => by
    have hl' : r.length + 1 ≤ 24 := hl
    exact ⟨(hs r.length (by simp)).trans h.1, rm_T_congr (by omega) (fun j hj => hs j (by simp; omega)) h.2⟩
theorem rm_F_congr {S S' : gs_T} {p : Nat} {f : vf_T} (hs : rm_same S S' p) (h : rm_F S p f) : rm_F S' p f := by
  obtain ⟨⟨h1, h2, h3, h4, h5⟩, ⟨h6, h7⟩, ⟨h8, h9⟩, ⟨h10, h11, h12⟩, ⟨h13, h14, h15⟩⟩ := h
  obtain ⟨a1, ⟨a2, a3⟩, a4, a5⟩ := hs
  refine ⟨⟨?_, ?_, ?_, ?_, ?_⟩, ⟨?_, ?_⟩, ⟨?_, ?_⟩, ⟨h10, ?_, rm_T_congr h10 (fun j hj => a4 j (by omega)) h12⟩, ⟨fun k hk => (a5 k hk).trans (h13 k hk), a2.trans h14, a3.trans h15⟩⟩
  · exact ((a1 86 (by decide) (by decide) (by decide)).1).trans h1
  · exact ((a1 87 (by decide) (by decide) (by decide)).1).trans h2
  · exact ((a1 88 (by decide) (by decide) (by decide)).2).trans h3
  · exact ((a1 89 (by decide) (by decide) (by decide)).1).trans h4
  · exact ((a1 90 (by decide) (by decide) (by decide)).1).trans h5
  · exact ((a1 91 (by decide) (by decide) (by decide)).2).trans h6
  · exact ((a1 92 (by decide) (by decide) (by decide)).2).trans h7
  · exact ((a1 93 (by decide) (by decide) (by decide)).1).trans h8
  · exact ((a1 94 (by decide) (by decide) (by decide)).1).trans h9
  · exact ((a1 96 (by decide) (by decide) (by decide)).1).trans h11
theorem rm_Fs_congr {S S' : gs_T} : ∀ {fs : List vf_T}, (∀ i, i < fs.length → rm_same S S' i) → rm_Fs S fs → rm_Fs S' fs
  | [], _, _ => trivial
  | f :: fs, hs, h => ⟨rm_F_congr (hs fs.length (by simp)) h.1, rm_Fs_congr (fun i hi => hs i (by simp; omega)) h.2⟩
theorem rm_E_congr {S S' : gs_T} : ∀ {es : List (Nat × Int64 × Int64)}, (∀ i, i < es.length → S'.1 97 i = S.1 97 i ∧ S'.2 98 i = S.2 98 i ∧ S'.2 99 i = S.2 99 i) → rm_E S es → rm_E S' es
  | [], _, _ => trivial
  | e :: es, hs, h => by
    obtain ⟨q1, q2, q3⟩ := hs es.length (by simp)
    exact ⟨⟨q1.trans h.1.1, q2.trans h.1.2.1, q3.trans h.1.2.2⟩, rm_E_congr (fun i hi => hs i (by simp; omega)) h.2⟩
/-- a stack read at the n-th number from the top -/
theorem rm_T_get {S : gs_T} {p : Nat} : ∀ {t : List Int64} {n : Nat}, n < t.length → rm_T S p t → S.2 95 (24 * p + (t.length - 1 - n)) = t.getD n 0
  | v :: r, 0, _, h => by simpa using h.1
  | v :: r, n + 1, hn, h => by
    have hn' : n < r.length := by simpa using hn
    have h1 := rm_T_get hn' h.2
    have h2 : (v :: r).length - 1 - (n + 1) = r.length - 1 - n := by simp; omega
    rw [h2, h1]
    rfl

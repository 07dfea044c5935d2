/-! A DRAFT JUDGED -/
/-- the first place from k where no act begins or one is not whole -/
def jf (ds : List Nat) : Nat → Nat → Option Nat
  | 0, _ => none
  | m + 1, k => if k < ds.length then (if ds.getD k 0 < 40 ∧ k + vm_size (ds.getD k 0) ≤ ds.length then jf ds m (k + vm_size (ds.getD k 0)) else some k) else none
/-- does an act begin at j, if one begins at k -/
def jb (ds : List Nat) : Nat → Nat → Nat → Bool
  | 0, _, _ => false
  | m + 1, k, j => if k < ds.length then (if j = k then true else jb ds m (k + vm_size (ds.getD k 0)) j) else false
/-- a jump that is lost -/
def jx (ds : List Nat) (B : Nat → Bool) (k : Nat) : Prop := B k = true ∧ (ds.getD k 0 = 19 ∨ ds.getD k 0 = 20) ∧ ¬ (ds.getD (k + 1) 0 < ds.length ∧ B (ds.getD (k + 1) 0) = true)
def jl (ds : List Nat) (B : Nat → Bool) : Nat → Nat → Option Nat
  | 0, _ => none
  | m + 1, k => if B k = true ∧ (ds.getD k 0 = 19 ∨ ds.getD k 0 = 20) ∧ ¬ (ds.getD (k + 1) 0 < ds.length ∧ B (ds.getD (k + 1) 0) = true) then some k else jl ds B m (k + 1)
def jB (ds : List Nat) (j : Nat) : Bool := jb ds ds.length 0 j
/-- the fault of a draft -/
def jA (ds : List Nat) : Option Nat := match jf ds ds.length 0 with
  | some p => some p
  | none => if ds.length = 0 then some 0 else jl ds (jB ds) ds.length 0
def jI (o : Option Nat) : Int32 := match o with
  | some p => nI p
  | none => -1
theorem jf_lt {ds : List Nat} : ∀ {m k p : Nat}, jf ds m k = some p → p < ds.length := by
  intro m
  induction m with
  | zero => intro k p h; exact absurd h (by simp [jf])
  | succ m ih =>
    intro k p h
    unfold jf at h
    by_cases h1 : k < ds.length
    · rw [if_pos h1] at h
      by_cases h2 : ds.getD k 0 < 40 ∧ k + vm_size (ds.getD k 0) ≤ ds.length
      · rw [if_pos h2] at h; exact ih h
      · rw [if_neg h2] at h; simp only [Option.some.injEq] at h; omega
    · rw [if_neg h1] at h; exact absurd h (by simp)
theorem jb_lt {ds : List Nat} : ∀ {m k j : Nat}, jb ds m k j = true → k ≤ j := by
  intro m
  induction m with
  | zero => intro k j h; exact absurd h (by simp [jb])
  | succ m ih =>
    intro k j h
    unfold jb at h
    by_cases h1 : k < ds.length
    · rw [if_pos h1] at h
      by_cases h2 : j = k
      · omega
      · rw [if_neg h2] at h; have := ih h; omega
    · rw [if_neg h1] at h; exact absurd h (by simp)
theorem jb_self {ds : List Nat} {m k : Nat} (h : k < ds.length) (hm : ds.length ≤ k + m) : jb ds m k k = true := by
  cases m with
  | zero => omega
  | succ m => unfold jb; rw [if_pos h, if_pos rfl]
theorem jb_next {ds : List Nat} {m k j : Nat} (h : k < ds.length) (hj : jb ds m (k + vm_size (ds.getD k 0)) j = true) : jb ds (m + 1) k j = true := by
  unfold jb
  rw [if_pos h]
  by_cases e : j = k
  · rw [if_pos e]
  · rw [if_neg e]; exact hj
theorem jb_ok {ds : List Nat} : ∀ {m k j : Nat}, jf ds m k = none → ds.length ≤ k + m → jb ds m k j = true → j < ds.length ∧ (ds.getD j 0 < 40 ∧ j + vm_size (ds.getD j 0) ≤ ds.length) ∧ (jb ds m k (j + vm_size (ds.getD j 0)) = true ∨ j + vm_size (ds.getD j 0) = ds.length) := by
  intro m
  induction m with
  | zero => intro k j _ _ h; exact absurd h (by simp [jb])
  | succ m ih =>
    intro k j hf hl h
    unfold jf at hf
    unfold jb at h
    by_cases h1 : k < ds.length
    · rw [if_pos h1] at h hf
      by_cases h2 : ds.getD k 0 < 40 ∧ k + vm_size (ds.getD k 0) ≤ ds.length
      · rw [if_pos h2] at hf
        have hs : 1 ≤ vm_size (ds.getD k 0) := vb_size1
        by_cases h3 : j = k
        · subst h3
          refine ⟨h1, h2, ?_⟩
          by_cases h4 : j + vm_size (ds.getD j 0) = ds.length
          · exact Or.inr h4
          · exact Or.inl (jb_next h1 (jb_self (by omega) (by omega)))
        · rw [if_neg h3] at h
          obtain ⟨a1, a2, a3⟩ := ih hf (by omega) h
          refine ⟨a1, a2, ?_⟩
          rcases a3 with a3 | a3
          · exact Or.inl (jb_next h1 a3)
          · exact Or.inr a3
      · rw [if_neg h2] at hf; exact absurd hf (by simp)
    · rw [if_neg h1] at h; exact absurd h (by simp)
theorem jl_none {ds : List Nat} {B : Nat → Bool} : ∀ {m k : Nat}, jl ds B m k = none → ∀ i, k ≤ i → i < k + m → ¬ jx ds B i := by
  intro m
  induction m with
  | zero => intro k _ i h1 h2; omega
  | succ m ih =>
    intro k h i h1 h2
    unfold jl at h
    by_cases hx : B k = true ∧ (ds.getD k 0 = 19 ∨ ds.getD k 0 = 20) ∧ ¬ (ds.getD (k + 1) 0 < ds.length ∧ B (ds.getD (k + 1) 0) = true)
    · rw [if_pos hx] at h; exact absurd h (by simp)
    · rw [if_neg hx] at h
      by_cases e : i = k
      · subst e; exact hx
      · exact ih h i (by omega) (by omega)
theorem jl_skip {ds : List Nat} {B : Nat → Bool} : ∀ {s m k : Nat}, (∀ i, k ≤ i → i < k + s → ¬ jx ds B i) → jl ds B (m + s) k = jl ds B m (k + s) := by
  intro s
  induction s with
  | zero => intro m k _; rfl
  | succ s ih =>
    intro m k h
    have e : jl ds B (m + (s + 1)) k = jl ds B (m + s) (k + 1) := by
      show jl ds B ((m + s) + 1) k = _
      rw [jl]
      exact if_neg (h k (Nat.le_refl _) (by omega))
    rw [e, ih (fun i h1 h2 => h i (by omega) (by omega))]
    congr 1
    omega
theorem jl_lt {ds : List Nat} {B : Nat → Bool} : ∀ {m k p : Nat}, jl ds B m k = some p → p < k + m := by
  intro m
  induction m with
  | zero => intro k p h; exact absurd h (by simp [jl])
  | succ m ih =>
    intro k p h
    unfold jl at h
    by_cases hx : B k = true ∧ (ds.getD k 0 = 19 ∨ ds.getD k 0 = 20) ∧ ¬ (ds.getD (k + 1) 0 < ds.length ∧ B (ds.getD (k + 1) 0) = true)
    · rw [if_pos hx] at h; simp only [Option.some.injEq] at h; omega
    · rw [if_neg hx] at h; have := ih h; omega
theorem jA_lt {ds : List Nat} {p : Nat} (h : jA ds = some p) (hl : ds.length ≤ 200) : p ≤ 200 := by
  unfold jA at h
  cases hf : jf ds ds.length 0 with
  | some q => rw [hf] at h; have h : some q = some p := h; simp only [Option.some.injEq] at h; have := jf_lt hf; omega
  | none =>
    rw [hf] at h
    have h : (if ds.length = 0 then some 0 else jl ds (jB ds) ds.length 0) = some p := h
    by_cases e : ds.length = 0
    · rw [if_pos e] at h; simp only [Option.some.injEq] at h; omega
    · rw [if_neg e] at h; have := jl_lt h; omega
/-- what was judged well is a code -/
theorem jA_none {ds : List Nat} (h : jA ds = none) : jf ds ds.length 0 = none ∧ ds.length ≠ 0 ∧ jl ds (jB ds) ds.length 0 = none := by
  unfold jA at h
  cases hf : jf ds ds.length 0 with
  | some q => rw [hf] at h; exact absurd (show some q = none from h) (by simp)
  | none =>
    rw [hf] at h
    have h : (if ds.length = 0 then some 0 else jl ds (jB ds) ds.length 0) = none := h
    by_cases e : ds.length = 0
    · rw [if_pos e] at h; exact absurd h (by simp)
    · rw [if_neg e] at h; exact ⟨rfl, e, h⟩
theorem jv_code {ds : List Nat} (h : jA ds = none) (hl : ds.length ≤ 200) (hb : ∀ k, k < ds.length → ds.getD k 0 < 256) : vw_code ds := by
  obtain ⟨hf, h0, hj⟩ := jA_none h
  refine ⟨hl, hb, fun k => jB ds k = true ∨ k = ds.length, Or.inl (jb_self (by omega) (by omega)), fun k hk hkl => ?_⟩
  rcases hk with hk | hk
  · obtain ⟨a1, a2, a3⟩ := jb_ok hf (by omega) hk
    refine ⟨a2.1, a2.2, a3, fun hq => Or.inl ?_⟩
    have := jl_none hj k (Nat.zero_le _) (by omega)
    unfold jx at this
    by_cases e : ds.getD (k + 1) 0 < ds.length ∧ jB ds (ds.getD (k + 1) 0) = true
    · exact e.2
    · exact absurd ⟨hk, hq, e⟩ this
  · omega
theorem rx_me {G : rx_E} {M : rx_Me} {d pc mc ms : Nat} {lv : List (Nat × Value)} {st : List Value} {mu mu' : rx_M} {Q : Option Value → rx_M → Prop} {Z : String → rx_M → Prop} (h : mu = mu') (k : rx_W G M d pc lv st mu' mc ms Q Z) : rx_W G M d pc lv st mu mc ms Q Z := h ▸ k
theorem u_k1 {f : Nat → Nat → Int32} {a j : Nat} {R : Nat → Int32} {x : Int32} : rx_u (rx_k1 f a R) a j x = rx_k1 f a (fun t => if t = j then x else R t) := by
  funext b t
  rw [rx_ru]
  by_cases h : b = a
  · subst h; rw [if_pos rfl, k1_eq, k1_eq]
  · rw [if_neg h, k1_ne _ h, k1_ne _ h]
theorem k1_id {α : Type} (f : Nat → α) {a : Nat} : rx_k1 f a (f a) = f := by
  funext b
  by_cases h : b = a
  · subst h; rw [k1_eq]
  · rw [k1_ne _ h]
theorem jR_up {B Bf : Nat → Bool} {R : Nat → Int32} {k n : Nat} (h : ∀ j, j < n → R j = bI (B j)) : ∀ j, j < n → (fun t => if t = k then nI 1 else R t) j = bI ((fun t => if t = k then true else B t) j) := fun j hj => by
  show (if j = k then nI 1 else R j) = bI (if j = k then true else B j)
  by_cases e : j = k
  · rw [if_pos e, if_pos e]; rfl
  · rw [if_neg e, if_neg e]; exact h j hj
theorem jb_go {ds : List Nat} {B Bf : Nat → Bool} {m k : Nat} (h : ∀ j, (B j || jb ds (m + 1) k j) = Bf j) (hk : k < ds.length) : ∀ j, ((fun t => if t = k then true else B t) j || jb ds m (k + vm_size (ds.getD k 0)) j) = Bf j := fun j => by
  rw [← h j]
  show ((if j = k then true else B j) || _) = _
  rw [show jb ds (m + 1) k j = (if k < ds.length then (if j = k then true else jb ds m (k + vm_size (ds.getD k 0)) j) else false) from rfl, if_pos hk]
  by_cases e : j = k
  · rw [if_pos e, if_pos e]; simp
  · rw [if_neg e, if_neg e]
theorem jf_out {ds : List Nat} {m k : Nat} (h : ds.length ≤ k) : jf ds m k = none := by
  cases m with
  | zero => rfl
  | succ m => rw [jf, if_neg (by omega)]
theorem jb_out {ds : List Nat} {m k j : Nat} (h : ds.length ≤ k) : jb ds m k j = false := by
  cases m with
  | zero => rfl
  | succ m => rw [jb, if_neg (by omega)]
theorem oc_19 : ∀ j, j < 256 → ((nI j).toInt8.toInt32 = nI 19 ↔ j = 19) := by decide +kernel
theorem oc_20 : ∀ j, j < 256 → ((nI j).toInt8.toInt32 = nI 20 ↔ j = 20) := by decide +kernel
theorem oc_fit : ∀ j, j < 256 → fits .byte (.int (nI j).toInt8.toInt32) = true := by decide +kernel

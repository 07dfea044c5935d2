/-! accounts of events and of frames are accounts -/
def vJ (X : vx_S) : Prop := (∀ x ∈ X.2.1, x.1 < 32) ∧ ∀ f ∈ X.2.2.2.1, fS f < 32
section VJ
variable {X : vx_S} {f : vf_T} {fs : List vf_T} {g : vg_T}
theorem vJ_tell (h : vJ X) (how : Nat) (v : Int64) (gas : Nat) : vJ (vm_tell X how v gas).1 := by
  obtain ⟨n, e, b, fr, m⟩ := X
  match fr, h with
  | [], h => exact h
  | f :: fs, h => exact ⟨h.1, fun f' hf' => by
      rcases List.mem_cons.mp hf' with rfl | hf'
      · exact h.2 f List.mem_cons_self
      · exact h.2 f' (List.mem_cons_of_mem _ hf')⟩
theorem vJ_end (he : ∀ x ∈ X.2.1, x.1 < 32) (hfs : ∀ f ∈ fs, fS f < 32) (how : Nat) (v : Int64) : vJ (vm_end X f fs how v).1 := by
  show vJ (vm_tell (if how = 1 then (X.1, X.2.1, X.2.2.1, fs, X.2.2.2.2) else ((fB f).1, X.2.1.drop (X.2.1.length - (fB f).2.1), (fB f).2.2, fs, X.2.2.2.2)) how (if how = 3 then 0 else v) (if how = 3 then 0 else fG f)).1
  refine vJ_tell ?_ _ _ _
  split
  · exact ⟨he, hfs⟩
  · exact ⟨fun x hx => he x (List.mem_of_mem_drop hx), hfs⟩
theorem vJ_on (he : ∀ x ∈ X.2.1, x.1 < 32) (hf : fS f < 32) (hfs : ∀ f ∈ fs, fS f < 32) : vJ (vm_on X f fs).1 := ⟨he, fun f' hf' => by
  rcases List.mem_cons.mp hf' with rfl | hf'
  · exact hf
  · exact hfs f' hf'⟩
theorem vJ_begin (h : vJ X) {cl q : Nat} {to vl ar : Int64} {l : Bool} : vJ (vm_begin X cl to vl ar q l).1 := by
  by_cases hf : ¬ vm_acct to ∨ vl < 0 ∨ X.1 (19 * cl) < vl ∨ vm_locked X.2.2.2.1 to ∨ X.2.2.2.1.length = 10
  · rw [vm_notacct hf]; exact vJ_tell h _ _ _
  · have hac : vm_acct to := Classical.byContradiction fun q => hf (Or.inl q)
    obtain ⟨a, ha, rfl⟩ := lN_acct hac
    by_cases hz : (up1 (up1 X.1 (19 * cl) (X.1 (19 * cl) - vl)) (19 * a) ((up1 X.1 (19 * cl) (X.1 (19 * cl) - vl)) (19 * a) + vl)) (19 * a + 2) = 0
    · rw [vm_begunW ha hf hz]
      refine vJ_tell ?_ _ _ _
      exact h
    · rw [vm_begunF ha hf hz]
      exact ⟨h.1, fun f' hf' => by
        rcases List.mem_cons.mp hf' with rfl | hf'
        · exact ha
        · exact h.2 f' hf'⟩
theorem vJ_call (he : ∀ x ∈ X.2.1, x.1 < 32) (hf : fS f < 32) (hfs : ∀ f ∈ fs, fS f < 32) {lk : Bool} {to vl ar ask : Int64} {t : List Int64} : vJ (vm_call X lk to vl ar ask f fs t).1 := by
  unfold vm_call
  split
  · exact vJ_end he hfs _ _
  · refine vJ_begin ?_
    refine ⟨he, fun f' hf' => ?_⟩
    have hf2 : f' ∈ vf_set f (fA f) (fG f - vm_gas ask (fG f)) t :: fs := hf'
    rcases List.mem_cons.mp hf2 with rfl | hf2
    · exact hf
    · exact hfs f' hf2
theorem vJ_do1 (he : ∀ x ∈ X.2.1, x.1 < 32) (hf : fS f < 32) (hfs : ∀ f ∈ fs, fS f < 32) {c : List Nat} {op mo : Nat} : vJ (vm_do1 c X op mo f fs).1 := by
  unfold vm_do1
  split
  · exact vJ_end he hfs _ _
  · (repeat' split) <;> exact vJ_on (X := X) he hf hfs
theorem vJ_do2 (he : ∀ x ∈ X.2.1, x.1 < 32) (hf : fS f < 32) (hfs : ∀ f ∈ fs, fS f < 32) {op : Nat} : vJ (vm_do2 X op f fs).1 := by
  unfold vm_do2
  split
  · exact vJ_on (X := X) he hf hfs
  · split
    · exact vJ_end he hfs _ _
    · exact vJ_on (X := X) he hf hfs
theorem vJ_do3 (he : ∀ x ∈ X.2.1, x.1 < 32) (hf : fS f < 32) (hfs : ∀ f ∈ fs, fS f < 32) {op mo : Nat} : vJ (vm_do3 X op mo f fs).1 := by
  unfold vm_do3
  split
  · exact vJ_on (X := X) he hf hfs
  split
  · exact vJ_on (X := X) he hf hfs
  split
  · split
    · exact vJ_end he hfs _ _
    · exact vJ_on (X := X) he hf hfs
  split
  · exact vJ_end he hfs _ _
  split
  · split
    · exact vJ_end he hfs _ _
    · exact vJ_on (X := (_, X.2)) he hf hfs
  · exact vJ_on (X := (_, X.2.1, _, X.2.2.2)) he hf hfs
theorem vJ_do4 (he : ∀ x ∈ X.2.1, x.1 < 32) (hf : fS f < 32) (hfs : ∀ f ∈ fs, fS f < 32) {op : Nat} : vJ (vm_do4 g X op f fs).1 := by
  unfold vm_do4
  split
  · exact vJ_on (X := X) he hf hfs
  · exact vJ_on (X := X) he hf hfs
theorem vJ_make (he : ∀ x ∈ X.2.1, x.1 < 32) (hf : fS f < 32) (hfs : ∀ f ∈ fs, fS f < 32) {x y : Int64} {t : List Int64} : vJ (vm_make g X y x f fs t).1 := by
  unfold vm_make
  split
  · exact vJ_on (X := X) he hf hfs
  · split
    · exact vJ_on (X := X) he hf hfs
    · exact vJ_on (X := (_, X.2)) he hf hfs
theorem vJ_close (he : ∀ x ∈ X.2.1, x.1 < 32) (hfs : ∀ f ∈ fs, fS f < 32) {y : Int64} {t : List Int64} : vJ (vm_close X y f fs t).1 := by
  unfold vm_close
  split
  · exact vJ_end he hfs _ _
  · refine vJ_end ?_ hfs _ _
    exact he
theorem vJ_do5 (he : ∀ x ∈ X.2.1, x.1 < 32) (hf : fS f < 32) (hfs : ∀ f ∈ fs, fS f < 32) {op : Nat} : vJ (vm_do5 g X op f fs).1 := by
  unfold vm_do5
  dsimp only
  split
  · exact vJ_call he hf hfs
  split
  · exact vJ_call he hf hfs
  split
  · exact vJ_make he hf hfs
  split
  · split
    · exact vJ_end he hfs _ _
    · exact vJ_on (X := (_, X.2)) he hf hfs
  split
  · refine vJ_on (X := (X.1, _ :: X.2.1, X.2.2)) (fun x hx => ?_) hf hfs
    rcases List.mem_cons.mp hx with rfl | hx
    · exact hf
    · exact he x hx
  split
  · exact vJ_end he hfs _ _
  split
  · exact vJ_end he hfs _ _
  split
  · exact vJ_close he hfs
  · exact vJ_on (X := X) he hf hfs
theorem vJ_act (h : vJ X) : vJ (vm_act g X).1 := by
  obtain ⟨n, e, b, fr, m⟩ := X
  match fr, h with
  | [], h => exact h
  | ((c, a, q, s, k), (v, r), (l, o), t, w) :: fs, h =>
    have hf : s < 32 := h.2 ((c, a, q, s, k), (v, r), (l, o), t, w) List.mem_cons_self
    have hfs : ∀ f ∈ fs, fS f < 32 := fun f' hf' => h.2 f' (List.mem_cons_of_mem _ hf')
    show vJ (vm_act g (n, e, b, ((c, a, q, s, k), (v, r), (l, o), t, w) :: fs, m)).1
    by_cases h1 : (g.1 c).length ≤ a
    · rw [va_end h1]; exact vJ_end h.1 hfs _ _
    obtain ⟨op, hop⟩ : ∃ op, (g.1 c).getD a 0 = op := ⟨_, rfl⟩
    by_cases h2 : q < vm_cost op
    · rw [va_gas h1 hop h2]; exact vJ_end h.1 hfs _ _
    obtain ⟨mo, hmo⟩ : ∃ mo, (if 1 < vm_size op then (g.1 c).getD (a + 1) 0 else 0) = mo := ⟨_, rfl⟩
    by_cases h3 : (t.length < vm_takes op ∨ 24 < t.length - vm_takes op + vm_gives op ∨ ((op = 4 ∨ op = 5) ∧ t.length ≤ mo) ∨ (l = true ∧ vm_bars op = true))
    · rw [va_bad h1 hop hmo h2 h3]; exact vJ_end h.1 hfs _ _
    by_cases q1 : op ≤ 5
    · rw [va_1 h1 hop hmo h2 h3 q1]; exact vJ_do1 h.1 hf hfs
    by_cases q2 : op ≤ 18
    · rw [va_2 h1 hop hmo h2 h3 q1 q2]; exact vJ_do2 h.1 hf hfs
    by_cases q3 : op ≤ 22
    · rw [va_3 h1 hop hmo h2 h3 q1 q2 q3]; exact vJ_do3 h.1 hf hfs
    by_cases q4 : op ≤ 30
    · rw [va_4 h1 hop hmo h2 h3 q1 q2 q3 q4]; exact vJ_do4 h.1 hf hfs
    rw [va_5 h1 hop hmo h2 h3 q1 q2 q3 q4]; exact vJ_do5 h.1 hf hfs
theorem vJ_run : ∀ (k : Nat) (X : vx_S), vJ X → vJ (vm_run g k X).1
  | 0, X, h => h
  | k + 1, X, h => by
    have h1 := vJ_act (g := g) h
    rw [vm_run]
    split
    · rename_i Y r e; rw [e] at h1; exact h1
    · rename_i Y e; rw [e] at h1; exact vJ_run k Y h1
theorem vJ_whole {n : Nat → Int64} {to vl ar : Int64} {q : Nat} {l : Bool} : vJ (vm_whole g n [] to vl ar q l).1 := by
  have h1 := vJ_begin (X := (n, [], 0, [], 0)) (cl := g.2.2.1) (to := to) (vl := vl) (ar := ar) (q := q) (l := l) ⟨fun x hx => absurd hx List.not_mem_nil, fun x hx => absurd hx List.not_mem_nil⟩
  unfold vm_whole
  split
  · rename_i Y r e; rw [e] at h1; exact h1
  · rename_i Y e; rw [e] at h1; exact vJ_run _ Y h1
end VJ

section VZ
variable {g : vg_T} {X : vx_S} {n n' : Nat → Int64} {e : List (Nat × Int64 × Int64)} {b m : Nat} {f : vf_T} {fs : List vf_T} {x u op mo : Nat}
theorem vz_at (h : vw_W g X.1 X.2.1 X.2.2.1 (f :: fs) X.2.2.2.2 x) : vw_at (g.1 (fC f)) (fA f) ∧ fA f < 256 := ⟨((List.forall_mem_cons.mp h.2.1).1).1.2.1, ((List.forall_mem_cons.mp h.2.1).1).2⟩
theorem vw_W_gas (h : vw_W g n e b (f :: fs) m x) {y : Nat} (hy : y ≤ fG f) (t : List Int64) : vw_W g n e b (vf_set f (fA f) (fG f - y) t :: fs) m (y + x) := by
  obtain ⟨h1, h2, h3, h4, h5, h6, h7, h8⟩ := h
  have h2' := List.forall_mem_cons.mp h2
  have h4' : 15 * e.length + b + m + (fG f + vw_sum fs) + x ≤ 30001 := h4
  have hg : fG f ≤ 30000 := h2'.1.1.2.2.1
  refine ⟨h1, List.forall_mem_cons.mpr ⟨⟨⟨h2'.1.1.1, h2'.1.1.2.1, by show fG f - y ≤ 30000; omega, h2'.1.1.2.2.2⟩, h2'.1.2⟩, h2'.2⟩, h3, ?_, h5, h6, ?_, fun _ => h8 (by simp)⟩
  · show 15 * e.length + b + m + ((fG f - y) + vw_sum fs) + (y + x) ≤ 30001
    omega
  · match fs, h7 with
    | [], _ => exact trivial
    | _ :: _, h7 => exact h7
theorem vw_W_st (h : vw_W g n e b (f :: fs) m x) (t : List Int64) : vw_W g n e b (vm_st f t :: fs) m x := vw_W_x (vw_W_gas h (Nat.zero_le _) t) (by omega)
theorem vw_W_now (h : vw_W g n e b (f :: fs) m x) (hc : vw_codes g n') (hl : fL f = true → n' = n) : vw_W g n' e b (f :: fs) m x := by
  obtain ⟨h1, h2, h3, h4, h5, ⟨⟨k1, k2, k3, k4⟩, k5⟩, h7, h8⟩ := h
  exact ⟨h1, h2, h3, h4, hc, ⟨⟨k1, k2, k3, fun hf => by rw [hl hf]; exact k4 hf⟩, k5⟩, h7, h8⟩
theorem vz_st (h : vw_W g X.1 X.2.1 X.2.2.1 (f :: fs) X.2.2.2.2 x) (hu : 2 * vw_sum (f :: fs) + fs.length + 1 < u) (t : List Int64) : vw_R g u (vm_on X (vm_st f t) fs) :=
  vz_on (f' := vm_st f t) h ⟨rfl, rfl, rfl, rfl, rfl⟩ (vz_at h).1 (vz_at h).2 (by show 15 * X.2.1.length + X.2.2.1 + fG f ≤ _; omega) (Nat.le_refl _) (Nat.le_refl _) (Nat.le_refl _) h.2.2.2.2.1 (fun _ => ⟨rfl, rfl, rfl⟩) hu
theorem vz_end (h : vw_W g X.1 X.2.1 X.2.2.1 (f :: fs) X.2.2.2.2 x) (hu : 2 * vw_sum (f :: fs) + fs.length < u) {how : Nat} (hh : 1 ≤ how ∧ how ≤ 3) (v : Int64) (t : List Int64) : vw_R g u (vm_end X (vm_st f t) fs how v) :=
  vz_fin (f := vm_st f t) (vw_W_st h t) hh hu
theorem vz_do1 {c : List Nat} (h : vw_W g X.1 X.2.1 X.2.2.1 (f :: fs) X.2.2.2.2 x) (hu : 2 * vw_sum (f :: fs) + fs.length < u) (hu1 : op ≠ 0 → 2 * vw_sum (f :: fs) + fs.length + 1 < u) : vw_R g u (vm_do1 c X op mo f fs) := by
  unfold vm_do1
  by_cases e0 : op = 0
  · rw [if_pos e0]
    exact vz_fin h (by decide) hu
  · have hu1 := hu1 e0
    rw [if_neg e0]
    by_cases e1 : op = 1
    · rw [if_pos e1]; exact vz_st h hu1 _
    rw [if_neg e1]
    by_cases e1 : op = 2
    · rw [if_pos e1]; exact vz_st h hu1 _
    rw [if_neg e1]
    by_cases e1 : op = 3
    · rw [if_pos e1]; exact vz_st h hu1 _
    rw [if_neg e1]
    by_cases e1 : op = 4
    · rw [if_pos e1]; exact vz_st h hu1 _
    rw [if_neg e1]; exact vz_st h hu1 _
theorem vz_do2 (h : vw_W g X.1 X.2.1 X.2.2.1 (f :: fs) X.2.2.2.2 x) (hu1 : 2 * vw_sum (f :: fs) + fs.length + 1 < u) : vw_R g u (vm_do2 X op f fs) := by
  unfold vm_do2
  split
  · exact vz_st h hu1 _
  · split
    · exact vz_end h (by omega) (by decide) _ _
    · exact vz_st h hu1 _
theorem pl3b {y : Int64} (h : ¬ (y < 0 ∨ 15 < y)) : y.toInt.toNat < 16 := by
  obtain ⟨j, hj, rfl⟩ := lN_15 (fun q => h (Or.inl q)) (fun q => h (Or.inr q))
  rw [lN_toNat (by omega)]; exact hj
theorem vz_do3 (h : vw_W g X.1 X.2.1 X.2.2.1 (f :: fs) X.2.2.2.2 x) (hu1 : 2 * vw_sum (f :: fs) + fs.length + 1 < u) (h19 : 19 ≤ op) (h22 : op ≤ 22) (hj : op = 19 ∨ op = 20 → vw_at (g.1 (fC f)) mo ∧ mo < 256) (hl : op = 22 → fL f = false ∧ 15 ≤ x) : vw_R g u (vm_do3 X op mo f fs) := by
  unfold vm_do3
  by_cases e1 : op = 19
  · rw [if_pos e1]
    exact vz_on (f' := vf_set f mo (fG f) (fT f)) h ⟨rfl, rfl, rfl, rfl, rfl⟩ (hj (Or.inl e1)).1 (hj (Or.inl e1)).2 (by show 15 * X.2.1.length + X.2.2.1 + fG f ≤ _; omega) (Nat.le_refl _) (Nat.le_refl _) (Nat.le_refl _) h.2.2.2.2.1 (fun _ => ⟨rfl, rfl, rfl⟩) hu1
  rw [if_neg e1]
  by_cases e2 : op = 20
  · rw [if_pos e2]
    refine vz_on (f' := vf_set f (if (fT f).getD 0 0 = 0 then fA f else mo) (fG f) (fT f).tail) h ⟨rfl, rfl, rfl, rfl, rfl⟩ ?_ ?_ (by show 15 * X.2.1.length + X.2.2.1 + fG f ≤ _; omega) (Nat.le_refl _) (Nat.le_refl _) (Nat.le_refl _) h.2.2.2.2.1 (fun _ => ⟨rfl, rfl, rfl⟩) hu1
    · show vw_at _ (if _ then fA f else mo)
      split
      · exact (vz_at h).1
      · exact (hj (Or.inr e2)).1
    · show (if _ then fA f else mo) < 256
      split
      · exact (vz_at h).2
      · exact (hj (Or.inr e2)).2
  rw [if_neg e2]
  by_cases e3 : op = 21
  · rw [if_pos e3]
    split
    · exact vz_end h (by omega) (by decide) _ _
    · exact vz_st h hu1 _
  rw [if_neg e3]
  have hl' := hl (by omega)
  by_cases hk : (fT f).getD 1 0 < 0 ∨ 15 < (fT f).getD 1 0
  · rw [if_pos hk]; exact vz_end h (by omega) (by decide) _ _
  rw [if_neg hk]
  have hk' := pl3b hk
  have hcod : vw_codes g (up1 X.1 (19 * fS f + 3 + ((fT f).getD 1 0).toInt.toNat) ((fT f).getD 0 0)) := vw_codes_up h.2.2.2.2.1 (fun a => by omega)
  split
  · split
    · exact vz_end h (by omega) (by decide) _ _
    · exact vz_on (f' := vf_set f (fA f) (fG f - 40) (fT f).tail.tail) (e' := X.2.1) (b' := X.2.2.1) h ⟨rfl, rfl, rfl, rfl, rfl⟩ (vz_at h).1 (vz_at h).2 (by show 15 * X.2.1.length + X.2.2.1 + (fG f - 40) ≤ _; omega) (Nat.le_refl _) (Nat.le_refl _) (by show fG f - 40 ≤ fG f; omega) hcod (fun hf => by rw [hl'.1] at hf; cases hf) hu1
  · refine vz_on (f' := vm_st f (fT f).tail.tail) (e' := X.2.1) h ⟨rfl, rfl, rfl, rfl, rfl⟩ (vz_at h).1 (vz_at h).2 ?_ (Nat.le_refl _) (Nat.le_add_right _ _) (Nat.le_refl _) hcod (fun hf => by rw [hl'.1] at hf; cases hf) hu1
    show 15 * X.2.1.length + (X.2.2.1 + (if _ then 15 else 0)) + fG f ≤ _
    split <;> omega
theorem vz_do4 (h : vw_W g X.1 X.2.1 X.2.2.1 (f :: fs) X.2.2.2.2 x) (hu1 : 2 * vw_sum (f :: fs) + fs.length + 1 < u) : vw_R g u (vm_do4 g X op f fs) := by
  unfold vm_do4
  split
  · exact vz_st h hu1 _
  · exact vz_st h hu1 _
theorem vz_call (h : vw_W g X.1 X.2.1 X.2.2.1 (f :: fs) X.2.2.2.2 x) (hu1 : 2 * vw_sum (f :: fs) + fs.length + 2 < u) (hx : 1 ≤ x) {look : Bool} {to vl ar ask : Int64} {t : List Int64} (hv : look = true → vl = 0) (ht : t.length ≤ 21) (hlow : vw_low fs) : vw_R g u (vm_call X look to vl ar ask f fs t) := by
  unfold vm_call
  split
  · exact vz_end h (by omega) (by decide) _ _
  · rename_i hn
    have hF := (List.forall_mem_cons.mp h.2.1).1.1
    have hg := vm_gasle (ask := ask) hF.2.2.1
    have hW := vw_W_gas h hg t
    have hs : vw_sum (f :: fs) = fG f + vw_sum fs := rfl
    refine vz_begin (vw_W_x hW (by omega)) ⟨ht, hlow⟩ (by have := hF.2.2.1; omega) hF.2.2.2.1 (fun hl => ?_) (fun f' fs' hfs hl => ?_) ?_
    · cases look with
      | true => exact hv rfl
      | false => exact Classical.not_not.mp (fun q => hn ⟨hl, q⟩)
    · cases hfs
      have hl : fL f = true := hl
      rw [hl]; exact Bool.or_true _
    · show 2 * ((fG f - vm_gas ask (fG f) + vw_sum fs) + vm_gas ask (fG f)) + (fs.length + 1) + 1 < u
      omega
theorem lN_code {g : vg_T} {c : Int64} (h1 : ¬ c < 0) (h2 : ¬ lN g.2.1 ≤ c) (hg : g.2.1 ≤ 16) : ∃ j, j ≤ g.2.1 ∧ c + 1 = lN j := by
  obtain ⟨j, hj, rfl⟩ := pk_lOf h1
  rw [pk_lLE (by omega) hj] at h2
  exact ⟨j + 1, by omega, lN_add j 1⟩
theorem vz_do5 (h : vw_W g X.1 X.2.1 X.2.2.1 (f :: fs) X.2.2.2.2 x) (hu : 2 * vw_sum (f :: fs) + fs.length < u) (hu1 : op ≠ 36 → op ≠ 37 → 2 * vw_sum (f :: fs) + fs.length + 2 < u) (h31 : 31 ≤ op) (hl : op = 33 ∨ op = 34 ∨ op = 35 ∨ op = 38 → fL f = false) (hx : op ≠ 36 → op ≠ 37 → 1 ≤ x) (hx2 : op = 35 → 15 ≤ x) (ht : (fT f).length ≤ 24) (hlow : vw_low fs) : vw_R g u (vm_do5 g X op f fs) := by
  unfold vm_do5
  have hg := h.1.1
  by_cases e1 : op = 31
  · rw [if_pos e1]
    exact vz_call h (hu1 (by omega) (by omega)) (hx (by omega) (by omega)) (fun q => by cases q) (by rw [List.length_drop]; omega) hlow
  rw [if_neg e1]
  by_cases e2 : op = 32
  · rw [if_pos e2]
    exact vz_call h (hu1 (by omega) (by omega)) (hx (by omega) (by omega)) (fun q => rfl) (by rw [List.length_drop]; omega) hlow
  rw [if_neg e2]
  by_cases e3 : op = 33
  · rw [if_pos e3]
    have hu1 := hu1 (by omega) (by omega)
    have hl := hl (by omega)
    unfold vm_make
    split
    · exact vz_st h (by omega) _
    · split
      · exact vz_st h (by omega) _
      · rename_i a ha hc
        obtain ⟨j, hj1, hj2⟩ := lN_code (fun q => hc (Or.inl q)) (fun q => hc (Or.inr (Or.inl q))) hg
        exact vz_on (f' := vm_st f _) (e' := X.2.1) (b' := X.2.2.1) h ⟨rfl, rfl, rfl, rfl, rfl⟩ (vz_at h).1 (vz_at h).2 (by show 15 * X.2.1.length + X.2.2.1 + fG f ≤ _; omega) (Nat.le_refl _) (Nat.le_refl _) (Nat.le_refl _) (vw_codes_set (vw_codes_up (vw_codes_up h.2.2.2.2.1 (fun a => by omega)) (fun a => by omega)) hj1 hj2) (fun hf => by rw [hl] at hf; cases hf) (by omega)
  rw [if_neg e3]
  by_cases e4 : op = 34
  · rw [if_pos e4]
    have hu1 := hu1 (by omega) (by omega)
    have hl := hl (by omega)
    split
    · exact vz_end h (by omega) (by decide) _ _
    · rename_i hc
      obtain ⟨j, hj1, hj2⟩ := lN_code (fun q => hc (Or.inl q)) (fun q => hc (Or.inr q)) hg
      exact vz_on (f' := vm_st f _) (e' := X.2.1) (b' := X.2.2.1) h ⟨rfl, rfl, rfl, rfl, rfl⟩ (vz_at h).1 (vz_at h).2 (by show 15 * X.2.1.length + X.2.2.1 + fG f ≤ _; omega) (Nat.le_refl _) (Nat.le_refl _) (Nat.le_refl _) (vw_codes_set h.2.2.2.2.1 hj1 hj2) (fun hf => by rw [hl] at hf; cases hf) (by omega)
  rw [if_neg e4]
  by_cases e5 : op = 35
  · rw [if_pos e5]
    have hu1 := hu1 (by omega) (by omega)
    have hl := hl (by omega)
    have hx2 := hx2 e5
    exact vz_on (f' := vm_st f _) (e' := _ :: X.2.1) (b' := X.2.2.1) h ⟨rfl, rfl, rfl, rfl, rfl⟩ (vz_at h).1 (vz_at h).2 (by show 15 * (X.2.1.length + 1) + X.2.2.1 + fG f ≤ _; omega) (Nat.le_succ _) (Nat.le_refl _) (Nat.le_refl _) h.2.2.2.2.1 (fun hf => by rw [hl] at hf; cases hf) (by omega)
  rw [if_neg e5]
  by_cases e6 : op = 36
  · rw [if_pos e6]
    exact vz_end h hu (by decide) _ _
  rw [if_neg e6]
  by_cases e7 : op = 37
  · rw [if_pos e7]
    exact vz_end h hu (by decide) _ _
  rw [if_neg e7]
  by_cases e8 : op = 38
  · rw [if_pos e8]
    have hl := hl (by omega)
    unfold vm_close
    split
    · exact vz_end h (by omega) (by decide) _ _
    · refine vz_end (X := (vm_clear (up1 (up1 X.1 _ _) _ 0) (fS f), X.2)) (vw_W_now h ?_ (fun hf => by rw [hl] at hf; cases hf)) (by omega) (by decide) _ _
      intro a ha
      obtain ⟨c, h1, h2⟩ := h.2.2.2.2.1 a ha
      by_cases hh : 19 * fS f + 2 ≤ 19 * a + 2 ∧ 19 * a + 2 < 19 * fS f + 19
      · exact ⟨0, by omega, if_pos hh⟩
      · refine ⟨c, h1, (if_neg hh).trans ?_⟩
        unfold up1
        rw [if_neg (by omega), if_neg (by omega)]
        exact h2
  rw [if_neg e8]
  have hu1 := hu1 e6 e7
  exact vz_on (f' := (f.1, f.2.1, (fL f, true), f.2.2.2)) (e' := X.2.1) (b' := X.2.2.1) h ⟨rfl, rfl, rfl, rfl, rfl⟩ (vz_at h).1 (vz_at h).2 (by show 15 * X.2.1.length + X.2.2.1 + fG f ≤ _; omega) (Nat.le_refl _) (Nat.le_refl _) (Nat.le_refl _) h.2.2.2.2.1 (fun _ => ⟨rfl, rfl, rfl⟩) (by omega)
theorem vw_lk_top {f f' : vf_T} {fs : List vf_T} (h : fL f' = fL f) (k : vw_lk (f :: fs)) : vw_lk (f' :: fs) := by
  match fs, k with
  | [], _ => exact trivial
  | _ :: _, k => exact ⟨fun q => by rw [h]; exact k.1 q, k.2⟩
/-- one act of a whole machine -/
theorem vz_act (h : vw_Z g X) (hne : X.2.2.2.1 ≠ []) (hst : ∀ f fs', X.2.2.2.1 = f :: fs' → (fT f).length ≤ 24) : vw_R g (vme X.2.2.2.1) (vm_act g X) := by
  obtain ⟨n, e, b, fr, m⟩ := X
  match fr, hne with
  | ((c, a, q, s, k), (v, r), (l, o), t, w) :: fs, _ =>
    have ht : t.length ≤ 24 := hst _ fs rfl
    have hW : vw_W g n e b (((c, a, q, s, k), (v, r), (l, o), t, w) :: fs) m 0 := h
    have hF := (List.forall_mem_cons.mp hW.2.1).1
    obtain ⟨⟨f1, ⟨f2, f3, beg, f4, f5⟩, f6, f7, f8⟩, f9⟩ := hF
    have f2 : (g.1 c).length ≤ 200 := f2
    have f3 : ∀ k, k < (g.1 c).length → (g.1 c).getD k 0 < 256 := f3
    have f4 : beg a := f4
    have f5 : ∀ k, beg k → k < (g.1 c).length → (g.1 c).getD k 0 < 40 ∧ k + vm_size ((g.1 c).getD k 0) ≤ (g.1 c).length ∧ beg (k + vm_size ((g.1 c).getD k 0)) ∧ ((g.1 c).getD k 0 = 19 ∨ (g.1 c).getD k 0 = 20 → beg ((g.1 c).getD (k + 1) 0)) := f5
    have f6 : q ≤ 30000 := f6
    have f9 : a < 256 := f9
    have hlow : vw_low fs := hW.2.2.1.1
    have hm : vme (((c, a, q, s, k), (v, r), (l, o), t, w) :: fs) = 2 * vw_sum (((c, a, q, s, k), (v, r), (l, o), t, w) :: fs) + (fs.length + 1) := rfl
    have hs0 : vw_sum (((c, a, q, s, k), (v, r), (l, o), t, w) :: fs) = q + vw_sum fs := rfl
    show vw_R g (vme (((c, a, q, s, k), (v, r), (l, o), t, w) :: fs)) (vm_act g (n, e, b, ((c, a, q, s, k), (v, r), (l, o), t, w) :: fs, m))
    by_cases h1 : (g.1 c).length ≤ a
    · rw [va_end h1]
      exact vz_fin hW (by decide) (by omega)
    · obtain ⟨op, hop⟩ : ∃ op, (g.1 c).getD a 0 = op := ⟨_, rfl⟩
      obtain ⟨b1, b2, b3, b4⟩ := f5 _ f4 (by omega)
      rw [hop] at b1 b2 b3 b4
      by_cases h2 : q < vm_cost op
      · rw [va_gas h1 hop h2]
        exact vz_fin hW (by decide) (by omega)
      · obtain ⟨mo, hmo⟩ : ∃ mo, (if 1 < vm_size op then (g.1 c).getD (a + 1) 0 else 0) = mo := ⟨_, rfl⟩
        -- the frame behind its act
        have hW0 := vw_W_gas hW (y := vm_cost op) (show vm_cost op ≤ q by omega) t
        have hW1 : vw_W g n e b (((c, a + vm_size op, q - vm_cost op, s, k), (v, r), (l, o), t, w) :: fs) m (vm_cost op) := by
          obtain ⟨k1, k2, k3, k4, k5, k6, k7, k8⟩ := hW0
          have k2' := List.forall_mem_cons.mp k2
          exact ⟨k1, List.forall_mem_cons.mpr ⟨⟨⟨f1, ⟨f2, f3, beg, b3, f5⟩, k2'.1.1.2.2.1, f7, f8⟩, by show a + vm_size op < 256; omega⟩, k2'.2⟩, k3, k4, k5, k6, vw_lk_top (f := ((c, a, q, s, k), (v, r), (l, o), t, w)) rfl hW.2.2.2.2.2.2.1, fun _ => k8 (by simp)⟩
        have hs1 : vw_sum (((c, a + vm_size op, q - vm_cost op, s, k), (v, r), (l, o), t, w) :: fs) = (q - vm_cost op) + vw_sum fs := rfl
        have hmo1 : op = 19 ∨ op = 20 → vw_at (g.1 c) mo ∧ mo < 256 := by
          intro ho
          have hsz : vm_size op = 2 := by rcases ho with rfl | rfl <;> rfl
          rw [hsz] at hmo b2
          rw [if_pos (by decide)] at hmo
          subst hmo
          exact ⟨⟨f2, f3, beg, b4 ho, f5⟩, f3 _ (by omega)⟩
        by_cases h3 : (t.length < vm_takes op ∨ 24 < t.length - vm_takes op + vm_gives op ∨ ((op = 4 ∨ op = 5) ∧ t.length ≤ mo) ∨ (l = true ∧ vm_bars op = true))
        · rw [va_bad h1 hop hmo h2 h3]
          exact vz_fin hW1 (by decide) (by omega)
        · have hbar : vm_bars op = true → l = false := fun hb => by
            by_cases hl : l = true
            · exact absurd (Or.inr (Or.inr (Or.inr ⟨hl, hb⟩))) h3
            · exact Bool.eq_false_iff.mpr hl
          by_cases q1 : op ≤ 5
          · rw [va_1 h1 hop hmo h2 h3 q1]
            refine vz_do1 (X := (n, e, b, ((c, a, q, s, k), (v, r), (l, o), t, w) :: fs, m)) hW1 (by omega) (fun h0 => ?_)
            have : 1 ≤ vm_cost op := by
              have : op = 1 ∨ op = 2 ∨ op = 3 ∨ op = 4 ∨ op = 5 := by omega
              rcases this with rfl | rfl | rfl | rfl | rfl <;> decide
            omega
          by_cases q2 : op ≤ 18
          · rw [va_2 h1 hop hmo h2 h3 q1 q2]
            refine vz_do2 (X := (n, e, b, ((c, a, q, s, k), (v, r), (l, o), t, w) :: fs, m)) hW1 ?_
            have : 1 ≤ vm_cost op := by
              have : op = 6 ∨ op = 7 ∨ op = 8 ∨ op = 9 ∨ op = 10 ∨ op = 11 ∨ op = 12 ∨ op = 13 ∨ op = 14 ∨ op = 15 ∨ op = 16 ∨ op = 17 ∨ op = 18 := by omega
              rcases this with rfl | rfl | rfl | rfl | rfl | rfl | rfl | rfl | rfl | rfl | rfl | rfl | rfl <;> decide
            omega
          by_cases q3 : op ≤ 22
          · rw [va_3 h1 hop hmo h2 h3 q1 q2 q3]
            have hc : 1 ≤ vm_cost op ∧ (op = 22 → 15 ≤ vm_cost op) := by
              have : op = 19 ∨ op = 20 ∨ op = 21 ∨ op = 22 := by omega
              rcases this with rfl | rfl | rfl | rfl <;> decide
            exact vz_do3 (X := (n, e, b, ((c, a, q, s, k), (v, r), (l, o), t, w) :: fs, m)) hW1 (by omega) (by omega) q3 hmo1 (fun h22 => ⟨hbar (by rw [h22]; rfl), hc.2 h22⟩)
          by_cases q4 : op ≤ 30
          · rw [va_4 h1 hop hmo h2 h3 q1 q2 q3 q4]
            refine vz_do4 (X := (n, e, b, ((c, a, q, s, k), (v, r), (l, o), t, w) :: fs, m)) hW1 ?_
            have : 1 ≤ vm_cost op := by
              have : op = 23 ∨ op = 24 ∨ op = 25 ∨ op = 26 ∨ op = 27 ∨ op = 28 ∨ op = 29 ∨ op = 30 := by omega
              rcases this with rfl | rfl | rfl | rfl | rfl | rfl | rfl | rfl <;> decide
            omega
          rw [va_5 h1 hop hmo h2 h3 q1 q2 q3 q4]
          have hc : (op ≠ 36 → op ≠ 37 → 2 ≤ vm_cost op) ∧ (op = 35 → 15 ≤ vm_cost op) := by
            have : op = 31 ∨ op = 32 ∨ op = 33 ∨ op = 34 ∨ op = 35 ∨ op = 36 ∨ op = 37 ∨ op = 38 ∨ op = 39 := by omega
            rcases this with rfl | rfl | rfl | rfl | rfl | rfl | rfl | rfl | rfl <;> decide
          refine vz_do5 (X := (n, e, b, ((c, a, q, s, k), (v, r), (l, o), t, w) :: fs, m)) hW1 (by omega) (fun a1 a2 => by have := hc.1 a1 a2; omega) (by omega) (fun ho => hbar ?_) (fun a1 a2 => by have := hc.1 a1 a2; omega) hc.2 ht hlow
          rcases ho with rfl | rfl | rfl | rfl <;> rfl
end VZ

/-! THE MACHINE STAYS WHOLE, and comes to an end -/
def vme (fs : List vf_T) : Nat := 2 * vw_sum fs + fs.length
/-- what holds of a result: the machine is whole, with less to do than u; at the whole call's end no frame is left -/
def vw_R (g : vg_T) (u : Nat) (R : vx_S × Option (Nat × Int64 × Nat)) : Prop := (vw_Z g R.1 ∧ vme R.1.2.2.2.1 < u ∧ (R.2 = none → R.1.2.2.2.1 ≠ [])) ∧ ∀ how v gas, R.2 = some (how, v, gas) → R.1.2.2.2.1 = [] ∧ (1 ≤ how ∧ how ≤ 3) ∧ 15 * R.1.2.1.length + R.1.2.2.1 + R.1.2.2.2.2 + gas ≤ 30001
theorem vw_W_x {g : vg_T} {n : Nat → Int64} {e : List (Nat × Int64 × Int64)} {b m x y : Nat} {fs : List vf_T} (h : vw_W g n e b fs m x) (hy : y ≤ x) : vw_W g n e b fs m y := by
  obtain ⟨h1, h2, h3, h4, h5⟩ := h
  exact ⟨h1, h2, h3, by omega, h5⟩
theorem vw_lk_tail {f : vf_T} : ∀ {fs : List vf_T}, vw_lk (f :: fs) → vw_lk fs
  | [], _ => trivial
  | _ :: _, h => h.2
theorem vw_low_tail {fs : List vf_T} (h : vw_low fs) : vw_low fs.tail := by
  match fs, h with
  | [], _ => exact trivial
  | f :: fs, h => exact h.2
/-- told to the frame below -/
theorem vz_tell {g : vg_T} {n : Nat → Int64} {e : List (Nat × Int64 × Int64)} {b m x u how : Nat} {v : Int64} {fs : List vf_T} (h : vw_W g n e b fs m x) (hl : vw_low fs) (hh : 1 ≤ how ∧ how ≤ 3) (hu : 2 * (vw_sum fs + x) + fs.length < u) : vw_R g u (vm_tell (n, e, b, fs, m) how v x) := by
  obtain ⟨h1, h2, ⟨h3, h3'⟩, h4, h5, h6, h7, h8⟩ := h
  match fs, hl with
  | [], _ =>
    refine ⟨⟨⟨h1, h2, ⟨h3, h3'⟩, ?_, h5, h6, h7, h8⟩, ?_, fun q => by cases q⟩, fun ho w q hr => ?_⟩
    · show 15 * e.length + b + m + vw_sum [] + 0 ≤ 30001
      omega
    · show 2 * vw_sum [] + 0 < u
      have hu' : 2 * (vw_sum [] + x) + 0 < u := hu
      omega
    · have hr' : some (how, v, x) = some (ho, w, q) := hr
      obtain ⟨rfl, rfl, rfl⟩ : how = ho ∧ v = w ∧ x = q := by simpa using hr'
      have h4' : 15 * e.length + b + m + 0 + x ≤ 30001 := h4
      exact ⟨rfl, hh, by show 15 * e.length + b + m + x ≤ 30001; omega⟩
  | f :: fs, hl =>
    have h2' := List.forall_mem_cons.mp h2
    have h4' : 15 * e.length + b + m + (fG f + vw_sum fs) + x ≤ 30001 := h4
    have h8' : 1 ≤ m := h8 (by simp)
    have hu' : 2 * ((fG f + vw_sum fs) + x) + (fs.length + 1) < u := hu
    refine ⟨⟨⟨h1, ?_, ⟨h3, h3'⟩, ?_, h5, ?_, ?_, fun _ => h8'⟩, ?_, fun _ => List.cons_ne_nil _ _⟩, fun ho w q hr => by cases hr⟩
    · exact List.forall_mem_cons.mpr ⟨⟨⟨h2'.1.1.1, h2'.1.1.2.1, by show fG f + x ≤ 30000; omega, h2'.1.1.2.2.2⟩, h2'.1.2⟩, h2'.2⟩
    · show 15 * e.length + b + m + ((fG f + x) + vw_sum fs) + 0 ≤ 30001
      omega
    · exact h6
    · match fs, h7 with
      | [], _ => exact trivial
      | _ :: _, h7 => exact h7
    · show 2 * ((fG f + x) + vw_sum fs) + (fs.length + 1) < u
      omega
theorem vw_kept_pop {g : vg_T} {w : (Nat → Int64) × Nat × Nat} {f : vf_T} {fs : List vf_T} (h : vw_kept g w (f :: fs)) (hl : vw_lk (f :: fs)) : vw_kept g w fs := by
  match fs, h, hl with
  | [], _, _ => exact trivial
  | f' :: fs, ⟨⟨a1, a2, a3, a4⟩, ⟨b1, b2, b3, b4⟩, b5⟩, hl =>
    refine ⟨⟨by omega, by omega, b3, fun hf => ?_⟩, b5⟩
    rw [b4 hf, a4 (hl.1 hf)]
/-- a frame ends -/
theorem vz_fin {g : vg_T} {n : Nat → Int64} {e : List (Nat × Int64 × Int64)} {b m x u how : Nat} {v : Int64} {f : vf_T} {fs : List vf_T} (h : vw_W g n e b (f :: fs) m x) (hh : 1 ≤ how ∧ how ≤ 3) (hu : 2 * vw_sum (f :: fs) + fs.length < u) : vw_R g u (vm_fin (n, e, b, f :: fs, m) how v) := by
  obtain ⟨h1, h2, ⟨h3, h3'⟩, h4, h5, h6, h7, h8⟩ := h
  have h2' := List.forall_mem_cons.mp h2
  have h4' : 15 * e.length + b + m + (fG f + vw_sum fs) + x ≤ 30001 := h4
  have h8' : 1 ≤ m := h8 (by simp)
  have h3l : fs.length + 1 ≤ 10 := h3'
  have hu' : 2 * (fG f + vw_sum fs) + fs.length < u := hu
  have hg : (if how = 3 then 0 else fG f) ≤ fG f := by split <;> omega
  unfold vm_fin
  by_cases hw : how = 1
  · subst hw
    show vw_R g u (vm_tell (n, e, b, fs, m) 1 v (fG f))
    exact vz_tell ⟨h1, h2'.2, ⟨vw_low_tail h3, by omega⟩, by omega, h5, vw_kept_pop h6 h7, vw_lk_tail h7, fun _ => h8'⟩ h3 hh (by omega)
  · show vw_R g u (vm_tell (if how = 1 then _ else _) how _ (if how = 3 then 0 else fG f))
    rw [if_neg hw]
    obtain ⟨⟨k1, k2, k3, k4⟩, k5⟩ := h6
    have k1' : (fB f).2.1 ≤ e.length := k1
    have k2' : (fB f).2.2 ≤ b := k2
    have hlen : (e.drop (e.length - (fB f).2.1)).length = (fB f).2.1 := by rw [List.length_drop]; omega
    refine vz_tell ⟨h1, h2'.2, ⟨vw_low_tail h3, by omega⟩, ?_, k3, ?_, vw_lk_tail h7, fun _ => h8'⟩ h3 hh (by omega)
    · show 15 * (e.drop (e.length - (fB f).2.1)).length + (fB f).2.2 + m + vw_sum fs + (if how = 3 then 0 else fG f) ≤ 30001
      rw [hlen]; omega
    · rw [hlen]; exact k5
/-- the inmost frame changed, it goes on -/
theorem vz_on {g : vg_T} {n n' : Nat → Int64} {e e' : List (Nat × Int64 × Int64)} {b b' m x u : Nat} {f f' : vf_T} {fs : List vf_T} (h : vw_W g n e b (f :: fs) m x) (hs : fC f' = fC f ∧ fS f' = fS f ∧ fK f' = fK f ∧ fL f' = fL f ∧ fB f' = fB f) (hat : vw_at (g.1 (fC f)) (fA f')) (ha : fA f' < 256) (hst : 15 * e'.length + b' + fG f' ≤ 15 * e.length + b + fG f + x) (he : e.length ≤ e'.length) (hb : b ≤ b') (hq : fG f' ≤ fG f) (hn : vw_codes g n') (hl : fL f = true → n' = n ∧ e'.length = e.length ∧ b' = b) (hu : 2 * vw_sum (f :: fs) + fs.length + 1 < u) : vw_R g u (vm_on (n', e', b', f :: fs, m) f' fs) := by
  obtain ⟨h1, h2, ⟨h3, h3'⟩, h4, h5, ⟨⟨k1, k2, k3, k4⟩, k5⟩, h7, h8⟩ := h
  obtain ⟨s1, s2, s3, s4, s5⟩ := hs
  have h2' := List.forall_mem_cons.mp h2
  have h4' : 15 * e.length + b + m + (fG f + vw_sum fs) + x ≤ 30001 := h4
  have k1' : (fB f).2.1 ≤ e.length := k1
  have k2' : (fB f).2.2 ≤ b := k2
  have hu' : 2 * (fG f + vw_sum fs) + fs.length + 1 < u := hu
  obtain ⟨⟨f1, f2, f3, f4, f5⟩, f6⟩ := h2'.1
  refine ⟨⟨⟨h1, ?_, ⟨h3, h3'⟩, ?_, hn, ⟨⟨?_, ?_, ?_, ?_⟩, ?_⟩, ?_, fun _ => h8 (by simp)⟩, ?_, fun _ => List.cons_ne_nil _ _⟩, fun ho w q hr => by cases hr⟩
  · exact List.forall_mem_cons.mpr ⟨⟨⟨by rw [s1]; exact f1, by rw [s1]; exact hat, by omega, by rw [s2]; exact f4, by rw [s3]; exact f5⟩, ha⟩, h2'.2⟩
  · show 15 * e'.length + b' + m + (fG f' + vw_sum fs) + 0 ≤ 30001
    omega
  · show (fB f').2.1 ≤ e'.length
    rw [s5]; omega
  · show (fB f').2.2 ≤ b'
    rw [s5]; omega
  · rw [s5]; exact k3
  · intro hf
    rw [s4] at hf
    rw [s5, k4 hf]
    obtain ⟨l1, l2, l3⟩ := hl hf
    rw [l1, l3]
    show (n, e.length, b) = (n, e'.length, b)
    rw [l2]
  · rw [s5]; exact k5
  · match fs, h7 with
    | [], _ => exact trivial
    | _ :: _, h7 => exact ⟨fun hf => by rw [s4]; exact h7.1 hf, h7.2⟩
  · show 2 * (fG f' + vw_sum fs) + (fs.length + 1) < u
    omega
theorem vw_codes_up {g : vg_T} {n : Nat → Int64} (h : vw_codes g n) {j : Nat} {x : Int64} (hj : ∀ a, j ≠ 19 * a + 2) : vw_codes g (up1 n j x) := by
  intro a ha
  obtain ⟨c, h1, h2⟩ := h a ha
  refine ⟨c, h1, ?_⟩
  unfold up1
  rw [if_neg (fun q => hj a q.symm)]
  exact h2
theorem vw_codes_set {g : vg_T} {n : Nat → Int64} (h : vw_codes g n) {j c : Nat} (hc : c ≤ g.2.1) {x : Int64} (hx : x = lN c) : vw_codes g (up1 n (19 * j + 2) x) := by
  intro a ha
  by_cases e : a = j
  · subst e
    exact ⟨c, hc, by unfold up1; rw [if_pos rfl]; exact hx⟩
  · obtain ⟨c, h1, h2⟩ := h a ha
    refine ⟨c, h1, ?_⟩
    unfold up1
    rw [if_neg (by omega)]
    exact h2
theorem up1_self {n : Nat → Int64} {j : Nat} {x : Int64} (h : x = n j) : up1 n j x = n := by
  funext i
  unfold up1
  split
  · rename_i e; rw [e, h]
  · rfl
theorem lN_codes {g : vg_T} {n : Nat → Int64} (h : vw_codes g n) {a : Nat} (ha : a < 32) (hne : ¬ n (19 * a + 2) = 0) (hg : g.2.1 ≤ 16) : (n (19 * a + 2)).toInt.toNat - 1 < g.2.1 := by
  obtain ⟨c, h1, h2⟩ := h a ha
  rw [h2, lN_toNat (by omega)]
  have : c ≠ 0 := fun h0 => hne (by rw [h2, h0]; rfl)
  omega
/-- a call begins, from the frame f or as the first -/
theorem vz_begin {g : vg_T} {n : Nat → Int64} {e : List (Nat × Int64 × Int64)} {b m q u cl : Nat} {to vl ar : Int64} {l : Bool} {fs : List vf_T} (h : vw_W g n e b fs m (q + 1)) (hlow : vw_low fs) (hq : q ≤ 30000) (hcl : cl < 32) (hv : l = true → vl = 0) (hl : ∀ f fs', fs = f :: fs' → fL f = true → l = true) (hu : 2 * (vw_sum fs + q) + fs.length + 1 < u) : vw_R g u (vm_begin (n, e, b, fs, m) cl to vl ar q l) := by
  have h' := vw_W_x h (show q ≤ q + 1 by omega)
  obtain ⟨h1, h2, ⟨h3, h3'⟩, h4, h5, h6, h7, h8⟩ := h
  by_cases hf : ¬ vm_acct to ∨ vl < 0 ∨ n (19 * cl) < vl ∨ vm_locked fs to ∨ fs.length = 10
  · rw [vm_notacct (X := (n, e, b, fs, m)) hf]
    exact vz_tell h' hlow (by decide) (by omega)
  · have hac : vm_acct to := Classical.not_not.mp (fun q => hf (Or.inl q))
    obtain ⟨a, ha, rfl⟩ := lN_acct hac
    have hfl : fs.length ≠ 10 := fun q => hf (Or.inr (Or.inr (Or.inr (Or.inr q))))
    have hc2 : vw_codes g (up1 (up1 n (19 * cl) (n (19 * cl) - vl)) (19 * a) ((up1 n (19 * cl) (n (19 * cl) - vl)) (19 * a) + vl)) := vw_codes_up (vw_codes_up h5 (fun a => by omega)) (fun a => by omega)
    have hsame : l = true → up1 (up1 n (19 * cl) (n (19 * cl) - vl)) (19 * a) ((up1 n (19 * cl) (n (19 * cl) - vl)) (19 * a) + vl) = n := fun hl1 => by
      rw [hv hl1, Int64.sub_zero, Int64.add_zero, up1_self rfl, up1_self rfl]
    have hkept : vw_kept g (up1 (up1 n (19 * cl) (n (19 * cl) - vl)) (19 * a) ((up1 n (19 * cl) (n (19 * cl) - vl)) (19 * a) + vl), e.length, b) fs := by
      match fs, h6, hl with
      | [], _, _ => exact trivial
      | f :: fs', ⟨⟨a1, a2, a3, a4⟩, a5⟩, hl => exact ⟨⟨a1, a2, a3, fun hfl => by rw [hsame (hl f fs' rfl hfl)]; exact a4 hfl⟩, a5⟩
    by_cases hz : (up1 (up1 n (19 * cl) (n (19 * cl) - vl)) (19 * a) ((up1 n (19 * cl) (n (19 * cl) - vl)) (19 * a) + vl)) (19 * a + 2) = 0
    · rw [vm_begunW (X := (n, e, b, fs, m)) ha hf hz]
      obtain ⟨g1, g2, g3, g4, g5, g6, g7, g8⟩ := h'
      exact vz_tell ⟨g1, g2, g3, g4, hc2, hkept, g7, g8⟩ hlow (by decide) (by omega)
    · rw [vm_begunF (X := (n, e, b, fs, m)) ha hf hz]
      have hcn := lN_codes hc2 ha hz h1.1
      obtain ⟨q1, q2, beg, q3, q4⟩ := h1.2.1 _ hcn
      refine ⟨⟨⟨h1, ?_, ⟨hlow, ?_⟩, ?_, hc2, ⟨⟨Nat.le_refl _, Nat.le_refl _, h5, ?_⟩, h6⟩, ?_, fun _ => by show 1 ≤ m + 1; omega⟩, ?_, fun _ => List.cons_ne_nil _ _⟩, fun ho w q hr => by cases hr⟩
      · exact List.forall_mem_cons.mpr ⟨⟨⟨hcn, ⟨q1, q2, beg, q3, q4⟩, hq, ha, hcl⟩, by show 0 < 256; omega⟩, h2⟩
      · show fs.length + 1 ≤ 10
        omega
      · show 15 * e.length + b + (m + 1) + (q + vw_sum fs) + 0 ≤ 30001
        omega
      · intro hl1
        have hl1 : l = true := hl1
        show (n, e.length, b) = (_, e.length, b)
        rw [hsame hl1]
      · match fs, h7, hl with
        | [], _, _ => exact trivial
        | f :: fs', h7, hl => exact ⟨fun hf => hl f fs' rfl hf, h7⟩
      · show 2 * (q + vw_sum fs) + (fs.length + 1) < u
        omega

theorem rx_uu {α : Type} (f : Nat → Nat → α) (a i : Nat) (x : α) : rx_u f a i x a i = x := by rw [rx_ru, if_pos rfl, if_pos rfl]
theorem rx_u52 {A : Nat → Nat → Int32} (f : Nat → Nat → Int64) (i : Nat) (x : Int64) : (A, rx_u f 52 i x).2 52 i = x := rx_uu f 52 i x
/-- what came of an act: the machine goes on, or an end is to be told -/
def rm_on (S0 : gs_T) (g : vg_T) (R : vx_S × Option (Nat × Int64 × Nat)) (S' : gs_T) : Prop := (∃ X', R = (X', none) ∧ rm_Y S0 S' g X' 0) ∨ (∃ X1 how v gas, ((1 ≤ how ∧ how ≤ 3) ∧ vw_low X1.2.2.2.1) ∧ R = vm_tell X1 how v gas ∧ rm_Y S0 S' g X1 how ∧ S'.2 52 59 = v ∧ S'.2 52 60 = lN gas)
/-- the end of a method of the model's machine -/
def rq_on (C : rx_M) (S0 : gs_T) (g : vg_T) (R : vx_S × Option (Nat × Int64 × Nat)) (v : Option Value) (mu : rx_M) : Prop := v = none ∧ ∃ S', mu = gl C S' ∧ rm_on S0 g R S'
def rq_Y (C : rx_M) (S0 : gs_T) (g : vg_T) (X : vx_S) (E : Nat) (r : Option Value) (v : Option Value) (mu : rx_M) : Prop := v = r ∧ ∃ S', mu = gl C S' ∧ rm_Y S0 S' g X E
theorem rm_E_drop {S : gs_T} : ∀ {es : List (Nat × Int64 × Int64)} (k : Nat), rm_E S es → rm_E S (es.drop k)
  | [], k, _ => by rw [List.drop_nil]; exact trivial
  | e :: es, 0, h => h
  | e :: es, k + 1, h => by rw [List.drop_succ_cons]; exact rm_E_drop k h.2
/-- a property of some frame, read from the rows -/
theorem rm_Fs_ex {S : gs_T} {P : Nat → Prop} {R : vf_T → Prop} : ∀ {fs : List vf_T}, rm_Fs S fs → (∀ j f, f ∈ fs → rm_F S j f → (P j ↔ R f)) → ((∃ j, j < fs.length ∧ P j) ↔ ∃ f ∈ fs, R f)
  | [], _, _ => ⟨fun ⟨j, h, _⟩ => absurd h (Nat.not_lt_zero j), fun ⟨f, h, _⟩ => absurd h List.not_mem_nil⟩
  | f :: fs, h, hp => by
    have ih := rm_Fs_ex h.2 (fun j f hf => hp j f (List.mem_cons_of_mem _ hf))
    constructor
    · rintro ⟨j, hj, hP⟩
      have hj : j < fs.length + 1 := hj
      by_cases e : j = fs.length
      · subst e
        exact ⟨f, List.mem_cons_self, (hp _ f List.mem_cons_self h.1).mp hP⟩
      · obtain ⟨f', hf', hR⟩ := ih.mp ⟨j, by omega, hP⟩
        exact ⟨f', List.mem_cons_of_mem _ hf', hR⟩
    · rintro ⟨f', hf', hR⟩
      rcases List.mem_cons.mp hf' with rfl | hf'
      · exact ⟨fs.length, by simp, (hp _ f' List.mem_cons_self h.1).mpr hR⟩
      · obtain ⟨j, hj, hP⟩ := ih.mpr ⟨f', hf', hR⟩
        exact ⟨j, by simp; omega, hP⟩
section RZ
variable {G : rx_E} {d : Nat} {C : rx_M} {S0 S : gs_T} {g : vg_T} {n : Nat → Int64} {e : List (Nat × Int64 × Int64)} {b m E c a q s k : Nat} {v r : Int64} {l o : Bool} {t : List Int64} {w : (Nat → Int64) × Nat × Nat} {fs : List vf_T}
theorem cr_push (hG : rx_OK G) (h : rm_Y S0 S g (n, e, b, ((c, a, q, s, k), (v, r), (l, o), t, w) :: fs, m) E) (hp : fs.length < 11) (ht : t.length < 24) (x : Int64) : rx_C G MX11_push d [.ref 52, .long x] (gl C S) 0 0 (rq_Y C S0 g (n, e, b, ((c, a, q, s, k), (v, r), (l, o), x :: t, w) :: fs, m) E none) :=
  rx_Cm (cm_push hG (rY_dep h) (rY_size h) hp ht x) (fun _ _ hq => ⟨hq.1, _, hq.2, rY_pushed h ht x⟩)
theorem cr_pop {x : Int64} (hG : rx_OK G) (h : rm_Y S0 S g (n, e, b, ((c, a, q, s, k), (v, r), (l, o), x :: t, w) :: fs, m) E) (hp : fs.length < 11) : rx_C G MX11_pop d [.ref 52] (gl C S) 0 0 (rq_Y C S0 g (n, e, b, ((c, a, q, s, k), (v, r), (l, o), t, w) :: fs, m) E (some (.long x))) :=
  rx_Cm (cm_pop hG (rY_dep h) (rY_size h) hp (rY_n h)) (fun _ _ hq => ⟨by rw [hq.1, (rY_T h).1], _, hq.2, rY_popped h⟩)
theorem rY_down {f : vf_T} (h : rm_Y S0 S g (n, e, b, f :: fs, m) E) : rm_Y S0 (rx_u S.1 52 49 (nI fs.length), S.2) g (n, e, b, fs, m) E := by
  obtain ⟨⟨⟨g1, g2, g3, g4⟩, h2, ⟨h3, h4⟩, h5, ⟨h6, h7⟩, h8⟩, hr, h9⟩ := h
  refine ⟨⟨⟨fun c hc => by simpa [rx_ru] using g1 c hc, by simpa [rx_ru] using g2, by simpa [rx_ru] using g3, by simpa [rx_ru] using g4⟩, h2, ⟨by simpa [rx_ru] using h3, ?_⟩, by simpa [rx_ru] using h5, ⟨by simp [rx_ru], ?_⟩, by simpa [rx_ru] using h8⟩, rm_rest_I hr (by omega), by simpa [rx_ru] using h9⟩
  · exact rm_E_congr (S := S) (fun i _ => ⟨by simp [rx_ru], rfl, rfl⟩) h4
  · exact rm_Fs_congr (S := S) (fun i _ => ⟨fun a ha ha2 _ => ⟨by show rx_u S.1 52 49 _ a i = _; rw [rx_une _ (by omega)], rfl⟩, ⟨by simp [rx_ru], by simp [rx_ru]⟩, fun _ _ => rfl, fun _ _ => rfl⟩) h7.2
theorem rY_setEv {gs : List vf_T} (h : rm_Y S0 S g (n, e, b, gs, m) E) {j : Nat} (hj : j ≤ e.length) : rm_Y S0 (rx_u S.1 52 52 (nI j), S.2) g (n, e.drop (e.length - j), b, gs, m) E := by
  obtain ⟨⟨⟨g1, g2, g3, g4⟩, h2, ⟨h3, h4⟩, h5, ⟨h6, h7⟩, h8⟩, hr, h9⟩ := h
  refine ⟨⟨⟨fun c hc => by simpa [rx_ru] using g1 c hc, by simpa [rx_ru] using g2, by simpa [rx_ru] using g3, by simpa [rx_ru] using g4⟩, h2, ⟨?_, ?_⟩, by simpa [rx_ru] using h5, ⟨by simpa [rx_ru] using h6, ?_⟩, by simpa [rx_ru] using h8⟩, rm_rest_I hr (by omega), by simpa [rx_ru] using h9⟩
  · show rx_u S.1 52 52 (nI j) 52 52 = nI (e.drop (e.length - j)).length
    rw [List.length_drop, rx_ru, if_pos rfl, if_pos rfl]
    congr 1
    omega
  · exact rm_E_congr (S := S) (fun i _ => ⟨by simp [rx_ru], rfl, rfl⟩) (rm_E_drop _ h4)
  · exact rm_Fs_congr (S := S) (fun i _ => ⟨fun a ha ha2 _ => ⟨by show rx_u S.1 52 52 _ a i = _; rw [rx_une _ (by omega)], rfl⟩, ⟨by simp [rx_ru], by simp [rx_ru]⟩, fun _ _ => rfl, fun _ _ => rfl⟩) h7
theorem rY_nowAll {gs : List vf_T} (h : rm_Y S0 S g (n, e, b, gs, m) E) {n' : Nat → Int64} {a o p : Nat} (ho : o = 0) (ha : a = 82) {src : Nat} (hs : ∀ k, k < 608 → S.2 src (p + k) = n' k) : rm_Y S0 (S.1, rx_cp S.2 a o src p 608) g (n', e, b, gs, m) E := by
  subst ho; subst ha
  obtain ⟨⟨⟨g1, g2, g3, g4⟩, h2, ⟨h3, h4⟩, h5, ⟨h6, h7⟩, h8⟩, hr, h9⟩ := h
  have hz : ∀ c j, c ≠ 82 → rx_cp S.2 82 0 src p 608 c j = S.2 c j := fun c j hc => rx_cp_get hc
  refine ⟨⟨⟨g1, g2, g3, g4⟩, fun i hi => ?_, ⟨h3, ?_⟩, h5, ⟨h6, ?_⟩, h8⟩, rm_rest_cp hr (by omega), h9⟩
  · show rx_cp S.2 82 0 src p 608 82 i = n' i
    unfold rx_cp
    rw [if_pos ⟨rfl, by omega, by omega⟩]
    exact hs i hi
  · exact rm_E_congr (S := S) (fun i _ => ⟨rfl, hz 98 i (by decide), hz 99 i (by decide)⟩) h4
  · exact rm_Fs_congr (S := S) (fun i _ => ⟨fun a ha ha2 _ => ⟨rfl, hz a i (by omega)⟩, ⟨rfl, rfl⟩, fun _ _ => hz 95 _ (by decide), fun _ _ => hz 83 _ (by decide)⟩) h7
theorem cr_fin1 (hG : rx_OK G) (h : rm_Y S0 S g (n, e, b, ((c, a, q, s, k), (v, r), (l, o), t, w) :: fs, m) E) (hp : fs.length < 11) (hlow : vw_low fs) (x : Int64) : rx_C G MX11_finish (d + 1) [.ref 52, .int (nI 1), .long x] (gl C S) 0 0 (rq_on C S0 g (vm_fin (n, e, b, ((c, a, q, s, k), (v, r), (l, o), t, w) :: fs, m) 1 x)) := by
  refine rx_Cm (cm_finish1 hG (rY_dep h) hp) (fun _ _ hq => ⟨hq.1, _, hq.2, Or.inr ⟨(n, e, b, fs, m), 1, x, q, ⟨by decide, hlow⟩, rfl, ?_, ?_, ?_⟩⟩)
  · exact rY_set52 (rY_set52 (rY_setEnd (rY_down h) 1) (Or.inl rfl) _) (Or.inr rfl) _
  · simp [rx_ru]
  · show rx_u (rx_u S.2 52 59 x) 52 60 (S.2 88 fs.length) 52 60 = lN q
    rw [rx_ru, if_pos rfl, if_pos rfl]; exact rY_gas h
theorem cr_fin2 (hG : rx_OK G) (h : rm_Y S0 S g (n, e, b, ((c, a, q, s, k), (v, r), (l, o), t, w) :: fs, m) E) (hp : fs.length < 11) (hlow : vw_low fs) (hw : w.2.1 ≤ e.length) (x : Int64) : rx_C G MX11_finish (d + 1) [.ref 52, .int (nI 2), .long x] (gl C S) 0 0 (rq_on C S0 g (vm_fin (n, e, b, ((c, a, q, s, k), (v, r), (l, o), t, w) :: fs, m) 2 x)) := by
  have hk := (rY_F h).2.2.2.2
  refine rx_Cm (cm_finish2 hG (rY_dep h) hp) (fun _ _ hq => ⟨hq.1, _, hq.2, Or.inr ⟨(w.1, e.drop (e.length - w.2.1), w.2.2, fs, m), 2, x, q, ⟨by decide, hlow⟩, rfl, ?_, ?_, ?_⟩⟩)
  · rw [hk.2.1, hk.2.2]
    exact rY_set52 (rY_set52 (rY_setEnd (rY_nowAll (rY_setBack (rY_setEv (rY_down h) hw) w.2.2) rfl rfl hk.1) 2) (Or.inl rfl) _) (Or.inr rfl) _
  · simp [rx_ru]
  · exact (rx_u52 _ _ _).trans (rY_gas h)
theorem cr_fin3 (hG : rx_OK G) (h : rm_Y S0 S g (n, e, b, ((c, a, q, s, k), (v, r), (l, o), t, w) :: fs, m) E) (hp : fs.length < 11) (hlow : vw_low fs) (hw : w.2.1 ≤ e.length) (x : Int64) : rx_C G MX11_finish (d + 1) [.ref 52, .int (nI 3), .long x] (gl C S) 0 0 (rq_on C S0 g (vm_fin (n, e, b, ((c, a, q, s, k), (v, r), (l, o), t, w) :: fs, m) 3 x)) := by
  have hk := (rY_F h).2.2.2.2
  refine rx_Cm (cm_finish3 hG (rY_dep h) hp) (fun _ _ hq => ⟨hq.1, _, hq.2, Or.inr ⟨(w.1, e.drop (e.length - w.2.1), w.2.2, fs, m), 3, 0, 0, ⟨by decide, hlow⟩, rfl, ?_, ?_, ?_⟩⟩)
  · rw [hk.2.1, hk.2.2]
    exact rY_set52 (rY_set52 (rY_setEnd (rY_nowAll (rY_setBack (rY_setEv (rY_down h) hw) w.2.2) rfl rfl hk.1) 3) (Or.inl rfl) _) (Or.inr rfl) _
  · simp [rx_ru]
  · exact rx_u52 _ _ _
end RZ
theorem lN_toNat {j : Nat} (h : j < 2 ^ 31) : (lN j).toInt.toNat = j := by rw [lN_toInt h]; rfl
/-- a call begins -/
def rq_begin (C : rx_M) (S0 : gs_T) (g : vg_T) (X : vx_S) (q : Nat) (R : vx_S × Option (Nat × Int64 × Nat)) (E : Nat) (v : Option Value) (mu : rx_M) : Prop :=
  (v = some (.int (nI 0)) ∧ ∃ S', mu = gl C S' ∧ ∃ n1 how, (1 ≤ how ∧ how ≤ 3) ∧ R = vm_tell (n1, X.2) how 0 q ∧ rm_Y S0 S' g (n1, X.2) how ∧ S'.2 52 59 = 0 ∧ S'.2 52 60 = lN q) ∨
  (v = some (.int (nI 1)) ∧ ∃ S', mu = gl C S' ∧ ∃ X', R = (X', none) ∧ rm_Y S0 S' g X' E)
theorem bI_nar (l : Bool) : narrow .boolean (.int (bI l)) = .int (bI l) := by cases l <;> rfl
theorem bI_ne (l : Bool) : bI l ≠ 0 ↔ l = true := by cases l <;> decide
section RB
variable {G : rx_E} {d : Nat} {C : rx_M} {S0 S : gs_T} {g : vg_T} {n : Nat → Int64} {e : List (Nat × Int64 × Int64)} {b m E : Nat} {gs : List vf_T}
theorem rm_locked (h : rm_Y S0 S g (n, e, b, gs, m) E) (hs : ∀ f ∈ gs, fS f < 32) {x : Int64} : (∃ j, j < gs.length ∧ (S.1 94 j ≠ 0 ∧ (S.1 89 j).toInt64 = x)) ↔ vm_locked gs x := by
  refine rm_Fs_ex h.1.2.2.2.2.1.2 (fun j f hf hF => ?_)
  have := hs f hf
  rw [hF.2.2.1.2, bI_ne, hF.1.2.2.2.1, nI_l (by omega)]
  exact and_congr_right fun _ => eq_comm
theorem rY_bal (h : rm_Y S0 S g (n, e, b, gs, m) E) {cl : Nat} (hcl : cl < 32) : S.2 82 (19 * cl) = n (19 * cl) := rY_now h (by omega)
/-- the state with a value moved, as the rows have it -/
theorem rY_moved (h : rm_Y S0 S g (n, e, b, gs, m) E) {cl a : Nat} (hcl : cl < 32) (ha : a < 32) (vl : Int64) : ∀ j, j < 608 → up1 (up1 (fun k => S.2 82 k) (19 * cl) (S.2 82 (19 * cl) - vl)) (19 * a) ((up1 (fun k => S.2 82 k) (19 * cl) (S.2 82 (19 * cl) - vl)) (19 * a) + vl) j = up1 (up1 n (19 * cl) (n (19 * cl) - vl)) (19 * a) ((up1 n (19 * cl) (n (19 * cl) - vl)) (19 * a) + vl) j := by
  intro j hj
  simp only [up1, rY_bal h hcl, rY_bal h ha, rY_now h hj]
theorem vm_notacct {to value arg : Int64} {X : vx_S} {cl q : Nat} {l : Bool} (hf : ¬ vm_acct to ∨ value < 0 ∨ X.1 (19 * cl) < value ∨ vm_locked X.2.2.2.1 to ∨ X.2.2.2.1.length = 10) : vm_begin X cl to value arg q l = vm_tell X 2 0 q := by
  unfold vm_begin
  rw [if_pos hf]
theorem vm_begunW {value arg : Int64} {X : vx_S} {cl q a : Nat} {l : Bool} (ha : a < 32) (hf : ¬ (¬ vm_acct (lN a) ∨ value < 0 ∨ X.1 (19 * cl) < value ∨ vm_locked X.2.2.2.1 (lN a) ∨ X.2.2.2.1.length = 10)) (hz : (up1 (up1 X.1 (19 * cl) (X.1 (19 * cl) - value)) (19 * a) ((up1 X.1 (19 * cl) (X.1 (19 * cl) - value)) (19 * a) + value)) (19 * a + 2) = 0) : vm_begin X cl (lN a) value arg q l = vm_tell (up1 (up1 X.1 (19 * cl) (X.1 (19 * cl) - value)) (19 * a) ((up1 X.1 (19 * cl) (X.1 (19 * cl) - value)) (19 * a) + value), X.2) 1 0 q := by
  unfold vm_begin
  rw [if_neg hf, lN_toNat (by omega)]
  exact if_pos hz
theorem vm_begunF {value arg : Int64} {X : vx_S} {cl q a : Nat} {l : Bool} (ha : a < 32) (hf : ¬ (¬ vm_acct (lN a) ∨ value < 0 ∨ X.1 (19 * cl) < value ∨ vm_locked X.2.2.2.1 (lN a) ∨ X.2.2.2.1.length = 10)) (hz : ¬ (up1 (up1 X.1 (19 * cl) (X.1 (19 * cl) - value)) (19 * a) ((up1 X.1 (19 * cl) (X.1 (19 * cl) - value)) (19 * a) + value)) (19 * a + 2) = 0) : vm_begin X cl (lN a) value arg q l = ((up1 (up1 X.1 (19 * cl) (X.1 (19 * cl) - value)) (19 * a) ((up1 X.1 (19 * cl) (X.1 (19 * cl) - value)) (19 * a) + value), X.2.1, X.2.2.1, ((((up1 (up1 X.1 (19 * cl) (X.1 (19 * cl) - value)) (19 * a) ((up1 X.1 (19 * cl) (X.1 (19 * cl) - value)) (19 * a) + value)) (19 * a + 2)).toInt.toNat - 1, 0, q, a, cl), (value, arg), (l, false), [], (X.1, X.2.1.length, X.2.2.1)) :: X.2.2.2.1, X.2.2.2.2 + 1), none) := by
  unfold vm_begin
  rw [if_neg hf, lN_toNat (by omega)]
  exact if_neg hz
theorem lN_isacct {a : Nat} (ha : a < 32) : vm_acct (lN a) := ⟨by rw [show (0 : Int64) = lN 0 from rfl, lN_le (by decide) (by omega)]; omega, by rw [show (32 : Int64) = lN 32 from rfl, lN_lt (by omega) (by decide)]; exact ha⟩
theorem rY_above {S' : gs_T} (h : rm_Y S0 S g (n, e, b, gs, m) E) (hn : rm_near S S' gs.length) : rm_Y S0 S' g (n, e, b, gs, m) E := by
  obtain ⟨⟨⟨g1, g2, g3, g4⟩, h2, ⟨h3, h4⟩, h5, ⟨h6, h7⟩, h8⟩, ⟨r1, r2, r3⟩, h9⟩ := h
  have hI : ∀ a, a < 83 ∨ 96 < a → S'.1 a = S.1 a := fun a ha => (hn.2 a ha).1
  have hL : ∀ a, a < 83 ∨ 96 < a → S'.2 a = S.2 a := fun a ha => (hn.2 a ha).2
  have i52 := hI 52 (by decide)
  have l52 := hL 52 (by decide)
  refine ⟨⟨⟨fun c hc => ?_, ?_, ?_, ?_⟩, fun k hk => ?_, ⟨?_, ?_⟩, ?_, ⟨?_, rm_Fs_congr hn.1 h7⟩, ?_⟩, ⟨fun a ha ha2 => ?_, ?_, fun k k1 k2 k3 k4 k5 k6 k7 k8 => ?_⟩, ?_⟩
  · rw [hI 54 (by decide), hI 53 (by decide)]; exact g1 c hc
  · rw [i52]; exact g2
  · rw [i52]; exact g3
  · rw [i52]; exact g4
  · rw [hL 82 (by decide)]; exact h2 k hk
  · rw [i52]; exact h3
  · exact rm_E_congr (fun i _ => ⟨by rw [hI 97 (by decide)], by rw [hL 98 (by decide)], by rw [hL 99 (by decide)]⟩) h4
  · rw [i52]; exact h5
  · rw [i52]; exact h6
  · rw [i52]; exact h8
  · rw [hI a (by omega), hL a (by omega)]; exact r1 a ha ha2
  · rw [hI 100 (by omega), hL 100 (by omega)]; exact r2
  · rw [i52, l52]; exact r3 k k1 k2 k3 k4 k5 k6 k7 k8
  · rw [i52]; exact h9
theorem rm_near_cp {p : Nat} : rm_near S (S.1, rx_cp S.2 83 (608 * p) 82 0 608) p := by
  have hz : ∀ c j, c ≠ 83 → rx_cp S.2 83 (608 * p) 82 0 608 c j = S.2 c j := fun c j hc => rx_cp_get hc
  refine ⟨fun i hi => ⟨fun a ha ha2 _ => ⟨rfl, hz a i (by omega)⟩, ⟨rfl, rfl⟩, fun _ _ => hz 95 _ (by decide), fun j hj => ?_⟩, fun a ha => ⟨rfl, funext fun j => hz a j (by omega)⟩⟩
  show rx_cp S.2 83 (608 * p) 82 0 608 83 _ = _
  unfold rx_cp
  rw [if_neg (fun q => by omega)]
theorem rm_near_addI {A : Nat → Nat → Int32} {B : Nat → Nat → Int64} {a p : Nat} {x : Int32} (h : rm_near S (A, B) p) (h1 : 84 ≤ a) (h2 : a ≤ 96) : rm_near S (rx_u A a p x, B) p := rm_near_trans h (rm_near_I h1 h2)
theorem rm_near_addL {A : Nat → Nat → Int32} {B : Nat → Nat → Int64} {a p : Nat} {x : Int64} (h : rm_near S (A, B) p) (h1 : 86 ≤ a) (h2 : a ≤ 96) (h3 : a ≠ 95) : rm_near S (A, rx_u B a p x) p := rm_near_trans h (rm_near_L h1 h2 h3)
theorem rm_near_refl {p : Nat} : rm_near S S p := ⟨fun _ _ => ⟨fun _ _ _ _ => ⟨rfl, rfl⟩, ⟨rfl, rfl⟩, fun _ _ => rfl, fun _ _ => rfl⟩, fun _ _ => ⟨rfl, rfl⟩⟩
theorem rY_up {f : vf_T} (h : rm_Y S0 S g (n, e, b, gs, m) E) (hF : rm_F S gs.length f) : rm_Y S0 (rx_u (rx_u S.1 52 49 (nI (gs.length + 1))) 52 57 (nI (m + 1)), S.2) g (n, e, b, f :: gs, m + 1) E := by
  obtain ⟨⟨⟨g1, g2, g3, g4⟩, h2, ⟨h3, h4⟩, h5, ⟨h6, h7⟩, h8⟩, hr, h9⟩ := h
  have hS : ∀ i, rm_same S (rx_u (rx_u S.1 52 49 (nI (gs.length + 1))) 52 57 (nI (m + 1)), S.2) i := fun i => ⟨fun a ha ha2 _ => ⟨by show rx_u (rx_u S.1 52 49 _) 52 57 _ a i = _; rw [rx_une _ (by omega), rx_une _ (by omega)], rfl⟩, ⟨by simp [rx_ru], by simp [rx_ru]⟩, fun _ _ => rfl, fun _ _ => rfl⟩
  refine ⟨⟨⟨fun c hc => by simpa [rx_ru] using g1 c hc, by simpa [rx_ru] using g2, by simpa [rx_ru] using g3, by simpa [rx_ru] using g4⟩, h2, ⟨by simpa [rx_ru] using h3, ?_⟩, by simpa [rx_ru] using h5, ⟨by simp [rx_ru], rm_F_congr (hS _) hF, rm_Fs_congr (fun i _ => hS i) h7⟩, by simp [rx_ru]⟩, rm_rest_I (S := (rx_u S.1 52 49 (nI (gs.length + 1)), S.2)) (rm_rest_I hr (by omega)) (by omega), by simpa [rx_ru] using h9⟩
  exact rm_E_congr (S := S) (fun i _ => ⟨by simp [rx_ru], rfl, rfl⟩) h4
theorem rY_keep (h : rm_Y S0 S g (n, e, b, gs, m) E) : rm_Y S0 (rx_u (rx_u S.1 84 gs.length (S.1 52 52)) 85 gs.length (S.1 52 56), rx_cp S.2 83 (608 * gs.length) 82 0 608) g (n, e, b, gs, m) E :=
  rY_above (rY_above (rY_above h rm_near_cp) (rm_near_I (by decide) (by decide))) (rm_near_I (by decide) (by decide))
/-- the state with a value moved, in the rows -/
theorem rY_move (h : rm_Y S0 S g (n, e, b, gs, m) E) {S1 : gs_T} (h1 : rm_Y S0 S1 g (n, e, b, gs, m) E) {cl a : Nat} (hcl : cl < 32) (ha : a < 32) (vl : Int64) : rm_Y S0 (S1.1, rx_u (rx_u S1.2 82 (19 * cl) (S.2 82 (19 * cl) - vl)) 82 (19 * a) (up1 (fun k => S.2 82 k) (19 * cl) (S.2 82 (19 * cl) - vl) (19 * a) + vl)) g (up1 (up1 n (19 * cl) (n (19 * cl) - vl)) (19 * a) ((up1 n (19 * cl) (n (19 * cl) - vl)) (19 * a) + vl), e, b, gs, m) E := by
  have e1 : S.2 82 (19 * cl) - vl = n (19 * cl) - vl := by rw [rY_bal h hcl]
  have e2 : up1 (fun k => S.2 82 k) (19 * cl) (S.2 82 (19 * cl) - vl) (19 * a) = up1 n (19 * cl) (n (19 * cl) - vl) (19 * a) := by
    simp only [up1, rY_bal h hcl, rY_bal h ha]
  rw [e1] at e2 ⊢
  rw [e2]
  exact rY_setNow (rY_setNow h1 _ _) _ _
theorem cr_begin (hG : rx_OK G) (h : rm_Y S0 S g (n, e, b, gs, m) E) (hp : gs.length ≤ 10) (hs : ∀ f ∈ gs, fS f < 32) (hc : vw_codes g n) (hg : g.2.1 ≤ 16) {cl q : Nat} (hcl : cl < 32) (tt vl ar : Int64) (l : Bool) : rx_C G MX11_begin (d + 1) [.ref 52, .int (nI cl), .long tt, .long vl, .long ar, .long (lN q), .int (bI l)] (gl C S) 0 0 (rq_begin C S0 g (n, e, b, gs, m) q (vm_begin (n, e, b, gs, m) cl tt vl ar q l) E) := by
  refine rx_Cm (cm_begin hG (rY_dep' h) (by omega) hcl (bI_nar l)) (fun _ _ hq => ?_)
  rw [rm_locked h hs] at hq
  rcases hq with ⟨hf, rfl, rfl⟩ | ⟨a, ha, rfl, ⟨k1, k2, k3, k4⟩, hz, rfl, rfl⟩ | ⟨a, ha, rfl, ⟨k1, k2, k3, k4⟩, hz, rfl, rfl⟩
  · rw [rY_bal h hcl] at hf
    exact Or.inl ⟨rfl, _, rfl, n, 2, by decide, vm_notacct hf, rY_set52 (rY_set52 (rY_setEnd h 2) (Or.inl rfl) _) (Or.inr rfl) _, by simp [rx_ru], rx_u52 _ _ _⟩
  · rw [rm_locked h hs] at k3
    rw [rY_bal h hcl] at k2
    have hno : ¬ (¬ vm_acct (lN a) ∨ vl < 0 ∨ n (19 * cl) < vl ∨ vm_locked gs (lN a) ∨ gs.length = 10) := by
      rintro (hx | hx | hx | hx | hx)
      · exact hx (lN_isacct ha)
      · exact k1 hx
      · exact k2 hx
      · exact k3 hx
      · exact k4 hx
    rw [rY_moved h hcl ha vl _ (by omega)] at hz
    refine Or.inl ⟨rfl, _, rfl, _, 1, by decide, vm_begunW (X := (n, e, b, gs, m)) ha hno hz, ?_, by simp [rx_ru], rx_u52 _ _ _⟩
    exact rY_set52 (rY_set52 (rY_setEnd (rY_move h (rY_keep h) hcl ha vl) 1) (Or.inl rfl) _) (Or.inr rfl) _
  · rw [rm_locked h hs] at k3
    rw [rY_bal h hcl] at k2
    have hno : ¬ (¬ vm_acct (lN a) ∨ vl < 0 ∨ n (19 * cl) < vl ∨ vm_locked gs (lN a) ∨ gs.length = 10) := by
      rintro (hx | hx | hx | hx | hx)
      · exact hx (lN_isacct ha)
      · exact k1 hx
      · exact k2 hx
      · exact k3 hx
      · exact k4 hx
    have hcc : up1 (up1 n (19 * cl) (n (19 * cl) - vl)) (19 * a) ((up1 n (19 * cl) (n (19 * cl) - vl)) (19 * a) + vl) (19 * a + 2) = n (19 * a + 2) := by
      unfold up1
      rw [if_neg (by omega), if_neg (by omega)]
    obtain ⟨cc, hcc1, hcc2⟩ := hc a ha
    rw [rY_moved h hcl ha vl _ (by omega)] at hz
    have hne : cc ≠ 0 := fun h0 => by
      subst h0
      exact hz (hcc.trans hcc2)
    refine Or.inr ⟨rfl, _, rfl, _, vm_begunF (X := (n, e, b, gs, m)) ha hno hz, ?_⟩
    rw [rY_moved h hcl ha vl _ (by omega), hcc, hcc2, lN_i, show nI cc - nI 1 = nI (cc - 1) from (pk_sub (by omega)).trans rfl, rY_run h, nI_add, lN_toNat (by omega)]
    refine rY_up (S := ((rx_u (rx_u (rx_u (rx_u (rx_u (rx_u (rx_u (rx_u (rx_u S.1 84 gs.length (S.1 52 52)) 85 gs.length (S.1 52 56)) 86 gs.length (nI (cc - 1))) 87 gs.length (nI 0)) 89 gs.length (nI a)) 90 gs.length (nI cl)) 93 gs.length (bI l)) 94 gs.length (nI 0)) 96 gs.length (nI 0)), (rx_u (rx_u (rx_u (rx_u (rx_u (rx_cp S.2 83 (608 * gs.length) 82 0 608) 82 (19 * cl) (S.2 82 (19 * cl) - vl)) 82 (19 * a) (up1 (fun k => S.2 82 k) (19 * cl) (S.2 82 (19 * cl) - vl) (19 * a) + vl)) 88 gs.length (lN q)) 91 gs.length vl) 92 gs.length ar))) (rY_above (S := (rx_u (rx_u S.1 84 gs.length (S.1 52 52)) 85 gs.length (S.1 52 56), rx_u (rx_u (rx_cp S.2 83 (608 * gs.length) 82 0 608) 82 (19 * cl) (S.2 82 (19 * cl) - vl)) 82 (19 * a) (up1 (fun k => S.2 82 k) (19 * cl) (S.2 82 (19 * cl) - vl) (19 * a) + vl))) (rY_move h (rY_keep h) hcl ha vl) ?_) ?_
    · exact rm_near_addL (rm_near_addL (rm_near_addL (rm_near_addI (rm_near_addI (rm_near_addI (rm_near_addI (rm_near_addI (rm_near_addI (rm_near_addI rm_near_refl (by decide) (by decide)) (by decide) (by decide)) (by decide) (by decide)) (by decide) (by decide)) (by decide) (by decide)) (by decide) (by decide)) (by decide) (by decide)) (by decide) (by decide) (by decide)) (by decide) (by decide) (by decide)) (by decide) (by decide) (by decide)
    · refine ⟨⟨by simp [rx_ru, fC, fA, fG, fS, fK, fV, fR, fL, fO, fT, fB], by simp [rx_ru, fC, fA, fG, fS, fK, fV, fR, fL, fO, fT, fB], by simp [rx_ru, fC, fA, fG, fS, fK, fV, fR, fL, fO, fT, fB], by simp [rx_ru, fC, fA, fG, fS, fK, fV, fR, fL, fO, fT, fB], by simp [rx_ru, fC, fA, fG, fS, fK, fV, fR, fL, fO, fT, fB]⟩, ⟨by simp [rx_ru, fC, fA, fG, fS, fK, fV, fR, fL, fO, fT, fB], by simp [rx_ru, fC, fA, fG, fS, fK, fV, fR, fL, fO, fT, fB]⟩, ⟨by simp [rx_ru, fC, fA, fG, fS, fK, fV, fR, fL, fO, fT, fB], by simp [rx_ru, fO, bI]⟩, ⟨by simp [fT], by simp [rx_ru, fC, fA, fG, fS, fK, fV, fR, fL, fO, fT, fB], trivial⟩, ⟨fun k hk => ?_, ?_, ?_⟩⟩
      · simp [rx_ru, rx_cp, hk, fB]
        exact rY_now h hk
      · simp [rx_ru, fC, fA, fG, fS, fK, fV, fR, fL, fO, fT, fB]; exact rY_ev h
      · simp [rx_ru, fC, fA, fG, fS, fK, fV, fR, fL, fO, fT, fB]; exact rY_back h
end RB

theorem rc_T_get {C : rx_M} {p : Nat} : ∀ {t : List Int64} {i : Nat}, i < t.length → rc_T C p t → C.2.1 (14 + 3 * p) (t.length - 1 - i) = t.getD i 0
  | v :: r, 0, _, h => by simpa using h.1
  | v :: r, i + 1, hn, h => by
    have hn' : i < r.length := by simpa using hn
    have h1 := rc_T_get hn' h.2
    have h2 : (v :: r).length - 1 - (i + 1) = r.length - 1 - i := by simp; omega
    rw [h2, h1]
    rfl
theorem rc_T_mk {C : rx_M} {p : Nat} : ∀ {t : List Int64}, (∀ i, i < t.length → C.2.1 (14 + 3 * p) (t.length - 1 - i) = t.getD i 0) → rc_T C p t
  | [], _ => trivial
  | v :: r, h => by
    refine ⟨by simpa using h 0 (by simp), rc_T_mk (fun i hi => ?_)⟩
    have h1 := h (i + 1) (by simp; omega)
    have h2 : (v :: r).length - 1 - (i + 1) = r.length - 1 - i := by simp; omega
    rw [h2] at h1
    simpa using h1
theorem ne14 {p : Nat} : (13 + 3 * p = 14 + 3 * p) = False := eq_false (by omega)
theorem ne15 {p : Nat} : (15 + 3 * p = 14 + 3 * p) = False := eq_false (by omega)
section RCS
variable {K : Nat → Nat × Nat} {C0 C C' : rx_M} {g : vg_T} {bs od : Nat} {n : Nat → Int64} {e : List (Nat × Int64 × Int64)} {b m c a q s k : Nat} {v r : Int64} {l o : Bool} {t : List Int64} {w : (Nat → Int64) × Nat × Nat} {fs gs : List vf_T} {f f' : vf_T} {z z' : Int32}
theorem rcY_upd (h : rc_Y K C0 C g bs od (n, e, b, f :: fs, m) z) (hp : fs.length < 10) (hn : rc_near C C' fs.length) (hf : rc_F K C' bs fs.length f') (hz : C'.1 (13 + 3 * fs.length) 7 = z') : rc_Y K C0 C' g bs od (n, e, b, f' :: fs, m) z' :=
  ⟨rcY_top h.1 hn hf, rc_rest_near h.2.1 hn, hz⟩
theorem rcY_setAt (h : rc_Y K C0 C g bs od (n, e, b, ((c, a, q, s, k), (v, r), (l, o), t, w) :: fs, m) z) (hp : fs.length < 10) (a' : Nat) : rc_Y K C0 (rx_u C.1 (13 + 3 * fs.length) 6 (nI a'), C.2) g bs od (n, e, b, ((c, a', q, s, k), (v, r), (l, o), t, w) :: fs, m) z := by
  refine rcY_upd h hp (rc_near_I rc_near_refl (by omega) (by omega)) ?_ (by simpa [rx_ru] using rc_op h)
  obtain ⟨⟨h1, h2, h3, h4, h5⟩, ⟨h6, h7⟩, ⟨h8, h9⟩, ⟨h10, h11, h12⟩, h13⟩ := rcF h
  exact ⟨⟨h1, by simp [rx_ru], by simpa [rx_ru] using h3, by simpa [rx_ru] using h4, by simpa [rx_ru] using h5⟩, ⟨h6, h7⟩, ⟨by simpa [rx_ru] using h8, by simpa [rx_ru] using h9⟩, ⟨h10, by simpa [rx_ru] using h11, rc_T_congr (C := C) (fun _ _ => rfl) h12⟩, fun hl => ⟨(h13 hl).1, by simpa [rx_ru] using (h13 hl).2.1, by simpa [rx_ru] using (h13 hl).2.2⟩⟩
theorem rcY_setOp (h : rc_Y K C0 C g bs od (n, e, b, ((c, a, q, s, k), (v, r), (l, o), t, w) :: fs, m) z) (hp : fs.length < 10) (z' : Int32) : rc_Y K C0 (rx_u C.1 (13 + 3 * fs.length) 7 z', C.2) g bs od (n, e, b, ((c, a, q, s, k), (v, r), (l, o), t, w) :: fs, m) z' := by
  refine rcY_upd h hp (rc_near_I rc_near_refl (by omega) (by omega)) ?_ (by simp [rx_ru])
  obtain ⟨⟨h1, h2, h3, h4, h5⟩, ⟨h6, h7⟩, ⟨h8, h9⟩, ⟨h10, h11, h12⟩, h13⟩ := rcF h
  exact ⟨⟨h1, by simpa [rx_ru] using h2, by simpa [rx_ru] using h3, by simpa [rx_ru] using h4, by simpa [rx_ru] using h5⟩, ⟨h6, h7⟩, ⟨by simpa [rx_ru] using h8, by simpa [rx_ru] using h9⟩, ⟨h10, by simpa [rx_ru] using h11, rc_T_congr (C := C) (fun _ _ => rfl) h12⟩, fun hl => ⟨(h13 hl).1, by simpa [rx_ru] using (h13 hl).2.1, by simpa [rx_ru] using (h13 hl).2.2⟩⟩
theorem rcY_setGas (h : rc_Y K C0 C g bs od (n, e, b, ((c, a, q, s, k), (v, r), (l, o), t, w) :: fs, m) z) (hp : fs.length < 10) (q' : Nat) : rc_Y K C0 (rx_u C.1 (13 + 3 * fs.length) 8 (nI q'), C.2) g bs od (n, e, b, ((c, a, q', s, k), (v, r), (l, o), t, w) :: fs, m) z := by
  refine rcY_upd h hp (rc_near_I rc_near_refl (by omega) (by omega)) ?_ (by simpa [rx_ru] using rc_op h)
  obtain ⟨⟨h1, h2, h3, h4, h5⟩, ⟨h6, h7⟩, ⟨h8, h9⟩, ⟨h10, h11, h12⟩, h13⟩ := rcF h
  exact ⟨⟨h1, by simpa [rx_ru] using h2, by simp [rx_ru], by simpa [rx_ru] using h4, by simpa [rx_ru] using h5⟩, ⟨h6, h7⟩, ⟨by simpa [rx_ru] using h8, by simpa [rx_ru] using h9⟩, ⟨h10, by simpa [rx_ru] using h11, rc_T_congr (C := C) (fun _ _ => rfl) h12⟩, fun hl => ⟨(h13 hl).1, by simpa [rx_ru] using (h13 hl).2.1, by simpa [rx_ru] using (h13 hl).2.2⟩⟩
theorem rcY_setLock (h : rc_Y K C0 C g bs od (n, e, b, ((c, a, q, s, k), (v, r), (l, o), t, w) :: fs, m) z) (hp : fs.length < 10) : rc_Y K C0 (rx_u C.1 (13 + 3 * fs.length) 14 (nI 1), C.2) g bs od (n, e, b, ((c, a, q, s, k), (v, r), (l, true), t, w) :: fs, m) z := by
  refine rcY_upd h hp (rc_near_I rc_near_refl (by omega) (by omega)) ?_ (by simpa [rx_ru] using rc_op h)
  obtain ⟨⟨h1, h2, h3, h4, h5⟩, ⟨h6, h7⟩, ⟨h8, h9⟩, ⟨h10, h11, h12⟩, h13⟩ := rcF h
  exact ⟨⟨h1, by simpa [rx_ru] using h2, by simpa [rx_ru] using h3, by simpa [rx_ru] using h4, by simpa [rx_ru] using h5⟩, ⟨h6, h7⟩, ⟨by simpa [rx_ru] using h8, by simp [rx_ru, bI]⟩, ⟨h10, by simpa [rx_ru] using h11, rc_T_congr (C := C) (fun _ _ => rfl) h12⟩, fun hl => ⟨(h13 hl).1, by simpa [rx_ru] using (h13 hl).2.1, by simpa [rx_ru] using (h13 hl).2.2⟩⟩
theorem rcY_pushed (h : rc_Y K C0 C g bs od (n, e, b, ((c, a, q, s, k), (v, r), (l, o), t, w) :: fs, m) z) (hp : fs.length < 10) (ht : t.length < 24) (x : Int64) : rc_Y K C0 (rx_u C.1 (13 + 3 * fs.length) 4 (nI (t.length + 1)), rx_u C.2.1 (14 + 3 * fs.length) t.length x, C.2.2) g bs od (n, e, b, ((c, a, q, s, k), (v, r), (l, o), x :: t, w) :: fs, m) z := by
  refine rcY_upd h hp (rc_near_L (rc_near_I rc_near_refl (by omega) (by omega)) (by omega) (by omega)) ?_ (by simpa [rx_ru] using rc_op h)
  obtain ⟨⟨h1, h2, h3, h4, h5⟩, ⟨h6, h7⟩, ⟨h8, h9⟩, ⟨h10, h11, h12⟩, h13⟩ := rcF h
  exact ⟨⟨h1, by simpa [rx_ru] using h2, by simpa [rx_ru] using h3, by simpa [rx_ru] using h4, by simpa [rx_ru] using h5⟩, ⟨by simpa [rx_ru, ne14] using h6, by simpa [rx_ru, ne14] using h7⟩, ⟨by simpa [rx_ru] using h8, by simpa [rx_ru] using h9⟩, ⟨ht, (by show rx_u C.1 _ 4 (nI (t.length + 1)) _ 4 = nI (t.length + 1); simp [rx_ru]), ⟨by simp [rx_ru], rc_T_congr (C := C) (fun j hj => by simp [rx_ru]; omega) h12⟩⟩, fun hl => ⟨fun k hk => by simpa [rx_ru, ne15] using (h13 hl).1 k hk, by simpa [rx_ru] using (h13 hl).2.1, by simpa [rx_ru] using (h13 hl).2.2⟩⟩
theorem rcY_popped {x : Int64} (h : rc_Y K C0 C g bs od (n, e, b, ((c, a, q, s, k), (v, r), (l, o), x :: t, w) :: fs, m) z) (hp : fs.length < 10) : rc_Y K C0 (rx_u C.1 (13 + 3 * fs.length) 4 (nI t.length), C.2) g bs od (n, e, b, ((c, a, q, s, k), (v, r), (l, o), t, w) :: fs, m) z := by
  refine rcY_upd h hp (rc_near_I rc_near_refl (by omega) (by omega)) ?_ (by simpa [rx_ru] using rc_op h)
  obtain ⟨⟨h1, h2, h3, h4, h5⟩, ⟨h6, h7⟩, ⟨h8, h9⟩, ⟨h10, h11, h12⟩, h13⟩ := rcF h
  have h10' : t.length + 1 ≤ 24 := h10
  exact ⟨⟨h1, by simpa [rx_ru] using h2, by simpa [rx_ru] using h3, by simpa [rx_ru] using h4, by simpa [rx_ru] using h5⟩, ⟨h6, h7⟩, ⟨by simpa [rx_ru] using h8, by simpa [rx_ru] using h9⟩, ⟨(by show t.length ≤ 24; omega), (by show rx_u C.1 _ 4 (nI t.length) _ 4 = nI t.length; simp [rx_ru]), rc_T_congr (C := C) (t := t) (fun _ _ => rfl) h12.2⟩, fun hl => ⟨(h13 hl).1, by simpa [rx_ru] using (h13 hl).2.1, by simpa [rx_ru] using (h13 hl).2.2⟩⟩
theorem rcY_swap (h : rc_Y K C0 C g bs od (n, e, b, ((c, a, q, s, k), (v, r), (l, o), t, w) :: fs, m) z) (hp : fs.length < 10) {mo j : Nat} (hj : t.length = mo + 1 + j) : rc_Y K C0 (C.1, rx_u (rx_u C.2.1 (14 + 3 * fs.length) (j + mo) (t.getD mo 0)) (14 + 3 * fs.length) j (t.getD 0 0), C.2.2) g bs od (n, e, b, ((c, a, q, s, k), (v, r), (l, o), (t.set 0 (t.getD mo 0)).set mo (t.getD 0 0), w) :: fs, m) z := by
  refine rcY_upd h hp (rc_near_L (rc_near_L rc_near_refl (by omega) (by omega)) (by omega) (by omega)) ?_ (show C.1 (13 + 3 * fs.length) 7 = z from rc_op h)
  obtain ⟨⟨h1, h2, h3, h4, h5⟩, ⟨h6, h7⟩, ⟨h8, h9⟩, ⟨h10, h11, h12⟩, h13⟩ := rcF h
  refine ⟨⟨h1, h2, h3, h4, h5⟩, ⟨by simpa [rx_ru, ne14] using h6, by simpa [rx_ru, ne14] using h7⟩, ⟨h8, h9⟩, ⟨by simpa [fT] using h10, by simpa [fT] using h11, rc_T_mk (fun i hi => ?_)⟩, fun hl => ⟨fun k hk => by simpa [rx_ru, ne15] using (h13 hl).1 k hk, (h13 hl).2.1, (h13 hl).2.2⟩⟩
  have hl : ((t.set 0 (t.getD mo 0)).set mo (t.getD 0 0)).length = t.length := by simp
  have hi : i < t.length := by rw [← hl]; exact hi
  show rx_u (rx_u C.2.1 _ _ _) _ _ _ (14 + 3 * fs.length) (((t.set 0 (t.getD mo 0)).set mo (t.getD 0 0)).length - 1 - i) = ((t.set 0 (t.getD mo 0)).set mo (t.getD 0 0)).getD i 0
  rw [hl, rx_ru, if_pos rfl, rx_ru, if_pos rfl]
  rw [List.getD_eq_getElem?_getD (l := List.set _ _ _), List.getElem?_set, List.getElem?_set, List.length_set]
  by_cases e1 : i = mo
  · rw [if_pos (by omega), if_pos e1.symm, if_pos (by omega)]; rfl
  · rw [if_neg (show ¬ t.length - 1 - i = j by omega), if_neg (show ¬ mo = i from fun h => e1 h.symm)]
    by_cases e2 : i = 0
    · rw [if_pos (show t.length - 1 - i = j + mo by omega), if_pos e2.symm, if_pos (by omega)]; rfl
    · rw [if_neg (show ¬ t.length - 1 - i = j + mo by omega), if_neg (show ¬ 0 = i from fun h => e2 h.symm), ← List.getD_eq_getElem?_getD]
      exact rc_T_get hi h12
end RCS
theorem rcY_ab {G : rx_E} {M : rx_Me} {d pc mc ms : Nat} {lv : List (Nat × Value)} {st : List Value} {S : gs_T} {K : Nat → Nat × Nat} {C0 C : rx_M} {g : vg_T} {bs od : Nat} {X : vx_S} {z : Int32} {Q : Option Value → rx_M → Prop} {Z : String → rx_M → Prop} (h : rc_Y K C0 C g bs od X z) (k : ∀ C', rc_Y K C0 C' g bs od X z → rx_W G M d pc lv st (gl C' S) mc ms Q Z) : rx_W G M d pc lv st (gl C S) mc ms Q Z := k C h
/-- the end of a method of the class's machine -/
def rcq (S : gs_T) (K : Nat → Nat × Nat) (C0 : rx_M) (g : vg_T) (bs od : Nat) (X : vx_S) (z : Int32) (r : Option Value) (v : Option Value) (mu : rx_M) : Prop := v = r ∧ ∃ C', mu = gl C' S ∧ rc_Y K C0 C' g bs od X z

theorem lst1 {t : List Int64} (h : 1 ≤ t.length) : ∃ y t', t = y :: t' := by
  match t, h with
  | y :: t', _ => exact ⟨y, t', rfl⟩
theorem lst2 {t : List Int64} (h : 2 ≤ t.length) : ∃ y x t', t = y :: x :: t' := by
  match t, h with
  | y :: x :: t', _ => exact ⟨y, x, t', rfl⟩
theorem lst3 {t : List Int64} (h : 3 ≤ t.length) : ∃ y x z t', t = y :: x :: z :: t' := by
  match t, h with
  | y :: x :: z :: t', _ => exact ⟨y, x, z, t', rfl⟩
theorem lst4 {t : List Int64} (h : 4 ≤ t.length) : ∃ y x z u t', t = y :: x :: z :: u :: t' := by
  match t, h with
  | y :: x :: z :: u :: t', _ => exact ⟨y, x, z, u, t', rfl⟩
theorem cr_do1 {G : rx_E} {d : Nat} {C : rx_M} {S0 S : gs_T} {g : vg_T} {n : Nat → Int64} {e : List (Nat × Int64 × Int64)} {b m c a q s k : Nat} {v r : Int64} {l o : Bool} {t : List Int64} {w : (Nat → Int64) × Nat × Nat} {fs : List vf_T} (hG : rx_OK G) {op mo a0 : Nat} {cd : List Nat} (h5 : op ≤ 5) (hp : fs.length < 10) (hs1 : s < 32) (hk : k < 32) (hs : ∀ f ∈ fs, fS f < 32) (hcod : vw_codes g n) (hg : g.2.1 ≤ 16) (ho : g.2.2.1 < 32) (hh : g.2.2.2 < 100) (hq : q ≤ 30000) (hb : b ≤ 30001) (hw : w.2.1 ≤ e.length) (he : e.length ≤ 2001) (hlow : vw_low fs) (htk : vm_takes op ≤ t.length) (hgv : t.length - vm_takes op + vm_gives op ≤ 24) (hdp : ¬ ((op = 4 ∨ op = 5) ∧ t.length ≤ mo)) (hcd : g.1 c = cd) (hc : c < g.2.1) (hcl : cd.length ≤ 200) (hal : a0 + vm_size op ≤ cd.length) (hoct : ∀ k, k < cd.length → cd.getD k 0 < 256) (hY : rm_Y S0 S g (n, e, b, ((c, a0 + vm_size op, q, s, k), (v, r), (l, o), t, w) :: fs, m) 0) : rx_C G MX11_simple (d + 3) [.ref 52, .int (nI op), .int (nI mo), .int (nI (200 * c + a0))] (gl C S) 0 0 (rq_on C S0 g (vm_do1 cd (n, e, b, ((c, a0 + vm_size op, q, s, k), (v, r), (l, o), t, w) :: fs, m) op mo ((c, a0 + vm_size op, q, s, k), (v, r), (l, o), t, w) fs)) := by
  have hn := rY_n hY
  have hc6 : op = 0 ∨ op = 1 ∨ op = 2 ∨ op = 3 ∨ op = 4 ∨ op = 5 := by omega
  rcases hc6 with rfl | rfl | rfl | rfl | rfl | rfl
  · exact cr_stop hG (by omega) hlow hY
  · exact cr_pushS hG (by omega) (by simp [vm_takes, vm_gives] at hgv; omega) hY
  · exact cr_big (a := 0) hG (by omega) (by simp [vm_takes, vm_gives] at hgv; omega) hcd hc hg hcl hal hoct hY
  · obtain ⟨y, t', rfl⟩ := lst1 (t := t) (by simp [vm_takes] at htk; omega)
    exact cr_popS hG (by omega) hY
  · obtain ⟨j, hj⟩ : ∃ j, t.length = mo + 1 + j := ⟨t.length - mo - 1, by
      have : ¬ t.length ≤ mo := fun h => hdp ⟨by decide, h⟩
      omega⟩
    exact cr_dup hG (by omega) hj (by simp [vm_takes, vm_gives] at hgv; omega) hY
  · obtain ⟨j, hj⟩ : ∃ j, t.length = mo + 1 + j := ⟨t.length - mo - 1, by
      have : ¬ t.length ≤ mo := fun h => hdp ⟨by decide, h⟩
      omega⟩
    exact cr_swap hG (by omega) hj hY
theorem cr_do2 {G : rx_E} {d : Nat} {C : rx_M} {S0 S : gs_T} {g : vg_T} {n : Nat → Int64} {e : List (Nat × Int64 × Int64)} {b m c a q s k : Nat} {v r : Int64} {l o : Bool} {t : List Int64} {w : (Nat → Int64) × Nat × Nat} {fs : List vf_T} (hG : rx_OK G) {op : Nat} (h6 : 6 ≤ op) (h18 : op ≤ 18) (hp : fs.length < 10) (hs1 : s < 32) (hk : k < 32) (hs : ∀ f ∈ fs, fS f < 32) (hcod : vw_codes g n) (hg : g.2.1 ≤ 16) (ho : g.2.2.1 < 32) (hh : g.2.2.2 < 100) (hq : q ≤ 30000) (hb : b ≤ 30001) (hw : w.2.1 ≤ e.length) (he : e.length ≤ 2001) (hlow : vw_low fs) (htk : vm_takes op ≤ t.length) (hgv : t.length - vm_takes op + vm_gives op ≤ 24) (hY : rm_Y S0 S g (n, e, b, ((c, a, q, s, k), (v, r), (l, o), t, w) :: fs, m) 0) : rx_C G MX11_reckon (d + 3) [.ref 52, .int (nI op)] (gl C S) 0 0 (rq_on C S0 g (vm_do2 (n, e, b, ((c, a, q, s, k), (v, r), (l, o), t, w) :: fs, m) op ((c, a, q, s, k), (v, r), (l, o), t, w) fs)) := by
  by_cases e18 : op = 18
  · subst e18
    obtain ⟨y, t', rfl⟩ := lst1 (t := t) (by simp [vm_takes] at htk; omega)
    exact cr_not hG (by omega) hY
  · obtain ⟨y, x, t', rfl⟩ := lst2 (t := t) (by unfold vm_takes at htk; rw [if_pos (by omega)] at htk; omega)
    exact cr_reckon hG h6 (by omega) (by omega) hw hlow hY
theorem cr_do3 {G : rx_E} {d : Nat} {C : rx_M} {S0 S : gs_T} {g : vg_T} {n : Nat → Int64} {e : List (Nat × Int64 × Int64)} {b m c a q s k : Nat} {v r : Int64} {l o : Bool} {t : List Int64} {w : (Nat → Int64) × Nat × Nat} {fs : List vf_T} (hG : rx_OK G) {op mo : Nat} (h19 : 19 ≤ op) (h22 : op ≤ 22) (hp : fs.length < 10) (hs1 : s < 32) (hk : k < 32) (hs : ∀ f ∈ fs, fS f < 32) (hcod : vw_codes g n) (hg : g.2.1 ≤ 16) (ho : g.2.2.1 < 32) (hh : g.2.2.2 < 100) (hq : q ≤ 30000) (hb : b ≤ 30001) (hw : w.2.1 ≤ e.length) (he : e.length ≤ 2001) (hlow : vw_low fs) (htk : vm_takes op ≤ t.length) (hgv : t.length - vm_takes op + vm_gives op ≤ 24) (hY : rm_Y S0 S g (n, e, b, ((c, a, q, s, k), (v, r), (l, o), t, w) :: fs, m) 0) : rx_C G MX11_jumpOrCell (d + 3) [.ref 52, .int (nI op), .int (nI mo)] (gl C S) 0 0 (rq_on C S0 g (vm_do3 (n, e, b, ((c, a, q, s, k), (v, r), (l, o), t, w) :: fs, m) op mo ((c, a, q, s, k), (v, r), (l, o), t, w) fs)) := by
  have hc6 : op = 19 ∨ op = 20 ∨ op = 21 ∨ op = 22 := by omega
  rcases hc6 with rfl | rfl | rfl | rfl
  · exact cr_jump hG (by omega) hs1 hw hq hb hlow hY
  · obtain ⟨y, t', rfl⟩ := lst1 (t := t) (by simp [vm_takes] at htk; omega)
    exact cr_jumpif hG (by omega) hs1 hw hq hb hlow hY
  · obtain ⟨y, t', rfl⟩ := lst1 (t := t) (by simp [vm_takes] at htk; omega)
    exact cr_load hG (by omega) hs1 hw hq hb hlow hY
  · obtain ⟨y, x, t', rfl⟩ := lst2 (t := t) (by simp [vm_takes] at htk; omega)
    exact cr_store hG (by omega) hs1 hw hq hb hlow hY
theorem cr_do4 {G : rx_E} {d : Nat} {C : rx_M} {S0 S : gs_T} {g : vg_T} {n : Nat → Int64} {e : List (Nat × Int64 × Int64)} {b m c a q s k : Nat} {v r : Int64} {l o : Bool} {t : List Int64} {w : (Nat → Int64) × Nat × Nat} {fs : List vf_T} (hG : rx_OK G) {op : Nat} (h23 : 23 ≤ op) (h30 : op ≤ 30) (hp : fs.length < 10) (hs1 : s < 32) (hk : k < 32) (hs : ∀ f ∈ fs, fS f < 32) (hcod : vw_codes g n) (hg : g.2.1 ≤ 16) (ho : g.2.2.1 < 32) (hh : g.2.2.2 < 100) (hq : q ≤ 30000) (hb : b ≤ 30001) (hw : w.2.1 ≤ e.length) (he : e.length ≤ 2001) (hlow : vw_low fs) (htk : vm_takes op ≤ t.length) (hgv : t.length - vm_takes op + vm_gives op ≤ 24) (hY : rm_Y S0 S g (n, e, b, ((c, a, q, s, k), (v, r), (l, o), t, w) :: fs, m) 0) : rx_C G MX11_tellOf (d + 3) [.ref 52, .int (nI op)] (gl C S) 0 0 (rq_on C S0 g (vm_do4 g (n, e, b, ((c, a, q, s, k), (v, r), (l, o), t, w) :: fs, m) op ((c, a, q, s, k), (v, r), (l, o), t, w) fs)) := by
  have hc6 : op = 23 ∨ op = 24 ∨ op = 25 ∨ op = 26 ∨ op = 27 ∨ op = 28 ∨ op = 29 ∨ op = 30 := by omega
  rcases hc6 with rfl | rfl | rfl | rfl | rfl | rfl | rfl | rfl
  · exact cr_tellOf23 hG (by omega) hs1 hk ho hh (by simp [vm_takes, vm_gives] at hgv; omega) hY
  · exact cr_tellOf24 hG (by omega) hs1 hk ho hh (by simp [vm_takes, vm_gives] at hgv; omega) hY
  · exact cr_tellOf25 hG (by omega) hs1 hk ho hh (by simp [vm_takes, vm_gives] at hgv; omega) hY
  · exact cr_tellOf26 hG (by omega) hs1 hk ho hh (by simp [vm_takes, vm_gives] at hgv; omega) hY
  · exact cr_tellOf27 hG (by omega) hs1 hk ho hh (by simp [vm_takes, vm_gives] at hgv; omega) hY
  · exact cr_tellOf28 hG (by omega) hs1 hk ho hh (by simp [vm_takes, vm_gives] at hgv; omega) hY
  · exact cr_tellOf29 hG (by omega) hs1 hk ho hh (by simp [vm_takes, vm_gives] at hgv; omega) hY
  · obtain ⟨y, t', rfl⟩ := lst1 (t := t) (by simp [vm_takes] at htk; omega)
    exact cr_tellOf30 hG (by omega) hs1 hk ho hh hY
theorem cr_do5 {G : rx_E} {d : Nat} {C : rx_M} {S0 S : gs_T} {g : vg_T} {n : Nat → Int64} {e : List (Nat × Int64 × Int64)} {b m c a q s k : Nat} {v r : Int64} {l o : Bool} {t : List Int64} {w : (Nat → Int64) × Nat × Nat} {fs : List vf_T} (hG : rx_OK G) {op : Nat} (h31 : 31 ≤ op) (h39 : op < 40) (hp : fs.length < 10) (hs1 : s < 32) (hk : k < 32) (hs : ∀ f ∈ fs, fS f < 32) (hcod : vw_codes g n) (hg : g.2.1 ≤ 16) (ho : g.2.2.1 < 32) (hh : g.2.2.2 < 100) (hq : q ≤ 30000) (hb : b ≤ 30001) (hw : w.2.1 ≤ e.length) (he : e.length ≤ 2001) (hlow : vw_low fs) (htk : vm_takes op ≤ t.length) (hgv : t.length - vm_takes op + vm_gives op ≤ 24) (hY : rm_Y S0 S g (n, e, b, ((c, a, q, s, k), (v, r), (l, o), t, w) :: fs, m) 0) : rx_C G MX11_greater (d + 3) [.ref 52, .int (nI op)] (gl C S) 0 0 (rq_on C S0 g (vm_do5 g (n, e, b, ((c, a, q, s, k), (v, r), (l, o), t, w) :: fs, m) op ((c, a, q, s, k), (v, r), (l, o), t, w) fs)) := by
  have hc6 : op = 31 ∨ op = 32 ∨ op = 33 ∨ op = 34 ∨ op = 35 ∨ op = 36 ∨ op = 37 ∨ op = 38 ∨ op = 39 := by omega
  rcases hc6 with rfl | rfl | rfl | rfl | rfl | rfl | rfl | rfl | rfl
  · obtain ⟨y, x, z, u, t', rfl⟩ := lst4 (t := t) (by simp [vm_takes] at htk; omega)
    exact cr_greater31 hG hp hs1 hs hcod hg ho hq hw he hlow hY
  · obtain ⟨y, x, z, t', rfl⟩ := lst3 (t := t) (by simp [vm_takes] at htk; omega)
    exact cr_greater32 hG hp hs1 hs hcod hg ho hq hw he hlow hY
  · obtain ⟨y, x, t', rfl⟩ := lst2 (t := t) (by simp [vm_takes] at htk; omega)
    exact cr_greater33 hG hp hs1 hs hcod hg ho hq hw he hlow hY
  · obtain ⟨y, t', rfl⟩ := lst1 (t := t) (by simp [vm_takes] at htk; omega)
    exact cr_greater34 hG hp hs1 hs hcod hg ho hq hw he hlow hY
  · obtain ⟨y, x, t', rfl⟩ := lst2 (t := t) (by simp [vm_takes] at htk; omega)
    exact cr_greater35 hG hp hs1 hs hcod hg ho hq hw he hlow hY
  · obtain ⟨y, t', rfl⟩ := lst1 (t := t) (by simp [vm_takes] at htk; omega)
    exact cr_greater36 hG hp hs1 hs hcod hg ho hq hw he hlow hY
  · obtain ⟨y, t', rfl⟩ := lst1 (t := t) (by simp [vm_takes] at htk; omega)
    exact cr_greater37 hG hp hs1 hs hcod hg ho hq hw he hlow hY
  · obtain ⟨y, t', rfl⟩ := lst1 (t := t) (by simp [vm_takes] at htk; omega)
    exact cr_greater38 hG hp hs1 hs hcod hg ho hq hw he hlow hY
  · exact cr_greater39 hG hp hs1 hs hcod hg ho hq hw he hlow hY
theorem va_end {g : vg_T} {n : Nat → Int64} {e : List (Nat × Int64 × Int64)} {b m c a q s k : Nat} {v r : Int64} {l o : Bool} {t : List Int64} {w : (Nat → Int64) × Nat × Nat} {fs : List vf_T} (h1 : (g.1 c).length ≤ a) : vm_act g (n, e, b, ((c, a, q, s, k), (v, r), (l, o), t, w) :: fs, m) = vm_end (n, e, b, ((c, a, q, s, k), (v, r), (l, o), t, w) :: fs, m) ((c, a, q, s, k), (v, r), (l, o), t, w) fs 1 0 := if_pos h1
theorem va_gas {g : vg_T} {n : Nat → Int64} {e : List (Nat × Int64 × Int64)} {b m c a q s k : Nat} {v r : Int64} {l o : Bool} {t : List Int64} {w : (Nat → Int64) × Nat × Nat} {fs : List vf_T} {op : Nat} (h1 : ¬ (g.1 c).length ≤ a) (hop : (g.1 c).getD a 0 = op) (h2 : q < vm_cost op) : vm_act g (n, e, b, ((c, a, q, s, k), (v, r), (l, o), t, w) :: fs, m) = vm_end (n, e, b, ((c, a, q, s, k), (v, r), (l, o), t, w) :: fs, m) ((c, a, q, s, k), (v, r), (l, o), t, w) fs 3 0 := by
  subst hop
  exact (if_neg h1).trans (if_pos h2)
theorem va_bad {g : vg_T} {n : Nat → Int64} {e : List (Nat × Int64 × Int64)} {b m c a q s k : Nat} {v r : Int64} {l o : Bool} {t : List Int64} {w : (Nat → Int64) × Nat × Nat} {fs : List vf_T} {op mo : Nat} (h1 : ¬ (g.1 c).length ≤ a) (hop : (g.1 c).getD a 0 = op) (hmo : (if 1 < vm_size op then (g.1 c).getD (a + 1) 0 else 0) = mo) (h2 : ¬ q < vm_cost op) (h3 : (t.length < vm_takes op ∨ 24 < t.length - vm_takes op + vm_gives op ∨ ((op = 4 ∨ op = 5) ∧ t.length ≤ mo) ∨ (l = true ∧ vm_bars op = true))) : vm_act g (n, e, b, ((c, a, q, s, k), (v, r), (l, o), t, w) :: fs, m) = vm_end (n, e, b, ((c, a, q, s, k), (v, r), (l, o), t, w) :: fs, m) ((c, a + vm_size op, q - vm_cost op, s, k), (v, r), (l, o), t, w) fs 3 0 := by
  subst hop; subst hmo
  exact (if_neg h1).trans ((if_neg h2).trans (if_pos h3))
theorem va_1 {g : vg_T} {n : Nat → Int64} {e : List (Nat × Int64 × Int64)} {b m c a q s k : Nat} {v r : Int64} {l o : Bool} {t : List Int64} {w : (Nat → Int64) × Nat × Nat} {fs : List vf_T} {op mo : Nat} (h1 : ¬ (g.1 c).length ≤ a) (hop : (g.1 c).getD a 0 = op) (hmo : (if 1 < vm_size op then (g.1 c).getD (a + 1) 0 else 0) = mo) (h2 : ¬ q < vm_cost op) (h3 : ¬ (t.length < vm_takes op ∨ 24 < t.length - vm_takes op + vm_gives op ∨ ((op = 4 ∨ op = 5) ∧ t.length ≤ mo) ∨ (l = true ∧ vm_bars op = true))) (q1 : op ≤ 5) : vm_act g (n, e, b, ((c, a, q, s, k), (v, r), (l, o), t, w) :: fs, m) = vm_do1 (g.1 c) (n, e, b, ((c, a, q, s, k), (v, r), (l, o), t, w) :: fs, m) op mo ((c, a + vm_size op, q - vm_cost op, s, k), (v, r), (l, o), t, w) fs := by
  subst hop; subst hmo
  exact (if_neg h1).trans ((if_neg h2).trans ((if_neg h3).trans (if_pos q1)))
theorem va_2 {g : vg_T} {n : Nat → Int64} {e : List (Nat × Int64 × Int64)} {b m c a q s k : Nat} {v r : Int64} {l o : Bool} {t : List Int64} {w : (Nat → Int64) × Nat × Nat} {fs : List vf_T} {op mo : Nat} (h1 : ¬ (g.1 c).length ≤ a) (hop : (g.1 c).getD a 0 = op) (hmo : (if 1 < vm_size op then (g.1 c).getD (a + 1) 0 else 0) = mo) (h2 : ¬ q < vm_cost op) (h3 : ¬ (t.length < vm_takes op ∨ 24 < t.length - vm_takes op + vm_gives op ∨ ((op = 4 ∨ op = 5) ∧ t.length ≤ mo) ∨ (l = true ∧ vm_bars op = true))) (q1 : ¬ op ≤ 5) (q2 : op ≤ 18) : vm_act g (n, e, b, ((c, a, q, s, k), (v, r), (l, o), t, w) :: fs, m) = vm_do2 (n, e, b, ((c, a, q, s, k), (v, r), (l, o), t, w) :: fs, m) op ((c, a + vm_size op, q - vm_cost op, s, k), (v, r), (l, o), t, w) fs := by
  subst hop; subst hmo
  exact (if_neg h1).trans ((if_neg h2).trans ((if_neg h3).trans ((if_neg q1).trans (if_pos q2))))
theorem va_3 {g : vg_T} {n : Nat → Int64} {e : List (Nat × Int64 × Int64)} {b m c a q s k : Nat} {v r : Int64} {l o : Bool} {t : List Int64} {w : (Nat → Int64) × Nat × Nat} {fs : List vf_T} {op mo : Nat} (h1 : ¬ (g.1 c).length ≤ a) (hop : (g.1 c).getD a 0 = op) (hmo : (if 1 < vm_size op then (g.1 c).getD (a + 1) 0 else 0) = mo) (h2 : ¬ q < vm_cost op) (h3 : ¬ (t.length < vm_takes op ∨ 24 < t.length - vm_takes op + vm_gives op ∨ ((op = 4 ∨ op = 5) ∧ t.length ≤ mo) ∨ (l = true ∧ vm_bars op = true))) (q1 : ¬ op ≤ 5) (q2 : ¬ op ≤ 18) (q3 : op ≤ 22) : vm_act g (n, e, b, ((c, a, q, s, k), (v, r), (l, o), t, w) :: fs, m) = vm_do3 (n, e, b, ((c, a, q, s, k), (v, r), (l, o), t, w) :: fs, m) op mo ((c, a + vm_size op, q - vm_cost op, s, k), (v, r), (l, o), t, w) fs := by
  subst hop; subst hmo
  exact (if_neg h1).trans ((if_neg h2).trans ((if_neg h3).trans ((if_neg q1).trans ((if_neg q2).trans (if_pos q3)))))
theorem va_4 {g : vg_T} {n : Nat → Int64} {e : List (Nat × Int64 × Int64)} {b m c a q s k : Nat} {v r : Int64} {l o : Bool} {t : List Int64} {w : (Nat → Int64) × Nat × Nat} {fs : List vf_T} {op mo : Nat} (h1 : ¬ (g.1 c).length ≤ a) (hop : (g.1 c).getD a 0 = op) (hmo : (if 1 < vm_size op then (g.1 c).getD (a + 1) 0 else 0) = mo) (h2 : ¬ q < vm_cost op) (h3 : ¬ (t.length < vm_takes op ∨ 24 < t.length - vm_takes op + vm_gives op ∨ ((op = 4 ∨ op = 5) ∧ t.length ≤ mo) ∨ (l = true ∧ vm_bars op = true))) (q1 : ¬ op ≤ 5) (q2 : ¬ op ≤ 18) (q3 : ¬ op ≤ 22) (q4 : op ≤ 30) : vm_act g (n, e, b, ((c, a, q, s, k), (v, r), (l, o), t, w) :: fs, m) = vm_do4 g (n, e, b, ((c, a, q, s, k), (v, r), (l, o), t, w) :: fs, m) op ((c, a + vm_size op, q - vm_cost op, s, k), (v, r), (l, o), t, w) fs := by
  subst hop; subst hmo
  exact (if_neg h1).trans ((if_neg h2).trans ((if_neg h3).trans ((if_neg q1).trans ((if_neg q2).trans ((if_neg q3).trans (if_pos q4))))))
theorem va_5 {g : vg_T} {n : Nat → Int64} {e : List (Nat × Int64 × Int64)} {b m c a q s k : Nat} {v r : Int64} {l o : Bool} {t : List Int64} {w : (Nat → Int64) × Nat × Nat} {fs : List vf_T} {op mo : Nat} (h1 : ¬ (g.1 c).length ≤ a) (hop : (g.1 c).getD a 0 = op) (hmo : (if 1 < vm_size op then (g.1 c).getD (a + 1) 0 else 0) = mo) (h2 : ¬ q < vm_cost op) (h3 : ¬ (t.length < vm_takes op ∨ 24 < t.length - vm_takes op + vm_gives op ∨ ((op = 4 ∨ op = 5) ∧ t.length ≤ mo) ∨ (l = true ∧ vm_bars op = true))) (q1 : ¬ op ≤ 5) (q2 : ¬ op ≤ 18) (q3 : ¬ op ≤ 22) (q4 : ¬ op ≤ 30) : vm_act g (n, e, b, ((c, a, q, s, k), (v, r), (l, o), t, w) :: fs, m) = vm_do5 g (n, e, b, ((c, a, q, s, k), (v, r), (l, o), t, w) :: fs, m) op ((c, a + vm_size op, q - vm_cost op, s, k), (v, r), (l, o), t, w) fs := by
  subst hop; subst hmo
  exact (if_neg h1).trans ((if_neg h2).trans ((if_neg h3).trans ((if_neg q1).trans ((if_neg q2).trans ((if_neg q3).trans (if_neg q4))))))

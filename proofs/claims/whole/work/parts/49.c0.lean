/-! THE CLASS'S CELLS: frames at 13 + 3 p, and what came later, at 102 and on -/
theorem gkF_all : ∀ p, p < 10 → (gk_m (13 + 3 * p) = false ∧ gk_f (13 + 3 * p) = true ∧ gk_K (13 + 3 * p) = (6, 15)) ∧ (gk_R (13 + 3 * p) 0 = some (14 + 3 * p) ∧ gk_R (13 + 3 * p) 1 = some (15 + 3 * p) ∧ gk_R (13 + 3 * p) 5 = none ∧ gk_R 12 p = some (13 + 3 * p)) ∧ (gk_m (14 + 3 * p) = false ∧ gk_f (14 + 3 * p) = true ∧ gk_K (14 + 3 * p) = (14, 24)) ∧ (gk_m (15 + 3 * p) = false ∧ gk_f (15 + 3 * p) = true ∧ gk_K (15 + 3 * p) = (14, 1024)) := by decide
theorem gkF_m {p : Nat} (h : p < 10) : gk_m (13 + 3 * p) = false := (gkF_all p h).1.1
theorem gkF_f {p : Nat} (h : p < 10) : gk_f (13 + 3 * p) = true := (gkF_all p h).1.2.1
theorem gkF_k {p : Nat} (h : p < 10) : (gk_K (13 + 3 * p)).1 = 6 := by rw [(gkF_all p h).1.2.2]
theorem gkF_r0 {p : Nat} (h : p < 10) : gk_R (13 + 3 * p) 0 = some (14 + 3 * p) := (gkF_all p h).2.1.1
theorem gkF_r1 {p : Nat} (h : p < 10) : gk_R (13 + 3 * p) 1 = some (15 + 3 * p) := (gkF_all p h).2.1.2.1
theorem gkF_r5 {p : Nat} (h : p < 10) : gk_R (13 + 3 * p) 5 = none := (gkF_all p h).2.1.2.2.1
theorem gkF_12 {p : Nat} (h : p < 10) : gk_R 12 p = some (13 + 3 * p) := (gkF_all p h).2.1.2.2.2
theorem gkT_m {p : Nat} (h : p < 10) : gk_m (14 + 3 * p) = false := (gkF_all p h).2.2.1.1
theorem gkT_f {p : Nat} (h : p < 10) : gk_f (14 + 3 * p) = true := (gkF_all p h).2.2.1.2.1
theorem gkT_k {p : Nat} (h : p < 10) : gk_K (14 + 3 * p) = (14, 24) := (gkF_all p h).2.2.1.2.2
theorem gkL_m {p : Nat} (h : p < 10) : gk_m (15 + 3 * p) = false := (gkF_all p h).2.2.2.1
theorem gkL_f {p : Nat} (h : p < 10) : gk_f (15 + 3 * p) = true := (gkF_all p h).2.2.2.2.1
theorem gkL_k {p : Nat} (h : p < 10) : gk_K (15 + 3 * p) = (14, 1024) := (gkF_all p h).2.2.2.2.2
theorem gkX_m {a : Nat} (h : 102 ≤ a) : gk_m a = false := by
  have h2 : Nat.blt a 101 = false := by
    cases hb : Nat.blt a 101 with
    | false => rfl
    | true => have := Nat.le_of_ble_eq_true hb; omega
  unfold gk_m; rw [h2, Bool.and_false]
theorem gkX_f {a : Nat} (h : 102 ≤ a) : gk_f a = false := by
  unfold gk_f
  cases hb : Nat.blt a 102 with
  | false => rfl
  | true => have := Nat.le_of_ble_eq_true hb; omega
theorem gkX_R {a k : Nat} (h : 102 ≤ a) : gk_R a k = none := by
  unfold gk_R
  have e1 : gk_Rl.getD a [] = [] := by rw [List.getD_eq_getElem?_getD, List.getElem?_eq_none (show gk_Rl.length ≤ a from Nat.le_trans (by decide) h)]; rfl
  rw [e1]; rfl
theorem gx_n {C : rx_M} {S : gs_T} {a : Nat} (h : a < 102 + C.2.2.2.2) : a < (gl C S).2.2.2.2 := h
theorem gx_k {C : rx_M} {S : gs_T} {a : Nat} (h : 102 ≤ a) : (gl C S).2.2.2.1 a = C.2.2.2.1 a := by
  show (bif gk_f a then gk_K a else C.2.2.2.1 a) = _
  rw [gkX_f h]; rfl
theorem gd_r {C : rx_M} {S : gs_T} {a k : Nat} (h : gk_R a k = none) : (gl C S).2.2.1 a k = C.2.2.1 a k := by
  show (gk_R a k).elim (C.2.2.1 a k) some = _
  rw [h]; rfl
theorem gl_uR {C : rx_M} {S : gs_T} {a k : Nat} (h : gk_R a k = none) (r : Option Nat) : ((gl C S).1, (gl C S).2.1, rx_u (gl C S).2.2.1 a k r, (gl C S).2.2.2) = gl (C.1, C.2.1, rx_u C.2.2.1 a k r, C.2.2.2) S := by
  refine Prod.ext rfl (Prod.ext rfl (Prod.ext (funext fun b => funext fun j => ?_) rfl))
  show rx_u (gl C S).2.2.1 a k r b j = (gk_R b j).elim (rx_u C.2.2.1 a k r b j) some
  rw [rx_ru, rx_ru]
  by_cases hb : b = a
  · subst hb
    rw [if_pos rfl, if_pos rfl]
    by_cases hj : j = k
    · subst hj
      rw [if_pos rfl, if_pos rfl, h]; rfl
    · rw [if_neg hj, if_neg hj]; rfl
  · rw [if_neg hb, if_neg hb]; rfl
theorem gl_kL {C : rx_M} {S : gs_T} {a : Nat} (h : gk_m a = false) (f : Nat → Int64) : ((gl C S).1, rx_k1 (gl C S).2.1 a f, (gl C S).2.2) = gl (C.1, rx_k1 C.2.1 a f, C.2.2) S := by
  refine Prod.ext rfl (Prod.ext (funext fun b => ?_) rfl)
  show rx_k1 (gl C S).2.1 a f b = (bif gk_m b then S.2 b else rx_k1 C.2.1 a f b)
  unfold rx_k1
  by_cases hb : b = a
  · subst hb
    rw [if_pos rfl, if_pos rfl, h]; rfl
  · rw [if_neg hb, if_neg hb]; rfl
section GX
variable {G : rx_E} {M : rx_Me} {d pc mc ms : Nat} {lv : List (Nat × Value)} {st : List Value} {C : rx_M} {S : gs_T} {Q : Option Value → rx_M → Prop} {Z : String → rx_M → Prop}
/-- an element of a row of references that never changes, and of one that does -/
theorem g_aald {a j n t r : Nat} {i : Int32} (hG : rx_OK G) (hd : decode M.2.1 pc = .ok (.aaload, 1)) (hf : gk_f a = true) (hk : gk_K a = (t, n)) (ht : 16 ≤ t ∧ t < 20) (hi : i = nI j) (hj : j < n) (hN : n < 2147483648) (hr : gk_R a j = some r) (kk : rx_W G M d (pc + 1) lv (.ref r :: st) (gl C S) mc ms Q Z) : rx_W G M d pc lv (.int i :: .ref a :: st) (gl C S) mc ms Q Z :=
  rx_aald hG hd (gl_n hf) (gl_k hf hk) ht hi hj hN (gl_r hr) kk
theorem gd_aald {a j n t r : Nat} {i : Int32} (hG : rx_OK G) (hd : decode M.2.1 pc = .ok (.aaload, 1)) (hf : gk_f a = true) (hk : gk_K a = (t, n)) (ht : 16 ≤ t ∧ t < 20) (hi : i = nI j) (hj : j < n) (hN : n < 2147483648) (h0 : gk_R a j = none) (hr : C.2.2.1 a j = some r) (kk : rx_W G M d (pc + 1) lv (.ref r :: st) (gl C S) mc ms Q Z) : rx_W G M d pc lv (.int i :: .ref a :: st) (gl C S) mc ms Q Z :=
  rx_aald hG hd (gl_n hf) (gl_k hf hk) ht hi hj hN ((gd_r h0).trans hr) kk
theorem gd_getR {a idx ci k r : Nat} {ty : FieldType} (hG : rx_OK G) (hF : rx_Fd M.1.cls idx ci k ty) (ht : rx_tc ty = 2) (hd : decode M.2.1 pc = .ok (.getfield idx, 3)) (hf : gk_f a = true) (hk : (gk_K a).1 = ci) (h0 : gk_R a k = none) (hr : C.2.2.1 a k = some r) (kk : rx_W G M d (pc + 3) lv (.ref r :: st) (gl C S) mc ms Q Z) : rx_W G M d pc lv (.ref a :: st) (gl C S) mc ms Q Z :=
  rx_getR hG hF ht hd (gl_n hf) ((congrArg Prod.fst (gl_k hf rfl)).trans hk) ((gd_r h0).trans hr) kk
theorem gc_putR {a idx ci k r : Nat} {ty : FieldType} (hG : rx_OK G) (hF : rx_Fd M.1.cls idx ci k ty) (hw : rx_Wr M idx ci k) (ht : ∃ t, ty = .array t ∨ ∃ c, ty = .object c) (hd : decode M.2.1 pc = .ok (.putfield idx, 3)) (hf : gk_f a = true) (hk : (gk_K a).1 = ci) (h0 : gk_R a k = none) (kk : rx_W G M d (pc + 3) lv st (gl (C.1, C.2.1, rx_u C.2.2.1 a k (some r), C.2.2.2) S) mc ms Q Z) : rx_W G M d pc lv (.ref r :: .ref a :: st) (gl C S) mc ms Q Z :=
  rx_putR hG hF hw ht hd (gl_n hf) ((congrArg Prod.fst (gl_k hf rfl)).trans hk) (by rw [gl_uR h0]; exact kk)
/-- cells that came later -/
theorem gx_getR {a idx ci k r : Nat} {ty : FieldType} (hG : rx_OK G) (hF : rx_Fd M.1.cls idx ci k ty) (ht : rx_tc ty = 2) (hd : decode M.2.1 pc = .ok (.getfield idx, 3)) (ha : 102 ≤ a ∧ a < 102 + C.2.2.2.2) (hk : (C.2.2.2.1 a).1 = ci) (hr : C.2.2.1 a k = some r) (kk : rx_W G M d (pc + 3) lv (.ref r :: st) (gl C S) mc ms Q Z) : rx_W G M d pc lv (.ref a :: st) (gl C S) mc ms Q Z :=
  rx_getR hG hF ht hd (gx_n ha.2) (by rw [gx_k ha.1]; exact hk) ((gd_r (gkX_R ha.1)).trans hr) kk
theorem gx_getI {a idx ci k : Nat} {ty : FieldType} {v : Int32} (hG : rx_OK G) (hF : rx_Fd M.1.cls idx ci k ty) (ht : rx_tc ty = 0) (hd : decode M.2.1 pc = .ok (.getfield idx, 3)) (ha : 102 ≤ a ∧ a < 102 + C.2.2.2.2) (hk : (C.2.2.2.1 a).1 = ci) (hv : C.1 a k = v) (kk : rx_W G M d (pc + 3) lv (.int v :: st) (gl C S) mc ms Q Z) : rx_W G M d pc lv (.ref a :: st) (gl C S) mc ms Q Z :=
  rx_getI hG hF ht hd (gx_n ha.2) (by rw [gx_k ha.1]; exact hk) (by rw [gl_IC (gkX_m ha.1), hv]; exact kk)
theorem gx_getL {a idx ci k : Nat} {ty : FieldType} {v : Int64} (hG : rx_OK G) (hF : rx_Fd M.1.cls idx ci k ty) (ht : rx_tc ty = 1) (hd : decode M.2.1 pc = .ok (.getfield idx, 3)) (ha : 102 ≤ a ∧ a < 102 + C.2.2.2.2) (hk : (C.2.2.2.1 a).1 = ci) (hv : C.2.1 a k = v) (kk : rx_W G M d (pc + 3) lv (.long v :: st) (gl C S) mc ms Q Z) : rx_W G M d pc lv (.ref a :: st) (gl C S) mc ms Q Z :=
  rx_getL hG hF ht hd (gx_n ha.2) (by rw [gx_k ha.1]; exact hk) (by rw [gl_LC (gkX_m ha.1), hv]; exact kk)
theorem gx_alen {a n t : Nat} (hG : rx_OK G) (hd : decode M.2.1 pc = .ok (.arraylength, 1)) (ha : 102 ≤ a ∧ a < 102 + C.2.2.2.2) (hk : C.2.2.2.1 a = (t, n)) (ht : 12 ≤ t ∧ t < 16) (kk : rx_W G M d (pc + 1) lv (.int (nI n) :: st) (gl C S) mc ms Q Z) : rx_W G M d pc lv (.ref a :: st) (gl C S) mc ms Q Z :=
  rx_alen hG hd (gx_n ha.2) (by rw [gx_k ha.1]; exact hk) ht rfl kk
theorem gx_bald {a j n : Nat} {i v : Int32} (hG : rx_OK G) (hd : decode M.2.1 pc = .ok (.baload, 1)) (ha : 102 ≤ a ∧ a < 102 + C.2.2.2.2) (hk : C.2.2.2.1 a = (12, n)) (hi : i = nI j) (hj : j < n) (hN : n < 2147483648) (hv : C.1 a j = v) (kk : rx_W G M d (pc + 1) lv (.int v :: st) (gl C S) mc ms Q Z) : rx_W G M d pc lv (.int i :: .ref a :: st) (gl C S) mc ms Q Z :=
  rx_bald hG hd (gx_n ha.2) (by rw [gx_k ha.1]; exact hk) hi hj hN (by rw [gl_IC (gkX_m ha.1), hv]; exact kk)
theorem gx_lald {a j n : Nat} {i : Int32} {v : Int64} (hG : rx_OK G) (hd : decode M.2.1 pc = .ok (.laload, 1)) (ha : 102 ≤ a ∧ a < 102 + C.2.2.2.2) (hk : C.2.2.2.1 a = (14, n)) (hi : i = nI j) (hj : j < n) (hN : n < 2147483648) (hv : C.2.1 a j = v) (kk : rx_W G M d (pc + 1) lv (.long v :: st) (gl C S) mc ms Q Z) : rx_W G M d pc lv (.int i :: .ref a :: st) (gl C S) mc ms Q Z :=
  rx_lald hG hd (gx_n ha.2) (by rw [gx_k ha.1]; exact hk) hi hj hN (by rw [gl_LC (gkX_m ha.1), hv]; exact kk)
/-- a call on such a cell -/
theorem gx_invV {N : rx_Me} {idx n a ci : Nat} {as : List Value} {Q' : Option Value → rx_M → Prop} (hG : rx_OK G) (hN : rx_Me_ok N n) (hL : rx_LkV M.1.cls idx N ci) (ha : 102 ≤ a ∧ a < 102 + C.2.2.2.2) (hk : (C.2.2.2.1 a).1 = ci) (hd : decode M.2.1 pc = .ok (.invokevirtual idx, 3)) (hn : as.length = n) (h8 : (st.map fun v => v.category).sum ≤ 8) (hc : rx_C G N d (.ref a :: as) (gl C S) 0 0 Q') (kk : ∀ v mu', Q' v mu' → rx_W G M (d + 1) (pc + 3) lv (v.toList ++ st) mu' mc ms Q Z) : rx_W G M (d + 1) pc lv (as.reverse ++ .ref a :: st) (gl C S) mc ms Q Z :=
  rx_invV0 hG hN hL (gx_n ha.2) (by rw [gx_k ha.1]; exact hk) hd hn h8 hc kk
end GX

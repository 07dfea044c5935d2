theorem rx_arrJ {G : rx_E} {mu : rx_M} {vm : Vm} {H : Heap} {a n : Nat} (h : rx_In G mu vm H) (hn : a < mu.2.2.2.2) (hk : mu.2.2.2.1 a = (14, n)) : H[rx_B G + a]? = some (vp_cell (G.2.2.2.1 14) (n, .inr (.inl (mu.2.1 a)))) := by
  have h1 := h.2.1.2 a hn (by rw [hk]; show 14 < 20; decide)
  unfold rx_ent at h1
  rw [hk, if_neg (show ¬ 14 < 12 by decide), if_pos rfl] at h1
  exact h1
theorem rx_arrI {G : rx_E} {mu : rx_M} {vm : Vm} {H : Heap} {a n t : Nat} (h : rx_In G mu vm H) (hn : a < mu.2.2.2.2) (hk : mu.2.2.2.1 a = (t, n)) (ht : t = 12 ∨ t = 13 ∨ t = 15) : H[rx_B G + a]? = some (vp_cell (G.2.2.2.1 t) (n, .inl (mu.1 a))) := by
  have h1 := h.2.1.2 a hn (by rw [hk]; show t < 20; omega)
  unfold rx_ent at h1
  rw [hk, if_neg (show ¬ t < 12 by omega), if_neg (show ¬ t = 14 by omega), if_pos (show t < 16 by omega)] at h1
  exact h1
theorem rx_arrR {G : rx_E} {mu : rx_M} {vm : Vm} {H : Heap} {a n t : Nat} (h : rx_In G mu vm H) (hn : a < mu.2.2.2.2) (hk : mu.2.2.2.1 a = (t, n)) (ht : 16 ≤ t ∧ t < 20) : H[rx_B G + a]? = some (vp_cell (G.2.2.2.1 t) (n, .inr (.inr (.inr (.inr (fun j => (mu.2.2.1 a j).map (rx_B G + ·))))))) := by
  have h1 := h.2.1.2 a hn (by rw [hk]; show t < 20; omega)
  unfold rx_ent at h1
  rw [hk, if_neg (show ¬ t < 12 by omega), if_neg (show ¬ t = 14 by omega), if_neg (show ¬ t < 16 by omega)] at h1
  exact h1
theorem rx_aty {G : rx_E} {s : State} (hG : rx_OK G) (hW : G.2.1.WarmedH s.vm) (t0 : Nat) {q : ClassId × FieldType} (h : (rx_tys G)[t0]? = some q) : ArrOfT s q.1 q.2 ∧ va_RA s q.1 q.2 := (rx_K hG hW).2 t0 q h
section RXA
variable {G : rx_E} {M : rx_Me} {d pc mc ms : Nat} {lv : List (Nat × Value)} {st : List Value} {mu : rx_M} {Q : Option Value → rx_M → Prop} {Z : String → rx_M → Prop}
theorem rx_iald {a j n : Nat} {i : Int32} (hG : rx_OK G) (hd : decode M.2.1 pc = .ok (.iaload, 1)) (hn : a < mu.2.2.2.2) (hk : mu.2.2.2.1 a = (13, n)) (hi : i = nI j) (hj : j < n) (hN : n < 2147483648)
    (kk : rx_W G M d (pc + 1) lv (.int (mu.1 a j) :: st) mu mc ms Q Z) : rx_W G M d pc lv (.int i :: .ref a :: st) mu mc ms Q Z := by
  intro p e R s m args below meth c H locs cells slots MC MS ls C h1 h2 h3 h4 h5
  subst hi
  have hcl : (nI j).toNatClampNeg = j := nI_clamp (by omega)
  have hin := vp_in_nI hj hN
  refine W.iald (v := .int (mu.1 a j)) C.1 C.2.1 (rx_arrI h2 hn hk (by omega)) ((rx_aty hG C.2.2.2.2.2.2.2.1 1 rfl).1 n (fun j => .int (mu.1 a j))) (fun q => by cases q) (by show ¬ (nI j < 0 ∨ (arrV _ _ _).slots.size ≤ _); rw [arrV_size]; exact hin) (by show (arrV _ _ _).slots[_]? = _; rw [hcl, arrV_read _ _ hj]) rfl rfl hd ?_
  exact kk p e R s m args below meth c H locs cells slots MC MS ls C h1 h2 h3 h4 h5
theorem rx_bald {a j n : Nat} {i : Int32} (hG : rx_OK G) (hd : decode M.2.1 pc = .ok (.baload, 1)) (hn : a < mu.2.2.2.2) (hk : mu.2.2.2.1 a = (12, n)) (hi : i = nI j) (hj : j < n) (hN : n < 2147483648)
    (kk : rx_W G M d (pc + 1) lv (.int (mu.1 a j) :: st) mu mc ms Q Z) : rx_W G M d pc lv (.int i :: .ref a :: st) mu mc ms Q Z := by
  intro p e R s m args below meth c H locs cells slots MC MS ls C h1 h2 h3 h4 h5
  subst hi
  have hcl : (nI j).toNatClampNeg = j := nI_clamp (by omega)
  have hin := vp_in_nI hj hN
  refine W.bald (v := .int (mu.1 a j)) C.1 C.2.1 (rx_arrI h2 hn hk (by omega)) ((rx_aty hG C.2.2.2.2.2.2.2.1 0 rfl).1 n (fun j => .int (mu.1 a j))) (fun q => by cases q) (by show ¬ (nI j < 0 ∨ (arrV _ _ _).slots.size ≤ _); rw [arrV_size]; exact hin) (by show (arrV _ _ _).slots[_]? = _; rw [hcl, arrV_read _ _ hj]) rfl rfl hd ?_
  exact kk p e R s m args below meth c H locs cells slots MC MS ls C h1 h2 h3 h4 h5
theorem rx_zald {a j n : Nat} {i : Int32} (hG : rx_OK G) (hd : decode M.2.1 pc = .ok (.baload, 1)) (hn : a < mu.2.2.2.2) (hk : mu.2.2.2.1 a = (15, n)) (hi : i = nI j) (hj : j < n) (hN : n < 2147483648)
    (kk : rx_W G M d (pc + 1) lv (.int (mu.1 a j) :: st) mu mc ms Q Z) : rx_W G M d pc lv (.int i :: .ref a :: st) mu mc ms Q Z := by
  intro p e R s m args below meth c H locs cells slots MC MS ls C h1 h2 h3 h4 h5
  subst hi
  have hcl : (nI j).toNatClampNeg = j := nI_clamp (by omega)
  have hin := vp_in_nI hj hN
  refine W.zald (v := .int (mu.1 a j)) C.1 C.2.1 (rx_arrI h2 hn hk (by omega)) ((rx_aty hG C.2.2.2.2.2.2.2.1 3 rfl).1 n (fun j => .int (mu.1 a j))) (fun q => by cases q) (by show ¬ (nI j < 0 ∨ (arrV _ _ _).slots.size ≤ _); rw [arrV_size]; exact hin) (by show (arrV _ _ _).slots[_]? = _; rw [hcl, arrV_read _ _ hj]) rfl rfl hd ?_
  exact kk p e R s m args below meth c H locs cells slots MC MS ls C h1 h2 h3 h4 h5
theorem rx_lald {a j n : Nat} {i : Int32} (hG : rx_OK G) (hd : decode M.2.1 pc = .ok (.laload, 1)) (hn : a < mu.2.2.2.2) (hk : mu.2.2.2.1 a = (14, n)) (hi : i = nI j) (hj : j < n) (hN : n < 2147483648)
    (kk : rx_W G M d (pc + 1) lv (.long (mu.2.1 a j) :: st) mu mc ms Q Z) : rx_W G M d pc lv (.int i :: .ref a :: st) mu mc ms Q Z := by
  intro p e R s m args below meth c H locs cells slots MC MS ls C h1 h2 h3 h4 h5
  subst hi
  have hcl : (nI j).toNatClampNeg = j := nI_clamp (by omega)
  have hin := vp_in_nI hj hN
  refine W.lald (v := .long (mu.2.1 a j)) C.1 C.2.1 (rx_arrJ h2 hn hk) ((rx_aty hG C.2.2.2.2.2.2.2.1 2 rfl).1 n (fun j => .long (mu.2.1 a j))) (fun q => by cases q) (by show ¬ (nI j < 0 ∨ (arrV _ _ _).slots.size ≤ _); rw [arrV_size]; exact hin) (by show (arrV _ _ _).slots[_]? = _; rw [hcl, arrV_read _ _ hj]) rfl rfl hd ?_
  exact kk p e R s m args below meth c H locs cells slots MC MS ls C h1 h2 h3 h4 h5
/-- the element class of a row of references -/
def rx_el : Nat → String
  | 16 => RX0 | 17 => RX2 | 18 => RX6 | _ => RX8
def rx_eli : Nat → Nat
  | 16 => 0 | 17 => 2 | 18 => 6 | _ => 8
theorem rx_tysR {G : rx_E} {t : Nat} (ht : 16 ≤ t ∧ t < 20) : (rx_tys G)[t - 12]? = some (G.2.2.2.1 t, .object (rx_el t)) := by
  have : t = 16 ∨ t = 17 ∨ t = 18 ∨ t = 19 := by omega
  rcases this with rfl | rfl | rfl | rfl <;> rfl
theorem rx_aald {a j n t : Nat} {i : Int32} (hG : rx_OK G) (hd : decode M.2.1 pc = .ok (.aaload, 1)) (hn : a < mu.2.2.2.2) (hk : mu.2.2.2.1 a = (t, n)) (ht : 16 ≤ t ∧ t < 20) (hi : i = nI j) (hj : j < n) (hN : n < 2147483648) {r : Nat} (hr : mu.2.2.1 a j = some r)
    (kk : rx_W G M d (pc + 1) lv (.ref r :: st) mu mc ms Q Z) : rx_W G M d pc lv (.int i :: .ref a :: st) mu mc ms Q Z := by
  intro p e R s m args below meth c H locs cells slots MC MS ls C h1 h2 h3 h4 h5
  subst hi
  have hcl : (nI j).toNatClampNeg = j := nI_clamp (by omega)
  have hin := vp_in_nI hj hN
  refine W.aald (v := .ref (rx_B G + r)) (ty := .object (rx_el t)) C.1 C.2.1 (rx_arrR h2 hn hk ht) ((rx_aty hG C.2.2.2.2.2.2.2.1 (t - 12) (rx_tysR ht)).1 n (fun j => va_rf ((mu.2.2.1 a j).map (rx_B G + ·)))) rfl (fun q => by cases q) (by show ¬ (nI j < 0 ∨ (arrV _ _ _).slots.size ≤ _); rw [arrV_size]; exact hin) (by show (arrV _ _ _).slots[_]? = _; rw [hcl, arrV_read _ _ hj]; show some (va_rf ((mu.2.2.1 a j).map (rx_B G + ·))) = _; rw [hr]; rfl) rfl rfl hd ?_
  exact kk p e R s m args below meth c H locs cells slots MC MS ls C h1 h2 h3 h4 h5
theorem rx_alen {a n t : Nat} {x : Int32} (hG : rx_OK G) (hd : decode M.2.1 pc = .ok (.arraylength, 1)) (hn : a < mu.2.2.2.2) (hk : mu.2.2.2.1 a = (t, n)) (ht : 12 ≤ t ∧ t < 16) (hx : nI n = x)
    (kk : rx_W G M d (pc + 1) lv (.int x :: st) mu mc ms Q Z) : rx_W G M d pc lv (.ref a :: st) mu mc ms Q Z := by
  intro p e R s m args below meth c H locs cells slots MC MS ls C h1 h2 h3 h4 h5
  have kk' := kk p e R s m args below meth c H locs cells slots MC MS ls C h1 h2 h3 h4 h5
  have hsz : ∀ (cA : ClassId) (f : Nat → Value), (arrV cA n f).slots.size.toInt32 = x := fun cA f => by rw [arrV_size]; exact hx
  have : t = 14 ∨ (t = 12 ∨ t = 13 ∨ t = 15) := by omega
  rcases this with rfl | h
  · exact W.alen (ty := .long) C.1 C.2.1 (rx_arrJ h2 hn hk) ((rx_aty hG C.2.2.2.2.2.2.2.1 2 rfl).1 n (fun j => .long (mu.2.1 a j))) (hsz _ _) rfl rfl hd kk'
  · have hA := rx_arrI h2 hn hk h
    rcases h with rfl | rfl | rfl
    · exact W.alen (ty := .byte) C.1 C.2.1 hA ((rx_aty hG C.2.2.2.2.2.2.2.1 0 rfl).1 n (fun j => .int (mu.1 a j))) (hsz _ _) rfl rfl hd kk'
    · exact W.alen (ty := .int) C.1 C.2.1 hA ((rx_aty hG C.2.2.2.2.2.2.2.1 1 rfl).1 n (fun j => .int (mu.1 a j))) (hsz _ _) rfl rfl hd kk'
    · exact W.alen (ty := .boolean) C.1 C.2.1 hA ((rx_aty hG C.2.2.2.2.2.2.2.1 3 rfl).1 n (fun j => .int (mu.1 a j))) (hsz _ _) rfl rfl hd kk'
theorem rx_locs {locs : List Loc} {a i : Nat} (h4 : ∀ q ∈ locs, rx_B G ≤ q.base) : ∀ q ∈ locs ++ [(⟨rx_B G + a, i⟩ : Loc)], rx_B G ≤ q.base := by
  intro q hq
  rcases List.mem_append.mp hq with h | h
  · exact h4 q h
  · rw [List.mem_singleton.mp h]
    exact Nat.le_add_right _ _
theorem rx_last {a j n : Nat} {i : Int32} {x : Int64} (hG : rx_OK G) (hd : decode M.2.1 pc = .ok (.lastore, 1)) (hn : a < mu.2.2.2.2) (hk : mu.2.2.2.1 a = (14, n)) (hi : i = nI j) (hj : j < n) (hN : n < 2147483648)
    (kk : rx_W G M d (pc + 1) lv st (mu.1, rx_u mu.2.1 a j x, mu.2.2) mc ms Q Z) : rx_W G M d pc lv (.long x :: .int i :: .ref a :: st) mu mc ms Q Z := by
  intro p e R s m args below meth c H locs cells slots MC MS ls C h1 h2 h3 h4 h5
  subst hi
  have hcl : (nI j).toNatClampNeg = j := nI_clamp (by omega)
  have hin := vp_in_nI hj hN
  refine W.last C.1 C.2.1 (rx_arrJ h2 hn hk) ((rx_aty hG C.2.2.2.2.2.2.2.1 2 rfl).1 n (fun j => .long (mu.2.1 a j))) (fun q => by cases q) (by show ¬ (nI j < 0 ∨ (arrV _ _ _).slots.size ≤ _); rw [arrV_size]; exact hin) rfl rfl hd fun H1 e1 e2 e3 => ?_
  rw [hcl] at e1 ⊢
  refine kk p e R s m args below meth c H1 _ cells slots MC MS ls C h1 (rx_In_set (a := a) h2 e2 e3 rfl (fun b hb => ⟨rfl, rx_u_ne _ _ _ hb, rfl⟩) ?_) (by rw [e2]; exact h3) (rx_locs h4) h5
  unfold rx_ent
  simp only [hk]
  rw [if_neg (by decide), if_pos trivial]
  show H1[rx_B G + a]? = _
  rw [e1, vp_cell_l, vp_cell_l, arrV_store, rx_u_self]
  refine congrArg some (congrArg (arrV _ _) (funext fun b => ?_))
  by_cases hb : b = j <;> simp [updV, hb]
theorem rx_iast {a j n : Nat} {i x : Int32} (hG : rx_OK G) (hd : decode M.2.1 pc = .ok (.iastore, 1)) (hn : a < mu.2.2.2.2) (hk : mu.2.2.2.1 a = (13, n)) (hi : i = nI j) (hj : j < n) (hN : n < 2147483648)
    (kk : rx_W G M d (pc + 1) lv st (rx_u mu.1 a j x, mu.2) mc ms Q Z) : rx_W G M d pc lv (.int x :: .int i :: .ref a :: st) mu mc ms Q Z := by
  intro p e R s m args below meth c H locs cells slots MC MS ls C h1 h2 h3 h4 h5
  subst hi
  have hcl : (nI j).toNatClampNeg = j := nI_clamp (by omega)
  have hin := vp_in_nI hj hN
  refine W.iast C.1 C.2.1 (rx_arrI h2 hn hk (by omega)) ((rx_aty hG C.2.2.2.2.2.2.2.1 1 rfl).1 n (fun j => .int (mu.1 a j))) (fun q => by cases q) (by show ¬ (nI j < 0 ∨ (arrV _ _ _).slots.size ≤ _); rw [arrV_size]; exact hin) rfl rfl hd fun H1 e1 e2 e3 => ?_
  rw [hcl] at e1 ⊢
  refine kk p e R s m args below meth c H1 _ cells slots MC MS ls C h1 (rx_In_set (a := a) h2 e2 e3 rfl (fun b hb => ⟨rx_u_ne _ _ _ hb, rfl, rfl⟩) ?_) (by rw [e2]; exact h3) (rx_locs h4) h5
  unfold rx_ent
  simp only [hk]
  rw [if_neg (by decide), if_neg (by decide), if_pos (by decide)]
  show H1[rx_B G + a]? = _
  rw [e1, vp_cell_i, vp_cell_i, arrV_store, rx_u_self]
  refine congrArg some (congrArg (arrV _ _) (funext fun b => ?_))
  by_cases hb : b = j <;> simp [updV, hb]
theorem rx_bast {a j n : Nat} {i x : Int32} (hG : rx_OK G) (hd : decode M.2.1 pc = .ok (.bastore, 1)) (hn : a < mu.2.2.2.2) (hk : mu.2.2.2.1 a = (12, n)) (hi : i = nI j) (hj : j < n) (hN : n < 2147483648)
    (kk : rx_W G M d (pc + 1) lv st (rx_u mu.1 a j (x.toInt8.toInt32), mu.2) mc ms Q Z) : rx_W G M d pc lv (.int x :: .int i :: .ref a :: st) mu mc ms Q Z := by
  intro p e R s m args below meth c H locs cells slots MC MS ls C h1 h2 h3 h4 h5
  subst hi
  have hcl : (nI j).toNatClampNeg = j := nI_clamp (by omega)
  have hin := vp_in_nI hj hN
  refine W.bast C.1 C.2.1 (rx_arrI h2 hn hk (by omega)) ((rx_aty hG C.2.2.2.2.2.2.2.1 0 rfl).1 n (fun j => .int (mu.1 a j))) (fun q => by cases q) (by show ¬ (nI j < 0 ∨ (arrV _ _ _).slots.size ≤ _); rw [arrV_size]; exact hin) rfl rfl hd fun H1 e1 e2 e3 => ?_
  rw [hcl] at e1 ⊢
  rw [show narrow .byte (.int x) = .int x.toInt8.toInt32 from rfl] at e1
  refine kk p e R s m args below meth c H1 _ cells slots MC MS ls C h1 (rx_In_set (a := a) h2 e2 e3 rfl (fun b hb => ⟨rx_u_ne _ _ _ hb, rfl, rfl⟩) ?_) (by rw [e2]; exact h3) (rx_locs h4) h5
  unfold rx_ent
  simp only [hk]
  rw [if_neg (by decide), if_neg (by decide), if_pos (by decide)]
  show H1[rx_B G + a]? = _
  rw [e1, vp_cell_i, vp_cell_i, arrV_store, rx_u_self]
  refine congrArg some (congrArg (arrV _ _) (funext fun b => ?_))
  by_cases hb : b = j <;> simp [updV, hb]
theorem rx_zast {a j n : Nat} {i x : Int32} (hG : rx_OK G) (hd : decode M.2.1 pc = .ok (.bastore, 1)) (hn : a < mu.2.2.2.2) (hk : mu.2.2.2.1 a = (15, n)) (hi : i = nI j) (hj : j < n) (hN : n < 2147483648) (hx : narrow .boolean (.int x) = .int x)
    (kk : rx_W G M d (pc + 1) lv st (rx_u mu.1 a j x, mu.2) mc ms Q Z) : rx_W G M d pc lv (.int x :: .int i :: .ref a :: st) mu mc ms Q Z := by
  intro p e R s m args below meth c H locs cells slots MC MS ls C h1 h2 h3 h4 h5
  subst hi
  have hcl : (nI j).toNatClampNeg = j := nI_clamp (by omega)
  have hin := vp_in_nI hj hN
  refine W.zast C.1 C.2.1 (rx_arrI h2 hn hk (by omega)) ((rx_aty hG C.2.2.2.2.2.2.2.1 3 rfl).1 n (fun j => .int (mu.1 a j))) (fun q => by cases q) (by show ¬ (nI j < 0 ∨ (arrV _ _ _).slots.size ≤ _); rw [arrV_size]; exact hin) rfl rfl hd fun H1 e1 e2 e3 => ?_
  rw [hcl] at e1 ⊢
  rw [hx] at e1
  refine kk p e R s m args below meth c H1 _ cells slots MC MS ls C h1 (rx_In_set (a := a) h2 e2 e3 rfl (fun b hb => ⟨rx_u_ne _ _ _ hb, rfl, rfl⟩) ?_) (by rw [e2]; exact h3) (rx_locs h4) h5
  unfold rx_ent
  simp only [hk]
  rw [if_neg (by decide), if_neg (by decide), if_pos (by decide)]
  show H1[rx_B G + a]? = _
  rw [e1, vp_cell_i, vp_cell_i, arrV_store, rx_u_self]
  refine congrArg some (congrArg (arrV _ _) (funext fun b => ?_))
  by_cases hb : b = j <;> simp [updV, hb]
end RXA

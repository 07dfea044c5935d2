theorem rx_u_self {α : Type} (f : Nat → Nat → α) (a i : Nat) (x : α) : rx_u f a i x a = fun j => if j = i then x else f a j := by simp [rx_u]
theorem rx_u_ne {α : Type} (f : Nat → Nat → α) {a b : Nat} (i : Nat) (x : α) (h : b ≠ a) : rx_u f a i x b = f b := by simp [rx_u, h]
section RXP
variable {G : rx_E} {M : rx_Me} {d pc mc ms : Nat} {lv : List (Nat × Value)} {st : List Value} {mu : rx_M} {Q : Option Value → rx_M → Prop} {Z : String → rx_M → Prop}
/-- a store into a field: v the value, mu' the memory behind it -/
theorem rx_putf {a idx ci k : Nat} {ty : FieldType} {v : Value} {mu' : rx_M} (hG : rx_OK G) (hF : rx_Fd M.1.cls idx ci k ty) (hd : decode M.2.1 pc = .ok (.putfield idx, 3)) (hn : a < mu.2.2.2.2) (hk : (mu.2.2.2.1 a).1 = ci)
    (hfin : ∀ (C : String) (T : u_T) (N : Nat), rx_Cl ci C T N → (T k).2.2.2 = false ∨ ((T k).2.2.2 = true ∧ M.1.name = "<init>" ∧ (T k).1 = M.1.cls ∧ ∃ (idx' : Nat), idx' = idx ∧ Cond.fieldLink M.1.cls idx (T k).1 (T k).2.1 (T k).2.2.1 ∈ lw_tbl))
    (hv : narrow ty (rx_tr G v) = rx_tr G v) (hf : fits ty (rx_tr G v) = true) (hmk : mu'.2.2.2 = mu.2.2.2) (ho : ∀ b, b ≠ a → mu'.1 b = mu.1 b ∧ mu'.2.1 b = mu.2.1 b ∧ mu'.2.2.1 b = mu.2.2.1 b)
    (hrow : ∀ j, rx_fv G mu' a j (rx_tc ((rx_ty ci).1 j)) = if j = k then rx_tr G v else rx_fv G mu a j (rx_tc ((rx_ty ci).1 j)))
    (kk : rx_W G M d (pc + 3) lv st mu' mc ms Q Z) : rx_W G M d pc lv (v :: .ref a :: st) mu mc ms Q Z := by
  intro p e R s m args below meth c H locs cells slots MC MS ls C h1 h2 h3 h4 h5
  obtain ⟨C0, T, N, hCl, hkN, rfl, hl⟩ := hF
  have hfin' := hfin C0 T N hCl
  obtain ⟨hci, hc, hw, hN, hty, hnm⟩ := hCl
  have hat := rx_obj h2 hn hk hci
  have hWs : G.2.1.WarmedH s.vm := C.2.2.2.2.2.2.2.1
  have hK := rx_K hG hWs
  have hts : ∀ w ∈ u_ws C0 T N, w.before args s = true := fun w h => rx_w hG hWs (hw w h).1 (hw w h).2 args
  have hap := va_apart (own := M.1.cls) hts (fun _ h => h) (rx_ty ci).1 hty hnm hK hc
  obtain ⟨r, g1, cell, q1, q2, q3, q4⟩ := hat
  have hr : r = (C0, T, N) := Option.some.inj (g1.symm.trans hc)
  subst hr
  obtain ⟨hS, hfc, kC, hkC, hkind⟩ := hK.1 ci _ hc
  obtain ⟨cf, kf, fi, f, hi, hsl⟩ := hS k hkN
  have hst := (u_facts hfc hkC (u_lays hts (fun _ h => h) hkN) hi).1
  have hlay := hts _ (u_in_lay hkN)
  unfold u_lay at hlay
  have fin : ∀ H' : Heap, H'[rx_B G + a]? = some (cell.setSlot ((G.2.2.1.2 ci) k) (rx_tr G v)) → H'.size = H.size → (∀ q, q ≠ rx_B G + a → H'[q]? = H[q]?) → W p G.1 e R s m args below meth c H' (locs ++ [⟨rx_B G + a, (G.2.2.1.2 ci) k⟩]) cells slots (vx_MQ below (rx_Qc G Q) (rx_XC G Z) args s MC MS (fun q => rx_B G ≤ q)) (F0 m (pc + 3) ls (rx_trs G st)) := by
    intro H' e1 e2 e3
    refine kk p e R s m args below meth c H' _ cells slots MC MS ls C h1 (rx_In_set h2 e2 e3 hmk ho ?_) (by rw [e2]; exact h3) (fun q hq => ?_) h5
    · rw [rx_ent_obj (by rw [hmk]; exact hk) hci]
      refine ⟨_, hc, t_OB.to (V := updV (vp_V (rx_row G mu a (rx_ty ci).1 (rx_ty ci).2)) k (rx_tr G v)) ⟨_, e1, q2, q3, t_set q4 hap hkN _⟩ (fun j hj => ?_)⟩
      have hj' : j < (rx_ty ci).2 := by rw [hN]; exact hj
      have e5 := hrow j
      simp only [vp_V, List.getD_eq_getElem?_getD, rx_row_get hj', Option.getD_some, updV, e5]
    · rcases List.mem_append.mp hq with h | h
      · exact h4 q h
      · rw [List.mem_singleton.mp h]
        exact Nat.le_add_right _ _
  rcases hfin' with hf0 | ⟨hf1, hini, hdecl, idx', -, hlF⟩
  · rw [if_neg (by rw [hf0]; decide)] at hlay
    have h6 := u_store hfc hkC hkind hlay hi (hty k hkN) hv hf
    rcases hl with hl | ⟨host, hl⟩
    · refine W.putK C.1 C.2.1 (f := f) ⟨C.2.2.2.2.1, rx_w hG hWs hl rfl args, ⟨_, _, _, hi⟩, hst⟩ (by rw [q2]; exact h6) q1 q3 (by rw [hsl]; exact k2_hasslot (q4 k hkN)) rfl rfl hd fun H' e1 e2 e3 => ?_
      rw [hsl] at e1 ⊢
      exact fin H' e1 e2 e3
    · refine va_WputK C.1 C.2.1 (f := f) C.2.2.2.2.1 (rx_wN hG hWs hl args) hi hst (by rw [q2]; exact h6) q1 q3 (by rw [hsl]; exact k2_hasslot (q4 k hkN)) rfl rfl hd fun H' e1 e2 e3 => ?_
      rw [hsl] at e1 ⊢
      exact fin H' e1 e2 e3
  · rw [if_pos hf1] at hlay
    have hcf : m.cls = cf := by
      obtain ⟨_, _, c', _, _, _, -, -, hf', -, -, -, hown2, -⟩ := Cond.laysFinal_spec hlay
      have e1 : c' = cf := by have := hi.symm.trans hf'; simp at this; exact this.1.symm
      rw [hdecl] at hown2
      rw [← e1]; exact Option.some.inj (C.2.2.2.2.1.symm.trans hown2)
    have h6 := u_fits hfc hkC hkind (Or.inr hlay) hi (hty k hkN) hv hf
    refine W.putFinK C.1 C.2.1 C.2.2.2.2.1 (rx_w hG hWs hlF rfl args) hi hst hcf (C.2.2.2.2.2.2.1.trans hini) (by rw [q2]; exact h6) q1 q3 (by rw [hsl]; exact k2_hasslot (q4 k hkN)) rfl rfl hd fun H' e1 e2 e3 => ?_
    rw [hsl] at e1 ⊢
    exact fin H' e1 e2 e3
/-- a field may be written here: it isn't final, or its constructor writes it -/
def rx_Wr (M : rx_Me) (idx ci k : Nat) : Prop := ∀ (C : String) (T : u_T) (N : Nat), rx_Cl ci C T N → (T k).2.2.2 = false ∨ ((T k).2.2.2 = true ∧ M.1.name = "<init>" ∧ (T k).1 = M.1.cls ∧ ∃ (idx' : Nat), idx' = idx ∧ Cond.fieldLink M.1.cls idx (T k).1 (T k).2.1 (T k).2.2.1 ∈ lw_tbl)
theorem rx_tc_ne {t : FieldType} : rx_tc t = 0 ∨ rx_tc t = 1 ∨ rx_tc t = 2 := by cases t <;> simp [rx_tc]
theorem rx_putI {a idx ci k : Nat} {ty : FieldType} {x : Int32} (hG : rx_OK G) (hF : rx_Fd M.1.cls idx ci k ty) (hfin : rx_Wr M idx ci k) (ht : rx_tc ty = 0) (hd : decode M.2.1 pc = .ok (.putfield idx, 3)) (hn : a < mu.2.2.2.2) (hk : (mu.2.2.2.1 a).1 = ci)
    (hv : narrow ty (.int x) = .int x) (hf : fits ty (.int x) = true) (kk : rx_W G M d (pc + 3) lv st (rx_u mu.1 a k x, mu.2) mc ms Q Z) : rx_W G M d pc lv (.int x :: .ref a :: st) mu mc ms Q Z := by
  have hty : (rx_ty ci).1 k = ty := by obtain ⟨_, _, _, -, -, h, -⟩ := hF; exact h
  refine rx_putf (v := .int x) (mu' := (rx_u mu.1 a k x, mu.2)) hG hF hd hn hk hfin hv hf rfl (fun b hb => ⟨rx_u_ne _ _ _ hb, rfl, rfl⟩) (fun j => ?_) kk
  by_cases hj : j = k
  · subst hj
    rw [if_pos rfl, hty, ht]
    simp [rx_fv, rx_u_self, rx_tr]
  · rw [if_neg hj]
    simp [rx_fv, rx_u_self, hj]
theorem rx_putL {a idx ci k : Nat} {x : Int64} (hG : rx_OK G) (hF : rx_Fd M.1.cls idx ci k .long) (hfin : rx_Wr M idx ci k) (hd : decode M.2.1 pc = .ok (.putfield idx, 3)) (hn : a < mu.2.2.2.2) (hk : (mu.2.2.2.1 a).1 = ci)
    (kk : rx_W G M d (pc + 3) lv st (mu.1, rx_u mu.2.1 a k x, mu.2.2) mc ms Q Z) : rx_W G M d pc lv (.long x :: .ref a :: st) mu mc ms Q Z := by
  have hty : (rx_ty ci).1 k = .long := by obtain ⟨_, _, _, -, -, h, -⟩ := hF; exact h
  refine rx_putf (v := .long x) (mu' := (mu.1, rx_u mu.2.1 a k x, mu.2.2)) hG hF hd hn hk hfin rfl rfl rfl (fun b hb => ⟨rfl, rx_u_ne _ _ _ hb, rfl⟩) (fun j => ?_) kk
  by_cases hj : j = k
  · subst hj
    rw [if_pos rfl, hty]
    simp [rx_fv, rx_u_self, rx_tr, rx_tc]
  · rw [if_neg hj]
    simp [rx_fv, rx_u_self, hj]
theorem rx_putR {a idx ci k r : Nat} {ty : FieldType} (hG : rx_OK G) (hF : rx_Fd M.1.cls idx ci k ty) (hfin : rx_Wr M idx ci k) (ht : ∃ t, ty = .array t ∨ ∃ c, ty = .object c) (hd : decode M.2.1 pc = .ok (.putfield idx, 3)) (hn : a < mu.2.2.2.2) (hk : (mu.2.2.2.1 a).1 = ci)
    (kk : rx_W G M d (pc + 3) lv st (mu.1, mu.2.1, rx_u mu.2.2.1 a k (some r), mu.2.2.2) mc ms Q Z) : rx_W G M d pc lv (.ref r :: .ref a :: st) mu mc ms Q Z := by
  have hty : (rx_ty ci).1 k = ty := by obtain ⟨_, _, _, -, -, h, -⟩ := hF; exact h
  have h2 : rx_tc ty = 2 := by rcases ht with ⟨t, rfl | ⟨c, rfl⟩⟩ <;> rfl
  refine rx_putf (v := .ref r) (mu' := (mu.1, mu.2.1, rx_u mu.2.2.1 a k (some r), mu.2.2.2)) hG hF hd hn hk hfin (by rcases ht with ⟨t, rfl | ⟨c, rfl⟩⟩ <;> rfl) (by rcases ht with ⟨t, rfl | ⟨c, rfl⟩⟩ <;> rfl) rfl (fun b hb => ⟨rfl, rfl, rx_u_ne _ _ _ hb⟩) (fun j => ?_) kk
  by_cases hj : j = k
  · subst hj
    rw [if_pos rfl, hty, h2]
    simp [rx_fv, rx_u_self, rx_tr, va_rf]
  · rw [if_neg hj]
    simp [rx_fv, rx_u_self, hj]
end RXP

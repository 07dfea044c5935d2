theorem rx_In_blind {G : rx_E} {mu : rx_M} {as : List Value} : FrameBlind (fun a U => a = (rx_trs G as).toArray ∧ rx_In G mu U.vm U.heap) := fun _ _ _ _ h => h
/-- a method out of its walk -/
theorem rx_meth {G : rx_E} {M : rx_Me} {d : Nat} {as : List Value} {mu : rx_M} {mc ms : Nat} {Q : Option Value → rx_M → Prop} {Z : String → rx_M → Prop} (hy : plainName M.1.cls = true) (ht : M.2.2.2.2 = []) (hn : (lg_sl as).length ≤ M.2.2.1)
    (k : rx_W G M d 0 (lv_args 0 as) [] mu mc ms Q Z) : rx_X G M d as mu mc ms Q Z := by
  refine vx_ofW (cc := M.2.1) (maxL := M.2.2.1) (ret := M.2.2.2.1) hy rfl ?_
  intro p e s m args below meth c s₁ B hml hex hv
  obtain ⟨rfl, hin⟩ := hv
  have hl := lv_entry (rx_trs G as) (n := M.2.2.1) (by rw [rx_sl]; exact hn)
  rw [lg_entry_eq]
  generalize (lg_sl (rx_trs G as) ++ List.replicate (M.2.2.1 - (lg_sl (rx_trs G as)).length) Slot.unset).toArray = ls at hl ⊢
  have hl := rx_has_entry hl
  have hB : rx_B G ≤ s.heap.size := by rw [hin.2.1.1]; exact Nat.le_add_right _ _
  exact k p e (rx_room d mc ms) s m (rx_trs G as).toArray below meth c s.heap [] 0 0 mc ms ls ⟨B.exec, B.bytes, B.returns, hml, findClass_of_methodNamed B.named, B.notSynchronized, (name_of_methodNamed B.named B.method).1, hin.1, hB, hin.2.2, by rw [ht]; exact List.eq_nil_iff_forall_not_mem.mpr (fun x hx => hex x hx)⟩ ⟨Nat.le_refl _, Nat.le_refl _, by omega, by omega, Nat.le_refl _, Nat.le_refl _⟩ hin (Nat.le_refl _) (fun _ h => by cases h) hl
theorem rx_noX {G : rx_E} {M : rx_Me} {d : Nat} {as : List Value} {mu : rx_M} {mc ms : Nat} {Q : Option Value → rx_M → Prop} (k : rx_X G M d as mu mc ms Q (fun _ _ => False)) : rx_C G M d as mu mc ms Q := by
  intro p e h1 h2 h3 s m args below h4 h5 h6 h7
  obtain ⟨k', o, a1, a2, a3, a4⟩ := k p e h1 h2 h3 s m args below h4 h5 h6 h7
  refine ⟨k', o, a1, a2, a3, ?_⟩
  rcases a4 with h | ⟨q, -, E, ce, L, ⟨mu', hF, -⟩, -⟩
  · exact h
  · exact hF.elim
theorem rx_meth0 {G : rx_E} {M : rx_Me} {d : Nat} {as : List Value} {mu : rx_M} {mc ms : Nat} {Q : Option Value → rx_M → Prop} (hy : plainName M.1.cls = true) (ht : M.2.2.2.2 = []) (hn : (lg_sl as).length ≤ M.2.2.1)
    (k : rx_W G M d 0 (lv_args 0 as) [] mu mc ms Q (fun _ _ => False)) : rx_C G M d as mu mc ms Q := rx_noX (rx_meth hy ht hn k)
section RXS
variable {G : rx_E} {M : rx_Me} {d pc mc ms : Nat} {lv : List (Nat × Value)} {st : List Value} {mu : rx_M} {Q : Option Value → rx_M → Prop} {Z : String → rx_M → Prop}
/-- a step that touches neither locals nor memory -/
theorem rx_s {st' : List Value} {pc' : Nat} (k : rx_W G M d pc' lv st' mu mc ms Q Z)
    (h : ∀ (p : Program) (e : Env) (R : Room) (s : State) (m : MethodId) (args : Array Value) (below : List Frame) (meth : Method) (c : Code) (H : Heap) (locs : List Loc) (cells slots : Nat) (Qf : State → Prop) (ls : Array Slot), p.tables.exec = Jvm.exec → c.code = M.2.1 → W p G.1 e R s m args below meth c H locs cells slots Qf (F0 m pc' ls (rx_trs G st')) → W p G.1 e R s m args below meth c H locs cells slots Qf (F0 m pc ls (rx_trs G st))) :
    rx_W G M d pc lv st mu mc ms Q Z := by
  intro p e R s m args below meth c H locs cells slots MC MS ls C h1 h2 h3 h4 h5
  exact h _ _ _ _ _ _ _ _ _ _ _ _ _ _ _ C.1 C.2.1 (k p e R s m args below meth c H locs cells slots MC MS ls C h1 h2 h3 h4 h5)
theorem rx_iconst {n : Int} {v : Int32} (hd : decode M.2.1 pc = .ok (.iconst n, 1)) (hv : Int32.ofInt n = v) (k : rx_W G M d (pc + 1) lv (.int v :: st) mu mc ms Q Z) : rx_W G M d pc lv st mu mc ms Q Z :=
  rx_s k fun _ _ _ _ _ _ _ _ _ _ _ _ _ _ _ hx hb k => lv_iconst hx hb hd hv k
theorem rx_iadd {x y : Int32} (hd : decode M.2.1 pc = .ok (.iadd, 1)) (k : rx_W G M d (pc + 1) lv (.int (x + y) :: st) mu mc ms Q Z) : rx_W G M d pc lv (.int y :: .int x :: st) mu mc ms Q Z :=
  rx_s k fun _ _ _ _ _ _ _ _ _ _ _ _ _ _ _ hx hb k => lv_iadd hx hb hd k
end RXS

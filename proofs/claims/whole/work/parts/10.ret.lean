section RXR
variable {G : rx_E} {M : rx_Me} {d pc mc ms : Nat} {lv : List (Nat × Value)} {st : List Value} {mu : rx_M} {Q : Option Value → rx_M → Prop} {Z : String → rx_M → Prop}
theorem rx_ldc {idx : Nat} {v : Int32} (hG : rx_OK G) (hw : Cond.constant M.1.cls idx v ∈ lw_tbl) (hd : decode M.2.1 pc = .ok (.ldc idx, 2)) (k : rx_W G M d (pc + 2) lv (.int v :: st) mu mc ms Q Z) : rx_W G M d pc lv st mu mc ms Q Z := by
  intro p e R s m args below meth c H locs cells slots MC MS ls C h1 h2 h3 h4 h5
  exact lv_ldc C.1 C.2.1 C.2.2.2.2.1 (rx_w hG C.2.2.2.2.2.2.2.1 hw rfl args) hd (k p e R s m args below meth c H locs cells slots MC MS ls C h1 h2 h3 h4 h5)
theorem rx_ldc2 {idx : Nat} {v : Int64} (hG : rx_OK G) (hw : Cond.constantLong M.1.cls idx v ∈ lw_tbl) (hd : decode M.2.1 pc = .ok (.ldc2_w idx, 3)) (k : rx_W G M d (pc + 3) lv (.long v :: st) mu mc ms Q Z) : rx_W G M d pc lv st mu mc ms Q Z := by
  intro p e R s m args below meth c H locs cells slots MC MS ls C h1 h2 h3 h4 h5
  exact lv_ldc2 C.1 C.2.1 C.2.2.2.2.1 (rx_w hG C.2.2.2.2.2.2.2.1 hw rfl args) hd (k p e R s m args below meth c H locs cells slots MC MS ls C h1 h2 h3 h4 h5)
/-- a switch: x within, at place j -/
theorem rx_tabIn {x : Int32} {dflt lo hi off : Int} {offs : Array Int} {len tgt : Nat} (hd : decode M.2.1 pc = .ok (.tableswitch dflt lo hi offs, len)) (h1 : ¬ x.toInt < lo) (h2 : ¬ hi < x.toInt) (ho : offs[(x.toInt - lo).toNat]? = some off) (ht : (pc : Int) + off = (tgt : Int)) (k : rx_W G M d tgt lv st mu mc ms Q Z) : rx_W G M d pc lv (.int x :: st) mu mc ms Q Z :=
  rx_s k fun _ _ _ _ _ _ _ _ _ _ _ _ _ _ _ hx hb k => lv_tableIn hx hb hd h1 h2 ho ht k
theorem rx_tabOut {x : Int32} {dflt lo hi : Int} {offs : Array Int} {len tgt : Nat} (hd : decode M.2.1 pc = .ok (.tableswitch dflt lo hi offs, len)) (h : x.toInt < lo ∨ hi < x.toInt) (ht : (pc : Int) + dflt = (tgt : Int)) (k : rx_W G M d tgt lv st mu mc ms Q Z) : rx_W G M d pc lv (.int x :: st) mu mc ms Q Z :=
  rx_s k fun _ _ _ _ _ _ _ _ _ _ _ _ _ _ _ hx hb k => lv_tableOut hx hb hd h ht k
theorem rx_end {locs : List Loc} {cells slots MC MS : Nat} {p : Program} {e : Env} {R : Room} {s : State} {m : MethodId} {args : Array Value} {below : List Frame} {meth : Method} {c : Code} {H : Heap} {g : JFrame} {Q0 : State → Prop} (h1 : cells ≤ MC) (h2 : slots ≤ MS) (k : W p G.1 e R s m args below meth c H locs MC MS Q0 g) : W p G.1 e R s m args below meth c H locs cells slots Q0 g := W.widen h1 h2 k
theorem rx_fin {mu : rx_M} {s t : State} {H : Heap} (h2 : rx_In G mu s.vm H) (hC : G.2.1.WarmedH s.vm) (ht : t.heap = H) (hW : s.WarmedH t.vm) : rx_In G mu t.vm t.heap := ⟨State.WarmedH.trans hC hW, by rw [ht]; exact h2.2.1, by rw [ht]; exact h2.2.2⟩
theorem rx_iret {x : Int32} (hr : M.2.2.2.1 = some .int) (hd : decode M.2.1 pc = .ok (.ireturn, 1)) (k : Q (some (.int x)) mu) : rx_W G M d pc lv [.int x] mu mc ms Q Z := by
  intro p e R s m args below meth c H locs cells slots MC MS ls C h1 h2 h3 h4 h5
  have hlocks : meth.locks = false := C.2.2.2.2.2.1
  refine vx_ret (rx_end (by omega) (by omega) (W.iret (v := x) C.1 C.2.1 (C.2.2.1.trans hr) (fun t ht hW => ⟨some (.int x), mu, rfl, k, rx_fin h2 C.2.2.2.2.2.2.2.1 ht hW, by rw [ht]; exact h3⟩) h4 hd))
theorem rx_zret {x : Int32} (hr : M.2.2.2.1 = some .boolean) (hx : narrow .boolean (.int x) = .int x) (hd : decode M.2.1 pc = .ok (.ireturn, 1)) (k : Q (some (.int x)) mu) : rx_W G M d pc lv [.int x] mu mc ms Q Z := by
  intro p e R s m args below meth c H locs cells slots MC MS ls C h1 h2 h3 h4 h5
  have hlocks : meth.locks = false := C.2.2.2.2.2.1
  refine vx_ret (rx_end (by omega) (by omega) (W.zret (v := x) C.1 C.2.1 (C.2.2.1.trans hr) hx (fun t ht hW => ⟨some (.int x), mu, rfl, k, rx_fin h2 C.2.2.2.2.2.2.2.1 ht hW, by rw [ht]; exact h3⟩) h4 hd))
theorem rx_lret {x : Int64} (hr : M.2.2.2.1 = some .long) (hd : decode M.2.1 pc = .ok (.lreturn, 1)) (k : Q (some (.long x)) mu) : rx_W G M d pc lv [.long x] mu mc ms Q Z := by
  intro p e R s m args below meth c H locs cells slots MC MS ls C h1 h2 h3 h4 h5
  have hlocks : meth.locks = false := C.2.2.2.2.2.1
  refine vx_ret (rx_end (by omega) (by omega) (W.lret (v := x) C.1 C.2.1 (C.2.2.1.trans hr) (fun t ht hW => ⟨some (.long x), mu, rfl, k, rx_fin h2 C.2.2.2.2.2.2.2.1 ht hW, by rw [ht]; exact h3⟩) h4 hd))
theorem rx_vret (hr : M.2.2.2.1 = none) (hd : decode M.2.1 pc = .ok (.return_, 1)) (k : Q none mu) : rx_W G M d pc lv [] mu mc ms Q Z := by
  intro p e R s m args below meth c H locs cells slots MC MS ls C h1 h2 h3 h4 h5
  have hlocks : meth.locks = false := C.2.2.2.2.2.1
  refine vx_ret (rx_end (by omega) (by omega) (W.vret C.1 C.2.1 (C.2.2.1.trans hr) (fun t ht hW => ⟨none, mu, rfl, k, rx_fin h2 C.2.2.2.2.2.2.2.1 ht hW, by rw [ht]; exact h3⟩) h4 hd))
theorem rx_aret {a : Nat} (hr : ∃ t, M.2.2.2.1 = some (.array t)) (hd : decode M.2.1 pc = .ok (.areturn, 1)) (k : Q (some (.ref a)) mu) : rx_W G M d pc lv [.ref a] mu mc ms Q Z := by
  intro p e R s m args below meth c H locs cells slots MC MS ls C h1 h2 h3 h4 h5
  have hlocks : meth.locks = false := C.2.2.2.2.2.1
  obtain ⟨t0, hr⟩ := hr
  refine vx_ret (rx_end (by omega) (by omega) (W.aret (v := .ref (rx_B G + a)) C.1 C.2.1 (C.2.2.1.trans hr) (Or.inr ⟨_, rfl⟩) (Or.inr ⟨_, rfl⟩) (fun t ht hW => ⟨some (.ref a), mu, rfl, k, rx_fin h2 C.2.2.2.2.2.2.2.1 ht hW, by rw [ht]; exact h3⟩) h4 hd))
end RXR

/-- a class E thrown at pc is caught in this method, and goes on at hpc, behind the store of what was thrown -/
def rx_Ca (G : rx_E) (M : rx_Me) (pc : Nat) (E : String) (hpc : Nat) : Prop := ∃ (pre : List ExceptionTableEntry) (x : ExceptionTableEntry) (suf : List ExceptionTableEntry) (name : String), M.2.2.2.2 = pre ++ x :: suf ∧
  (∀ z ∈ pre, covers z pc = false ∨ (z.catchType ≠ 0 ∧ ∃ nm : String, Cond.classLink M.1.cls z.catchType nm ∈ lw_tbl ∧ va_Nc E nm G.2.1)) ∧ covers x pc = true ∧ x.catchType ≠ 0 ∧ Cond.classLink M.1.cls x.catchType name ∈ lw_tbl ∧ Cond.castable E name ∈ lw_tbl ∧
  ((∃ k : Fin 4, decode M.2.1 x.handlerPc = .ok (.astore_n k, 1) ∧ (k : Nat) < M.2.2.1 ∧ hpc = x.handlerPc + 1) ∨ (∃ i : Nat, decode M.2.1 x.handlerPc = .ok (.astore i, 2) ∧ i < M.2.2.1 ∧ hpc = x.handlerPc + 2))
section RXVX
variable {G : rx_E} {M : rx_Me} {d pc mc ms : Nat} {lv : List (Nat × Value)} {st : List Value} {mu : rx_M} {Q : Option Value → rx_M → Prop} {Z : String → rx_M → Prop}
theorem rx_has_nil {ls : Array Slot} {n : Nat} {l : List (Nat × Value)} (h : lv_has ls n l) : rx_has G ls n [] := ⟨h.1, h.2.1, fun i v hv => by cases hv⟩
theorem rx_invVX {N : rx_Me} {idx n mc' ms' a ci : Nat} {as : List Value} {Q' : Option Value → rx_M → Prop} {Z' : String → rx_M → Prop} (hG : rx_OK G) (hN : rx_Me_ok N n) (hL : (∃ T n, rx_Cl ci N.1.cls T n) ∧ Cond.instanceMethod N.1 ∈ lw_tbl ∧ Cond.selects N.1.cls N.1 N.1 ∈ lw_tbl ∧ Cond.methodLink M.1.cls idx N.1 ∈ lw_tbl) (hb : a < mu.2.2.2.2) (hk : (mu.2.2.2.1 a).1 = ci) (hd : decode M.2.1 pc = .ok (.invokevirtual idx, 3)) (hn : as.length = n) (h8 : (st.map fun v => v.category).sum ≤ 8)
    (hc : rx_X G N d (.ref a :: as) mu mc' ms' Q' Z') (kk : ∀ v mu', Q' v mu' → rx_W G M (d + 1) (pc + 3) lv (v.toList ++ st) mu' mc ms Q Z) (kx : ∀ E mu', Z' E mu' → ∃ hpc, rx_Ca G M pc E hpc ∧ rx_W G M (d + 1) hpc [] [] mu' mc ms Q Z) : rx_W G M (d + 1) pc lv (as.reverse ++ .ref a :: st) mu (mc' + mc) (ms' + ms) Q Z := by
  intro p e R s m args below meth c H locs cells slots MC MS ls C h1 h2 h3 h4 h5
  have hWs : G.2.1.WarmedH s.vm := C.2.2.2.2.2.2.2.1
  have hts := rx_goodc hG hWs hN args
  obtain ⟨⟨T, nf, hci, hcl, -⟩, hin, hsel, hl⟩ := hL
  have hcell := va_recv (rx_K hG hWs) (rx_P1 (rx_obj h2 hb hk hci)) hcl (q0 := 0) rfl
  obtain ⟨hcode, hini, hmx, hmh, hpar⟩ := hN
  have hlen : (rx_trs G as).length = n := by simp [rx_trs, hn]
  have hp : PreV s H N.1.cls (rx_B G + a) (fun v U => v = (rx_trs G (.ref a :: as)).toArray ∧ rx_In G mu U.vm U.heap) (rx_trs G as) := ⟨rx_In_blind, hcell, fun U hU hW => ⟨rfl, State.WarmedH.trans hWs hW, by rw [hU]; exact h2.2.1, by rw [hU]; exact h2.2.2⟩⟩
  have hS : CallFix p m c M.2.1 M.2.2.1 s args [Cond.code N.1 N.2.1 N.2.2.1 N.2.2.2.1] M.1.cls := ⟨C.1, C.2.1, C.2.2.2.1, C.2.2.2.2.1, hts⟩
  have hfr : (rx_room d mc' ms').frames + 1 ≤ R.frames ∧ 8 + (N.2.2.1 + 11) + (rx_room d mc' ms').locals ≤ R.locals := ⟨h1.1, by show 8 + (N.2.2.1 + 11) + 40 * d ≤ R.locals; omega⟩
  have hstk : (F0 m pc ls (rx_trs G (as.reverse ++ .ref a :: st))).stack = (rx_trs G as).reverse ++ .ref (rx_B G + a) :: rx_trs G st := by rw [rx_rev]; show rx_trs G (as.reverse ++ .ref a :: st) = _; rw [rx_trs_app]; rfl
  have hrun := vx_runV (e := e) (below := below) (meth := meth) (locs := locs) (C := N.1.cls) (g := F0 m pc ls (rx_trs G (as.reverse ++ .ref a :: st))) hS hc ⟨callB_of n hts rx_goodi rfl rfl rfl (rx_w hG hWs hini rfl args) (rx_w hG hWs hl rfl args) ⟨hmh.1, hmh.2, hpar⟩ hfr, rx_w hG hWs hin rfl args, rx_w hG hWs hsel rfl args⟩ hp rfl hlen (h5.1) hstk (lv_room (rx_rm8 h8)) hd ⟨(by omega : cells + mc' ≤ R.cells), (by omega : slots + ms' ≤ R.slots)⟩
  intro T0 hT X
  rcases hrun T0 hT X with ⟨v, st₀, t, T', L, e0, X', hL9, e1, e2, ⟨v', mu', hv, hq, hin9, hgr⟩, stp⟩ | ⟨q, st₀, t, T', L, E, ce, e0, X', hL9, e1, e2, ⟨mu', hz, hrel, hbl, hgr⟩, hce, hcv, hcE, stp⟩
  · have hvv : v = v'.map (rx_tr G) := Outcome.returned.inj hv
    subst hvv
    have hIn : rx_In G mu' s.vm T'.heap := ⟨hWs, by rw [e1]; exact hin9.2.1, by rw [e1]; exact hin9.2.2⟩
    have hk := kk v' mu' hq p e R s m args below meth c T'.heap (locs ++ L) (cells + mc') (slots + ms') MC MS ls C ⟨h1.1, h1.2.1, by omega, by omega, h1.2.2.2.2.1, h1.2.2.2.2.2⟩ hIn (by rw [e1]; rw [e0] at hgr; exact Nat.le_trans h3 hgr) (fun q hq => by
      rcases List.mem_append.mp hq with h | h
      · exact h4 q h
      · exact hL9 q h) h5
    obtain ⟨t2, a1, b1⟩ := hk T' rfl X'
    refine ⟨t2, stp t2 ?_, b1⟩
    have : (rx_trs G (v'.toList ++ st)) = (v'.map (rx_tr G)).toList ++ rx_trs G st := by
      cases v' <;> simp [rx_trs]
    rw [this] at a1
    exact a1
  · obtain ⟨hpc, ⟨pre, x, suf, name, hsp, hpass, hx, h0, hlk, hcst, hst⟩, kw⟩ := kx E mu' hz
    have hIn : rx_In G mu' s.vm T'.heap := ⟨hWs, by rw [e1]; exact hrel, by rw [e1]; exact hbl⟩
    have hsz : s.heap.size ≤ T'.heap.size := by rw [e1]; rw [e0] at hgr; exact Nat.le_trans h3 hgr
    have hlo : ∀ q ∈ locs ++ L, rx_B G ≤ q.base := fun q hq => by
      rcases List.mem_append.mp hq with h | h
      · exact h4 q h
      · exact hL9 q h
    have hkw : ∀ ls' : Array Slot, rx_has G ls' M.2.2.1 [] → W p G.1 e R s m args below meth c T'.heap (locs ++ L) (cells + mc') (slots + ms') (vx_MQ below (rx_Qc G Q) (rx_XC G Z) args s MC MS (fun q => rx_B G ≤ q)) (F0 m hpc ls' []) := fun ls' h' => kw p e R s m args below meth c T'.heap (locs ++ L) (cells + mc') (slots + ms') MC MS ls' C ⟨h1.1, h1.2.1, by omega, by omega, h1.2.2.2.2.1, h1.2.2.2.2.2⟩ hIn hsz hlo h'
    have hwh : W p G.1 e R s m args below meth c T'.heap (locs ++ L) (cells + mc') (slots + ms') (vx_MQ below (rx_Qc G Q) (rx_XC G Z) args s MC MS (fun q => rx_B G ≤ q)) (F0 m x.handlerPc ls [.ref q]) := by
      rcases hst with ⟨kf, hdk, hkl, rfl⟩ | ⟨i, hdk, hkl, rfl⟩
      · exact lv_astore_n C.1 C.2.1 hdk rfl (rx_has_en h5) hkl rfl (fun ls' h' => hkw ls' (rx_has_nil h'))
      · exact lv_astore C.1 C.2.1 hdk (rx_has_en h5) hkl rfl (fun ls' h' => hkw ls' (rx_has_nil h'))
    obtain ⟨a9, ha9⟩ := hG.1 _ hcst
    have hcst' : (Cond.castable E name).before args s = true := va_Nw.use rfl (va_Nw.warmC hWs (va_Nw.of rfl ha9))
    obtain ⟨t2, a1, b1⟩ := ry_catch (pc := pc) (rest := rx_trs G st) (E := E) (q := q) (ce := ce) C.2.2.2.2.1 pre x suf (C.2.2.2.2.2.2.2.2.2.2.trans hsp) (fun z hz => by
      rcases hpass z hz with h | ⟨hz0, nm, hl1, hn1⟩
      · exact Or.inl h
      · exact Or.inr ⟨hz0, nm, rx_w hG hWs hl1 rfl args, va_Nc.moved hWs.alike hn1⟩) hx h0 (rx_w hG hWs hlk rfl args) hcst' (by rw [e1]; exact hce) hcv hcE hwh rfl X'
    exact ⟨t2, stp.trans a1, b1⟩
/-- a method with a table: its contract, its entry, its call -/
def rx_H (G : rx_E) (M : rx_Me) (hh : List (Nat × Nat × Nat × Nat)) (d : Nat) (as : List Value) (mu : rx_M) (mc ms : Nat) (Q : Option Value → rx_M → Prop) : Prop :=
  Met G.1 M.1 [Cond.codeWith M.1 M.2.1 M.2.2.1 M.2.2.2.1 hh] (rx_room d mc ms) (fun a U => a = (rx_trs G as).toArray ∧ rx_In G mu U.vm U.heap) (rx_Qc G Q) mc ms (fun q => rx_B G ≤ q)
theorem rx_methH {hh : List (Nat × Nat × Nat × Nat)} {as : List Value} (hy : plainName M.1.cls = true) (ht : M.2.2.2.2 = tableOf hh) (hn : (lg_sl as).length ≤ M.2.2.1)
    (k : rx_W G M d 0 (lv_args 0 as) [] mu mc ms Q (fun _ _ => False)) : rx_H G M hh d as mu mc ms Q := by
  have hX : vx_Met G.1 M.1 [Cond.codeWith M.1 M.2.1 M.2.2.1 M.2.2.2.1 hh] (rx_room d mc ms) (fun a U => a = (rx_trs G as).toArray ∧ rx_In G mu U.vm U.heap) (rx_Qc G Q) (rx_XC G (fun _ _ => False)) mc ms (fun q => rx_B G ≤ q) := by
    refine vx_ofWH (cc := M.2.1) (maxL := M.2.2.1) (ret := M.2.2.2.1) (hh := hh) hy rfl ?_
    intro p e s m args below meth c s₁ B hml hv
    obtain ⟨rfl, hin⟩ := hv
    have hl := lv_entry (rx_trs G as) (n := M.2.2.1) (by rw [rx_sl]; exact hn)
    rw [lg_entry_eq]
    generalize (lg_sl (rx_trs G as) ++ List.replicate (M.2.2.1 - (lg_sl (rx_trs G as)).length) Slot.unset).toArray = ls at hl ⊢
    have hl := rx_has_entry hl
    have hB : rx_B G ≤ s.heap.size := by rw [hin.2.1.1]; exact Nat.le_add_right _ _
    have htab : c.exceptionTable.toList = tableOf hh := vx_table (x := M.1) B (atoms_spec (ws := [Cond.codeWith M.1 M.2.1 M.2.2.1 M.2.2.2.1 hh]) B.pre _ List.mem_cons_self)
    exact k p e (rx_room d mc ms) s m (rx_trs G as).toArray below meth c s.heap [] 0 0 mc ms ls ⟨B.exec, B.bytes, B.returns, hml, findClass_of_methodNamed B.named, B.notSynchronized, (name_of_methodNamed B.named B.method).1, hin.1, hB, hin.2.2, htab.trans ht.symm⟩ ⟨Nat.le_refl _, Nat.le_refl _, by omega, by omega, Nat.le_refl _, Nat.le_refl _⟩ hin (Nat.le_refl _) (fun _ h => by cases h) hl
  intro p e h1 h2 h3 s m args below h4 h5 h6 h7
  obtain ⟨k', o, a1, a2, a3, a4⟩ := hX p e h1 h2 h3 s m args below h4 h5 h6 h7
  refine ⟨k', o, a1, a2, a3, ?_⟩
  rcases a4 with h | ⟨q, -, E, ce, L, ⟨mu', hF, -⟩, -⟩
  · exact h
  · exact hF.elim
theorem rx_invH {N : rx_Me} {hh : List (Nat × Nat × Nat × Nat)} {idx n mc' ms' : Nat} {as : List Value} {Q' : Option Value → rx_M → Prop} (hG : rx_OK G) (hN : Cond.codeWith N.1 N.2.1 N.2.2.1 N.2.2.2.1 hh ∈ lw_tbl ∧ Cond.initialized N.1.cls ∈ lw_tbl ∧ N.2.2.1 ≤ 21 ∧ (N.1.cls ≠ "java/lang/invoke/MethodHandle" ∧ N.1.cls ≠ "java/lang/invoke/VarHandle") ∧ (parseMethodDescriptor N.1.desc).map (fun q => q.parameters.length) = some n)
    (hL : Cond.static N.1 ∈ lw_tbl ∧ Cond.methodLink M.1.cls idx N.1 ∈ lw_tbl) (hd : decode M.2.1 pc = .ok (.invokestatic idx, 3)) (hn : as.length = n) (h8 : (st.map fun v => v.category).sum ≤ 8)
    (hc : rx_H G N hh d as mu mc' ms' Q') (kk : ∀ v mu', Q' v mu' → rx_W G M (d + 1) (pc + 3) lv (v.toList ++ st) mu' mc ms Q Z) : rx_W G M (d + 1) pc lv (as.reverse ++ st) mu (mc' + mc) (ms' + ms) Q Z := by
  intro p e R s m args below meth c H locs cells slots MC MS ls C h1 h2 h3 h4 h5
  have hWs : G.2.1.WarmedH s.vm := C.2.2.2.2.2.2.2.1
  obtain ⟨hst, hl⟩ := hL
  obtain ⟨hcode, hini, hmx, hmh, hpar⟩ := hN
  have hgi : GoodIn ([.methodLink M.1.cls idx N.1, .static N.1, .initialized N.1.cls, Cond.codeWith N.1 N.2.1 N.2.2.1 N.2.2.2.1 hh]) (va_wsS M.1.cls idx N.1 [Cond.codeWith N.1 N.2.1 N.2.2.1 N.2.2.2.1 hh]) := fun w hw => ⟨hw, by
    simp only [va_wsS, List.mem_append, List.mem_cons, List.not_mem_nil, or_false] at hw
    rcases hw with (rfl | rfl | rfl) | rfl <;> exact Or.inl rfl⟩
  have hts : ∀ w ∈ ([.methodLink M.1.cls idx N.1, .static N.1, .initialized N.1.cls, Cond.codeWith N.1 N.2.1 N.2.2.1 N.2.2.2.1 hh] : List Cond), w.before args s = true := fun w hw => by
    simp only [List.mem_cons, List.not_mem_nil, or_false] at hw
    rcases hw with rfl | rfl | rfl | rfl
    · exact rx_w hG hWs hl rfl args
    · exact rx_w hG hWs hst rfl args
    · exact rx_w hG hWs hini rfl args
    · exact rx_w hG hWs hcode rfl args
  have hlen : (rx_trs G as).length = n := by simp [rx_trs, hn]
  have hp : PreS s H (fun a U => a = (rx_trs G as).toArray ∧ rx_In G mu U.vm U.heap) (rx_trs G as) := ⟨rx_In_blind, fun U hU hW => ⟨rfl, State.WarmedH.trans hWs hW, by rw [hU]; exact h2.2.1, by rw [hU]; exact h2.2.2⟩⟩
  have hS : CallFix p m c M.2.1 M.2.2.1 s args _ M.1.cls := ⟨C.1, C.2.1, C.2.2.2.1, C.2.2.2.2.1, hts⟩
  have hfr : (rx_room d mc' ms').frames + 1 ≤ R.frames ∧ 8 + (N.2.2.1 + 11) + (rx_room d mc' ms').locals ≤ R.locals := ⟨h1.1, by show 8 + (N.2.2.1 + 11) + 40 * d ≤ R.locals; omega⟩
  have hstk : (F0 m pc ls (rx_trs G (as.reverse ++ st))).stack = (rx_trs G as).reverse ++ rx_trs G st := by rw [rx_rev, ← rx_trs_app]
  exact rx_back C h1 h3 h4 h5 (vx_runSW (g := F0 m pc ls (rx_trs G (as.reverse ++ st))) hS hc (vx_cwSW n hts hgi rfl rfl rfl ⟨hmh.1, hmh.2, hpar⟩ hfr) hp rfl hlen (h5.1) hstk (lv_room (rx_rm8 h8)) hd ⟨by omega, by omega⟩) kk
end RXVX

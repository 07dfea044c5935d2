/-- what stands of a method in the tables: its code, its class -/
def rx_Me_ok (M : rx_Me) (n : Nat) : Prop := Cond.code M.1 M.2.1 M.2.2.1 M.2.2.2.1 ∈ lw_tbl ∧ Cond.initialized M.1.cls ∈ lw_tbl ∧ M.2.2.1 ≤ 21 ∧ (M.1.cls ≠ "java/lang/invoke/MethodHandle" ∧ M.1.cls ≠ "java/lang/invoke/VarHandle") ∧ (parseMethodDescriptor M.1.desc).map (fun q => q.parameters.length) = some n
theorem rx_ini {w : String} : goodWord (Cond.initialized w) = true := rfl
section RXC
variable {G : rx_E} {M : rx_Me} {d pc mc ms : Nat} {lv : List (Nat × Value)} {st : List Value} {mu : rx_M} {Q : Option Value → rx_M → Prop} {Z : String → rx_M → Prop}
theorem rx_goodc {G : rx_E} {N : rx_Me} {n : Nat} {s : State} (hG : rx_OK G) (hW : G.2.1.WarmedH s.vm) (hN : rx_Me_ok N n) (args : Array Value) : ∀ w ∈ [Cond.code N.1 N.2.1 N.2.2.1 N.2.2.2.1], w.before args s = true := by
  intro w hw
  rw [List.mem_singleton.mp hw]
  exact rx_w hG hW hN.1 rfl args
theorem rx_goodi {N : rx_Me} : GoodIn [Cond.code N.1 N.2.1 N.2.2.1 N.2.2.2.1] [Cond.code N.1 N.2.1 N.2.2.1 N.2.2.2.1] := fun w hw => ⟨hw, by rw [List.mem_singleton.mp hw]; exact Or.inl rfl⟩
/-- behind a call: what the callee left, for the caller -/
theorem rx_back {aa : Array Value} {mc' ms' : Nat} {Q' : Option Value → rx_M → Prop} {p : Program} {e : Env} {R : Room} {s : State} {m : MethodId} {args : Array Value} {below : List Frame} {meth : Method} {c : Code} {H : Heap} {locs : List Loc} {cells slots MC MS : Nat} {ls : Array Slot} {st0 rest : List Value}
    (hC : rx_Ctx G M p s m meth c) (h1 : d + 1 ≤ R.frames ∧ 40 * (d + 1) ≤ R.locals ∧ cells + (mc' + mc) ≤ MC ∧ slots + (ms' + ms) ≤ MS ∧ MC ≤ R.cells ∧ MS ≤ R.slots) (h3 : s.heap.size ≤ H.size) (h4 : ∀ q ∈ locs, rx_B G ≤ q.base) (h5 : rx_has G ls M.2.2.1 lv)
    (hr : va_Run p G.1 e R s m args below meth c H locs cells slots mc' ms' (F0 m pc ls st0) (rx_trs G rest) (rx_Qc G Q' aa) (fun q => rx_B G ≤ q))
    (kk : ∀ v mu', Q' v mu' → rx_W G M (d + 1) (pc + 3) lv (v.toList ++ rest) mu' mc ms Q Z) : W p G.1 e R s m args below meth c H locs cells slots (vx_MQ below (rx_Qc G Q) (rx_XC G Z) args s MC MS (fun q => rx_B G ≤ q)) (F0 m pc ls st0) := by
  intro T hT X
  obtain ⟨v, st₀, t, T', L, e0, X', hL, e1, e2, ⟨v', mu', hv, hq, hin, hgr⟩, st⟩ := hr T hT X
  have hvv : v = v'.map (rx_tr G) := Outcome.returned.inj hv
  subst hvv
  have hIn : rx_In G mu' s.vm T'.heap := ⟨hC.2.2.2.2.2.2.2.1, by rw [e1]; exact hin.2.1, by rw [e1]; exact hin.2.2⟩
  have hk := kk v' mu' hq p e R s m args below meth c T'.heap (locs ++ L) (cells + mc') (slots + ms') MC MS ls hC ⟨h1.1, h1.2.1, by omega, by omega, h1.2.2.2.2.1, h1.2.2.2.2.2⟩ hIn (by rw [e1]; rw [e0] at hgr; exact Nat.le_trans h3 hgr) (fun q hq => by
    rcases List.mem_append.mp hq with h | h
    · exact h4 q h
    · exact hL q h) h5
  obtain ⟨t2, a1, b1⟩ := hk T' rfl X'
  refine ⟨t2, st t2 ?_, b1⟩
  have : (rx_trs G (v'.toList ++ rest)) = (v'.map (rx_tr G)).toList ++ rx_trs G rest := by
    cases v' <;> simp [rx_trs]
  rw [this] at a1
  exact a1
/-- a call of a static method: by its class's own constant, or a nest mate's -/
def rx_LkS (own : String) (idx : Nat) (N : rx_Me) : Prop := Cond.static N.1 ∈ lw_tbl ∧ (Cond.methodLink own idx N.1 ∈ lw_tbl ∨ ∃ host, Cond.methodLinkNest own idx N.1 host ∈ lw_tbl)
def rx_LkV (own : String) (idx : Nat) (N : rx_Me) (ci : Nat) : Prop := (∃ T n, rx_Cl ci N.1.cls T n) ∧ Cond.instanceMethod N.1 ∈ lw_tbl ∧ Cond.selects N.1.cls N.1 N.1 ∈ lw_tbl ∧ (Cond.methodLink own idx N.1 ∈ lw_tbl ∨ ∃ host, Cond.methodLinkNest own idx N.1 host ∈ lw_tbl)
def rx_LkI (own : String) (idx : Nat) (N : rx_Me) (ci : Nat) : Prop := (∃ T n, rx_Cl ci N.1.cls T n) ∧ N.1.name = "<init>" ∧ N.2.2.2.1 = none ∧ Cond.instanceMethod N.1 ∈ lw_tbl ∧ (Cond.methodLink own idx N.1 ∈ lw_tbl ∨ ∃ host, Cond.methodLinkNest own idx N.1 host ∈ lw_tbl)
theorem rx_rm8 {l : List Value} (h : (l.map fun v => v.category).sum ≤ 8) : ((rx_trs G l).map fun v => v.category).sum ≤ 8 := by
  have : (rx_trs G l).map (fun v => v.category) = l.map (fun v => v.category) := by
    simp only [rx_trs, List.map_map]
    exact List.map_congr_left (fun v _ => rx_cat G v)
  rw [this]; exact h
theorem rx_rev {l : List Value} : (rx_trs G l).reverse = rx_trs G l.reverse := by simp [rx_trs]
theorem rx_trs_app {a b : List Value} : rx_trs G (a ++ b) = rx_trs G a ++ rx_trs G b := by simp [rx_trs]
theorem rx_invS {N : rx_Me} {idx n mc' ms' : Nat} {as : List Value} {Q' : Option Value → rx_M → Prop} (hG : rx_OK G) (hN : rx_Me_ok N n) (hL : rx_LkS M.1.cls idx N) (hd : decode M.2.1 pc = .ok (.invokestatic idx, 3)) (hn : as.length = n) (h8 : (st.map fun v => v.category).sum ≤ 8)
    (hc : rx_C G N d as mu mc' ms' Q') (kk : ∀ v mu', Q' v mu' → rx_W G M (d + 1) (pc + 3) lv (v.toList ++ st) mu' mc ms Q Z) : rx_W G M (d + 1) pc lv (as.reverse ++ st) mu (mc' + mc) (ms' + ms) Q Z := by
  intro p e R s m args below meth c H locs cells slots MC MS ls C h1 h2 h3 h4 h5
  have hWs : G.2.1.WarmedH s.vm := C.2.2.2.2.2.2.2.1
  have hts := rx_goodc hG hWs hN args
  obtain ⟨hst, hl⟩ := hL
  obtain ⟨hcode, hini, hmx, hmh, hpar⟩ := hN
  have hlen : (rx_trs G as).length = n := by simp [rx_trs, hn]
  have hp : PreS s H (fun a U => a = (rx_trs G as).toArray ∧ rx_In G mu U.vm U.heap) (rx_trs G as) := ⟨rx_In_blind, fun U hU hW => ⟨rfl, State.WarmedH.trans hWs hW, by rw [hU]; exact h2.2.1, by rw [hU]; exact h2.2.2⟩⟩
  have hS : CallFix p m c M.2.1 M.2.2.1 s args [Cond.code N.1 N.2.1 N.2.2.1 N.2.2.2.1] M.1.cls := ⟨C.1, C.2.1, C.2.2.2.1, C.2.2.2.2.1, hts⟩
  have hfr : (rx_room d mc' ms').frames + 1 ≤ R.frames ∧ 8 + (N.2.2.1 + 11) + (rx_room d mc' ms').locals ≤ R.locals := ⟨h1.1, by show 8 + (N.2.2.1 + 11) + 40 * d ≤ R.locals; omega⟩
  have hstk : (F0 m pc ls (rx_trs G (as.reverse ++ st))).stack = (rx_trs G as).reverse ++ rx_trs G st := by rw [rx_rev, ← rx_trs_app]
  rcases hl with hl | ⟨host, hl⟩
  · refine rx_back C h1 h3 h4 h5 (va_runS (g := F0 m pc ls (rx_trs G (as.reverse ++ st))) hS hc ⟨callB_of n hts rx_goodi rfl rfl rfl (rx_w hG hWs hini rfl args) (rx_w hG hWs hl rfl args) ⟨hmh.1, hmh.2, hpar⟩ hfr, rx_w hG hWs hst rfl args⟩ hp rfl hlen (h5.1) hstk (lv_room (rx_rm8 h8)) hd ⟨by omega, by omega⟩) kk
  · refine rx_back C h1 h3 h4 h5 (va_runSN (g := F0 m pc ls (rx_trs G (as.reverse ++ st))) hS hc ⟨va_cnB n hts rx_goodi rfl rfl rfl (va_Nw.of rfl (rx_wM hG hWs hl args)) (rx_w hG hWs hini rfl args) ⟨hmh.1, hmh.2, hpar⟩ hfr, rx_w hG hWs hst rfl args, trivial⟩ hp rfl hlen (h5.1) hstk (lv_room (rx_rm8 h8)) hd ⟨by omega, by omega⟩) kk
theorem rx_invV {N : rx_Me} {idx n mc' ms' a ci : Nat} {as : List Value} {Q' : Option Value → rx_M → Prop} (hG : rx_OK G) (hN : rx_Me_ok N n) (hL : rx_LkV M.1.cls idx N ci) (hb : a < mu.2.2.2.2) (hk : (mu.2.2.2.1 a).1 = ci) (hd : decode M.2.1 pc = .ok (.invokevirtual idx, 3)) (hn : as.length = n) (h8 : (st.map fun v => v.category).sum ≤ 8)
    (hc : rx_C G N d (.ref a :: as) mu mc' ms' Q') (kk : ∀ v mu', Q' v mu' → rx_W G M (d + 1) (pc + 3) lv (v.toList ++ st) mu' mc ms Q Z) : rx_W G M (d + 1) pc lv (as.reverse ++ .ref a :: st) mu (mc' + mc) (ms' + ms) Q Z := by
  intro p e R s m args below meth c H locs cells slots MC MS ls C h1 h2 h3 h4 h5
  have hWs : G.2.1.WarmedH s.vm := C.2.2.2.2.2.2.2.1
  have hts := rx_goodc hG hWs hN args
  obtain ⟨⟨T, nf, hci, hcl, -⟩, hin, hsel, hl⟩ := hL
  have hcell := va_recv (rx_K hG hWs) (rx_P1 (rx_obj h2 hb hk hci)) hcl (q0 := 0) rfl
  obtain ⟨hcode, hini, hmx, hmh, hpar⟩ := hN
  have hlen : (rx_trs G as).length = n := by simp [rx_trs, hn]
  have hp : PreV s H N.1.cls (rx_B G + a) (fun v U => v = (rx_trs G (.ref a :: as)).toArray ∧ rx_In G mu U.vm U.heap) (rx_trs G as) := ⟨rx_In_blind, hcell, fun U hU hW => ⟨rfl, State.WarmedH.trans hWs hW, by rw [hU]; exact h2.2.1, by rw [hU]; exact h2.2.2⟩⟩
  have hS : CallFix p m c M.2.1 M.2.2.1 s args [Cond.code N.1 N.2.1 N.2.2.1 N.2.2.2.1] M.1.cls := ⟨C.1, C.2.1, C.2.2.2.1, C.2.2.2.2.1, hts⟩
  have hfr : (rx_room d mc' ms').frames + 1 ≤ R.frames ∧ 8 + (N.2.2.1 + 11) + (rx_room d mc' ms').locals ≤ R.locals := ⟨h1.1, by show 8 + (N.2.2.1 + 11) + 40 * d ≤ R.locals; omega⟩
  have hstk : (F0 m pc ls (rx_trs G (as.reverse ++ .ref a :: st))).stack = (rx_trs G as).reverse ++ .ref (rx_B G + a) :: rx_trs G st := by rw [rx_rev]; show rx_trs G (as.reverse ++ .ref a :: st) = _; rw [rx_trs_app]; rfl
  rcases hl with hl | ⟨host, hl⟩
  · refine rx_back C h1 h3 h4 h5 (va_runV (C := N.1.cls) (g := F0 m pc ls (rx_trs G (as.reverse ++ .ref a :: st))) hS hc ⟨callB_of n hts rx_goodi rfl rfl rfl (rx_w hG hWs hini rfl args) (rx_w hG hWs hl rfl args) ⟨hmh.1, hmh.2, hpar⟩ hfr, rx_w hG hWs hin rfl args, rx_w hG hWs hsel rfl args⟩ hp rfl hlen (h5.1) hstk (lv_room (rx_rm8 h8)) hd ⟨by omega, by omega⟩) kk
  · refine rx_back C h1 h3 h4 h5 (va_runVN (C := N.1.cls) (g := F0 m pc ls (rx_trs G (as.reverse ++ .ref a :: st))) hS hc ⟨va_cnB n hts rx_goodi rfl rfl rfl (va_Nw.of rfl (rx_wM hG hWs hl args)) (rx_w hG hWs hini rfl args) ⟨hmh.1, hmh.2, hpar⟩ hfr, rx_w hG hWs hin rfl args, rx_w hG hWs hsel rfl args⟩ hp rfl hlen (h5.1) hstk (lv_room (rx_rm8 h8)) hd ⟨by omega, by omega⟩) kk
theorem rx_invI {N : rx_Me} {idx n mc' ms' a ci : Nat} {as : List Value} {Q' : Option Value → rx_M → Prop} (hG : rx_OK G) (hN : rx_Me_ok N n) (hL : rx_LkI M.1.cls idx N ci) (hd : decode M.2.1 pc = .ok (.invokespecial idx, 3)) (hn : as.length = n) (h8 : (st.map fun v => v.category).sum ≤ 8)
    (hc : rx_C G N d (.ref a :: as) mu mc' ms' Q') (kk : ∀ v mu', Q' v mu' → rx_W G M (d + 1) (pc + 3) lv (v.toList ++ st) mu' mc ms Q Z) : rx_W G M (d + 1) pc lv (as.reverse ++ .ref a :: st) mu (mc' + mc) (ms' + ms) Q Z := by
  intro p e R s m args below meth c H locs cells slots MC MS ls C h1 h2 h3 h4 h5
  have hWs : G.2.1.WarmedH s.vm := C.2.2.2.2.2.2.2.1
  have hts := rx_goodc hG hWs hN args
  obtain ⟨-, hnm, hnr, hin, hl⟩ := hL
  obtain ⟨yN, cN, lN0, rN, tN0⟩ := N
  dsimp only at hnr hnm hin hl
  subst hnr
  obtain ⟨hcode, hini, hmx, hmh, hpar⟩ := hN
  have hmx : lN0 ≤ 21 := hmx
  have hlen : (rx_trs G as).length = n := by simp [rx_trs, hn]
  have hp : PreS s H (fun v U => v = (rx_trs G (.ref a :: as)).toArray ∧ rx_In G mu U.vm U.heap) (.ref (rx_B G + a) :: rx_trs G as) := ⟨rx_In_blind, fun U hU hW => ⟨rfl, State.WarmedH.trans hWs hW, by rw [hU]; exact h2.2.1, by rw [hU]; exact h2.2.2⟩⟩
  have hS : CallFix p m c M.2.1 M.2.2.1 s args [Cond.code yN cN lN0 none] M.1.cls := ⟨C.1, C.2.1, C.2.2.2.1, C.2.2.2.2.1, hts⟩
  have hfr : (rx_room d mc' ms').frames + 1 ≤ R.frames ∧ 8 + (lN0 + 11) + (rx_room d mc' ms').locals ≤ R.locals := ⟨h1.1, by show 8 + (lN0 + 11) + 40 * d ≤ R.locals; omega⟩
  have hstk : (F0 m pc ls (rx_trs G (as.reverse ++ .ref a :: st))).stack = (rx_trs G as).reverse ++ .ref (rx_B G + a) :: rx_trs G st := by rw [rx_rev]; show rx_trs G (as.reverse ++ .ref a :: st) = _; rw [rx_trs_app]; rfl
  rcases hl with hl | ⟨host, hl⟩
  · refine rx_back C h1 h3 h4 h5 (va_runI (g := F0 m pc ls (rx_trs G (as.reverse ++ .ref a :: st))) hS hc ⟨callB_of n hts rx_goodi rfl rfl rfl (rx_w hG hWs hini rfl args) (rx_w hG hWs hl rfl args) ⟨hmh.1, hmh.2, hpar⟩ hfr, hnm, rx_w hG hWs hin rfl args⟩ hp rfl hlen (h5.1) hstk (lv_room (rx_rm8 h8)) hd ⟨by omega, by omega⟩) kk
  · refine rx_back C h1 h3 h4 h5 (va_runIN (g := F0 m pc ls (rx_trs G (as.reverse ++ .ref a :: st))) hS hc ⟨va_cnB n hts rx_goodi rfl rfl rfl (va_Nw.of rfl (rx_wM hG hWs hl args)) (rx_w hG hWs hini rfl args) ⟨hmh.1, hmh.2, hpar⟩ hfr, hnm, rx_w hG hWs hin rfl args⟩ hp rfl hlen (h5.1) hstk (lv_room (rx_rm8 h8)) hd ⟨by omega, by omega⟩) kk
end RXC

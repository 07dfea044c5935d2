/-- a new cell of a kind, of n places: all is 0, or none -/
def rx_al (mu : rx_M) (t n : Nat) : rx_M := (rx_k1 mu.1 mu.2.2.2.2 (fun _ => 0), rx_k1 mu.2.1 mu.2.2.2.2 (fun _ => 0), rx_k1 mu.2.2.1 mu.2.2.2.2 (fun _ => none), rx_k1 mu.2.2.2.1 mu.2.2.2.2 (t, n), mu.2.2.2.2 + 1)
theorem rx_k1_self {α : Type} (f : Nat → α) (a : Nat) (x : α) : rx_k1 f a x a = x := by simp [rx_k1]
theorem rx_k1_ne {α : Type} (f : Nat → α) {a b : Nat} (x : α) (h : b ≠ a) : rx_k1 f a x b = f b := by simp [rx_k1, h]
def rx_dv (t : Nat) : Value := if t = 0 then .int 0 else if t = 1 then .long 0 else .null
theorem rx_In_push {G : rx_E} {mu : rx_M} {vm : Vm} {H H1 : Heap} {t n : Nat} (h : rx_In G mu vm H) (hs : H1.size = H.size + 1) (oq : ∀ q : Nat, q < H.size → H1[q]? = H[q]?) (hat : va_at G.2.2.1 vwCl (rx_B G + mu.2.2.2.2, rx_ent G (rx_al mu t n) mu.2.2.2.2) H1) : rx_In G (rx_al mu t n) vm H1 := by
  have hz := h.2.1.1
  refine ⟨h.1, ⟨by rw [hs, hz]; rfl, fun a ha hk => ?_⟩, fun q hq => (oq q (by omega)).trans (h.2.2 q hq)⟩
  by_cases hn : a = mu.2.2.2.2
  · subst hn
    exact hat
  · have ha' : a < mu.2.2.2.2 := by have : a < mu.2.2.2.2 + 1 := ha; omega
    have hk' : (mu.2.2.2.1 a).1 < 20 := by rw [← rx_k1_ne mu.2.2.2.1 (t, n) hn]; exact hk
    rw [rx_ent_eq (mu := mu) (mu' := rx_al mu t n) (rx_k1_ne _ _ hn) (rx_k1_ne _ _ hn) (rx_k1_ne _ _ hn) (rx_k1_ne _ _ hn)]
    exact (h.2.1.2 a ha' hk').kept (oq _ (by show rx_B G + a < H.size; omega))
section RXN
variable {G : rx_E} {M : rx_Me} {d pc mc ms : Nat} {lv : List (Nat × Value)} {st : List Value} {mu : rx_M} {Q : Option Value → rx_M → Prop} {Z : String → rx_M → Prop}
theorem rx_new {idx ci N : Nat} {C0 : String} {T : u_T} (hG : rx_OK G) (hCl : rx_Cl ci C0 T N) (hw : Cond.classLink M.1.cls idx C0 ∈ lw_tbl ∧ Cond.instantiable C0 N ∈ lw_tbl ∧ Cond.initialized C0 ∈ lw_tbl) (hdv : ∀ j, j < N → defaultValue ((rx_ty ci).1 j) = rx_dv (rx_tc ((rx_ty ci).1 j))) (hd : decode M.2.1 pc = .ok (.new idx, 3))
    (kk : rx_W G M d (pc + 3) lv (.ref mu.2.2.2.2 :: st) (rx_al mu ci N) mc ms Q Z) : rx_W G M d pc lv st mu (mc + 1) (ms + N) Q Z := by
  intro p e R s m args below meth c H locs cells slots MC MS ls C h1 h2 h3 h4 h5
  have hWs : G.2.1.WarmedH s.vm := C.2.2.2.2.2.2.2.1
  obtain ⟨hci, hc, hws, hN, hty, hnm⟩ := hCl
  have hts : ∀ w ∈ u_ws C0 T N, w.before args s = true := fun w h => rx_w hG hWs (hws w h).1 (hws w h).2 args
  have hKn := (rx_K hG hWs).1 ci _ hc
  refine W.newcK C.1 C.2.1 C.2.2.2.2.1 (rx_w hG hWs hw.1 rfl args) (rx_w hG hWs hw.2.1 rfl args) (rx_w hG hWs hw.2.2 rfl args) rfl hd (by omega) (by omega) hKn.2.1 rfl fun H1 kC hkC e1 z1 o1 => ?_
  have hat : va_at G.2.2.1 vwCl (rx_B G + mu.2.2.2.2, rx_ent G (rx_al mu ci N) mu.2.2.2.2) H1 := by
    rw [rx_ent_obj (ci := ci) (congrArg Prod.fst (rx_k1_self mu.2.2.2.1 mu.2.2.2.2 (ci, N))) hci]
    have e1' : H1[rx_B G + mu.2.2.2.2]? = some (blank (G.2.2.1.1 ci) kC) := by rw [← h2.2.1.1]; exact e1
    refine ⟨_, hc, (u_born (rx_ty ci).1 hts (fun _ h => h) hKn hkC e1' hty).to (fun j hj => ?_)⟩
    rw [hdv j hj]
    have hj' : j < (rx_ty ci).2 := by rw [hN]; exact hj
    simp only [vp_V, List.getD_eq_getElem?_getD, rx_row_get hj', Option.getD_some]
    simp only [rx_fv, rx_al, rx_k1_self, rx_dv]
    split
    · rfl
    · split <;> rfl
  have := kk p e R s m args below meth c H1 locs (cells + 1) (slots + N) MC MS ls C ⟨h1.1, h1.2.1, by omega, by omega, h1.2.2.2.2.1, h1.2.2.2.2.2⟩ (rx_In_push h2 z1 o1 hat) (by rw [z1]; exact Nat.le_succ_of_le h3) h4 h5
  rw [h2.2.1.1]
  exact this
theorem rx_newa {x : Int32} {n t : Nat} {atype : ArrayType} (hG : rx_OK G) (ht : (t = 12 ∧ atype = .byte) ∨ (t = 13 ∧ atype = .int) ∨ (t = 14 ∧ atype = .long) ∨ (t = 15 ∧ atype = .boolean)) (hw : Cond.arrayClass (newarray.typeOf atype) ∈ lw_tbl) (hd : decode M.2.1 pc = .ok (.newarray atype, 2)) (hx : x = nI n) (hn : n < 65536)
    (kk : rx_W G M d (pc + 2) lv (.ref mu.2.2.2.2 :: st) (rx_al mu t n) mc ms Q Z) : rx_W G M d pc lv (.int x :: st) mu (mc + 1) (ms + n) Q Z := by
  intro p e R s m args below meth c H locs cells slots MC MS ls C h1 h2 h3 h4 h5
  have hWs : G.2.1.WarmedH s.vm := C.2.2.2.2.2.2.2.1
  subst hx
  refine va_newaK C.1 C.2.1 (rx_w hG hWs hw rfl args) rfl hd rfl (nI_pos (by omega)) (nI_clamp (by omega)) (by rcases ht with ⟨-, rfl⟩ | ⟨-, rfl⟩ | ⟨-, rfl⟩ | ⟨-, rfl⟩ <;> simp [newarray.typeOf, componentBytes] <;> omega) (by omega) (by omega) rfl fun H1 cA e1 z1 o1 hAr hNm => ?_
  have hat : va_at G.2.2.1 vwCl (rx_B G + mu.2.2.2.2, rx_ent G (rx_al mu t n) mu.2.2.2.2) H1 := by
    have e1' := e1
    rw [h2.2.1.1] at e1'
    unfold rx_ent
    simp only [rx_al, rx_k1_self]
    rcases ht with ⟨rfl, rfl⟩ | ⟨rfl, rfl⟩ | ⟨rfl, rfl⟩ | ⟨rfl, rfl⟩
    · have hcA : G.2.2.2.1 12 = cA := Option.some.inj ((rx_aty hG hWs 0 rfl).2.symm.trans hNm)
      rw [if_neg (by decide), if_neg (by decide), if_pos (by decide), hcA]
      exact e1'
    · have hcA : G.2.2.2.1 13 = cA := Option.some.inj ((rx_aty hG hWs 1 rfl).2.symm.trans hNm)
      rw [if_neg (by decide), if_neg (by decide), if_pos (by decide), hcA]
      exact e1'
    · have hcA : G.2.2.2.1 14 = cA := Option.some.inj ((rx_aty hG hWs 2 rfl).2.symm.trans hNm)
      rw [if_neg (by decide), if_pos rfl, hcA]
      exact e1'
    · have hcA : G.2.2.2.1 15 = cA := Option.some.inj ((rx_aty hG hWs 3 rfl).2.symm.trans hNm)
      rw [if_neg (by decide), if_neg (by decide), if_pos (by decide), hcA]
      exact e1'
  have := kk p e R s m args below meth c H1 locs (cells + 1) (slots + n) MC MS ls C ⟨h1.1, h1.2.1, by omega, by omega, h1.2.2.2.2.1, h1.2.2.2.2.2⟩ (rx_In_push h2 z1 o1 hat) (by rw [z1]; exact Nat.le_succ_of_le h3) h4 h5
  rw [h2.2.1.1]
  exact this
theorem rx_objI {idx a : Nat} (hG : rx_OK G) (hw : Cond.methodLink M.1.cls idx Lib.objectInit ∈ lw_tbl ∧ Cond.instanceMethod Lib.objectInit ∈ lw_tbl ∧ Cond.code Lib.objectInit ⟨#[0xb1]⟩ 1 none ∈ lw_tbl) (hd : decode M.2.1 pc = .ok (.invokespecial idx, 3)) (h8 : (st.map fun v => v.category).sum ≤ 8)
    (kk : rx_W G M (d + 1) (pc + 3) lv st mu mc ms Q Z) : rx_W G M (d + 1) pc lv (.ref a :: st) mu mc ms Q Z := by
  intro p e R s m args below meth c H locs cells slots MC MS ls C h1 h2 h3 h4 h5
  have hWs : G.2.1.WarmedH s.vm := C.2.2.2.2.2.2.2.1
  have h9 := lv_room (m := m) (pc := pc) (ls := ls) (rest := rx_trs G (.ref a :: st)) (rx_rm8 (G := G) h8)
  refine W.objInit C.1 C.2.1 C.2.2.2.2.1 (rx_w hG hWs hw.1 rfl args) (rx_w hG hWs hw.2.1 rfl args) (rx_w hG hWs hw.2.2 rfl args) rfl (h5.1.trans C.2.2.2.1.symm) rfl hd (by omega) (Nat.le_trans (Nat.add_le_add_right h9 12) (by omega)) ?_
  exact kk p e R s m args below meth c H locs cells slots MC MS ls C h1 h2 h3 h4 h5
theorem rx_anew {x : Int32} {n t idx : Nat} (hG : rx_OK G) (ht : 16 ≤ t ∧ t < 20) (hw : Cond.classLink M.1.cls idx (rx_el t) ∈ lw_tbl ∧ Cond.arrayOver (.object (rx_el t)) ∈ lw_tbl) (hd : decode M.2.1 pc = .ok (.anewarray idx, 3)) (hx : x = nI n) (hn : n < 65536)
    (kk : rx_W G M d (pc + 3) lv (.ref mu.2.2.2.2 :: st) (rx_al mu t n) mc ms Q Z) : rx_W G M d pc lv (.int x :: st) mu (mc + 1) (ms + n) Q Z := by
  intro p e R s m args below meth c H locs cells slots MC MS ls C h1 h2 h3 h4 h5
  have hWs : G.2.1.WarmedH s.vm := C.2.2.2.2.2.2.2.1
  subst hx
  have hcl : (nI n).toNatClampNeg = n := nI_clamp (by omega)
  obtain ⟨a9, ha9⟩ := hG.1 _ hw.2
  refine W.anew C.1 C.2.1 C.2.2.2.2.1 (rx_w hG hWs hw.1 rfl args) (va_AO.use (va_AO.moved hWs.alike (va_AO.of ha9))) rfl hd rfl (nI_pos (by omega)) (by rw [hcl]; omega) (by omega) (by rw [hcl]; omega) fun cA kA comp f1 f2 f3 f4 => ?_
  rw [hcl]
  generalize hH1 : H.push ({ cls := cA, slots := Array.replicate n .null, vm := .none } : Cell) = H1
  have z1 : H1.size = H.size + 1 := by rw [← hH1, Array.size_push]
  have e1 : H1[H.size]? = some (arrV cA n (fun _ => .null)) := by rw [← hH1, Array.getElem?_push_size, ← arrV_new]
  have o1 : ∀ q : Nat, q < H.size → H1[q]? = H[q]? := fun q hq => by rw [← hH1, Array.getElem?_push, if_neg (Nat.ne_of_lt hq)]
  have hat : va_at G.2.2.1 vwCl (rx_B G + mu.2.2.2.2, rx_ent G (rx_al mu t n) mu.2.2.2.2) H1 := by
    have e1' := e1
    rw [h2.2.1.1] at e1'
    obtain ⟨-, -, -, -, -, hnm⟩ := (rx_aty hG hWs (t - 12) (rx_tysR ht)).2
    have hcA : G.2.2.2.1 t = cA := Option.some.inj (hnm.symm.trans f1)
    unfold rx_ent
    simp only [rx_al, rx_k1_self]
    rw [if_neg (by omega), if_neg (by omega), if_neg (by omega), hcA]
    exact e1'
  have := kk p e R s m args below meth c H1 locs (cells + 1) (slots + n) MC MS ls C ⟨h1.1, h1.2.1, by omega, by omega, h1.2.2.2.2.1, h1.2.2.2.2.2⟩ (rx_In_push h2 z1 o1 hat) (by rw [z1]; exact Nat.le_succ_of_le h3) h4 h5
  rw [h2.2.1.1]
  exact this
theorem rx_eli_cl {t : Nat} (ht : 16 ≤ t ∧ t < 20) : ∃ (T : u_T) (N : Nat), vwCl[rx_eli t]? = some (rx_el t, T, N) ∧ rx_eli t < 12 := by
  have : t = 16 ∨ t = 17 ∨ t = 18 ∨ t = 19 := by omega
  rcases this with rfl | rfl | rfl | rfl
  · exact ⟨_, _, rfl, by decide⟩
  · exact ⟨_, _, rfl, by decide⟩
  · exact ⟨_, _, rfl, by decide⟩
  · exact ⟨_, _, rfl, by decide⟩
theorem rx_aast {a j n t r : Nat} {i : Int32} (hG : rx_OK G) (hd : decode M.2.1 pc = .ok (.aastore, 1)) (hn : a < mu.2.2.2.2) (hk : mu.2.2.2.1 a = (t, n)) (ht : 16 ≤ t ∧ t < 20) (hi : i = nI j) (hj : j < n) (hN : n < 2147483648) (hr : r < mu.2.2.2.2) (hkr : (mu.2.2.2.1 r).1 = rx_eli t)
    (kk : rx_W G M d (pc + 1) lv st (mu.1, mu.2.1, rx_u mu.2.2.1 a j (some r), mu.2.2.2) mc ms Q Z) : rx_W G M d pc lv (.ref r :: .int i :: .ref a :: st) mu mc ms Q Z := by
  intro p e R s m args below meth c H locs cells slots MC MS ls C h1 h2 h3 h4 h5
  subst hi
  have hWs : G.2.1.WarmedH s.vm := C.2.2.2.2.2.2.2.1
  have hcl : (nI j).toNatClampNeg = j := nI_clamp (by omega)
  obtain ⟨T, NN, hel, hel12⟩ := rx_eli_cl ht
  obtain ⟨r', hr', cellV, g1, g2, g3, -⟩ := rx_obj h2 hr hkr hel12
  have hcls := ((rx_K hG hWs).1 (rx_eli t) _ hel).2
  obtain ⟨kA, comp, k1, k2, k3, -⟩ := (rx_aty hG hWs (t - 12) (rx_tysR ht)).2
  have hcomp : comp = G.2.2.1.1 (rx_eli t) := Option.some.inj (k3.symm.trans hcls.1)
  subst hcomp
  obtain ⟨kC, hkC, -⟩ := hcls.2
  refine W.aast C.1 C.2.1 (rx_arrR h2 hn hk ht) (fun q h => by cases h) (fun h => by cases h) k1 k2 rfl hkC ⟨nI_pos (by omega), by show _ < (arrV _ _ _).slots.size; rw [arrV_size, hcl]; exact hj⟩ g1 (fun q h => by rw [g3] at h; cases h) (by rw [g2]; exact hkC) (by rw [g2]; exact va_assign hcls) rfl rfl hd fun H1 e1 e2 e3 => ?_
  rw [hcl] at e1 ⊢
  refine kk p e R s m args below meth c H1 _ cells slots MC MS ls C h1 (rx_In_set (a := a) h2 e2 e3 rfl (fun b hb => ⟨rfl, rfl, rx_u_ne _ _ _ hb⟩) ?_) (by rw [e2]; exact h3) (rx_locs h4) h5
  unfold rx_ent
  simp only [hk]
  rw [if_neg (by omega), if_neg (by omega), if_neg (by omega)]
  show H1[rx_B G + a]? = _
  rw [e1, vp_cell_q, vp_cell_q, arrV_store, rx_u_self]
  refine congrArg some (congrArg (arrV _ _) (funext fun b => ?_))
  by_cases hb : b = j
  · subst hb; simp [updV, va_rf]
  · simp [updV, hb]
theorem rx_S {s : State} {H : Heap} {locs : List Loc} {mu : rx_M} {vm : Vm} (hB : rx_B G ≤ s.heap.size) (hs : ∀ q, q < rx_B G → s.heap[q]? = G.2.1.heap[q]?) (h2 : rx_In G mu vm H) (h3 : s.heap.size ≤ H.size) (h4 : ∀ q ∈ locs, rx_B G ≤ q.base) : va_S (rx_A G) s.heap H locs :=
  ⟨h3, fun q _ hA => by have hq : q < rx_B G := Nat.not_le.mp hA; rw [h2.2.2 q hq, hs q hq], h4⟩
theorem rx_keptB {s : State} (hs : ∀ q, q < rx_B G → s.heap[q]? = G.2.1.heap[q]?) : ∀ a : Nat, a < G.2.1.heap.size → ¬ rx_A G a → s.heap[a]? = G.2.1.heap[a]? := fun a _ h => hs a (Nat.not_le.mp h)
/-- a static row of ints -/
theorem rx_getsC {idx : Nat} (hG : rx_OK G) (hw : Cond.fieldLink M.1.cls idx RX7 "COSTS" "[I" ∈ lw_tbl) (hd : decode M.2.1 pc = .ok (.getstatic idx, 3)) (k : rx_W G M d (pc + 3) lv (.float 1 :: st) mu mc ms Q Z) : rx_W G M d pc lv st mu mc ms Q Z := by
  intro p e R s m args below meth c H locs cells slots MC MS ls C h1 h2 h3 h4 h5
  have hWs : G.2.1.WarmedH s.vm := C.2.2.2.2.2.2.2.1
  have hB := C.2.2.2.2.2.2.2.2.1
  have hs := C.2.2.2.2.2.2.2.2.2.1
  exact va_gets C.1 C.2.1 (va_Z.kept (va_Z.moved hWs.alike hG.2.2.1.1) (rx_keptB hs)) (rx_S hB hs h2 h3 h4) C.2.2.2.2.1 (rx_w hG hWs hw rfl args) (fun _ h => h) hd (k p e R s m args below meth c H locs cells slots MC MS ls C h1 h2 h3 h4 h5)
theorem rx_getsT {idx : Nat} (hG : rx_OK G) (hw : Cond.fieldLink M.1.cls idx RX6 "TAKES" "[I" ∈ lw_tbl) (hd : decode M.2.1 pc = .ok (.getstatic idx, 3)) (k : rx_W G M d (pc + 3) lv (.float 2 :: st) mu mc ms Q Z) : rx_W G M d pc lv st mu mc ms Q Z := by
  intro p e R s m args below meth c H locs cells slots MC MS ls C h1 h2 h3 h4 h5
  have hWs : G.2.1.WarmedH s.vm := C.2.2.2.2.2.2.2.1
  have hB := C.2.2.2.2.2.2.2.2.1
  have hs := C.2.2.2.2.2.2.2.2.2.1
  exact va_gets C.1 C.2.1 (va_Z.kept (va_Z.moved hWs.alike hG.2.2.2.1.1) (rx_keptB hs)) (rx_S hB hs h2 h3 h4) C.2.2.2.2.1 (rx_w hG hWs hw rfl args) (fun _ h => h) hd (k p e R s m args below meth c H locs cells slots MC MS ls C h1 h2 h3 h4 h5)
theorem rx_ialdC {j : Nat} {i : Int32} (hG : rx_OK G) (hd : decode M.2.1 pc = .ok (.iaload, 1)) (hi : i = nI j) (hj : j < 40) (k : rx_W G M d (pc + 1) lv (.int (rx_costs.getD j 0) :: st) mu mc ms Q Z) : rx_W G M d pc lv (.int i :: .float 1 :: st) mu mc ms Q Z := by
  intro p e R s m args below meth c H locs cells slots MC MS ls C h1 h2 h3 h4 h5
  subst hi
  have hWs : G.2.1.WarmedH s.vm := C.2.2.2.2.2.2.2.1
  have hB := C.2.2.2.2.2.2.2.2.1
  have hs := C.2.2.2.2.2.2.2.2.2.1
  exact va_ti (v := .int (rx_costs.getD j 0)) C.1 C.2.1 (va_T.kept (va_T.moved hWs.alike hG.2.2.1.2) (rx_keptB hs)) (rx_S hB hs h2 h3 h4) (vp_in_nI hj (by decide)) (by rw [nI_clamp (by omega)]) hd (k p e R s m args below meth c H locs cells slots MC MS ls C h1 h2 h3 h4 h5)
theorem rx_ialdT {j : Nat} {i : Int32} (hG : rx_OK G) (hd : decode M.2.1 pc = .ok (.iaload, 1)) (hi : i = nI j) (hj : j < 40) (k : rx_W G M d (pc + 1) lv (.int (rx_takes.getD j 0) :: st) mu mc ms Q Z) : rx_W G M d pc lv (.int i :: .float 2 :: st) mu mc ms Q Z := by
  intro p e R s m args below meth c H locs cells slots MC MS ls C h1 h2 h3 h4 h5
  subst hi
  have hWs : G.2.1.WarmedH s.vm := C.2.2.2.2.2.2.2.1
  have hB := C.2.2.2.2.2.2.2.2.1
  have hs := C.2.2.2.2.2.2.2.2.2.1
  exact va_ti (v := .int (rx_takes.getD j 0)) C.1 C.2.1 (va_T.kept (va_T.moved hWs.alike hG.2.2.2.1.2) (rx_keptB hs)) (rx_S hB hs h2 h3 h4) (vp_in_nI hj (by decide)) (by rw [nI_clamp (by omega)]) hd (k p e R s m args below meth c H locs cells slots MC MS ls C h1 h2 h3 h4 h5)
/-- the script: its length, an int of it -/
theorem rx_slen (hG : rx_OK G) (hd : decode M.2.1 pc = .ok (.arraylength, 1)) (k : rx_W G M d (pc + 1) lv (.int (nI G.2.2.2.2.2.1) :: st) mu mc ms Q Z) : rx_W G M d pc lv (.float 0 :: st) mu mc ms Q Z := by
  intro p e R s m args below meth c H locs cells slots MC MS ls C h1 h2 h3 h4 h5
  have hWs : G.2.1.WarmedH s.vm := C.2.2.2.2.2.2.2.1
  have hB := C.2.2.2.2.2.2.2.2.1
  have hs := C.2.2.2.2.2.2.2.2.2.1
  have hb := hG.2.2.2.2.2.1
  exact va_slen C.1 C.2.1 (va_X.kept (va_X.moved hWs.alike hG.2.2.2.2.1) (hs _ hb)) (Nat.lt_of_lt_of_le hb hB) (show ¬ rx_A G _ from Nat.not_le.mpr hb) (rx_S hB hs h2 h3 h4) hd (k p e R s m args below meth c H locs cells slots MC MS ls C h1 h2 h3 h4 h5)
theorem rx_sld {j : Nat} {i : Int32} (hG : rx_OK G) (hd : decode M.2.1 pc = .ok (.iaload, 1)) (hi : i = nI j) (hj : j < G.2.2.2.2.2.1) (k : rx_W G M d (pc + 1) lv (.int (G.2.2.2.2.2.2 j) :: st) mu mc ms Q Z) : rx_W G M d pc lv (.int i :: .float 0 :: st) mu mc ms Q Z := by
  intro p e R s m args below meth c H locs cells slots MC MS ls C h1 h2 h3 h4 h5
  subst hi
  have hWs : G.2.1.WarmedH s.vm := C.2.2.2.2.2.2.2.1
  have hB := C.2.2.2.2.2.2.2.2.1
  have hs := C.2.2.2.2.2.2.2.2.2.1
  have hb := hG.2.2.2.2.2.1
  have hL := hG.2.2.2.2.2.2.1
  have kk := k p e R s m args below meth c H locs cells slots MC MS ls C h1 h2 h3 h4 h5
  refine va_sld C.1 C.2.1 (va_X.kept (va_X.moved hWs.alike hG.2.2.2.2.1) (hs _ hb)) (Nat.lt_of_lt_of_le hb hB) (show ¬ rx_A G _ from Nat.not_le.mpr hb) (rx_S hB hs h2 h3 h4) (vp_in_nI hj (by omega)) hd ?_
  rw [nI_clamp (by omega)]
  exact kk
end RXN

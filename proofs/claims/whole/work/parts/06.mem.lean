/-- the array classes, by kind -/
def rx_tys (G : rx_E) : List (ClassId × FieldType) := [(G.2.2.2.1 12, .byte), (G.2.2.2.1 13, .int), (G.2.2.2.1 14, .long), (G.2.2.2.1 15, .boolean), (G.2.2.2.1 16, .object RX0), (G.2.2.2.1 17, .object RX2), (G.2.2.2.1 18, .object RX6), (G.2.2.2.1 19, .object RX8)]
def rx_costs : List Int32 := [0, 1, 2, 1, 1, 1, 1, 1, 2, 3, 3, 1, 1, 1, 1, 1, 1, 1, 1, 2, 2, 10, 20, 1, 1, 1, 1, 1, 1, 1, 5, 30, 25, 100, 40, 15, 0, 0, 20, 3]
def rx_takes : List Int32 := [0, 0, 0, 1, 0, 0, 2, 2, 2, 2, 2, 2, 2, 2, 2, 2, 2, 2, 1, 0, 1, 1, 2, 0, 0, 0, 0, 0, 0, 0, 1, 4, 3, 2, 1, 2, 1, 1, 1, 0]
def rx_A (G : rx_E) : Nat → Prop := fun q => rx_B G ≤ q
/-- what holds at the law's start -/
def rx_OK (G : rx_E) : Prop := (∀ w ∈ lw_tbl, ∃ a, w.before a G.2.1 = true) ∧ va_K G.2.2.1 vwCl (rx_tys G) G.2.1 ∧
  (va_Z RX7 "COSTS" "[I" (.ref (G.2.2.2.2.1 1)) (rx_A G) G.2.1 G.2.1.heap ∧ va_T .int (G.2.2.2.2.1 1) 40 (fun j => .int (rx_costs.getD j 0)) (rx_A G) G.2.1 G.2.1.heap) ∧
  (va_Z RX6 "TAKES" "[I" (.ref (G.2.2.2.2.1 2)) (rx_A G) G.2.1 G.2.1.heap ∧ va_T .int (G.2.2.2.2.1 2) 40 (fun j => .int (rx_takes.getD j 0)) (rx_A G) G.2.1 G.2.1.heap) ∧
  (va_X (G.2.2.2.2.1 0) G.2.2.2.2.2.1 G.2.2.2.2.2.2 G.2.1 G.2.1.heap ∧ G.2.2.2.2.1 0 < rx_B G ∧ G.2.2.2.2.2.1 ≤ 5120 ∧
  G.1.stackTraces = false ∧ vx_Zq Bundle.tN "UNASSIGNED_STACK" Bundle.steD (rx_A G) G.2.1 G.2.1.heap ∧ vx_Zq Bundle.tN "SUPPRESSED_SENTINEL" Bundle.listD (rx_A G) G.2.1 G.2.1.heap)
theorem rx_w {G : rx_E} {s : State} {w : Cond} (h : rx_OK G) (hW : G.2.1.WarmedH s.vm) (hm : w ∈ lw_tbl) (hg : goodWord w = true) (args : Array Value) : w.before args s = true := by
  obtain ⟨a, ha⟩ := h.1 w hm
  exact word_at hW (good_of_word hg) ha
theorem rx_wN {G : rx_E} {s : State} {a : String} {i : Nat} {b n d h0 : String} (h : rx_OK G) (hW : G.2.1.WarmedH s.vm) (hm : Cond.fieldLinkNest a i b n d h0 ∈ lw_tbl) (args : Array Value) : (Cond.fieldLinkNest a i b n d h0).before args s = true := by
  obtain ⟨a9, ha⟩ := h.1 _ hm
  exact va_Nw.use rfl (va_Nw.warmF hW (va_Nw.of rfl ha))
theorem rx_wM {G : rx_E} {s : State} {a : String} {i : Nat} {x : MethodName} {h0 : String} (h : rx_OK G) (hW : G.2.1.WarmedH s.vm) (hm : Cond.methodLinkNest a i x h0 ∈ lw_tbl) (args : Array Value) : (Cond.methodLinkNest a i x h0).before args s = true := by
  obtain ⟨a9, ha⟩ := h.1 _ hm
  exact va_Nw.use rfl (va_Nw.warmM hW (va_Nw.of rfl ha))
theorem rx_K {G : rx_E} {s : State} (h : rx_OK G) (hW : G.2.1.WarmedH s.vm) : va_K G.2.2.1 vwCl (rx_tys G) s := va_K.moved hW.alike h.2.1
/-- a class of objects: its row in the list, its words, its fields' types -/
def rx_Cl (ci : Nat) (C : String) (T : u_T) (N : Nat) : Prop := ci < 12 ∧ vwCl[ci]? = some (C, T, N) ∧ (∀ w ∈ u_ws C T N, w ∈ lw_tbl ∧ goodWord w = true) ∧ (rx_ty ci).2 = N ∧ (∀ k, k < N → parseFieldDescriptor (T k).2.2.1 = some ((rx_ty ci).1 k)) ∧ (∀ a, a < N → ∀ b, b < N → a ≠ b → (T a).2.1 ≠ (T b).2.1)
/-- a field by a class's own constant: its class's kind, its place, its type -/
def rx_Fd (own : String) (idx ci k : Nat) (ty : FieldType) : Prop := ∃ (C : String) (T : u_T) (N : Nat), rx_Cl ci C T N ∧ k < N ∧ (rx_ty ci).1 k = ty ∧ ((Cond.fieldLink own idx (T k).1 (T k).2.1 (T k).2.2.1 ∈ lw_tbl) ∨ ∃ host, Cond.fieldLinkNest own idx (T k).1 (T k).2.1 (T k).2.2.1 host ∈ lw_tbl)
theorem rx_ent_eq {G : rx_E} {mu mu' : rx_M} {a : Nat} (h1 : mu'.1 a = mu.1 a) (h2 : mu'.2.1 a = mu.2.1 a) (h3 : mu'.2.2.1 a = mu.2.2.1 a) (h4 : mu'.2.2.2.1 a = mu.2.2.2.1 a) : rx_ent G mu' a = rx_ent G mu a := by
  simp only [rx_ent, rx_row, rx_fv, h1, h2, h3, h4]
theorem rx_Rel_set {G : rx_E} {mu mu' : rx_M} {H H1 : Heap} {a : Nat} (h : rx_Rel G mu H) (hs : H1.size = H.size) (oq : ∀ q : Nat, q ≠ rx_B G + a → H1[q]? = H[q]?) (hk : mu'.2.2.2 = mu.2.2.2)
    (ho : ∀ b, b ≠ a → mu'.1 b = mu.1 b ∧ mu'.2.1 b = mu.2.1 b ∧ mu'.2.2.1 b = mu.2.2.1 b) (hat : va_at G.2.2.1 vwCl (rx_B G + a, rx_ent G mu' a) H1) : rx_Rel G mu' H1 := by
  refine ⟨by rw [hs, h.1, hk], fun b hb hkb => ?_⟩
  by_cases hba : b = a
  · subst hba
    exact hat
  · rw [hk] at hb hkb
    obtain ⟨h1, h2, h3⟩ := ho b hba
    rw [rx_ent_eq h1 h2 h3 (by rw [hk])]
    exact (h.2 b hb hkb).kept (oq _ (fun q => hba (Nat.add_left_cancel q)))
theorem rx_In_set {G : rx_E} {mu mu' : rx_M} {vm : Vm} {H H1 : Heap} {a : Nat} (h : rx_In G mu vm H) (hs : H1.size = H.size) (oq : ∀ q : Nat, q ≠ rx_B G + a → H1[q]? = H[q]?) (hk : mu'.2.2.2 = mu.2.2.2)
    (ho : ∀ b, b ≠ a → mu'.1 b = mu.1 b ∧ mu'.2.1 b = mu.2.1 b ∧ mu'.2.2.1 b = mu.2.2.1 b) (hat : va_at G.2.2.1 vwCl (rx_B G + a, rx_ent G mu' a) H1) : rx_In G mu' vm H1 :=
  ⟨h.1, rx_Rel_set h.2.1 hs oq hk ho hat, fun q hq => (oq q (by omega)).trans (h.2.2 q hq)⟩
theorem rx_row_get {G : rx_E} {mu : rx_M} {a n k : Nat} {ty : Nat → FieldType} (hk : k < n) : (rx_row G mu a ty n)[k]? = some (rx_fv G mu a k (rx_tc (ty k))) := by
  simp [rx_row, hk]
theorem rx_obj {G : rx_E} {mu : rx_M} {vm : Vm} {H : Heap} {a ci : Nat} (h : rx_In G mu vm H) (hn : a < mu.2.2.2.2) (hk : (mu.2.2.2.1 a).1 = ci) (hci : ci < 12) : va_at G.2.2.1 vwCl (rx_B G + a, .inr (ci, rx_row G mu a (rx_ty ci).1 (rx_ty ci).2)) H := by
  have h1 := h.2.1.2 a hn (by omega)
  unfold rx_ent at h1
  rw [hk, if_pos hci] at h1
  exact h1
theorem rx_ent_obj {G : rx_E} {mu : rx_M} {a ci : Nat} (hk : (mu.2.2.2.1 a).1 = ci) (hci : ci < 12) : rx_ent G mu a = .inr (ci, rx_row G mu a (rx_ty ci).1 (rx_ty ci).2) := by
  unfold rx_ent
  rw [hk, if_pos hci]
theorem rx_P1 {D : va_G} {q : Nat × va_E} {H : Heap} (h : va_at D vwCl q H) : va_P D vwCl [q] H := by
  intro k x hk
  match k, hk with
  | 0, hk => cases hk; exact h
  | k + 1, hk => simp at hk
section RXF
variable {G : rx_E} {M : rx_Me} {d pc mc ms : Nat} {lv : List (Nat × Value)} {st : List Value} {mu : rx_M} {Q : Option Value → rx_M → Prop} {Z : String → rx_M → Prop}
theorem rx_getf {a idx ci k : Nat} {ty : FieldType} {v : Value} (hG : rx_OK G) (hF : rx_Fd M.1.cls idx ci k ty) (hd : decode M.2.1 pc = .ok (.getfield idx, 3)) (hn : a < mu.2.2.2.2) (hk : (mu.2.2.2.1 a).1 = ci) (hv : rx_fv G mu a k (rx_tc ty) = rx_tr G v)
    (kk : rx_W G M d (pc + 3) lv (v :: st) mu mc ms Q Z) : rx_W G M d pc lv (.ref a :: st) mu mc ms Q Z := by
  intro p e R s m args below meth c H locs cells slots MC MS ls C h1 h2 h3 h4 h5
  obtain ⟨C0, T, N, ⟨hci, hc, hw, hN, hty, hnm⟩, hkN, rfl, hl⟩ := hF
  have hP := rx_P1 (rx_obj h2 hn hk hci)
  have hK := rx_K hG C.2.2.2.2.2.2.2.1
  have hts : ∀ w ∈ u_ws C0 T N, w.before args s = true := fun w h => rx_w hG C.2.2.2.2.2.2.2.1 (hw w h).1 (hw w h).2 args
  have hvv : (rx_row G mu a (rx_ty ci).1 (rx_ty ci).2)[k]? = some (rx_tr G v) := by rw [hN, rx_row_get hkN, hv]
  have kk' := kk p e R s m args below meth c H locs cells slots MC MS ls C h1 h2 h3 h4 h5
  rcases hl with hl | ⟨host, hl⟩
  · exact va_get C.1 C.2.1 hts (fun _ h => h) C.2.2.2.2.1 hK hP 0 rfl hc k hkN (rx_w hG C.2.2.2.2.2.2.2.1 hl rfl args) (fun _ h => h) hvv hd kk'
  · exact va_getN C.1 C.2.1 hts (fun _ h => h) C.2.2.2.2.1 hK hP 0 rfl hc k hkN (rx_wN hG C.2.2.2.2.2.2.2.1 hl args) (fun _ h => h) hvv hd kk'
theorem rx_getI {a idx ci k : Nat} {ty : FieldType} (hG : rx_OK G) (hF : rx_Fd M.1.cls idx ci k ty) (ht : rx_tc ty = 0) (hd : decode M.2.1 pc = .ok (.getfield idx, 3)) (hn : a < mu.2.2.2.2) (hk : (mu.2.2.2.1 a).1 = ci)
    (kk : rx_W G M d (pc + 3) lv (.int (mu.1 a k) :: st) mu mc ms Q Z) : rx_W G M d pc lv (.ref a :: st) mu mc ms Q Z := rx_getf hG hF hd hn hk (by rw [ht]; rfl) kk
theorem rx_getL {a idx ci k : Nat} {ty : FieldType} (hG : rx_OK G) (hF : rx_Fd M.1.cls idx ci k ty) (ht : rx_tc ty = 1) (hd : decode M.2.1 pc = .ok (.getfield idx, 3)) (hn : a < mu.2.2.2.2) (hk : (mu.2.2.2.1 a).1 = ci)
    (kk : rx_W G M d (pc + 3) lv (.long (mu.2.1 a k) :: st) mu mc ms Q Z) : rx_W G M d pc lv (.ref a :: st) mu mc ms Q Z := rx_getf hG hF hd hn hk (by rw [ht]; rfl) kk
theorem rx_getR {a idx ci k : Nat} {ty : FieldType} (hG : rx_OK G) (hF : rx_Fd M.1.cls idx ci k ty) (ht : rx_tc ty = 2) (hd : decode M.2.1 pc = .ok (.getfield idx, 3)) (hn : a < mu.2.2.2.2) (hk : (mu.2.2.2.1 a).1 = ci) {r : Nat} (hr : mu.2.2.1 a k = some r)
    (kk : rx_W G M d (pc + 3) lv (.ref r :: st) mu mc ms Q Z) : rx_W G M d pc lv (.ref a :: st) mu mc ms Q Z := rx_getf hG hF hd hn hk (by rw [ht]; simp [rx_fv, hr, va_rf, rx_tr]) kk
end RXF

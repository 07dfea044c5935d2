/-- a copy of a row -/
def rx_cl (mu : rx_M) (a : Nat) : rx_M := (rx_k1 mu.1 mu.2.2.2.2 (mu.1 a), rx_k1 mu.2.1 mu.2.2.2.2 (mu.2.1 a), rx_k1 mu.2.2.1 mu.2.2.2.2 (fun _ => none), rx_k1 mu.2.2.2.1 mu.2.2.2.2 (mu.2.2.2.1 a), mu.2.2.2.2 + 1)
theorem rx_In_pushc {G : rx_E} {mu : rx_M} {vm : Vm} {H H1 : Heap} {a : Nat} (h : rx_In G mu vm H) (hs : H1.size = H.size + 1) (oq : ∀ q : Nat, q < H.size → H1[q]? = H[q]?) (hat : va_at G.2.2.1 vwCl (rx_B G + mu.2.2.2.2, rx_ent G (rx_cl mu a) mu.2.2.2.2) H1) : rx_In G (rx_cl mu a) vm H1 := by
  have hz := h.2.1.1
  refine ⟨h.1, ⟨by rw [hs, hz]; rfl, fun b hb hk => ?_⟩, fun q hq => (oq q (by omega)).trans (h.2.2 q hq)⟩
  by_cases hn : b = mu.2.2.2.2
  · subst hn
    exact hat
  · have hb' : b < mu.2.2.2.2 := by have : b < mu.2.2.2.2 + 1 := hb; omega
    have hk' : (mu.2.2.2.1 b).1 < 20 := by rw [← rx_k1_ne mu.2.2.2.1 (mu.2.2.2.1 a) hn]; exact hk
    rw [rx_ent_eq (mu := mu) (mu' := rx_cl mu a) (rx_k1_ne _ _ hn) (rx_k1_ne _ _ hn) (rx_k1_ne _ _ hn) (rx_k1_ne _ _ hn)]
    exact (h.2.1.2 b hb' hk').kept (oq _ (by show rx_B G + b < H.size; omega))
/-- the words of a row's clone, and of the cast behind it -/
def rx_Cn (own ad : String) (idx idx2 : Nat) : Prop := Cond.methodLink own idx ⟨ad, "clone", "()Ljava/lang/Object;"⟩ ∈ lw_tbl ∧ Cond.sameMethod ad "java/lang/Object" "clone" "()Ljava/lang/Object;" ∈ lw_tbl ∧ Cond.native ⟨"java/lang/Object", "clone", "()Ljava/lang/Object;"⟩ ∈ lw_tbl ∧ Cond.instanceMethod ⟨"java/lang/Object", "clone", "()Ljava/lang/Object;"⟩ ∈ lw_tbl ∧ Cond.selects ad ⟨ad, "clone", "()Ljava/lang/Object;"⟩ ⟨"java/lang/Object", "clone", "()Ljava/lang/Object;"⟩ ∈ lw_tbl ∧ Cond.castable ad "java/lang/Cloneable" ∈ lw_tbl ∧ Cond.classLink own idx2 ad ∈ lw_tbl
section RXCN
variable {G : rx_E} {M : rx_Me} {d pc mc ms : Nat} {lv : List (Nat × Value)} {st : List Value} {mu : rx_M} {Q : Option Value → rx_M → Prop} {Z : String → rx_M → Prop}
theorem rx_cloneJ {a n idx idx2 : Nat} (hG : rx_OK G) (hw : rx_Cn M.1.cls "[J" idx idx2) (hd : decode M.2.1 pc = .ok (.invokevirtual idx, 3)) (hd2 : decode M.2.1 (pc + 3) = .ok (.checkcast idx2, 3)) (hn : a < mu.2.2.2.2) (hk : mu.2.2.2.1 a = (14, n)) (h8 : (st.map fun v => v.category).sum ≤ 8)
    (kk : rx_W G M (d + 1) (pc + 6) lv (.ref mu.2.2.2.2 :: st) (rx_cl mu a) mc ms Q Z) : rx_W G M (d + 1) pc lv (.ref a :: st) mu (mc + 1) (ms + n) Q Z := by
  intro p e R s m args below meth c H locs cells slots MC MS ls C h1 h2 h3 h4 h5
  have hWs : G.2.1.WarmedH s.vm := C.2.2.2.2.2.2.2.1
  have hc1 := rx_arrJ h2 hn hk 
  have hAr := rx_aty hG hWs 2 rfl
  have hnm : s.vm.findClass "[J" = some (G.2.2.2.1 14) := hAr.2
  obtain ⟨-, kS, hkS, compS, hkindS⟩ := hAr.1 0 (fun _ => .null)
  have h9 := rx_rm8 (G := G) h8
  obtain ⟨a9, ha9⟩ := hG.1 _ hw.2.2.2.2.2.1
  have hcst : (Cond.castable "[J" "java/lang/Cloneable").before args s = true := va_Nw.use rfl (va_Nw.warmC hWs (va_Nw.of rfl ha9))
  obtain ⟨c0, t0', f1, f2, f3⟩ := Cond.castable_spec hcst
  cases hnm.symm.trans f1
  have hsz : (vp_cell (G.2.2.2.1 14) (n, .inr (.inl (mu.2.1 a)))).slots.size = n := arrV_size _ _ _
  intro T hT X
  have hcellT : T.heap[rx_B G + a]? = some (vp_cell (G.2.2.2.1 14) (n, .inr (.inl (mu.2.1 a)))) := by rw [hT]; exact hc1
  obtain ⟨-, kA, hkA, comp, hkind⟩ := State.isArrayOf_alike X.warmed.alike (hAr.1 0 (fun _ => .null))
  obtain ⟨vm', X', st'⟩ := X.cloneArray C.1 C.2.2.2.2.1 (rx_w hG hWs hw.1 rfl args) (rx_w hG hWs hw.2.1 rfl args) (rx_w hG hWs hw.2.2.1 rfl args) (rx_w hG hWs hw.2.2.2.1 rfl args) (rx_w hG hWs hw.2.2.2.2.1 rfl args) (a := rx_B G + a) (cell := vp_cell (G.2.2.2.1 14) (n, .inr (.inl (mu.2.1 a)))) hcellT (fun k h => by cases h) (fun h => by cases h) hnm f2 f3
    (fun i v hv => by
      have hk' : T.vm.classes[G.2.2.2.1 14]? = some kA := hkA
      have hfits : fits .long v = true := by
        have hi : i < n := by rw [← hsz]; exact (Array.getElem?_eq_some_iff.mp hv).1
        have hv' : (arrV (G.2.2.2.1 14) n (fun j => .long (mu.2.1 a j))).slots[i]? = some v := hv
        rw [arrV_read _ _ hi] at hv'
        rw [← Option.some.inj hv']
        exact rfl
      show T.fitsSlot (G.2.2.2.1 14) .none i v = true
      have hkind' : kA.kind = .array comp .long := hkind
      simpa [State.fitsSlot, State.slotType?, hk', hkind'] using hfits)
    (g := F0 m pc ls (rx_trs G (.ref a :: st))) rfl (h5.1.trans C.2.2.2.1.symm) rfl (by rw [C.2.1]; exact hd) (by omega) (by show 2 * 0 + ((rx_trs G st).map fun v => v.category).sum + 14 ≤ _; omega) (by omega) (by rw [hsz]; omega) (hloader := Vm.clonesLoader_of_array hkS hkindS)
  have hcellE : ({ cls := (vp_cell (G.2.2.2.1 14) (n, .inr (.inl (mu.2.1 a)))).cls, slots := (vp_cell (G.2.2.2.1 14) (n, .inr (.inl (mu.2.1 a)))).slots } : Cell) = vp_cell (G.2.2.2.1 14) (n, .inr (.inl (mu.2.1 a))) := rfl
  rw [hcellE, hsz] at X'
  rw [hcellE] at st'
  generalize hH1 : H.push (vp_cell (G.2.2.2.1 14) (n, .inr (.inl (mu.2.1 a)))) = H1
  have z1 : H1.size = H.size + 1 := by rw [← hH1, Array.size_push]
  have e1 : H1[H.size]? = some (vp_cell (G.2.2.2.1 14) (n, .inr (.inl (mu.2.1 a)))) := by rw [← hH1, Array.getElem?_push_size]
  have o1 : ∀ q : Nat, q < H.size → H1[q]? = H[q]? := fun q hq => by rw [← hH1, Array.getElem?_push, if_neg (Nat.ne_of_lt hq)]
  have hat : va_at G.2.2.1 vwCl (rx_B G + mu.2.2.2.2, rx_ent G (rx_cl mu a) mu.2.2.2.2) H1 := by
    have e1' := e1
    rw [h2.2.1.1] at e1'
    unfold rx_ent
    simp only [rx_cl, rx_k1_self, hk]
    rw [if_neg (by decide), if_pos trivial]
    exact e1'
  have hIn := rx_In_pushc h2 z1 o1 hat
  have hkk := kk p e R s m args below meth c H1 locs (cells + 1) (slots + n) MC MS ls C ⟨h1.1, h1.2.1, by omega, by omega, h1.2.2.2.2.1, h1.2.2.2.2.2⟩ hIn (by rw [z1]; exact Nat.le_succ_of_le h3) h4 h5
  have e2 : H1[rx_B G + mu.2.2.2.2]? = some (vp_cell (G.2.2.2.1 14) (n, .inr (.inl (mu.2.1 a)))) := by rw [← h2.2.1.1]; exact e1
  have hcast : W p G.1 e R s m args below meth c H1 locs (cells + 1) (slots + n) (vx_MQ below (rx_Qc G Q) (rx_XC G Z) args s MC MS (fun q => rx_B G ≤ q)) (F0 m (pc + 3) ls (.ref (rx_B G + mu.2.2.2.2) :: rx_trs G st)) :=
    va_castA (D := G.2.2.1) (cl := vwCl) (ws := [(rx_B G + mu.2.2.2.2, .inl (G.2.2.2.1 14, n, .inr (.inl (mu.2.1 a))))]) C.1 C.2.1 C.2.2.2.2.1 (rx_w hG hWs hw.2.2.2.2.2.2 rfl args) (rx_P1 e2) 0 rfl hnm hd2 hkk
  obtain ⟨t, b1, b2⟩ := hcast ((T.setVm vm').pushCell (vp_cell (G.2.2.2.1 14) (n, .inr (.inl (mu.2.1 a))))) (by rw [← hH1, ← hT]; rfl) X'
  refine ⟨t, st' t ?_, b2⟩
  rw [hT, h2.2.1.1]
  exact b1
theorem rx_cloneB {a n idx idx2 : Nat} (hG : rx_OK G) (hw : rx_Cn M.1.cls "[B" idx idx2) (hd : decode M.2.1 pc = .ok (.invokevirtual idx, 3)) (hd2 : decode M.2.1 (pc + 3) = .ok (.checkcast idx2, 3)) (hn : a < mu.2.2.2.2) (hk : mu.2.2.2.1 a = (12, n)) (hfit : ∀ i, i < n → fits .byte (.int (mu.1 a i)) = true) (h8 : (st.map fun v => v.category).sum ≤ 8)
    (kk : rx_W G M (d + 1) (pc + 6) lv (.ref mu.2.2.2.2 :: st) (rx_cl mu a) mc ms Q Z) : rx_W G M (d + 1) pc lv (.ref a :: st) mu (mc + 1) (ms + n) Q Z := by
  intro p e R s m args below meth c H locs cells slots MC MS ls C h1 h2 h3 h4 h5
  have hWs : G.2.1.WarmedH s.vm := C.2.2.2.2.2.2.2.1
  have hc1 := rx_arrI h2 hn hk (by omega)
  have hAr := rx_aty hG hWs 0 rfl
  have hnm : s.vm.findClass "[B" = some (G.2.2.2.1 12) := hAr.2
  obtain ⟨-, kS, hkS, compS, hkindS⟩ := hAr.1 0 (fun _ => .null)
  have h9 := rx_rm8 (G := G) h8
  obtain ⟨a9, ha9⟩ := hG.1 _ hw.2.2.2.2.2.1
  have hcst : (Cond.castable "[B" "java/lang/Cloneable").before args s = true := va_Nw.use rfl (va_Nw.warmC hWs (va_Nw.of rfl ha9))
  obtain ⟨c0, t0', f1, f2, f3⟩ := Cond.castable_spec hcst
  cases hnm.symm.trans f1
  have hsz : (vp_cell (G.2.2.2.1 12) (n, .inl (mu.1 a))).slots.size = n := arrV_size _ _ _
  intro T hT X
  have hcellT : T.heap[rx_B G + a]? = some (vp_cell (G.2.2.2.1 12) (n, .inl (mu.1 a))) := by rw [hT]; exact hc1
  obtain ⟨-, kA, hkA, comp, hkind⟩ := State.isArrayOf_alike X.warmed.alike (hAr.1 0 (fun _ => .null))
  obtain ⟨vm', X', st'⟩ := X.cloneArray C.1 C.2.2.2.2.1 (rx_w hG hWs hw.1 rfl args) (rx_w hG hWs hw.2.1 rfl args) (rx_w hG hWs hw.2.2.1 rfl args) (rx_w hG hWs hw.2.2.2.1 rfl args) (rx_w hG hWs hw.2.2.2.2.1 rfl args) (a := rx_B G + a) (cell := vp_cell (G.2.2.2.1 12) (n, .inl (mu.1 a))) hcellT (fun k h => by cases h) (fun h => by cases h) hnm f2 f3
    (fun i v hv => by
      have hk' : T.vm.classes[G.2.2.2.1 12]? = some kA := hkA
      have hfits : fits .byte v = true := by
        have hi : i < n := by rw [← hsz]; exact (Array.getElem?_eq_some_iff.mp hv).1
        have hv' : (arrV (G.2.2.2.1 12) n (fun j => .int (mu.1 a j))).slots[i]? = some v := hv
        rw [arrV_read _ _ hi] at hv'
        rw [← Option.some.inj hv']
        exact hfit i hi
      show T.fitsSlot (G.2.2.2.1 12) .none i v = true
      have hkind' : kA.kind = .array comp .byte := hkind
      simpa [State.fitsSlot, State.slotType?, hk', hkind'] using hfits)
    (g := F0 m pc ls (rx_trs G (.ref a :: st))) rfl (h5.1.trans C.2.2.2.1.symm) rfl (by rw [C.2.1]; exact hd) (by omega) (by show 2 * 0 + ((rx_trs G st).map fun v => v.category).sum + 14 ≤ _; omega) (by omega) (by rw [hsz]; omega) (hloader := Vm.clonesLoader_of_array hkS hkindS)
  have hcellE : ({ cls := (vp_cell (G.2.2.2.1 12) (n, .inl (mu.1 a))).cls, slots := (vp_cell (G.2.2.2.1 12) (n, .inl (mu.1 a))).slots } : Cell) = vp_cell (G.2.2.2.1 12) (n, .inl (mu.1 a)) := rfl
  rw [hcellE, hsz] at X'
  rw [hcellE] at st'
  generalize hH1 : H.push (vp_cell (G.2.2.2.1 12) (n, .inl (mu.1 a))) = H1
  have z1 : H1.size = H.size + 1 := by rw [← hH1, Array.size_push]
  have e1 : H1[H.size]? = some (vp_cell (G.2.2.2.1 12) (n, .inl (mu.1 a))) := by rw [← hH1, Array.getElem?_push_size]
  have o1 : ∀ q : Nat, q < H.size → H1[q]? = H[q]? := fun q hq => by rw [← hH1, Array.getElem?_push, if_neg (Nat.ne_of_lt hq)]
  have hat : va_at G.2.2.1 vwCl (rx_B G + mu.2.2.2.2, rx_ent G (rx_cl mu a) mu.2.2.2.2) H1 := by
    have e1' := e1
    rw [h2.2.1.1] at e1'
    unfold rx_ent
    simp only [rx_cl, rx_k1_self, hk]
    rw [if_neg (by decide), if_neg (by decide), if_pos (by decide)]
    exact e1'
  have hIn := rx_In_pushc h2 z1 o1 hat
  have hkk := kk p e R s m args below meth c H1 locs (cells + 1) (slots + n) MC MS ls C ⟨h1.1, h1.2.1, by omega, by omega, h1.2.2.2.2.1, h1.2.2.2.2.2⟩ hIn (by rw [z1]; exact Nat.le_succ_of_le h3) h4 h5
  have e2 : H1[rx_B G + mu.2.2.2.2]? = some (vp_cell (G.2.2.2.1 12) (n, .inl (mu.1 a))) := by rw [← h2.2.1.1]; exact e1
  have hcast : W p G.1 e R s m args below meth c H1 locs (cells + 1) (slots + n) (vx_MQ below (rx_Qc G Q) (rx_XC G Z) args s MC MS (fun q => rx_B G ≤ q)) (F0 m (pc + 3) ls (.ref (rx_B G + mu.2.2.2.2) :: rx_trs G st)) :=
    va_castA (D := G.2.2.1) (cl := vwCl) (ws := [(rx_B G + mu.2.2.2.2, .inl (G.2.2.2.1 12, n, .inl (mu.1 a)))]) C.1 C.2.1 C.2.2.2.2.1 (rx_w hG hWs hw.2.2.2.2.2.2 rfl args) (rx_P1 e2) 0 rfl hnm hd2 hkk
  obtain ⟨t, b1, b2⟩ := hcast ((T.setVm vm').pushCell (vp_cell (G.2.2.2.1 12) (n, .inl (mu.1 a)))) (by rw [← hH1, ← hT]; rfl) X'
  refine ⟨t, st' t ?_, b2⟩
  rw [hT, h2.2.1.1]
  exact b1
end RXCN

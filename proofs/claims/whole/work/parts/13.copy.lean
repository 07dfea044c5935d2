theorem rx_nn (z : Int32) (hz : ¬ z < 0) : z.toInt = (z.toNatClampNeg : Int) := by
  have hz0 : (0 : Int) ≤ z.toInt := by
    have := Int32.not_lt.mp hz
    simpa using Int32.le_iff_toInt_le.mp this
  show z.toInt = ((z.toInt.toNat : Nat) : Int)
  omega
/-- the words of System.arraycopy -/
def rx_Cp (own : String) (idx : Nat) : Prop := Cond.methodLink own idx arraycopyName ∈ lw_tbl ∧ Cond.native arraycopyName ∈ lw_tbl ∧ Cond.static arraycopyName ∈ lw_tbl ∧ Cond.initialized "java/lang/System" ∈ lw_tbl
section RXCP
variable {G : rx_E} {M : rx_Me} {d pc mc ms : Nat} {lv : List (Nat × Value)} {st : List Value} {mu : rx_M} {Q : Option Value → rx_M → Prop} {Z : String → rx_M → Prop}
theorem rx_copyJ {a a0 n0 n1 sp dp n idx : Nat} {isp idp i_n : Int32} (hG : rx_OK G) (hw : rx_Cp M.1.cls idx) (hd : decode M.2.1 pc = .ok (.invokestatic idx, 3)) (hn0 : a0 < mu.2.2.2.2) (hk0 : mu.2.2.2.1 a0 = (14, n0)) (hn : a < mu.2.2.2.2) (hk : mu.2.2.2.1 a = (14, n1)) (e1 : isp = nI sp) (e2 : idp = nI dp) (e3 : i_n = nI n) (hs : sp + n ≤ n0) (hp : dp + n ≤ n1) (hN : n0 < 2147483648 ∧ n1 < 2147483648) (h8 : (st.map fun v => v.category).sum ≤ 8)
    (kk : rx_W G M (d + 1) (pc + 3) lv st (mu.1, rx_k1 mu.2.1 a (va_cpy (mu.2.1 a0) (mu.2.1 a) sp dp n), mu.2.2) mc ms Q Z) : rx_W G M (d + 1) pc lv (.int i_n :: .int idp :: .ref a :: .int isp :: .ref a0 :: st) mu mc ms Q Z := by
  intro p e R s m args below meth c H locs cells slots MC MS ls C h1 h2 h3 h4 h5
  have hWs : G.2.1.WarmedH s.vm := C.2.2.2.2.2.2.2.1
  subst e1; subst e2; subst e3
  have c1 : (nI sp).toNatClampNeg = sp := nI_clamp (by omega)
  have c2 : (nI dp).toNatClampNeg = dp := nI_clamp (by omega)
  have c3 : (nI n).toNatClampNeg = n := nI_clamp (by omega)
  have p1 : ¬ nI sp < 0 := nI_pos (by omega)
  have p2 : ¬ nI dp < 0 := nI_pos (by omega)
  have p3 : ¬ nI n < 0 := nI_pos (by omega)
  have hc0 := rx_arrJ h2 hn0 hk0 
  have hc1 := rx_arrJ h2 hn hk 
  have hAr := rx_aty hG hWs 2 rfl
  obtain ⟨-, k0, hkk, cm0, hkk0⟩ := hAr.1 n0 (fun j => .long (mu.2.1 a0 j))
  have h9 := rx_rm8 (G := G) h8
  have hnf : nativeFrameWords "java/lang/System" "arraycopy" 5 ≤ 16 := by decide +kernel
  intro T hT X
  obtain ⟨vm', X', step⟩ := X.arraycopy C.1 C.2.2.2.2.1 (rx_w hG hWs hw.1 rfl args) (rx_w hG hWs hw.2.1 rfl args) (rx_w hG hWs hw.2.2.1 rfl args) (rx_w hG hWs hw.2.2.2 rfl args) (src := rx_B G + a0) (dst := rx_B G + a) (cs := vp_cell (G.2.2.2.1 14) (n0, .inr (.inl (mu.2.1 a0)))) (cd := vp_cell (G.2.2.2.1 14) (n1, .inr (.inl (mu.2.1 a)))) (srcPos := nI sp) (destPos := nI dp) (n := nI n) (by rw [hT]; exact hc0) (by rw [hT]; exact hc1)
    (fun _ h => by cases h) (fun _ h => by cases h) (fun h => by cases h) (fun h => by cases h) hkk hkk hkk0 hkk0 (by rfl) p1 p2 p3
    (by rw [rx_nn _ p1, rx_nn _ p3, c1, c3]; show ¬ _ > ((arrV (G.2.2.2.1 14) n0 (fun j => .long (mu.2.1 a0 j))).slots.size : Int); rw [arrV_size]; omega)
    (by rw [rx_nn _ p2, rx_nn _ p3, c2, c3]; show ¬ _ > ((arrV (G.2.2.2.1 14) n1 (fun j => .long (mu.2.1 a j))).slots.size : Int); rw [arrV_size]; omega)
    (fun vm₁ _ i hi => by
      rw [c3] at hi
      have e : (vp_cell (G.2.2.2.1 14) (n0, .inr (.inl (mu.2.1 a0)))).slots.getD ((nI sp).toNatClampNeg + i) .null = .long (mu.2.1 a0 (sp + i)) := by
        show (arrV (G.2.2.2.1 14) n0 (fun j => .long (mu.2.1 a0 j))).slots.getD _ _ = _
        rw [c1, Array.getD_eq_getD_getElem?, arrV_read _ _ (by omega)]
        rfl
      refine ⟨?_, ?_⟩
      · rw [e]
        exact rfl
      · rw [e]
        exact trivial)
    (g := F0 m pc ls (rx_trs G (.int (nI n) :: .int (nI dp) :: .ref a :: .int (nI sp) :: .ref a0 :: st))) rfl (h5.1.trans C.2.2.2.1.symm) (rest := rx_trs G st) rfl (by rw [C.2.1]; exact hd) (by omega) (by show 2 * 0 + _ + _ ≤ _; omega)
  have e1 : copied (vp_cell (G.2.2.2.1 14) (n0, .inr (.inl (mu.2.1 a0)))) (vp_cell (G.2.2.2.1 14) (n1, .inr (.inl (mu.2.1 a)))) (nI sp) (nI dp) (nI n) = vp_cell (G.2.2.2.1 14) (n1, .inr (.inl (va_cpy (mu.2.1 a0) (mu.2.1 a) sp dp n))) := by
    have := va_copied (fun z => .long z) (G.2.2.2.1 14) (G.2.2.2.1 14) (n0 := n0) (n1 := n1) (sp := (nI sp).toNatClampNeg) (dp := (nI dp).toNatClampNeg) (n := (nI n).toNatClampNeg) (mu.2.1 a0) (mu.2.1 a) (by rw [c1, c3]; exact hs)
    rw [c1, c2, c3] at this
    refine Eq.trans ?_ this
    unfold copied
    rw [c1, c2, c3]
    rfl
  rw [e1] at X' step
  have hl : rx_B G + a < H.size := (Array.getElem?_eq_some_iff.mp hc1).1
  generalize hcell : vp_cell (G.2.2.2.1 14) (n1, .inr (.inl (va_cpy (mu.2.1 a0) (mu.2.1 a) sp dp n))) = cell1 at X' step
  have hheap : ((T.setVm vm').setCell (rx_B G + a) cell1).heap = H.setIfInBounds (rx_B G + a) cell1 := by rw [← hT]; rfl
  have oq : ∀ q : Nat, q ≠ rx_B G + a → (H.setIfInBounds (rx_B G + a) cell1)[q]? = H[q]? := fun q hq => by simp [Array.getElem?_setIfInBounds, Ne.symm hq]
  obtain ⟨t, a1, b1⟩ := kk p e R s m args below meth c (H.setIfInBounds (rx_B G + a) cell1) _ cells slots MC MS ls C h1 (rx_In_set (a := a) h2 (by simp) oq rfl (fun b hb => ⟨rfl, rx_k1_ne _ _ hb, rfl⟩) (by
      unfold rx_ent
      simp only [hk]
      rw [if_neg (by decide), if_pos trivial]
      show (H.setIfInBounds (rx_B G + a) cell1)[rx_B G + a]? = _
      rw [rx_k1_self, hcell]
      simp [Array.getElem?_setIfInBounds, hl])) (by simp; exact h3) (fun q hq => by
      rcases List.mem_append.mp hq with h | h
      · exact h4 q h
      · obtain ⟨z, -, hz⟩ := List.mem_map.mp h
        rw [← hz]
        exact Nat.le_add_right _ _) h5 _ hheap X'
  exact ⟨t, step t a1, b1⟩
theorem rx_copyB {a a0 n0 n1 sp dp n idx : Nat} {isp idp i_n : Int32} (hG : rx_OK G) (hw : rx_Cp M.1.cls idx) (hd : decode M.2.1 pc = .ok (.invokestatic idx, 3)) (hn0 : a0 < mu.2.2.2.2) (hk0 : mu.2.2.2.1 a0 = (12, n0)) (hn : a < mu.2.2.2.2) (hk : mu.2.2.2.1 a = (12, n1)) (e1 : isp = nI sp) (e2 : idp = nI dp) (e3 : i_n = nI n) (hs : sp + n ≤ n0) (hp : dp + n ≤ n1) (hN : n0 < 2147483648 ∧ n1 < 2147483648) (hfit : ∀ i, i < n → fits .byte (.int (mu.1 a0 (sp + i))) = true) (h8 : (st.map fun v => v.category).sum ≤ 8)
    (kk : rx_W G M (d + 1) (pc + 3) lv st (rx_k1 mu.1 a (va_cpy (mu.1 a0) (mu.1 a) sp dp n), mu.2) mc ms Q Z) : rx_W G M (d + 1) pc lv (.int i_n :: .int idp :: .ref a :: .int isp :: .ref a0 :: st) mu mc ms Q Z := by
  intro p e R s m args below meth c H locs cells slots MC MS ls C h1 h2 h3 h4 h5
  have hWs : G.2.1.WarmedH s.vm := C.2.2.2.2.2.2.2.1
  subst e1; subst e2; subst e3
  have c1 : (nI sp).toNatClampNeg = sp := nI_clamp (by omega)
  have c2 : (nI dp).toNatClampNeg = dp := nI_clamp (by omega)
  have c3 : (nI n).toNatClampNeg = n := nI_clamp (by omega)
  have p1 : ¬ nI sp < 0 := nI_pos (by omega)
  have p2 : ¬ nI dp < 0 := nI_pos (by omega)
  have p3 : ¬ nI n < 0 := nI_pos (by omega)
  have hc0 := rx_arrI h2 hn0 hk0 (by omega)
  have hc1 := rx_arrI h2 hn hk (by omega)
  have hAr := rx_aty hG hWs 0 rfl
  obtain ⟨-, k0, hkk, cm0, hkk0⟩ := hAr.1 n0 (fun j => .int (mu.1 a0 j))
  have h9 := rx_rm8 (G := G) h8
  have hnf : nativeFrameWords "java/lang/System" "arraycopy" 5 ≤ 16 := by decide +kernel
  intro T hT X
  obtain ⟨vm', X', step⟩ := X.arraycopy C.1 C.2.2.2.2.1 (rx_w hG hWs hw.1 rfl args) (rx_w hG hWs hw.2.1 rfl args) (rx_w hG hWs hw.2.2.1 rfl args) (rx_w hG hWs hw.2.2.2 rfl args) (src := rx_B G + a0) (dst := rx_B G + a) (cs := vp_cell (G.2.2.2.1 12) (n0, .inl (mu.1 a0))) (cd := vp_cell (G.2.2.2.1 12) (n1, .inl (mu.1 a))) (srcPos := nI sp) (destPos := nI dp) (n := nI n) (by rw [hT]; exact hc0) (by rw [hT]; exact hc1)
    (fun _ h => by cases h) (fun _ h => by cases h) (fun h => by cases h) (fun h => by cases h) hkk hkk hkk0 hkk0 (by rfl) p1 p2 p3
    (by rw [rx_nn _ p1, rx_nn _ p3, c1, c3]; show ¬ _ > ((arrV (G.2.2.2.1 12) n0 (fun j => .int (mu.1 a0 j))).slots.size : Int); rw [arrV_size]; omega)
    (by rw [rx_nn _ p2, rx_nn _ p3, c2, c3]; show ¬ _ > ((arrV (G.2.2.2.1 12) n1 (fun j => .int (mu.1 a j))).slots.size : Int); rw [arrV_size]; omega)
    (fun vm₁ _ i hi => by
      rw [c3] at hi
      have e : (vp_cell (G.2.2.2.1 12) (n0, .inl (mu.1 a0))).slots.getD ((nI sp).toNatClampNeg + i) .null = .int (mu.1 a0 (sp + i)) := by
        show (arrV (G.2.2.2.1 12) n0 (fun j => .int (mu.1 a0 j))).slots.getD _ _ = _
        rw [c1, Array.getD_eq_getD_getElem?, arrV_read _ _ (by omega)]
        rfl
      refine ⟨?_, ?_⟩
      · rw [e]
        exact hfit i hi
      · rw [e]
        exact trivial)
    (g := F0 m pc ls (rx_trs G (.int (nI n) :: .int (nI dp) :: .ref a :: .int (nI sp) :: .ref a0 :: st))) rfl (h5.1.trans C.2.2.2.1.symm) (rest := rx_trs G st) rfl (by rw [C.2.1]; exact hd) (by omega) (by show 2 * 0 + _ + _ ≤ _; omega)
  have e1 : copied (vp_cell (G.2.2.2.1 12) (n0, .inl (mu.1 a0))) (vp_cell (G.2.2.2.1 12) (n1, .inl (mu.1 a))) (nI sp) (nI dp) (nI n) = vp_cell (G.2.2.2.1 12) (n1, .inl (va_cpy (mu.1 a0) (mu.1 a) sp dp n)) := by
    have := va_copied (fun z => .int z) (G.2.2.2.1 12) (G.2.2.2.1 12) (n0 := n0) (n1 := n1) (sp := (nI sp).toNatClampNeg) (dp := (nI dp).toNatClampNeg) (n := (nI n).toNatClampNeg) (mu.1 a0) (mu.1 a) (by rw [c1, c3]; exact hs)
    rw [c1, c2, c3] at this
    refine Eq.trans ?_ this
    unfold copied
    rw [c1, c2, c3]
    rfl
  rw [e1] at X' step
  have hl : rx_B G + a < H.size := (Array.getElem?_eq_some_iff.mp hc1).1
  generalize hcell : vp_cell (G.2.2.2.1 12) (n1, .inl (va_cpy (mu.1 a0) (mu.1 a) sp dp n)) = cell1 at X' step
  have hheap : ((T.setVm vm').setCell (rx_B G + a) cell1).heap = H.setIfInBounds (rx_B G + a) cell1 := by rw [← hT]; rfl
  have oq : ∀ q : Nat, q ≠ rx_B G + a → (H.setIfInBounds (rx_B G + a) cell1)[q]? = H[q]? := fun q hq => by simp [Array.getElem?_setIfInBounds, Ne.symm hq]
  obtain ⟨t, a1, b1⟩ := kk p e R s m args below meth c (H.setIfInBounds (rx_B G + a) cell1) _ cells slots MC MS ls C h1 (rx_In_set (a := a) h2 (by simp) oq rfl (fun b hb => ⟨rx_k1_ne _ _ hb, rfl, rfl⟩) (by
      unfold rx_ent
      simp only [hk]
      rw [if_neg (by decide), if_neg (by decide), if_pos (by decide)]
      show (H.setIfInBounds (rx_B G + a) cell1)[rx_B G + a]? = _
      rw [rx_k1_self, hcell]
      simp [Array.getElem?_setIfInBounds, hl])) (by simp; exact h3) (fun q hq => by
      rcases List.mem_append.mp hq with h | h
      · exact h4 q h
      · obtain ⟨z, -, hz⟩ := List.mem_map.mp h
        rw [← hz]
        exact Nat.le_add_right _ _) h5 _ hheap X'
  exact ⟨t, step t a1, b1⟩
end RXCP

section RXMM
variable {G : rx_E} {M : rx_Me} {d pc mc ms : Nat} {lv : List (Nat × Value)} {st : List Value} {mu : rx_M} {Q : Option Value → rx_M → Prop} {Z : String → rx_M → Prop}
theorem rx_mmin {idx : Nat} {x y : Int32} (hG : rx_OK G) (hw : Cond.methodLink M.1.cls idx Lib.Math.min.name ∈ lw_tbl ∧ Cond.static Lib.Math.min.name ∈ lw_tbl ∧ Cond.initialized "java/lang/Math" ∈ lw_tbl ∧ Cond.code Lib.Math.min.name Lib.Math.min.code 2 (some .int) ∈ lw_tbl) (hd : decode M.2.1 pc = .ok (.invokestatic idx, 3)) (h8 : (st.map fun v => v.category).sum ≤ 8)
    (kk : rx_W G M (d + 1) (pc + 3) lv (.int (if y < x then y else x) :: st) mu mc ms Q Z) : rx_W G M (d + 1) pc lv (.int y :: .int x :: st) mu mc ms Q Z := by
  intro p e R s m args below meth c H locs cells slots MC MS ls C h1 h2 h3 h4 h5
  have hWs : G.2.1.WarmedH s.vm := C.2.2.2.2.2.2.2.1
  have h9 := rx_rm8 (G := G) h8
  exact va_mmin C.1 C.2.1 (C.2.2.2.1.trans h5.1.symm) C.2.2.2.2.1 (rx_w hG hWs hw.1 rfl args) (rx_w hG hWs hw.2.1 rfl args) (rx_w hG hWs hw.2.2.1 rfl args) (rx_w hG hWs hw.2.2.2 rfl args) (by omega) (by show ((rx_trs G st).map fun v => v.category).sum + 13 ≤ R.locals; omega) (by omega) (by omega) hd (kk p e R s m args below meth c H locs cells slots MC MS ls C h1 h2 h3 h4 h5)
theorem rx_mminL {idx : Nat} {x y : Int64} (hG : rx_OK G) (hw : Cond.methodLink M.1.cls idx Lib.MathLoose.min_long.x ∈ lw_tbl ∧ Cond.static Lib.MathLoose.min_long.x ∈ lw_tbl ∧ Cond.initialized "java/lang/Math" ∈ lw_tbl ∧ Cond.code Lib.MathLoose.min_long.x Lib.MathLoose.min_long.code 4 (some .long) ∈ lw_tbl) (hd : decode M.2.1 pc = .ok (.invokestatic idx, 3)) (h8 : (st.map fun v => v.category).sum ≤ 8)
    (kk : rx_W G M (d + 1) (pc + 3) lv (.long (if y < x then y else x) :: st) mu mc ms Q Z) : rx_W G M (d + 1) pc lv (.long y :: .long x :: st) mu mc ms Q Z := by
  intro p e R s m args below meth c H locs cells slots MC MS ls C h1 h2 h3 h4 h5
  have hWs : G.2.1.WarmedH s.vm := C.2.2.2.2.2.2.2.1
  have h9 := rx_rm8 (G := G) h8
  exact va_mmin_long C.1 C.2.1 (C.2.2.2.1.trans h5.1.symm) C.2.2.2.2.1 (rx_w hG hWs hw.1 rfl args) (rx_w hG hWs hw.2.1 rfl args) (rx_w hG hWs hw.2.2.1 rfl args) (rx_w hG hWs hw.2.2.2 rfl args) (by omega) (by show ((rx_trs G st).map fun v => v.category).sum + 15 ≤ R.locals; omega) (by omega) (by omega) hd (kk p e R s m args below meth c H locs cells slots MC MS ls C h1 h2 h3 h4 h5)
theorem rx_mmaxL {idx : Nat} {x y : Int64} (hG : rx_OK G) (hw : Cond.methodLink M.1.cls idx Lib.MathLoose.max_long.x ∈ lw_tbl ∧ Cond.static Lib.MathLoose.max_long.x ∈ lw_tbl ∧ Cond.initialized "java/lang/Math" ∈ lw_tbl ∧ Cond.code Lib.MathLoose.max_long.x Lib.MathLoose.max_long.code 4 (some .long) ∈ lw_tbl) (hd : decode M.2.1 pc = .ok (.invokestatic idx, 3)) (h8 : (st.map fun v => v.category).sum ≤ 8)
    (kk : rx_W G M (d + 1) (pc + 3) lv (.long (if y < x then x else y) :: st) mu mc ms Q Z) : rx_W G M (d + 1) pc lv (.long y :: .long x :: st) mu mc ms Q Z := by
  intro p e R s m args below meth c H locs cells slots MC MS ls C h1 h2 h3 h4 h5
  have hWs : G.2.1.WarmedH s.vm := C.2.2.2.2.2.2.2.1
  have h9 := rx_rm8 (G := G) h8
  exact va_mmax_long C.1 C.2.1 (C.2.2.2.1.trans h5.1.symm) C.2.2.2.2.1 (rx_w hG hWs hw.1 rfl args) (rx_w hG hWs hw.2.1 rfl args) (rx_w hG hWs hw.2.2.1 rfl args) (rx_w hG hWs hw.2.2.2 rfl args) (by omega) (by show ((rx_trs G st).map fun v => v.category).sum + 15 ≤ R.locals; omega) (by omega) (by omega) hd (kk p e R s m args below meth c H locs cells slots MC MS ls C h1 h2 h3 h4 h5)
end RXMM

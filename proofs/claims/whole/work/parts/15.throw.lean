/-- a word that holds behind the start too -/
def rx_gd (w : Cond) : Bool := goodWord w || (match w with
  | .castable _ _ => true
  | .declares _ => true
  | _ => false)
theorem rx_wG {G : rx_E} {s : State} {w : Cond} (h : rx_OK G) (hW : G.2.1.WarmedH s.vm) (hm : w ∈ lw_tbl) (hg : rx_gd w = true) (args : Array Value) : w.before args s = true := by
  by_cases hq : goodWord w = true
  · exact rx_w h hW hm hq args
  · obtain ⟨a, ha⟩ := h.1 w hm
    cases w with
    | castable C T => exact va_Nw.use rfl (va_Nw.warmC hW (va_Nw.of rfl ha))
    | declares x => exact va_Nw.use rfl (va_Nw.warmD hW (va_Nw.of rfl ha))
    | _ => simp [rx_gd, hq] at hg
/-- the memory behind a throw: some cells more of which nothing is said -/
def rx_gap (mu : rx_M) (n : Nat) : rx_M := (mu.1, mu.2.1, mu.2.2.1, (fun a => if a < mu.2.2.2.2 then mu.2.2.2.1 a else (20, 0)), n)
theorem rx_Rel_gap {G : rx_E} {mu : rx_M} {H H1 : Heap} (h : rx_Rel G mu H) (hs : H.size ≤ H1.size) (oq : ∀ q : Nat, q < H.size → H1[q]? = H[q]?) : ∃ n, mu.2.2.2.2 ≤ n ∧ rx_Rel G (rx_gap mu n) H1 := by
  have hz := h.1
  refine ⟨H1.size - rx_B G, by omega, by show H1.size = rx_B G + (H1.size - rx_B G); omega, fun a ha hk => ?_⟩
  by_cases hn : a < mu.2.2.2.2
  · have e : (rx_gap mu (H1.size - rx_B G)).2.2.2.1 a = mu.2.2.2.1 a := by simp [rx_gap, hn]
    rw [e] at hk
    rw [rx_ent_eq (mu := mu) (mu' := rx_gap mu (H1.size - rx_B G)) rfl rfl rfl e]
    exact (h.2 a hn hk).kept (oq _ (by show rx_B G + a < H.size; omega))
  · have e : (rx_gap mu (H1.size - rx_B G)).2.2.2.1 a = (20, 0) := by simp [rx_gap, hn]
    rw [e] at hk
    exact absurd hk (by decide)
/-- the words of 'throw new cls(text)' in class 10 -/
def rx_Th (ik ic : Nat) (cls : String) : Prop := Bundle.fit cls = true ∧ ∀ w ∈ Cond.classLink RX10 ik cls :: Cond.initialized cls :: vx_atS RX10 ic cls ["java/lang/RuntimeException", "java/lang/Exception"], w ∈ lw_tbl ∧ rx_gd w = true ∧ vx_ot w = true
section RXTH
variable {G : rx_E} {M : rx_Me} {d pc mc ms : Nat} {lv : List (Nat × Value)} {st : List Value} {mu : rx_M} {Q : Option Value → rx_M → Prop} {Z : String → rx_M → Prop}
theorem rx_throw {ik is ic : Nat} {cls text : String} (hG : rx_OK G) (hM : M.1.cls = RX10) (hM0 : M.2.2.2.2 = []) (hT : rx_Th ik ic cls) (hstr : Cond.stringRef RX10 is text ∈ lw_tbl)
    (d0 : decode M.2.1 pc = .ok (.new ik, 3)) (d3 : decode M.2.1 (pc + 3) = .ok (.dup, 1)) (d4 : decode M.2.1 (pc + 4) = .ok (.ldc is, 2)) (d6 : decode M.2.1 (pc + 6) = .ok (.invokespecial ic, 3)) (d9 : decode M.2.1 (pc + 9) = .ok (.athrow, 1))
    (k : ∀ n, mu.2.2.2.2 ≤ n → Z cls (rx_gap mu n)) : rx_W G M (d + 8) pc lv [] mu (mc + 1) (ms + 6) Q Z := by
  intro p e R s m args below meth c H locs cells slots MC MS ls C h1 h2 h3 h4 h5
  have hWs : G.2.1.WarmedH s.vm := C.2.2.2.2.2.2.2.1
  have hB := C.2.2.2.2.2.2.2.2.1
  have hs := C.2.2.2.2.2.2.2.2.2.1
  have hex := C.2.2.2.2.2.2.2.2.2.2
  have hown : s.vm.findClass RX10 = some m.cls := by rw [← hM]; exact C.2.2.2.2.1
  obtain ⟨a9, ha9⟩ := hG.1 _ hstr
  have hown0 : G.2.1.vm.findClass RX10 = some (G.2.2.1.1 10) := (hG.2.1.1 10 _ rfl).2.1
  obtain ⟨k1, cf1, i1, sa, -, -, -, -, -, hev⟩ := Cond.stringRef_spec hown0 ha9
  have hR0 : vk_R RX10 is text sa G.2.1 := vk_R.of (A := a9) ha9 hev
  have hR := vk_R.warm hWs hR0
  have hat : ∀ w ∈ Cond.classLink RX10 ik cls :: Cond.initialized cls :: vx_atS RX10 ic cls ["java/lang/RuntimeException", "java/lang/Exception"], w.before args s = true := fun w hw => rx_wG hG hWs (hT.2 w hw).1 (hT.2 w hw).2.1 args
  have hlocks : meth.locks = false := C.2.2.2.2.2.1
  refine vx_throwS (A := rx_A G) (names := ["java/lang/RuntimeException", "java/lang/Exception"]) C.1 C.2.1 hG.2.2.2.2.2.2.2.1 hown hT.1 (by decide +kernel) (hat _ List.mem_cons_self) (hat _ (List.mem_cons_of_mem _ List.mem_cons_self)) hR (fun w hw => hat w (List.mem_cons_of_mem _ (List.mem_cons_of_mem _ hw))) (fun w hw => (hT.2 w hw).2.2)
    (vx_Zq.kept (vx_Zq.moved hWs.alike hG.2.2.2.2.2.2.2.2.1) (rx_keptB hs)) (vx_Zq.kept (vx_Zq.moved hWs.alike hG.2.2.2.2.2.2.2.2.2) (rx_keptB hs)) (rx_S hB hs h2 h3 h4) (h5.1.trans C.2.2.2.1.symm) d0 d3 d4 d6 d9 (fun x hx => by rw [hex, hM0] at hx; cases hx) (by show 2 + 3 < R.frames; omega) (by show 0 + (13 * (2 + 1) + 43) ≤ R.locals; omega) (by omega) (by omega) hlocks
    (fun t ha hz ho => ?_) h4 (by omega) (by omega)
  obtain ⟨n, hn, hrel⟩ := rx_Rel_gap h2.2.1 hz ho
  exact ⟨_, k n hn, hrel, fun q hq => by rw [ho q (by rw [h2.2.1.1]; omega)]; exact h2.2.2 q hq, Nat.le_trans h3 hz⟩
end RXTH

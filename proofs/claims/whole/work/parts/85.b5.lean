theorem dX10_block_0 : decode cX10_block 0 = .ok (.aload_n 0, 1) := by decide +kernel
theorem dX10_block_1 : decode cX10_block 1 = .ok (.iload_n 1, 1) := by decide +kernel
theorem dX10_block_2 : decode cX10_block 2 = .ok (.invokevirtual 150, 3) := by decide +kernel
theorem dX10_block_5 : decode cX10_block 5 = .ok (.ifCond .eq 11, 3) := by decide +kernel
theorem dX10_block_8 : decode cX10_block 8 = .ok (.iload_n 2, 1) := by decide +kernel
theorem dX10_block_9 : decode cX10_block 9 = .ok (.i2l, 1) := by decide +kernel
theorem dX10_block_10 : decode cX10_block 10 = .ok (.invokestatic 106, 3) := by decide +kernel
theorem dX10_block_13 : decode cX10_block 13 = .ok (.ifCond .ne 13, 3) := by decide +kernel
theorem dX10_block_16 : decode cX10_block 16 = .ok (.new 113, 3) := by decide +kernel
theorem dX10_block_19 : decode cX10_block 19 = .ok (.dup, 1) := by decide +kernel
theorem dX10_block_20 : decode cX10_block 20 = .ok (.ldc 153, 2) := by decide +kernel
theorem dX10_block_22 : decode cX10_block 22 = .ok (.invokespecial 117, 3) := by decide +kernel
theorem dX10_block_25 : decode cX10_block 25 = .ok (.athrow, 1) := by decide +kernel
theorem dX10_block_26 : decode cX10_block 26 = .ok (.aload_n 0, 1) := by decide +kernel
theorem dX10_block_27 : decode cX10_block 27 = .ok (.getfield 38, 3) := by decide +kernel
theorem dX10_block_30 : decode cX10_block 30 = .ok (.bipush 40, 2) := by decide +kernel
theorem dX10_block_32 : decode cX10_block 32 = .ok (.if_icmp .lt 13, 3) := by decide +kernel
theorem dX10_block_35 : decode cX10_block 35 = .ok (.new 84, 3) := by decide +kernel
theorem dX10_block_38 : decode cX10_block 38 = .ok (.dup, 1) := by decide +kernel
theorem dX10_block_39 : decode cX10_block 39 = .ok (.ldc 155, 2) := by decide +kernel
theorem dX10_block_41 : decode cX10_block 41 = .ok (.invokespecial 88, 3) := by decide +kernel
theorem dX10_block_44 : decode cX10_block 44 = .ok (.athrow, 1) := by decide +kernel
theorem dX10_block_45 : decode cX10_block 45 = .ok (.aload_n 0, 1) := by decide +kernel
theorem dX10_block_46 : decode cX10_block 46 = .ok (.getfield 31, 3) := by decide +kernel
theorem dX10_block_49 : decode cX10_block 49 = .ok (.iload_n 1, 1) := by decide +kernel
theorem dX10_block_50 : decode cX10_block 50 = .ok (.aaload, 1) := by decide +kernel
theorem dX10_block_51 : decode cX10_block 51 = .ok (.getfield 157, 3) := by decide +kernel
theorem dX10_block_54 : decode cX10_block 54 = .ok (.iconst 1, 1) := by decide +kernel
theorem dX10_block_55 : decode cX10_block 55 = .ok (.iadd, 1) := by decide +kernel
theorem dX10_block_56 : decode cX10_block 56 = .ok (.istore_n 3, 1) := by decide +kernel
theorem dX10_block_57 : decode cX10_block 57 = .ok (.aload_n 0, 1) := by decide +kernel
theorem dX10_block_58 : decode cX10_block 58 = .ok (.getfield 19, 3) := by decide +kernel
theorem dX10_block_61 : decode cX10_block 61 = .ok (.aload_n 0, 1) := by decide +kernel
theorem dX10_block_62 : decode cX10_block 62 = .ok (.getfield 31, 3) := by decide +kernel
theorem dX10_block_65 : decode cX10_block 65 = .ok (.iload_n 1, 1) := by decide +kernel
theorem dX10_block_66 : decode cX10_block 66 = .ok (.aaload, 1) := by decide +kernel
theorem dX10_block_67 : decode cX10_block 67 = .ok (.getfield 124, 3) := by decide +kernel
theorem dX10_block_70 : decode cX10_block 70 = .ok (.iload_n 3, 1) := by decide +kernel
theorem dX10_block_71 : decode cX10_block 71 = .ok (.invokevirtual 160, 3) := by decide +kernel
theorem dX10_block_74 : decode cX10_block 74 = .ok (.iconst 3, 1) := by decide +kernel
theorem dX10_block_75 : decode cX10_block 75 = .ok (.aload_n 0, 1) := by decide +kernel
theorem dX10_block_76 : decode cX10_block 76 = .ok (.getfield 142, 3) := by decide +kernel
theorem dX10_block_79 : decode cX10_block 79 = .ok (.imul, 1) := by decide +kernel
theorem dX10_block_80 : decode cX10_block 80 = .ok (.newarray .long, 2) := by decide +kernel
theorem dX10_block_82 : decode cX10_block 82 = .ok (.astore 4, 2) := by decide +kernel
theorem dX10_block_84 : decode cX10_block 84 = .ok (.iconst 0, 1) := by decide +kernel
theorem dX10_block_85 : decode cX10_block 85 = .ok (.istore 5, 2) := by decide +kernel
theorem dX10_block_87 : decode cX10_block 87 = .ok (.iconst 0, 1) := by decide +kernel
theorem dX10_block_88 : decode cX10_block 88 = .ok (.istore 6, 2) := by decide +kernel
theorem dX10_block_90 : decode cX10_block 90 = .ok (.iload 6, 2) := by decide +kernel
theorem dX10_block_92 : decode cX10_block 92 = .ok (.aload_n 0, 1) := by decide +kernel
theorem dX10_block_93 : decode cX10_block 93 = .ok (.getfield 142, 3) := by decide +kernel
theorem dX10_block_96 : decode cX10_block 96 = .ok (.if_icmp .ge 29, 3) := by decide +kernel
theorem dX10_block_99 : decode cX10_block 99 = .ok (.iload 5, 2) := by decide +kernel
theorem dX10_block_101 : decode cX10_block 101 = .ok (.aload_n 0, 1) := by decide +kernel
theorem dX10_block_102 : decode cX10_block 102 = .ok (.iload 6, 2) := by decide +kernel
theorem dX10_block_104 : decode cX10_block 104 = .ok (.iload_n 2, 1) := by decide +kernel
theorem dX10_block_105 : decode cX10_block 105 = .ok (.sipush 30000, 3) := by decide +kernel
theorem dX10_block_108 : decode cX10_block 108 = .ok (.iload 5, 2) := by decide +kernel
theorem dX10_block_110 : decode cX10_block 110 = .ok (.isub, 1) := by decide +kernel
theorem dX10_block_111 : decode cX10_block 111 = .ok (.aload 4, 2) := by decide +kernel
theorem dX10_block_113 : decode cX10_block 113 = .ok (.invokevirtual 164, 3) := by decide +kernel
theorem dX10_block_116 : decode cX10_block 116 = .ok (.iadd, 1) := by decide +kernel
theorem dX10_block_117 : decode cX10_block 117 = .ok (.istore 5, 2) := by decide +kernel
theorem dX10_block_119 : decode cX10_block 119 = .ok (.iinc 6 1, 3) := by decide +kernel
theorem dX10_block_122 : decode cX10_block 122 = .ok (.goto (-32), 3) := by decide +kernel
theorem dX10_block_125 : decode cX10_block 125 = .ok (.aload_n 0, 1) := by decide +kernel
theorem dX10_block_126 : decode cX10_block 126 = .ok (.iconst 0, 1) := by decide +kernel
theorem dX10_block_127 : decode cX10_block 127 = .ok (.putfield 142, 3) := by decide +kernel
theorem dX10_block_130 : decode cX10_block 130 = .ok (.aload_n 0, 1) := by decide +kernel
theorem dX10_block_131 : decode cX10_block 131 = .ok (.getfield 38, 3) := by decide +kernel
theorem dX10_block_134 : decode cX10_block 134 = .ok (.istore 6, 2) := by decide +kernel
theorem dX10_block_136 : decode cX10_block 136 = .ok (.aload_n 0, 1) := by decide +kernel
theorem dX10_block_137 : decode cX10_block 137 = .ok (.getfield 31, 3) := by decide +kernel
theorem dX10_block_140 : decode cX10_block 140 = .ok (.iload 6, 2) := by decide +kernel
theorem dX10_block_142 : decode cX10_block 142 = .ok (.new 29, 3) := by decide +kernel
theorem dX10_block_145 : decode cX10_block 145 = .ok (.dup, 1) := by decide +kernel
theorem dX10_block_146 : decode cX10_block 146 = .ok (.iload_n 1, 1) := by decide +kernel
theorem dX10_block_147 : decode cX10_block 147 = .ok (.iload_n 3, 1) := by decide +kernel
theorem dX10_block_148 : decode cX10_block 148 = .ok (.aload_n 0, 1) := by decide +kernel
theorem dX10_block_149 : decode cX10_block 149 = .ok (.getfield 19, 3) := by decide +kernel
theorem dX10_block_152 : decode cX10_block 152 = .ok (.getfield 168, 3) := by decide +kernel
theorem dX10_block_155 : decode cX10_block 155 = .ok (.invokevirtual 172, 3) := by decide +kernel
theorem dX10_block_158 : decode cX10_block 158 = .ok (.aload 4, 2) := by decide +kernel
theorem dX10_block_160 : decode cX10_block 160 = .ok (.aload_n 0, 1) := by decide +kernel
theorem dX10_block_161 : decode cX10_block 161 = .ok (.getfield 19, 3) := by decide +kernel
theorem dX10_block_164 : decode cX10_block 164 = .ok (.getfield 178, 3) := by decide +kernel
theorem dX10_block_167 : decode cX10_block 167 = .ok (.invokevirtual 182, 3) := by decide +kernel
theorem dX10_block_170 : decode cX10_block 170 = .ok (.iload 5, 2) := by decide +kernel
theorem dX10_block_172 : decode cX10_block 172 = .ok (.invokespecial 35, 3) := by decide +kernel
theorem dX10_block_175 : decode cX10_block 175 = .ok (.aastore, 1) := by decide +kernel
theorem dX10_block_176 : decode cX10_block 176 = .ok (.aload_n 0, 1) := by decide +kernel
theorem dX10_block_177 : decode cX10_block 177 = .ok (.dup, 1) := by decide +kernel
theorem dX10_block_178 : decode cX10_block 178 = .ok (.getfield 38, 3) := by decide +kernel
theorem dX10_block_181 : decode cX10_block 181 = .ok (.iconst 1, 1) := by decide +kernel
theorem dX10_block_182 : decode cX10_block 182 = .ok (.iadd, 1) := by decide +kernel
theorem dX10_block_183 : decode cX10_block 183 = .ok (.putfield 38, 3) := by decide +kernel
theorem dX10_block_186 : decode cX10_block 186 = .ok (.iload 6, 2) := by decide +kernel
theorem dX10_block_188 : decode cX10_block 188 = .ok (.ireturn, 1) := by decide +kernel
/-- the state, how many events, the events, receipts, gas used -/
abbrev wT : Type := (Nat → Int64) × Nat × (Nat → wE) × (Nat → wR) × Int32
def o_full (q : wO) (mk i : Nat) (T : wT) (X : vx_S) (r : Nat × Int64 × Nat) : wT := (o_n5 X.1 q mk (o_used q.2.1 r.2.2 X.2.2.1), T.2.1 + X.2.1.length, ev_add T.2.1 T.2.2.1 X.2.1 i, (fun j => if j = i then (r.1, o_used q.2.1 r.2.2 X.2.2.1, r.2.1) else T.2.2.2.1 j), T.2.2.2.2 + o_used q.2.1 r.2.2 X.2.2.1)
def o_none (i : Nat) (T : wT) : wT := (T.1, T.2.1, T.2.2.1, (fun j => if j = i then (0, 0, 0) else T.2.2.2.1 j), T.2.2.2.2)
noncomputable def o_step (cs : Nat → List Nat) (N h mk : Nat) (q : wO) (i : Nat) (T : wT) : wT :=
  haveI := Classical.propDecidable
  if o_void T.1 q (nI 30000 - T.2.2.2.2) then o_none i T else o_full q mk i T (o_run cs N h T.1 q).1 ((o_run cs N h T.1 q).2.getD (0, 0, 0))
theorem o_stepV {cs : Nat → List Nat} {N h mk i : Nat} {q : wO} {T : wT} (h1 : o_void T.1 q (nI 30000 - T.2.2.2.2)) : o_step cs N h mk q i T = o_none i T := if_pos h1
theorem o_stepF {cs : Nat → List Nat} {N h mk i : Nat} {q : wO} {T : wT} {X : vx_S} {r : Nat × Int64 × Nat} (h1 : ¬ o_void T.1 q (nI 30000 - T.2.2.2.2)) (h2 : o_run cs N h T.1 q = (X, some r)) : o_step cs N h mk q i T = o_full q mk i T X r := by
  unfold o_step
  rw [if_neg h1, h2]; rfl
noncomputable def o_all (cs : Nat → List Nat) (N h mk : Nat) (f : Nat → wO) (T : wT) : Nat → wT
  | 0 => T
  | i + 1 => o_step cs N h mk (f i) i (o_all cs N h mk f T i)
/-- what holds after i orders -/
def oI (cs : Nat → List Nat) (N i : Nat) (T : wT) : Prop := vw_codes (cs, N, 0, 0) T.1 ∧ T.2.1 ≤ 2001 * i ∧ (∀ j, j < i → (T.2.2.2.1 j).1 ≤ 3) ∧ ∀ j, j < T.2.1 → (T.2.2.1 j).1 < 32 ∧ (T.2.2.1 j).2.2.2 < 10
theorem vc_n1 {g : vg_T} {n : Nat → Int64} {q : wO} (h : vw_codes g n) : vw_codes g (o_n1 n q) := fun a ha => by
  obtain ⟨c, h1, h2⟩ := h a ha
  exact ⟨c, h1, by unfold o_n1 up1; rw [if_neg (by omega), if_neg (by omega)]; exact h2⟩
theorem vc_n5 {g : vg_T} {n : Nat → Int64} {q : wO} {mk : Nat} {us : Int32} (h : vw_codes g n) : vw_codes g (o_n5 n q mk us) := fun a ha => by
  obtain ⟨c, h1, h2⟩ := h a ha
  exact ⟨c, h1, by unfold o_n5 up1; rw [if_neg (by omega), if_neg (by omega)]; exact h2⟩
theorem oI_none {cs : Nat → List Nat} {N i : Nat} {T : wT} (h : oI cs N i T) : oI cs N (i + 1) (o_none i T) := by
  obtain ⟨h1, h2, h3, h4⟩ := h
  refine ⟨h1, by show T.2.1 ≤ _; omega, fun j hj => ?_, h4⟩
  show (if j = i then ((0, 0, 0) : wR) else T.2.2.2.1 j).1 ≤ 3
  split
  · decide
  · exact h3 j (by omega)
theorem ev_mem {e : List (Nat × Int64 × Int64)} (he : ∀ x ∈ e, x.1 < 32) (j : Nat) : (ev_of e j).1 < 32 := by
  unfold ev_of
  rw [List.getD_eq_getElem?_getD]
  cases h : e[e.length - 1 - j]? with
  | none => decide
  | some x => exact he x (List.mem_of_getElem? h)
theorem oI_full {cs : Nat → List Nat} {N h mk i : Nat} {q : wO} {T : wT} {X : vx_S} {how u : Nat} {x : Int64} (hI : oI cs N i T) (hi : i < 10) (hR : o_run cs N h T.1 q = (X, some (how, x, u))) (hE : vw_E (cs, N, q.1.1, h) X how u) : oI cs N (i + 1) (o_full q mk i T X (how, x, u)) := by
  obtain ⟨h1, h2, h3, h4⟩ := hI
  have hel : X.2.1.length ≤ 2000 := by have := hE.2.2.2; omega
  have hev : ∀ x ∈ X.2.1, x.1 < 32 := by
    have := (vJ_whole (g := (cs, N, q.1.1, h)) (n := o_n1 T.1 q) (to := lN q.1.2.1) (vl := q.1.2.2.1) (ar := q.1.2.2.2) (q := q.2.1 - 25) (l := false)).1
    have e : vm_whole (cs, N, q.1.1, h) (o_n1 T.1 q) [] (lN q.1.2.1) q.1.2.2.1 q.1.2.2.2 (q.2.1 - 25) false = (X, some (how, x, u)) := hR
    rw [e] at this
    exact this
  refine ⟨vc_n5 (g := (cs, N, 0, 0)) hE.1.2.2.2.2.1, ?_, fun j hj => ?_, fun j hj => ?_⟩
  · show T.2.1 + X.2.1.length ≤ 2001 * (i + 1)
    omega
  · show (if j = i then ((how, o_used q.2.1 u X.2.2.1, x) : wR) else T.2.2.2.1 j).1 ≤ 3
    split
    · exact hE.2.2.1.2
    · exact h3 j (by omega)
  · have hj' : j < T.2.1 + X.2.1.length := hj
    show (ev_add T.2.1 T.2.2.1 X.2.1 i j).1 < 32 ∧ (ev_add T.2.1 T.2.2.1 X.2.1 i j).2.2.2 < 10
    unfold ev_add
    split
    · exact h4 j (by assumption)
    · exact ⟨ev_mem hev _, hi⟩
/-- the class's cells after i orders, since C0 -/
def cL (K : Nat → Nat × Nat) (C0 C : rx_M) (cs : Nat → List Nat) (N h rc on i : Nat) (T : wT) : Prop :=
  rc_agE (fun a => a = 9 ∨ a = rc) (fun _ => False) C0 C ∧ (∃ od, od < 10 ∧ rc_P K C (cs, N, 0, h) T.2.1 od T.1) ∧ (∀ j, j < T.2.1 → j < 60 → C.2.1 10 (4 * j) = lN (T.2.2.1 j).1 ∧ C.2.1 10 (4 * j + 1) = (T.2.2.1 j).2.1 ∧ C.2.1 10 (4 * j + 2) = (T.2.2.1 j).2.2.1 ∧ C.2.1 10 (4 * j + 3) = lN (T.2.2.1 j).2.2.2) ∧
  (∀ j, j < i → C.2.1 rc (3 * j) = lN (T.2.2.2.1 j).1 ∧ C.2.1 rc (3 * j + 1) = (T.2.2.2.1 j).2.1.toInt64 ∧ C.2.1 rc (3 * j + 2) = (T.2.2.2.1 j).2.2) ∧ ∀ j, 3 * i ≤ j → C.2.1 rc j = 0
theorem cL_none {K : Nat → Nat × Nat} {C0 C : rx_M} {cs : Nat → List Nat} {N h rc on i : Nat} {T : wT} (hL : cL K C0 C cs N h rc on i T) : cL K C0 C cs N h rc on (i + 1) (o_none i T) := by
  obtain ⟨h1, h2, h3, h4, h5⟩ := hL
  refine ⟨h1, h2, h3, fun j hj => ?_, fun j hj => h5 j (by omega)⟩
  show C.2.1 rc (3 * j) = lN (if j = i then ((0, 0, 0) : wR) else T.2.2.2.1 j).1 ∧ C.2.1 rc (3 * j + 1) = (if j = i then ((0, 0, 0) : wR) else T.2.2.2.1 j).2.1.toInt64 ∧ C.2.1 rc (3 * j + 2) = (if j = i then ((0, 0, 0) : wR) else T.2.2.2.1 j).2.2
  split
  · exact ⟨h5 _ (by omega), h5 _ (by omega), h5 _ (by omega)⟩
  · exact h4 j (by omega)
theorem cL_full {K : Nat → Nat × Nat} {C0 C C' : rx_M} {cs : Nat → List Nat} {N h rc on i mk how u : Nat} {T : wT} {q : wO} {X : vx_S} {x : Int64} (hL : cL K C0 C cs N h rc on i T) (hi : i < 10) (hg : rc_agE (fun a => a = 9 ∨ a = rc) (fun _ => False) C C') (hP : rc_P K C' (cs, N, 0, h) (T.2.1 + X.2.1.length) i (o_n5 X.1 q mk (o_used q.2.1 u X.2.2.1))) (hold : ∀ j, j < 4 * T.2.1 → C'.2.1 10 j = C.2.1 10 j) (hE : rc_E C' T.2.1 i X.2.1) (hrc : ∀ j, C'.2.1 rc j = if j = 3 * i then lN how else if j = 3 * i + 1 then (o_used q.2.1 u X.2.2.1).toInt64 else if j = 3 * i + 2 then x else C.2.1 rc j) : cL K C0 C' cs N h rc on (i + 1) (o_full q mk i T X (how, x, u)) := by
  obtain ⟨h1, h2, h3, h4, h5⟩ := hL
  have hn := h1.2.2.2
  refine ⟨⟨fun a hE ha hn2 => ⟨(hg.1 a hE ha (by omega)).1.trans (h1.1 a hE ha hn2).1, (hg.1 a hE ha (by omega)).2.trans (h1.1 a hE ha hn2).2⟩, fun a hF ha hn2 => (hg.2.1 a hF ha (by omega)).trans (h1.2.1 a hF ha hn2), fun a ha hn2 => (hg.2.2.1 a ha (by omega)).trans (h1.2.2.1 a ha hn2), Nat.le_trans hn hg.2.2.2⟩, ⟨i, hi, hP⟩, fun j hj h60 => ?_, fun j hj => ?_, fun j hj => ?_⟩
  · have hj' : j < T.2.1 + X.2.1.length := hj
    show C'.2.1 10 (4 * j) = lN (ev_add T.2.1 T.2.2.1 X.2.1 i j).1 ∧ C'.2.1 10 (4 * j + 1) = (ev_add T.2.1 T.2.2.1 X.2.1 i j).2.1 ∧ C'.2.1 10 (4 * j + 2) = (ev_add T.2.1 T.2.2.1 X.2.1 i j).2.2.1 ∧ C'.2.1 10 (4 * j + 3) = lN (ev_add T.2.1 T.2.2.1 X.2.1 i j).2.2.2
    unfold ev_add
    split
    · rename_i hlt
      rw [hold _ (by omega), hold _ (by omega), hold _ (by omega), hold _ (by omega)]
      exact h3 j hlt h60
    · rename_i hlt
      have := rcE_get hE (j - T.2.1) (by omega) (by omega)
      rw [show T.2.1 + (j - T.2.1) = j by omega] at this
      exact this
  · show C'.2.1 rc (3 * j) = lN (if j = i then ((how, o_used q.2.1 u X.2.2.1, x) : wR) else T.2.2.2.1 j).1 ∧ C'.2.1 rc (3 * j + 1) = (if j = i then ((how, o_used q.2.1 u X.2.2.1, x) : wR) else T.2.2.2.1 j).2.1.toInt64 ∧ C'.2.1 rc (3 * j + 2) = (if j = i then ((how, o_used q.2.1 u X.2.2.1, x) : wR) else T.2.2.2.1 j).2.2
    rw [hrc, hrc, hrc]
    by_cases e : j = i
    · subst e
      rw [if_pos rfl, if_pos rfl, if_neg (by omega), if_pos rfl, if_neg (by omega), if_neg (by omega), if_pos rfl]
      exact ⟨rfl, rfl, rfl⟩
    · rw [if_neg e, if_neg (by omega), if_neg (by omega), if_neg (by omega), if_neg (by omega), if_neg (by omega), if_neg (by omega), if_neg (by omega), if_neg (by omega), if_neg (by omega)]
      exact h4 j (by omega)
  · rw [hrc, if_neg (by omega), if_neg (by omega), if_neg (by omega)]
    exact h5 j (by omega)
theorem cO1_ne {C C' : rx_M} {a rc on : Nat} {q : wO} (h : cO1 C a q) (hrk : rk C rc 14 (3 * on)) (hg : rc_agE (fun a => a = 9 ∨ a = rc) (fun _ => False) C C') : cO1 C' a q := by
  obtain ⟨h1, h2, h3, h4⟩ := h
  have hne := rk_ne h1 hrk (by decide)
  have e := hg.1 a (fun q => q.elim (fun q => by omega) hne) (by omega) h1.1.1
  refine ⟨rk_agE h1 hg, h2, by rw [e.1, e.2]; exact h3, by rw [e.1]; exact h4⟩
theorem lc_block {G : rx_E} {d mc ms : Nat} {C0 : rx_M} {S : gs_T} {K : Nat → Nat × Nat} {O : Nat → Nat} {cs : Nat → List Nat} {N h rc on p mk : Nat} {f : Nat → wO} {T0 : wT} {Q : Option Value → rx_M → Prop} {Z : String → rx_M → Prop} (hG : rx_OK G) (hon : on ≤ 10) (hmk : mk < 32) (hO : cO O C0 on f) (hrk : rk C0 rc 14 (3 * on)) (hrc : 102 ≤ rc) (hvg : ∀ o, o < 32 → vw_G (cs, N, o, h)) (hb : ∀ i, i < on → ((f i).1.1 < 32 ∧ (f i).1.2.1 < 32) ∧ (f i).2.1 ≤ 30000 ∧ (f i).2.2.1 ≤ 1000000) (kk : ∀ C, cL K C0 C cs N h rc on on (o_all cs N h mk f T0 on) → oI cs N on (o_all cs N h mk f T0 on) → rx_W G MX10_block (d + 6) 125 [(5, .int ((o_all cs N h mk f T0 on).2.2.2.2)), (6, .int (nI on)), (0, .ref 0), (1, .int (nI p)), (2, .int (nI mk)), (3, .int (nI h)), (4, .ref rc)] [] (gl C S) mc ms Q Z) : ∀ (m i : Nat) (C : rx_M), i + m = on → cL K C0 C cs N h rc on i (o_all cs N h mk f T0 i) → oI cs N i (o_all cs N h mk f T0 i) → rx_W G MX10_block (d + 6) 90 [(5, .int ((o_all cs N h mk f T0 i).2.2.2.2)), (6, .int (nI i)), (0, .ref 0), (1, .int (nI p)), (2, .int (nI mk)), (3, .int (nI h)), (4, .ref rc)] [] (gl C S) mc ms Q Z := by
  intro m
  induction m with
  | zero =>
    intro i C hi hL hI
    have hi : i = on := by omega
    subst hi
    refine rx_iload dX10_block_90 rfl ?_
    refine rx_aload_n dX10_block_92 rfl rfl ?_
    refine gcv_getI (v := nI i) hG hf_RX10_142 rfl dX10_block_93 rfl rfl rfl (by rw [(hL.1.1 0 (by show ¬ (0 = 9 ∨ 0 = rc); omega) (by omega) (by omega)).1]; exact hO.1) ?_
    refine rx_icmp_ge (tgt := 125) dX10_block_96 (by decide) (fun _ => ?_) (fun q => absurd (by rw [nI_leI (by omega) (by omega)]; omega) q)
    exact kk C hL hI
  | succ m ih =>
    intro i C hi hL hI
    have hio : i < on := by omega
    have hb' := hb i hio
    have hOi := hO.2 i hio
    have hrk' := rk_agE hrk hL.1
    obtain ⟨od, hod, hP⟩ := hL.2.1
    have hec := hI.2.1
    refine rx_iload dX10_block_90 rfl ?_
    refine rx_aload_n dX10_block_92 rfl rfl ?_
    refine gcv_getI (v := nI on) hG hf_RX10_142 rfl dX10_block_93 rfl rfl rfl (by rw [(hL.1.1 0 (by show ¬ (0 = 9 ∨ 0 = rc); omega) (by omega) (by omega)).1]; exact hO.1) ?_
    refine rx_icmp_ge (tgt := 125) dX10_block_96 (by decide) (fun q => absurd q (by rw [nI_leI (by omega) (by omega)]; omega)) (fun _ => ?_)
    refine rx_iload dX10_block_99 rfl ?_
    refine rx_aload_n dX10_block_101 rfl rfl ?_
    refine rx_iload dX10_block_102 rfl ?_
    refine rx_iload_n dX10_block_104 rfl ?_
    refine rx_sipush (v := nI 30000) dX10_block_105 rfl ?_
    refine rx_iload dX10_block_108 rfl ?_
    refine rx_isub dX10_block_110 ?_
    refine rx_aload dX10_block_111 rfl rfl ?_
    refine gv_invV (as := [.int _, .int _, .int _, .ref _]) hG okX10_doOrder lk_RX10_164 rfl rfl dX10_block_113 rfl (by simp [Value.category]) (cf_doOrder (on := on) (Q := fun v mu => ∃ us C', v = some (.int us) ∧ mu = gl C' S ∧ cL K C0 C' cs N h rc on (i + 1) (o_all cs N h mk f T0 (i + 1)) ∧ oI cs N (i + 1) (o_all cs N h mk f T0 (i + 1)) ∧ (o_all cs N h mk f T0 i).2.2.2.2 + us = (o_all cs N h mk f T0 (i + 1)).2.2.2.2) hG (by omega) hio hon hmk (by omega) (by rw [hL.1.2.1 43 (noF 43) (by omega) (by omega)]; exact hOi.1) (cO1_ne hOi.2 hrk hL.1) hb'.1.1 hb'.1.2 hb'.2.1 hb'.2.2 hP hrk' hrc (hvg _ hb'.1.1) (fun n hn => vc_n1 hn) hI.1 ?_ ?_) ?_
    · intro hvo
      have e1 : o_all cs N h mk f T0 (i + 1) = o_none i (o_all cs N h mk f T0 i) := o_stepV hvo
      refine ⟨_, C, rfl, rfl, ?_, ?_, ?_⟩
      · rw [e1]; exact cL_none hL
      · rw [e1]; exact oI_none hI
      · rw [e1]; show _ + nI 0 = _; rw [nI_0, Int32.add_zero]; rfl
    · intro C' X' how x u hR hE hvo hg hP' hold hrE hrcp
      have e1 : o_all cs N h mk f T0 (i + 1) = o_full (f i) mk i (o_all cs N h mk f T0 i) X' (how, x, u) := o_stepF hvo hR
      refine ⟨_, C', rfl, rfl, ?_, ?_, ?_⟩
      · rw [e1]; exact cL_full hL (by omega) hg hP' hold hrE hrcp
      · rw [e1]; exact oI_full hI (by omega) hR hE
      · rw [e1]; rfl
    · rintro _ _ ⟨us, C', rfl, rfl, hL', hI', hus⟩
      refine rx_iadd dX10_block_116 ?_
      refine rx_ti (y := (o_all cs N h mk f T0 (i + 1)).2.2.2.2) hus ?_
      refine rx_istore dX10_block_117 (by decide) ?_
      refine rx_iinc (v := nI (i + 1)) dX10_block_119 rfl (nI_add _ 1) ?_
      refine rx_goto (tgt := 90) dX10_block_122 (by decide) ?_
      refine rx_lv (lv' := [(5, .int ((o_all cs N h mk f T0 (i + 1)).2.2.2.2)), (6, .int (nI (i + 1))), (0, .ref 0), (1, .int (nI p)), (2, .int (nI mk)), (3, .int (nI h)), (4, .ref rc)]) ⟨rfl, rfl, rfl, rfl, rfl, rfl, rfl, trivial⟩ ?_
      exact ih (i + 1) C' (by omega) hL' hI'

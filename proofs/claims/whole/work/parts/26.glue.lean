/-- the kinds of the cells that the constructors make: 0 .. 51 the class, 52 .. 100 the model, 101 the law's own row -/
def gk_Kl : List (Nat × Nat) := [(10, 12), (4, 3), (12, 200), (15, 200), (7, 13), (3, 2), (17, 16), (9, 1), (14, 1024), (5, 3), (14, 240), (1, 6), (18, 10), (6, 15), (14, 24), (14, 1024), (6, 15), (14, 24), (14, 1024), (6, 15), (14, 24), (14, 1024), (6, 15), (14, 24), (14, 1024), (6, 15), (14, 24), (14, 1024), (6, 15), (14, 24), (14, 1024), (6, 15), (14, 24), (14, 1024), (6, 15), (14, 24), (14, 1024), (6, 15), (14, 24), (14, 1024), (6, 15), (14, 24), (14, 1024), (19, 10), (16, 40), (0, 7), (14, 1024), (14, 0), (14, 0), (13, 7), (14, 7), (14, 10), (11, 65), (13, 3200), (13, 16), (13, 200), (15, 200), (13, 10), (13, 10), (14, 10), (14, 10), (13, 10), (13, 10), (13, 10), (13, 40), (13, 40), (13, 40), (13, 40), (13, 40), (13, 40), (15, 40), (14, 24320), (13, 400), (13, 400), (14, 400), (13, 2400), (14, 2400), (14, 2400), (13, 2400), (13, 7), (15, 280), (14, 10), (14, 608), (14, 6688), (13, 11), (13, 11), (13, 11), (13, 11), (14, 11), (13, 11), (13, 11), (14, 11), (14, 11), (15, 11), (15, 11), (14, 264), (13, 11), (13, 2100), (14, 2100), (14, 2100), (14, 1024), (14, 1)]
/-- their references that never change -/
def gk_Rl : List (List (Option Nat)) := [[some 1, some 4, some 43, none, some 44, none, some 49, some 50, some 51], [some 2, some 3], [], [], [some 5, some 7, some 9, some 11, some 12], [some 6], [], [some 8], [], [some 10], [], [], [some 13, some 16, some 19, some 22, some 25, some 28, some 31, some 34, some 37, some 40], [some 14, some 15], [], [], [some 17, some 18], [], [], [some 20, some 21], [], [], [some 23, some 24], [], [], [some 26, some 27], [], [], [some 29, some 30], [], [], [some 32, some 33], [], [], [some 35, some 36], [], [], [some 38, some 39], [], [], [some 41, some 42], [], [], [], [], [], [], [], [], [], [], [], [none, some 53, some 54, none, some 55, none, some 56, none, some 57, some 58, some 59, some 60, some 61, some 62, some 63, none, some 64, some 65, some 66, some 67, some 68, some 69, some 70, some 71, some 72, some 73, some 74, some 75, some 76, some 77, some 78, some 79, some 80, some 81, some 82, some 83, some 84, some 85, some 86, some 87, some 88, some 89, some 90, some 91, some 92, some 93, some 94, some 95, some 96, none, none, none, none, some 97, some 98, some 99, none, none, none, none, none, none, none, none, some 100], [], [], [], [], [], [], [], [], [], [], [], [], [], [], [], [], [], [], [], [], [], [], [], [], [], [], [], [], [], [], [], [], [], [], [], [], [], [], [], [], [], [], [], [], [], [], [], [], []]
def gk_K (a : Nat) : Nat × Nat := gk_Kl.getD a (20, 0)
def gk_R (a k : Nat) : Option Nat := (gk_Rl.getD a []).getD k none
def gk_m (a : Nat) : Bool := Nat.ble 52 a && Nat.blt a 101
def gk_f (a : Nat) : Bool := Nat.blt a 102
/-- the model's part: ints and longs of its cells -/
abbrev gs_T : Type := (Nat → Nat → Int32) × (Nat → Nat → Int64)
/-- the memory once all is made: the class's part C (and what came later), the model's part S -/
def gl (C : rx_M) (S : gs_T) : rx_M := (fun a => bif gk_m a then S.1 a else C.1 a, fun a => bif gk_m a then S.2 a else C.2.1 a, fun a k => (gk_R a k).elim (C.2.2.1 a k) some, fun a => bif gk_f a then gk_K a else C.2.2.2.1 a, 102 + C.2.2.2.2)
theorem gl_n {C : rx_M} {S : gs_T} {a : Nat} (h : gk_f a = true) : a < (gl C S).2.2.2.2 := by
  have : a < 102 := by simpa [gk_f] using h
  show a < 102 + C.2.2.2.2
  omega
theorem gl_k {C : rx_M} {S : gs_T} {a : Nat} (h : gk_f a = true) {q : Nat × Nat} (hq : gk_K a = q) : (gl C S).2.2.2.1 a = q := by
  show (bif gk_f a then gk_K a else C.2.2.2.1 a) = q
  rw [h, hq]; rfl
theorem gl_r {C : rx_M} {S : gs_T} {a k r : Nat} (h : gk_R a k = some r) : (gl C S).2.2.1 a k = some r := by
  show (gk_R a k).elim (C.2.2.1 a k) some = some r
  rw [h]; rfl
theorem gl_IM {C : rx_M} {S : gs_T} {a : Nat} (h : gk_m a = true) : (gl C S).1 a = S.1 a := by
  show (bif gk_m a then S.1 a else C.1 a) = S.1 a
  rw [h]; rfl
theorem gl_LM {C : rx_M} {S : gs_T} {a : Nat} (h : gk_m a = true) : (gl C S).2.1 a = S.2 a := by
  show (bif gk_m a then S.2 a else C.2.1 a) = S.2 a
  rw [h]; rfl
theorem gl_IC {C : rx_M} {S : gs_T} {a : Nat} (h : gk_m a = false) : (gl C S).1 a = C.1 a := by
  show (bif gk_m a then S.1 a else C.1 a) = C.1 a
  rw [h]; rfl
theorem gl_LC {C : rx_M} {S : gs_T} {a : Nat} (h : gk_m a = false) : (gl C S).2.1 a = C.2.1 a := by
  show (bif gk_m a then S.2 a else C.2.1 a) = C.2.1 a
  rw [h]; rfl
theorem gl_uIM {C : rx_M} {S : gs_T} {a : Nat} (h : gk_m a = true) (j : Nat) (x : Int32) : (rx_u (gl C S).1 a j x, (gl C S).2) = gl C (rx_u S.1 a j x, S.2) := by
  refine Prod.ext (funext fun b => ?_) rfl
  show rx_u (gl C S).1 a j x b = (bif gk_m b then rx_u S.1 a j x b else C.1 b)
  by_cases hb : b = a
  · subst hb
    rw [h, rx_u_self, gl_IM h]
    show _ = rx_u S.1 b j x b
    rw [rx_u_self]
  · rw [rx_u_ne _ _ _ hb, rx_u_ne _ _ _ hb]; rfl
theorem gl_uLM {C : rx_M} {S : gs_T} {a : Nat} (h : gk_m a = true) (j : Nat) (x : Int64) : ((gl C S).1, rx_u (gl C S).2.1 a j x, (gl C S).2.2) = gl C (S.1, rx_u S.2 a j x) := by
  refine Prod.ext rfl (Prod.ext (funext fun b => ?_) rfl)
  show rx_u (gl C S).2.1 a j x b = (bif gk_m b then rx_u S.2 a j x b else C.2.1 b)
  by_cases hb : b = a
  · subst hb
    rw [h, rx_u_self, gl_LM h]
    show _ = rx_u S.2 b j x b
    rw [rx_u_self]
  · rw [rx_u_ne _ _ _ hb, rx_u_ne _ _ _ hb]; rfl
theorem gl_uIC {C : rx_M} {S : gs_T} {a : Nat} (h : gk_m a = false) (j : Nat) (x : Int32) : (rx_u (gl C S).1 a j x, (gl C S).2) = gl (rx_u C.1 a j x, C.2) S := by
  refine Prod.ext (funext fun b => ?_) rfl
  show rx_u (gl C S).1 a j x b = (bif gk_m b then S.1 b else rx_u C.1 a j x b)
  by_cases hb : b = a
  · subst hb
    rw [h, rx_u_self, gl_IC h]
    show _ = rx_u C.1 b j x b
    rw [rx_u_self]
  · rw [rx_u_ne _ _ _ hb, rx_u_ne _ _ _ hb]; rfl
theorem gl_uLC {C : rx_M} {S : gs_T} {a : Nat} (h : gk_m a = false) (j : Nat) (x : Int64) : ((gl C S).1, rx_u (gl C S).2.1 a j x, (gl C S).2.2) = gl (C.1, rx_u C.2.1 a j x, C.2.2) S := by
  refine Prod.ext rfl (Prod.ext (funext fun b => ?_) rfl)
  show rx_u (gl C S).2.1 a j x b = (bif gk_m b then S.2 b else rx_u C.2.1 a j x b)
  by_cases hb : b = a
  · subst hb
    rw [h, rx_u_self, gl_LC h]
    show _ = rx_u C.2.1 b j x b
    rw [rx_u_self]
  · rw [rx_u_ne _ _ _ hb, rx_u_ne _ _ _ hb]; rfl
section GL
variable {G : rx_E} {M : rx_Me} {d pc mc ms : Nat} {lv : List (Nat × Value)} {st : List Value} {C : rx_M} {S : gs_T} {Q : Option Value → rx_M → Prop} {Z : String → rx_M → Prop}
theorem gm_getI {a idx ci k : Nat} {ty : FieldType} (hG : rx_OK G) (hF : rx_Fd M.1.cls idx ci k ty) (ht : rx_tc ty = 0) (hd : decode M.2.1 pc = .ok (.getfield idx, 3)) (hm : gk_m a = true) (hf : gk_f a = true) (hk : (gk_K a).1 = ci) (kk : rx_W G M d (pc + 3) lv (.int (S.1 a k) :: st) (gl C S) mc ms Q Z) : rx_W G M d pc lv (.ref a :: st) (gl C S) mc ms Q Z :=
  rx_getI hG hF ht hd (gl_n hf) ((congrArg Prod.fst (gl_k hf rfl)).trans hk) (by rw [gl_IM hm]; exact kk)
theorem gm_getL {a idx ci k : Nat} {ty : FieldType} (hG : rx_OK G) (hF : rx_Fd M.1.cls idx ci k ty) (ht : rx_tc ty = 1) (hd : decode M.2.1 pc = .ok (.getfield idx, 3)) (hm : gk_m a = true) (hf : gk_f a = true) (hk : (gk_K a).1 = ci) (kk : rx_W G M d (pc + 3) lv (.long (S.2 a k) :: st) (gl C S) mc ms Q Z) : rx_W G M d pc lv (.ref a :: st) (gl C S) mc ms Q Z :=
  rx_getL hG hF ht hd (gl_n hf) ((congrArg Prod.fst (gl_k hf rfl)).trans hk) (by rw [gl_LM hm]; exact kk)
theorem gm_putI {a idx ci k : Nat} {ty : FieldType} {x : Int32} (hG : rx_OK G) (hF : rx_Fd M.1.cls idx ci k ty) (hw : rx_Wr M idx ci k) (ht : rx_tc ty = 0) (hd : decode M.2.1 pc = .ok (.putfield idx, 3)) (hm : gk_m a = true) (hf : gk_f a = true) (hk : (gk_K a).1 = ci) (hv : narrow ty (.int x) = .int x) (hq : fits ty (.int x) = true) (kk : rx_W G M d (pc + 3) lv st (gl C (rx_u S.1 a k x, S.2)) mc ms Q Z) : rx_W G M d pc lv (.int x :: .ref a :: st) (gl C S) mc ms Q Z :=
  rx_putI hG hF hw ht hd (gl_n hf) ((congrArg Prod.fst (gl_k hf rfl)).trans hk) hv hq (by rw [gl_uIM hm]; exact kk)
theorem gm_putL {a idx ci k : Nat} {x : Int64} (hG : rx_OK G) (hF : rx_Fd M.1.cls idx ci k .long) (hw : rx_Wr M idx ci k) (hd : decode M.2.1 pc = .ok (.putfield idx, 3)) (hm : gk_m a = true) (hf : gk_f a = true) (hk : (gk_K a).1 = ci) (kk : rx_W G M d (pc + 3) lv st (gl C (S.1, rx_u S.2 a k x)) mc ms Q Z) : rx_W G M d pc lv (.long x :: .ref a :: st) (gl C S) mc ms Q Z :=
  rx_putL hG hF hw hd (gl_n hf) ((congrArg Prod.fst (gl_k hf rfl)).trans hk) (by rw [gl_uLM hm]; exact kk)
theorem gm_iald {a j n : Nat} {i : Int32} (hG : rx_OK G) (hd : decode M.2.1 pc = .ok (.iaload, 1)) (hm : gk_m a = true) (hf : gk_f a = true) (hk : gk_K a = (13, n)) (hi : i = nI j) (hj : j < n) (hN : n < 2147483648) (kk : rx_W G M d (pc + 1) lv (.int (S.1 a j) :: st) (gl C S) mc ms Q Z) : rx_W G M d pc lv (.int i :: .ref a :: st) (gl C S) mc ms Q Z :=
  rx_iald hG hd (gl_n hf) (gl_k hf hk) hi hj hN (by rw [gl_IM hm]; exact kk)
theorem gm_bald {a j n : Nat} {i : Int32} (hG : rx_OK G) (hd : decode M.2.1 pc = .ok (.baload, 1)) (hm : gk_m a = true) (hf : gk_f a = true) (hk : gk_K a = (12, n)) (hi : i = nI j) (hj : j < n) (hN : n < 2147483648) (kk : rx_W G M d (pc + 1) lv (.int (S.1 a j) :: st) (gl C S) mc ms Q Z) : rx_W G M d pc lv (.int i :: .ref a :: st) (gl C S) mc ms Q Z :=
  rx_bald hG hd (gl_n hf) (gl_k hf hk) hi hj hN (by rw [gl_IM hm]; exact kk)
theorem gm_zald {a j n : Nat} {i : Int32} (hG : rx_OK G) (hd : decode M.2.1 pc = .ok (.baload, 1)) (hm : gk_m a = true) (hf : gk_f a = true) (hk : gk_K a = (15, n)) (hi : i = nI j) (hj : j < n) (hN : n < 2147483648) (kk : rx_W G M d (pc + 1) lv (.int (S.1 a j) :: st) (gl C S) mc ms Q Z) : rx_W G M d pc lv (.int i :: .ref a :: st) (gl C S) mc ms Q Z :=
  rx_zald hG hd (gl_n hf) (gl_k hf hk) hi hj hN (by rw [gl_IM hm]; exact kk)
theorem gm_lald {a j n : Nat} {i : Int32} (hG : rx_OK G) (hd : decode M.2.1 pc = .ok (.laload, 1)) (hm : gk_m a = true) (hf : gk_f a = true) (hk : gk_K a = (14, n)) (hi : i = nI j) (hj : j < n) (hN : n < 2147483648) (kk : rx_W G M d (pc + 1) lv (.long (S.2 a j) :: st) (gl C S) mc ms Q Z) : rx_W G M d pc lv (.int i :: .ref a :: st) (gl C S) mc ms Q Z :=
  rx_lald hG hd (gl_n hf) (gl_k hf hk) hi hj hN (by rw [gl_LM hm]; exact kk)
theorem gm_last {a j n : Nat} {i : Int32} {x : Int64} (hG : rx_OK G) (hd : decode M.2.1 pc = .ok (.lastore, 1)) (hm : gk_m a = true) (hf : gk_f a = true) (hk : gk_K a = (14, n)) (hi : i = nI j) (hj : j < n) (hN : n < 2147483648) (kk : rx_W G M d (pc + 1) lv st (gl C (S.1, rx_u S.2 a j x)) mc ms Q Z) : rx_W G M d pc lv (.long x :: .int i :: .ref a :: st) (gl C S) mc ms Q Z :=
  rx_last hG hd (gl_n hf) (gl_k hf hk) hi hj hN (by rw [gl_uLM hm]; exact kk)
theorem gm_iast {a j n : Nat} {i x : Int32} (hG : rx_OK G) (hd : decode M.2.1 pc = .ok (.iastore, 1)) (hm : gk_m a = true) (hf : gk_f a = true) (hk : gk_K a = (13, n)) (hi : i = nI j) (hj : j < n) (hN : n < 2147483648) (kk : rx_W G M d (pc + 1) lv st (gl C (rx_u S.1 a j x, S.2)) mc ms Q Z) : rx_W G M d pc lv (.int x :: .int i :: .ref a :: st) (gl C S) mc ms Q Z :=
  rx_iast hG hd (gl_n hf) (gl_k hf hk) hi hj hN (by rw [gl_uIM hm]; exact kk)
theorem gm_bast {a j n : Nat} {i x : Int32} (hG : rx_OK G) (hd : decode M.2.1 pc = .ok (.bastore, 1)) (hm : gk_m a = true) (hf : gk_f a = true) (hk : gk_K a = (12, n)) (hi : i = nI j) (hj : j < n) (hN : n < 2147483648) (kk : rx_W G M d (pc + 1) lv st (gl C (rx_u S.1 a j x.toInt8.toInt32, S.2)) mc ms Q Z) : rx_W G M d pc lv (.int x :: .int i :: .ref a :: st) (gl C S) mc ms Q Z :=
  rx_bast hG hd (gl_n hf) (gl_k hf hk) hi hj hN (by rw [gl_uIM hm]; exact kk)
theorem gm_zast {a j n : Nat} {i x : Int32} (hG : rx_OK G) (hd : decode M.2.1 pc = .ok (.bastore, 1)) (hm : gk_m a = true) (hf : gk_f a = true) (hk : gk_K a = (15, n)) (hi : i = nI j) (hj : j < n) (hN : n < 2147483648) (hx : narrow .boolean (.int x) = .int x) (kk : rx_W G M d (pc + 1) lv st (gl C (rx_u S.1 a j x, S.2)) mc ms Q Z) : rx_W G M d pc lv (.int x :: .int i :: .ref a :: st) (gl C S) mc ms Q Z :=
  rx_zast hG hd (gl_n hf) (gl_k hf hk) hi hj hN hx (by rw [gl_uIM hm]; exact kk)
theorem gc_getI {a idx ci k : Nat} {ty : FieldType} (hG : rx_OK G) (hF : rx_Fd M.1.cls idx ci k ty) (ht : rx_tc ty = 0) (hd : decode M.2.1 pc = .ok (.getfield idx, 3)) (hm : gk_m a = false) (hf : gk_f a = true) (hk : (gk_K a).1 = ci) (kk : rx_W G M d (pc + 3) lv (.int (C.1 a k) :: st) (gl C S) mc ms Q Z) : rx_W G M d pc lv (.ref a :: st) (gl C S) mc ms Q Z :=
  rx_getI hG hF ht hd (gl_n hf) ((congrArg Prod.fst (gl_k hf rfl)).trans hk) (by rw [gl_IC hm]; exact kk)
theorem gc_getL {a idx ci k : Nat} {ty : FieldType} (hG : rx_OK G) (hF : rx_Fd M.1.cls idx ci k ty) (ht : rx_tc ty = 1) (hd : decode M.2.1 pc = .ok (.getfield idx, 3)) (hm : gk_m a = false) (hf : gk_f a = true) (hk : (gk_K a).1 = ci) (kk : rx_W G M d (pc + 3) lv (.long (C.2.1 a k) :: st) (gl C S) mc ms Q Z) : rx_W G M d pc lv (.ref a :: st) (gl C S) mc ms Q Z :=
  rx_getL hG hF ht hd (gl_n hf) ((congrArg Prod.fst (gl_k hf rfl)).trans hk) (by rw [gl_LC hm]; exact kk)
theorem gc_putI {a idx ci k : Nat} {ty : FieldType} {x : Int32} (hG : rx_OK G) (hF : rx_Fd M.1.cls idx ci k ty) (hw : rx_Wr M idx ci k) (ht : rx_tc ty = 0) (hd : decode M.2.1 pc = .ok (.putfield idx, 3)) (hm : gk_m a = false) (hf : gk_f a = true) (hk : (gk_K a).1 = ci) (hv : narrow ty (.int x) = .int x) (hq : fits ty (.int x) = true) (kk : rx_W G M d (pc + 3) lv st (gl (rx_u C.1 a k x, C.2) S) mc ms Q Z) : rx_W G M d pc lv (.int x :: .ref a :: st) (gl C S) mc ms Q Z :=
  rx_putI hG hF hw ht hd (gl_n hf) ((congrArg Prod.fst (gl_k hf rfl)).trans hk) hv hq (by rw [gl_uIC hm]; exact kk)
theorem gc_putL {a idx ci k : Nat} {x : Int64} (hG : rx_OK G) (hF : rx_Fd M.1.cls idx ci k .long) (hw : rx_Wr M idx ci k) (hd : decode M.2.1 pc = .ok (.putfield idx, 3)) (hm : gk_m a = false) (hf : gk_f a = true) (hk : (gk_K a).1 = ci) (kk : rx_W G M d (pc + 3) lv st (gl (C.1, rx_u C.2.1 a k x, C.2.2) S) mc ms Q Z) : rx_W G M d pc lv (.long x :: .ref a :: st) (gl C S) mc ms Q Z :=
  rx_putL hG hF hw hd (gl_n hf) ((congrArg Prod.fst (gl_k hf rfl)).trans hk) (by rw [gl_uLC hm]; exact kk)
theorem gc_iald {a j n : Nat} {i : Int32} (hG : rx_OK G) (hd : decode M.2.1 pc = .ok (.iaload, 1)) (hm : gk_m a = false) (hf : gk_f a = true) (hk : gk_K a = (13, n)) (hi : i = nI j) (hj : j < n) (hN : n < 2147483648) (kk : rx_W G M d (pc + 1) lv (.int (C.1 a j) :: st) (gl C S) mc ms Q Z) : rx_W G M d pc lv (.int i :: .ref a :: st) (gl C S) mc ms Q Z :=
  rx_iald hG hd (gl_n hf) (gl_k hf hk) hi hj hN (by rw [gl_IC hm]; exact kk)
theorem gc_bald {a j n : Nat} {i : Int32} (hG : rx_OK G) (hd : decode M.2.1 pc = .ok (.baload, 1)) (hm : gk_m a = false) (hf : gk_f a = true) (hk : gk_K a = (12, n)) (hi : i = nI j) (hj : j < n) (hN : n < 2147483648) (kk : rx_W G M d (pc + 1) lv (.int (C.1 a j) :: st) (gl C S) mc ms Q Z) : rx_W G M d pc lv (.int i :: .ref a :: st) (gl C S) mc ms Q Z :=
  rx_bald hG hd (gl_n hf) (gl_k hf hk) hi hj hN (by rw [gl_IC hm]; exact kk)
theorem gc_zald {a j n : Nat} {i : Int32} (hG : rx_OK G) (hd : decode M.2.1 pc = .ok (.baload, 1)) (hm : gk_m a = false) (hf : gk_f a = true) (hk : gk_K a = (15, n)) (hi : i = nI j) (hj : j < n) (hN : n < 2147483648) (kk : rx_W G M d (pc + 1) lv (.int (C.1 a j) :: st) (gl C S) mc ms Q Z) : rx_W G M d pc lv (.int i :: .ref a :: st) (gl C S) mc ms Q Z :=
  rx_zald hG hd (gl_n hf) (gl_k hf hk) hi hj hN (by rw [gl_IC hm]; exact kk)
theorem gc_lald {a j n : Nat} {i : Int32} (hG : rx_OK G) (hd : decode M.2.1 pc = .ok (.laload, 1)) (hm : gk_m a = false) (hf : gk_f a = true) (hk : gk_K a = (14, n)) (hi : i = nI j) (hj : j < n) (hN : n < 2147483648) (kk : rx_W G M d (pc + 1) lv (.long (C.2.1 a j) :: st) (gl C S) mc ms Q Z) : rx_W G M d pc lv (.int i :: .ref a :: st) (gl C S) mc ms Q Z :=
  rx_lald hG hd (gl_n hf) (gl_k hf hk) hi hj hN (by rw [gl_LC hm]; exact kk)
theorem gc_last {a j n : Nat} {i : Int32} {x : Int64} (hG : rx_OK G) (hd : decode M.2.1 pc = .ok (.lastore, 1)) (hm : gk_m a = false) (hf : gk_f a = true) (hk : gk_K a = (14, n)) (hi : i = nI j) (hj : j < n) (hN : n < 2147483648) (kk : rx_W G M d (pc + 1) lv st (gl (C.1, rx_u C.2.1 a j x, C.2.2) S) mc ms Q Z) : rx_W G M d pc lv (.long x :: .int i :: .ref a :: st) (gl C S) mc ms Q Z :=
  rx_last hG hd (gl_n hf) (gl_k hf hk) hi hj hN (by rw [gl_uLC hm]; exact kk)
theorem gc_iast {a j n : Nat} {i x : Int32} (hG : rx_OK G) (hd : decode M.2.1 pc = .ok (.iastore, 1)) (hm : gk_m a = false) (hf : gk_f a = true) (hk : gk_K a = (13, n)) (hi : i = nI j) (hj : j < n) (hN : n < 2147483648) (kk : rx_W G M d (pc + 1) lv st (gl (rx_u C.1 a j x, C.2) S) mc ms Q Z) : rx_W G M d pc lv (.int x :: .int i :: .ref a :: st) (gl C S) mc ms Q Z :=
  rx_iast hG hd (gl_n hf) (gl_k hf hk) hi hj hN (by rw [gl_uIC hm]; exact kk)
theorem gc_bast {a j n : Nat} {i x : Int32} (hG : rx_OK G) (hd : decode M.2.1 pc = .ok (.bastore, 1)) (hm : gk_m a = false) (hf : gk_f a = true) (hk : gk_K a = (12, n)) (hi : i = nI j) (hj : j < n) (hN : n < 2147483648) (kk : rx_W G M d (pc + 1) lv st (gl (rx_u C.1 a j x.toInt8.toInt32, C.2) S) mc ms Q Z) : rx_W G M d pc lv (.int x :: .int i :: .ref a :: st) (gl C S) mc ms Q Z :=
  rx_bast hG hd (gl_n hf) (gl_k hf hk) hi hj hN (by rw [gl_uIC hm]; exact kk)
theorem gc_zast {a j n : Nat} {i x : Int32} (hG : rx_OK G) (hd : decode M.2.1 pc = .ok (.bastore, 1)) (hm : gk_m a = false) (hf : gk_f a = true) (hk : gk_K a = (15, n)) (hi : i = nI j) (hj : j < n) (hN : n < 2147483648) (hx : narrow .boolean (.int x) = .int x) (kk : rx_W G M d (pc + 1) lv st (gl (rx_u C.1 a j x, C.2) S) mc ms Q Z) : rx_W G M d pc lv (.int x :: .int i :: .ref a :: st) (gl C S) mc ms Q Z :=
  rx_zast hG hd (gl_n hf) (gl_k hf hk) hi hj hN hx (by rw [gl_uIC hm]; exact kk)
theorem g_getR {a idx ci k r : Nat} {ty : FieldType} (hG : rx_OK G) (hF : rx_Fd M.1.cls idx ci k ty) (ht : rx_tc ty = 2) (hd : decode M.2.1 pc = .ok (.getfield idx, 3)) (hf : gk_f a = true) (hk : (gk_K a).1 = ci) (hr : gk_R a k = some r) (kk : rx_W G M d (pc + 3) lv (.ref r :: st) (gl C S) mc ms Q Z) : rx_W G M d pc lv (.ref a :: st) (gl C S) mc ms Q Z :=
  rx_getR hG hF ht hd (gl_n hf) ((congrArg Prod.fst (gl_k hf rfl)).trans hk) (gl_r hr) kk
end GL
/-- a field that isn't final -/
theorem gw_nf {M : rx_Me} {idx ci k : Nat} {C0 : String} {T0 : u_T} {N0 : Nat} (hc : vwCl[ci]? = some (C0, T0, N0)) (h : (T0 k).2.2.2 = false) : rx_Wr M idx ci k := fun C T N hCl => by
  have := hCl.2.1.symm.trans hc
  cases this
  exact Or.inl h

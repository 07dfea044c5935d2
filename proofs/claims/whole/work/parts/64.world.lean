/-! THE WHOLE OBJECT AS MATHEMATICS: a world w; the class's cells C hold it (rcw), the model's rows S hold it (rmw) -/
/-- an order: (from, to, value, argument), (gas, price, nonce) -/
abbrev wO : Type := (Nat × Nat × Int64 × Int64) × (Nat × Nat × Int32)
/-- an event: account, topic, datum, order -/
abbrev wE : Type := Nat × Int64 × Int64 × Nat
/-- a receipt: how it ended, gas, answer -/
abbrev wR : Type := Nat × Int32 × Int64
/-- a block: (parent, height, how many orders, how many events), its state, receipts, events, (gas, weights for it) -/
abbrev wB : Type := (Int32 × Nat × Nat × Nat) × (Nat → Int64) × (Nat → wR) × (Nat → wE) × (Int32 × Nat)
/-- (draft, codes, how many), orders, blocks, (weights, heights voted at), digests beside, what a view showed -/
abbrev wW : Type := (List Nat × (Nat → List Nat) × Nat) × (Nat × (Nat → wO)) × (Nat × (Nat → wB)) × ((Nat → Nat) × (Nat → Int64)) × (Nat → Int64) × (Int32 × Int32 × Int32)
/-- a cell that was made by the class, its kind; fixed or later -/
def rk (C : rx_M) (a t n : Nat) : Prop := (a < 102 + C.2.2.2.2 ∧ gk_m a = false ∧ ∀ k, gk_R a k = none) ∧ (bif gk_f a then gk_K a else C.2.2.2.1 a) = (t, n)
section GY
variable {G : rx_E} {M : rx_Me} {d pc mc ms : Nat} {lv : List (Nat × Value)} {st : List Value} {C : rx_M} {S : gs_T} {Q : Option Value → rx_M → Prop} {Z : String → rx_M → Prop}
theorem rk_n {a t n : Nat} (h : rk C a t n) : a < (gl C S).2.2.2.2 := h.1.1
theorem rk_k {a t n : Nat} (h : rk C a t n) : (gl C S).2.2.2.1 a = (t, n) := h.2
theorem gy_getI {a idx ci k n : Nat} {ty : FieldType} {v : Int32} (hG : rx_OK G) (hF : rx_Fd M.1.cls idx ci k ty) (ht : rx_tc ty = 0) (hd : decode M.2.1 pc = .ok (.getfield idx, 3)) (ha : rk C a ci n) (hv : C.1 a k = v) (kk : rx_W G M d (pc + 3) lv (.int v :: st) (gl C S) mc ms Q Z) : rx_W G M d pc lv (.ref a :: st) (gl C S) mc ms Q Z :=
  rx_getI hG hF ht hd (rk_n ha) (congrArg Prod.fst (rk_k ha)) (by rw [gl_IC ha.1.2.1, hv]; exact kk)
theorem gy_getL {a idx ci k n : Nat} {ty : FieldType} {v : Int64} (hG : rx_OK G) (hF : rx_Fd M.1.cls idx ci k ty) (ht : rx_tc ty = 1) (hd : decode M.2.1 pc = .ok (.getfield idx, 3)) (ha : rk C a ci n) (hv : C.2.1 a k = v) (kk : rx_W G M d (pc + 3) lv (.long v :: st) (gl C S) mc ms Q Z) : rx_W G M d pc lv (.ref a :: st) (gl C S) mc ms Q Z :=
  rx_getL hG hF ht hd (rk_n ha) (congrArg Prod.fst (rk_k ha)) (by rw [gl_LC ha.1.2.1, hv]; exact kk)
theorem gy_getR {a idx ci k n r : Nat} {ty : FieldType} (hG : rx_OK G) (hF : rx_Fd M.1.cls idx ci k ty) (ht : rx_tc ty = 2) (hd : decode M.2.1 pc = .ok (.getfield idx, 3)) (ha : rk C a ci n) (hr : C.2.2.1 a k = some r) (kk : rx_W G M d (pc + 3) lv (.ref r :: st) (gl C S) mc ms Q Z) : rx_W G M d pc lv (.ref a :: st) (gl C S) mc ms Q Z :=
  rx_getR hG hF ht hd (rk_n ha) (congrArg Prod.fst (rk_k ha)) ((gd_r (ha.1.2.2 k)).trans hr) kk
theorem gy_alen {a n t : Nat} (hG : rx_OK G) (hd : decode M.2.1 pc = .ok (.arraylength, 1)) (ha : rk C a t n) (ht : 12 ≤ t ∧ t < 16) (kk : rx_W G M d (pc + 1) lv (.int (nI n) :: st) (gl C S) mc ms Q Z) : rx_W G M d pc lv (.ref a :: st) (gl C S) mc ms Q Z :=
  rx_alen hG hd (rk_n ha) (rk_k ha) ht rfl kk
theorem gy_lald {a j n : Nat} {i : Int32} {v : Int64} (hG : rx_OK G) (hd : decode M.2.1 pc = .ok (.laload, 1)) (ha : rk C a 14 n) (hi : i = nI j) (hj : j < n) (hN : n < 2147483648) (hv : C.2.1 a j = v) (kk : rx_W G M d (pc + 1) lv (.long v :: st) (gl C S) mc ms Q Z) : rx_W G M d pc lv (.int i :: .ref a :: st) (gl C S) mc ms Q Z :=
  rx_lald hG hd (rk_n ha) (rk_k ha) hi hj hN (by rw [gl_LC ha.1.2.1, hv]; exact kk)
theorem gy_last {a j n : Nat} {i : Int32} {x : Int64} (hG : rx_OK G) (hd : decode M.2.1 pc = .ok (.lastore, 1)) (ha : rk C a 14 n) (hi : i = nI j) (hj : j < n) (hN : n < 2147483648) (kk : rx_W G M d (pc + 1) lv st (gl (C.1, rx_u C.2.1 a j x, C.2.2) S) mc ms Q Z) : rx_W G M d pc lv (.long x :: .int i :: .ref a :: st) (gl C S) mc ms Q Z :=
  rx_last hG hd (rk_n ha) (rk_k ha) hi hj hN (by rw [gl_uLC ha.1.2.1]; exact kk)
theorem gy_putI {a idx ci k n : Nat} {ty : FieldType} {x : Int32} (hG : rx_OK G) (hF : rx_Fd M.1.cls idx ci k ty) (hw : rx_Wr M idx ci k) (ht : rx_tc ty = 0) (hd : decode M.2.1 pc = .ok (.putfield idx, 3)) (ha : rk C a ci n) (hv : narrow ty (.int x) = .int x) (hq : fits ty (.int x) = true) (kk : rx_W G M d (pc + 3) lv st (gl (rx_u C.1 a k x, C.2) S) mc ms Q Z) : rx_W G M d pc lv (.int x :: .ref a :: st) (gl C S) mc ms Q Z :=
  rx_putI hG hF hw ht hd (rk_n ha) (congrArg Prod.fst (rk_k ha)) hv hq (by rw [gl_uIC ha.1.2.1]; exact kk)
/-- what throws leave: cells that no one knows -/
theorem gl_gap {n : Nat} (h : (gl C S).2.2.2.2 ≤ n) : rx_gap (gl C S) n = gl (C.1, C.2.1, C.2.2.1, (fun a => if a < 102 + C.2.2.2.2 then C.2.2.2.1 a else (20, 0)), n - 102) S := by
  have h' : 102 + C.2.2.2.2 ≤ n := h
  refine Prod.ext rfl (Prod.ext rfl (Prod.ext rfl (Prod.ext (funext fun a => ?_) ?_)))
  · show (if a < 102 + C.2.2.2.2 then (bif gk_f a then gk_K a else C.2.2.2.1 a) else (20, 0)) = (bif gk_f a then gk_K a else (if a < 102 + C.2.2.2.2 then C.2.2.2.1 a else (20, 0)))
    by_cases ha : a < 102 + C.2.2.2.2
    · rw [if_pos ha, if_pos ha]
    · rw [if_neg ha, if_neg ha, show gk_f a = false from gkX_f (by omega)]; rfl
  · show n = 102 + (n - 102)
    omega
end GY
/-- the cells that a world is held in are as they were, and there may be more -/
def rc_ag (C C' : rx_M) : Prop := (∀ a, (a < 4 ∨ a = 5 ∨ a = 9 ∨ (42 < a ∧ a ≠ 101)) → a < 102 + C.2.2.2.2 → C'.1 a = C.1 a ∧ C'.2.1 a = C.2.1 a) ∧ (∀ a, (a = 6 ∨ 42 < a) → a < 102 + C.2.2.2.2 → C'.2.2.1 a = C.2.2.1 a) ∧ (∀ a, 102 ≤ a → a < 102 + C.2.2.2.2 → C'.2.2.2.1 a = C.2.2.2.1 a) ∧ C.2.2.2.2 ≤ C'.2.2.2.2
/-- the same but for the ints and longs of E, the references of F -/
def rc_agE (E F : Nat → Prop) (C C' : rx_M) : Prop := (∀ a, ¬ E a → (a < 4 ∨ a = 5 ∨ a = 9 ∨ (42 < a ∧ a ≠ 101)) → a < 102 + C.2.2.2.2 → C'.1 a = C.1 a ∧ C'.2.1 a = C.2.1 a) ∧ (∀ a, ¬ F a → (a = 6 ∨ 42 < a) → a < 102 + C.2.2.2.2 → C'.2.2.1 a = C.2.2.1 a) ∧ (∀ a, 102 ≤ a → a < 102 + C.2.2.2.2 → C'.2.2.2.1 a = C.2.2.2.1 a) ∧ C.2.2.2.2 ≤ C'.2.2.2.2
theorem rc_agE_of {C C' : rx_M} (h : rc_ag C C') : rc_agE (fun _ => False) (fun _ => False) C C' := ⟨fun a _ => h.1 a, fun a _ => h.2.1 a, h.2.2⟩
theorem rc_agE_trans {E F : Nat → Prop} {C C' C'' : rx_M} (h : rc_ag C C') (h' : rc_agE E F C' C'') : rc_agE E F C C'' :=
  ⟨fun a hE ha hn => ⟨((h'.1 a hE ha (by have := h.2.2.2; omega)).1).trans (h.1 a ha hn).1, ((h'.1 a hE ha (by have := h.2.2.2; omega)).2).trans (h.1 a ha hn).2⟩, fun a hF ha hn => (h'.2.1 a hF ha (by have := h.2.2.2; omega)).trans (h.2.1 a ha hn), fun a ha hn => (h'.2.2.1 a ha (by have := h.2.2.2; omega)).trans (h.2.2.1 a ha hn), Nat.le_trans h.2.2.2 h'.2.2.2⟩
theorem rc_ag_refl {C : rx_M} : rc_ag C C := ⟨fun _ _ _ => ⟨rfl, rfl⟩, fun _ _ _ => rfl, fun _ _ _ => rfl, Nat.le_refl _⟩
theorem rc_ag_trans {C C' C'' : rx_M} (h : rc_ag C C') (h' : rc_ag C' C'') : rc_ag C C'' :=
  ⟨fun a ha hn => ⟨((h'.1 a ha (by have := h.2.2.2; omega)).1).trans (h.1 a ha hn).1, ((h'.1 a ha (by have := h.2.2.2; omega)).2).trans (h.1 a ha hn).2⟩, fun a ha hn => (h'.2.1 a ha (by have := h.2.2.2; omega)).trans (h.2.1 a ha hn), fun a ha hn => (h'.2.2.1 a ha (by have := h.2.2.2; omega)).trans (h.2.2.1 a ha hn), Nat.le_trans h.2.2.2 h'.2.2.2⟩
theorem rc_ag_gap {C : rx_M} {n : Nat} (h : 102 + C.2.2.2.2 ≤ n) : rc_ag C (C.1, C.2.1, C.2.2.1, (fun a => if a < 102 + C.2.2.2.2 then C.2.2.2.1 a else (20, 0)), n - 102) :=
  ⟨fun _ _ _ => ⟨rfl, rfl⟩, fun _ _ _ => rfl, fun a _ hn => if_pos hn, by show C.2.2.2.2 ≤ n - 102; omega⟩
theorem rk_agE {E F : Nat → Prop} {C C' : rx_M} {a t n : Nat} (h : rk C a t n) (hg : rc_agE E F C C') : rk C' a t n := by
  refine ⟨⟨by have := h.1.1; have := hg.2.2.2; omega, h.1.2⟩, ?_⟩
  rw [← h.2]
  by_cases hf : gk_f a = true
  · rw [hf]; rfl
  · have hf' : gk_f a = false := Bool.eq_false_iff.mpr hf
    rw [hf']
    have : ¬ a < 102 := fun q => hf (by unfold gk_f; exact (Nat.ble_eq_true_of_le (show a + 1 ≤ 102 from q) : Nat.ble (a + 1) 102 = true))
    exact hg.2.2.1 a (by omega) h.1.1
theorem rk_ag {C C' : rx_M} {a t n : Nat} (h : rk C a t n) (hg : rc_ag C C') : rk C' a t n := rk_agE h (rc_agE_of hg)
def cD (C : rx_M) (ds : List Nat) : Prop := C.1 1 2 = nI ds.length ∧ ∀ k, k < ds.length → C.1 2 k = (nI (ds.getD k 0)).toInt8.toInt32
def cK (K : Nat → Nat × Nat) (C : rx_M) (cs : Nat → List Nat) (N : Nat) : Prop := (∀ c, c < N → C.2.2.1 6 c = some (K c).1 ∧ rc_K C (K c) (cs c)) ∧ C.1 5 1 = nI N
def cO1 (C : rx_M) (a : Nat) (q : wO) : Prop := rk C a 8 7 ∧ 102 ≤ a ∧ (C.1 a 0 = nI q.1.1 ∧ C.1 a 1 = nI q.1.2.1 ∧ C.2.1 a 2 = q.1.2.2.1 ∧ C.2.1 a 3 = q.1.2.2.2) ∧ (C.1 a 4 = nI q.2.1 ∧ C.1 a 5 = nI q.2.2.1 ∧ C.1 a 6 = q.2.2.2)
def cO (O : Nat → Nat) (C : rx_M) (N : Nat) (f : Nat → wO) : Prop := C.1 0 3 = nI N ∧ ∀ i, i < N → C.2.2.1 43 i = some (O i) ∧ cO1 C (O i) (f i)
/-- a block's cells: itself, leaves, receipts, events -/
abbrev wA : Type := Nat × Nat × Nat × Nat
def cB1 (C : rx_M) (a : wA) (q : wB) : Prop :=
  (rk C a.1 0 7 ∧ 44 < a.1 ∧ (a.1 < 49 ∨ 101 < a.1)) ∧ (C.1 a.1 0 = q.1.1 ∧ C.1 a.1 1 = nI q.1.2.1 ∧ C.2.2.1 a.1 2 = some a.2.1 ∧ C.2.2.1 a.1 3 = some a.2.2.1 ∧ C.2.2.1 a.1 4 = some a.2.2.2 ∧ C.1 a.1 5 = q.2.2.2.2.1 ∧ C.1 a.1 6 = nI q.2.2.2.2.2) ∧
  ((rk C a.2.1 14 1024 ∧ 44 < a.2.1 ∧ (a.2.1 < 49 ∨ 101 < a.2.1)) ∧ ∀ k, k < 1024 → C.2.1 a.2.1 k = lf q.2.1 k) ∧
  ((rk C a.2.2.1 14 (3 * q.1.2.2.1) ∧ 44 < a.2.2.1 ∧ (a.2.2.1 < 49 ∨ 101 < a.2.2.1)) ∧ ∀ i, i < q.1.2.2.1 → C.2.1 a.2.2.1 (3 * i) = lN (q.2.2.1 i).1 ∧ C.2.1 a.2.2.1 (3 * i + 1) = (q.2.2.1 i).2.1.toInt64 ∧ C.2.1 a.2.2.1 (3 * i + 2) = (q.2.2.1 i).2.2) ∧
  ((rk C a.2.2.2 14 (4 * q.1.2.2.2) ∧ 44 < a.2.2.2 ∧ (a.2.2.2 < 49 ∨ 101 < a.2.2.2)) ∧ ∀ i, i < q.1.2.2.2 → C.2.1 a.2.2.2 (4 * i) = lN (q.2.2.2.1 i).1 ∧ C.2.1 a.2.2.2 (4 * i + 1) = (q.2.2.2.1 i).2.1 ∧ C.2.1 a.2.2.2 (4 * i + 2) = (q.2.2.2.1 i).2.2.1 ∧ C.2.1 a.2.2.2 (4 * i + 3) = lN (q.2.2.2.1 i).2.2.2)
/-- the order that events would be of -/
def cT (C : rx_M) : Prop := ∃ od, od < 10 ∧ C.1 9 2 = nI od
def cB (B : Nat → wA) (C : rx_M) (N : Nat) (f : Nat → wB) : Prop := C.1 0 5 = nI N ∧ (∀ b, b < N → C.2.2.1 44 b = some (B b).1 ∧ cB1 C (B b) (f b)) ∧ (∀ b b', b < N → b' < N → (B b).1 = (B b').1 → b = b') ∧ (B 0).2.1 = 46 ∧ cT C
def cV (C : rx_M) (ws : Nat → Nat) (vt : Nat → Int64) : Prop := ∀ v, v < 7 → C.1 49 v = nI (ws v) ∧ C.2.1 50 v = vt v
def cS (C : rx_M) (bs : Nat → Int64) : Prop := ∀ k, k < 10 → C.2.1 51 k = bs k
def cN (C : rx_M) (q : Int32 × Int32 × Int32) : Prop := C.1 0 9 = q.1 ∧ C.1 0 10 = q.2.1 ∧ C.1 0 11 = q.2.2
/-- where the class's later cells lie: codes, orders, blocks -/
abbrev wP : Type := (Nat → Nat × Nat) × (Nat → Nat) × (Nat → wA)
def rcw (A : wP) (C : rx_M) (w : wW) : Prop := cD C w.1.1 ∧ cK A.1 C w.1.2.1 w.1.2.2 ∧ cO A.2.1 C w.2.1.1 w.2.1.2 ∧ cB A.2.2 C w.2.2.1.1 w.2.2.1.2 ∧ cV C w.2.2.2.1.1 w.2.2.2.1.2 ∧ cS C w.2.2.2.2.1 ∧ cN C w.2.2.2.2.2
section AG
variable {E F : Nat → Prop} {C C' : rx_M}
theorem cD_agE {ds : List Nat} (h : cD C ds) (hg : rc_agE E F C C') (e1 : ¬ E 1) (e2 : ¬ E 2) : cD C' ds := by
  have h1 := (hg.1 1 e1 (by omega) (by omega)).1
  have h2 := (hg.1 2 e2 (by omega) (by omega)).1
  exact ⟨by rw [h1]; exact h.1, fun k hk => by rw [h2]; exact h.2 k hk⟩
theorem rc_K_agE {w : Nat × Nat} {c : List Nat} (h : rc_K C w c) (hg : rc_agE E F C C') (eE : ∀ a, 102 ≤ a → ¬ E a) (eF : ∀ a, 102 ≤ a → ¬ F a) : rc_K C' w c := by
  obtain ⟨⟨⟨h1, h1'⟩, h2, h3⟩, ⟨⟨h4, h4'⟩, h5, h6⟩⟩ := h
  have hn := hg.2.2.2
  refine ⟨⟨⟨h1, by omega⟩, by rw [hg.2.2.1 _ h1 h1']; exact h2, by rw [hg.2.1 _ (eF _ h1) (by omega) h1']; exact h3⟩, ⟨⟨h4, by omega⟩, by rw [hg.2.2.1 _ h4 h4']; exact h5, fun k hk => by rw [(hg.1 _ (eE _ h4) (by omega) h4').1]; exact h6 k hk⟩⟩
theorem cK_agE {K : Nat → Nat × Nat} {cs : Nat → List Nat} {N : Nat} (h : cK K C cs N) (hg : rc_agE E F C C') (e5 : ¬ E 5) (f6 : ¬ F 6) (eE : ∀ a, 102 ≤ a → ¬ E a) (eF : ∀ a, 102 ≤ a → ¬ F a) : cK K C' cs N :=
  ⟨fun c hc => ⟨by rw [hg.2.1 6 f6 (by omega) (by omega)]; exact (h.1 c hc).1, rc_K_agE (h.1 c hc).2 hg eE eF⟩, by rw [(hg.1 5 e5 (by omega) (by omega)).1]; exact h.2⟩
theorem cO1_agE {a : Nat} {q : wO} (h : cO1 C a q) (hg : rc_agE E F C C') (eE : ∀ a, 102 ≤ a → ¬ E a) : cO1 C' a q := by
  obtain ⟨h1, h2, h3, h4⟩ := h
  have e := hg.1 a (eE a h2) (by omega) h1.1.1
  refine ⟨rk_agE h1 hg, h2, by rw [e.1, e.2]; exact h3, by rw [e.1]; exact h4⟩
theorem cO_agE {O : Nat → Nat} {N : Nat} {f : Nat → wO} (h : cO O C N f) (hg : rc_agE E F C C') (e0 : ¬ E 0) (f43 : ¬ F 43) (eE : ∀ a, 102 ≤ a → ¬ E a) : cO O C' N f :=
  ⟨by rw [(hg.1 0 e0 (by omega) (by omega)).1]; exact h.1, fun i hi => ⟨by rw [hg.2.1 43 f43 (by omega) (by omega)]; exact (h.2 i hi).1, cO1_agE (h.2 i hi).2 hg eE⟩⟩
theorem cB1_agE {a : wA} {q : wB} (h : cB1 C a q) (hg : rc_agE E F C C') (eE : ∀ a, 44 < a → (a < 49 ∨ 101 < a) → ¬ E a) (eF : ∀ a, 44 < a → (a < 49 ∨ 101 < a) → ¬ F a) : cB1 C' a q := by
  obtain ⟨⟨h1, h1a, h1b⟩, h2, ⟨⟨h3, h3a, h3b⟩, h4⟩, ⟨⟨h5, h5a, h5b⟩, h6⟩, ⟨h7, h7a, h7b⟩, h8⟩ := h
  have e1 := hg.1 a.1 (eE _ h1a h1b) (by omega) h1.1.1
  have e2 := hg.2.1 a.1 (eF _ h1a h1b) (by omega) h1.1.1
  have e3 := (hg.1 a.2.1 (eE _ h3a h3b) (by omega) h3.1.1).2
  have e4 := (hg.1 a.2.2.1 (eE _ h5a h5b) (by omega) h5.1.1).2
  have e5 := (hg.1 a.2.2.2 (eE _ h7a h7b) (by omega) h7.1.1).2
  exact ⟨⟨rk_agE h1 hg, h1a, h1b⟩, by rw [e1.1, e2]; exact h2, ⟨⟨rk_agE h3 hg, h3a, h3b⟩, by rw [e3]; exact h4⟩, ⟨⟨rk_agE h5 hg, h5a, h5b⟩, by rw [e4]; exact h6⟩, ⟨rk_agE h7 hg, h7a, h7b⟩, by rw [e5]; exact h8⟩
theorem cT_agE (h : cT C) (hg : rc_agE E F C C') (e9 : ¬ E 9) : cT C' := by
  obtain ⟨od, h1, h2⟩ := h
  exact ⟨od, h1, by rw [(hg.1 9 e9 (by omega) (by omega)).1]; exact h2⟩
theorem cB_agE {B : Nat → wA} {N : Nat} {f : Nat → wB} (h : cB B C N f) (hg : rc_agE E F C C') (e9 : ¬ E 9) (e0 : ¬ E 0) (f44 : ¬ F 44) (eE : ∀ a, 44 < a → (a < 49 ∨ 101 < a) → ¬ E a) (eF : ∀ a, 44 < a → (a < 49 ∨ 101 < a) → ¬ F a) : cB B C' N f :=
  ⟨by rw [(hg.1 0 e0 (by omega) (by omega)).1]; exact h.1, fun i hi => ⟨by rw [hg.2.1 44 f44 (by omega) (by omega)]; exact (h.2.1 i hi).1, cB1_agE (h.2.1 i hi).2 hg eE eF⟩, h.2.2.1, h.2.2.2.1, cT_agE h.2.2.2.2 hg e9⟩
theorem cV_agE {ws : Nat → Nat} {vt : Nat → Int64} (h : cV C ws vt) (hg : rc_agE E F C C') (e49 : ¬ E 49) (e50 : ¬ E 50) : cV C' ws vt := fun v hv => by
  rw [(hg.1 49 e49 (by omega) (by omega)).1, (hg.1 50 e50 (by omega) (by omega)).2]; exact h v hv
theorem cS_agE {bs : Nat → Int64} (h : cS C bs) (hg : rc_agE E F C C') (e51 : ¬ E 51) : cS C' bs := fun v hv => by
  rw [(hg.1 51 e51 (by omega) (by omega)).2]; exact h v hv
theorem cN_agE {q : Int32 × Int32 × Int32} (h : cN C q) (hg : rc_agE E F C C') (e0 : ¬ E 0) : cN C' q := by
  unfold cN; rw [(hg.1 0 e0 (by omega) (by omega)).1]; exact h
end AG
theorem rcw_ag {A : wP} {C C' : rx_M} {w : wW} (h : rcw A C w) (hg' : rc_ag C C') : rcw A C' w :=
  have hg := rc_agE_of hg'
  have n1 : ∀ a : Nat, ¬ (fun _ : Nat => False) a := fun _ q => q
  ⟨cD_agE h.1 hg (n1 1) (n1 2), cK_agE h.2.1 hg (n1 5) (n1 6) (fun a _ => n1 a) (fun a _ => n1 a), cO_agE h.2.2.1 hg (n1 0) (n1 43) (fun a _ => n1 a), cB_agE h.2.2.2.1 hg (n1 9) (n1 0) (n1 44) (fun a _ _ => n1 a) (fun a _ _ => n1 a), cV_agE h.2.2.2.2.1 hg (n1 49) (n1 50), cS_agE h.2.2.2.2.2.1 hg (n1 51), cN_agE h.2.2.2.2.2.2 hg (n1 0)⟩
/-- the weights of all together -/
def w_all (ws : Nat → Nat) : Nat := ws 0 + ws 1 + ws 2 + ws 3 + ws 4 + ws 5 + ws 6
def w_cert (ws : Nat → Nat) (bl : Nat → wB) (b : Nat) : Bool := b = 0 ∨ 2 * w_all ws < 3 * (bl b).2.2.2.2.2
def w_bit (vt : Nat → Int64) (v h : Nat) : Bool := (vt v &&& ((1 : Int64) <<< (lN h &&& 63))) ≠ 0
def mD (S : gs_T) (ds : List Nat) : Prop := S.1 52 5 = nI ds.length ∧ ∀ k, k < ds.length → S.1 55 k = nI (ds.getD k 0)
def mK (S : gs_T) (cs : Nat → List Nat) (N : Nat) : Prop := (∀ c, c < N → S.1 54 c = nI (cs c).length ∧ ∀ k, k < (cs c).length → S.1 53 (200 * c + k) = nI ((cs c).getD k 0)) ∧ S.1 52 3 = nI N
def mO (S : gs_T) (N : Nat) (f : Nat → wO) : Prop := S.1 52 7 = nI N ∧ ∀ i, i < N → (S.1 57 i = nI (f i).1.1 ∧ S.1 58 i = nI (f i).1.2.1 ∧ S.2 59 i = (f i).1.2.2.1 ∧ S.2 60 i = (f i).1.2.2.2) ∧ (S.1 61 i = nI (f i).2.1 ∧ S.1 62 i = nI (f i).2.2.1 ∧ S.1 63 i = (f i).2.2.2)
def mB1 (S : gs_T) (b : Nat) (q : wB) : Prop :=
  (S.1 64 b = q.1.1 ∧ S.1 65 b = nI q.1.2.1 ∧ S.1 66 b = nI q.1.2.2.1 ∧ S.1 67 b = nI q.1.2.2.2 ∧ S.1 68 b = q.2.2.2.2.1 ∧ S.1 69 b = nI q.2.2.2.2.2) ∧ (∀ k, k < 608 → S.2 71 (608 * b + k) = q.2.1 k) ∧
  (∀ i, i < q.1.2.2.1 → S.1 72 (10 * b + i) = nI (q.2.2.1 i).1 ∧ S.1 73 (10 * b + i) = (q.2.2.1 i).2.1 ∧ S.2 74 (10 * b + i) = (q.2.2.1 i).2.2) ∧
  (∀ i, i < q.1.2.2.2 → S.1 75 (60 * b + i) = nI (q.2.2.2.1 i).1 ∧ S.2 76 (60 * b + i) = (q.2.2.2.1 i).2.1 ∧ S.2 77 (60 * b + i) = (q.2.2.2.1 i).2.2.1 ∧ S.1 78 (60 * b + i) = nI (q.2.2.2.1 i).2.2.2)
def mB (S : gs_T) (ws : Nat → Nat) (N : Nat) (f : Nat → wB) : Prop := S.1 52 15 = nI N ∧ ∀ b, b < N → mB1 S b (f b) ∧ S.1 70 b = bI (w_cert ws f b)
def mV (S : gs_T) (ws : Nat → Nat) (vt : Nat → Int64) : Prop := ∀ v, v < 7 → S.1 79 v = nI (ws v) ∧ ∀ h, h < 40 → S.1 80 (40 * v + h) = bI (w_bit vt v h)
def mS (S : gs_T) (bs : Nat → Int64) : Prop := ∀ k, k < 10 → S.2 81 k = bs k
def mN (S : gs_T) (q : Int32 × Int32 × Int32) : Prop := S.1 52 61 = q.1 ∧ S.1 52 62 = q.2.1 ∧ S.1 52 63 = q.2.2
def rmw (S : gs_T) (w : wW) : Prop := mD S w.1.1 ∧ mK S w.1.2.1 w.1.2.2 ∧ mO S w.2.1.1 w.2.1.2 ∧ mB S w.2.2.2.1.1 w.2.2.1.1 w.2.2.1.2 ∧ mV S w.2.2.2.1.1 w.2.2.2.1.2 ∧ mS S w.2.2.2.2.1 ∧ mN S w.2.2.2.2.2
/-- the rows that a world is held in are as they were -/
def rm_ag (S S' : gs_T) : Prop := (∀ a, 53 ≤ a → a < 82 → a ≠ 56 → S'.1 a = S.1 a ∧ S'.2 a = S.2 a) ∧ ∀ k, (k = 3 ∨ k = 5 ∨ k = 7 ∨ k = 15 ∨ k = 61 ∨ k = 62 ∨ k = 63) → S'.1 52 k = S.1 52 k
theorem rmw_ag {S S' : gs_T} {w : wW} (h : rmw S w) (hg : rm_ag S S') : rmw S' w := by
  obtain ⟨h1, h2, h3, h4, h5, h6, h7⟩ := h
  have e : ∀ a, 53 ≤ a → a < 82 → a ≠ 56 → S'.1 a = S.1 a ∧ S'.2 a = S.2 a := hg.1
  unfold rmw mD mK mO mB mB1 mV mS mN
  rw [hg.2 3 (by omega), hg.2 5 (by omega), hg.2 7 (by omega), hg.2 15 (by omega), hg.2 61 (by omega), hg.2 62 (by omega), hg.2 63 (by omega),
    (e 53 (by decide) (by decide) (by decide)).1, (e 54 (by decide) (by decide) (by decide)).1, (e 55 (by decide) (by decide) (by decide)).1, (e 57 (by decide) (by decide) (by decide)).1, (e 58 (by decide) (by decide) (by decide)).1, (e 59 (by decide) (by decide) (by decide)).2, (e 60 (by decide) (by decide) (by decide)).2, (e 61 (by decide) (by decide) (by decide)).1, (e 62 (by decide) (by decide) (by decide)).1, (e 63 (by decide) (by decide) (by decide)).1,
    (e 64 (by decide) (by decide) (by decide)).1, (e 65 (by decide) (by decide) (by decide)).1, (e 66 (by decide) (by decide) (by decide)).1, (e 67 (by decide) (by decide) (by decide)).1, (e 68 (by decide) (by decide) (by decide)).1, (e 69 (by decide) (by decide) (by decide)).1, (e 70 (by decide) (by decide) (by decide)).1, (e 71 (by decide) (by decide) (by decide)).2, (e 72 (by decide) (by decide) (by decide)).1, (e 73 (by decide) (by decide) (by decide)).1, (e 74 (by decide) (by decide) (by decide)).2, (e 75 (by decide) (by decide) (by decide)).1, (e 76 (by decide) (by decide) (by decide)).2, (e 77 (by decide) (by decide) (by decide)).2, (e 78 (by decide) (by decide) (by decide)).1, (e 79 (by decide) (by decide) (by decide)).1, (e 80 (by decide) (by decide) (by decide)).1, (e 81 (by decide) (by decide) (by decide)).2]
  exact ⟨h1, h2, h3, h4, h5, h6, h7⟩
/-- the codes, as a call of height h from an origin sees them -/
abbrev w_g (w : wW) (o h : Nat) : vg_T := (w.1.2.1, w.1.2.2, o, h)
/-- what holds of a world after n calls -/
def vW (w : wW) (n : Nat) : Prop :=
  (w.1.1.length ≤ 200 ∧ ∀ k, k < w.1.1.length → w.1.1.getD k 0 < 256) ∧ (w.1.2.2 ≤ 16 ∧ ∀ c, c < w.1.2.2 → vw_code (w.1.2.1 c)) ∧
  (w.2.1.1 ≤ 10 ∧ ∀ i, i < w.2.1.1 → ((w.2.1.2 i).1.1 < 32 ∧ (w.2.1.2 i).1.2.1 < 32) ∧ (0 ≤ (w.2.1.2 i).1.2.2.1 ∧ (w.2.1.2 i).1.2.2.1 ≤ 1125899906842624) ∧ (w.2.1.2 i).2.1 ≤ 30000 ∧ (w.2.1.2 i).2.2.1 ≤ 1000000) ∧
  ((1 ≤ w.2.2.1.1 ∧ w.2.2.1.1 ≤ 40) ∧ (∀ b, b < w.2.2.1.1 → ((w.2.2.1.2 b).1.2.1 ≤ b ∧ (w.2.2.1.2 b).1.2.2.1 ≤ 10 ∧ (w.2.2.1.2 b).1.2.2.2 ≤ 60 ∧ True ∧ (w.2.2.1.2 b).2.2.2.2.2 ≤ 1000 * n) ∧ vw_codes (w_g w 0 0) (w.2.2.1.2 b).2.1 ∧ (0 < b → ∃ p, p < b ∧ (w.2.2.1.2 b).1.1 = nI p) ∧ (∀ i, i < (w.2.2.1.2 b).1.2.2.1 → ((w.2.2.1.2 b).2.2.1 i).1 ≤ 3 ∧ True) ∧ (∀ i, i < (w.2.2.1.2 b).1.2.2.2 → ((w.2.2.1.2 b).2.2.2.1 i).1 < 32 ∧ ((w.2.2.1.2 b).2.2.2.1 i).2.2.2 < 10)) ∧ (w.2.2.1.1 = 1 → (w.2.2.1.2 0).1.2.2 = (0, 0))) ∧
  (∀ v, v < 7 → w.2.2.2.1.1 v ≤ 1000)
theorem vW_up {w : wW} {n m : Nat} (h : vW w n) (hn : n ≤ m) : vW w m := by
  obtain ⟨h1, h2, h3, ⟨h4, h5, h6⟩, h7⟩ := h
  refine ⟨h1, h2, h3, ⟨h4, fun b hb => ⟨⟨(h5 b hb).1.1, (h5 b hb).1.2.1, (h5 b hb).1.2.2.1, (h5 b hb).1.2.2.2.1, ?_⟩, (h5 b hb).2⟩, h6⟩, h7⟩
  have := (h5 b hb).1.2.2.2.2
  omega

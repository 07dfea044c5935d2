/-! THE ABSTRACT MEMORY: ints, longs, references of each cell by place, its kind (number, length), how many cells. An address k here is the cell B + k of the heap, B the heap's size at the law's entry. -/
abbrev rx_M : Type := (Nat → Nat → Int32) × (Nat → Nat → Int64) × (Nat → Nat → Option Nat) × (Nat → Nat × Nat) × Nat
def rx_u {α : Type} (f : Nat → Nat → α) (a i : Nat) (x : α) : Nat → Nat → α := fun b => if b = a then (fun j => if j = i then x else f a j) else f b
def rx_k1 {α : Type} (f : Nat → α) (a : Nat) (x : α) : Nat → α := fun b => if b = a then x else f b
/-- the launch, the law's start, the classes' numbers and slots, the array classes, the cells ahead of B that are read (0: the script, 1, 2: static rows), the script's length and ints -/
abbrev rx_E : Type := Launch × State × va_G × (Nat → ClassId) × (Nat → Nat) × Nat × (Nat → Int32)
def rx_B (G : rx_E) : Nat := G.2.1.heap.size
/-- a method: its name, code, locals, answer, its table of handlers -/
abbrev rx_Me : Type := MethodName × ByteArray × Nat × Option FieldType × List ExceptionTableEntry
def rx_tr (G : rx_E) : Value → Value
  | .ref a => .ref (rx_B G + a)
  | .float j => .ref (G.2.2.2.2.1 j.toNat)
  | v => v
def rx_trs (G : rx_E) (l : List Value) : List Value := l.map (rx_tr G)
/-- locals: a store is laid ahead of what was; reading finds the latest, unless a half of it was written since -/
def rx_lf (i : Nat) (f : Bool) : List (Nat × Value) → Option Value
  | [] => none
  | (j, v) :: l => bif Nat.beq j i then (bif f && Nat.beq v.category 2 then none else some v) else bif Nat.beq j (i + 1) then rx_lf i true l else bif Nat.beq (j + 1) i && Nat.beq v.category 2 then none else rx_lf i f l
def rx_lk (l : List (Nat × Value)) (i : Nat) : Option Value := rx_lf i false l
def rx_has (G : rx_E) (ls : Array Slot) (n : Nat) (l : List (Nat × Value)) : Prop := ls.size = n ∧ lv_wf ls ∧ ∀ (i : Nat) (v : Value), rx_lk l i = some v → ls[i]? = some (.val (rx_tr G v))
def rx_rf (r : Option Nat) : Value := match r with
  | none => .null
  | some a => .ref a
/-- the types of an object's fields: 0 a whole number of one word, 1 a long, 2 a reference -/
def rx_tc (t : FieldType) : Nat := match t with
  | .long => 1
  | .array _ => 2
  | .object _ => 2
  | _ => 0
def rx_fv (G : rx_E) (mu : rx_M) (a k t : Nat) : Value := if t = 0 then .int (mu.1 a k) else if t = 1 then .long (mu.2.1 a k) else va_rf ((mu.2.2.1 a k).map (rx_B G + ·))
def rx_row (G : rx_E) (mu : rx_M) (a : Nat) (ty : Nat → FieldType) (n : Nat) : List Value := (List.range n).map (fun k => rx_fv G mu a k (rx_tc (ty k)))
/-- fields' types and number of an object's class -/
def rx_ty : Nat → (Nat → FieldType) × Nat
  | 0 => (tyX0, 7) | 1 => (tyX1, 6) | 2 => (tyX2, 1) | 3 => (tyX3, 2) | 4 => (tyX4, 3) | 5 => (tyX5, 3) | 6 => (tyX6, 15) | 7 => (tyX7, 13) | 8 => (tyX8, 7) | 9 => (tyX9, 1) | 10 => (tyX10, 12) | _ => (tyX11, 65)
/-- kinds 0 .. 11: objects; 12: bytes, 13: ints, 14: longs, 15: booleans, 16 .. 19: rows of Blocks, Codes, Frames, Orders; above: nothing is said -/
def rx_ent (G : rx_E) (mu : rx_M) (a : Nat) : va_E :=
  if (mu.2.2.2.1 a).1 < 12 then .inr ((mu.2.2.2.1 a).1, rx_row G mu a (rx_ty (mu.2.2.2.1 a).1).1 (rx_ty (mu.2.2.2.1 a).1).2)
  else if (mu.2.2.2.1 a).1 = 14 then .inl (G.2.2.2.1 14, (mu.2.2.2.1 a).2, .inr (.inl (mu.2.1 a)))
  else if (mu.2.2.2.1 a).1 < 16 then .inl (G.2.2.2.1 (mu.2.2.2.1 a).1, (mu.2.2.2.1 a).2, .inl (mu.1 a))
  else .inl (G.2.2.2.1 (mu.2.2.2.1 a).1, (mu.2.2.2.1 a).2, .inr (.inr (.inr (.inr (fun j => (mu.2.2.1 a j).map (rx_B G + ·))))))
def rx_Rel (G : rx_E) (mu : rx_M) (H : Heap) : Prop := H.size = rx_B G + mu.2.2.2.2 ∧ ∀ a, a < mu.2.2.2.2 → (mu.2.2.2.1 a).1 < 20 → va_at G.2.2.1 vwCl (rx_B G + a, rx_ent G mu a) H
/-- the world: the tables as at the start, the memory, what stands ahead of B as it was -/
def rx_In (G : rx_E) (mu : rx_M) (vm : Vm) (H : Heap) : Prop := G.2.1.WarmedH vm ∧ rx_Rel G mu H ∧ ∀ q, q < rx_B G → H[q]? = G.2.1.heap[q]?
def rx_room (d mc ms : Nat) : Room := { frames := d, cells := mc, slots := ms, locals := 40 * d }
def rx_Qc (G : rx_E) (Q : Option Value → rx_M → Prop) : Array Value → State → Outcome → State → Prop := fun _ st oc t => ∃ (v : Option Value) (mu : rx_M), oc = .returned (v.map (rx_tr G)) ∧ Q v mu ∧ rx_In G mu t.vm t.heap ∧ st.heap.size ≤ t.heap.size
def rx_XC (G : rx_E) (Z : String → rx_M → Prop) : String → State → State → Prop := fun E st t => ∃ mu : rx_M, Z E mu ∧ rx_Rel G mu t.heap ∧ (∀ q, q < rx_B G → t.heap[q]? = G.2.1.heap[q]?) ∧ st.heap.size ≤ t.heap.size
def rx_Ctx (G : rx_E) (M : rx_Me) (p : Program) (s : State) (m : MethodId) (meth : Method) (c : Code) : Prop :=
  p.tables.exec = Jvm.exec ∧ c.code = M.2.1 ∧ meth.sig.returnType = M.2.2.2.1 ∧ c.maxLocals = M.2.2.1 ∧ s.vm.findClass M.1.cls = some m.cls ∧ meth.locks = false ∧ meth.name = M.1.name ∧ G.2.1.WarmedH s.vm ∧ rx_B G ≤ s.heap.size ∧ (∀ q, q < rx_B G → s.heap[q]? = G.2.1.heap[q]?) ∧ c.exceptionTable.toList = M.2.2.2.2
/-- the judgement: from this frame the method comes to its end with Q, or has thrown with Z; at most mc cells of ms slots more are made -/
def rx_W (G : rx_E) (M : rx_Me) (d pc : Nat) (lv : List (Nat × Value)) (st : List Value) (mu : rx_M) (mc ms : Nat) (Q : Option Value → rx_M → Prop) (Z : String → rx_M → Prop) : Prop :=
  ∀ (p : Program) (e : Env) (R : Room) (s : State) (m : MethodId) (args : Array Value) (below : List Frame) (meth : Method) (c : Code) (H : Heap) (locs : List Loc) (cells slots MC MS : Nat) (ls : Array Slot),
    rx_Ctx G M p s m meth c → d ≤ R.frames ∧ 40 * d ≤ R.locals ∧ cells + mc ≤ MC ∧ slots + ms ≤ MS ∧ MC ≤ R.cells ∧ MS ≤ R.slots → rx_In G mu s.vm H → s.heap.size ≤ H.size → (∀ q ∈ locs, rx_B G ≤ q.base) → rx_has G ls M.2.2.1 lv →
    W p G.1 e R s m args below meth c H locs cells slots (vx_MQ below (rx_Qc G Q) (rx_XC G Z) args s MC MS (fun q => rx_B G ≤ q)) (F0 m pc ls (rx_trs G st))
/-- a method that returns: its contract -/
def rx_C (G : rx_E) (M : rx_Me) (d : Nat) (as : List Value) (mu : rx_M) (mc ms : Nat) (Q : Option Value → rx_M → Prop) : Prop :=
  Met G.1 M.1 [Cond.code M.1 M.2.1 M.2.2.1 M.2.2.2.1] (rx_room d mc ms) (fun a U => a = (rx_trs G as).toArray ∧ rx_In G mu U.vm U.heap) (rx_Qc G Q) mc ms (fun q => rx_B G ≤ q)
/-- a method that returns or throws -/
def rx_X (G : rx_E) (M : rx_Me) (d : Nat) (as : List Value) (mu : rx_M) (mc ms : Nat) (Q : Option Value → rx_M → Prop) (Z : String → rx_M → Prop) : Prop :=
  vx_Met G.1 M.1 [Cond.code M.1 M.2.1 M.2.2.1 M.2.2.2.1] (rx_room d mc ms) (fun a U => a = (rx_trs G as).toArray ∧ rx_In G mu U.vm U.heap) (rx_Qc G Q) (rx_XC G Z) mc ms (fun q => rx_B G ≤ q)
theorem rx_cat (G : rx_E) (v : Value) : (rx_tr G v).category = v.category := by cases v <;> rfl
theorem rx_lf_mem {i : Nat} {v : Value} : ∀ (l : List (Nat × Value)) (f : Bool), rx_lf i f l = some v → (i, v) ∈ l
  | [], _, h => by cases h
  | (j, w) :: l, f, h => by
    unfold rx_lf at h
    cases h1 : Nat.beq j i
    · simp only [h1, cond_false] at h
      refine List.mem_cons_of_mem _ ?_
      cases h2 : Nat.beq j (i + 1)
      · simp only [h2, cond_false] at h
        cases h3 : (Nat.beq (j + 1) i && Nat.beq w.category 2)
        · simp only [h3, cond_false] at h
          exact rx_lf_mem l f h
        · simp only [h3, cond_true] at h
          cases h
      · simp only [h2, cond_true] at h
        exact rx_lf_mem l true h
    · simp only [h1, cond_true] at h
      cases h3 : (f && Nat.beq w.category 2)
      · simp only [h3, cond_false] at h
        rw [Nat.eq_of_beq_eq_true h1, Option.some.inj h]
        exact List.mem_cons_self
      · simp only [h3, cond_true] at h
        cases h
theorem rx_args (G : rx_E) (l : List Value) : ∀ k, lv_args k (rx_trs G l) = (lv_args k l).map (fun q => (q.1, rx_tr G q.2)) := by
  induction l with
  | nil => intro k; rfl
  | cons v l ih =>
    intro k
    cases v <;> simp [rx_trs, rx_tr, lv_args, Value.category] at ih ⊢ <;> exact ih _
theorem rx_sl (G : rx_E) (l : List Value) : (lg_sl (rx_trs G l)).length = (lg_sl l).length := by
  induction l with
  | nil => rfl
  | cons v l ih => cases v <;> simp [rx_trs, rx_tr, lg_sl, Value.category] at ih ⊢ <;> exact ih
theorem rx_has_entry {G : rx_E} {ls : Array Slot} {n : Nat} {as : List Value} (h : lv_has ls n (lv_args 0 (rx_trs G as))) : rx_has G ls n (lv_args 0 as) := by
  refine ⟨h.1, h.2.1, fun i v hv => ?_⟩
  have h1 := rx_lf_mem _ _ hv
  have h2 : (i, rx_tr G v) ∈ lv_args 0 (rx_trs G as) := by
    rw [rx_args]
    exact List.mem_map.mpr ⟨(i, v), h1, rfl⟩
  exact h.2.2 _ h2
/-- all that is known of the locals, as the kit's list -/
def rx_en (G : rx_E) (n : Nat) (l : List (Nat × Value)) : List (Nat × Value) := (List.range n).filterMap (fun i => (rx_lk l i).map (fun v => (i, rx_tr G v)))
theorem rx_has_en {G : rx_E} {ls : Array Slot} {n : Nat} {l : List (Nat × Value)} (h : rx_has G ls n l) : lv_has ls n (rx_en G n l) := by
  refine ⟨h.1, h.2.1, fun q hq => ?_⟩
  obtain ⟨i, -, hi⟩ := List.mem_filterMap.mp hq
  cases hv : rx_lk l i with
  | none => rw [hv] at hi; cases hi
  | some v =>
    rw [hv] at hi
    cases hi
    exact h.2.2 i v hv
theorem rx_en_mem {G : rx_E} {ls : Array Slot} {n i : Nat} {l : List (Nat × Value)} {v : Value} (h : rx_has G ls n l) (hv : rx_lk l i = some v) : (i, rx_tr G v) ∈ rx_en G n l := by
  have hi : i < n := by
    rw [← h.1]
    exact (Array.getElem?_eq_some_iff.mp (h.2.2 i v hv)).1
  exact List.mem_filterMap.mpr ⟨i, List.mem_range.mpr hi, by rw [hv]; rfl⟩
theorem rx_lf_t {i : Nat} {v : Value} : ∀ (l : List (Nat × Value)) (f : Bool), rx_lf i f l = some v → (f = true → v.category ≠ 2) ∧ rx_lf i false l = some v
  | [], _, h => by cases h
  | (j, w) :: l, f, h => by
    unfold rx_lf at h ⊢
    cases h1 : Nat.beq j i
    · simp only [h1, cond_false] at h ⊢
      cases h2 : Nat.beq j (i + 1)
      · simp only [h2, cond_false] at h ⊢
        cases h3 : (Nat.beq (j + 1) i && Nat.beq w.category 2)
        · simp only [h3, cond_false] at h ⊢
          exact rx_lf_t l f h
        · simp only [h3, cond_true] at h
          cases h
      · simp only [h2, cond_true] at h ⊢
        exact ⟨fun _ => (rx_lf_t l true h).1 rfl, h⟩
    · simp only [h1, cond_true] at h ⊢
      cases f
      · exact ⟨(fun q => nomatch q), h⟩
      · simp only [Bool.true_and, Bool.false_and, cond_false] at h ⊢
        cases h3 : (Nat.beq w.category 2)
        · simp only [h3, cond_false] at h
          refine ⟨fun _ q => ?_, h⟩
          rw [Option.some.inj h, q] at h3
          cases h3
        · simp only [h3, cond_true] at h
          cases h
/-- a store of one word -/
theorem rx_has_st1 {G : rx_E} {ls ls' : Array Slot} {n i : Nat} {l : List (Nat × Value)} {x : Value} (h : rx_has G ls n l) (hc : x.category = 1) (h' : lv_has ls' n ((i, rx_tr G x) :: (rx_en G n l).filter (fun q => !(q.1 == i) && !(q.1 + 1 == i && q.2.category == 2)))) : rx_has G ls' n ((i, x) :: l) := by
  refine ⟨h'.1, h'.2.1, fun j v hv => ?_⟩
  unfold rx_lk rx_lf at hv
  cases h1 : Nat.beq i j
  · simp only [h1, cond_false] at hv
    have hij : i ≠ j := fun q => by rw [q, Nat.beq_refl] at h1; cases h1
    cases h2 : Nat.beq i (j + 1)
    · simp only [h2, cond_false] at hv
      have hij2 : i ≠ j + 1 := fun q => by rw [q, Nat.beq_refl] at h2; cases h2
      have h3 : (Nat.beq (i + 1) j && Nat.beq x.category 2) = false := by rw [hc, show Nat.beq 1 2 = false from rfl, Bool.and_false]
      simp only [h3, cond_false] at hv
      refine h'.2.2 (j, rx_tr G v) (List.mem_cons_of_mem _ (List.mem_filter.mpr ⟨rx_en_mem h hv, ?_⟩))
      simp only [Bool.and_eq_true, Bool.not_eq_true', beq_eq_false_iff_ne, ne_eq, Bool.and_eq_false_iff]
      exact ⟨fun q => hij q.symm, Or.inl (fun q => hij2 q.symm)⟩
    · simp only [h2, cond_true] at hv
      obtain ⟨g1, g2⟩ := rx_lf_t l true hv
      refine h'.2.2 (j, rx_tr G v) (List.mem_cons_of_mem _ (List.mem_filter.mpr ⟨rx_en_mem h g2, ?_⟩))
      simp only [Bool.and_eq_true, Bool.not_eq_true', beq_eq_false_iff_ne, ne_eq, Bool.and_eq_false_iff]
      refine ⟨fun q => hij q.symm, Or.inr ?_⟩
      rw [rx_cat]
      exact g1 rfl
  · simp only [h1, cond_true, Bool.false_and, cond_false] at hv
    rw [← Nat.eq_of_beq_eq_true h1, ← Option.some.inj hv]
    exact h'.2.2 _ List.mem_cons_self
theorem rx_has_st2 {G : rx_E} {ls ls' : Array Slot} {n i : Nat} {l : List (Nat × Value)} {x : Value} (h : rx_has G ls n l) (hc : x.category = 2) (h' : lv_has ls' n ((i, rx_tr G x) :: (rx_en G n l).filter (fun q => !(q.1 == i) && (!(q.1 == i + 1) && !(q.1 + 1 == i && q.2.category == 2))))) : rx_has G ls' n ((i, x) :: l) := by
  refine ⟨h'.1, h'.2.1, fun j v hv => ?_⟩
  unfold rx_lk rx_lf at hv
  cases h1 : Nat.beq i j
  · simp only [h1, cond_false] at hv
    have hij : i ≠ j := fun q => by rw [q, Nat.beq_refl] at h1; cases h1
    cases h2 : Nat.beq i (j + 1)
    · simp only [h2, cond_false] at hv
      have hij2 : i ≠ j + 1 := fun q => by rw [q, Nat.beq_refl] at h2; cases h2
      cases h3 : Nat.beq (i + 1) j
      · simp only [h3, Bool.false_and, cond_false] at hv
        have hij3 : i + 1 ≠ j := fun q => by rw [q, Nat.beq_refl] at h3; cases h3
        refine h'.2.2 (j, rx_tr G v) (List.mem_cons_of_mem _ (List.mem_filter.mpr ⟨rx_en_mem h hv, ?_⟩))
        simp only [Bool.and_eq_true, Bool.not_eq_true', beq_eq_false_iff_ne, ne_eq, Bool.and_eq_false_iff]
        exact ⟨fun q => hij q.symm, fun q => hij3 q.symm, Or.inl (fun q => hij2 q.symm)⟩
      · simp only [h3, hc, Nat.beq_refl, Bool.true_and, cond_true] at hv
        cases hv
    · simp only [h2, cond_true] at hv
      obtain ⟨g1, g2⟩ := rx_lf_t l true hv
      have e2 := Nat.eq_of_beq_eq_true h2
      refine h'.2.2 (j, rx_tr G v) (List.mem_cons_of_mem _ (List.mem_filter.mpr ⟨rx_en_mem h g2, ?_⟩))
      simp only [Bool.and_eq_true, Bool.not_eq_true', beq_eq_false_iff_ne, ne_eq, Bool.and_eq_false_iff]
      refine ⟨fun q => hij q.symm, by omega, Or.inr ?_⟩
      rw [rx_cat]
      exact g1 rfl
  · simp only [h1, cond_true, Bool.false_and, cond_false] at hv
    rw [← Nat.eq_of_beq_eq_true h1, ← Option.some.inj hv]
    exact h'.2.2 _ List.mem_cons_self

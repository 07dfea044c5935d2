/-! THE ABSTRACT MEMORY: ints, longs, references of each cell by place, its kind (number, length), how many cells. An address k here is the cell B + k of the heap, B the heap's size at the law's entry. -/
abbrev rx_M : Type := (Nat → Nat → Int32) × (Nat → Nat → Int64) × (Nat → Nat → Option Nat) × (Nat → Nat × Nat) × Nat
def rx_u {α : Type} (f : Nat → Nat → α) (a i : Nat) (x : α) : Nat → Nat → α := fun b => if b = a then (fun j => if j = i then x else f a j) else f b
def rx_k1 {α : Type} (f : Nat → α) (a : Nat) (x : α) : Nat → α := fun b => if b = a then x else f b
/-- the launch, the law's start, the classes' numbers and slots, the array classes, the cells ahead of B that are read (0: the script, 1, 2: static rows) -/
abbrev rx_E : Type := Launch × State × va_G × (Nat → ClassId) × (Nat → Nat)
def rx_B (G : rx_E) : Nat := G.2.1.heap.size
/-- a method: its name, code, locals, answer -/
abbrev rx_Me : Type := MethodName × ByteArray × Nat × Option FieldType
def rx_tr (G : rx_E) : Value → Value
  | .ref a => .ref (rx_B G + a)
  | .float j => .ref (G.2.2.2.2 j.toNat)
  | v => v
def rx_trs (G : rx_E) (l : List Value) : List Value := l.map (rx_tr G)
def rx_trl (G : rx_E) (l : List (Nat × Value)) : List (Nat × Value) := l.map (fun q => (q.1, rx_tr G q.2))
def rx_rf (r : Option Nat) : Value := match r with
  | none => .null
  | some a => .ref a
/-- the types of an object's fields: 0 a whole number of one word, 1 a long, 2 a reference -/
def rx_tc (t : FieldType) : Nat := match t with
  | .long => 1
  | .array _ => 2
  | .object _ => 2
  | _ => 0
def rx_fv (G : rx_E) (mu : rx_M) (a k t : Nat) : Value := if t = 0 then .int (mu.1 a k) else if t = 1 then .long (mu.2.1 a k) else va_rf ((mu.2.2.1 a k).map (rx_B G + ·))
def rx_row (G : rx_E) (mu : rx_M) (a : Nat) (ty : Nat → FieldType) (n : Nat) : List Value := (List.range n).map (fun k => rx_fv G mu a k (rx_tc (ty k)))
/-- fields' types and number of an object's class -/
def rx_ty : Nat → (Nat → FieldType) × Nat
  | 0 => (tyX0, 7) | 1 => (tyX1, 6) | 2 => (tyX2, 1) | 3 => (tyX3, 2) | 4 => (tyX4, 3) | 5 => (tyX5, 3) | 6 => (tyX6, 15) | 7 => (tyX7, 13) | 8 => (tyX8, 7) | 9 => (tyX9, 1) | 10 => (tyX10, 12) | _ => (tyX11, 65)
/-- kinds 0 .. 11: objects; 12: bytes, 13: ints, 14: longs, 15: booleans, 16 .. 19: rows of Blocks, Codes, Frames, Orders; above: nothing is said -/
def rx_ent (G : rx_E) (mu : rx_M) (a : Nat) : va_E :=
  if (mu.2.2.2.1 a).1 < 12 then .inr ((mu.2.2.2.1 a).1, rx_row G mu a (rx_ty (mu.2.2.2.1 a).1).1 (rx_ty (mu.2.2.2.1 a).1).2)
  else if (mu.2.2.2.1 a).1 = 14 then .inl (G.2.2.2.1 14, (mu.2.2.2.1 a).2, .inr (.inl (mu.2.1 a)))
  else if (mu.2.2.2.1 a).1 < 16 then .inl (G.2.2.2.1 (mu.2.2.2.1 a).1, (mu.2.2.2.1 a).2, .inl (mu.1 a))
  else .inl (G.2.2.2.1 (mu.2.2.2.1 a).1, (mu.2.2.2.1 a).2, .inr (.inr (.inr (.inr (fun j => (mu.2.2.1 a j).map (rx_B G + ·))))))
def rx_Rel (G : rx_E) (mu : rx_M) (H : Heap) : Prop := H.size = rx_B G + mu.2.2.2.2 ∧ ∀ a, a < mu.2.2.2.2 → (mu.2.2.2.1 a).1 < 20 → va_at G.2.2.1 vwCl (rx_B G + a, rx_ent G mu a) H
/-- the world: the tables as at the start, the memory, what stands ahead of B as it was -/
def rx_In (G : rx_E) (mu : rx_M) (vm : Vm) (H : Heap) : Prop := G.2.1.WarmedH vm ∧ rx_Rel G mu H ∧ ∀ q, q < rx_B G → H[q]? = G.2.1.heap[q]?
def rx_room (d mc ms : Nat) : Room := { frames := d, cells := mc, slots := ms, locals := 40 * d }
def rx_Qc (G : rx_E) (Q : Option Value → rx_M → Prop) : Array Value → State → Outcome → State → Prop := fun _ _ oc t => ∃ (v : Option Value) (mu : rx_M), oc = .returned (v.map (rx_tr G)) ∧ Q v mu ∧ rx_In G mu t.vm t.heap
def rx_XC (G : rx_E) (Z : String → rx_M → Prop) : String → State → State → Prop := fun E _ t => ∃ mu : rx_M, Z E mu ∧ rx_In G mu t.vm t.heap
def rx_Ctx (G : rx_E) (M : rx_Me) (p : Program) (s : State) (m : MethodId) (meth : Method) (c : Code) : Prop :=
  p.tables.exec = Jvm.exec ∧ c.code = M.2.1 ∧ meth.sig.returnType = M.2.2.2 ∧ c.maxLocals = M.2.2.1 ∧ s.vm.findClass M.1.cls = some m.cls ∧ meth.locks = false ∧ meth.name = M.1.name ∧ G.2.1.WarmedH s.vm ∧ rx_B G ≤ s.heap.size ∧ (∀ q, q < rx_B G → s.heap[q]? = G.2.1.heap[q]?) ∧ ∀ x ∈ c.exceptionTable.toList, False
/-- the judgement: from this frame the method comes to its end with Q, or has thrown with Z; at most mc cells of ms slots more are made -/
def rx_W (G : rx_E) (M : rx_Me) (d pc : Nat) (lv : List (Nat × Value)) (st : List Value) (mu : rx_M) (mc ms : Nat) (Q : Option Value → rx_M → Prop) (Z : String → rx_M → Prop) : Prop :=
  ∀ (p : Program) (e : Env) (R : Room) (s : State) (m : MethodId) (args : Array Value) (below : List Frame) (meth : Method) (c : Code) (H : Heap) (locs : List Loc) (cells slots MC MS : Nat) (ls : Array Slot),
    rx_Ctx G M p s m meth c → d ≤ R.frames ∧ 40 * d ≤ R.locals ∧ cells + mc ≤ MC ∧ slots + ms ≤ MS ∧ MC ≤ R.cells ∧ MS ≤ R.slots → rx_In G mu s.vm H → s.heap.size ≤ H.size → (∀ q ∈ locs, rx_B G ≤ q.base) → lv_has ls M.2.2.1 (rx_trl G lv) →
    W p G.1 e R s m args below meth c H locs cells slots (vx_MQ below (rx_Qc G Q) (rx_XC G Z) args s MC MS (fun q => rx_B G ≤ q)) (F0 m pc ls (rx_trs G st))
/-- a method that returns: its contract -/
def rx_C (G : rx_E) (M : rx_Me) (d : Nat) (as : List Value) (mu : rx_M) (mc ms : Nat) (Q : Option Value → rx_M → Prop) : Prop :=
  Met G.1 M.1 [Cond.code M.1 M.2.1 M.2.2.1 M.2.2.2] (rx_room d mc ms) (fun a U => a = (rx_trs G as).toArray ∧ rx_In G mu U.vm U.heap) (rx_Qc G Q) mc ms (fun q => rx_B G ≤ q)
/-- a method that returns or throws -/
def rx_X (G : rx_E) (M : rx_Me) (d : Nat) (as : List Value) (mu : rx_M) (mc ms : Nat) (Q : Option Value → rx_M → Prop) (Z : String → rx_M → Prop) : Prop :=
  vx_Met G.1 M.1 [Cond.code M.1 M.2.1 M.2.2.1 M.2.2.2] (rx_room d mc ms) (fun a U => a = (rx_trs G as).toArray ∧ rx_In G mu U.vm U.heap) (rx_Qc G Q) (rx_XC G Z) mc ms (fun q => rx_B G ≤ q)
theorem rx_args (G : rx_E) (l : List Value) : ∀ k, lv_args k (rx_trs G l) = rx_trl G (lv_args k l) := by
  induction l with
  | nil => intro k; rfl
  | cons v l ih =>
    intro k
    cases v <;> simp [rx_trs, rx_trl, rx_tr, lv_args, Value.category] at ih ⊢ <;> exact ih _
theorem rx_sl (G : rx_E) (l : List Value) : (lg_sl (rx_trs G l)).length = (lg_sl l).length := by
  induction l with
  | nil => rfl
  | cons v l ih => cases v <;> simp [rx_trs, rx_tr, lg_sl, Value.category] at ih ⊢ <;> exact ih

/-! THE MACHINE AS MATHEMATICS: frames as a list, the inmost first; a stack as a list, its top first; a state as a function of 608 places (19 of an account: balance, nonce, code, 16 cells); events newest first. -/
/-- (code, at, gas, self, caller), (value, argument), (look, lock), stack, (the state, the number of events, what was to be given back, as they were) -/
abbrev vf_T : Type := (Nat × Nat × Nat × Nat × Nat) × (Int64 × Int64) × (Bool × Bool) × List Int64 × ((Nat → Int64) × Nat × Nat)
abbrev fC (f : vf_T) : Nat := f.1.1
abbrev fA (f : vf_T) : Nat := f.1.2.1
abbrev fG (f : vf_T) : Nat := f.1.2.2.1
abbrev fS (f : vf_T) : Nat := f.1.2.2.2.1
abbrev fK (f : vf_T) : Nat := f.1.2.2.2.2
abbrev fV (f : vf_T) : Int64 := f.2.1.1
abbrev fR (f : vf_T) : Int64 := f.2.1.2
abbrev fL (f : vf_T) : Bool := f.2.2.1.1
abbrev fO (f : vf_T) : Bool := f.2.2.1.2
abbrev fT (f : vf_T) : List Int64 := f.2.2.2.1
abbrev fB (f : vf_T) : (Nat → Int64) × Nat × Nat := f.2.2.2.2
/-- a frame with another place, gas and stack -/
def vf_set (f : vf_T) (a g : Nat) (t : List Int64) : vf_T := ((fC f, a, g, fS f, fK f), f.2.1, f.2.2.1, t, fB f)
/-- the state, the events, what is to be given back, the frames, how many have run -/
abbrev vx_S : Type := (Nat → Int64) × List (Nat × Int64 × Int64) × Nat × List vf_T × Nat
/-- the codes, how many, the origin, the height -/
abbrev vg_T : Type := (Nat → List Nat) × Nat × Nat × Nat
def up1 (f : Nat → Int64) (k : Nat) (x : Int64) : Nat → Int64 := fun j => if j = k then x else f j
def vm_size (op : Nat) : Nat := if op = 2 then 9 else if op = 1 ∨ op = 4 ∨ op = 5 ∨ op = 19 ∨ op = 20 then 2 else 1
def vm_cost (op : Nat) : Nat := if op = 0 ∨ op = 36 ∨ op = 37 then 0 else if op = 2 ∨ op = 8 ∨ op = 19 ∨ op = 20 then 2 else if op = 9 ∨ op = 10 ∨ op = 39 then 3 else if op = 21 then 10 else if op = 22 ∨ op = 38 then 20 else if op = 30 then 5 else if op = 31 then 30 else if op = 32 then 25 else if op = 33 then 100 else if op = 34 then 40 else if op = 35 then 15 else 1
def vm_takes (op : Nat) : Nat := if (6 ≤ op ∧ op ≤ 17) ∨ op = 22 ∨ op = 33 ∨ op = 35 then 2 else if op = 3 ∨ op = 18 ∨ op = 20 ∨ op = 21 ∨ op = 30 ∨ op = 34 ∨ (36 ≤ op ∧ op ≤ 38) then 1 else if op = 31 then 4 else if op = 32 then 3 else 0
def vm_gives (op : Nat) : Nat := if op = 1 ∨ op = 2 ∨ op = 4 ∨ (6 ≤ op ∧ op ≤ 18) ∨ op = 21 ∨ (23 ≤ op ∧ op ≤ 30) ∨ op = 33 then 1 else if op = 31 ∨ op = 32 then 2 else 0
def vm_bars (op : Nat) : Bool := op = 22 ∨ op = 33 ∨ op = 34 ∨ op = 35 ∨ op = 38
/-- what is told to the frame below, or the whole call's end -/
def vm_tell (X : vx_S) (how : Nat) (v : Int64) (gas : Nat) : vx_S × Option (Nat × Int64 × Nat) := match X.2.2.2.1 with
  | [] => (X, some (how, v, gas))
  | g :: gs => ((X.1, X.2.1, X.2.2.1, vf_set g (fA g) (fG g + gas) ((if how = 1 then 1 else 0) :: v :: fT g) :: gs, X.2.2.2.2), none)
/-- the inmost frame ends -/
def vm_fin (X : vx_S) (how : Nat) (v : Int64) : vx_S × Option (Nat × Int64 × Nat) := match X.2.2.2.1 with
  | [] => (X, none)
  | f :: fs => vm_tell (if how = 1 then (X.1, X.2.1, X.2.2.1, fs, X.2.2.2.2) else ((fB f).1, X.2.1.drop (X.2.1.length - (fB f).2.1), (fB f).2.2, fs, X.2.2.2.2)) how (if how = 3 then 0 else v) (if how = 3 then 0 else fG f)
def vm_acct (x : Int64) : Prop := 0 ≤ x ∧ x < 32
def vm_locked (fs : List vf_T) (x : Int64) : Prop := ∃ f ∈ fs, fO f = true ∧ x = lN (fS f)
/-- a call begins: it fails, ends at once, or a frame comes -/
noncomputable def vm_begin (X : vx_S) (caller : Nat) (to value arg : Int64) (gas : Nat) (look : Bool) : vx_S × Option (Nat × Int64 × Nat) :=
  haveI := Classical.propDecidable
  if ¬ vm_acct to ∨ value < 0 ∨ X.1 (19 * caller) < value ∨ vm_locked X.2.2.2.1 to ∨ X.2.2.2.1.length = 10 then vm_tell X 2 0 gas
  else
    let a := to.toInt.toNat
    let n1 := up1 X.1 (19 * caller) (X.1 (19 * caller) - value)
    let n2 := up1 n1 (19 * a) (n1 (19 * a) + value)
    if n2 (19 * a + 2) = 0 then vm_tell (n2, X.2) 1 0 gas
    else ((n2, X.2.1, X.2.2.1, (((n2 (19 * a + 2)).toInt.toNat - 1, 0, gas, a, caller), (value, arg), (look, false), [], (X.1, X.2.1.length, X.2.2.1)) :: X.2.2.2.1, X.2.2.2.2 + 1), none)
/-- the inmost frame and its state, changed, goes on -/
def vm_on (X : vx_S) (f : vf_T) (fs : List vf_T) : vx_S × Option (Nat × Int64 × Nat) := ((X.1, X.2.1, X.2.2.1, f :: fs, X.2.2.2.2), none)
def vm_st (f : vf_T) (t : List Int64) : vf_T := vf_set f (fA f) (fG f) t
/-- ADD to SAME but DIV, REM -/
def vm_bin (op : Nat) (a b : Int64) : Int64 := match op with
  | 6 => a + b | 7 => a - b | 8 => a * b | 9 => a / b | 10 => a - a / b * b | 11 => a &&& b | 12 => a ||| b | 13 => a ^^^ b | 14 => a <<< (b &&& 63) | 15 => a >>> (b &&& 63)
  | 16 => if a < b then 1 else 0 | _ => if a = b then 1 else 0
def vm_big (c : List Nat) (at_ : Nat) : Nat → Int64
  | 0 => 0
  | n + 1 => (vm_big c at_ n <<< (8 : Int64)) ||| lN (c.getD (at_ + 1 + n) 0)
def vm_empty (now : Nat → Int64) (a : Nat) : Prop := ∀ k, k < 19 → now (19 * a + k) = 0
/-- the least account from a on that can be made -/
noncomputable def vm_free (now : Nat → Int64) (fs : List vf_T) (origin : Nat) : Nat → Nat → Option Nat
  | 0, _ => none
  | n + 1, a => haveI := Classical.propDecidable; if vm_empty now a ∧ a ≠ origin ∧ ∀ f ∈ fs, fS f ≠ a then some a else vm_free now fs origin n (a + 1)
def vm_clear (now : Nat → Int64) (a : Nat) : Nat → Int64 := fun j => if 19 * a + 2 ≤ j ∧ j < 19 * a + 19 then 0 else now j
/-- the end of the inmost frame f over fs -/
def vm_end (X : vx_S) (f : vf_T) (fs : List vf_T) (how : Nat) (v : Int64) : vx_S × Option (Nat × Int64 × Nat) := vm_fin (X.1, X.2.1, X.2.2.1, f :: fs, X.2.2.2.2) how v
def vm_gas (asked : Int64) (g : Nat) : Nat := if asked < 0 then 0 else if asked < lN g then asked.toInt.toNat else g
/-- PUSH to SWAP, and STOP -/
def vm_do1 (c : List Nat) (X : vx_S) (op more : Nat) (f : vf_T) (fs : List vf_T) : vx_S × Option (Nat × Int64 × Nat) :=
  if op = 0 then vm_end X f fs 1 0
  else if op = 1 then vm_on X (vm_st f ((nI more).toInt8.toInt32.toInt64 :: fT f)) fs
  else if op = 2 then vm_on X (vm_st f (vm_big c (fA f - 9) 8 :: fT f)) fs
  else if op = 3 then vm_on X (vm_st f (fT f).tail) fs
  else if op = 4 then vm_on X (vm_st f ((fT f).getD more 0 :: fT f)) fs
  else vm_on X (vm_st f (((fT f).set 0 ((fT f).getD more 0)).set more ((fT f).getD 0 0))) fs
/-- ADD to NOT -/
def vm_do2 (X : vx_S) (op : Nat) (f : vf_T) (fs : List vf_T) : vx_S × Option (Nat × Int64 × Nat) :=
  if op = 18 then vm_on X (vm_st f ((if (fT f).getD 0 0 = 0 then 1 else 0) :: (fT f).tail)) fs
  else if (op = 9 ∨ op = 10) ∧ (fT f).getD 0 0 = 0 then vm_end X (vm_st f (fT f).tail.tail) fs 3 0
  else vm_on X (vm_st f (vm_bin op ((fT f).getD 1 0) ((fT f).getD 0 0) :: (fT f).tail.tail)) fs
/-- JUMP to STORE -/
def vm_do3 (X : vx_S) (op more : Nat) (f : vf_T) (fs : List vf_T) : vx_S × Option (Nat × Int64 × Nat) :=
  if op = 19 then vm_on X (vf_set f more (fG f) (fT f)) fs
  else if op = 20 then vm_on X (vf_set f (if (fT f).getD 0 0 = 0 then fA f else more) (fG f) (fT f).tail) fs
  else if op = 21 then
    if (fT f).getD 0 0 < 0 ∨ 15 < (fT f).getD 0 0 then vm_end X (vm_st f (fT f).tail) fs 3 0
    else vm_on X (vm_st f (X.1 (19 * fS f + 3 + ((fT f).getD 0 0).toInt.toNat) :: (fT f).tail)) fs
  else
    if (fT f).getD 1 0 < 0 ∨ 15 < (fT f).getD 1 0 then vm_end X (vm_st f (fT f).tail.tail) fs 3 0
    else if X.1 (19 * fS f + 3 + ((fT f).getD 1 0).toInt.toNat) = 0 ∧ (fT f).getD 0 0 ≠ 0 then
      if fG f < 40 then vm_end X (vm_st f (fT f).tail.tail) fs 3 0
      else vm_on (up1 X.1 (19 * fS f + 3 + ((fT f).getD 1 0).toInt.toNat) ((fT f).getD 0 0), X.2) (vf_set f (fA f) (fG f - 40) (fT f).tail.tail) fs
    else vm_on (up1 X.1 (19 * fS f + 3 + ((fT f).getD 1 0).toInt.toNat) ((fT f).getD 0 0), X.2.1, X.2.2.1 + (if X.1 (19 * fS f + 3 + ((fT f).getD 1 0).toInt.toNat) ≠ 0 ∧ (fT f).getD 0 0 = 0 then 15 else 0), X.2.2.2) (vm_st f (fT f).tail.tail) fs
/-- SELF to BALANCE -/
noncomputable def vm_do4 (g : vg_T) (X : vx_S) (op : Nat) (f : vf_T) (fs : List vf_T) : vx_S × Option (Nat × Int64 × Nat) :=
  haveI := Classical.propDecidable
  if op = 30 then vm_on X (vm_st f ((if vm_acct ((fT f).getD 0 0) then X.1 (19 * ((fT f).getD 0 0).toInt.toNat) else 0) :: (fT f).tail)) fs
  else vm_on X (vm_st f ((if op = 23 then lN (fS f) else if op = 24 then lN (fK f) else if op = 25 then lN g.2.2.1 else if op = 26 then fV f else if op = 27 then fR f else if op = 28 then lN g.2.2.2 else lN (fG f)) :: fT f)) fs
/-- CALL, LOOK -/
noncomputable def vm_call (X : vx_S) (look : Bool) (to value arg asked : Int64) (f : vf_T) (fs : List vf_T) (t : List Int64) : vx_S × Option (Nat × Int64 × Nat) :=
  if fL f = true ∧ value ≠ 0 then vm_end X (vm_st f t) fs 3 0
  else vm_begin (X.1, X.2.1, X.2.2.1, vf_set f (fA f) (fG f - vm_gas asked (fG f)) t :: fs, X.2.2.2.2) (fS f) to value arg (vm_gas asked (fG f)) (look || fL f)
noncomputable def vm_make (g : vg_T) (X : vx_S) (value c : Int64) (f : vf_T) (fs : List vf_T) (t : List Int64) : vx_S × Option (Nat × Int64 × Nat) :=
  match vm_free X.1 (f :: fs) g.2.2.1 32 0 with
  | none => vm_on X (vm_st f ((-1) :: t)) fs
  | some a => if c < 0 ∨ lN g.2.1 ≤ c ∨ value < 0 ∨ X.1 (19 * fS f) < value then vm_on X (vm_st f ((-1) :: t)) fs
    else vm_on (up1 (up1 (up1 X.1 (19 * fS f) (X.1 (19 * fS f) - value)) (19 * a) ((up1 X.1 (19 * fS f) (X.1 (19 * fS f) - value)) (19 * a) + value)) (19 * a + 2) (c + 1), X.2) (vm_st f (lN a :: t)) fs
noncomputable def vm_close (X : vx_S) (heir : Int64) (f : vf_T) (fs : List vf_T) (t : List Int64) : vx_S × Option (Nat × Int64 × Nat) :=
  haveI := Classical.propDecidable
  if ¬ vm_acct heir ∨ heir = lN (fS f) then vm_end X (vm_st f t) fs 3 0
  else vm_end (vm_clear (up1 (up1 X.1 (19 * heir.toInt.toNat) (X.1 (19 * heir.toInt.toNat) + X.1 (19 * fS f))) (19 * fS f) 0) (fS f), X.2) (vm_st f t) fs 1 0
/-- CALL to LOCK -/
noncomputable def vm_do5 (g : vg_T) (X : vx_S) (op : Nat) (f : vf_T) (fs : List vf_T) : vx_S × Option (Nat × Int64 × Nat) :=
  let t := fT f
  if op = 31 then vm_call X false (t.getD 0 0) (t.getD 1 0) (t.getD 2 0) (t.getD 3 0) f fs (t.drop 4)
  else if op = 32 then vm_call X true (t.getD 0 0) 0 (t.getD 1 0) (t.getD 2 0) f fs (t.drop 3)
  else if op = 33 then vm_make g X (t.getD 0 0) (t.getD 1 0) f fs (t.drop 2)
  else if op = 34 then (if t.getD 0 0 < 0 ∨ lN g.2.1 ≤ t.getD 0 0 then vm_end X (vm_st f (t.drop 1)) fs 3 0 else vm_on (up1 X.1 (19 * fS f + 2) (t.getD 0 0 + 1), X.2) (vm_st f (t.drop 1)) fs)
  else if op = 35 then vm_on (X.1, (fS f, t.getD 1 0, t.getD 0 0) :: X.2.1, X.2.2) (vm_st f (t.drop 2)) fs
  else if op = 36 then vm_end X (vm_st f (t.drop 1)) fs 1 (t.getD 0 0)
  else if op = 37 then vm_end X (vm_st f (t.drop 1)) fs 2 (t.getD 0 0)
  else if op = 38 then vm_close X (t.getD 0 0) f fs (t.drop 1)
  else vm_on X (f.1, f.2.1, (fL f, true), f.2.2.2) fs
/-- one act of the inmost frame -/
noncomputable def vm_act (g : vg_T) (X : vx_S) : vx_S × Option (Nat × Int64 × Nat) := match X.2.2.2.1 with
  | [] => (X, none)
  | f :: fs =>
    let c := g.1 (fC f)
    if c.length ≤ fA f then vm_end X f fs 1 0
    else
      let op := c.getD (fA f) 0
      let more := if 1 < vm_size op then c.getD (fA f + 1) 0 else 0
      if fG f < vm_cost op then vm_end X f fs 3 0
      else
        let f1 := vf_set f (fA f + vm_size op) (fG f - vm_cost op) (fT f)
        if (fT f).length < vm_takes op ∨ 24 < (fT f).length - vm_takes op + vm_gives op ∨ ((op = 4 ∨ op = 5) ∧ (fT f).length ≤ more) ∨ (fL f = true ∧ vm_bars op = true) then vm_end X f1 fs 3 0
        else if op ≤ 5 then vm_do1 c X op more f1 fs
        else if op ≤ 18 then vm_do2 X op f1 fs
        else if op ≤ 22 then vm_do3 X op more f1 fs
        else if op ≤ 30 then vm_do4 g X op f1 fs
        else vm_do5 g X op f1 fs
/-- acts until the whole call has ended, at most n -/
noncomputable def vm_run (g : vg_T) : Nat → vx_S → vx_S × Option (Nat × Int64 × Nat)
  | 0, X => (X, none)
  | n + 1, X => match vm_act g X with
    | (Y, some r) => (Y, some r)
    | (Y, none) => vm_run g n Y
/-- a whole call: an order's or a view's -/
noncomputable def vm_whole (g : vg_T) (now : Nat → Int64) (ev : List (Nat × Int64 × Int64)) (to value arg : Int64) (gas : Nat) (look : Bool) : vx_S × Option (Nat × Int64 × Nat) :=
  match vm_begin (now, ev, 0, [], 0) g.2.2.1 to value arg gas look with
  | (Y, some r) => (Y, some r)
  | (Y, none) => vm_run g 100000 Y

section RXO
variable {G : rx_E} {M : rx_Me} {d pc mc ms : Nat} {lv : List (Nat × Value)} {st : List Value} {mu : rx_M} {Q : Option Value → rx_M → Prop} {Z : String → rx_M → Prop}
theorem rx_bipush {n : Int} {v : Int32} (hd : decode M.2.1 pc = .ok (.bipush n, 2)) (hv : (Int8.ofInt n).toInt32 = v) (k : rx_W G M d (pc + 2) lv (.int v :: st) mu mc ms Q Z) : rx_W G M d pc lv (st) mu mc ms Q Z :=
  rx_s k fun _ _ _ _ _ _ _ _ _ _ _ _ _ _ _ hx hb k => lv_bipush hx hb hd hv k
theorem rx_sipush {n : Int} {v : Int32} (hd : decode M.2.1 pc = .ok (.sipush n, 3)) (hv : (Int16.ofInt n).toInt32 = v) (k : rx_W G M d (pc + 3) lv (.int v :: st) mu mc ms Q Z) : rx_W G M d pc lv (st) mu mc ms Q Z :=
  rx_s k fun _ _ _ _ _ _ _ _ _ _ _ _ _ _ _ hx hb k => lv_sipush hx hb hd hv k
theorem rx_lconst {n : Fin 2} {v : Int64} (hd : decode M.2.1 pc = .ok (.lconst n, 1)) (hv : Int64.ofNat (n : Nat) = v) (k : rx_W G M d (pc + 1) lv (.long v :: st) mu mc ms Q Z) : rx_W G M d pc lv (st) mu mc ms Q Z :=
  rx_s k fun _ _ _ _ _ _ _ _ _ _ _ _ _ _ _ hx hb k => lv_lconst hx hb hd hv k
theorem rx_isub {x y : Int32} (hd : decode M.2.1 pc = .ok (.isub, 1)) (k : rx_W G M d (pc + 1) lv (.int (x - y) :: st) mu mc ms Q Z) : rx_W G M d pc lv (.int y :: .int x :: st) mu mc ms Q Z :=
  rx_s k fun _ _ _ _ _ _ _ _ _ _ _ _ _ _ _ hx hb k => lv_isub hx hb hd k
theorem rx_imul {x y : Int32} (hd : decode M.2.1 pc = .ok (.imul, 1)) (k : rx_W G M d (pc + 1) lv (.int (x * y) :: st) mu mc ms Q Z) : rx_W G M d pc lv (.int y :: .int x :: st) mu mc ms Q Z :=
  rx_s k fun _ _ _ _ _ _ _ _ _ _ _ _ _ _ _ hx hb k => lv_imul hx hb hd k
theorem rx_iand {x y : Int32} (hd : decode M.2.1 pc = .ok (.iand, 1)) (k : rx_W G M d (pc + 1) lv (.int (x &&& y) :: st) mu mc ms Q Z) : rx_W G M d pc lv (.int y :: .int x :: st) mu mc ms Q Z :=
  rx_s k fun _ _ _ _ _ _ _ _ _ _ _ _ _ _ _ hx hb k => lv_iand hx hb hd k
theorem rx_ior {x y : Int32} (hd : decode M.2.1 pc = .ok (.ior, 1)) (k : rx_W G M d (pc + 1) lv (.int (x ||| y) :: st) mu mc ms Q Z) : rx_W G M d pc lv (.int y :: .int x :: st) mu mc ms Q Z :=
  rx_s k fun _ _ _ _ _ _ _ _ _ _ _ _ _ _ _ hx hb k => lv_ior hx hb hd k
theorem rx_ixor {x y : Int32} (hd : decode M.2.1 pc = .ok (.ixor, 1)) (k : rx_W G M d (pc + 1) lv (.int (x ^^^ y) :: st) mu mc ms Q Z) : rx_W G M d pc lv (.int y :: .int x :: st) mu mc ms Q Z :=
  rx_s k fun _ _ _ _ _ _ _ _ _ _ _ _ _ _ _ hx hb k => lv_ixor hx hb hd k
theorem rx_ishl {x y : Int32} (hd : decode M.2.1 pc = .ok (.ishl, 1)) (k : rx_W G M d (pc + 1) lv (.int (x <<< (y &&& 31)) :: st) mu mc ms Q Z) : rx_W G M d pc lv (.int y :: .int x :: st) mu mc ms Q Z :=
  rx_s k fun _ _ _ _ _ _ _ _ _ _ _ _ _ _ _ hx hb k => lv_ishl hx hb hd k
theorem rx_ishr {x y : Int32} (hd : decode M.2.1 pc = .ok (.ishr, 1)) (k : rx_W G M d (pc + 1) lv (.int (x >>> (y &&& 31)) :: st) mu mc ms Q Z) : rx_W G M d pc lv (.int y :: .int x :: st) mu mc ms Q Z :=
  rx_s k fun _ _ _ _ _ _ _ _ _ _ _ _ _ _ _ hx hb k => lv_ishr hx hb hd k
theorem rx_idiv {x y : Int32} (hd : decode M.2.1 pc = .ok (.idiv, 1)) (hne : ¬ y = 0) (k : rx_W G M d (pc + 1) lv (.int (x / y) :: st) mu mc ms Q Z) : rx_W G M d pc lv (.int y :: .int x :: st) mu mc ms Q Z :=
  rx_s k fun _ _ _ _ _ _ _ _ _ _ _ _ _ _ _ hx hb k => lv_idiv hx hb hd hne k
theorem rx_irem {x y : Int32} (hd : decode M.2.1 pc = .ok (.irem, 1)) (hne : ¬ y = 0) (k : rx_W G M d (pc + 1) lv (.int (x - x / y * y) :: st) mu mc ms Q Z) : rx_W G M d pc lv (.int y :: .int x :: st) mu mc ms Q Z :=
  rx_s k fun _ _ _ _ _ _ _ _ _ _ _ _ _ _ _ hx hb k => lv_irem hx hb hd hne k
theorem rx_ladd {x y : Int64} (hd : decode M.2.1 pc = .ok (.ladd, 1)) (k : rx_W G M d (pc + 1) lv (.long (x + y) :: st) mu mc ms Q Z) : rx_W G M d pc lv (.long y :: .long x :: st) mu mc ms Q Z :=
  rx_s k fun _ _ _ _ _ _ _ _ _ _ _ _ _ _ _ hx hb k => lv_ladd hx hb hd k
theorem rx_lsub {x y : Int64} (hd : decode M.2.1 pc = .ok (.lsub, 1)) (k : rx_W G M d (pc + 1) lv (.long (x - y) :: st) mu mc ms Q Z) : rx_W G M d pc lv (.long y :: .long x :: st) mu mc ms Q Z :=
  rx_s k fun _ _ _ _ _ _ _ _ _ _ _ _ _ _ _ hx hb k => lv_lsub hx hb hd k
theorem rx_lmul {x y : Int64} (hd : decode M.2.1 pc = .ok (.lmul, 1)) (k : rx_W G M d (pc + 1) lv (.long (x * y) :: st) mu mc ms Q Z) : rx_W G M d pc lv (.long y :: .long x :: st) mu mc ms Q Z :=
  rx_s k fun _ _ _ _ _ _ _ _ _ _ _ _ _ _ _ hx hb k => lv_lmul hx hb hd k
theorem rx_land {x y : Int64} (hd : decode M.2.1 pc = .ok (.land, 1)) (k : rx_W G M d (pc + 1) lv (.long (x &&& y) :: st) mu mc ms Q Z) : rx_W G M d pc lv (.long y :: .long x :: st) mu mc ms Q Z :=
  rx_s k fun _ _ _ _ _ _ _ _ _ _ _ _ _ _ _ hx hb k => lv_land hx hb hd k
theorem rx_lor {x y : Int64} (hd : decode M.2.1 pc = .ok (.lor, 1)) (k : rx_W G M d (pc + 1) lv (.long (x ||| y) :: st) mu mc ms Q Z) : rx_W G M d pc lv (.long y :: .long x :: st) mu mc ms Q Z :=
  rx_s k fun _ _ _ _ _ _ _ _ _ _ _ _ _ _ _ hx hb k => lv_lor hx hb hd k
theorem rx_lxor {x y : Int64} (hd : decode M.2.1 pc = .ok (.lxor, 1)) (k : rx_W G M d (pc + 1) lv (.long (x ^^^ y) :: st) mu mc ms Q Z) : rx_W G M d pc lv (.long y :: .long x :: st) mu mc ms Q Z :=
  rx_s k fun _ _ _ _ _ _ _ _ _ _ _ _ _ _ _ hx hb k => lv_lxor hx hb hd k
theorem rx_ldiv {x y : Int64} (hd : decode M.2.1 pc = .ok (.ldiv, 1)) (hne : ¬ y = 0) (k : rx_W G M d (pc + 1) lv (.long (x / y) :: st) mu mc ms Q Z) : rx_W G M d pc lv (.long y :: .long x :: st) mu mc ms Q Z :=
  rx_s k fun _ _ _ _ _ _ _ _ _ _ _ _ _ _ _ hx hb k => lv_ldiv hx hb hd hne k
theorem rx_lrem {x y : Int64} (hd : decode M.2.1 pc = .ok (.lrem, 1)) (hne : ¬ y = 0) (k : rx_W G M d (pc + 1) lv (.long (x - x / y * y) :: st) mu mc ms Q Z) : rx_W G M d pc lv (.long y :: .long x :: st) mu mc ms Q Z :=
  rx_s k fun _ _ _ _ _ _ _ _ _ _ _ _ _ _ _ hx hb k => lv_lrem hx hb hd hne k
theorem rx_lneg {x : Int64} (hd : decode M.2.1 pc = .ok (.lneg, 1)) (k : rx_W G M d (pc + 1) lv (.long (-x) :: st) mu mc ms Q Z) : rx_W G M d pc lv (.long x :: st) mu mc ms Q Z :=
  rx_s k fun _ _ _ _ _ _ _ _ _ _ _ _ _ _ _ hx hb k => lv_lneg hx hb hd k
theorem rx_ineg {x : Int32} (hd : decode M.2.1 pc = .ok (.ineg, 1)) (k : rx_W G M d (pc + 1) lv (.int (-x) :: st) mu mc ms Q Z) : rx_W G M d pc lv (.int x :: st) mu mc ms Q Z :=
  rx_s k fun _ _ _ _ _ _ _ _ _ _ _ _ _ _ _ hx hb k => lv_ineg hx hb hd k
theorem rx_i2l {x : Int32} (hd : decode M.2.1 pc = .ok (.i2l, 1)) (k : rx_W G M d (pc + 1) lv (.long x.toInt64 :: st) mu mc ms Q Z) : rx_W G M d pc lv (.int x :: st) mu mc ms Q Z :=
  rx_s k fun _ _ _ _ _ _ _ _ _ _ _ _ _ _ _ hx hb k => lv_i2l hx hb hd rfl k
theorem rx_l2i {x : Int64} (hd : decode M.2.1 pc = .ok (.l2i, 1)) (k : rx_W G M d (pc + 1) lv (.int x.toInt32 :: st) mu mc ms Q Z) : rx_W G M d pc lv (.long x :: st) mu mc ms Q Z :=
  rx_s k fun _ _ _ _ _ _ _ _ _ _ _ _ _ _ _ hx hb k => lv_l2i hx hb hd rfl k
theorem rx_i2b {x : Int32} (hd : decode M.2.1 pc = .ok (.i2b, 1)) (k : rx_W G M d (pc + 1) lv (.int x.toInt8.toInt32 :: st) mu mc ms Q Z) : rx_W G M d pc lv (.int x :: st) mu mc ms Q Z :=
  rx_s k fun _ _ _ _ _ _ _ _ _ _ _ _ _ _ _ hx hb k => lv_i2b hx hb hd rfl k
theorem rx_lshl {x : Int64} {y : Int32} (hd : decode M.2.1 pc = .ok (.lshl, 1)) (k : rx_W G M d (pc + 1) lv (.long (x <<< (y.toInt64 &&& 63)) :: st) mu mc ms Q Z) : rx_W G M d pc lv (.int y :: .long x :: st) mu mc ms Q Z :=
  rx_s k fun _ _ _ _ _ _ _ _ _ _ _ _ _ _ _ hx hb k => lv_lshl hx hb hd rfl k
theorem rx_lshr {x : Int64} {y : Int32} (hd : decode M.2.1 pc = .ok (.lshr, 1)) (k : rx_W G M d (pc + 1) lv (.long (x >>> (y.toInt64 &&& 63)) :: st) mu mc ms Q Z) : rx_W G M d pc lv (.int y :: .long x :: st) mu mc ms Q Z :=
  rx_s k fun _ _ _ _ _ _ _ _ _ _ _ _ _ _ _ hx hb k => lv_lshr hx hb hd rfl k
theorem rx_lushr {x : Int64} {y : Int32} (hd : decode M.2.1 pc = .ok (.lushr, 1)) (k : rx_W G M d (pc + 1) lv (.long (x.toUInt64 >>> (y.toInt64.toUInt64 &&& Int64.toUInt64 63)).toInt64 :: st) mu mc ms Q Z) : rx_W G M d pc lv (.int y :: .long x :: st) mu mc ms Q Z :=
  rx_s k fun _ _ _ _ _ _ _ _ _ _ _ _ _ _ _ hx hb k => lv_lushr hx hb hd rfl k
theorem rx_lcmp {x y : Int64} (hd : decode M.2.1 pc = .ok (.lcmp, 1)) (k : rx_W G M d (pc + 1) lv (.int (lg_cmp x y) :: st) mu mc ms Q Z) : rx_W G M d pc lv (.long y :: .long x :: st) mu mc ms Q Z :=
  rx_s k fun _ _ _ _ _ _ _ _ _ _ _ _ _ _ _ hx hb k => W.lcmp hx hb hd k
theorem rx_dup {v : Value} (hd : decode M.2.1 pc = .ok (.dup, 1)) (hv : v.category = 1) (k : rx_W G M d (pc + 1) lv (v :: v :: st) mu mc ms Q Z) : rx_W G M d pc lv (v :: st) mu mc ms Q Z :=
  rx_s k fun _ _ _ _ _ _ _ _ _ _ _ _ _ _ _ hx hb k => lv_dup hx hb hd ((rx_cat G v).trans hv) k
theorem rx_pop {v : Value} (hd : decode M.2.1 pc = .ok (.pop, 1)) (hv : v.category = 1) (k : rx_W G M d (pc + 1) lv (st) mu mc ms Q Z) : rx_W G M d pc lv (v :: st) mu mc ms Q Z :=
  rx_s k fun _ _ _ _ _ _ _ _ _ _ _ _ _ _ _ hx hb k => lv_pop hx hb hd ((rx_cat G v).trans hv) k
theorem rx_pop2 {v : Value} (hd : decode M.2.1 pc = .ok (.pop2, 1)) (hv : v.category = 2) (k : rx_W G M d (pc + 1) lv (st) mu mc ms Q Z) : rx_W G M d pc lv (v :: st) mu mc ms Q Z :=
  rx_s k fun _ _ _ _ _ _ _ _ _ _ _ _ _ _ _ hx hb k => lv_pop2_2 hx hb hd ((rx_cat G v).trans hv) k
theorem rx_dup2l {v : Value} (hd : decode M.2.1 pc = .ok (.dup2, 1)) (hv : v.category = 2) (k : rx_W G M d (pc + 1) lv (v :: v :: st) mu mc ms Q Z) : rx_W G M d pc lv (v :: st) mu mc ms Q Z :=
  rx_s k fun _ _ _ _ _ _ _ _ _ _ _ _ _ _ _ hx hb k => lv_dup2_2 hx hb hd ((rx_cat G v).trans hv) k
theorem rx_dup2 {v w : Value} (hd : decode M.2.1 pc = .ok (.dup2, 1)) (hv : v.category = 1) (hw : w.category = 1) (k : rx_W G M d (pc + 1) lv (v :: w :: v :: w :: st) mu mc ms Q Z) : rx_W G M d pc lv (v :: w :: st) mu mc ms Q Z :=
  rx_s k fun _ _ _ _ _ _ _ _ _ _ _ _ _ _ _ hx hb k => lv_dup2_11 hx hb hd ((rx_cat G v).trans hv) ((rx_cat G w).trans hw) k
theorem rx_goto {off : Int} {tgt : Nat} (hd : decode M.2.1 pc = .ok (.goto off, 3)) (ht : (pc : Int) + off = (tgt : Int)) (k : rx_W G M d tgt lv st mu mc ms Q Z) : rx_W G M d pc lv st mu mc ms Q Z :=
  rx_s k fun _ _ _ _ _ _ _ _ _ _ _ _ _ _ _ hx hb k => lv_goto hx hb hd ht k
/-- a branch: two roads -/
theorem rx_b {st' : List Value} {pc1 pc2 : Nat} {c0 : Prop} (k1 : c0 → rx_W G M d pc1 lv st' mu mc ms Q Z) (k2 : ¬ c0 → rx_W G M d pc2 lv st' mu mc ms Q Z)
    (h : ∀ (p : Program) (e : Env) (R : Room) (s : State) (m : MethodId) (args : Array Value) (below : List Frame) (meth : Method) (c : Code) (H : Heap) (locs : List Loc) (cells slots : Nat) (Qf : State → Prop) (ls : Array Slot), p.tables.exec = Jvm.exec → c.code = M.2.1 → (c0 → W p G.1 e R s m args below meth c H locs cells slots Qf (F0 m pc1 ls (rx_trs G st'))) → (¬ c0 → W p G.1 e R s m args below meth c H locs cells slots Qf (F0 m pc2 ls (rx_trs G st'))) → W p G.1 e R s m args below meth c H locs cells slots Qf (F0 m pc ls (rx_trs G st))) :
    rx_W G M d pc lv st mu mc ms Q Z := by
  intro p e R s m args below meth c H locs cells slots MC MS ls C h1 h2 h3 h4 h5
  exact h _ _ _ _ _ _ _ _ _ _ _ _ _ _ _ C.1 C.2.1 (fun g => k1 g p e R s m args below meth c H locs cells slots MC MS ls C h1 h2 h3 h4 h5) (fun g => k2 g p e R s m args below meth c H locs cells slots MC MS ls C h1 h2 h3 h4 h5)
theorem rx_if_eq {x : Int32} {off : Int} {tgt : Nat} (hd : decode M.2.1 pc = .ok (.ifCond .eq off, 3)) (ht : (pc : Int) + off = (tgt : Int)) (kt : x = 0 → rx_W G M d tgt lv st mu mc ms Q Z) (kf : ¬ (x = 0) → rx_W G M d (pc + 3) lv st mu mc ms Q Z) : rx_W G M d pc lv (.int x :: st) mu mc ms Q Z :=
  rx_b (st' := st) kt kf fun _ _ _ _ _ _ _ _ _ _ _ _ _ _ _ hx hb k1 k2 => lv_if_eq hx hb hd ht k1 k2
theorem rx_icmp_eq {x y : Int32} {off : Int} {tgt : Nat} (hd : decode M.2.1 pc = .ok (.if_icmp .eq off, 3)) (ht : (pc : Int) + off = (tgt : Int)) (kt : x = y → rx_W G M d tgt lv st mu mc ms Q Z) (kf : ¬ (x = y) → rx_W G M d (pc + 3) lv st mu mc ms Q Z) : rx_W G M d pc lv (.int y :: .int x :: st) mu mc ms Q Z :=
  rx_b (st' := st) kt kf fun _ _ _ _ _ _ _ _ _ _ _ _ _ _ _ hx hb k1 k2 => lv_icmp_eq hx hb hd ht k1 k2
theorem rx_if_ne {x : Int32} {off : Int} {tgt : Nat} (hd : decode M.2.1 pc = .ok (.ifCond .ne off, 3)) (ht : (pc : Int) + off = (tgt : Int)) (kt : ¬ x = 0 → rx_W G M d tgt lv st mu mc ms Q Z) (kf : x = 0 → rx_W G M d (pc + 3) lv st mu mc ms Q Z) : rx_W G M d pc lv (.int x :: st) mu mc ms Q Z :=
  rx_b (st' := st) (c0 := x = 0) kf kt fun _ _ _ _ _ _ _ _ _ _ _ _ _ _ _ hx hb k1 k2 => lv_if_ne hx hb hd ht k2 k1
theorem rx_icmp_ne {x y : Int32} {off : Int} {tgt : Nat} (hd : decode M.2.1 pc = .ok (.if_icmp .ne off, 3)) (ht : (pc : Int) + off = (tgt : Int)) (kt : ¬ x = y → rx_W G M d tgt lv st mu mc ms Q Z) (kf : x = y → rx_W G M d (pc + 3) lv st mu mc ms Q Z) : rx_W G M d pc lv (.int y :: .int x :: st) mu mc ms Q Z :=
  rx_b (st' := st) (c0 := x = y) kf kt fun _ _ _ _ _ _ _ _ _ _ _ _ _ _ _ hx hb k1 k2 => lv_icmp_ne hx hb hd ht k2 k1
theorem rx_if_lt {x : Int32} {off : Int} {tgt : Nat} (hd : decode M.2.1 pc = .ok (.ifCond .lt off, 3)) (ht : (pc : Int) + off = (tgt : Int)) (kt : x < 0 → rx_W G M d tgt lv st mu mc ms Q Z) (kf : ¬ (x < 0) → rx_W G M d (pc + 3) lv st mu mc ms Q Z) : rx_W G M d pc lv (.int x :: st) mu mc ms Q Z :=
  rx_b (st' := st) kt kf fun _ _ _ _ _ _ _ _ _ _ _ _ _ _ _ hx hb k1 k2 => lv_if_lt hx hb hd ht k1 k2
theorem rx_icmp_lt {x y : Int32} {off : Int} {tgt : Nat} (hd : decode M.2.1 pc = .ok (.if_icmp .lt off, 3)) (ht : (pc : Int) + off = (tgt : Int)) (kt : x < y → rx_W G M d tgt lv st mu mc ms Q Z) (kf : ¬ (x < y) → rx_W G M d (pc + 3) lv st mu mc ms Q Z) : rx_W G M d pc lv (.int y :: .int x :: st) mu mc ms Q Z :=
  rx_b (st' := st) kt kf fun _ _ _ _ _ _ _ _ _ _ _ _ _ _ _ hx hb k1 k2 => lv_icmp_lt hx hb hd ht k1 k2
theorem rx_if_ge {x : Int32} {off : Int} {tgt : Nat} (hd : decode M.2.1 pc = .ok (.ifCond .ge off, 3)) (ht : (pc : Int) + off = (tgt : Int)) (kt : 0 ≤ x → rx_W G M d tgt lv st mu mc ms Q Z) (kf : ¬ (0 ≤ x) → rx_W G M d (pc + 3) lv st mu mc ms Q Z) : rx_W G M d pc lv (.int x :: st) mu mc ms Q Z :=
  rx_b (st' := st) kt kf fun _ _ _ _ _ _ _ _ _ _ _ _ _ _ _ hx hb k1 k2 => lv_if_ge hx hb hd ht k1 k2
theorem rx_icmp_ge {x y : Int32} {off : Int} {tgt : Nat} (hd : decode M.2.1 pc = .ok (.if_icmp .ge off, 3)) (ht : (pc : Int) + off = (tgt : Int)) (kt : y ≤ x → rx_W G M d tgt lv st mu mc ms Q Z) (kf : ¬ (y ≤ x) → rx_W G M d (pc + 3) lv st mu mc ms Q Z) : rx_W G M d pc lv (.int y :: .int x :: st) mu mc ms Q Z :=
  rx_b (st' := st) kt kf fun _ _ _ _ _ _ _ _ _ _ _ _ _ _ _ hx hb k1 k2 => lv_icmp_ge hx hb hd ht k1 k2
theorem rx_if_gt {x : Int32} {off : Int} {tgt : Nat} (hd : decode M.2.1 pc = .ok (.ifCond .gt off, 3)) (ht : (pc : Int) + off = (tgt : Int)) (kt : 0 < x → rx_W G M d tgt lv st mu mc ms Q Z) (kf : ¬ (0 < x) → rx_W G M d (pc + 3) lv st mu mc ms Q Z) : rx_W G M d pc lv (.int x :: st) mu mc ms Q Z :=
  rx_b (st' := st) kt kf fun _ _ _ _ _ _ _ _ _ _ _ _ _ _ _ hx hb k1 k2 => lv_if_gt hx hb hd ht k1 k2
theorem rx_icmp_gt {x y : Int32} {off : Int} {tgt : Nat} (hd : decode M.2.1 pc = .ok (.if_icmp .gt off, 3)) (ht : (pc : Int) + off = (tgt : Int)) (kt : y < x → rx_W G M d tgt lv st mu mc ms Q Z) (kf : ¬ (y < x) → rx_W G M d (pc + 3) lv st mu mc ms Q Z) : rx_W G M d pc lv (.int y :: .int x :: st) mu mc ms Q Z :=
  rx_b (st' := st) kt kf fun _ _ _ _ _ _ _ _ _ _ _ _ _ _ _ hx hb k1 k2 => lv_icmp_gt hx hb hd ht k1 k2
theorem rx_if_le {x : Int32} {off : Int} {tgt : Nat} (hd : decode M.2.1 pc = .ok (.ifCond .le off, 3)) (ht : (pc : Int) + off = (tgt : Int)) (kt : x ≤ 0 → rx_W G M d tgt lv st mu mc ms Q Z) (kf : ¬ (x ≤ 0) → rx_W G M d (pc + 3) lv st mu mc ms Q Z) : rx_W G M d pc lv (.int x :: st) mu mc ms Q Z :=
  rx_b (st' := st) kt kf fun _ _ _ _ _ _ _ _ _ _ _ _ _ _ _ hx hb k1 k2 => lv_if_le hx hb hd ht k1 k2
theorem rx_icmp_le {x y : Int32} {off : Int} {tgt : Nat} (hd : decode M.2.1 pc = .ok (.if_icmp .le off, 3)) (ht : (pc : Int) + off = (tgt : Int)) (kt : x ≤ y → rx_W G M d tgt lv st mu mc ms Q Z) (kf : ¬ (x ≤ y) → rx_W G M d (pc + 3) lv st mu mc ms Q Z) : rx_W G M d pc lv (.int y :: .int x :: st) mu mc ms Q Z :=
  rx_b (st' := st) kt kf fun _ _ _ _ _ _ _ _ _ _ _ _ _ _ _ hx hb k1 k2 => lv_icmp_le hx hb hd ht k1 k2
theorem rx_lc_eq {x y : Int64} {off : Int} {tgt : Nat} (hd0 : decode M.2.1 pc = .ok (.lcmp, 1)) (hd : decode M.2.1 (pc + 1) = .ok (.ifCond .eq off, 3)) (ht : (pc : Int) + 1 + off = (tgt : Int)) (kt : x = y → rx_W G M d tgt lv st mu mc ms Q Z) (kf : ¬ (x = y) → rx_W G M d (pc + 4) lv st mu mc ms Q Z) : rx_W G M d pc lv (.long y :: .long x :: st) mu mc ms Q Z :=
  rx_lcmp hd0 (rx_if_eq hd (by rw [← ht]; simp) (fun h => kt ((lg_cmp_eq x y).mp h)) (fun h => kf (fun g => h ((lg_cmp_eq x y).mpr g))))
theorem rx_lc_lt {x y : Int64} {off : Int} {tgt : Nat} (hd0 : decode M.2.1 pc = .ok (.lcmp, 1)) (hd : decode M.2.1 (pc + 1) = .ok (.ifCond .lt off, 3)) (ht : (pc : Int) + 1 + off = (tgt : Int)) (kt : x < y → rx_W G M d tgt lv st mu mc ms Q Z) (kf : ¬ (x < y) → rx_W G M d (pc + 4) lv st mu mc ms Q Z) : rx_W G M d pc lv (.long y :: .long x :: st) mu mc ms Q Z :=
  rx_lcmp hd0 (rx_if_lt hd (by rw [← ht]; simp) (fun h => kt ((lg_cmp_lt x y).mp h)) (fun h => kf (fun g => h ((lg_cmp_lt x y).mpr g))))
theorem rx_lc_ge {x y : Int64} {off : Int} {tgt : Nat} (hd0 : decode M.2.1 pc = .ok (.lcmp, 1)) (hd : decode M.2.1 (pc + 1) = .ok (.ifCond .ge off, 3)) (ht : (pc : Int) + 1 + off = (tgt : Int)) (kt : y ≤ x → rx_W G M d tgt lv st mu mc ms Q Z) (kf : ¬ (y ≤ x) → rx_W G M d (pc + 4) lv st mu mc ms Q Z) : rx_W G M d pc lv (.long y :: .long x :: st) mu mc ms Q Z :=
  rx_lcmp hd0 (rx_if_ge hd (by rw [← ht]; simp) (fun h => kt ((lg_cmp_ge x y).mp h)) (fun h => kf (fun g => h ((lg_cmp_ge x y).mpr g))))
theorem rx_lc_gt {x y : Int64} {off : Int} {tgt : Nat} (hd0 : decode M.2.1 pc = .ok (.lcmp, 1)) (hd : decode M.2.1 (pc + 1) = .ok (.ifCond .gt off, 3)) (ht : (pc : Int) + 1 + off = (tgt : Int)) (kt : y < x → rx_W G M d tgt lv st mu mc ms Q Z) (kf : ¬ (y < x) → rx_W G M d (pc + 4) lv st mu mc ms Q Z) : rx_W G M d pc lv (.long y :: .long x :: st) mu mc ms Q Z :=
  rx_lcmp hd0 (rx_if_gt hd (by rw [← ht]; simp) (fun h => kt ((lg_cmp_gt x y).mp h)) (fun h => kf (fun g => h ((lg_cmp_gt x y).mpr g))))
theorem rx_lc_le {x y : Int64} {off : Int} {tgt : Nat} (hd0 : decode M.2.1 pc = .ok (.lcmp, 1)) (hd : decode M.2.1 (pc + 1) = .ok (.ifCond .le off, 3)) (ht : (pc : Int) + 1 + off = (tgt : Int)) (kt : x ≤ y → rx_W G M d tgt lv st mu mc ms Q Z) (kf : ¬ (x ≤ y) → rx_W G M d (pc + 4) lv st mu mc ms Q Z) : rx_W G M d pc lv (.long y :: .long x :: st) mu mc ms Q Z :=
  rx_lcmp hd0 (rx_if_le hd (by rw [← ht]; simp) (fun h => kt ((lg_cmp_le x y).mp h)) (fun h => kf (fun g => h ((lg_cmp_le x y).mpr g))))
theorem rx_lc_ne {x y : Int64} {off : Int} {tgt : Nat} (hd0 : decode M.2.1 pc = .ok (.lcmp, 1)) (hd : decode M.2.1 (pc + 1) = .ok (.ifCond .ne off, 3)) (ht : (pc : Int) + 1 + off = (tgt : Int)) (kt : ¬ x = y → rx_W G M d tgt lv st mu mc ms Q Z) (kf : x = y → rx_W G M d (pc + 4) lv st mu mc ms Q Z) : rx_W G M d pc lv (.long y :: .long x :: st) mu mc ms Q Z :=
  rx_lcmp hd0 (rx_if_ne hd (by rw [← ht]; simp) (fun h => kt (fun g => h ((lg_cmp_eq x y).mpr g))) (fun h => kf ((lg_cmp_eq x y).mp h)))
theorem rx_ld {i : Nat} {v : Value} {pc' : Nat} (hl : rx_lk lv i = some v) (k : rx_W G M d pc' lv (v :: st) mu mc ms Q Z)
    (h : ∀ (p : Program) (e : Env) (R : Room) (s : State) (m : MethodId) (args : Array Value) (below : List Frame) (meth : Method) (c : Code) (H : Heap) (locs : List Loc) (cells slots : Nat) (Qf : State → Prop) (ls : Array Slot), p.tables.exec = Jvm.exec → c.code = M.2.1 → ls[i]? = some (.val (rx_tr G v)) → W p G.1 e R s m args below meth c H locs cells slots Qf (F0 m pc' ls (rx_trs G (v :: st))) → W p G.1 e R s m args below meth c H locs cells slots Qf (F0 m pc ls (rx_trs G st))) :
    rx_W G M d pc lv st mu mc ms Q Z := by
  intro p e R s m args below meth c H locs cells slots MC MS ls C h1 h2 h3 h4 h5
  exact h _ _ _ _ _ _ _ _ _ _ _ _ _ _ _ C.1 C.2.1 (h5.2.2 i v hl) (k p e R s m args below meth c H locs cells slots MC MS ls C h1 h2 h3 h4 h5)
theorem rx_iload {i : Nat} {x : Int32} (hd : decode M.2.1 pc = .ok (.iload i, 2)) (hl : rx_lk lv i = some (.int x)) (k : rx_W G M d (pc + 2) lv (.int x :: st) mu mc ms Q Z) : rx_W G M d pc lv st mu mc ms Q Z :=
  rx_ld hl k fun _ _ _ _ _ _ _ _ _ _ _ _ _ _ _ hx hb hl k => lv_iload hx hb hd hl k
theorem rx_iload_n {n : Fin 4} {x : Int32} (hd : decode M.2.1 pc = .ok (.iload_n n, 1)) (hl : rx_lk lv n = some (.int x)) (k : rx_W G M d (pc + 1) lv (.int x :: st) mu mc ms Q Z) : rx_W G M d pc lv st mu mc ms Q Z :=
  rx_ld hl k fun _ _ _ _ _ _ _ _ _ _ _ _ _ _ _ hx hb hl k => lv_iload_n hx hb hd rfl hl k
theorem rx_lload {i : Nat} {x : Int64} (hd : decode M.2.1 pc = .ok (.lload i, 2)) (hl : rx_lk lv i = some (.long x)) (k : rx_W G M d (pc + 2) lv (.long x :: st) mu mc ms Q Z) : rx_W G M d pc lv st mu mc ms Q Z :=
  rx_ld hl k fun _ _ _ _ _ _ _ _ _ _ _ _ _ _ _ hx hb hl k => lv_lload hx hb hd hl k
theorem rx_lload_n {n : Fin 4} {x : Int64} (hd : decode M.2.1 pc = .ok (.lload_n n, 1)) (hl : rx_lk lv n = some (.long x)) (k : rx_W G M d (pc + 1) lv (.long x :: st) mu mc ms Q Z) : rx_W G M d pc lv st mu mc ms Q Z :=
  rx_ld hl k fun _ _ _ _ _ _ _ _ _ _ _ _ _ _ _ hx hb hl k => lv_lload_n hx hb hd rfl hl k
/-- a reference of the memory, or of a cell ahead of it -/
def rx_isR : Value → Bool
  | .ref _ => true
  | .float _ => true
  | _ => false
theorem rx_isR_of {G : rx_E} {v : Value} (h : rx_isR v = true) : ∃ x : Nat, rx_tr G v = .ref x := by
  cases v <;> first | exact ⟨_, rfl⟩ | cases h
theorem rx_aload {i : Nat} {v : Value} (hd : decode M.2.1 pc = .ok (.aload i, 2)) (hl : rx_lk lv i = some v) (hr : rx_isR v = true) (k : rx_W G M d (pc + 2) lv (v :: st) mu mc ms Q Z) : rx_W G M d pc lv st mu mc ms Q Z :=
  rx_ld hl k fun _ _ _ _ _ _ _ _ _ _ _ _ _ _ _ hx hb hl k => by
    obtain ⟨x, e⟩ := rx_isR_of (G := G) hr
    simp only [rx_trs, List.map_cons, e] at hl k ⊢
    exact lv_aload hx hb hd hl k
theorem rx_aload_n {n : Fin 4} {v : Value} (hd : decode M.2.1 pc = .ok (.aload_n n, 1)) (hl : rx_lk lv n = some v) (hr : rx_isR v = true) (k : rx_W G M d (pc + 1) lv (v :: st) mu mc ms Q Z) : rx_W G M d pc lv st mu mc ms Q Z :=
  rx_ld hl k fun _ _ _ _ _ _ _ _ _ _ _ _ _ _ _ hx hb hl k => by
    obtain ⟨x, e⟩ := rx_isR_of (G := G) hr
    simp only [rx_trs, List.map_cons, e] at hl k ⊢
    exact lv_aload_n hx hb hd rfl hl k
theorem rx_istore {i : Nat} {x : Int32} (hd : decode M.2.1 pc = .ok (.istore i, 2)) (hn : i < M.2.2.1) (k : rx_W G M d (pc + 2) ((i, .int x) :: lv) st mu mc ms Q Z) : rx_W G M d pc lv (.int x :: st) mu mc ms Q Z := by
  intro p e R s m args below meth c H locs cells slots MC MS ls C h1 h2 h3 h4 h5
  exact lv_istore C.1 C.2.1 hd (rx_has_en h5) hn rfl (fun ls' h' => k p e R s m args below meth c H locs cells slots MC MS ls' C h1 h2 h3 h4 (rx_has_st1 h5 rfl h'))
theorem rx_istore_n {n : Fin 4} {x : Int32} (hd : decode M.2.1 pc = .ok (.istore_n n, 1)) (hn : (n : Nat) < M.2.2.1) (k : rx_W G M d (pc + 1) (((n : Nat), .int x) :: lv) st mu mc ms Q Z) : rx_W G M d pc lv (.int x :: st) mu mc ms Q Z := by
  intro p e R s m args below meth c H locs cells slots MC MS ls C h1 h2 h3 h4 h5
  exact lv_istore_n C.1 C.2.1 hd rfl (rx_has_en h5) hn rfl (fun ls' h' => k p e R s m args below meth c H locs cells slots MC MS ls' C h1 h2 h3 h4 (rx_has_st1 h5 rfl h'))
theorem rx_lstore {i : Nat} {x : Int64} (hd : decode M.2.1 pc = .ok (.lstore i, 2)) (hn : i + 1 < M.2.2.1) (k : rx_W G M d (pc + 2) ((i, .long x) :: lv) st mu mc ms Q Z) : rx_W G M d pc lv (.long x :: st) mu mc ms Q Z := by
  intro p e R s m args below meth c H locs cells slots MC MS ls C h1 h2 h3 h4 h5
  exact lv_lstore C.1 C.2.1 hd (rx_has_en h5) hn rfl (fun ls' h' => k p e R s m args below meth c H locs cells slots MC MS ls' C h1 h2 h3 h4 (rx_has_st2 h5 rfl h'))
theorem rx_lstore_n {n : Fin 4} {x : Int64} (hd : decode M.2.1 pc = .ok (.lstore_n n, 1)) (hn : (n : Nat) + 1 < M.2.2.1) (k : rx_W G M d (pc + 1) (((n : Nat), .long x) :: lv) st mu mc ms Q Z) : rx_W G M d pc lv (.long x :: st) mu mc ms Q Z := by
  intro p e R s m args below meth c H locs cells slots MC MS ls C h1 h2 h3 h4 h5
  exact lv_lstore_n C.1 C.2.1 hd rfl (rx_has_en h5) hn rfl (fun ls' h' => k p e R s m args below meth c H locs cells slots MC MS ls' C h1 h2 h3 h4 (rx_has_st2 h5 rfl h'))
theorem rx_astore {i : Nat} {v : Value} (hd : decode M.2.1 pc = .ok (.astore i, 2)) (hn : i < M.2.2.1) (hr : rx_isR v = true) (k : rx_W G M d (pc + 2) ((i, v) :: lv) st mu mc ms Q Z) : rx_W G M d pc lv (v :: st) mu mc ms Q Z := by
  intro p e R s m args below meth c H locs cells slots MC MS ls C h1 h2 h3 h4 h5
  obtain ⟨x, ex⟩ := rx_isR_of (G := G) hr
  have hc : v.category = 1 := by rw [← rx_cat G v, ex]; rfl
  show W p G.1 e R s m args below meth c H locs cells slots _ (F0 m pc ls (rx_tr G v :: rx_trs G st))
  rw [ex]
  exact lv_astore C.1 C.2.1 hd (rx_has_en h5) hn rfl (fun ls' h' => k p e R s m args below meth c H locs cells slots MC MS ls' C h1 h2 h3 h4 (rx_has_st1 h5 hc (by rw [ex]; exact h')))
theorem rx_astore_n {n : Fin 4} {v : Value} (hd : decode M.2.1 pc = .ok (.astore_n n, 1)) (hn : (n : Nat) < M.2.2.1) (hr : rx_isR v = true) (k : rx_W G M d (pc + 1) (((n : Nat), v) :: lv) st mu mc ms Q Z) : rx_W G M d pc lv (v :: st) mu mc ms Q Z := by
  intro p e R s m args below meth c H locs cells slots MC MS ls C h1 h2 h3 h4 h5
  obtain ⟨x, ex⟩ := rx_isR_of (G := G) hr
  have hc : v.category = 1 := by rw [← rx_cat G v, ex]; rfl
  show W p G.1 e R s m args below meth c H locs cells slots _ (F0 m pc ls (rx_tr G v :: rx_trs G st))
  rw [ex]
  exact lv_astore_n C.1 C.2.1 hd rfl (rx_has_en h5) hn rfl (fun ls' h' => k p e R s m args below meth c H locs cells slots MC MS ls' C h1 h2 h3 h4 (rx_has_st1 h5 hc (by rw [ex]; exact h')))
theorem rx_iinc {i : Nat} {n : Int} {x v : Int32} (hd : decode M.2.1 pc = .ok (.iinc i n, 3)) (hl : rx_lk lv i = some (.int x)) (hv : x + Int32.ofInt n = v) (k : rx_W G M d (pc + 3) ((i, .int v) :: lv) st mu mc ms Q Z) : rx_W G M d pc lv st mu mc ms Q Z := by
  intro p e R s m args below meth c H locs cells slots MC MS ls C h1 h2 h3 h4 h5
  have hg := h5.2.2 i _ hl
  have hi : i < M.2.2.1 := by rw [← h5.1]; exact lv_lt hg
  obtain ⟨k0, hk0⟩ := List.getElem?_of_mem (rx_en_mem h5 hl)
  exact lv_iinc C.1 C.2.1 hd (rx_has_en h5) (k := k0) hk0 hv hi rfl (fun ls' h' => k p e R s m args below meth c H locs cells slots MC MS ls' C h1 h2 h3 h4 (rx_has_st1 (x := .int v) h5 rfl h'))
/-- fewer locals -/
def rx_sub : List (Nat × Value) → List (Nat × Value) → Prop
  | [], _ => True
  | q :: l, lv => rx_lk lv q.1 = some q.2 ∧ rx_sub l lv
theorem rx_sub_mem {l lv : List (Nat × Value)} (h : rx_sub l lv) : ∀ q ∈ l, rx_lk lv q.1 = some q.2 := by
  induction l with
  | nil => intro q hq; cases hq
  | cons a l ih =>
    intro q hq
    rcases List.mem_cons.mp hq with rfl | hq
    · exact h.1
    · exact ih h.2 q hq
theorem rx_lv {lv' : List (Nat × Value)} (h : rx_sub lv' lv) (k : rx_W G M d pc lv' st mu mc ms Q Z) : rx_W G M d pc lv st mu mc ms Q Z := by
  intro p e R s m args below meth c H locs cells slots MC MS ls C h1 h2 h3 h4 h5
  exact k p e R s m args below meth c H locs cells slots MC MS ls C h1 h2 h3 h4 ⟨h5.1, h5.2.1, fun i v hv => h5.2.2 i v (rx_sub_mem h _ (rx_lf_mem _ _ hv))⟩
/-- less to come -/
theorem rx_le {mc' ms' : Nat} (h1 : mc' ≤ mc) (h2 : ms' ≤ ms) (k : rx_W G M d pc lv st mu mc' ms' Q Z) : rx_W G M d pc lv st mu mc ms Q Z := by
  intro p e R s m args below meth c H locs cells slots MC MS ls C h3
  exact k p e R s m args below meth c H locs cells slots MC MS ls C ⟨h3.1, h3.2.1, by omega, by omega, h3.2.2.2.2.1, h3.2.2.2.2.2⟩
end RXO

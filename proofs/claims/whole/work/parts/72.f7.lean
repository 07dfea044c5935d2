/-- heights as bits -/
def hbit (h : Nat) : Int64 := (1 : Int64) <<< (lN h &&& 63)
theorem hbit_and : ∀ h, h < 40 → ∀ k, k < 40 → hbit h &&& hbit k = if h = k then hbit h else 0 := by decide +kernel
theorem hbit_ne : ∀ h, h < 40 → hbit h ≠ 0 := by decide +kernel
theorem b_dist (m b c : Int64) : (m ||| b) &&& c = (m &&& c) ||| (b &&& c) := by
  apply Int64.toBitVec_inj.mp
  rw [Int64.toBitVec_and, Int64.toBitVec_or, Int64.toBitVec_or, Int64.toBitVec_and, Int64.toBitVec_and]
  ext i
  simp [Bool.and_or_distrib_right]
theorem b_or0 (m : Int64) : m ||| 0 = m := by
  apply Int64.toBitVec_inj.mp
  rw [Int64.toBitVec_or]
  simp
theorem b_ab (m b : Int64) : (m ||| b) &&& b = b := by
  apply Int64.toBitVec_inj.mp
  rw [Int64.toBitVec_and, Int64.toBitVec_or]
  ext i
  simp
  exact fun h => Or.inr h
theorem b_0and (b : Int64) : (0 : Int64) &&& b = 0 := by
  apply Int64.toBitVec_inj.mp
  rw [Int64.toBitVec_and]
  simp
theorem hbit_or {m : Int64} {h k : Nat} (hh : h < 40) (hk : k < 40) : (m ||| hbit h) &&& hbit k ≠ 0 ↔ (m &&& hbit k ≠ 0 ∨ h = k) := by
  by_cases e : h = k
  · subst e
    rw [b_ab]
    exact ⟨fun _ => Or.inr rfl, fun _ => hbit_ne h hh⟩
  · rw [b_dist, hbit_and h hh k hk, if_neg e, b_or0]
    exact ⟨Or.inl, fun q => q.elim id (fun q => absurd q e)⟩
def w_vote (w : wW) (v b : Nat) : wW := (w.1, w.2.1, (w.2.2.1.1, fun k => if k = b then ((w.2.2.1.2 b).1, (w.2.2.1.2 b).2.1, (w.2.2.1.2 b).2.2.1, (w.2.2.1.2 b).2.2.2.1, (w.2.2.1.2 b).2.2.2.2.1, (w.2.2.1.2 b).2.2.2.2.2 + w.2.2.2.1.1 v) else w.2.2.1.2 k), (w.2.2.2.1.1, fun k => if k = v then w.2.2.2.1.2 v ||| hbit (w.2.2.1.2 b).1.2.1 else w.2.2.2.1.2 k), w.2.2.2.2)
theorem w_voteB {w : wW} {v b : Nat} : (w_vote w v b).2.2.1.2 b = ((w.2.2.1.2 b).1, (w.2.2.1.2 b).2.1, (w.2.2.1.2 b).2.2.1, (w.2.2.1.2 b).2.2.2.1, (w.2.2.1.2 b).2.2.2.2.1, (w.2.2.1.2 b).2.2.2.2.2 + w.2.2.2.1.1 v) := if_pos rfl
theorem w_voteN {w : wW} {v b k : Nat} (h : k ≠ b) : (w_vote w v b).2.2.1.2 k = w.2.2.1.2 k := if_neg h
theorem rk_kind {C : rx_M} {a t n : Nat} (h : rk C a t n) (ha : 102 ≤ a) : C.2.2.2.1 a = (t, n) := by
  have := h.2
  rw [gkX_f ha] at this
  exact this
theorem rk_ne {C : rx_M} {a b t t' n n' : Nat} (h : rk C a t n) (h' : rk C b t' n') (ht : t ≠ t') : a ≠ b := fun q => by
  subst q
  have := h.2.symm.trans h'.2
  exact ht (congrArg Prod.fst this)
theorem rcw_vote {A : wP} {C : rx_M} {w : wW} {v b : Nat} (h : rcw A C w) (hb : b < w.2.2.1.1) : rcw A (rx_u C.1 (A.2.2 b).1 6 (nI ((w.2.2.1.2 b).2.2.2.2.2 + w.2.2.2.1.1 v)), rx_u C.2.1 50 v (w.2.2.2.1.2 v ||| hbit (w.2.2.1.2 b).1.2.1), C.2.2) (w_vote w v b) := by
  obtain ⟨hD, hK, hO, hB, hV, hS, hN⟩ := h
  have hb1 := (hB.2.1 b hb).2
  have hu := hb1.1
  have nE : ∀ a, a ≠ (A.2.2 b).1 → rx_u C.1 (A.2.2 b).1 6 (nI ((w.2.2.1.2 b).2.2.2.2.2 + w.2.2.2.1.1 v)) a = C.1 a := fun a ha => rx_une _ ha
  have nL : ∀ a, a ≠ 50 → rx_u C.2.1 50 v (w.2.2.2.1.2 v ||| hbit (w.2.2.1.2 b).1.2.1) a = C.2.1 a := fun a ha => rx_une _ ha
  refine ⟨⟨(congrFun (nE 1 (by omega)) 2).trans hD.1, fun k hk => (congrFun (nE 2 (by omega)) k).trans (hD.2 k hk)⟩, ⟨fun c hc => ⟨(hK.1 c hc).1, ?_⟩, (congrFun (nE 5 (by omega)) 1).trans hK.2⟩, ⟨(congrFun (nE 0 (by omega)) 3).trans hO.1, fun i hi => ⟨(hO.2 i hi).1, ?_⟩⟩, ⟨(congrFun (nE 0 (by omega)) 5).trans hB.1, fun k hk => ⟨(hB.2.1 k hk).1, ?_⟩, hB.2.2.1, hB.2.2.2.1, (by obtain ⟨od, h1, h2⟩ := hB.2.2.2.2; exact ⟨od, h1, (congrFun (nE 9 (by omega)) 2).trans h2⟩)⟩, fun k hk => ⟨(congrFun (nE 49 (by omega)) k).trans (hV k hk).1, ?_⟩, fun k hk => (congrFun (nL 51 (by decide)) k).trans (hS k hk), ⟨(congrFun (nE 0 (by omega)) 9).trans hN.1, (congrFun (nE 0 (by omega)) 10).trans hN.2.1, (congrFun (nE 0 (by omega)) 11).trans hN.2.2⟩⟩
  · obtain ⟨k1, ⟨k2, k3, k4⟩⟩ := (hK.1 c hc).2
    refine ⟨k1, ⟨k2, k3, fun j hj => ?_⟩⟩
    refine (congrFun (nE _ (fun q => ?_)) j).trans (k4 j hj)
    have h1 := hu.1
    have h2 := rk_kind h1 (by omega)
    rw [← q, k3] at h2
    exact absurd (show 12 = 0 from congrArg Prod.fst h2) (by decide)
  · obtain ⟨o1, o2, o3, o4⟩ := (hO.2 i hi).2
    have hne : A.2.1 i ≠ (A.2.2 b).1 := rk_ne o1 hu.1 (by decide)
    refine ⟨o1, o2, ?_, ?_⟩
    · show rx_u C.1 _ 6 _ (A.2.1 i) 0 = _ ∧ rx_u C.1 _ 6 _ (A.2.1 i) 1 = _ ∧ rx_u C.2.1 50 v _ (A.2.1 i) 2 = _ ∧ rx_u C.2.1 50 v _ (A.2.1 i) 3 = _
      rw [nE _ hne, nL _ (by omega)]; exact o3
    · show rx_u C.1 _ 6 _ (A.2.1 i) 4 = _ ∧ rx_u C.1 _ 6 _ (A.2.1 i) 5 = _ ∧ rx_u C.1 _ 6 _ (A.2.1 i) 6 = _
      rw [nE _ hne]; exact o4
  · have hk' : k < w.2.2.1.1 := hk
    obtain ⟨c1, c2, ⟨⟨c3, c3a, c3b⟩, c4⟩, ⟨⟨c5, c5a, c5b⟩, c6⟩, ⟨⟨c7, c7a, c7b⟩, c8⟩⟩ := (hB.2.1 k hk').2
    by_cases e : k = b
    · subst e
      rw [w_voteB]
      refine ⟨c1, ⟨?_, ?_, c2.2.2.1, c2.2.2.2.1, c2.2.2.2.2.1, ?_, ?_⟩, ⟨⟨c3, c3a, c3b⟩, ?_⟩, ⟨⟨c5, c5a, c5b⟩, ?_⟩, ⟨⟨c7, c7a, c7b⟩, ?_⟩⟩
      · show rx_u C.1 _ 6 _ _ 0 = _
        rw [rx_ru, if_pos rfl, if_neg (by decide)]; exact c2.1
      · show rx_u C.1 _ 6 _ _ 1 = _
        rw [rx_ru, if_pos rfl, if_neg (by decide)]; exact c2.2.1
      · show rx_u C.1 _ 6 _ _ 5 = _
        rw [rx_ru, if_pos rfl, if_neg (by decide)]; exact c2.2.2.2.2.2.1
      · show rx_u C.1 _ 6 _ _ 6 = _
        rw [rx_ru, if_pos rfl, if_pos rfl]
      · show ∀ j, j < 1024 → rx_u C.2.1 50 v _ _ j = _
        rw [nL _ (by omega)]; exact c4
      · show ∀ i, i < _ → rx_u C.2.1 50 v _ _ _ = _ ∧ rx_u C.2.1 50 v _ _ _ = _ ∧ rx_u C.2.1 50 v _ _ _ = _
        rw [nL _ (by omega)]; exact c6
      · show ∀ i, i < _ → rx_u C.2.1 50 v _ _ _ = _ ∧ rx_u C.2.1 50 v _ _ _ = _ ∧ rx_u C.2.1 50 v _ _ _ = _ ∧ rx_u C.2.1 50 v _ _ _ = _
        rw [nL _ (by omega)]; exact c8
    · rw [w_voteN e]
      have hne : (A.2.2 k).1 ≠ (A.2.2 b).1 := fun q => e (hB.2.2.1 k b hk' hb q)
      refine ⟨c1, ?_, ⟨⟨c3, c3a, c3b⟩, ?_⟩, ⟨⟨c5, c5a, c5b⟩, ?_⟩, ⟨⟨c7, c7a, c7b⟩, ?_⟩⟩
      · show rx_u C.1 _ 6 _ (A.2.2 k).1 0 = _ ∧ rx_u C.1 _ 6 _ (A.2.2 k).1 1 = _ ∧ _ ∧ _ ∧ _ ∧ rx_u C.1 _ 6 _ (A.2.2 k).1 5 = _ ∧ rx_u C.1 _ 6 _ (A.2.2 k).1 6 = _
        rw [nE _ hne]; exact c2
      · show ∀ j, j < 1024 → rx_u C.2.1 50 v _ _ j = _
        rw [nL _ (by omega)]; exact c4
      · show ∀ i, i < _ → rx_u C.2.1 50 v _ _ _ = _ ∧ rx_u C.2.1 50 v _ _ _ = _ ∧ rx_u C.2.1 50 v _ _ _ = _
        rw [nL _ (by omega)]; exact c6
      · show ∀ i, i < _ → rx_u C.2.1 50 v _ _ _ = _ ∧ rx_u C.2.1 50 v _ _ _ = _ ∧ rx_u C.2.1 50 v _ _ _ = _ ∧ rx_u C.2.1 50 v _ _ _ = _
        rw [nL _ (by omega)]; exact c8
  · show rx_u C.2.1 50 v _ 50 k = if k = v then _ else _
    rw [rx_ru, if_pos rfl]
    split
    · rfl
    · exact (hV k hk).2
theorem vW_vote {w : wW} {n v b : Nat} (h : vW w n) (hv : v < 7) : vW (w_vote w v b) (n + 1) := by
  obtain ⟨v1, v2, v3, ⟨v4, v5, v6⟩, v7⟩ := vW_up h (Nat.le_succ n)
  obtain ⟨_, _, _, ⟨_, u5, _⟩, _⟩ := h
  refine ⟨v1, v2, v3, ⟨v4, fun k hk => ?_, fun q => ?_⟩, v7⟩
  · have hk' : k < w.2.2.1.1 := hk
    by_cases e : k = b
    · subst e
      rw [w_voteB]
      obtain ⟨⟨c1, c2, c3, c4, c5⟩, c6⟩ := v5 k hk'
      refine ⟨⟨c1, c2, c3, c4, ?_⟩, c6⟩
      have := (u5 k hk').1.2.2.2.2
      have := v7 v hv
      show (w.2.2.1.2 k).2.2.2.2.2 + w.2.2.2.1.1 v ≤ 1000 * (n + 1)
      omega
    · rw [w_voteN e]; exact v5 k hk'
  · by_cases e : 0 = b
    · subst e; rw [w_voteB]; exact v6 q
    · rw [w_voteN e]; exact v6 q
/-- the model's certainty stays -/
theorem w_certV {w : wW} {v b : Nat} {ce : Bool} (hce : ce = w_cert w.2.2.2.1.1 (w_vote w v b).2.2.1.2 b) (hb : b ≠ 0) : ce = decide (2 * w_all w.2.2.2.1.1 < 3 * ((w.2.2.1.2 b).2.2.2.2.2 + w.2.2.2.1.1 v)) := by
  rw [hce]
  unfold w_cert
  rw [w_voteB]
  exact decide_eq_decide.mpr ⟨fun q => q.resolve_left hb, Or.inr⟩
theorem rmw_vote {S : gs_T} {w : wW} {v b : Nat} {x : Int32} (h : rmw S w) (hv : v < 7) (hb : b < w.2.2.1.1) (hh : ∀ k, k < w.2.2.1.1 → (w.2.2.1.2 k).1.2.1 < 40) : rmw (rx_u (rx_u (rx_u (rx_u S.1 52 0 x) 80 (40 * v + (w.2.2.1.2 b).1.2.1) (nI 1)) 69 b (nI ((w.2.2.1.2 b).2.2.2.2.2 + w.2.2.2.1.1 v))) 70 b (bI (w_cert w.2.2.2.1.1 (w_vote w v b).2.2.1.2 b)), S.2) (w_vote w v b) := by
  have hg : rm_agE (fun a => a = 80 ∨ a = 69 ∨ a = 70) (fun _ => False) S (rx_u (rx_u (rx_u (rx_u S.1 52 0 x) 80 (40 * v + (w.2.2.1.2 b).1.2.1) (nI 1)) 69 b (nI ((w.2.2.1.2 b).2.2.2.2.2 + w.2.2.2.1.1 v))) 70 b (bI (w_cert w.2.2.2.1.1 (w_vote w v b).2.2.1.2 b)), S.2) := by
    refine ⟨fun a hE h1 h2 h3 => ⟨?_, rfl⟩, fun k _ hk => ?_⟩
    · have hE : ¬ (a = 80 ∨ a = 69 ∨ a = 70) := hE
      show rx_u (rx_u (rx_u (rx_u S.1 52 0 x) 80 _ _) 69 b _) 70 b _ a = _
      rw [rx_une _ (by omega), rx_une _ (by omega), rx_une _ (by omega), rx_une _ (by omega)]
    · simp [rx_ru]
      intro q
      omega
  have e : ∀ a, ¬ (a = 80 ∨ a = 69 ∨ a = 70) → 53 ≤ a → a < 82 → a ≠ 56 → (rx_u (rx_u (rx_u (rx_u S.1 52 0 x) 80 (40 * v + (w.2.2.1.2 b).1.2.1) (nI 1)) 69 b (nI ((w.2.2.1.2 b).2.2.2.2.2 + w.2.2.2.1.1 v))) 70 b (bI (w_cert w.2.2.2.1.1 (w_vote w v b).2.2.1.2 b))) a = S.1 a := fun a h1 h2 h3 h4 => (hg.1 a h1 h2 h3 h4).1
  refine ⟨mD_agE h.1 hg (by decide) (noF 5), mK_agE h.2.1 hg (by decide) (by decide) (noF 3), mO_agE h.2.2.1 hg (fun a _ _ => by show ¬ (a = 80 ∨ a = 69 ∨ a = 70); omega) (noF 7), ⟨(hg.2 15 (noF 15) (by omega)).trans h.2.2.2.1.1, fun k hk => ?_⟩, fun k hk => ⟨?_, fun j hj => ?_⟩, mS_agE h.2.2.2.2.2.1 hg (by decide), mN_agE h.2.2.2.2.2.2 hg (fun k _ _ => noF k)⟩
  · have hk' : k < w.2.2.1.1 := hk
    obtain ⟨⟨⟨c1, c2, c3, c4, c5, c6⟩, d2, d3, d4⟩, d5⟩ := h.2.2.2.1.2 k hk'
    by_cases q : k = b
    · subst q
      rw [w_voteB]
      refine ⟨⟨⟨?_, ?_, ?_, ?_, ?_, ?_⟩, d2, ?_, ?_⟩, ?_⟩
      · exact (congrFun (e 64 (by decide) (by decide) (by decide) (by decide)) k).trans c1
      · exact (congrFun (e 65 (by decide) (by decide) (by decide) (by decide)) k).trans c2
      · exact (congrFun (e 66 (by decide) (by decide) (by decide) (by decide)) k).trans c3
      · exact (congrFun (e 67 (by decide) (by decide) (by decide) (by decide)) k).trans c4
      · exact (congrFun (e 68 (by decide) (by decide) (by decide) (by decide)) k).trans c5
      · simp [rx_ru]
      · intro i hi
        have := d3 i hi
        refine ⟨(congrFun (e 72 (by decide) (by decide) (by decide) (by decide)) _).trans this.1, (congrFun (e 73 (by decide) (by decide) (by decide) (by decide)) _).trans this.2.1, this.2.2⟩
      · intro i hi
        have := d4 i hi
        refine ⟨(congrFun (e 75 (by decide) (by decide) (by decide) (by decide)) _).trans this.1, this.2.1, this.2.2.1, (congrFun (e 78 (by decide) (by decide) (by decide) (by decide)) _).trans this.2.2.2⟩
      · show rx_u (rx_u (rx_u (rx_u S.1 52 0 x) 80 _ _) 69 k _) 70 k _ 70 k = _
        rw [rx_ru, if_pos rfl, if_pos rfl]; rfl
    · rw [w_voteN q]
      refine ⟨⟨⟨?_, ?_, ?_, ?_, ?_, ?_⟩, d2, ?_, ?_⟩, ?_⟩
      · exact (congrFun (e 64 (by decide) (by decide) (by decide) (by decide)) k).trans c1
      · exact (congrFun (e 65 (by decide) (by decide) (by decide) (by decide)) k).trans c2
      · exact (congrFun (e 66 (by decide) (by decide) (by decide) (by decide)) k).trans c3
      · exact (congrFun (e 67 (by decide) (by decide) (by decide) (by decide)) k).trans c4
      · exact (congrFun (e 68 (by decide) (by decide) (by decide) (by decide)) k).trans c5
      · simpa [rx_ru, q] using c6
      · intro i hi
        have := d3 i hi
        refine ⟨(congrFun (e 72 (by decide) (by decide) (by decide) (by decide)) _).trans this.1, (congrFun (e 73 (by decide) (by decide) (by decide) (by decide)) _).trans this.2.1, this.2.2⟩
      · intro i hi
        have := d4 i hi
        refine ⟨(congrFun (e 75 (by decide) (by decide) (by decide) (by decide)) _).trans this.1, this.2.1, this.2.2.1, (congrFun (e 78 (by decide) (by decide) (by decide) (by decide)) _).trans this.2.2.2⟩
      · show rx_u (rx_u (rx_u (rx_u S.1 52 0 x) 80 _ _) 69 b _) 70 b _ 70 k = bI (w_cert w.2.2.2.1.1 (w_vote w v b).2.2.1.2 k)
        rw [rx_ru, if_pos rfl, if_neg q, rx_une _ (by decide), rx_une _ (by decide), rx_une _ (by decide)]
        refine d5.trans (congrArg bI ?_)
        unfold w_cert
        rw [w_voteN q]
  · exact (congrFun (e 79 (by decide) (by decide) (by decide) (by decide)) k).trans (h.2.2.2.2.1 k hk).1
  · have hbt := (h.2.2.2.2.1 k hk).2 j hj
    have hhb := hh b hb
    have e80 : (rx_u (rx_u (rx_u (rx_u S.1 52 0 x) 80 (40 * v + (w.2.2.1.2 b).1.2.1) (nI 1)) 69 b (nI ((w.2.2.1.2 b).2.2.2.2.2 + w.2.2.2.1.1 v))) 70 b (bI (w_cert w.2.2.2.1.1 (w_vote w v b).2.2.1.2 b))) 80 (40 * k + j) = if 40 * k + j = 40 * v + (w.2.2.1.2 b).1.2.1 then nI 1 else S.1 80 (40 * k + j) := by simp [rx_ru]
    refine e80.trans ?_
    show _ = bI (decide (((if k = v then w.2.2.2.1.2 v ||| hbit (w.2.2.1.2 b).1.2.1 else w.2.2.2.1.2 k) &&& hbit j) ≠ 0))
    by_cases q : k = v
    · subst q
      rw [if_pos rfl]
      by_cases r : j = (w.2.2.1.2 b).1.2.1
      · rw [if_pos (by omega), decide_eq_true ((hbit_or hhb hj).mpr (Or.inr r.symm))]; rfl
      · rw [if_neg (by omega), hbt]
        exact congrArg bI (decide_eq_decide.mpr ⟨fun s => (hbit_or hhb hj).mpr (Or.inl s), fun s => ((hbit_or hhb hj).mp s).resolve_right (fun t => r t.symm)⟩)
    · rw [if_neg q, if_neg (by omega), hbt]; rfl

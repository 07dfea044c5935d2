def iC : rx_M := (iI_21, (fun _ _ => 0), iR_99, (fun _ => (20, 0)), 0)
def iS : gs_T := (iI_21, fun _ _ => 0)
theorem iR_ok : ∀ a, a < 102 → ∀ k, k < 66 → ((gk_R a k).elim true (fun r => iR_99 a k == some r)) = true := by decide +kernel
theorem gk_len : ∀ l ∈ gk_Rl, l.length ≤ 66 := by decide +kernel
theorem gk_k66 {a k : Nat} (h : 66 ≤ k) : gk_R a k = none := by
  unfold gk_R
  have h2 : (gk_Rl.getD a []).length ≤ 66 := by
    by_cases ha : a < gk_Rl.length
    · have : gk_Rl.getD a [] = gk_Rl[a] := by simp [List.getD, ha]
      rw [this]; exact gk_len _ (List.getElem_mem ha)
    · have : gk_Rl.getD a [] = [] := by simp [List.getD, List.getElem?_eq_none (by omega : gk_Rl.length ≤ a)]
      rw [this]; decide
  generalize gk_Rl.getD a [] = l at h2 ⊢
  have h3 : l[k]? = none := List.getElem?_eq_none (by omega)
  simp [List.getD, h3]
theorem md_gl : md 102 iI_21 iR_99 = gl iC iS := by
  refine Prod.ext (funext fun a => ?_) (Prod.ext (funext fun a => ?_) (Prod.ext (funext fun a => funext fun k => ?_) (Prod.ext rfl rfl)))
  · show iI_21 a = (bif gk_m a then iI_21 a else iI_21 a)
    cases gk_m a <;> rfl
  · show (fun _ => 0) = (bif gk_m a then (fun _ => 0) else (fun _ => 0))
    cases gk_m a <;> rfl
  · show iR_99 a k = (gk_R a k).elim (iR_99 a k) some
    cases h : gk_R a k with
    | none => rfl
    | some r =>
      show iR_99 a k = some r
      by_cases ha : a < 102
      · by_cases hk : k < 66
        · have := iR_ok a ha k hk
          rw [h] at this
          exact eq_of_beq this
        · rw [gk_k66 (by omega)] at h; exact absurd h (by simp)
      · rw [gkX_R (by omega)] at h; exact absurd h (by simp)
theorem md_mu0 : rx_mu0 = md 0 iI_0 iR_0 := by
  refine Prod.ext rfl (Prod.ext rfl (Prod.ext rfl (Prod.ext (funext fun a => ?_) rfl)))
  rfl
set_option maxRecDepth 20000 in
theorem law_begin {G : rx_E} {tab : List ExceptionTableEntry} {Q : Option Value → rx_M → Prop} {Z : String → rx_M → Prop} (hG : rx_OK G) (kk : rx_W G (yL_law, cL_law, 8, some .boolean, tab) 2000 23 [(4, .int (nI 0)), (3, .ref 101), (2, .ref 52), (1, .ref 0), (0, .float 0)] [] (gl iC iS) 600922 7225104 Q Z) : rx_W G (yL_law, cL_law, 8, some .boolean, tab) 2000 0 [(0, .float 0)] [] rx_mu0 601024 7293034 Q Z := by
  rw [md_mu0]
  refine rx_Wm (mc := 601023 + 1) (ms := 7293022 + 12) ?_ (by decide) (by decide)
  refine mi_new hG hc_10 ⟨hw_800, hw_801, hw_94⟩ (by decide +kernel) dL_law_0 (zI_le zI_0 (by decide)) (zR_le zR_0 (by decide)) rfl ?_
  refine rx_dup dL_law_3 rfl ?_
  refine rx_Wm (mc := 51 + 600972) (ms := 13453 + 7279569) ?_ (by decide) (by decide)
  refine rx_invI (mc := 600972) (ms := 7279569) (mc' := 51) (ms' := 13453) (as := []) (Q' := fun v mu => v = none ∧ mu = (md 52 iI_11 iR_51)) hG okX10_init lk_RL_78 dL_law_4 rfl (Nat.le_of_ble_eq_true rfl) ?_ ?_
  · exact ci_ledger (d := 1993) hG
  rintro _ _ ⟨rfl, rfl⟩
  refine rx_astore_n dL_law_7 (Nat.le_of_ble_eq_true rfl) rfl ?_
  refine rx_Wm (mc := 600971 + 1) (ms := 7279504 + 65) ?_ (by decide) (by decide)
  refine mi_new hG hc_11 ⟨hw_883, hw_884, hw_124⟩ (by decide +kernel) dL_law_8 (zI_le zI_11 (by decide)) (zR_le zR_51 (by decide)) rfl ?_
  refine rx_dup dL_law_11 rfl ?_
  refine rx_Wm (mc := 48 + 600923) (ms := 54399 + 7225105) ?_ (by decide) (by decide)
  refine rx_invI (mc := 600923) (ms := 7225105) (mc' := 48) (ms' := 54399) (as := []) (Q' := fun v mu => v = none ∧ mu = (md 101 iI_21 iR_99)) hG okX11_init lk_RL_81 dL_law_12 rfl (Nat.le_of_ble_eq_true rfl) ?_ ?_
  · exact ci_model (d := 1993) hG
  rintro _ _ ⟨rfl, rfl⟩
  refine rx_astore_n dL_law_15 (Nat.le_of_ble_eq_true rfl) rfl ?_
  refine rx_iconst (v := nI 1) dL_law_16 rfl ?_
  refine rx_Wm (mc := 600922 + 1) (ms := 7225104 + 1) ?_ (by decide) (by decide)
  refine mi_newa (t := 14) hG (Or.inr (Or.inr (Or.inl ⟨rfl, rfl⟩))) hw_814 dL_law_17 rfl (by decide) (zI_le zI_21 (by decide)) (zR_le zR_99 (by decide)) rfl ?_
  refine rx_astore_n dL_law_19 (Nat.le_of_ble_eq_true rfl) rfl ?_
  refine rx_iconst (v := nI 0) dL_law_20 rfl ?_
  refine rx_istore dL_law_21 (Nat.le_of_ble_eq_true rfl) ?_
  refine rx_lv (lv' := [(4, .int (nI 0)), (3, .ref 101), (2, .ref 52), (1, .ref 0), (0, .float 0)]) ⟨rfl, rfl, rfl, rfl, rfl, trivial⟩ ?_
  refine rx_me md_gl ?_
  exact kk
def iB : wB := ((-1, 0, 0, 0), (fun _ => 0), (fun _ => (0, 0, 0)), (fun _ => (0, 0, 0, 0)), (nI 0, 0))
def iW : wW := (([], (fun _ => []), 0), (0, (fun _ => ((0, 0, 0, 0), (0, 0, 0)))), (1, (fun _ => iB)), ((fun _ => 1), (fun _ => 0)), (fun _ => 0), (0, 0, 0))
def iA : wP := ((fun _ => (0, 0)), (fun _ => 0), (fun _ => (45, 46, 47, 48)))
theorem iV : vW iW 0 := by
  refine ⟨⟨Nat.zero_le _, fun k hk => absurd hk (Nat.not_lt_zero _)⟩, ⟨Nat.zero_le _, fun c hc => absurd hc (Nat.not_lt_zero _)⟩, ⟨Nat.zero_le _, fun c hc => absurd hc (Nat.not_lt_zero _)⟩, ⟨⟨Nat.le_refl _, by show 1 ≤ 40; omega⟩, fun b hb => ?_, fun _ => rfl⟩, fun v _ => by show 1 ≤ 1000; omega⟩
  have hb : b < 1 := hb
  exact ⟨⟨Nat.zero_le _, Nat.zero_le _, Nat.zero_le _, trivial, Nat.zero_le _⟩, fun a _ => ⟨0, Nat.le_refl _, rfl⟩, fun h => by omega, fun i hi => absurd hi (Nat.not_lt_zero _), fun i hi => absurd hi (Nat.not_lt_zero _)⟩
theorem lf_zero {k : Nat} : lf (fun _ => 0) k = 0 := by unfold lf; (repeat' split) <;> rfl
theorem gk_none : ∀ k, gk_R 45 k = none ∧ gk_R 46 k = none ∧ gk_R 47 k = none ∧ gk_R 48 k = none := fun k => ⟨rfl, rfl, rfl, rfl⟩
theorem iRc : rcw iA iC iW := by
  refine ⟨⟨by decide +kernel, fun k hk => absurd hk (Nat.not_lt_zero _)⟩, ⟨fun c hc => absurd hc (Nat.not_lt_zero _), by decide +kernel⟩, ⟨by decide +kernel, fun c hc => absurd hc (Nat.not_lt_zero _)⟩, ⟨by decide +kernel, fun b hb => ?_, fun b b' hb hb' _ => ?_, rfl, ⟨0, by decide, by decide +kernel⟩⟩, fun v hv => ⟨?_, rfl⟩, fun k _ => rfl, ⟨by decide +kernel, by decide +kernel, by decide +kernel⟩⟩
  · have hb : b < 1 := hb
    have hb0 : b = 0 := by omega
    subst hb0
    refine ⟨by decide +kernel, ⟨⟨⟨by decide, by decide, fun k => (gk_none k).1⟩, by decide +kernel⟩, by decide, by decide⟩, ⟨by decide +kernel, by decide +kernel, by decide +kernel, by decide +kernel, by decide +kernel, by decide +kernel, by decide +kernel⟩, ⟨⟨⟨⟨by decide, by decide, fun k => (gk_none k).2.1⟩, by decide +kernel⟩, by decide, by decide⟩, fun k _ => lf_zero.symm⟩, ⟨⟨⟨⟨by decide, by decide, fun k => (gk_none k).2.2.1⟩, by decide +kernel⟩, by decide, by decide⟩, fun i hi => absurd hi (Nat.not_lt_zero _)⟩, ⟨⟨⟨⟨by decide, by decide, fun k => (gk_none k).2.2.2⟩, by decide +kernel⟩, by decide, by decide⟩, fun i hi => absurd hi (Nat.not_lt_zero _)⟩⟩
  · have hb : b < 1 := hb
    have hb' : b' < 1 := hb'
    omega
  · have : ∀ v, v < 7 → iI_21 49 v = nI 1 := by decide +kernel
    exact this v hv
theorem iRm : rmw iS iW := by
  refine ⟨⟨by decide +kernel, fun k hk => absurd hk (Nat.not_lt_zero _)⟩, ⟨fun c hc => absurd hc (Nat.not_lt_zero _), by decide +kernel⟩, ⟨by decide +kernel, fun c hc => absurd hc (Nat.not_lt_zero _)⟩, ⟨by decide +kernel, fun b hb => ?_⟩, fun v hv => ⟨?_, fun h hh => ?_⟩, fun k _ => rfl, ⟨by decide +kernel, by decide +kernel, by decide +kernel⟩⟩
  · have hb : b < 1 := hb
    have hb0 : b = 0 := by omega
    subst hb0
    exact ⟨⟨⟨by decide +kernel, by decide +kernel, by decide +kernel, by decide +kernel, by decide +kernel, by decide +kernel⟩, fun k _ => rfl, fun i hi => absurd hi (Nat.not_lt_zero _), fun i hi => absurd hi (Nat.not_lt_zero _)⟩, by decide +kernel⟩
  · have : ∀ v, v < 7 → iI_21 79 v = nI 1 := by decide +kernel
    exact this v hv
  · have e : iI_21 80 (40 * v + h) = 0 := by
      have : ∀ k, k < 280 → iI_21 80 k = 0 := by decide +kernel
      exact this _ (by omega)
    show iI_21 80 (40 * v + h) = bI (w_bit (fun _ => 0) v h)
    rw [e]
    unfold w_bit
    rw [Int64.zero_and]
    rfl

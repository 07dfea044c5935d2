theorem nI_n1 {p : Nat} (h : p < 2 ^ 31) : nI p ≠ -1 := fun q => nI_pos h (by rw [q]; decide)
theorem cf_first {G : rx_E} {d : Nat} {C : rx_M} {S : gs_T} (hG : rx_OK G) {ds : List Nat} (hD : cD C ds) (hl : ds.length ≤ 200) (hb : ∀ k, k < ds.length → ds.getD k 0 < 256) : rx_C G MX4_firstActThatIsNone (d + 2) [.ref 1] (gl C S) 0 0 (fun v mu => ∃ R, mu = gl (rx_k1 C.1 3 R, C.2) S ∧ ((∃ p, jf ds ds.length 0 = some p ∧ v = some (.int (nI p))) ∨ (jf ds ds.length 0 = none ∧ ds.length = 0 ∧ v = some (.int (nI 0))) ∨ (jf ds ds.length 0 = none ∧ ds.length ≠ 0 ∧ v = some (.int (-1)) ∧ ∀ j, j < ds.length → R j = bI (jB ds j)))) := by
  refine rx_meth0 (by decide +kernel) rfl (Nat.le_of_ble_eq_true rfl) ?_
  refine rx_iconst (v := nI 0) dX4_firstActThatIsNone_0 rfl ?_
  refine rx_istore_n dX4_firstActThatIsNone_1 (by decide) ?_
  refine rx_lv (lv' := [(1, .int (nI 0)), (0, .ref 1)]) ⟨rfl, rfl, trivial⟩ ?_
  refine rx_me (mu' := gl (rx_k1 C.1 3 (C.1 3), C.2) S) (by rw [k1_id]) ?_
  refine lc_jz hG hD.1 hl (fun R hR => ?_) ds.length 0 (C.1 3) (by omega) (fun j hj => absurd hj (Nat.not_lt_zero _))
  refine rx_iconst (v := nI 0) dX4_firstActThatIsNone_23 rfl ?_
  refine rx_istore_n dX4_firstActThatIsNone_24 (by decide) ?_
  refine rx_lv (lv' := [(1, .int (nI 0)), (0, .ref 1)]) ⟨rfl, rfl, trivial⟩ ?_
  refine lc_jf (J := jf ds ds.length 0) (Bf := jB ds) hG hD.1 hl (fun k hk => ⟨hb k hk, hD.2 k hk⟩) (fun p R hJ => ⟨R, rfl, Or.inl ⟨p, hJ, rfl⟩⟩) (fun k R hJ hR => ?_) ds.length 0 (fun _ => false) R (Nat.zero_le _) (by omega) rfl (fun j => Bool.false_or _) (fun j hj => (hR j hj).trans rfl)
  have hcR : (rx_k1 C.1 3 R, C.2).1 1 2 = nI ds.length := by show rx_k1 C.1 3 R 1 2 = _; rw [k1_ne _ (by decide)]; exact hD.1
  refine rx_aload_n dX4_firstActThatIsNone_82 rfl rfl ?_
  refine gcv_getI (v := nI ds.length) hG hf_RX4_19 rfl dX4_firstActThatIsNone_83 rfl rfl rfl hcR ?_
  by_cases h0 : ds.length = 0
  · refine rx_if_ne (tgt := 93) dX4_firstActThatIsNone_86 (by decide) (fun q => absurd (by rw [h0]; exact nI_0) q) (fun _ => ?_)
    refine rx_iconst (v := nI 0) dX4_firstActThatIsNone_89 rfl ?_
    refine rx_goto (tgt := 94) dX4_firstActThatIsNone_90 (by decide) ?_
    exact rx_iret rfl dX4_firstActThatIsNone_94 ⟨R, rfl, Or.inr (Or.inl ⟨hJ, h0, rfl⟩)⟩
  · refine rx_if_ne (tgt := 93) dX4_firstActThatIsNone_86 (by decide) (fun _ => ?_) (fun q => absurd q (by rw [← nI_0, nI_eq (by omega) (by omega)]; exact h0))
    refine rx_iconst (v := -1) dX4_firstActThatIsNone_93 rfl ?_
    exact rx_iret rfl dX4_firstActThatIsNone_94 ⟨R, rfl, Or.inr (Or.inr ⟨hJ, h0, rfl, hR⟩)⟩
theorem cf_isBegun {G : rx_E} {d : Nat} {C : rx_M} {S : gs_T} (hG : rx_OK G) {n t : Nat} {B : Nat → Bool} {z : Bool} (hcn : C.1 1 2 = nI n) (hl : n ≤ 200) (hR : ∀ j, j < n → C.1 3 j = bI (B j)) (ht : t < 256) (hz : z = true ↔ (t < n ∧ B t = true)) : rx_C G MX4_isBegun d [.ref 1, .int (nI t)] (gl C S) 0 0 (fun v mu => v = some (.int (bI z)) ∧ mu = gl C S) := by
  refine rx_meth0 (by decide +kernel) rfl (Nat.le_of_ble_eq_true rfl) ?_
  refine rx_iload_n dX4_isBegun_0 rfl ?_
  refine rx_aload_n dX4_isBegun_1 rfl rfl ?_
  refine gcv_getI (v := nI n) hG hf_RX4_19 rfl dX4_isBegun_2 rfl rfl rfl hcn ?_
  by_cases h : t < n
  · refine rx_icmp_ge (tgt := 21) dX4_isBegun_5 (by decide) (fun q => absurd q (by rw [nI_leI (by omega) (by omega)]; omega)) (fun _ => ?_)
    refine rx_aload_n dX4_isBegun_8 rfl rfl ?_
    refine g_getR hG hf_RX4_15 rfl dX4_isBegun_9 rfl rfl rfl ?_
    refine rx_iload_n dX4_isBegun_12 rfl ?_
    refine gcv_zald (j := t) (v := bI (B t)) hG dX4_isBegun_13 rfl rfl rfl rfl (by omega) (by decide) (hR t h) ?_
    cases hb : B t with
    | true =>
      have hz1 : z = true := hz.mpr ⟨h, hb⟩
      subst hz1
      refine rx_if_eq (tgt := 21) dX4_isBegun_14 (by decide) (fun q => absurd q (by decide)) (fun _ => ?_)
      refine rx_iconst (v := nI 1) dX4_isBegun_17 rfl ?_
      refine rx_goto (tgt := 22) dX4_isBegun_18 (by decide) ?_
      exact rx_zret rfl rfl dX4_isBegun_22 ⟨rfl, rfl⟩
    | false =>
      have hz1 : z = false := Bool.eq_false_iff.mpr (fun q => absurd (hz.mp q).2 (by rw [hb]; decide))
      subst hz1
      refine rx_if_eq (tgt := 21) dX4_isBegun_14 (by decide) (fun _ => ?_) (fun q => absurd (by decide) q)
      refine rx_iconst (v := nI 0) dX4_isBegun_21 rfl ?_
      exact rx_zret rfl rfl dX4_isBegun_22 ⟨rfl, rfl⟩
  · have hz1 : z = false := Bool.eq_false_iff.mpr (fun q => h (hz.mp q).1)
    subst hz1
    refine rx_icmp_ge (tgt := 21) dX4_isBegun_5 (by decide) (fun _ => ?_) (fun q => absurd (by rw [nI_leI (by omega) (by omega)]; omega) q)
    refine rx_iconst (v := nI 0) dX4_isBegun_21 rfl ?_
    exact rx_zret rfl rfl dX4_isBegun_22 ⟨rfl, rfl⟩
theorem lc_jl {G : rx_E} {d mc ms : Nat} {C : rx_M} {S : gs_T} {ds : List Nat} {Q : Option Value → rx_M → Prop} {Z : String → rx_M → Prop} (hG : rx_OK G) (hcn : C.1 1 2 = nI ds.length) (hl : ds.length ≤ 200) (hoc : ∀ k, k < ds.length → ds.getD k 0 < 256 ∧ C.1 2 k = (nI (ds.getD k 0)).toInt8.toInt32) {B : Nat → Bool} (hR : ∀ j, j < ds.length → C.1 3 j = bI (B j)) (hok : ∀ j, B j = true → j + vm_size (ds.getD j 0) ≤ ds.length) {J : Option Nat} (kk1 : ∀ p, J = some p → Q (some (.int (nI p))) (gl C S)) (kk2 : J = none → Q (some (.int (-1))) (gl C S)) : ∀ (m i : Nat), i + m + 1 = ds.length → jl ds B (m + 1) i = J → rx_W G MX4_firstLostJump (d + 1) 2 [(1, .int (nI i)), (0, .ref 1)] [] (gl C S) mc ms Q Z := by
  intro m
  induction m with
  | zero =>
    intro i hi hJ
    refine rx_iload_n dX4_firstLostJump_2 rfl ?_
    refine rx_aload_n dX4_firstLostJump_3 rfl rfl ?_
    refine gcv_getI (v := nI ds.length) hG hf_RX4_19 rfl dX4_firstLostJump_4 rfl rfl rfl hcn ?_
    refine rx_iconst (v := nI 1) dX4_firstLostJump_7 rfl ?_
    refine rx_isub dX4_firstLostJump_8 ?_
    refine rx_ti (y := nI (ds.length - 1)) (pk_sub (by omega)) ?_
    refine rx_icmp_ge (tgt := 80) dX4_firstLostJump_9 (by decide) (fun _ => ?_) (fun q => absurd (by rw [nI_leI (by omega) (by omega)]; omega) q)
    refine rx_iconst (v := -1) dX4_firstLostJump_80 rfl ?_
    refine rx_iret rfl dX4_firstLostJump_81 (kk2 ?_)
    rw [← hJ, jl, if_neg (fun q => ?_)]
    · rfl
    · have h1 := hok i q.1
      have h2 : vm_size (ds.getD i 0) = 2 := by rcases q.2.1 with e | e <;> rw [e] <;> rfl
      omega
  | succ m ih =>
    intro i hi hJ
    refine rx_iload_n dX4_firstLostJump_2 rfl ?_
    refine rx_aload_n dX4_firstLostJump_3 rfl rfl ?_
    refine gcv_getI (v := nI ds.length) hG hf_RX4_19 rfl dX4_firstLostJump_4 rfl rfl rfl hcn ?_
    refine rx_iconst (v := nI 1) dX4_firstLostJump_7 rfl ?_
    refine rx_isub dX4_firstLostJump_8 ?_
    refine rx_ti (y := nI (ds.length - 1)) (pk_sub (by omega)) ?_
    refine rx_icmp_ge (tgt := 80) dX4_firstLostJump_9 (by decide) (fun q => absurd q (by rw [nI_leI (by omega) (by omega)]; omega)) (fun _ => ?_)
    obtain ⟨ho1, ho2⟩ := hoc i (by omega)
    obtain ⟨hp1, hp2⟩ := hoc (i + 1) (by omega)
    have next : ¬ jx ds B i → rx_W G MX4_firstLostJump (d + 1) 74 [(1, .int (nI i)), (0, .ref 1)] [] (gl C S) mc ms Q Z := fun hx => by
      refine rx_iinc (v := nI (i + 1)) dX4_firstLostJump_74 rfl (nI_add _ 1) ?_
      refine rx_goto (tgt := 2) dX4_firstLostJump_77 (by decide) ?_
      refine rx_lv (lv' := [(1, .int (nI (i + 1))), (0, .ref 1)]) ⟨rfl, rfl, trivial⟩ ?_
      refine ih (i + 1) (by omega) ?_
      rw [← hJ]; exact (jl_skip (s := 1) (m := m + 1) (k := i) (fun t h1 h2 => by rw [show t = i by omega]; exact hx)).symm
    have rest : ∀ z : Bool, (z = true ↔ (ds.getD i 0 = 19 ∨ ds.getD i 0 = 20)) → rx_W G MX4_firstLostJump (d + 1) 40 [(2, .int (bI z)), (1, .int (nI i)), (0, .ref 1)] [] (gl C S) mc ms Q Z := fun z hz => by
      refine rx_aload_n dX4_firstLostJump_40 rfl rfl ?_
      refine g_getR hG hf_RX4_15 rfl dX4_firstLostJump_41 rfl rfl rfl ?_
      refine rx_iload_n dX4_firstLostJump_44 rfl ?_
      refine gcv_zald (j := i) (v := bI (B i)) hG dX4_firstLostJump_45 rfl rfl rfl rfl (by omega) (by decide) (hR i (by omega)) ?_
      cases hb : B i with
      | false =>
        refine rx_if_eq (tgt := 74) dX4_firstLostJump_46 (by decide) (fun _ => ?_) (fun q => absurd (by decide) q)
        refine rx_lv (lv' := [(1, .int (nI i)), (0, .ref 1)]) ⟨rfl, rfl, trivial⟩ ?_
        exact next (fun q => absurd q.1 (by rw [hb]; decide))
      | true =>
        refine rx_if_eq (tgt := 74) dX4_firstLostJump_46 (by decide) (fun q => absurd q (by decide)) (fun _ => ?_)
        refine rx_iload_n dX4_firstLostJump_49 rfl ?_
        cases z with
        | false =>
          refine rx_if_eq (tgt := 74) dX4_firstLostJump_50 (by decide) (fun _ => ?_) (fun q => absurd (by decide) q)
          refine rx_lv (lv' := [(1, .int (nI i)), (0, .ref 1)]) ⟨rfl, rfl, trivial⟩ ?_
          exact next (fun q => absurd (hz.mpr q.2.1) (by decide))
        | true =>
          have hj := hz.mp rfl
          refine rx_if_eq (tgt := 74) dX4_firstLostJump_50 (by decide) (fun q => absurd q (by decide)) (fun _ => ?_)
          refine rx_aload_n dX4_firstLostJump_53 rfl rfl ?_
          refine rx_aload_n dX4_firstLostJump_54 rfl rfl ?_
          refine g_getR hG hf_RX4_9 rfl dX4_firstLostJump_55 rfl rfl rfl ?_
          refine rx_iload_n dX4_firstLostJump_58 rfl ?_
          refine rx_iconst (v := nI 1) dX4_firstLostJump_59 rfl ?_
          refine rx_iadd dX4_firstLostJump_60 ?_
          refine rx_ti (y := nI (i + 1)) (nI_add _ _) ?_
          refine gcv_bald (j := i + 1) (v := (nI (ds.getD (i + 1) 0)).toInt8.toInt32) hG dX4_firstLostJump_61 rfl rfl rfl rfl (by omega) (by decide) hp2 ?_
          refine rx_sipush (v := nI 255) dX4_firstLostJump_62 rfl ?_
          refine rx_iand dX4_firstLostJump_65 ?_
          refine rx_ti (y := nI (ds.getD (i + 1) 0)) (oc_and _ hp1) ?_
          refine gv_invV (as := [.int _]) hG okX4_isBegun lk_RX4_45 rfl rfl dX4_firstLostJump_66 rfl (by simp [Value.category]) (cf_isBegun (z := decide (ds.getD (i + 1) 0 < ds.length ∧ B (ds.getD (i + 1) 0) = true)) hG hcn hl hR hp1 decide_eq_true_iff) ?_
          rintro _ _ ⟨rfl, rfl⟩
          by_cases hy : ds.getD (i + 1) 0 < ds.length ∧ B (ds.getD (i + 1) 0) = true
          · rw [decide_eq_true hy]
            refine rx_if_ne (tgt := 74) dX4_firstLostJump_69 (by decide) (fun _ => ?_) (fun q => absurd q (by decide))
            refine rx_lv (lv' := [(1, .int (nI i)), (0, .ref 1)]) ⟨rfl, rfl, trivial⟩ ?_
            exact next (fun q => q.2.2 hy)
          · rw [decide_eq_false hy]
            refine rx_if_ne (tgt := 74) dX4_firstLostJump_69 (by decide) (fun q => absurd (by decide) q) (fun _ => ?_)
            refine rx_iload_n dX4_firstLostJump_72 rfl ?_
            refine rx_iret rfl dX4_firstLostJump_73 (kk1 i ?_)
            rw [← hJ, show jl ds B (m + 1 + 1) i = _ from rfl, jl, if_pos ⟨hb, hj, hy⟩]
    refine rx_aload_n dX4_firstLostJump_12 rfl rfl ?_
    refine g_getR hG hf_RX4_9 rfl dX4_firstLostJump_13 rfl rfl rfl ?_
    refine rx_iload_n dX4_firstLostJump_16 rfl ?_
    refine gcv_bald (j := i) (v := (nI (ds.getD i 0)).toInt8.toInt32) hG dX4_firstLostJump_17 rfl rfl rfl rfl (by omega) (by decide) ho2 ?_
    refine rx_bipush (v := nI 19) dX4_firstLostJump_18 rfl ?_
    by_cases h19 : ds.getD i 0 = 19
    · refine rx_icmp_eq (tgt := 34) dX4_firstLostJump_20 (by decide) (fun _ => ?_) (fun q => absurd ((oc_19 _ ho1).mpr h19) q)
      refine rx_iconst (v := nI 1) dX4_firstLostJump_34 rfl ?_
      refine rx_goto (tgt := 39) dX4_firstLostJump_35 (by decide) ?_
      refine rx_istore_n dX4_firstLostJump_39 (by decide) ?_
      exact rx_lv (lv' := [(2, .int (bI true)), (1, .int (nI i)), (0, .ref 1)]) ⟨rfl, rfl, rfl, trivial⟩ (rest true ⟨fun _ => Or.inl h19, fun _ => rfl⟩)
    refine rx_icmp_eq (tgt := 34) dX4_firstLostJump_20 (by decide) (fun q => absurd ((oc_19 _ ho1).mp q) h19) (fun _ => ?_)
    refine rx_aload_n dX4_firstLostJump_23 rfl rfl ?_
    refine g_getR hG hf_RX4_9 rfl dX4_firstLostJump_24 rfl rfl rfl ?_
    refine rx_iload_n dX4_firstLostJump_27 rfl ?_
    refine gcv_bald (j := i) (v := (nI (ds.getD i 0)).toInt8.toInt32) hG dX4_firstLostJump_28 rfl rfl rfl rfl (by omega) (by decide) ho2 ?_
    refine rx_bipush (v := nI 20) dX4_firstLostJump_29 rfl ?_
    by_cases h20 : ds.getD i 0 = 20
    · refine rx_icmp_ne (tgt := 38) dX4_firstLostJump_31 (by decide) (fun q => absurd ((oc_20 _ ho1).mpr h20) q) (fun _ => ?_)
      refine rx_iconst (v := nI 1) dX4_firstLostJump_34 rfl ?_
      refine rx_goto (tgt := 39) dX4_firstLostJump_35 (by decide) ?_
      refine rx_istore_n dX4_firstLostJump_39 (by decide) ?_
      exact rx_lv (lv' := [(2, .int (bI true)), (1, .int (nI i)), (0, .ref 1)]) ⟨rfl, rfl, rfl, trivial⟩ (rest true ⟨fun _ => Or.inr h20, fun _ => rfl⟩)
    · refine rx_icmp_ne (tgt := 38) dX4_firstLostJump_31 (by decide) (fun _ => ?_) (fun q => absurd ((oc_20 _ ho1).mp q) h20)
      refine rx_iconst (v := nI 0) dX4_firstLostJump_38 rfl ?_
      refine rx_istore_n dX4_firstLostJump_39 (by decide) ?_
      exact rx_lv (lv' := [(2, .int (bI false)), (1, .int (nI i)), (0, .ref 1)]) ⟨rfl, rfl, rfl, trivial⟩ (rest false ⟨fun q => absurd q (by decide), fun q => by omega⟩)
theorem cf_fault {G : rx_E} {d : Nat} {C : rx_M} {S : gs_T} (hG : rx_OK G) {ds : List Nat} (hD : cD C ds) (hl : ds.length ≤ 200) (hb : ∀ k, k < ds.length → ds.getD k 0 < 256) : rx_C G MX4_fault (d + 3) [.ref 1] (gl C S) 0 0 (fun v mu => v = some (.int (jI (jA ds))) ∧ ∃ R, mu = gl (rx_k1 C.1 3 R, C.2) S) := by
  refine rx_meth0 (by decide +kernel) rfl (Nat.le_of_ble_eq_true rfl) ?_
  refine rx_aload_n dX4_fault_0 rfl rfl ?_
  refine gv_invV (as := []) hG okX4_firstActThatIsNone lk_RX4_29 rfl rfl dX4_fault_1 rfl (by simp [Value.category]) (cf_first hG hD hl hb) ?_
  rintro _ _ ⟨R, rfl, hc⟩
  rcases hc with ⟨p, hf, rfl⟩ | ⟨hf, h0, rfl⟩ | ⟨hf, h0, rfl, hR⟩
  · have hp := jf_lt hf
    have e : jA ds = some p := by unfold jA; rw [hf]
    refine rx_istore_n dX4_fault_4 (by decide) ?_
    refine rx_iload_n dX4_fault_5 rfl ?_
    refine rx_iconst (v := -1) dX4_fault_6 rfl ?_
    refine rx_icmp_ne (tgt := 17) dX4_fault_7 (by decide) (fun _ => ?_) (fun q => absurd q (nI_n1 (by omega)))
    refine rx_iload_n dX4_fault_17 rfl ?_
    exact rx_iret rfl dX4_fault_18 ⟨by rw [e]; rfl, R, rfl⟩
  · have e : jA ds = some 0 := by unfold jA; rw [hf]; exact if_pos h0
    refine rx_istore_n dX4_fault_4 (by decide) ?_
    refine rx_iload_n dX4_fault_5 rfl ?_
    refine rx_iconst (v := -1) dX4_fault_6 rfl ?_
    refine rx_icmp_ne (tgt := 17) dX4_fault_7 (by decide) (fun _ => ?_) (fun q => absurd q (nI_n1 (by omega)))
    refine rx_iload_n dX4_fault_17 rfl ?_
    exact rx_iret rfl dX4_fault_18 ⟨by rw [e]; rfl, R, rfl⟩
  · have e : jA ds = jl ds (jB ds) ds.length 0 := by unfold jA; rw [hf]; exact if_neg h0
    have hcR : (rx_k1 C.1 3 R, C.2).1 1 2 = nI ds.length := by show rx_k1 C.1 3 R 1 2 = _; rw [k1_ne _ (by decide)]; exact hD.1
    refine rx_istore_n dX4_fault_4 (by decide) ?_
    refine rx_iload_n dX4_fault_5 rfl ?_
    refine rx_iconst (v := -1) dX4_fault_6 rfl ?_
    refine rx_icmp_ne (tgt := 17) dX4_fault_7 (by decide) (fun q => absurd rfl q) (fun _ => ?_)
    refine rx_aload_n dX4_fault_10 rfl rfl ?_
    refine gv_invV (as := []) hG okX4_firstLostJump lk_RX4_33 rfl rfl dX4_fault_11 rfl (by simp [Value.category]) (Q' := fun v mu => v = some (.int (jI (jA ds))) ∧ mu = gl (rx_k1 C.1 3 R, C.2) S) ?_ ?_
    · refine rx_meth0 (by decide +kernel) rfl (Nat.le_of_ble_eq_true rfl) ?_
      refine rx_iconst (v := nI 0) dX4_firstLostJump_0 rfl ?_
      refine rx_istore_n dX4_firstLostJump_1 (by decide) ?_
      refine rx_lv (lv' := [(1, .int (nI 0)), (0, .ref 1)]) ⟨rfl, rfl, trivial⟩ ?_
      refine lc_jl (C := (rx_k1 C.1 3 R, C.2)) (B := jB ds) (J := jA ds) hG hcR hl (fun k hk => ⟨hb k hk, ?_⟩) (fun j hj => ?_) (fun j hj => (jb_ok hf (by omega) hj).2.1.2) (fun p hJ => ⟨by rw [hJ]; rfl, rfl⟩) (fun hJ => ⟨by rw [hJ]; rfl, rfl⟩) (ds.length - 1) 0 (by omega) (by rw [e, show ds.length - 1 + 1 = ds.length by omega])
      · show rx_k1 C.1 3 R 2 k = _; rw [k1_ne _ (by decide)]; exact hD.2 k hk
      · show rx_k1 C.1 3 R 3 j = _; rw [k1_eq]; exact hR j hj
    · rintro _ _ ⟨rfl, rfl⟩
      refine rx_goto (tgt := 18) dX4_fault_14 (by decide) ?_
      exact rx_iret rfl dX4_fault_18 ⟨rfl, R, rfl⟩
/-- a copy of a row of octets -/
def ccb (C : rx_M) (a n : Nat) : rx_M := (rx_k1 C.1 (102 + C.2.2.2.2) (C.1 a), rx_k1 C.2.1 (102 + C.2.2.2.2) (C.2.1 a), rx_k1 C.2.2.1 (102 + C.2.2.2.2) (fun _ => none), rx_k1 C.2.2.2.1 (102 + C.2.2.2.2) (12, n), C.2.2.2.2 + 1)
theorem gl_cb {C : rx_M} {S : gs_T} {a n : Nat} (hma : gk_m a = false) (hk : (gl C S).2.2.2.1 a = (12, n)) : rx_cl (gl C S) a = gl (ccb C a n) S := by
  have hm : gk_m (102 + C.2.2.2.2) = false := gkX_m (by omega)
  have hf : gk_f (102 + C.2.2.2.2) = false := gkX_f (by omega)
  refine Prod.ext (funext fun b => ?_) (Prod.ext (funext fun b => ?_) (Prod.ext (funext fun b => funext fun k => ?_) (Prod.ext (funext fun b => ?_) ?_)))
  · show rx_k1 (gl C S).1 (102 + C.2.2.2.2) ((gl C S).1 a) b = (bif gk_m b then S.1 b else rx_k1 C.1 (102 + C.2.2.2.2) (C.1 a) b)
    by_cases h : b = (102 + C.2.2.2.2)
    · subst h; rw [k1_eq, hm, k1_eq, gl_IC hma]; rfl
    · rw [k1_ne _ h, k1_ne _ h]; rfl
  · show rx_k1 (gl C S).2.1 (102 + C.2.2.2.2) ((gl C S).2.1 a) b = (bif gk_m b then S.2 b else rx_k1 C.2.1 (102 + C.2.2.2.2) (C.2.1 a) b)
    by_cases h : b = (102 + C.2.2.2.2)
    · subst h; rw [k1_eq, hm, k1_eq, gl_LC hma]; rfl
    · rw [k1_ne _ h, k1_ne _ h]; rfl
  · show rx_k1 (gl C S).2.2.1 (102 + C.2.2.2.2) (fun _ => none) b k = (gk_R b k).elim (rx_k1 C.2.2.1 (102 + C.2.2.2.2) (fun _ => none) b k) some
    by_cases h : b = (102 + C.2.2.2.2)
    · subst h; rw [k1_eq, k1_eq, gkX_R (by omega)]; rfl
    · rw [k1_ne _ h, k1_ne _ h]; rfl
  · show rx_k1 (gl C S).2.2.2.1 (102 + C.2.2.2.2) ((gl C S).2.2.2.1 a) b = (bif gk_f b then gk_K b else rx_k1 C.2.2.2.1 (102 + C.2.2.2.2) (12, n) b)
    by_cases h : b = (102 + C.2.2.2.2)
    · subst h; rw [k1_eq, hf, k1_eq, hk]; rfl
    · rw [k1_ne _ h, k1_ne _ h]; rfl
  · rfl
theorem ccb_ag {C : rx_M} {a n : Nat} : rc_ag C (ccb C a n) := ⟨fun a _ h => ⟨k1_ne _ (by omega), k1_ne _ (by omega)⟩, fun a _ h => k1_ne _ (by omega), fun a _ h => k1_ne _ (by omega), Nat.le_succ _⟩
theorem ccb_rk {C : rx_M} {a n : Nat} : rk (ccb C a n) (102 + C.2.2.2.2) 12 n := by
  refine ⟨⟨?_, gkX_m (by omega), fun k => gkX_R (by omega)⟩, ?_⟩
  · show (102 + C.2.2.2.2) < 102 + (C.2.2.2.2 + 1)
    omega
  · rw [gkX_f (by omega)]
    exact k1_eq _
theorem gl_kI {C : rx_M} {S : gs_T} {a : Nat} (h : gk_m a = false) (f : Nat → Int32) : (rx_k1 (gl C S).1 a f, (gl C S).2) = gl (rx_k1 C.1 a f, C.2) S := by
  refine Prod.ext (funext fun b => ?_) rfl
  show rx_k1 (gl C S).1 a f b = (bif gk_m b then S.1 b else rx_k1 C.1 a f b)
  by_cases e : b = a
  · subst e; rw [k1_eq, h, k1_eq]; rfl
  · rw [k1_ne _ e, k1_ne _ e]; rfl
/-- the first m octets of the draft, in a row of their own -/
def cpyB (C C' : rx_M) (m : Nat) : Prop := rc_ag C C' ∧ rk C' (102 + C.2.2.2.2) 12 m ∧ (∀ j, j < m → C'.1 (102 + C.2.2.2.2) j = C.1 2 j) ∧ C'.2.2.2.2 = C.2.2.2.2 + 1
theorem cf_copyB {G : rx_E} {d : Nat} {C : rx_M} {S : gs_T} {m : Nat} (hG : rx_OK G) (hm : m ≤ 200) (hfit : ∀ i, i < m → fits .byte (.int (C.1 2 i)) = true) : rx_C G MJ7_copyOf_9075b (d + 1) [.ref 2, .int (nI m)] (gl C S) 1 200 (fun v mu => v = some (.ref (102 + C.2.2.2.2)) ∧ ∃ C', mu = gl C' S ∧ cpyB C C' m) := by
  refine rx_meth0 (by decide +kernel) rfl (Nat.le_of_ble_eq_true rfl) ?_
  refine rx_iload_n dJ7_copyOf_9075b_0 rfl ?_
  refine rx_aload_n dJ7_copyOf_9075b_1 rfl rfl ?_
  refine rx_alen hG dJ7_copyOf_9075b_2 (gl_n rfl) (gl_k rfl rfl) (by decide) rfl ?_
  by_cases h : m = 200
  · subst h
    refine rx_icmp_ne (tgt := 14) dJ7_copyOf_9075b_3 (by decide) (fun q => absurd rfl q) (fun _ => ?_)
    refine rx_aload_n dJ7_copyOf_9075b_6 rfl rfl ?_
    refine rx_Wm (mc := 0 + 1) (ms := 0 + 200) ?_ (by decide) (by decide)
    refine rx_cloneB (n := 200) hG ⟨hw_910, hw_911, hw_912, hw_913, hw_914, hw_841, hw_842⟩ dJ7_copyOf_9075b_7 dJ7_copyOf_9075b_10 (gl_n rfl) (gl_k rfl rfl) (fun i hi => by rw [gl_IC rfl]; exact hfit i hi) (by simp [Value.category]) ?_
    rw [gl_cb (n := 200) rfl (gl_k rfl rfl)]
    exact rx_aret ⟨_, rfl⟩ dJ7_copyOf_9075b_13 ⟨rfl, _, rfl, ccb_ag, ccb_rk, fun j _ => by show rx_k1 C.1 (102 + C.2.2.2.2) (C.1 2) (102 + C.2.2.2.2) j = _; rw [k1_eq], rfl⟩
  · refine rx_icmp_ne (tgt := 14) dJ7_copyOf_9075b_3 (by decide) (fun _ => ?_) (fun q => absurd (show nI m = nI 200 from q) (by rw [nI_eq (by omega) (by omega)]; exact h))
    refine rx_iload_n dJ7_copyOf_9075b_14 rfl ?_
    refine rx_Wm (mc := 0 + 1) (ms := 0 + m) ?_ (by decide) (by omega)
    refine ga_newa (t := 12) hG (Or.inl ⟨rfl, rfl⟩) hw_804 dJ7_copyOf_9075b_15 rfl (by omega) ?_
    refine rx_astore_n dJ7_copyOf_9075b_17 (by decide) rfl ?_
    refine rx_aload_n dJ7_copyOf_9075b_18 rfl rfl ?_
    refine rx_iconst (v := nI 0) dJ7_copyOf_9075b_19 rfl ?_
    refine rx_aload_n dJ7_copyOf_9075b_20 rfl rfl ?_
    refine rx_iconst (v := nI 0) dJ7_copyOf_9075b_21 rfl ?_
    refine rx_aload_n dJ7_copyOf_9075b_22 rfl rfl ?_
    refine rx_alen (x := nI 200) hG dJ7_copyOf_9075b_23 (gl_n rfl) (gl_k rfl rfl) (by decide) rfl ?_
    refine rx_iload_n dJ7_copyOf_9075b_24 rfl ?_
    refine rx_mmin hG ⟨hw_682, hw_378, hw_178, hw_179⟩ dJ7_copyOf_9075b_25 (by simp [Value.category]) ?_
    refine rx_ti (y := nI m) (if_pos (by rw [nI_ltI (by omega) (by omega)]; omega)) ?_
    refine rx_copyB (sp := 0) (dp := 0) (n := m) (n0 := 200) (n1 := m) hG ⟨hw_915, hw_917, hw_916, hw_798⟩ dJ7_copyOf_9075b_28 (gl_n rfl) (gl_k rfl rfl) (rk_n ca_rk) (rk_k ca_rk) rfl rfl rfl (by omega) (by omega) ⟨by decide, by omega⟩ (fun i hi => ?_) (by simp [Value.category]) ?_
    · rw [gl_IC rfl, show 0 + i = i by omega, show (ca C 12 m).1 2 = C.1 2 from k1_ne _ (by omega)]
      exact hfit i hi
    rw [gl_kI (gkX_m (by omega))]
    refine rx_aload_n dJ7_copyOf_9075b_31 rfl rfl ?_
    refine rx_aret ⟨_, rfl⟩ dJ7_copyOf_9075b_32 ⟨rfl, _, rfl, ⟨fun a h1 h2 => ⟨(k1_ne _ (by omega)).trans ((ca_ag (C := C) (t := 12) (n := m)).1 a h1 h2).1, ((ca_ag (C := C) (t := 12) (n := m)).1 a h1 h2).2⟩, (ca_ag (C := C) (t := 12) (n := m)).2⟩, ca_rk, fun j hj => ?_, rfl⟩
    show rx_k1 (ca C 12 m).1 (102 + C.2.2.2.2) (va_cpy ((gl (ca C 12 m) S).1 2) ((gl (ca C 12 m) S).1 (102 + C.2.2.2.2)) 0 0 m) (102 + C.2.2.2.2) j = _
    rw [k1_eq, pk_cpy_in (by omega) (by omega), show 0 + (j - 0) = j by omega, gl_IC rfl]
    exact congrFun (k1_ne _ (by omega)) j
theorem cf_take {G : rx_E} {d : Nat} {C : rx_M} {S : gs_T} {m : Nat} (hG : rx_OK G) (hcn : C.1 1 2 = nI m) (hm : m ≤ 200) (hfit : ∀ i, i < m → fits .byte (.int (C.1 2 i)) = true) : rx_C G MX4_take (d + 2) [.ref 1] (gl C S) 1 200 (fun v mu => v = some (.ref (102 + C.2.2.2.2)) ∧ ∃ C', mu = gl (rx_u C'.1 1 2 (nI 0), C'.2) S ∧ cpyB C C' m) := by
  refine rx_meth0 (by decide +kernel) rfl (Nat.le_of_ble_eq_true rfl) ?_
  refine rx_aload_n dX4_take_0 rfl rfl ?_
  refine g_getR hG hf_RX4_9 rfl dX4_take_1 rfl rfl rfl ?_
  refine rx_aload_n dX4_take_4 rfl rfl ?_
  refine gcv_getI (v := nI m) hG hf_RX4_19 rfl dX4_take_5 rfl rfl rfl hcn ?_
  refine rx_invS (mc := 0) (ms := 0) (mc' := 1) (ms' := 200) (as := [.ref _, .int _]) hG okJ7_copyOf_9075b lk_RX4_23 dX4_take_8 rfl (by simp [Value.category]) (cf_copyB hG hm hfit) ?_
  rintro _ _ ⟨rfl, C', rfl, hc⟩
  refine rx_astore_n dX4_take_11 (by decide) rfl ?_
  refine rx_aload_n dX4_take_12 rfl rfl ?_
  refine rx_iconst (v := nI 0) dX4_take_13 rfl ?_
  refine gc_putI hG hf_RX4_19 (gw_nf rfl rfl) rfl dX4_take_14 rfl rfl rfl rfl rfl ?_
  refine rx_aload_n dX4_take_17 rfl rfl ?_
  exact rx_aret ⟨_, rfl⟩ dX4_take_18 ⟨rfl, C', rfl, hc⟩
theorem cf_add {G : rx_E} {d : Nat} {C : rx_M} {S : gs_T} {n a : Nat} (hG : rx_OK G) (h5 : C.1 5 1 = nI n) (hn : n < 16) (ha : rk C a 2 1) : rx_C G MX3_add d [.ref 5, .ref a] (gl C S) 0 0 (fun v mu => v = some (.int (nI n)) ∧ mu = gl (rx_u C.1 5 1 (nI (n + 1)), C.2.1, rx_u C.2.2.1 6 n (some a), C.2.2.2) S) := by
  refine rx_meth0 (by decide +kernel) rfl (Nat.le_of_ble_eq_true rfl) ?_
  refine rx_aload_n dX3_add_0 rfl rfl ?_
  refine g_getR hG hf_RX3_11 rfl dX3_add_1 rfl rfl rfl ?_
  refine rx_aload_n dX3_add_4 rfl rfl ?_
  refine gcv_getI (v := nI n) hG hf_RX3_17 rfl dX3_add_5 rfl rfl rfl h5 ?_
  refine rx_aload_n dX3_add_8 rfl rfl ?_
  refine ga_aast hG dX3_add_9 rfl rfl (by decide) rfl hn (by decide) (gk6 hn) ha rfl ?_
  refine rx_aload_n dX3_add_10 rfl rfl ?_
  refine rx_dup dX3_add_11 rfl ?_
  refine gcv_getI (v := nI n) hG hf_RX3_17 rfl dX3_add_12 rfl rfl rfl h5 ?_
  refine rx_iconst (v := nI 1) dX3_add_15 rfl ?_
  refine rx_iadd dX3_add_16 ?_
  refine rx_ti (y := nI (n + 1)) (nI_add _ _) ?_
  refine gc_putI hG hf_RX3_17 (gw_nf rfl rfl) rfl dX3_add_17 rfl rfl rfl rfl rfl ?_
  refine rx_aload_n dX3_add_20 rfl rfl ?_
  refine gcv_getI (v := nI (n + 1)) hG hf_RX3_17 rfl dX3_add_21 rfl rfl rfl (by simp [rx_ru]) ?_
  refine rx_iconst (v := nI 1) dX3_add_24 rfl ?_
  refine rx_isub dX3_add_25 ?_
  refine rx_ti (y := nI n) ((pk_sub (by omega)).trans (congrArg nI (by omega))) ?_
  exact rx_iret rfl dX3_add_26 ⟨rfl, rfl⟩

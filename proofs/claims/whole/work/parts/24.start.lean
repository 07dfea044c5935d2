/-- which throws are no other's -/
def rx_NC (G : rx_E) : Prop := va_Nc "java/lang/IllegalArgumentException" "java/lang/IndexOutOfBoundsException" G.2.1 ∧ va_Nc "java/lang/IllegalStateException" "java/lang/IndexOutOfBoundsException" G.2.1 ∧ va_Nc "java/lang/IllegalStateException" "java/lang/IllegalArgumentException" G.2.1
def rx_nw : List Cond := [.not (.castable "java/lang/IllegalArgumentException" "java/lang/IndexOutOfBoundsException"), .not (.castable "java/lang/IllegalStateException" "java/lang/IndexOutOfBoundsException"), .not (.castable "java/lang/IllegalStateException" "java/lang/IllegalArgumentException"), .arrayOf (.static RX7 "COSTS" "[I") .int, .arrayOf (.static RX6 "TAKES" "[I") .int, .eq (.length (.static RX7 "COSTS" "[I")) (.int 40), .eq (.length (.static RX6 "TAKES" "[I")) (.int 40), .isRef (.static Bundle.tN "UNASSIGNED_STACK" Bundle.steD), .isRef (.static Bundle.tN "SUPPRESSED_SENTINEL" Bundle.listD)] ++ (List.range 40).map (fun j => .eq (.elem (.static RX7 "COSTS" "[I") (.int (Int32.ofNat j))) (.int (rx_costs.getD j 0))) ++ (List.range 40).map (fun j => .eq (.elem (.static RX6 "TAKES" "[I") (.int (Int32.ofNat j))) (.int (rx_takes.getD j 0)))
set_option maxRecDepth 100000 in
theorem rx_nw_in : rx_nw.all (fun w => decide (w ∈ flatC (Jvm.Cond.and given_1 narrow_1))) = true := by decide +kernel
theorem rx_arrP {s : State} {ty : FieldType} (h : ∃ a, (Cond.arrayClass ty).before a s = true) (hty : ∀ C, ty ≠ .object C) : ∃ cA, ArrOfT s cA ty ∧ va_RA s cA ty := by
  obtain ⟨a, h⟩ := h
  obtain ⟨c, k, comp, h1, h2, h3⟩ := Cond.arrayClass_spec h
  refine ⟨c, fun n z => ⟨fun k h => (by cases h), k, h2, comp, h3⟩, ?_⟩
  cases ty with
  | object C => exact absurd rfl (hty C)
  | _ => exact h1
theorem rx_arrO {s : State} {C : String} (h : ∃ a, (Cond.arrayOver (.object C)).before a s = true) : ∃ cA, ArrOfT s cA (.object C) ∧ va_RA s cA (.object C) := by
  obtain ⟨a, h⟩ := h
  obtain ⟨comp, c, k, h1, h2, h3, h4, h5⟩ := Cond.arrayOver_spec h
  exact ⟨c, fun n z => ⟨fun k h => (by cases h), k, h3, comp, h4⟩, k, comp, h3, h4, h1, h5⟩
set_option maxRecDepth 100000 in
set_option maxHeartbeats 4000000 in
theorem rx_begin {l : Launch} {s : State} {b L : Nat} {xs : Nat → Int32} (hfl : l.stackTraces = false) (hL : L ≤ 5120) (hts : ∀ w ∈ lw_tbl, w.before #[Value.ref b] s = true) (hX : va_X b L xs s s.heap) (hb : b < s.heap.size) (hgv : (Jvm.Cond.and given_1 narrow_1).before #[Value.ref b] s = true) :
    ∃ (D : va_G) (dA : Nat → ClassId) (Y : Nat → Nat), Y 0 = b ∧ rx_OK (l, s, D, dA, Y, L, xs) ∧ rx_NC (l, s, D, dA, Y, L, xs) := by
  have hq : ∀ w ∈ rx_nw, w.before #[Value.ref b] s = true := fun w hw => flat_of_before _ hgv w (of_decide_eq_true (List.all_eq_true.mp rx_nw_in w hw))
  have hA : ∀ a : Nat, a < s.heap.size → ¬ (fun q : Nat => s.heap.size ≤ q) a := fun a h => Nat.not_le.mpr h
  have hqC : ∀ j : Nat, j < 40 → (Cond.eq (.elem (.static RX7 "COSTS" "[I") (.int (Int32.ofNat j))) (.int (rx_costs.getD j 0))).before #[Value.ref b] s = true := fun j hj => hq _ (List.mem_append_left _ (List.mem_append_right _ (List.mem_map.mpr ⟨j, List.mem_range.mpr hj, rfl⟩)))
  have hqT : ∀ j : Nat, j < 40 → (Cond.eq (.elem (.static RX6 "TAKES" "[I") (.int (Int32.ofNat j))) (.int (rx_takes.getD j 0))).before #[Value.ref b] s = true := fun j hj => hq _ (List.mem_append_right _ (List.mem_map.mpr ⟨j, List.mem_range.mpr hj, rfl⟩))
  have hq0 : ∀ w ∈ rx_nw.take 9, w.before #[Value.ref b] s = true := fun w hw => hq w (List.mem_of_mem_take hw)
  obtain ⟨tC, hvC, hTC⟩ := va_Tof (A := fun q : Nat => s.heap.size ≤ q) (N := 40) (f := fun j => .int (rx_costs.getD j 0)) (by decide) (hq0 (.arrayOf (.static RX7 "COSTS" "[I") .int) (by simp [rx_nw])) (va_eqt (z := Int32.ofNat 40) (hq0 (.eq (.length (.static RX7 "COSTS" "[I")) (.int 40)) (by simp [rx_nw]))) (fun j hj => va_eqt (hqC j hj)) hA
  obtain ⟨tT, hvT, hTT⟩ := va_Tof (A := fun q : Nat => s.heap.size ≤ q) (N := 40) (f := fun j => .int (rx_takes.getD j 0)) (by decide) (hq0 (.arrayOf (.static RX6 "TAKES" "[I") .int) (by simp [rx_nw])) (va_eqt (z := Int32.ofNat 40) (hq0 (.eq (.length (.static RX6 "TAKES" "[I")) (.int 40)) (by simp [rx_nw]))) (fun j hj => va_eqt (hqT j hj)) hA
  obtain ⟨c0, i0, K0⟩ := u_known (C := RX0) (T := TX0) (N := 7) (n := 7) hts (fun w h => (hc_0.2.2.1 w h).1) (hts _ hw_826)
  obtain ⟨c1, i1, K1⟩ := u_known (C := RX1) (T := TX1) (N := 6) (n := 6) hts (fun w h => (hc_1.2.2.1 w h).1) (hts _ hw_818)
  obtain ⟨c2, i2, K2⟩ := u_known (C := RX2) (T := TX2) (N := 1) (n := 1) hts (fun w h => (hc_2.2.2.1 w h).1) (hts _ hw_844)
  obtain ⟨c3, i3, K3⟩ := u_known (C := RX3) (T := TX3) (N := 2) (n := 2) hts (fun w h => (hc_3.2.2.1 w h).1) (hts _ hw_809)
  obtain ⟨c4, i4, K4⟩ := u_known (C := RX4) (T := TX4) (N := 3) (n := 3) hts (fun w h => (hc_4.2.2.1 w h).1) (hts _ hw_803)
  obtain ⟨c5, i5, K5⟩ := u_known (C := RX5) (T := TX5) (N := 3) (n := 3) hts (fun w h => (hc_5.2.2.1 w h).1) (hts _ hw_816)
  obtain ⟨c6, i6, K6⟩ := u_known (C := RX6) (T := TX6) (N := 15) (n := 15) hts (fun w h => (hc_6.2.2.1 w h).1) (hts _ hw_821)
  obtain ⟨c7, i7, K7⟩ := u_known (C := RX7) (T := TX7) (N := 13) (n := 13) hts (fun w h => (hc_7.2.2.1 w h).1) (hts _ hw_807)
  obtain ⟨c8, i8, K8⟩ := u_known (C := RX8) (T := TX8) (N := 7) (n := 7) hts (fun w h => (hc_8.2.2.1 w h).1) (hts _ hw_860)
  obtain ⟨c9, i9, K9⟩ := u_known (C := RX9) (T := TX9) (N := 1) (n := 1) hts (fun w h => (hc_9.2.2.1 w h).1) (hts _ hw_813)
  obtain ⟨c10, i10, K10⟩ := u_known (C := RX10) (T := TX10) (N := 12) (n := 12) hts (fun w h => (hc_10.2.2.1 w h).1) (hts _ hw_801)
  obtain ⟨c11, i11, K11⟩ := u_known (C := RX11) (T := TX11) (N := 65) (n := 65) hts (fun w h => (hc_11.2.2.1 w h).1) (hts _ hw_884)
  obtain ⟨a12, A12⟩ := rx_arrP ⟨_, hts _ hw_804⟩ (fun C h => by cases h)
  obtain ⟨a13, A13⟩ := rx_arrP ⟨_, hts _ hw_827⟩ (fun C h => by cases h)
  obtain ⟨a14, A14⟩ := rx_arrP ⟨_, hts _ hw_814⟩ (fun C h => by cases h)
  obtain ⟨a15, A15⟩ := rx_arrP ⟨_, hts _ hw_805⟩ (fun C h => by cases h)
  obtain ⟨a16, A16⟩ := rx_arrO ⟨_, hts _ hw_825⟩
  obtain ⟨a17, A17⟩ := rx_arrO ⟨_, hts _ hw_811⟩
  obtain ⟨a18, A18⟩ := rx_arrO ⟨_, hts _ hw_820⟩
  obtain ⟨a19, A19⟩ := rx_arrO ⟨_, hts _ hw_823⟩
  refine ⟨((fun k => if k = 0 then c0 else if k = 1 then c1 else if k = 2 then c2 else if k = 3 then c3 else if k = 4 then c4 else if k = 5 then c5 else if k = 6 then c6 else if k = 7 then c7 else if k = 8 then c8 else if k = 9 then c9 else if k = 10 then c10 else c11), (fun k => if k = 0 then i0 else if k = 1 then i1 else if k = 2 then i2 else if k = 3 then i3 else if k = 4 then i4 else if k = 5 then i5 else if k = 6 then i6 else if k = 7 then i7 else if k = 8 then i8 else if k = 9 then i9 else if k = 10 then i10 else i11)), (fun k => if k = 12 then a12 else if k = 13 then a13 else if k = 14 then a14 else if k = 15 then a15 else if k = 16 then a16 else if k = 17 then a17 else if k = 18 then a18 else a19), (fun k => if k = 0 then b else if k = 1 then tC else tT), rfl, ⟨fun w hw => ⟨_, hts w hw⟩, ⟨?_, ?_⟩, ⟨?_, hTC⟩, ⟨?_, hTT⟩, hX, hb, hL, hfl, ?_, ?_⟩, va_Nc.of (hq0 _ (by simp [rx_nw])), va_Nc.of (hq0 _ (by simp [rx_nw])), va_Nc.of (hq0 _ (by simp [rx_nw]))⟩
  · intro k q hq
    match k, hq with
    | 0, hq => cases hq; exact K0
    | 1, hq => cases hq; exact K1
    | 2, hq => cases hq; exact K2
    | 3, hq => cases hq; exact K3
    | 4, hq => cases hq; exact K4
    | 5, hq => cases hq; exact K5
    | 6, hq => cases hq; exact K6
    | 7, hq => cases hq; exact K7
    | 8, hq => cases hq; exact K8
    | 9, hq => cases hq; exact K9
    | 10, hq => cases hq; exact K10
    | 11, hq => cases hq; exact K11
    | k + 12, hq => simp [vwCl] at hq
  · intro k q hq
    match k, hq with
    | 0, hq => cases hq; exact A12
    | 1, hq => cases hq; exact A13
    | 2, hq => cases hq; exact A14
    | 3, hq => cases hq; exact A15
    | 4, hq => cases hq; exact A16
    | 5, hq => cases hq; exact A17
    | 6, hq => cases hq; exact A18
    | 7, hq => cases hq; exact A19
    | k + 8, hq => simp [rx_tys] at hq
  · exact va_Zref (hts _ hw_864) (hts _ hw_49) hvC hA
  · exact va_Zref (hts _ hw_865) (hts _ hw_33) hvT hA
  · exact vx_Zqof (hts _ hw_832) (hts _ hw_793) (hq0 _ (by simp [rx_nw])) hA
  · exact vx_Zqof (hts _ hw_833) (hts _ hw_793) (hq0 _ (by simp [rx_nw])) hA

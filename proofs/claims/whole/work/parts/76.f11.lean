theorem dX10_draft_0 : decode cX10_draft 0 = .ok (.iload_n 1, 1) := by decide +kernel
theorem dX10_draft_1 : decode cX10_draft 1 = .ok (.iconst 1, 1) := by decide +kernel
theorem dX10_draft_2 : decode cX10_draft 2 = .ok (.if_icmp .lt 20, 3) := by decide +kernel
theorem dX10_draft_5 : decode cX10_draft 5 = .ok (.iload_n 1, 1) := by decide +kernel
theorem dX10_draft_6 : decode cX10_draft 6 = .ok (.bipush 8, 2) := by decide +kernel
theorem dX10_draft_8 : decode cX10_draft 8 = .ok (.if_icmp .gt 14, 3) := by decide +kernel
theorem dX10_draft_11 : decode cX10_draft 11 = .ok (.aload_n 0, 1) := by decide +kernel
theorem dX10_draft_12 : decode cX10_draft 12 = .ok (.getfield 10, 3) := by decide +kernel
theorem dX10_draft_15 : decode cX10_draft 15 = .ok (.iload_n 1, 1) := by decide +kernel
theorem dX10_draft_16 : decode cX10_draft 16 = .ok (.invokevirtual 59, 3) := by decide +kernel
theorem dX10_draft_19 : decode cX10_draft 19 = .ok (.ifCond .ne 13, 3) := by decide +kernel
theorem dX10_draft_22 : decode cX10_draft 22 = .ok (.new 63, 3) := by decide +kernel
theorem dX10_draft_25 : decode cX10_draft 25 = .ok (.dup, 1) := by decide +kernel
theorem dX10_draft_26 : decode cX10_draft 26 = .ok (.ldc 65, 2) := by decide +kernel
theorem dX10_draft_28 : decode cX10_draft 28 = .ok (.invokespecial 67, 3) := by decide +kernel
theorem dX10_draft_31 : decode cX10_draft 31 = .ok (.athrow, 1) := by decide +kernel
theorem dX10_draft_32 : decode cX10_draft 32 = .ok (.aload_n 0, 1) := by decide +kernel
theorem dX10_draft_33 : decode cX10_draft 33 = .ok (.getfield 10, 3) := by decide +kernel
theorem dX10_draft_36 : decode cX10_draft 36 = .ok (.iload_n 1, 1) := by decide +kernel
theorem dX10_draft_37 : decode cX10_draft 37 = .ok (.lload_n 2, 1) := by decide +kernel
theorem dX10_draft_38 : decode cX10_draft 38 = .ok (.invokevirtual 70, 3) := by decide +kernel
theorem dX10_draft_41 : decode cX10_draft 41 = .ok (.ireturn, 1) := by decide +kernel
theorem dX4_hasRoomFor_0 : decode cX4_hasRoomFor 0 = .ok (.aload_n 0, 1) := by decide +kernel
theorem dX4_hasRoomFor_1 : decode cX4_hasRoomFor 1 = .ok (.getfield 19, 3) := by decide +kernel
theorem dX4_hasRoomFor_4 : decode cX4_hasRoomFor 4 = .ok (.iload_n 1, 1) := by decide +kernel
theorem dX4_hasRoomFor_5 : decode cX4_hasRoomFor 5 = .ok (.iadd, 1) := by decide +kernel
theorem dX4_hasRoomFor_6 : decode cX4_hasRoomFor 6 = .ok (.sipush 200, 3) := by decide +kernel
theorem dX4_hasRoomFor_9 : decode cX4_hasRoomFor 9 = .ok (.if_icmp .gt 7, 3) := by decide +kernel
theorem dX4_hasRoomFor_12 : decode cX4_hasRoomFor 12 = .ok (.iconst 1, 1) := by decide +kernel
theorem dX4_hasRoomFor_13 : decode cX4_hasRoomFor 13 = .ok (.goto 4, 3) := by decide +kernel
theorem dX4_hasRoomFor_16 : decode cX4_hasRoomFor 16 = .ok (.iconst 0, 1) := by decide +kernel
theorem dX4_hasRoomFor_17 : decode cX4_hasRoomFor 17 = .ok (.ireturn, 1) := by decide +kernel
theorem dX4_append_0 : decode cX4_append 0 = .ok (.iload_n 1, 1) := by decide +kernel
theorem dX4_append_1 : decode cX4_append 1 = .ok (.iconst 1, 1) := by decide +kernel
theorem dX4_append_2 : decode cX4_append 2 = .ok (.isub, 1) := by decide +kernel
theorem dX4_append_3 : decode cX4_append 3 = .ok (.istore 4, 2) := by decide +kernel
theorem dX4_append_5 : decode cX4_append 5 = .ok (.iload 4, 2) := by decide +kernel
theorem dX4_append_7 : decode cX4_append 7 = .ok (.ifCond .lt 37, 3) := by decide +kernel
theorem dX4_append_10 : decode cX4_append 10 = .ok (.aload_n 0, 1) := by decide +kernel
theorem dX4_append_11 : decode cX4_append 11 = .ok (.getfield 9, 3) := by decide +kernel
theorem dX4_append_14 : decode cX4_append 14 = .ok (.aload_n 0, 1) := by decide +kernel
theorem dX4_append_15 : decode cX4_append 15 = .ok (.getfield 19, 3) := by decide +kernel
theorem dX4_append_18 : decode cX4_append 18 = .ok (.lload_n 2, 1) := by decide +kernel
theorem dX4_append_19 : decode cX4_append 19 = .ok (.bipush 8, 2) := by decide +kernel
theorem dX4_append_21 : decode cX4_append 21 = .ok (.iload 4, 2) := by decide +kernel
theorem dX4_append_23 : decode cX4_append 23 = .ok (.imul, 1) := by decide +kernel
theorem dX4_append_24 : decode cX4_append 24 = .ok (.lshr, 1) := by decide +kernel
theorem dX4_append_25 : decode cX4_append 25 = .ok (.l2i, 1) := by decide +kernel
theorem dX4_append_26 : decode cX4_append 26 = .ok (.i2b, 1) := by decide +kernel
theorem dX4_append_27 : decode cX4_append 27 = .ok (.bastore, 1) := by decide +kernel
theorem dX4_append_28 : decode cX4_append 28 = .ok (.aload_n 0, 1) := by decide +kernel
theorem dX4_append_29 : decode cX4_append 29 = .ok (.dup, 1) := by decide +kernel
theorem dX4_append_30 : decode cX4_append 30 = .ok (.getfield 19, 3) := by decide +kernel
theorem dX4_append_33 : decode cX4_append 33 = .ok (.iconst 1, 1) := by decide +kernel
theorem dX4_append_34 : decode cX4_append 34 = .ok (.iadd, 1) := by decide +kernel
theorem dX4_append_35 : decode cX4_append 35 = .ok (.putfield 19, 3) := by decide +kernel
theorem dX4_append_38 : decode cX4_append 38 = .ok (.iinc 4 (-1), 3) := by decide +kernel
theorem dX4_append_41 : decode cX4_append 41 = .ok (.goto (-36), 3) := by decide +kernel
theorem dX4_append_44 : decode cX4_append 44 = .ok (.aload_n 0, 1) := by decide +kernel
theorem dX4_append_45 : decode cX4_append 45 = .ok (.getfield 19, 3) := by decide +kernel
theorem dX4_append_48 : decode cX4_append 48 = .ok (.ireturn, 1) := by decide +kernel
theorem dX11_draft_0 : decode cX11_draft 0 = .ok (.aload_n 0, 1) := by decide +kernel
theorem dX11_draft_1 : decode cX11_draft 1 = .ok (.iload_n 1, 1) := by decide +kernel
theorem dX11_draft_2 : decode cX11_draft 2 = .ok (.iconst 1, 1) := by decide +kernel
theorem dX11_draft_3 : decode cX11_draft 3 = .ok (.if_icmp .lt 21, 3) := by decide +kernel
theorem dX11_draft_6 : decode cX11_draft 6 = .ok (.iload_n 1, 1) := by decide +kernel
theorem dX11_draft_7 : decode cX11_draft 7 = .ok (.bipush 8, 2) := by decide +kernel
theorem dX11_draft_9 : decode cX11_draft 9 = .ok (.if_icmp .gt 15, 3) := by decide +kernel
theorem dX11_draft_12 : decode cX11_draft 12 = .ok (.aload_n 0, 1) := by decide +kernel
theorem dX11_draft_13 : decode cX11_draft 13 = .ok (.getfield 163, 3) := by decide +kernel
theorem dX11_draft_16 : decode cX11_draft 16 = .ok (.iload_n 1, 1) := by decide +kernel
theorem dX11_draft_17 : decode cX11_draft 17 = .ok (.iadd, 1) := by decide +kernel
theorem dX11_draft_18 : decode cX11_draft 18 = .ok (.sipush 200, 3) := by decide +kernel
theorem dX11_draft_21 : decode cX11_draft 21 = .ok (.if_icmp .le 7, 3) := by decide +kernel
theorem dX11_draft_24 : decode cX11_draft 24 = .ok (.iconst 1, 1) := by decide +kernel
theorem dX11_draft_25 : decode cX11_draft 25 = .ok (.goto 4, 3) := by decide +kernel
theorem dX11_draft_28 : decode cX11_draft 28 = .ok (.iconst 0, 1) := by decide +kernel
theorem dX11_draft_29 : decode cX11_draft 29 = .ok (.putfield 160, 3) := by decide +kernel
theorem dX11_draft_32 : decode cX11_draft 32 = .ok (.aload_n 0, 1) := by decide +kernel
theorem dX11_draft_33 : decode cX11_draft 33 = .ok (.getfield 160, 3) := by decide +kernel
theorem dX11_draft_36 : decode cX11_draft 36 = .ok (.ifCond .le 5, 3) := by decide +kernel
theorem dX11_draft_39 : decode cX11_draft 39 = .ok (.iconst 0, 1) := by decide +kernel
theorem dX11_draft_40 : decode cX11_draft 40 = .ok (.ireturn, 1) := by decide +kernel
theorem dX11_draft_41 : decode cX11_draft 41 = .ok (.iload_n 1, 1) := by decide +kernel
theorem dX11_draft_42 : decode cX11_draft 42 = .ok (.iconst 1, 1) := by decide +kernel
theorem dX11_draft_43 : decode cX11_draft 43 = .ok (.isub, 1) := by decide +kernel
theorem dX11_draft_44 : decode cX11_draft 44 = .ok (.istore 4, 2) := by decide +kernel
theorem dX11_draft_46 : decode cX11_draft 46 = .ok (.iload 4, 2) := by decide +kernel
theorem dX11_draft_48 : decode cX11_draft 48 = .ok (.ifCond .lt 40, 3) := by decide +kernel
theorem dX11_draft_51 : decode cX11_draft 51 = .ok (.aload_n 0, 1) := by decide +kernel
theorem dX11_draft_52 : decode cX11_draft 52 = .ok (.getfield 16, 3) := by decide +kernel
theorem dX11_draft_55 : decode cX11_draft 55 = .ok (.aload_n 0, 1) := by decide +kernel
theorem dX11_draft_56 : decode cX11_draft 56 = .ok (.getfield 163, 3) := by decide +kernel
theorem dX11_draft_59 : decode cX11_draft 59 = .ok (.lload_n 2, 1) := by decide +kernel
theorem dX11_draft_60 : decode cX11_draft 60 = .ok (.bipush 8, 2) := by decide +kernel
theorem dX11_draft_62 : decode cX11_draft 62 = .ok (.iload 4, 2) := by decide +kernel
theorem dX11_draft_64 : decode cX11_draft 64 = .ok (.imul, 1) := by decide +kernel
theorem dX11_draft_65 : decode cX11_draft 65 = .ok (.lshr, 1) := by decide +kernel
theorem dX11_draft_66 : decode cX11_draft 66 = .ok (.ldc2_w 170, 3) := by decide +kernel
theorem dX11_draft_69 : decode cX11_draft 69 = .ok (.land, 1) := by decide +kernel
theorem dX11_draft_70 : decode cX11_draft 70 = .ok (.l2i, 1) := by decide +kernel
theorem dX11_draft_71 : decode cX11_draft 71 = .ok (.iastore, 1) := by decide +kernel
theorem dX11_draft_72 : decode cX11_draft 72 = .ok (.aload_n 0, 1) := by decide +kernel
theorem dX11_draft_73 : decode cX11_draft 73 = .ok (.dup, 1) := by decide +kernel
theorem dX11_draft_74 : decode cX11_draft 74 = .ok (.getfield 163, 3) := by decide +kernel
theorem dX11_draft_77 : decode cX11_draft 77 = .ok (.iconst 1, 1) := by decide +kernel
theorem dX11_draft_78 : decode cX11_draft 78 = .ok (.iadd, 1) := by decide +kernel
theorem dX11_draft_79 : decode cX11_draft 79 = .ok (.putfield 163, 3) := by decide +kernel
theorem dX11_draft_82 : decode cX11_draft 82 = .ok (.iinc 4 (-1), 3) := by decide +kernel
theorem dX11_draft_85 : decode cX11_draft 85 = .ok (.goto (-39), 3) := by decide +kernel
theorem dX11_draft_88 : decode cX11_draft 88 = .ok (.aload_n 0, 1) := by decide +kernel
theorem dX11_draft_89 : decode cX11_draft 89 = .ok (.getfield 163, 3) := by decide +kernel
theorem dX11_draft_92 : decode cX11_draft 92 = .ok (.ireturn, 1) := by decide +kernel
def vd_oct (row : Int64) (k : Nat) : Nat := (row >>> ((nI (8 * k)).toInt64 &&& 63)).toBitVec.toNat % 256
def vd_app (row : Int64) : Nat → List Nat → List Nat
  | 0, ds => ds
  | k + 1, ds => vd_app row k (ds ++ [vd_oct row k])
theorem vd_lt {row : Int64} {k : Nat} : vd_oct row k < 256 := Nat.mod_lt _ (by decide)
theorem vd_len {row : Int64} : ∀ (k : Nat) (ds : List Nat), (vd_app row k ds).length = ds.length + k
  | 0, ds => rfl
  | k + 1, ds => by
    show (vd_app row k (ds ++ [vd_oct row k])).length = _
    rw [vd_len k]; simp; omega
theorem vd_all {row : Int64} : ∀ (k : Nat) (ds : List Nat), (∀ j, j < ds.length → ds.getD j 0 < 256) → ∀ j, j < (vd_app row k ds).length → (vd_app row k ds).getD j 0 < 256
  | 0, ds, h => h
  | k + 1, ds, h => by
    refine vd_all k (ds ++ [vd_oct row k]) (fun j hj => ?_)
    rw [List.getD_eq_getElem?_getD, List.getElem?_append]
    split
    · rw [← List.getD_eq_getElem?_getD]; exact h j (by assumption)
    · rw [show j - ds.length = 0 by simp at hj; omega]
      exact vd_lt
theorem oc_m (y : Int64) : (y &&& 255).toInt32 = nI (y.toBitVec.toNat % 256) := by
  apply Int32.toBitVec_inj.mp
  rw [Int64.toBitVec_toInt32, BitVec.signExtend_eq_setWidth_of_le _ (by decide)]
  apply BitVec.eq_of_toNat_eq
  rw [BitVec.toNat_setWidth, Int64.toBitVec_and, BitVec.toNat_and, show (255 : Int64).toBitVec.toNat = 2 ^ 8 - 1 by decide, Nat.and_two_pow_sub_one_eq_mod, pk_tn (Nat.lt_of_lt_of_le (Nat.mod_lt _ (by decide)) (by decide))]
  exact Nat.mod_eq_of_lt (Nat.lt_of_lt_of_le (Nat.mod_lt _ (by decide)) (by decide))
theorem oc_c (y : Int64) : (y.toInt32.toInt8.toInt32).toInt8.toInt32 = (nI (y.toBitVec.toNat % 256)).toInt8.toInt32 := by
  have e : y.toInt32.toInt8 = (nI (y.toBitVec.toNat % 256)).toInt8 := by
    apply Int8.toBitVec_inj.mp
    rw [Int32.toBitVec_toInt8, Int32.toBitVec_toInt8, Int64.toBitVec_toInt32, BitVec.signExtend_eq_setWidth_of_le _ (by decide), BitVec.signExtend_eq_setWidth_of_le _ (by decide), BitVec.signExtend_eq_setWidth_of_le _ (by decide)]
    apply BitVec.eq_of_toNat_eq
    rw [BitVec.toNat_setWidth, BitVec.toNat_setWidth, BitVec.toNat_setWidth, pk_tn (Nat.lt_of_lt_of_le (Nat.mod_lt _ (by decide)) (by decide))]
    show y.toBitVec.toNat % 2 ^ 32 % 2 ^ 8 = y.toBitVec.toNat % 256 % 2 ^ 8
    rw [Nat.mod_mod_of_dvd _ (by decide), Nat.mod_mod_of_dvd _ (by decide)]
  rw [show (y.toInt32.toInt8.toInt32).toInt8 = y.toInt32.toInt8 by simp, e]
theorem getD_app {ds : List Nat} {x j : Nat} (hj : j < (ds ++ [x]).length) : (ds ++ [x]).getD j 0 = if j = ds.length then x else ds.getD j 0 := by
  rw [List.getD_eq_getElem?_getD, List.getElem?_append]
  split
  · rename_i h
    rw [if_neg (by omega), ← List.getD_eq_getElem?_getD]
  · rename_i h
    have : j = ds.length := by simp at hj; omega
    rw [if_pos this, this, Nat.sub_self]; rfl
theorem cD_app {C : rx_M} {ds : List Nat} {row : Int64} {k : Nat} (h : cD C ds) : cD (rx_u (rx_u C.1 2 ds.length ((row >>> ((nI (8 * k)).toInt64 &&& 63)).toInt32.toInt8.toInt32.toInt8.toInt32)) 1 2 (nI (ds.length + 1)), C.2) (ds ++ [vd_oct row k]) := by
  refine ⟨by simp [rx_ru], fun j hj => ?_⟩
  rw [getD_app hj]
  have e : (rx_u (rx_u C.1 2 ds.length ((row >>> ((nI (8 * k)).toInt64 &&& 63)).toInt32.toInt8.toInt32.toInt8.toInt32)) 1 2 (nI (ds.length + 1))) 2 j = if j = ds.length then (row >>> ((nI (8 * k)).toInt64 &&& 63)).toInt32.toInt8.toInt32.toInt8.toInt32 else C.1 2 j := by simp [rx_ru]
  refine e.trans ?_
  split
  · exact oc_c _
  · exact h.2 j (by have hj' : j < ds.length + 1 := by simpa using hj
                    omega)
theorem mD_app {S : gs_T} {ds : List Nat} {row : Int64} {k : Nat} (h : mD S ds) : mD (rx_u (rx_u S.1 55 ds.length ((row >>> ((nI (8 * k)).toInt64 &&& 63)) &&& 255).toInt32) 52 5 (nI (ds.length + 1)), S.2) (ds ++ [vd_oct row k]) := by
  refine ⟨by simp [rx_ru], fun j hj => ?_⟩
  rw [getD_app hj]
  have e : (rx_u (rx_u S.1 55 ds.length ((row >>> ((nI (8 * k)).toInt64 &&& 63)) &&& 255).toInt32) 52 5 (nI (ds.length + 1))) 55 j = if j = ds.length then ((row >>> ((nI (8 * k)).toInt64 &&& 63)) &&& 255).toInt32 else S.1 55 j := by simp [rx_ru]
  refine e.trans ?_
  split
  · exact oc_m _
  · exact h.2 j (by have hj' : j < ds.length + 1 := by simpa using hj
                    omega)
theorem agE_D {C C' : rx_M} {j : Nat} {x y : Int32} (h : rc_agE (fun a => a = 1 ∨ a = 2) (fun _ => False) C C') : rc_agE (fun a => a = 1 ∨ a = 2) (fun _ => False) C (rx_u (rx_u C'.1 2 j x) 1 2 y, C'.2) :=
  ⟨fun a ha h1 h2 => by
    have ha' : ¬ (a = 1 ∨ a = 2) := ha
    exact ⟨((rx_une _ (by omega)).trans (rx_une _ (by omega))).trans (h.1 a ha h1 h2).1, (h.1 a ha h1 h2).2⟩, h.2.1, h.2.2.1, h.2.2.2⟩
theorem maE_D {S S' : gs_T} {j : Nat} {x y : Int32} (h : rm_agE (fun a => a = 55) (fun k => k = 5) S S') : rm_agE (fun a => a = 55) (fun k => k = 5) S (rx_u (rx_u S'.1 55 j x) 52 5 y, S'.2) :=
  ⟨fun a ha h1 h2 h3 => by
    have ha' : ¬ a = 55 := ha
    exact ⟨((rx_une _ (by omega)).trans (rx_une _ ha')).trans (h.1 a ha h1 h2 h3).1, (h.1 a ha h1 h2 h3).2⟩, fun k hk hk2 => by
    have hk' : ¬ k = 5 := hk
    refine Eq.trans ?_ (h.2 k hk hk2)
    simp [rx_ru, hk']⟩
theorem lc_draft {G : rx_E} {d mc ms : Nat} {C : rx_M} {S : gs_T} {row : Int64} {Q : Option Value → rx_M → Prop} {Z : String → rx_M → Prop} (hG : rx_OK G) : ∀ (k : Nat) (ds : List Nat) (C' : rx_M), ds.length + k ≤ 200 → k ≤ 8 → cD C' ds → rc_agE (fun a => a = 1 ∨ a = 2) (fun _ => False) C C' → (∀ C'', cD C'' (vd_app row k ds) → rc_agE (fun a => a = 1 ∨ a = 2) (fun _ => False) C C'' → Q (some (.int (nI (ds.length + k)))) (gl C'' S)) → rx_W G MX4_append d 5 [(4, .int (nI k + -1)), (0, .ref 1), (2, .long row)] [] (gl C' S) mc ms Q Z := by
  intro k
  induction k with
  | zero =>
    intro ds C' hl hk hD hg hQ
    refine rx_iload dX4_append_5 rfl ?_
    refine rx_if_lt (tgt := 44) dX4_append_7 (by decide) (fun _ => ?_) (fun q => absurd (by decide) q)
    refine rx_aload_n dX4_append_44 rfl rfl ?_
    refine gcv_getI (v := nI ds.length) hG hf_RX4_19 rfl dX4_append_45 rfl rfl rfl hD.1 ?_
    exact rx_iret rfl dX4_append_48 (hQ _ hD hg)
  | succ k ih =>
    intro ds C' hl hk hD hg hQ
    refine rx_iload dX4_append_5 rfl ?_
    refine rx_ti (y := nI k) (pk_m1 _) ?_
    refine rx_if_lt (tgt := 44) dX4_append_7 (by decide) (fun q => absurd q (nI_pos (by omega))) (fun _ => ?_)
    refine rx_aload_n dX4_append_10 rfl rfl ?_
    refine g_getR hG hf_RX4_9 rfl dX4_append_11 rfl rfl rfl ?_
    refine rx_aload_n dX4_append_14 rfl rfl ?_
    refine gcv_getI (v := nI ds.length) hG hf_RX4_19 rfl dX4_append_15 rfl rfl rfl hD.1 ?_
    refine rx_lload_n dX4_append_18 rfl ?_
    refine rx_bipush (v := nI 8) dX4_append_19 rfl ?_
    refine rx_iload dX4_append_21 rfl ?_
    refine rx_ti (y := nI k) (pk_m1 _) ?_
    refine rx_imul dX4_append_23 ?_
    refine rx_ti (y := nI (8 * k)) (pk_mul _ _) ?_
    refine rx_lshr dX4_append_24 ?_
    refine rx_l2i dX4_append_25 ?_
    refine rx_i2b dX4_append_26 ?_
    refine gc_bast (j := ds.length) hG dX4_append_27 rfl rfl rfl rfl (by omega) (by decide) ?_
    refine rx_aload_n dX4_append_28 rfl rfl ?_
    refine rx_dup dX4_append_29 rfl ?_
    refine gcv_getI (v := nI ds.length) hG hf_RX4_19 rfl dX4_append_30 rfl rfl rfl (by simpa [rx_ru] using hD.1) ?_
    refine rx_iconst (v := nI 1) dX4_append_33 rfl ?_
    refine rx_iadd dX4_append_34 ?_
    refine rx_ti (y := nI (ds.length + 1)) (nI_add _ _) ?_
    refine gc_putI hG hf_RX4_19 (gw_nf rfl rfl) rfl dX4_append_35 rfl rfl rfl rfl rfl ?_
    refine rx_iinc (v := nI k + -1) dX4_append_38 rfl (by rw [pk_m1]; rfl) ?_
    refine rx_goto (tgt := 5) dX4_append_41 (by decide) ?_
    refine rx_lv (lv' := [(4, .int (nI k + -1)), (0, .ref 1), (2, .long row)]) ⟨rfl, rfl, rfl, trivial⟩ ?_
    refine ih (ds ++ [vd_oct row k]) _ (by simp; omega) (by omega) (cD_app hD) (agE_D hg) (fun C2 h1 h2 => ?_)
    rw [show (ds ++ [vd_oct row k]).length + k = ds.length + (k + 1) by simp; omega]
    exact hQ C2 h1 h2
theorem lm_draft {G : rx_E} {d mc ms : Nat} {C : rx_M} {S : gs_T} {row : Int64} {Q : Option Value → rx_M → Prop} {Z : String → rx_M → Prop} (hG : rx_OK G) : ∀ (k : Nat) (ds : List Nat) (S' : gs_T), ds.length + k ≤ 200 → k ≤ 8 → mD S' ds → rm_agE (fun a => a = 55) (fun k => k = 5) S S' ∧ S'.1 52 0 = nI 0 → (∀ S'', mD S'' (vd_app row k ds) → rm_agE (fun a => a = 55) (fun k => k = 5) S S'' ∧ S''.1 52 0 = nI 0 → Q (some (.int (nI (ds.length + k)))) (gl C S'')) → rx_W G MX11_draft d 46 [(4, .int (nI k + -1)), (0, .ref 52), (2, .long row)] [] (gl C S') mc ms Q Z := by
  intro k
  induction k with
  | zero =>
    intro ds S' hl hk hD hg hQ
    refine rx_iload dX11_draft_46 rfl ?_
    refine rx_if_lt (tgt := 88) dX11_draft_48 (by decide) (fun _ => ?_) (fun q => absurd (by decide) q)
    refine rx_aload_n dX11_draft_88 rfl rfl ?_
    refine gmv_getI (v := nI ds.length) hG hf_RX11_163 rfl dX11_draft_89 rfl rfl rfl hD.1 ?_
    exact rx_iret rfl dX11_draft_92 (hQ _ hD hg)
  | succ k ih =>
    intro ds S' hl hk hD hg hQ
    refine rx_iload dX11_draft_46 rfl ?_
    refine rx_ti (y := nI k) (pk_m1 _) ?_
    refine rx_if_lt (tgt := 88) dX11_draft_48 (by decide) (fun q => absurd q (nI_pos (by omega))) (fun _ => ?_)
    refine rx_aload_n dX11_draft_51 rfl rfl ?_
    refine g_getR hG hf_RX11_16 rfl dX11_draft_52 rfl rfl rfl ?_
    refine rx_aload_n dX11_draft_55 rfl rfl ?_
    refine gmv_getI (v := nI ds.length) hG hf_RX11_163 rfl dX11_draft_56 rfl rfl rfl hD.1 ?_
    refine rx_lload_n dX11_draft_59 rfl ?_
    refine rx_bipush (v := nI 8) dX11_draft_60 rfl ?_
    refine rx_iload dX11_draft_62 rfl ?_
    refine rx_ti (y := nI k) (pk_m1 _) ?_
    refine rx_imul dX11_draft_64 ?_
    refine rx_ti (y := nI (8 * k)) (pk_mul _ _) ?_
    refine rx_lshr dX11_draft_65 ?_
    refine rx_ldc2 hG hw_885 dX11_draft_66 ?_
    refine rx_land dX11_draft_69 ?_
    refine rx_l2i dX11_draft_70 ?_
    refine gm_iast (j := ds.length) hG dX11_draft_71 rfl rfl rfl rfl (by omega) (by decide) ?_
    refine rx_aload_n dX11_draft_72 rfl rfl ?_
    refine rx_dup dX11_draft_73 rfl ?_
    refine gmv_getI (v := nI ds.length) hG hf_RX11_163 rfl dX11_draft_74 rfl rfl rfl (by simpa [rx_ru] using hD.1) ?_
    refine rx_iconst (v := nI 1) dX11_draft_77 rfl ?_
    refine rx_iadd dX11_draft_78 ?_
    refine rx_ti (y := nI (ds.length + 1)) (nI_add _ _) ?_
    refine gm_putI hG hf_RX11_163 (gw_nf rfl rfl) rfl dX11_draft_79 rfl rfl rfl rfl rfl ?_
    refine rx_iinc (v := nI k + -1) dX11_draft_82 rfl (by rw [pk_m1]; rfl) ?_
    refine rx_goto (tgt := 46) dX11_draft_85 (by decide) ?_
    refine rx_lv (lv' := [(4, .int (nI k + -1)), (0, .ref 52), (2, .long row)]) ⟨rfl, rfl, rfl, trivial⟩ ?_
    refine ih (ds ++ [vd_oct row k]) _ (by simp; omega) (by omega) (mD_app hD) ⟨maE_D hg.1, by simpa [rx_ru] using hg.2⟩ (fun C2 h1 h2 => ?_)
    rw [show (ds ++ [vd_oct row k]).length + k = ds.length + (k + 1) by simp; omega]
    exact hQ C2 h1 h2
theorem cf_room {G : rx_E} {d : Nat} {C : rx_M} {S : gs_T} (hG : rx_OK G) {sz k : Nat} (hs : C.1 1 2 = nI sz) (hz : sz ≤ 200) (hk : k ≤ 8) : rx_C G MX4_hasRoomFor d [.ref 1, .int (nI k)] (gl C S) 0 0 (fun v mu => (∃ r, ((r = 1 ∧ sz + k ≤ 200) ∨ (r = 0 ∧ ¬ sz + k ≤ 200)) ∧ v = some (.int (nI r))) ∧ mu = gl C S) := by
  refine rx_meth0 (by decide +kernel) rfl (Nat.le_of_ble_eq_true rfl) ?_
  refine rx_aload_n dX4_hasRoomFor_0 rfl rfl ?_
  refine gcv_getI (v := nI sz) hG hf_RX4_19 rfl dX4_hasRoomFor_1 rfl rfl rfl hs ?_
  refine rx_iload_n dX4_hasRoomFor_4 rfl ?_
  refine rx_iadd dX4_hasRoomFor_5 ?_
  refine rx_ti (y := nI (k + sz)) ((nI_add _ _).trans (congrArg nI (by omega))) ?_
  refine rx_sipush (v := nI 200) dX4_hasRoomFor_6 rfl ?_
  refine rx_icmp_gt (tgt := 16) dX4_hasRoomFor_9 (by decide) (fun h9 => ?_) (fun h9 => ?_)
  · rw [nI_ltI (by omega) (by omega)] at h9
    refine rx_iconst (v := nI 0) dX4_hasRoomFor_16 rfl ?_
    exact rx_zret rfl rfl dX4_hasRoomFor_17 ⟨⟨0, Or.inr ⟨rfl, by omega⟩, rfl⟩, rfl⟩
  · rw [nI_ltI (by omega) (by omega)] at h9
    refine rx_iconst (v := nI 1) dX4_hasRoomFor_12 rfl ?_
    refine rx_goto (tgt := 17) dX4_hasRoomFor_13 (by decide) ?_
    exact rx_zret rfl rfl dX4_hasRoomFor_17 ⟨⟨1, Or.inl ⟨rfl, by omega⟩, rfl⟩, rfl⟩
theorem sub_m1 (x : Int32) : x - nI 1 = x + -1 := by rw [Int32.sub_eq_add_neg]; rfl
theorem wi_d5 {x : Int32} {P : Prop} (h : wi_out x 9) (h1 : ¬ x < nI 1) (h2 : ¬ nI 8 < x) : P := by
  rcases h with h | h
  · exfalso
    apply h1
    rw [Int32.lt_iff_toInt_lt] at h ⊢
    have e1 : (0 : Int32).toInt = 0 := by decide
    have e2 : (nI 1).toInt = 1 := by decide
    omega
  · exact absurd (wi_gt h (show 8 < 9 by decide) (by decide)) h2
theorem cf_draft_o {G : rx_E} {d : Nat} {C : rx_M} {S : gs_T} (hG : rx_OK G) {x : Int32} {row : Int64} (hx : wi_out x 9) : rx_X G MX10_draft (d + 8) [.ref 0, .int x, .long row] (gl C S) 8 2000 (fun _ _ => False) (zq C S "java/lang/IllegalArgumentException") := by
  refine rx_meth (by decide +kernel) rfl (Nat.le_of_ble_eq_true rfl) ?_
  refine rx_iload_n dX10_draft_0 rfl ?_
  refine rx_iconst (v := nI 1) dX10_draft_1 rfl ?_
  refine rx_icmp_lt (tgt := 22) dX10_draft_2 (by decide) (fun h2 => ?_) (fun h2 => ?_)
  · exact gx_throw hG rfl rfl th_a hw_835 dX10_draft_22 dX10_draft_25 dX10_draft_26 dX10_draft_28 dX10_draft_31
  · refine rx_iload_n dX10_draft_5 rfl ?_
    refine rx_bipush (v := nI 8) dX10_draft_6 rfl ?_
    refine rx_icmp_gt (tgt := 22) dX10_draft_8 (by decide) (fun h8 => ?_) (fun h8 => wi_d5 hx h2 h8) 
    exact gx_throw hG rfl rfl th_a hw_835 dX10_draft_22 dX10_draft_25 dX10_draft_26 dX10_draft_28 dX10_draft_31
theorem cf_draft_0 {G : rx_E} {d : Nat} {C : rx_M} {S : gs_T} (hG : rx_OK G) {row : Int64} : rx_X G MX10_draft (d + 8) [.ref 0, .int (nI 0), .long row] (gl C S) 8 2000 (fun _ _ => False) (zq C S "java/lang/IllegalArgumentException") := by
  refine rx_meth (by decide +kernel) rfl (Nat.le_of_ble_eq_true rfl) ?_
  refine rx_iload_n dX10_draft_0 rfl ?_
  refine rx_iconst (v := nI 1) dX10_draft_1 rfl ?_
  refine rx_icmp_lt (tgt := 22) dX10_draft_2 (by decide) (fun h2 => ?_) (fun h2 => (absurd h2 (by decide))) 
  exact gx_throw hG rfl rfl th_a hw_835 dX10_draft_22 dX10_draft_25 dX10_draft_26 dX10_draft_28 dX10_draft_31
theorem cf_draft_r {G : rx_E} {d : Nat} {C : rx_M} {S : gs_T} (hG : rx_OK G) {k : Nat} {row : Int64} {ds : List Nat} (h1k : 1 ≤ k) (hk : k ≤ 8) (hz : ds.length ≤ 200) (hD : cD C ds) (hro : ¬ ds.length + k ≤ 200) : rx_X G MX10_draft (d + 8) [.ref 0, .int (nI k), .long row] (gl C S) 8 2000 (fun _ _ => False) (zq C S "java/lang/IllegalArgumentException") := by
  refine rx_meth (by decide +kernel) rfl (Nat.le_of_ble_eq_true rfl) ?_
  refine rx_iload_n dX10_draft_0 rfl ?_
  refine rx_iconst (v := nI 1) dX10_draft_1 rfl ?_
  refine rx_icmp_lt (tgt := 22) dX10_draft_2 (by decide) (fun h2 => (absurd h2 (by rw [nI_ltI (by omega) (by omega)]; omega))) (fun h2 => ?_)
  refine rx_iload_n dX10_draft_5 rfl ?_
  refine rx_bipush (v := nI 8) dX10_draft_6 rfl ?_
  refine rx_icmp_gt (tgt := 22) dX10_draft_8 (by decide) (fun h8 => (absurd h8 (by rw [nI_ltI (by omega) (by omega)]; omega))) (fun h8 => ?_)
  refine rx_aload_n dX10_draft_11 rfl rfl ?_
  refine g_getR hG hf_RX10_10 rfl dX10_draft_12 rfl rfl rfl ?_
  refine rx_iload_n dX10_draft_15 rfl ?_
  refine gv_invV (as := [.int _]) hG okX4_hasRoomFor lk_RX10_59 rfl rfl dX10_draft_16 rfl (by simp [Value.category]) (cf_room hG hD.1 hz hk) ?_
  rintro _ _ ⟨⟨r, hr, rfl⟩, rfl⟩
  rcases hr with ⟨rfl, hr⟩ | ⟨rfl, hr⟩
  · exact absurd hr hro
  refine rx_if_ne (tgt := 32) dX10_draft_19 (by decide) (fun h19 => (absurd h19 (by decide))) (fun h19 => ?_)
  exact gx_throw hG rfl rfl th_a hw_835 dX10_draft_22 dX10_draft_25 dX10_draft_26 dX10_draft_28 dX10_draft_31
theorem cf_draft {G : rx_E} {d : Nat} {C : rx_M} {S : gs_T} (hG : rx_OK G) {k : Nat} {row : Int64} {ds : List Nat} (h1k : 1 ≤ k) (hk : k ≤ 8) (hz : ds.length ≤ 200) (hD : cD C ds) (hro : ds.length + k ≤ 200) : rx_X G MX10_draft (d + 8) [.ref 0, .int (nI k), .long row] (gl C S) 8 2000 (fun v mu => v = some (.int (nI (ds.length + k))) ∧ ∃ C', mu = gl C' S ∧ cD C' (vd_app row k ds) ∧ rc_agE (fun a => a = 1 ∨ a = 2) (fun _ => False) C C') (fun _ _ => False) := by
  refine rx_meth (by decide +kernel) rfl (Nat.le_of_ble_eq_true rfl) ?_
  have hap : rx_C G MX4_append (d + 7) [.ref 1, .int (nI k), .long row] (gl C S) 0 0 (fun v mu => v = some (.int (nI (ds.length + k))) ∧ ∃ C', mu = gl C' S ∧ cD C' (vd_app row k ds) ∧ rc_agE (fun a => a = 1 ∨ a = 2) (fun _ => False) C C') := by
    refine rx_meth0 (by decide +kernel) rfl (Nat.le_of_ble_eq_true rfl) ?_
    refine rx_iload_n dX4_append_0 rfl ?_
    refine rx_iconst (v := nI 1) dX4_append_1 rfl ?_
    refine rx_isub dX4_append_2 ?_
    refine rx_ti (y := nI k + -1) (sub_m1 _) ?_
    refine rx_istore dX4_append_3 (by decide) ?_
    refine rx_lv (lv' := [(4, .int (nI k + -1)), (0, .ref 1), (2, .long row)]) ⟨rfl, rfl, rfl, trivial⟩ ?_
    exact lc_draft (C := C) hG k ds C hro hk hD ⟨fun _ _ _ _ => ⟨rfl, rfl⟩, fun _ _ _ _ => rfl, fun _ _ _ => rfl, Nat.le_refl _⟩ (fun C'' h1 h2 => ⟨rfl, C'', rfl, h1, h2⟩)
  refine rx_iload_n dX10_draft_0 rfl ?_
  refine rx_iconst (v := nI 1) dX10_draft_1 rfl ?_
  refine rx_icmp_lt (tgt := 22) dX10_draft_2 (by decide) (fun h2 => (absurd h2 (by rw [nI_ltI (by omega) (by omega)]; omega))) (fun h2 => ?_)
  refine rx_iload_n dX10_draft_5 rfl ?_
  refine rx_bipush (v := nI 8) dX10_draft_6 rfl ?_
  refine rx_icmp_gt (tgt := 22) dX10_draft_8 (by decide) (fun h8 => (absurd h8 (by rw [nI_ltI (by omega) (by omega)]; omega))) (fun h8 => ?_)
  refine rx_aload_n dX10_draft_11 rfl rfl ?_
  refine g_getR hG hf_RX10_10 rfl dX10_draft_12 rfl rfl rfl ?_
  refine rx_iload_n dX10_draft_15 rfl ?_
  refine gv_invV (as := [.int _]) hG okX4_hasRoomFor lk_RX10_59 rfl rfl dX10_draft_16 rfl (by simp [Value.category]) (cf_room hG hD.1 hz hk) ?_
  rintro _ _ ⟨⟨r, hr, rfl⟩, rfl⟩
  rcases hr with ⟨rfl, hr⟩ | ⟨rfl, hr⟩
  rotate_left
  · exact absurd hro hr
  refine rx_if_ne (tgt := 32) dX10_draft_19 (by decide) (fun h19 => ?_) (fun h19 => (absurd h19 (by decide))) 
  refine rx_aload_n dX10_draft_32 rfl rfl ?_
  refine g_getR hG hf_RX10_10 rfl dX10_draft_33 rfl rfl rfl ?_
  refine rx_iload_n dX10_draft_36 rfl ?_
  refine rx_lload_n dX10_draft_37 rfl ?_
  refine gv_invV (as := [.int _, .long _]) hG okX4_append lk_RX10_70 rfl rfl dX10_draft_38 rfl (by simp [Value.category]) hap ?_
  intro _ _ hq
  obtain ⟨rfl, C', rfl, h1, h2⟩ := hq
  exact rx_iret rfl dX10_draft_41 ⟨rfl, C', rfl, h1, h2⟩
theorem mf_draft_o {G : rx_E} {d : Nat} {C : rx_M} {S : gs_T} (hG : rx_OK G) {x : Int32} {row : Int64} (hx : wi_out x 9) : rx_C G MX11_draft d [.ref 52, .int x, .long row] (gl C S) 0 0 (fun vv mu => vv = some (.int (nI 0)) ∧ mu = gl C (rx_u S.1 52 0 (nI 1), S.2)) := by
  refine rx_meth0 (by decide +kernel) rfl (Nat.le_of_ble_eq_true rfl) ?_
  refine rx_aload_n dX11_draft_0 rfl rfl ?_
  refine rx_iload_n dX11_draft_1 rfl ?_
  refine rx_iconst (v := nI 1) dX11_draft_2 rfl ?_
  refine rx_icmp_lt (tgt := 24) dX11_draft_3 (by decide) (fun h3 => ?_) (fun h3 => ?_)
  · refine rx_iconst (v := nI 1) dX11_draft_24 rfl ?_
    refine rx_goto (tgt := 29) dX11_draft_25 (by decide) ?_
    refine gm_putI hG hf_RX11_160 (gw_nf rfl rfl) rfl dX11_draft_29 rfl rfl rfl rfl rfl ?_
    refine rx_aload_n dX11_draft_32 rfl rfl ?_
    refine gmv_getI (v := nI 1) hG hf_RX11_160 rfl dX11_draft_33 rfl rfl rfl (by simp [rx_ru]) ?_
    refine rx_if_le (tgt := 41) dX11_draft_36 (by decide) (fun h36 => (absurd h36 (by decide))) (fun h36 => ?_)
    refine rx_iconst (v := nI 0) dX11_draft_39 rfl ?_
    exact rx_iret rfl dX11_draft_40 ⟨rfl, rfl⟩
  · refine rx_iload_n dX11_draft_6 rfl ?_
    refine rx_bipush (v := nI 8) dX11_draft_7 rfl ?_
    refine rx_icmp_gt (tgt := 24) dX11_draft_9 (by decide) (fun h9 => ?_) (fun h9 => wi_d5 hx h3 h9) 
    refine rx_iconst (v := nI 1) dX11_draft_24 rfl ?_
    refine rx_goto (tgt := 29) dX11_draft_25 (by decide) ?_
    refine gm_putI hG hf_RX11_160 (gw_nf rfl rfl) rfl dX11_draft_29 rfl rfl rfl rfl rfl ?_
    refine rx_aload_n dX11_draft_32 rfl rfl ?_
    refine gmv_getI (v := nI 1) hG hf_RX11_160 rfl dX11_draft_33 rfl rfl rfl (by simp [rx_ru]) ?_
    refine rx_if_le (tgt := 41) dX11_draft_36 (by decide) (fun h36 => (absurd h36 (by decide))) (fun h36 => ?_)
    refine rx_iconst (v := nI 0) dX11_draft_39 rfl ?_
    exact rx_iret rfl dX11_draft_40 ⟨rfl, rfl⟩
theorem mf_draft_0 {G : rx_E} {d : Nat} {C : rx_M} {S : gs_T} (hG : rx_OK G) {row : Int64} : rx_C G MX11_draft d [.ref 52, .int (nI 0), .long row] (gl C S) 0 0 (fun vv mu => vv = some (.int (nI 0)) ∧ mu = gl C (rx_u S.1 52 0 (nI 1), S.2)) := by
  refine rx_meth0 (by decide +kernel) rfl (Nat.le_of_ble_eq_true rfl) ?_
  refine rx_aload_n dX11_draft_0 rfl rfl ?_
  refine rx_iload_n dX11_draft_1 rfl ?_
  refine rx_iconst (v := nI 1) dX11_draft_2 rfl ?_
  refine rx_icmp_lt (tgt := 24) dX11_draft_3 (by decide) (fun h3 => ?_) (fun h3 => (absurd h3 (by decide))) 
  refine rx_iconst (v := nI 1) dX11_draft_24 rfl ?_
  refine rx_goto (tgt := 29) dX11_draft_25 (by decide) ?_
  refine gm_putI hG hf_RX11_160 (gw_nf rfl rfl) rfl dX11_draft_29 rfl rfl rfl rfl rfl ?_
  refine rx_aload_n dX11_draft_32 rfl rfl ?_
  refine gmv_getI (v := nI 1) hG hf_RX11_160 rfl dX11_draft_33 rfl rfl rfl (by simp [rx_ru]) ?_
  refine rx_if_le (tgt := 41) dX11_draft_36 (by decide) (fun h36 => (absurd h36 (by decide))) (fun h36 => ?_)
  refine rx_iconst (v := nI 0) dX11_draft_39 rfl ?_
  exact rx_iret rfl dX11_draft_40 ⟨rfl, rfl⟩
theorem mf_draft_r {G : rx_E} {d : Nat} {C : rx_M} {S : gs_T} (hG : rx_OK G) {k : Nat} {row : Int64} {ds : List Nat} (h1k : 1 ≤ k) (hk : k ≤ 8) (hz : ds.length ≤ 200) (hD : mD S ds) (hro : ¬ ds.length + k ≤ 200) : rx_C G MX11_draft d [.ref 52, .int (nI k), .long row] (gl C S) 0 0 (fun vv mu => vv = some (.int (nI 0)) ∧ mu = gl C (rx_u S.1 52 0 (nI 1), S.2)) := by
  refine rx_meth0 (by decide +kernel) rfl (Nat.le_of_ble_eq_true rfl) ?_
  refine rx_aload_n dX11_draft_0 rfl rfl ?_
  refine rx_iload_n dX11_draft_1 rfl ?_
  refine rx_iconst (v := nI 1) dX11_draft_2 rfl ?_
  refine rx_icmp_lt (tgt := 24) dX11_draft_3 (by decide) (fun h3 => (absurd h3 (by rw [nI_ltI (by omega) (by omega)]; omega))) (fun h3 => ?_)
  refine rx_iload_n dX11_draft_6 rfl ?_
  refine rx_bipush (v := nI 8) dX11_draft_7 rfl ?_
  refine rx_icmp_gt (tgt := 24) dX11_draft_9 (by decide) (fun h9 => (absurd h9 (by rw [nI_ltI (by omega) (by omega)]; omega))) (fun h9 => ?_)
  refine rx_aload_n dX11_draft_12 rfl rfl ?_
  refine gmv_getI (v := nI ds.length) hG hf_RX11_163 rfl dX11_draft_13 rfl rfl rfl hD.1 ?_
  refine rx_iload_n dX11_draft_16 rfl ?_
  refine rx_iadd dX11_draft_17 ?_
  refine rx_ti (y := nI (ds.length + k)) ((nI_add _ _).trans (congrArg nI (by omega))) ?_
  refine rx_sipush (v := nI 200) dX11_draft_18 rfl ?_
  refine rx_icmp_le (tgt := 28) dX11_draft_21 (by decide) (fun h21 => (absurd h21 (by rw [nI_leI (by omega) (by omega)]; omega))) (fun h21 => ?_)
  refine rx_iconst (v := nI 1) dX11_draft_24 rfl ?_
  refine rx_goto (tgt := 29) dX11_draft_25 (by decide) ?_
  refine gm_putI hG hf_RX11_160 (gw_nf rfl rfl) rfl dX11_draft_29 rfl rfl rfl rfl rfl ?_
  refine rx_aload_n dX11_draft_32 rfl rfl ?_
  refine gmv_getI (v := nI 1) hG hf_RX11_160 rfl dX11_draft_33 rfl rfl rfl (by simp [rx_ru]) ?_
  refine rx_if_le (tgt := 41) dX11_draft_36 (by decide) (fun h36 => (absurd h36 (by decide))) (fun h36 => ?_)
  refine rx_iconst (v := nI 0) dX11_draft_39 rfl ?_
  exact rx_iret rfl dX11_draft_40 ⟨rfl, rfl⟩
theorem mf_draft {G : rx_E} {d : Nat} {C : rx_M} {S : gs_T} (hG : rx_OK G) {k : Nat} {row : Int64} {ds : List Nat} (h1k : 1 ≤ k) (hk : k ≤ 8) (hz : ds.length ≤ 200) (hD : mD S ds) (hro : ds.length + k ≤ 200) : rx_C G MX11_draft d [.ref 52, .int (nI k), .long row] (gl C S) 0 0 (fun v mu => v = some (.int (nI (ds.length + k))) ∧ ∃ S', mu = gl C S' ∧ mD S' (vd_app row k ds) ∧ rm_agE (fun a => a = 55) (fun k => k = 5) S S' ∧ S'.1 52 0 = nI 0) := by
  refine rx_meth0 (by decide +kernel) rfl (Nat.le_of_ble_eq_true rfl) ?_
  refine rx_aload_n dX11_draft_0 rfl rfl ?_
  refine rx_iload_n dX11_draft_1 rfl ?_
  refine rx_iconst (v := nI 1) dX11_draft_2 rfl ?_
  refine rx_icmp_lt (tgt := 24) dX11_draft_3 (by decide) (fun h3 => (absurd h3 (by rw [nI_ltI (by omega) (by omega)]; omega))) (fun h3 => ?_)
  refine rx_iload_n dX11_draft_6 rfl ?_
  refine rx_bipush (v := nI 8) dX11_draft_7 rfl ?_
  refine rx_icmp_gt (tgt := 24) dX11_draft_9 (by decide) (fun h9 => (absurd h9 (by rw [nI_ltI (by omega) (by omega)]; omega))) (fun h9 => ?_)
  refine rx_aload_n dX11_draft_12 rfl rfl ?_
  refine gmv_getI (v := nI ds.length) hG hf_RX11_163 rfl dX11_draft_13 rfl rfl rfl hD.1 ?_
  refine rx_iload_n dX11_draft_16 rfl ?_
  refine rx_iadd dX11_draft_17 ?_
  refine rx_ti (y := nI (ds.length + k)) ((nI_add _ _).trans (congrArg nI (by omega))) ?_
  refine rx_sipush (v := nI 200) dX11_draft_18 rfl ?_
  refine rx_icmp_le (tgt := 28) dX11_draft_21 (by decide) (fun h21 => ?_) (fun h21 => (absurd (by rw [nI_leI (by omega) (by omega)]; omega) h21)) 
  refine rx_iconst (v := nI 0) dX11_draft_28 rfl ?_
  refine gm_putI hG hf_RX11_160 (gw_nf rfl rfl) rfl dX11_draft_29 rfl rfl rfl rfl rfl ?_
  refine rx_aload_n dX11_draft_32 rfl rfl ?_
  refine gmv_getI (v := nI 0) hG hf_RX11_160 rfl dX11_draft_33 rfl rfl rfl (by simp [rx_ru]) ?_
  refine rx_if_le (tgt := 41) dX11_draft_36 (by decide) (fun h36 => ?_) (fun h36 => (absurd h36 (by decide))) 
  refine rx_iload_n dX11_draft_41 rfl ?_
  refine rx_iconst (v := nI 1) dX11_draft_42 rfl ?_
  refine rx_isub dX11_draft_43 ?_
  refine rx_ti (y := nI k + -1) (sub_m1 _) ?_
  refine rx_istore dX11_draft_44 (by decide) ?_
  refine rx_lv (lv' := [(4, .int (nI k + -1)), (0, .ref 52), (2, .long row)]) ⟨rfl, rfl, rfl, trivial⟩ ?_
  refine lm_draft (S := S) hG k ds (rx_u S.1 52 0 (nI 0), S.2) hro hk ⟨by simpa [rx_ru] using hD.1, fun j hj => by simpa [rx_ru] using hD.2 j hj⟩ ⟨⟨fun a _ h1 _ _ => ⟨rx_une _ (by omega), rfl⟩, fun k _ hk => by show rx_u S.1 52 0 (nI 0) 52 k = _; rw [rx_ru, if_pos rfl, if_neg (by omega)]⟩, by simp [rx_ru]⟩ (fun S'' h1 h2 => ⟨rfl, S'', rfl, h1, h2⟩)
def w_draft (w : wW) (ds : List Nat) : wW := ((ds, w.1.2), w.2)
theorem rcw_draft {A : wP} {C C' : rx_M} {w : wW} {ds : List Nat} (h : rcw A C w) (hD : cD C' ds) (hg : rc_agE (fun a => a = 1 ∨ a = 2) (fun _ => False) C C') : rcw A C' (w_draft w ds) :=
  ⟨hD, cK_agE h.2.1 hg (by decide) (by decide) (fun a ha => by show ¬ (a = 1 ∨ a = 2); omega) (fun a _ => noF a), cO_agE h.2.2.1 hg (by decide) (by decide) (fun a ha => by show ¬ (a = 1 ∨ a = 2); omega), cB_agE h.2.2.2.1 hg (by decide) (by decide) (by decide) (fun a _ _ => by show ¬ (a = 1 ∨ a = 2); omega) (fun a _ _ => noF a), cV_agE h.2.2.2.2.1 hg (by decide) (by decide), cS_agE h.2.2.2.2.2.1 hg (by decide), cN_agE h.2.2.2.2.2.2 hg (by decide)⟩
theorem rmw_draft {S S' : gs_T} {w : wW} {ds : List Nat} (h : rmw S w) (hD : mD S' ds) (hg : rm_agE (fun a => a = 55) (fun k => k = 5) S S') : rmw S' (w_draft w ds) :=
  ⟨hD, mK_agE h.2.1 hg (by decide) (by decide) (by decide), mO_agE h.2.2.1 hg (fun a _ _ => by show ¬ a = 55; omega) (by decide), mB_agE h.2.2.2.1 hg (fun a _ _ => by show ¬ a = 55; omega) (by decide), mV_agE h.2.2.2.2.1 hg (by decide) (by decide), mS_agE h.2.2.2.2.2.1 hg (by decide), mN_agE h.2.2.2.2.2.2 hg (fun k _ _ => by show ¬ k = 5; omega)⟩
theorem F_draft {G : rx_E} {d n : Nat} {w : wW} (hG : rx_OK G) (hN : rx_NC G) (hv : vW w n) (hn : n ≤ 512) (x : Int32) (y : Int64) : fP n w (fun C S Q => rx_H G ML_draft hL_draft (d + 9) [.ref 0, .int x, .long y, .ref 101] (gl C S) 8 2000 Q) (fun C S Q => rx_C G MX11_draft (d + 9) [.ref 52, .int x, .long y] (gl C S) 0 0 Q) mRI := by
  have hnb := hv.2.2.2.1.1.2
  have hz := hv.1.1
  rcases wi_ix x (N := 9) (by decide) with hx | ⟨k, hk, rfl⟩
  · exact ⟨1, 0, w, by decide, vW_up hv (Nat.le_succ n), fun A C S hC => rx_Hm (HL_draft_a hG hN (cf_draft_o hG hx)) (hR_x hC (by decide)), fun C S hS => rx_Cm (mf_draft_o hG hx) (mRI_t hS (fun h => absurd h (by decide)))⟩
  by_cases h0 : k = 0
  · subst h0
    exact ⟨1, 0, w, by decide, vW_up hv (Nat.le_succ n), fun A C S hC => rx_Hm (HL_draft_a hG hN (cf_draft_0 hG)) (hR_x hC (by decide)), fun C S hS => rx_Cm (mf_draft_0 hG) (mRI_t hS (fun h => absurd h (by decide)))⟩
  by_cases hro : w.1.1.length + k ≤ 200
  rotate_left
  · exact ⟨1, 0, w, by decide, vW_up hv (Nat.le_succ n), fun A C S hC => rx_Hm (HL_draft_a hG hN (cf_draft_r hG (by omega) (by omega) hz hC.1 hro)) (hR_x hC (by decide)), fun C S hS => rx_Cm (mf_draft_r hG (by omega) (by omega) hz hS.1 hro) (mRI_t hS (fun h => absurd h (by decide)))⟩
  refine ⟨0, (nI (w.1.1.length + k)).toInt64, w_draft w (vd_app y k w.1.1), by decide, ?_, fun A C S hC => rx_Hm (HL_draft hG (P := fun C' => cD C' (vd_app y k w.1.1) ∧ rc_agE (fun a => a = 1 ∨ a = 2) (fun _ => False) C C') (cf_draft hG (by omega) (by omega) hz hC.1 hro)) ?_, fun C S hS => rx_Cm (mf_draft hG (by omega) (by omega) hz hS.1 hro) ?_⟩
  · obtain ⟨v1, v2⟩ := vW_up hv (Nat.le_succ n)
    refine ⟨⟨?_, vd_all k _ v1.2⟩, v2⟩
    show (vd_app y k w.1.1).length ≤ 200
    rw [vd_len]; exact hro
  · rintro _ _ ⟨rfl, C', rfl, h1, h2⟩
    exact ⟨rfl, A, _, rfl, rcw_ag (rcw_draft hC h1 h2) rc_ag_out, fun _ => by simp [rx_ru]⟩
  · rintro _ _ ⟨rfl, S', rfl, h1, h2, h3⟩
    exact ⟨S', _, rfl, rfl, rmw_draft hS h1 h2, h3, fun _ => rfl⟩

theorem dX10_weight_0 : decode cX10_weight 0 = .ok (.iload_n 1, 1) := by decide +kernel
theorem dX10_weight_1 : decode cX10_weight 1 = .ok (.i2l, 1) := by decide +kernel
theorem dX10_weight_2 : decode cX10_weight 2 = .ok (.bipush 7, 2) := by decide +kernel
theorem dX10_weight_4 : decode cX10_weight 4 = .ok (.invokestatic 127, 3) := by decide +kernel
theorem dX10_weight_7 : decode cX10_weight 7 = .ok (.ifCond .ne 13, 3) := by decide +kernel
theorem dX10_weight_10 : decode cX10_weight 10 = .ok (.new 113, 3) := by decide +kernel
theorem dX10_weight_13 : decode cX10_weight 13 = .ok (.dup, 1) := by decide +kernel
theorem dX10_weight_14 : decode cX10_weight 14 = .ok (.ldc 131, 2) := by decide +kernel
theorem dX10_weight_16 : decode cX10_weight 16 = .ok (.invokespecial 117, 3) := by decide +kernel
theorem dX10_weight_19 : decode cX10_weight 19 = .ok (.athrow, 1) := by decide +kernel
theorem dX10_weight_20 : decode cX10_weight 20 = .ok (.iload_n 2, 1) := by decide +kernel
theorem dX10_weight_21 : decode cX10_weight 21 = .ok (.ifCond .lt 10, 3) := by decide +kernel
theorem dX10_weight_24 : decode cX10_weight 24 = .ok (.iload_n 2, 1) := by decide +kernel
theorem dX10_weight_25 : decode cX10_weight 25 = .ok (.sipush 1000, 3) := by decide +kernel
theorem dX10_weight_28 : decode cX10_weight 28 = .ok (.if_icmp .le 13, 3) := by decide +kernel
theorem dX10_weight_31 : decode cX10_weight 31 = .ok (.new 63, 3) := by decide +kernel
theorem dX10_weight_34 : decode cX10_weight 34 = .ok (.dup, 1) := by decide +kernel
theorem dX10_weight_35 : decode cX10_weight 35 = .ok (.ldc 133, 2) := by decide +kernel
theorem dX10_weight_37 : decode cX10_weight 37 = .ok (.invokespecial 67, 3) := by decide +kernel
theorem dX10_weight_40 : decode cX10_weight 40 = .ok (.athrow, 1) := by decide +kernel
theorem dX10_weight_41 : decode cX10_weight 41 = .ok (.aload_n 0, 1) := by decide +kernel
theorem dX10_weight_42 : decode cX10_weight 42 = .ok (.getfield 38, 3) := by decide +kernel
theorem dX10_weight_45 : decode cX10_weight 45 = .ok (.iconst 1, 1) := by decide +kernel
theorem dX10_weight_46 : decode cX10_weight 46 = .ok (.if_icmp .le 13, 3) := by decide +kernel
theorem dX10_weight_49 : decode cX10_weight 49 = .ok (.new 84, 3) := by decide +kernel
theorem dX10_weight_52 : decode cX10_weight 52 = .ok (.dup, 1) := by decide +kernel
theorem dX10_weight_53 : decode cX10_weight 53 = .ok (.ldc 122, 2) := by decide +kernel
theorem dX10_weight_55 : decode cX10_weight 55 = .ok (.invokespecial 88, 3) := by decide +kernel
theorem dX10_weight_58 : decode cX10_weight 58 = .ok (.athrow, 1) := by decide +kernel
theorem dX10_weight_59 : decode cX10_weight 59 = .ok (.aload_n 0, 1) := by decide +kernel
theorem dX10_weight_60 : decode cX10_weight 60 = .ok (.getfield 42, 3) := by decide +kernel
theorem dX10_weight_63 : decode cX10_weight 63 = .ok (.iload_n 1, 1) := by decide +kernel
theorem dX10_weight_64 : decode cX10_weight 64 = .ok (.iload_n 2, 1) := by decide +kernel
theorem dX10_weight_65 : decode cX10_weight 65 = .ok (.iastore, 1) := by decide +kernel
theorem dX10_weight_66 : decode cX10_weight 66 = .ok (.return_, 1) := by decide +kernel
theorem dX10_endow_0 : decode cX10_endow 0 = .ok (.iload_n 1, 1) := by decide +kernel
theorem dX10_endow_1 : decode cX10_endow 1 = .ok (.i2l, 1) := by decide +kernel
theorem dX10_endow_2 : decode cX10_endow 2 = .ok (.invokestatic 106, 3) := by decide +kernel
theorem dX10_endow_5 : decode cX10_endow 5 = .ok (.ifCond .eq 25, 3) := by decide +kernel
theorem dX10_endow_8 : decode cX10_endow 8 = .ok (.iload 4, 2) := by decide +kernel
theorem dX10_endow_10 : decode cX10_endow 10 = .ok (.iconst (-1), 1) := by decide +kernel
theorem dX10_endow_11 : decode cX10_endow 11 = .ok (.if_icmp .eq 29, 3) := by decide +kernel
theorem dX10_endow_14 : decode cX10_endow 14 = .ok (.aload_n 0, 1) := by decide +kernel
theorem dX10_endow_15 : decode cX10_endow 15 = .ok (.getfield 19, 3) := by decide +kernel
theorem dX10_endow_18 : decode cX10_endow 18 = .ok (.getfield 74, 3) := by decide +kernel
theorem dX10_endow_21 : decode cX10_endow 21 = .ok (.iload 4, 2) := by decide +kernel
theorem dX10_endow_23 : decode cX10_endow 23 = .ok (.i2l, 1) := by decide +kernel
theorem dX10_endow_24 : decode cX10_endow 24 = .ok (.invokevirtual 110, 3) := by decide +kernel
theorem dX10_endow_27 : decode cX10_endow 27 = .ok (.ifCond .ne 13, 3) := by decide +kernel
theorem dX10_endow_30 : decode cX10_endow 30 = .ok (.new 113, 3) := by decide +kernel
theorem dX10_endow_33 : decode cX10_endow 33 = .ok (.dup, 1) := by decide +kernel
theorem dX10_endow_34 : decode cX10_endow 34 = .ok (.ldc 115, 2) := by decide +kernel
theorem dX10_endow_36 : decode cX10_endow 36 = .ok (.invokespecial 117, 3) := by decide +kernel
theorem dX10_endow_39 : decode cX10_endow 39 = .ok (.athrow, 1) := by decide +kernel
theorem dX10_endow_40 : decode cX10_endow 40 = .ok (.lload_n 2, 1) := by decide +kernel
theorem dX10_endow_41 : decode cX10_endow 41 = .ok (.lconst 0, 1) := by decide +kernel
theorem dX10_endow_42 : decode cX10_endow 42 = .ok (.lcmp, 1) := by decide +kernel
theorem dX10_endow_43 : decode cX10_endow 43 = .ok (.ifCond .lt 11, 3) := by decide +kernel
theorem dX10_endow_46 : decode cX10_endow 46 = .ok (.lload_n 2, 1) := by decide +kernel
theorem dX10_endow_47 : decode cX10_endow 47 = .ok (.ldc2_w 118, 3) := by decide +kernel
theorem dX10_endow_50 : decode cX10_endow 50 = .ok (.lcmp, 1) := by decide +kernel
theorem dX10_endow_51 : decode cX10_endow 51 = .ok (.ifCond .le 13, 3) := by decide +kernel
theorem dX10_endow_54 : decode cX10_endow 54 = .ok (.new 63, 3) := by decide +kernel
theorem dX10_endow_57 : decode cX10_endow 57 = .ok (.dup, 1) := by decide +kernel
theorem dX10_endow_58 : decode cX10_endow 58 = .ok (.ldc 120, 2) := by decide +kernel
theorem dX10_endow_60 : decode cX10_endow 60 = .ok (.invokespecial 67, 3) := by decide +kernel
theorem dX10_endow_63 : decode cX10_endow 63 = .ok (.athrow, 1) := by decide +kernel
theorem dX10_endow_64 : decode cX10_endow 64 = .ok (.aload_n 0, 1) := by decide +kernel
theorem dX10_endow_65 : decode cX10_endow 65 = .ok (.getfield 38, 3) := by decide +kernel
theorem dX10_endow_68 : decode cX10_endow 68 = .ok (.iconst 1, 1) := by decide +kernel
theorem dX10_endow_69 : decode cX10_endow 69 = .ok (.if_icmp .le 13, 3) := by decide +kernel
theorem dX10_endow_72 : decode cX10_endow 72 = .ok (.new 84, 3) := by decide +kernel
theorem dX10_endow_75 : decode cX10_endow 75 = .ok (.dup, 1) := by decide +kernel
theorem dX10_endow_76 : decode cX10_endow 76 = .ok (.ldc 122, 2) := by decide +kernel
theorem dX10_endow_78 : decode cX10_endow 78 = .ok (.invokespecial 88, 3) := by decide +kernel
theorem dX10_endow_81 : decode cX10_endow 81 = .ok (.athrow, 1) := by decide +kernel
theorem dX10_endow_82 : decode cX10_endow 82 = .ok (.aload_n 0, 1) := by decide +kernel
theorem dX10_endow_83 : decode cX10_endow 83 = .ok (.getfield 31, 3) := by decide +kernel
theorem dX10_endow_86 : decode cX10_endow 86 = .ok (.iconst 0, 1) := by decide +kernel
theorem dX10_endow_87 : decode cX10_endow 87 = .ok (.aaload, 1) := by decide +kernel
theorem dX10_endow_88 : decode cX10_endow 88 = .ok (.getfield 124, 3) := by decide +kernel
theorem dX10_endow_91 : decode cX10_endow 91 = .ok (.astore 5, 2) := by decide +kernel
theorem dX10_endow_93 : decode cX10_endow 93 = .ok (.aload 5, 2) := by decide +kernel
theorem dX10_endow_95 : decode cX10_endow 95 = .ok (.bipush 32, 2) := by decide +kernel
theorem dX10_endow_97 : decode cX10_endow 97 = .ok (.iload_n 1, 1) := by decide +kernel
theorem dX10_endow_98 : decode cX10_endow 98 = .ok (.imul, 1) := by decide +kernel
theorem dX10_endow_99 : decode cX10_endow 99 = .ok (.lload_n 2, 1) := by decide +kernel
theorem dX10_endow_100 : decode cX10_endow 100 = .ok (.lastore, 1) := by decide +kernel
theorem dX10_endow_101 : decode cX10_endow 101 = .ok (.aload 5, 2) := by decide +kernel
theorem dX10_endow_103 : decode cX10_endow 103 = .ok (.bipush 32, 2) := by decide +kernel
theorem dX10_endow_105 : decode cX10_endow 105 = .ok (.iload_n 1, 1) := by decide +kernel
theorem dX10_endow_106 : decode cX10_endow 106 = .ok (.imul, 1) := by decide +kernel
theorem dX10_endow_107 : decode cX10_endow 107 = .ok (.iconst 2, 1) := by decide +kernel
theorem dX10_endow_108 : decode cX10_endow 108 = .ok (.iadd, 1) := by decide +kernel
theorem dX10_endow_109 : decode cX10_endow 109 = .ok (.iload 4, 2) := by decide +kernel
theorem dX10_endow_111 : decode cX10_endow 111 = .ok (.iconst (-1), 1) := by decide +kernel
theorem dX10_endow_112 : decode cX10_endow 112 = .ok (.if_icmp .ne 7, 3) := by decide +kernel
theorem dX10_endow_115 : decode cX10_endow 115 = .ok (.lconst 0, 1) := by decide +kernel
theorem dX10_endow_116 : decode cX10_endow 116 = .ok (.goto 8, 3) := by decide +kernel
theorem dX10_endow_119 : decode cX10_endow 119 = .ok (.iload 4, 2) := by decide +kernel
theorem dX10_endow_121 : decode cX10_endow 121 = .ok (.iconst 1, 1) := by decide +kernel
theorem dX10_endow_122 : decode cX10_endow 122 = .ok (.iadd, 1) := by decide +kernel
theorem dX10_endow_123 : decode cX10_endow 123 = .ok (.i2l, 1) := by decide +kernel
theorem dX10_endow_124 : decode cX10_endow 124 = .ok (.lastore, 1) := by decide +kernel
theorem dX10_endow_125 : decode cX10_endow 125 = .ok (.return_, 1) := by decide +kernel
theorem dX11_weight_0 : decode cX11_weight 0 = .ok (.aload_n 0, 1) := by decide +kernel
theorem dX11_weight_1 : decode cX11_weight 1 = .ok (.iload_n 1, 1) := by decide +kernel
theorem dX11_weight_2 : decode cX11_weight 2 = .ok (.ifCond .lt 9, 3) := by decide +kernel
theorem dX11_weight_5 : decode cX11_weight 5 = .ok (.iload_n 1, 1) := by decide +kernel
theorem dX11_weight_6 : decode cX11_weight 6 = .ok (.bipush 6, 2) := by decide +kernel
theorem dX11_weight_8 : decode cX11_weight 8 = .ok (.if_icmp .le 7, 3) := by decide +kernel
theorem dX11_weight_11 : decode cX11_weight 11 = .ok (.iconst 1, 1) := by decide +kernel
theorem dX11_weight_12 : decode cX11_weight 12 = .ok (.goto 31, 3) := by decide +kernel
theorem dX11_weight_15 : decode cX11_weight 15 = .ok (.iload_n 2, 1) := by decide +kernel
theorem dX11_weight_16 : decode cX11_weight 16 = .ok (.ifCond .lt 10, 3) := by decide +kernel
theorem dX11_weight_19 : decode cX11_weight 19 = .ok (.iload_n 2, 1) := by decide +kernel
theorem dX11_weight_20 : decode cX11_weight 20 = .ok (.sipush 1000, 3) := by decide +kernel
theorem dX11_weight_23 : decode cX11_weight 23 = .ok (.if_icmp .le 7, 3) := by decide +kernel
theorem dX11_weight_26 : decode cX11_weight 26 = .ok (.iconst 2, 1) := by decide +kernel
theorem dX11_weight_27 : decode cX11_weight 27 = .ok (.goto 16, 3) := by decide +kernel
theorem dX11_weight_30 : decode cX11_weight 30 = .ok (.aload_n 0, 1) := by decide +kernel
theorem dX11_weight_31 : decode cX11_weight 31 = .ok (.getfield 156, 3) := by decide +kernel
theorem dX11_weight_34 : decode cX11_weight 34 = .ok (.iconst 1, 1) := by decide +kernel
theorem dX11_weight_35 : decode cX11_weight 35 = .ok (.if_icmp .le 7, 3) := by decide +kernel
theorem dX11_weight_38 : decode cX11_weight 38 = .ok (.iconst 3, 1) := by decide +kernel
theorem dX11_weight_39 : decode cX11_weight 39 = .ok (.goto 4, 3) := by decide +kernel
theorem dX11_weight_42 : decode cX11_weight 42 = .ok (.iconst 0, 1) := by decide +kernel
theorem dX11_weight_43 : decode cX11_weight 43 = .ok (.putfield 160, 3) := by decide +kernel
theorem dX11_weight_46 : decode cX11_weight 46 = .ok (.aload_n 0, 1) := by decide +kernel
theorem dX11_weight_47 : decode cX11_weight 47 = .ok (.getfield 160, 3) := by decide +kernel
theorem dX11_weight_50 : decode cX11_weight 50 = .ok (.ifCond .ne 10, 3) := by decide +kernel
theorem dX11_weight_53 : decode cX11_weight 53 = .ok (.aload_n 0, 1) := by decide +kernel
theorem dX11_weight_54 : decode cX11_weight 54 = .ok (.getfield 90, 3) := by decide +kernel
theorem dX11_weight_57 : decode cX11_weight 57 = .ok (.iload_n 1, 1) := by decide +kernel
theorem dX11_weight_58 : decode cX11_weight 58 = .ok (.iload_n 2, 1) := by decide +kernel
theorem dX11_weight_59 : decode cX11_weight 59 = .ok (.iastore, 1) := by decide +kernel
theorem dX11_weight_60 : decode cX11_weight 60 = .ok (.return_, 1) := by decide +kernel
theorem dX11_endow_0 : decode cX11_endow 0 = .ok (.aload_n 0, 1) := by decide +kernel
theorem dX11_endow_1 : decode cX11_endow 1 = .ok (.iload_n 1, 1) := by decide +kernel
theorem dX11_endow_2 : decode cX11_endow 2 = .ok (.i2l, 1) := by decide +kernel
theorem dX11_endow_3 : decode cX11_endow 3 = .ok (.invokestatic 181, 3) := by decide +kernel
theorem dX11_endow_6 : decode cX11_endow 6 = .ok (.ifCond .eq 18, 3) := by decide +kernel
theorem dX11_endow_9 : decode cX11_endow 9 = .ok (.iload 4, 2) := by decide +kernel
theorem dX11_endow_11 : decode cX11_endow 11 = .ok (.iconst (-1), 1) := by decide +kernel
theorem dX11_endow_12 : decode cX11_endow 12 = .ok (.if_icmp .lt 12, 3) := by decide +kernel
theorem dX11_endow_15 : decode cX11_endow 15 = .ok (.iload 4, 2) := by decide +kernel
theorem dX11_endow_17 : decode cX11_endow 17 = .ok (.aload_n 0, 1) := by decide +kernel
theorem dX11_endow_18 : decode cX11_endow 18 = .ok (.getfield 172, 3) := by decide +kernel
theorem dX11_endow_21 : decode cX11_endow 21 = .ok (.if_icmp .lt 7, 3) := by decide +kernel
theorem dX11_endow_24 : decode cX11_endow 24 = .ok (.iconst 1, 1) := by decide +kernel
theorem dX11_endow_25 : decode cX11_endow 25 = .ok (.goto 34, 3) := by decide +kernel
theorem dX11_endow_28 : decode cX11_endow 28 = .ok (.lload_n 2, 1) := by decide +kernel
theorem dX11_endow_29 : decode cX11_endow 29 = .ok (.lconst 0, 1) := by decide +kernel
theorem dX11_endow_30 : decode cX11_endow 30 = .ok (.lcmp, 1) := by decide +kernel
theorem dX11_endow_31 : decode cX11_endow 31 = .ok (.ifCond .lt 11, 3) := by decide +kernel
theorem dX11_endow_34 : decode cX11_endow 34 = .ok (.lload_n 2, 1) := by decide +kernel
theorem dX11_endow_35 : decode cX11_endow 35 = .ok (.ldc2_w 185, 3) := by decide +kernel
theorem dX11_endow_38 : decode cX11_endow 38 = .ok (.lcmp, 1) := by decide +kernel
theorem dX11_endow_39 : decode cX11_endow 39 = .ok (.ifCond .le 7, 3) := by decide +kernel
theorem dX11_endow_42 : decode cX11_endow 42 = .ok (.iconst 2, 1) := by decide +kernel
theorem dX11_endow_43 : decode cX11_endow 43 = .ok (.goto 16, 3) := by decide +kernel
theorem dX11_endow_46 : decode cX11_endow 46 = .ok (.aload_n 0, 1) := by decide +kernel
theorem dX11_endow_47 : decode cX11_endow 47 = .ok (.getfield 156, 3) := by decide +kernel
theorem dX11_endow_50 : decode cX11_endow 50 = .ok (.iconst 1, 1) := by decide +kernel
theorem dX11_endow_51 : decode cX11_endow 51 = .ok (.if_icmp .le 7, 3) := by decide +kernel
theorem dX11_endow_54 : decode cX11_endow 54 = .ok (.iconst 3, 1) := by decide +kernel
theorem dX11_endow_55 : decode cX11_endow 55 = .ok (.goto 4, 3) := by decide +kernel
theorem dX11_endow_58 : decode cX11_endow 58 = .ok (.iconst 0, 1) := by decide +kernel
theorem dX11_endow_59 : decode cX11_endow 59 = .ok (.putfield 160, 3) := by decide +kernel
theorem dX11_endow_62 : decode cX11_endow 62 = .ok (.aload_n 0, 1) := by decide +kernel
theorem dX11_endow_63 : decode cX11_endow 63 = .ok (.getfield 160, 3) := by decide +kernel
theorem dX11_endow_66 : decode cX11_endow 66 = .ok (.ifCond .ne 29, 3) := by decide +kernel
theorem dX11_endow_69 : decode cX11_endow 69 = .ok (.aload_n 0, 1) := by decide +kernel
theorem dX11_endow_70 : decode cX11_endow 70 = .ok (.getfield 66, 3) := by decide +kernel
theorem dX11_endow_73 : decode cX11_endow 73 = .ok (.bipush 19, 2) := by decide +kernel
theorem dX11_endow_75 : decode cX11_endow 75 = .ok (.iload_n 1, 1) := by decide +kernel
theorem dX11_endow_76 : decode cX11_endow 76 = .ok (.imul, 1) := by decide +kernel
theorem dX11_endow_77 : decode cX11_endow 77 = .ok (.lload_n 2, 1) := by decide +kernel
theorem dX11_endow_78 : decode cX11_endow 78 = .ok (.lastore, 1) := by decide +kernel
theorem dX11_endow_79 : decode cX11_endow 79 = .ok (.aload_n 0, 1) := by decide +kernel
theorem dX11_endow_80 : decode cX11_endow 80 = .ok (.getfield 66, 3) := by decide +kernel
theorem dX11_endow_83 : decode cX11_endow 83 = .ok (.bipush 19, 2) := by decide +kernel
theorem dX11_endow_85 : decode cX11_endow 85 = .ok (.iload_n 1, 1) := by decide +kernel
theorem dX11_endow_86 : decode cX11_endow 86 = .ok (.imul, 1) := by decide +kernel
theorem dX11_endow_87 : decode cX11_endow 87 = .ok (.iconst 2, 1) := by decide +kernel
theorem dX11_endow_88 : decode cX11_endow 88 = .ok (.iadd, 1) := by decide +kernel
theorem dX11_endow_89 : decode cX11_endow 89 = .ok (.iload 4, 2) := by decide +kernel
theorem dX11_endow_91 : decode cX11_endow 91 = .ok (.iconst 1, 1) := by decide +kernel
theorem dX11_endow_92 : decode cX11_endow 92 = .ok (.iadd, 1) := by decide +kernel
theorem dX11_endow_93 : decode cX11_endow 93 = .ok (.i2l, 1) := by decide +kernel
theorem dX11_endow_94 : decode cX11_endow 94 = .ok (.lastore, 1) := by decide +kernel
theorem dX11_endow_95 : decode cX11_endow 95 = .ok (.return_, 1) := by decide +kernel
def hRV (S : gs_T) (w : wW) (t : Nat) (v : Option Value) (mu : rx_M) : Prop := v = some (.int (nI t)) ∧ ∃ A C', mu = gl C' S ∧ rcw A C' w
def fPV (n : Nat) (w : wW) (Hc : rx_M → gs_T → (Option Value → rx_M → Prop) → Prop) (Mc : rx_M → gs_T → (Option Value → rx_M → Prop) → Prop) : Prop :=
  ∃ t w', t < 4 ∧ vW w' (n + 1) ∧ (∀ A C S, rcw A C w → Hc C S (hRV S w' t)) ∧ (∀ C S, rmw S w → Mc C S (mRV C w' t 0))
theorem hRV_x {C : rx_M} {S : gs_T} {A : wP} {w : wW} {t : Nat} (hC : rcw A C w) : ∀ v mu, (v = some (.int (nI t)) ∧ ∃ C', mu = gl C' S ∧ rc_ag C C') → hRV S w t v mu := by
  rintro _ _ ⟨rfl, C', rfl, hg⟩
  exact ⟨rfl, A, C', rfl, rcw_ag hC hg⟩
theorem hRV_v {S : gs_T} {A : wP} {w : wW} {C1 : rx_M} (hC : rcw A C1 w) : ∀ v mu, (v = some (.int (nI 0)) ∧ ∃ C', mu = gl C' S ∧ C' = C1) → hRV S w 0 v mu := by
  rintro _ _ ⟨rfl, C', rfl, rfl⟩
  exact ⟨rfl, A, _, rfl, hC⟩
theorem agE_L {C : rx_M} {u j : Nat} {y : Int64} : rc_agE (fun a => a = u) (fun _ => False) C (C.1, rx_u C.2.1 u j y, C.2.2) := ⟨fun a h _ _ => ⟨rfl, rx_une _ h⟩, fun _ _ _ _ => rfl, fun _ _ _ => rfl, Nat.le_refl _⟩
theorem agE_L2 {C : rx_M} {u j j' : Nat} {y y' : Int64} : rc_agE (fun a => a = u) (fun _ => False) C (C.1, rx_u (rx_u C.2.1 u j y) u j' y', C.2.2) := ⟨fun a h _ _ => ⟨rfl, (rx_une _ h).trans (rx_une _ h)⟩, fun _ _ _ _ => rfl, fun _ _ _ => rfl, Nat.le_refl _⟩
theorem agE_I {C : rx_M} {u j : Nat} {y : Int32} : rc_agE (fun a => a = u) (fun _ => False) C (rx_u C.1 u j y, C.2) := ⟨fun a h _ _ => ⟨rx_une _ h, rfl⟩, fun _ _ _ _ => rfl, fun _ _ _ => rfl, Nat.le_refl _⟩
/-- the model's rows but for those of E and the fields of F -/
def rm_agE (E F : Nat → Prop) (S S' : gs_T) : Prop := (∀ a, ¬ E a → 53 ≤ a → a < 82 → a ≠ 56 → S'.1 a = S.1 a ∧ S'.2 a = S.2 a) ∧ ∀ k, ¬ F k → (k = 3 ∨ k = 5 ∨ k = 7 ∨ k = 15 ∨ k = 61 ∨ k = 62 ∨ k = 63) → S'.1 52 k = S.1 52 k
section MAG
variable {E F : Nat → Prop} {S S' : gs_T}
theorem mD_agE {ds : List Nat} (h : mD S ds) (hg : rm_agE E F S S') (e : ¬ E 55) (f : ¬ F 5) : mD S' ds := by
  unfold mD; rw [hg.2 5 f (by omega), (hg.1 55 e (by omega) (by omega) (by omega)).1]; exact h
theorem mK_agE {cs : Nat → List Nat} {N : Nat} (h : mK S cs N) (hg : rm_agE E F S S') (e1 : ¬ E 53) (e2 : ¬ E 54) (f : ¬ F 3) : mK S' cs N := by
  unfold mK; rw [hg.2 3 f (by omega), (hg.1 53 e1 (by omega) (by omega) (by omega)).1, (hg.1 54 e2 (by omega) (by omega) (by omega)).1]; exact h
theorem mO_agE {N : Nat} {q : Nat → wO} (h : mO S N q) (hg : rm_agE E F S S') (e : ∀ a, 57 ≤ a → a ≤ 63 → ¬ E a) (f : ¬ F 7) : mO S' N q := by
  have e' : ∀ a, 57 ≤ a → a ≤ 63 → S'.1 a = S.1 a ∧ S'.2 a = S.2 a := fun a h1 h2 => hg.1 a (e a h1 h2) (by omega) (by omega) (by omega)
  unfold mO; rw [hg.2 7 f (by omega), (e' 57 (by decide) (by decide)).1, (e' 58 (by decide) (by decide)).1, (e' 59 (by decide) (by decide)).2, (e' 60 (by decide) (by decide)).2, (e' 61 (by decide) (by decide)).1, (e' 62 (by decide) (by decide)).1, (e' 63 (by decide) (by decide)).1]; exact h
theorem mB_agE {ws : Nat → Nat} {N : Nat} {q : Nat → wB} (h : mB S ws N q) (hg : rm_agE E F S S') (e : ∀ a, 64 ≤ a → a ≤ 78 → ¬ E a) (f : ¬ F 15) : mB S' ws N q := by
  have e' : ∀ a, 64 ≤ a → a ≤ 78 → S'.1 a = S.1 a ∧ S'.2 a = S.2 a := fun a h1 h2 => hg.1 a (e a h1 h2) (by omega) (by omega) (by omega)
  unfold mB mB1; rw [hg.2 15 f (by omega), (e' 64 (by decide) (by decide)).1, (e' 65 (by decide) (by decide)).1, (e' 66 (by decide) (by decide)).1, (e' 67 (by decide) (by decide)).1, (e' 68 (by decide) (by decide)).1, (e' 69 (by decide) (by decide)).1, (e' 70 (by decide) (by decide)).1, (e' 71 (by decide) (by decide)).2, (e' 72 (by decide) (by decide)).1, (e' 73 (by decide) (by decide)).1, (e' 74 (by decide) (by decide)).2, (e' 75 (by decide) (by decide)).1, (e' 76 (by decide) (by decide)).2, (e' 77 (by decide) (by decide)).2, (e' 78 (by decide) (by decide)).1]; exact h
theorem mV_agE {ws : Nat → Nat} {vt : Nat → Int64} (h : mV S ws vt) (hg : rm_agE E F S S') (e1 : ¬ E 79) (e2 : ¬ E 80) : mV S' ws vt := by
  unfold mV; rw [(hg.1 79 e1 (by omega) (by omega) (by omega)).1, (hg.1 80 e2 (by omega) (by omega) (by omega)).1]; exact h
theorem mS_agE {bs : Nat → Int64} (h : mS S bs) (hg : rm_agE E F S S') (e1 : ¬ E 81) : mS S' bs := by
  unfold mS; rw [(hg.1 81 e1 (by omega) (by omega) (by omega)).2]; exact h
theorem mN_agE {q : Int32 × Int32 × Int32} (h : mN S q) (hg : rm_agE E F S S') (f : ∀ k, 61 ≤ k → k ≤ 63 → ¬ F k) : mN S' q := by
  unfold mN; rw [hg.2 61 (f 61 (by decide) (by decide)) (by omega), hg.2 62 (f 62 (by decide) (by decide)) (by omega), hg.2 63 (f 63 (by decide) (by decide)) (by omega)]; exact h
end MAG
theorem maE_L {S : gs_T} {u j : Nat} {x : Int32} {y : Int64} : rm_agE (fun a => a = u) (fun _ => False) S (rx_u S.1 52 0 x, rx_u S.2 u j y) := ⟨fun a h _ _ _ => ⟨rx_une _ (by omega), rx_une _ h⟩, fun k _ hk => by show rx_u S.1 52 0 x 52 k = _; rw [rx_ru, if_pos rfl, if_neg (by omega)]⟩
theorem maE_L2 {S : gs_T} {u j j' : Nat} {x : Int32} {y y' : Int64} : rm_agE (fun a => a = u) (fun _ => False) S (rx_u S.1 52 0 x, rx_u (rx_u S.2 u j y) u j' y') := ⟨fun a h _ _ _ => ⟨rx_une _ (by omega), (rx_une _ h).trans (rx_une _ h)⟩, fun k _ hk => by show rx_u S.1 52 0 x 52 k = _; rw [rx_ru, if_pos rfl, if_neg (by omega)]⟩
theorem maE_I {S : gs_T} {u j : Nat} {x y : Int32} (hu : u ≠ 52) : rm_agE (fun a => a = u) (fun _ => False) S (rx_u (rx_u S.1 52 0 x) u j y, S.2) := ⟨fun a h _ _ _ => ⟨(rx_une _ h).trans (rx_une _ (by omega)), rfl⟩, fun k _ hk => by show rx_u (rx_u S.1 52 0 x) u j y 52 k = _; rw [rx_une _ (fun q => hu q.symm), rx_ru, if_pos rfl, if_neg (by omega)]⟩
theorem noF (k : Nat) : ¬ (fun _ : Nat => False) k := fun h => h
def w_bes (w : wW) (i : Nat) (y : Int64) : wW := (w.1, w.2.1, w.2.2.1, w.2.2.2.1, (fun k => if k = i then y else w.2.2.2.2.1 k), w.2.2.2.2.2)
theorem rcw_bes {A : wP} {C : rx_M} {w : wW} {i : Nat} {y : Int64} (h : rcw A C w) : rcw A (C.1, rx_u C.2.1 51 i y, C.2.2) (w_bes w i y) := by
  have hg := agE_L (C := C) (u := 51) (j := i) (y := y)
  refine ⟨cD_agE h.1 hg (by decide) (by decide), cK_agE h.2.1 hg (by decide) (by decide) (fun a ha => by show ¬ a = 51; omega) (fun a _ => noF a), cO_agE h.2.2.1 hg (by decide) (by decide) (fun a ha => by show ¬ a = 51; omega), cB_agE h.2.2.2.1 hg (by decide) (by decide) (by decide) (fun a _ _ => by show ¬ a = 51; omega) (fun a _ _ => noF a), cV_agE h.2.2.2.2.1 hg (by decide) (by decide), fun k hk => ?_, cN_agE h.2.2.2.2.2.2 hg (by decide)⟩
  show rx_u C.2.1 51 i y 51 k = if k = i then y else w.2.2.2.2.1 k
  rw [rx_ru, if_pos rfl]
  split
  · rfl
  · exact h.2.2.2.2.2.1 k hk
theorem rmw_bes {S : gs_T} {w : wW} {i : Nat} {y : Int64} {x : Int32} (h : rmw S w) : rmw (rx_u S.1 52 0 x, rx_u S.2 81 i y) (w_bes w i y) := by
  have hg := maE_L (S := S) (u := 81) (j := i) (x := x) (y := y)
  refine ⟨mD_agE h.1 hg (by decide) (noF 5), mK_agE h.2.1 hg (by decide) (by decide) (noF 3), mO_agE h.2.2.1 hg (fun a _ _ => by show ¬ a = 81; omega) (noF 7), mB_agE h.2.2.2.1 hg (fun a _ _ => by show ¬ a = 81; omega) (noF 15), mV_agE h.2.2.2.2.1 hg (by decide) (by decide), fun k hk => ?_, mN_agE h.2.2.2.2.2.2 hg (fun k _ _ => noF k)⟩
  show rx_u S.2 81 i y 81 k = if k = i then y else w.2.2.2.2.1 k
  rw [rx_ru, if_pos rfl]
  split
  · rfl
  · exact h.2.2.2.2.2.1 k hk
theorem F_beside {G : rx_E} {d n : Nat} {w : wW} (hG : rx_OK G) (hN : rx_NC G) (hv : vW w n) (hn : n ≤ 512) (x : Int32) (y : Int64) : fPV n w (fun C S Q => rx_H G ML_beside hL_beside (d + 9) [.ref 0, .int x, .long y] (gl C S) 8 2000 Q) (fun C S Q => rx_C G MX11_beside (d + 9) [.ref 52, .int x, .long y] (gl C S) 0 0 Q) := by
  have hnb := hv.2.2.2.1.1.2
  rcases wi_ix x (N := 10) (by decide) with hx | ⟨i, hi, rfl⟩
  · exact ⟨1, w, by decide, vW_up hv (Nat.le_succ n), fun A C S hC => rx_Hm (HL_beside_x hG hN (cf_beside_w hG hx)) (hRV_x hC), fun C S hS => rx_Cm (mf_beside_w hG hx) (mRV_t hS)⟩
  refine ⟨0, w_bes w i y, by decide, vW_up hv (Nat.le_succ n), fun A C S hC => rx_Hm (HL_beside hG (cf_beside hG hi)) (hRV_v (rcw_bes hC)), fun C S hS => rx_Cm (mf_beside hG hi) ?_⟩
  rintro _ _ ⟨rfl, rfl⟩
  exact ⟨_, rfl, rfl, rmw_bes hS, by simp [rx_ru]⟩
theorem cf_weight_v {G : rx_E} {d : Nat} {C : rx_M} {S : gs_T} (hG : rx_OK G) {x y : Int32} (hx : wi_out x 7) : rx_X G MX10_weight (d + 8) [.ref 0, .int x, .int y] (gl C S) 8 2000 (fun _ _ => False) (zq C S "java/lang/IndexOutOfBoundsException") := by
  refine rx_meth (by decide +kernel) rfl (Nat.le_of_ble_eq_true rfl) ?_
  refine rx_iload_n dX10_weight_0 rfl ?_
  refine rx_i2l dX10_weight_1 ?_
  refine rx_bipush (v := nI 7) dX10_weight_2 rfl ?_
  refine rx_invS0 (as := [.long _, .int _]) hG okX10_isWithin lk_RX10_127 dX10_weight_4 rfl (by simp [Value.category]) (cw_out hG hx (by omega)) ?_
  rintro _ _ ⟨rfl, rfl⟩
  refine rx_if_ne (tgt := 20) dX10_weight_7 (by decide) (fun h7 => (absurd h7 (by decide))) (fun h7 => ?_)
  exact gx_throw hG rfl rfl th_x hw_853 dX10_weight_10 dX10_weight_13 dX10_weight_14 dX10_weight_16 dX10_weight_19
theorem cf_weight_w {G : rx_E} {d : Nat} {C : rx_M} {S : gs_T} (hG : rx_OK G) {v : Nat} {y : Int32} (hv : v < 7) (hy : wi_out y 1001) : rx_X G MX10_weight (d + 8) [.ref 0, .int (nI v), .int y] (gl C S) 8 2000 (fun _ _ => False) (zq C S "java/lang/IllegalArgumentException") := by
  refine rx_meth (by decide +kernel) rfl (Nat.le_of_ble_eq_true rfl) ?_
  refine rx_iload_n dX10_weight_0 rfl ?_
  refine rx_i2l dX10_weight_1 ?_
  refine rx_tl (y := lN v) (nI_l (by omega)) ?_
  refine rx_bipush (v := nI 7) dX10_weight_2 rfl ?_
  refine rx_invS0 (as := [.long _, .int _]) hG okX10_isWithin lk_RX10_127 dX10_weight_4 rfl (by simp [Value.category]) (cw_in hG hv (by omega)) ?_
  rintro _ _ ⟨rfl, rfl⟩
  refine rx_if_ne (tgt := 20) dX10_weight_7 (by decide) (fun h7 => ?_) (fun h7 => (absurd h7 (by decide))) 
  refine rx_iload_n dX10_weight_20 rfl ?_
  refine rx_if_lt (tgt := 31) dX10_weight_21 (by decide) (fun h21 => ?_) (fun h21 => ?_)
  · exact gx_throw hG rfl rfl th_a hw_854 dX10_weight_31 dX10_weight_34 dX10_weight_35 dX10_weight_37 dX10_weight_40
  · refine rx_iload_n dX10_weight_24 rfl ?_
    refine rx_sipush (v := nI 1000) dX10_weight_25 rfl ?_
    refine rx_icmp_le (tgt := 41) dX10_weight_28 (by decide) (fun h28 => wi_d3 hy (by decide) (by decide) h21 h28) (fun h28 => ?_)
    exact gx_throw hG rfl rfl th_a hw_854 dX10_weight_31 dX10_weight_34 dX10_weight_35 dX10_weight_37 dX10_weight_40
theorem cf_weight_b {G : rx_E} {d : Nat} {C : rx_M} {S : gs_T} (hG : rx_OK G) {nb : Nat} (h05 : C.1 0 5 = nI nb) (hnb : nb ≤ 40) {v x : Nat} (hv : v < 7) (hx : x < 1001) (h1 : 1 < nb) : rx_X G MX10_weight (d + 8) [.ref 0, .int (nI v), .int (nI x)] (gl C S) 8 2000 (fun _ _ => False) (zq C S "java/lang/IllegalStateException") := by
  refine rx_meth (by decide +kernel) rfl (Nat.le_of_ble_eq_true rfl) ?_
  refine rx_iload_n dX10_weight_0 rfl ?_
  refine rx_i2l dX10_weight_1 ?_
  refine rx_tl (y := lN v) (nI_l (by omega)) ?_
  refine rx_bipush (v := nI 7) dX10_weight_2 rfl ?_
  refine rx_invS0 (as := [.long _, .int _]) hG okX10_isWithin lk_RX10_127 dX10_weight_4 rfl (by simp [Value.category]) (cw_in hG hv (by omega)) ?_
  rintro _ _ ⟨rfl, rfl⟩
  refine rx_if_ne (tgt := 20) dX10_weight_7 (by decide) (fun h7 => ?_) (fun h7 => (absurd h7 (by decide))) 
  refine rx_iload_n dX10_weight_20 rfl ?_
  refine rx_if_lt (tgt := 31) dX10_weight_21 (by decide) (fun h21 => (absurd h21 (nI_pos (by omega)))) (fun h21 => ?_)
  refine rx_iload_n dX10_weight_24 rfl ?_
  refine rx_sipush (v := nI 1000) dX10_weight_25 rfl ?_
  refine rx_icmp_le (tgt := 41) dX10_weight_28 (by decide) (fun h28 => ?_) (fun h28 => (absurd (by rw [nI_leI (by omega) (by omega)]; omega) h28)) 
  refine rx_aload_n dX10_weight_41 rfl rfl ?_
  refine gcv_getI (v := nI nb) hG hf_RX10_38 rfl dX10_weight_42 rfl rfl rfl h05 ?_
  refine rx_iconst (v := nI 1) dX10_weight_45 rfl ?_
  refine rx_icmp_le (tgt := 59) dX10_weight_46 (by decide) (fun h46 => (absurd h46 (by rw [nI_leI (by omega) (by omega)]; omega))) (fun h46 => ?_)
  exact gx_throw hG rfl rfl th_s hw_852 dX10_weight_49 dX10_weight_52 dX10_weight_53 dX10_weight_55 dX10_weight_58
theorem cf_weight {G : rx_E} {d : Nat} {C : rx_M} {S : gs_T} (hG : rx_OK G) {nb : Nat} (h05 : C.1 0 5 = nI nb) (hnb : nb ≤ 40) {v x : Nat} (hv : v < 7) (hx : x < 1001) (h1 : ¬ 1 < nb) : rx_X G MX10_weight (d + 8) [.ref 0, .int (nI v), .int (nI x)] (gl C S) 8 2000 (fun vv mu => vv = none ∧ ∃ C', mu = gl C' S ∧ C' = (rx_u C.1 49 v (nI x), C.2)) (fun _ _ => False) := by
  refine rx_meth (by decide +kernel) rfl (Nat.le_of_ble_eq_true rfl) ?_
  refine rx_iload_n dX10_weight_0 rfl ?_
  refine rx_i2l dX10_weight_1 ?_
  refine rx_tl (y := lN v) (nI_l (by omega)) ?_
  refine rx_bipush (v := nI 7) dX10_weight_2 rfl ?_
  refine rx_invS0 (as := [.long _, .int _]) hG okX10_isWithin lk_RX10_127 dX10_weight_4 rfl (by simp [Value.category]) (cw_in hG hv (by omega)) ?_
  rintro _ _ ⟨rfl, rfl⟩
  refine rx_if_ne (tgt := 20) dX10_weight_7 (by decide) (fun h7 => ?_) (fun h7 => (absurd h7 (by decide))) 
  refine rx_iload_n dX10_weight_20 rfl ?_
  refine rx_if_lt (tgt := 31) dX10_weight_21 (by decide) (fun h21 => (absurd h21 (nI_pos (by omega)))) (fun h21 => ?_)
  refine rx_iload_n dX10_weight_24 rfl ?_
  refine rx_sipush (v := nI 1000) dX10_weight_25 rfl ?_
  refine rx_icmp_le (tgt := 41) dX10_weight_28 (by decide) (fun h28 => ?_) (fun h28 => (absurd (by rw [nI_leI (by omega) (by omega)]; omega) h28)) 
  refine rx_aload_n dX10_weight_41 rfl rfl ?_
  refine gcv_getI (v := nI nb) hG hf_RX10_38 rfl dX10_weight_42 rfl rfl rfl h05 ?_
  refine rx_iconst (v := nI 1) dX10_weight_45 rfl ?_
  refine rx_icmp_le (tgt := 59) dX10_weight_46 (by decide) (fun h46 => ?_) (fun h46 => (absurd (by rw [nI_leI (by omega) (by omega)]; omega) h46)) 
  refine rx_aload_n dX10_weight_59 rfl rfl ?_
  refine g_getR hG hf_RX10_42 rfl dX10_weight_60 rfl rfl rfl ?_
  refine rx_iload_n dX10_weight_63 rfl ?_
  refine rx_iload_n dX10_weight_64 rfl ?_
  refine gc_iast (j := v) hG dX10_weight_65 rfl rfl rfl rfl (by omega) (by decide) ?_
  exact rx_vret rfl dX10_weight_66 ⟨rfl, _, rfl, rfl⟩
theorem mf_weight_v {G : rx_E} {d : Nat} {C : rx_M} {S : gs_T} (hG : rx_OK G) {x y : Int32} (hx : wi_out x 7) : rx_C G MX11_weight d [.ref 52, .int x, .int y] (gl C S) 0 0 (fun vv mu => vv = none ∧ mu = gl C (rx_u S.1 52 0 (nI 1), S.2)) := by
  refine rx_meth0 (by decide +kernel) rfl (Nat.le_of_ble_eq_true rfl) ?_
  refine rx_aload_n dX11_weight_0 rfl rfl ?_
  refine rx_iload_n dX11_weight_1 rfl ?_
  refine rx_if_lt (tgt := 11) dX11_weight_2 (by decide) (fun h2 => ?_) (fun h2 => ?_)
  · refine rx_iconst (v := nI 1) dX11_weight_11 rfl ?_
    refine rx_goto (tgt := 43) dX11_weight_12 (by decide) ?_
    refine gm_putI hG hf_RX11_160 (gw_nf rfl rfl) rfl dX11_weight_43 rfl rfl rfl rfl rfl ?_
    refine rx_aload_n dX11_weight_46 rfl rfl ?_
    refine gmv_getI (v := nI 1) hG hf_RX11_160 rfl dX11_weight_47 rfl rfl rfl (by simp [rx_ru]) ?_
    refine rx_if_ne (tgt := 60) dX11_weight_50 (by decide) (fun h50 => ?_) (fun h50 => (absurd h50 (by decide))) 
    exact rx_vret rfl dX11_weight_60 ⟨rfl, rfl⟩
  · refine rx_iload_n dX11_weight_5 rfl ?_
    refine rx_bipush (v := nI 6) dX11_weight_6 rfl ?_
    refine rx_icmp_le (tgt := 15) dX11_weight_8 (by decide) (fun h8 => wi_d3 hx (by decide) (by decide) h2 h8) (fun h8 => ?_)
    refine rx_iconst (v := nI 1) dX11_weight_11 rfl ?_
    refine rx_goto (tgt := 43) dX11_weight_12 (by decide) ?_
    refine gm_putI hG hf_RX11_160 (gw_nf rfl rfl) rfl dX11_weight_43 rfl rfl rfl rfl rfl ?_
    refine rx_aload_n dX11_weight_46 rfl rfl ?_
    refine gmv_getI (v := nI 1) hG hf_RX11_160 rfl dX11_weight_47 rfl rfl rfl (by simp [rx_ru]) ?_
    refine rx_if_ne (tgt := 60) dX11_weight_50 (by decide) (fun h50 => ?_) (fun h50 => (absurd h50 (by decide))) 
    exact rx_vret rfl dX11_weight_60 ⟨rfl, rfl⟩
theorem mf_weight_w {G : rx_E} {d : Nat} {C : rx_M} {S : gs_T} (hG : rx_OK G) {v : Nat} {y : Int32} (hv : v < 7) (hy : wi_out y 1001) : rx_C G MX11_weight d [.ref 52, .int (nI v), .int y] (gl C S) 0 0 (fun vv mu => vv = none ∧ mu = gl C (rx_u S.1 52 0 (nI 2), S.2)) := by
  refine rx_meth0 (by decide +kernel) rfl (Nat.le_of_ble_eq_true rfl) ?_
  refine rx_aload_n dX11_weight_0 rfl rfl ?_
  refine rx_iload_n dX11_weight_1 rfl ?_
  refine rx_if_lt (tgt := 11) dX11_weight_2 (by decide) (fun h2 => (absurd h2 (nI_pos (by omega)))) (fun h2 => ?_)
  refine rx_iload_n dX11_weight_5 rfl ?_
  refine rx_bipush (v := nI 6) dX11_weight_6 rfl ?_
  refine rx_icmp_le (tgt := 15) dX11_weight_8 (by decide) (fun h8 => ?_) (fun h8 => (absurd (by rw [nI_leI (by omega) (by omega)]; omega) h8)) 
  refine rx_iload_n dX11_weight_15 rfl ?_
  refine rx_if_lt (tgt := 26) dX11_weight_16 (by decide) (fun h16 => ?_) (fun h16 => ?_)
  · refine rx_iconst (v := nI 2) dX11_weight_26 rfl ?_
    refine rx_goto (tgt := 43) dX11_weight_27 (by decide) ?_
    refine gm_putI hG hf_RX11_160 (gw_nf rfl rfl) rfl dX11_weight_43 rfl rfl rfl rfl rfl ?_
    refine rx_aload_n dX11_weight_46 rfl rfl ?_
    refine gmv_getI (v := nI 2) hG hf_RX11_160 rfl dX11_weight_47 rfl rfl rfl (by simp [rx_ru]) ?_
    refine rx_if_ne (tgt := 60) dX11_weight_50 (by decide) (fun h50 => ?_) (fun h50 => (absurd h50 (by decide))) 
    exact rx_vret rfl dX11_weight_60 ⟨rfl, rfl⟩
  · refine rx_iload_n dX11_weight_19 rfl ?_
    refine rx_sipush (v := nI 1000) dX11_weight_20 rfl ?_
    refine rx_icmp_le (tgt := 30) dX11_weight_23 (by decide) (fun h23 => wi_d3 hy (by decide) (by decide) h16 h23) (fun h23 => ?_)
    refine rx_iconst (v := nI 2) dX11_weight_26 rfl ?_
    refine rx_goto (tgt := 43) dX11_weight_27 (by decide) ?_
    refine gm_putI hG hf_RX11_160 (gw_nf rfl rfl) rfl dX11_weight_43 rfl rfl rfl rfl rfl ?_
    refine rx_aload_n dX11_weight_46 rfl rfl ?_
    refine gmv_getI (v := nI 2) hG hf_RX11_160 rfl dX11_weight_47 rfl rfl rfl (by simp [rx_ru]) ?_
    refine rx_if_ne (tgt := 60) dX11_weight_50 (by decide) (fun h50 => ?_) (fun h50 => (absurd h50 (by decide))) 
    exact rx_vret rfl dX11_weight_60 ⟨rfl, rfl⟩
theorem mf_weight_b {G : rx_E} {d : Nat} {C : rx_M} {S : gs_T} (hG : rx_OK G) {nb : Nat} (h15 : S.1 52 15 = nI nb) (hnb : nb ≤ 40) {v x : Nat} (hv : v < 7) (hx : x < 1001) (h1 : 1 < nb) : rx_C G MX11_weight d [.ref 52, .int (nI v), .int (nI x)] (gl C S) 0 0 (fun vv mu => vv = none ∧ mu = gl C (rx_u S.1 52 0 (nI 3), S.2)) := by
  refine rx_meth0 (by decide +kernel) rfl (Nat.le_of_ble_eq_true rfl) ?_
  refine rx_aload_n dX11_weight_0 rfl rfl ?_
  refine rx_iload_n dX11_weight_1 rfl ?_
  refine rx_if_lt (tgt := 11) dX11_weight_2 (by decide) (fun h2 => (absurd h2 (nI_pos (by omega)))) (fun h2 => ?_)
  refine rx_iload_n dX11_weight_5 rfl ?_
  refine rx_bipush (v := nI 6) dX11_weight_6 rfl ?_
  refine rx_icmp_le (tgt := 15) dX11_weight_8 (by decide) (fun h8 => ?_) (fun h8 => (absurd (by rw [nI_leI (by omega) (by omega)]; omega) h8)) 
  refine rx_iload_n dX11_weight_15 rfl ?_
  refine rx_if_lt (tgt := 26) dX11_weight_16 (by decide) (fun h16 => (absurd h16 (nI_pos (by omega)))) (fun h16 => ?_)
  refine rx_iload_n dX11_weight_19 rfl ?_
  refine rx_sipush (v := nI 1000) dX11_weight_20 rfl ?_
  refine rx_icmp_le (tgt := 30) dX11_weight_23 (by decide) (fun h23 => ?_) (fun h23 => (absurd (by rw [nI_leI (by omega) (by omega)]; omega) h23)) 
  refine rx_aload_n dX11_weight_30 rfl rfl ?_
  refine gmv_getI (v := nI nb) hG hf_RX11_156 rfl dX11_weight_31 rfl rfl rfl h15 ?_
  refine rx_iconst (v := nI 1) dX11_weight_34 rfl ?_
  refine rx_icmp_le (tgt := 42) dX11_weight_35 (by decide) (fun h35 => (absurd h35 (by rw [nI_leI (by omega) (by omega)]; omega))) (fun h35 => ?_)
  refine rx_iconst (v := nI 3) dX11_weight_38 rfl ?_
  refine rx_goto (tgt := 43) dX11_weight_39 (by decide) ?_
  refine gm_putI hG hf_RX11_160 (gw_nf rfl rfl) rfl dX11_weight_43 rfl rfl rfl rfl rfl ?_
  refine rx_aload_n dX11_weight_46 rfl rfl ?_
  refine gmv_getI (v := nI 3) hG hf_RX11_160 rfl dX11_weight_47 rfl rfl rfl (by simp [rx_ru]) ?_
  refine rx_if_ne (tgt := 60) dX11_weight_50 (by decide) (fun h50 => ?_) (fun h50 => (absurd h50 (by decide))) 
  exact rx_vret rfl dX11_weight_60 ⟨rfl, rfl⟩
theorem mf_weight {G : rx_E} {d : Nat} {C : rx_M} {S : gs_T} (hG : rx_OK G) {nb : Nat} (h15 : S.1 52 15 = nI nb) (hnb : nb ≤ 40) {v x : Nat} (hv : v < 7) (hx : x < 1001) (h1 : ¬ 1 < nb) : rx_C G MX11_weight d [.ref 52, .int (nI v), .int (nI x)] (gl C S) 0 0 (fun vv mu => vv = none ∧ mu = gl C (rx_u (rx_u S.1 52 0 (nI 0)) 79 v (nI x), S.2)) := by
  refine rx_meth0 (by decide +kernel) rfl (Nat.le_of_ble_eq_true rfl) ?_
  refine rx_aload_n dX11_weight_0 rfl rfl ?_
  refine rx_iload_n dX11_weight_1 rfl ?_
  refine rx_if_lt (tgt := 11) dX11_weight_2 (by decide) (fun h2 => (absurd h2 (nI_pos (by omega)))) (fun h2 => ?_)
  refine rx_iload_n dX11_weight_5 rfl ?_
  refine rx_bipush (v := nI 6) dX11_weight_6 rfl ?_
  refine rx_icmp_le (tgt := 15) dX11_weight_8 (by decide) (fun h8 => ?_) (fun h8 => (absurd (by rw [nI_leI (by omega) (by omega)]; omega) h8)) 
  refine rx_iload_n dX11_weight_15 rfl ?_
  refine rx_if_lt (tgt := 26) dX11_weight_16 (by decide) (fun h16 => (absurd h16 (nI_pos (by omega)))) (fun h16 => ?_)
  refine rx_iload_n dX11_weight_19 rfl ?_
  refine rx_sipush (v := nI 1000) dX11_weight_20 rfl ?_
  refine rx_icmp_le (tgt := 30) dX11_weight_23 (by decide) (fun h23 => ?_) (fun h23 => (absurd (by rw [nI_leI (by omega) (by omega)]; omega) h23)) 
  refine rx_aload_n dX11_weight_30 rfl rfl ?_
  refine gmv_getI (v := nI nb) hG hf_RX11_156 rfl dX11_weight_31 rfl rfl rfl h15 ?_
  refine rx_iconst (v := nI 1) dX11_weight_34 rfl ?_
  refine rx_icmp_le (tgt := 42) dX11_weight_35 (by decide) (fun h35 => ?_) (fun h35 => (absurd (by rw [nI_leI (by omega) (by omega)]; omega) h35)) 
  refine rx_iconst (v := nI 0) dX11_weight_42 rfl ?_
  refine gm_putI hG hf_RX11_160 (gw_nf rfl rfl) rfl dX11_weight_43 rfl rfl rfl rfl rfl ?_
  refine rx_aload_n dX11_weight_46 rfl rfl ?_
  refine gmv_getI (v := nI 0) hG hf_RX11_160 rfl dX11_weight_47 rfl rfl rfl (by simp [rx_ru]) ?_
  refine rx_if_ne (tgt := 60) dX11_weight_50 (by decide) (fun h50 => (absurd h50 (by decide))) (fun h50 => ?_)
  refine rx_aload_n dX11_weight_53 rfl rfl ?_
  refine g_getR hG hf_RX11_90 rfl dX11_weight_54 rfl rfl rfl ?_
  refine rx_iload_n dX11_weight_57 rfl ?_
  refine rx_iload_n dX11_weight_58 rfl ?_
  refine gm_iast (j := v) hG dX11_weight_59 rfl rfl rfl rfl (by omega) (by decide) ?_
  exact rx_vret rfl dX11_weight_60 ⟨rfl, rfl⟩
def w_wt (w : wW) (i x : Nat) : wW := (w.1, w.2.1, w.2.2.1, ((fun k => if k = i then x else w.2.2.2.1.1 k), w.2.2.2.1.2), w.2.2.2.2)
theorem rcw_wt {A : wP} {C : rx_M} {w : wW} {i x : Nat} (h : rcw A C w) : rcw A (rx_u C.1 49 i (nI x), C.2) (w_wt w i x) := by
  have hg := agE_I (C := C) (u := 49) (j := i) (y := nI x)
  refine ⟨cD_agE h.1 hg (by decide) (by decide), cK_agE h.2.1 hg (by decide) (by decide) (fun a ha => by show ¬ a = 49; omega) (fun a _ => noF a), cO_agE h.2.2.1 hg (by decide) (by decide) (fun a ha => by show ¬ a = 49; omega), cB_agE h.2.2.2.1 hg (by decide) (by decide) (by decide) (fun a _ _ => by show ¬ a = 49; omega) (fun a _ _ => noF a), fun k hk => ⟨?_, (h.2.2.2.2.1 k hk).2⟩, cS_agE h.2.2.2.2.2.1 hg (by decide), cN_agE h.2.2.2.2.2.2 hg (by decide)⟩
  show rx_u C.1 49 i (nI x) 49 k = nI (if k = i then x else w.2.2.2.1.1 k)
  rw [rx_ru, if_pos rfl]
  split
  · rfl
  · exact (h.2.2.2.2.1 k hk).1
theorem rmw_wt {S : gs_T} {w : wW} {i x : Nat} {y : Int32} (h : rmw S w) (h1 : ¬ 1 < w.2.2.1.1) : rmw (rx_u (rx_u S.1 52 0 y) 79 i (nI x), S.2) (w_wt w i x) := by
  have hg := maE_I (S := S) (u := 79) (j := i) (x := y) (y := nI x) (by decide)
  have hB := mB_agE h.2.2.2.1 hg (fun a _ _ => by show ¬ a = 79; omega) (noF 15)
  refine ⟨mD_agE h.1 hg (by decide) (noF 5), mK_agE h.2.1 hg (by decide) (by decide) (noF 3), mO_agE h.2.2.1 hg (fun a _ _ => by show ¬ a = 79; omega) (noF 7), ⟨hB.1, fun b hb => ⟨(hB.2 b hb).1, ?_⟩⟩, fun k hk => ⟨?_, ?_⟩, mS_agE h.2.2.2.2.2.1 hg (by decide), mN_agE h.2.2.2.2.2.2 hg (fun k _ _ => noF k)⟩
  · have hb0 : b = 0 := by have hb' : b < w.2.2.1.1 := hb; omega
    subst hb0
    exact (hB.2 0 hb).2.trans rfl
  · show rx_u (rx_u S.1 52 0 y) 79 i (nI x) 79 k = nI (if k = i then x else w.2.2.2.1.1 k)
    rw [rx_ru, if_pos rfl]
    split
    · rfl
    · rw [rx_une _ (by decide)]; exact (h.2.2.2.2.1 k hk).1
  · rw [(hg.1 80 (by decide) (by decide) (by decide) (by decide)).1]; exact (h.2.2.2.2.1 k hk).2
theorem F_weight {G : rx_E} {d n : Nat} {w : wW} (hG : rx_OK G) (hN : rx_NC G) (hv : vW w n) (hn : n ≤ 512) (x y : Int32) : fPV n w (fun C S Q => rx_H G ML_weight hL_weight (d + 9) [.ref 0, .int x, .int y] (gl C S) 8 2000 Q) (fun C S Q => rx_C G MX11_weight (d + 9) [.ref 52, .int x, .int y] (gl C S) 0 0 Q) := by
  have hnb := hv.2.2.2.1.1.2
  rcases wi_ix x (N := 7) (by decide) with hx | ⟨i, hi, rfl⟩
  · exact ⟨1, w, by decide, vW_up hv (Nat.le_succ n), fun A C S hC => rx_Hm (HL_weight_x hG hN (cf_weight_v hG hx)) (hRV_x hC), fun C S hS => rx_Cm (mf_weight_v hG hx) (mRV_t hS)⟩
  rcases wi_ix y (N := 1001) (by decide) with hy | ⟨j, hj, rfl⟩
  · exact ⟨2, w, by decide, vW_up hv (Nat.le_succ n), fun A C S hC => rx_Hm (HL_weight_a hG hN (cf_weight_w hG hi hy)) (hRV_x hC), fun C S hS => rx_Cm (mf_weight_w hG hi hy) (mRV_t hS)⟩
  by_cases h1 : 1 < w.2.2.1.1
  · exact ⟨3, w, by decide, vW_up hv (Nat.le_succ n), fun A C S hC => rx_Hm (HL_weight_s hG hN (cf_weight_b hG (rcw_b hC) hnb hi hj h1)) (hRV_x hC), fun C S hS => rx_Cm (mf_weight_b hG (rmw_b hS) hnb hi hj h1) (mRV_t hS)⟩
  refine ⟨0, w_wt w i j, by decide, ?_, fun A C S hC => rx_Hm (HL_weight hG (cf_weight hG (rcw_b hC) hnb hi hj h1)) (hRV_v (rcw_wt hC)), fun C S hS => rx_Cm (mf_weight hG (rmw_b hS) hnb hi hj h1) ?_⟩
  · obtain ⟨v1, v2, v3, v4, v5⟩ := vW_up hv (Nat.le_succ n)
    refine ⟨v1, v2, v3, v4, fun k hk => ?_⟩
    show (if k = i then j else w.2.2.2.1.1 k) ≤ 1000
    split
    · omega
    · exact v5 k hk
  · rintro _ _ ⟨rfl, rfl⟩
    exact ⟨_, rfl, rfl, rmw_wt hS h1, by simp [rx_ru]⟩

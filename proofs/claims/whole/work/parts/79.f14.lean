theorem dX5_clear_0 : decode cX5_clear 0 = .ok (.aload_n 0, 1) := by decide +kernel
theorem dX5_clear_1 : decode cX5_clear 1 = .ok (.iconst 0, 1) := by decide +kernel
theorem dX5_clear_2 : decode cX5_clear 2 = .ok (.putfield 15, 3) := by decide +kernel
theorem dX5_clear_5 : decode cX5_clear 5 = .ok (.return_, 1) := by decide +kernel
theorem dX10_view_0 : decode cX10_view 0 = .ok (.aload_n 0, 1) := by decide +kernel
theorem dX10_view_1 : decode cX10_view 1 = .ok (.iload_n 1, 1) := by decide +kernel
theorem dX10_view_2 : decode cX10_view 2 = .ok (.invokevirtual 150, 3) := by decide +kernel
theorem dX10_view_5 : decode cX10_view 5 = .ok (.ifCond .eq 19, 3) := by decide +kernel
theorem dX10_view_8 : decode cX10_view 8 = .ok (.iload_n 2, 1) := by decide +kernel
theorem dX10_view_9 : decode cX10_view 9 = .ok (.i2l, 1) := by decide +kernel
theorem dX10_view_10 : decode cX10_view 10 = .ok (.invokestatic 106, 3) := by decide +kernel
theorem dX10_view_13 : decode cX10_view 13 = .ok (.ifCond .eq 11, 3) := by decide +kernel
theorem dX10_view_16 : decode cX10_view 16 = .ok (.iload_n 3, 1) := by decide +kernel
theorem dX10_view_17 : decode cX10_view 17 = .ok (.i2l, 1) := by decide +kernel
theorem dX10_view_18 : decode cX10_view 18 = .ok (.invokestatic 106, 3) := by decide +kernel
theorem dX10_view_21 : decode cX10_view 21 = .ok (.ifCond .ne 13, 3) := by decide +kernel
theorem dX10_view_24 : decode cX10_view 24 = .ok (.new 113, 3) := by decide +kernel
theorem dX10_view_27 : decode cX10_view 27 = .ok (.dup, 1) := by decide +kernel
theorem dX10_view_28 : decode cX10_view 28 = .ok (.ldc 218, 2) := by decide +kernel
theorem dX10_view_30 : decode cX10_view 30 = .ok (.invokespecial 117, 3) := by decide +kernel
theorem dX10_view_33 : decode cX10_view 33 = .ok (.athrow, 1) := by decide +kernel
theorem dX10_view_34 : decode cX10_view 34 = .ok (.iload 6, 2) := by decide +kernel
theorem dX10_view_36 : decode cX10_view 36 = .ok (.ifCond .lt 11, 3) := by decide +kernel
theorem dX10_view_39 : decode cX10_view 39 = .ok (.iload 6, 2) := by decide +kernel
theorem dX10_view_41 : decode cX10_view 41 = .ok (.sipush 30000, 3) := by decide +kernel
theorem dX10_view_44 : decode cX10_view 44 = .ok (.if_icmp .le 13, 3) := by decide +kernel
theorem dX10_view_47 : decode cX10_view 47 = .ok (.new 63, 3) := by decide +kernel
theorem dX10_view_50 : decode cX10_view 50 = .ok (.dup, 1) := by decide +kernel
theorem dX10_view_51 : decode cX10_view 51 = .ok (.ldc 220, 2) := by decide +kernel
theorem dX10_view_53 : decode cX10_view 53 = .ok (.invokespecial 67, 3) := by decide +kernel
theorem dX10_view_56 : decode cX10_view 56 = .ok (.athrow, 1) := by decide +kernel
theorem dX10_view_57 : decode cX10_view 57 = .ok (.aload_n 0, 1) := by decide +kernel
theorem dX10_view_58 : decode cX10_view 58 = .ok (.getfield 19, 3) := by decide +kernel
theorem dX10_view_61 : decode cX10_view 61 = .ok (.aload_n 0, 1) := by decide +kernel
theorem dX10_view_62 : decode cX10_view 62 = .ok (.getfield 31, 3) := by decide +kernel
theorem dX10_view_65 : decode cX10_view 65 = .ok (.iload_n 1, 1) := by decide +kernel
theorem dX10_view_66 : decode cX10_view 66 = .ok (.aaload, 1) := by decide +kernel
theorem dX10_view_67 : decode cX10_view 67 = .ok (.getfield 124, 3) := by decide +kernel
theorem dX10_view_70 : decode cX10_view 70 = .ok (.aload_n 0, 1) := by decide +kernel
theorem dX10_view_71 : decode cX10_view 71 = .ok (.getfield 31, 3) := by decide +kernel
theorem dX10_view_74 : decode cX10_view 74 = .ok (.iload_n 1, 1) := by decide +kernel
theorem dX10_view_75 : decode cX10_view 75 = .ok (.aaload, 1) := by decide +kernel
theorem dX10_view_76 : decode cX10_view 76 = .ok (.getfield 157, 3) := by decide +kernel
theorem dX10_view_79 : decode cX10_view 79 = .ok (.invokevirtual 160, 3) := by decide +kernel
theorem dX10_view_82 : decode cX10_view 82 = .ok (.aload_n 0, 1) := by decide +kernel
theorem dX10_view_83 : decode cX10_view 83 = .ok (.getfield 19, 3) := by decide +kernel
theorem dX10_view_86 : decode cX10_view 86 = .ok (.iload_n 2, 1) := by decide +kernel
theorem dX10_view_87 : decode cX10_view 87 = .ok (.iload_n 3, 1) := by decide +kernel
theorem dX10_view_88 : decode cX10_view 88 = .ok (.lconst 0, 1) := by decide +kernel
theorem dX10_view_89 : decode cX10_view 89 = .ok (.lload 4, 2) := by decide +kernel
theorem dX10_view_91 : decode cX10_view 91 = .ok (.iload 6, 2) := by decide +kernel
theorem dX10_view_93 : decode cX10_view 93 = .ok (.iconst 1, 1) := by decide +kernel
theorem dX10_view_94 : decode cX10_view 94 = .ok (.invokevirtual 222, 3) := by decide +kernel
theorem dX10_view_97 : decode cX10_view 97 = .ok (.aload_n 0, 1) := by decide +kernel
theorem dX10_view_98 : decode cX10_view 98 = .ok (.aload_n 0, 1) := by decide +kernel
theorem dX10_view_99 : decode cX10_view 99 = .ok (.getfield 19, 3) := by decide +kernel
theorem dX10_view_102 : decode cX10_view 102 = .ok (.getfield 226, 3) := by decide +kernel
theorem dX10_view_105 : decode cX10_view 105 = .ok (.putfield 229, 3) := by decide +kernel
theorem dX10_view_108 : decode cX10_view 108 = .ok (.aload_n 0, 1) := by decide +kernel
theorem dX10_view_109 : decode cX10_view 109 = .ok (.iload 6, 2) := by decide +kernel
theorem dX10_view_111 : decode cX10_view 111 = .ok (.aload_n 0, 1) := by decide +kernel
theorem dX10_view_112 : decode cX10_view 112 = .ok (.getfield 19, 3) := by decide +kernel
theorem dX10_view_115 : decode cX10_view 115 = .ok (.getfield 232, 3) := by decide +kernel
theorem dX10_view_118 : decode cX10_view 118 = .ok (.isub, 1) := by decide +kernel
theorem dX10_view_119 : decode cX10_view 119 = .ok (.putfield 235, 3) := by decide +kernel
theorem dX10_view_122 : decode cX10_view 122 = .ok (.aload_n 0, 1) := by decide +kernel
theorem dX10_view_123 : decode cX10_view 123 = .ok (.aload_n 0, 1) := by decide +kernel
theorem dX10_view_124 : decode cX10_view 124 = .ok (.getfield 19, 3) := by decide +kernel
theorem dX10_view_127 : decode cX10_view 127 = .ok (.getfield 238, 3) := by decide +kernel
theorem dX10_view_130 : decode cX10_view 130 = .ok (.putfield 241, 3) := by decide +kernel
theorem dX10_view_133 : decode cX10_view 133 = .ok (.aload_n 0, 1) := by decide +kernel
theorem dX10_view_134 : decode cX10_view 134 = .ok (.getfield 19, 3) := by decide +kernel
theorem dX10_view_137 : decode cX10_view 137 = .ok (.getfield 244, 3) := by decide +kernel
theorem dX10_view_140 : decode cX10_view 140 = .ok (.lreturn, 1) := by decide +kernel
theorem dX11_view_0 : decode cX11_view 0 = .ok (.aload_n 0, 1) := by decide +kernel
theorem dX11_view_1 : decode cX11_view 1 = .ok (.aload_n 0, 1) := by decide +kernel
theorem dX11_view_2 : decode cX11_view 2 = .ok (.iload_n 1, 1) := by decide +kernel
theorem dX11_view_3 : decode cX11_view 3 = .ok (.invokevirtual 318, 3) := by decide +kernel
theorem dX11_view_6 : decode cX11_view 6 = .ok (.ifCond .eq 19, 3) := by decide +kernel
theorem dX11_view_9 : decode cX11_view 9 = .ok (.iload_n 2, 1) := by decide +kernel
theorem dX11_view_10 : decode cX11_view 10 = .ok (.i2l, 1) := by decide +kernel
theorem dX11_view_11 : decode cX11_view 11 = .ok (.invokestatic 181, 3) := by decide +kernel
theorem dX11_view_14 : decode cX11_view 14 = .ok (.ifCond .eq 11, 3) := by decide +kernel
theorem dX11_view_17 : decode cX11_view 17 = .ok (.iload_n 3, 1) := by decide +kernel
theorem dX11_view_18 : decode cX11_view 18 = .ok (.i2l, 1) := by decide +kernel
theorem dX11_view_19 : decode cX11_view 19 = .ok (.invokestatic 181, 3) := by decide +kernel
theorem dX11_view_22 : decode cX11_view 22 = .ok (.ifCond .ne 7, 3) := by decide +kernel
theorem dX11_view_25 : decode cX11_view 25 = .ok (.iconst 1, 1) := by decide +kernel
theorem dX11_view_26 : decode cX11_view 26 = .ok (.goto 21, 3) := by decide +kernel
theorem dX11_view_29 : decode cX11_view 29 = .ok (.iload 6, 2) := by decide +kernel
theorem dX11_view_31 : decode cX11_view 31 = .ok (.ifCond .lt 11, 3) := by decide +kernel
theorem dX11_view_34 : decode cX11_view 34 = .ok (.iload 6, 2) := by decide +kernel
theorem dX11_view_36 : decode cX11_view 36 = .ok (.sipush 30000, 3) := by decide +kernel
theorem dX11_view_39 : decode cX11_view 39 = .ok (.if_icmp .le 7, 3) := by decide +kernel
theorem dX11_view_42 : decode cX11_view 42 = .ok (.iconst 2, 1) := by decide +kernel
theorem dX11_view_43 : decode cX11_view 43 = .ok (.goto 4, 3) := by decide +kernel
theorem dX11_view_46 : decode cX11_view 46 = .ok (.iconst 0, 1) := by decide +kernel
theorem dX11_view_47 : decode cX11_view 47 = .ok (.putfield 160, 3) := by decide +kernel
theorem dX11_view_50 : decode cX11_view 50 = .ok (.aload_n 0, 1) := by decide +kernel
theorem dX11_view_51 : decode cX11_view 51 = .ok (.getfield 160, 3) := by decide +kernel
theorem dX11_view_54 : decode cX11_view 54 = .ok (.ifCond .le 5, 3) := by decide +kernel
theorem dX11_view_57 : decode cX11_view 57 = .ok (.lconst 0, 1) := by decide +kernel
theorem dX11_view_58 : decode cX11_view 58 = .ok (.lreturn, 1) := by decide +kernel
theorem dX11_view_59 : decode cX11_view 59 = .ok (.iconst 0, 1) := by decide +kernel
theorem dX11_view_60 : decode cX11_view 60 = .ok (.istore 7, 2) := by decide +kernel
theorem dX11_view_62 : decode cX11_view 62 = .ok (.iload 7, 2) := by decide +kernel
theorem dX11_view_64 : decode cX11_view 64 = .ok (.sipush 608, 3) := by decide +kernel
theorem dX11_view_67 : decode cX11_view 67 = .ok (.if_icmp .ge 29, 3) := by decide +kernel
theorem dX11_view_70 : decode cX11_view 70 = .ok (.aload_n 0, 1) := by decide +kernel
theorem dX11_view_71 : decode cX11_view 71 = .ok (.getfield 99, 3) := by decide +kernel
theorem dX11_view_74 : decode cX11_view 74 = .ok (.iload 7, 2) := by decide +kernel
theorem dX11_view_76 : decode cX11_view 76 = .ok (.aload_n 0, 1) := by decide +kernel
theorem dX11_view_77 : decode cX11_view 77 = .ok (.getfield 66, 3) := by decide +kernel
theorem dX11_view_80 : decode cX11_view 80 = .ok (.sipush 608, 3) := by decide +kernel
theorem dX11_view_83 : decode cX11_view 83 = .ok (.iload_n 1, 1) := by decide +kernel
theorem dX11_view_84 : decode cX11_view 84 = .ok (.imul, 1) := by decide +kernel
theorem dX11_view_85 : decode cX11_view 85 = .ok (.iload 7, 2) := by decide +kernel
theorem dX11_view_87 : decode cX11_view 87 = .ok (.iadd, 1) := by decide +kernel
theorem dX11_view_88 : decode cX11_view 88 = .ok (.laload, 1) := by decide +kernel
theorem dX11_view_89 : decode cX11_view 89 = .ok (.lastore, 1) := by decide +kernel
theorem dX11_view_90 : decode cX11_view 90 = .ok (.iinc 7 1, 3) := by decide +kernel
theorem dX11_view_93 : decode cX11_view 93 = .ok (.goto (-31), 3) := by decide +kernel
theorem dX11_view_96 : decode cX11_view 96 = .ok (.aload_n 0, 1) := by decide +kernel
theorem dX11_view_97 : decode cX11_view 97 = .ok (.aload_n 0, 1) := by decide +kernel
theorem dX11_view_98 : decode cX11_view 98 = .ok (.getfield 48, 3) := by decide +kernel
theorem dX11_view_101 : decode cX11_view 101 = .ok (.iload_n 1, 1) := by decide +kernel
theorem dX11_view_102 : decode cX11_view 102 = .ok (.iaload, 1) := by decide +kernel
theorem dX11_view_103 : decode cX11_view 103 = .ok (.putfield 275, 3) := by decide +kernel
theorem dX11_view_106 : decode cX11_view 106 = .ok (.aload_n 0, 1) := by decide +kernel
theorem dX11_view_107 : decode cX11_view 107 = .ok (.iconst 0, 1) := by decide +kernel
theorem dX11_view_108 : decode cX11_view 108 = .ok (.putfield 212, 3) := by decide +kernel
theorem dX11_view_111 : decode cX11_view 111 = .ok (.aload_n 0, 1) := by decide +kernel
theorem dX11_view_112 : decode cX11_view 112 = .ok (.iload_n 2, 1) := by decide +kernel
theorem dX11_view_113 : decode cX11_view 113 = .ok (.iload_n 3, 1) := by decide +kernel
theorem dX11_view_114 : decode cX11_view 114 = .ok (.lconst 0, 1) := by decide +kernel
theorem dX11_view_115 : decode cX11_view 115 = .ok (.lload 4, 2) := by decide +kernel
theorem dX11_view_117 : decode cX11_view 117 = .ok (.iload 6, 2) := by decide +kernel
theorem dX11_view_119 : decode cX11_view 119 = .ok (.i2l, 1) := by decide +kernel
theorem dX11_view_120 : decode cX11_view 120 = .ok (.iconst 1, 1) := by decide +kernel
theorem dX11_view_121 : decode cX11_view 121 = .ok (.invokevirtual 314, 3) := by decide +kernel
theorem dX11_view_124 : decode cX11_view 124 = .ok (.aload_n 0, 1) := by decide +kernel
theorem dX11_view_125 : decode cX11_view 125 = .ok (.aload_n 0, 1) := by decide +kernel
theorem dX11_view_126 : decode cX11_view 126 = .ok (.getfield 193, 3) := by decide +kernel
theorem dX11_view_129 : decode cX11_view 129 = .ok (.putfield 338, 3) := by decide +kernel
theorem dX11_view_132 : decode cX11_view 132 = .ok (.aload_n 0, 1) := by decide +kernel
theorem dX11_view_133 : decode cX11_view 133 = .ok (.iload 6, 2) := by decide +kernel
theorem dX11_view_135 : decode cX11_view 135 = .ok (.aload_n 0, 1) := by decide +kernel
theorem dX11_view_136 : decode cX11_view 136 = .ok (.getfield 200, 3) := by decide +kernel
theorem dX11_view_139 : decode cX11_view 139 = .ok (.l2i, 1) := by decide +kernel
theorem dX11_view_140 : decode cX11_view 140 = .ok (.isub, 1) := by decide +kernel
theorem dX11_view_141 : decode cX11_view 141 = .ok (.putfield 341, 3) := by decide +kernel
theorem dX11_view_144 : decode cX11_view 144 = .ok (.aload_n 0, 1) := by decide +kernel
theorem dX11_view_145 : decode cX11_view 145 = .ok (.aload_n 0, 1) := by decide +kernel
theorem dX11_view_146 : decode cX11_view 146 = .ok (.getfield 218, 3) := by decide +kernel
theorem dX11_view_149 : decode cX11_view 149 = .ok (.putfield 344, 3) := by decide +kernel
theorem dX11_view_152 : decode cX11_view 152 = .ok (.aload_n 0, 1) := by decide +kernel
theorem dX11_view_153 : decode cX11_view 153 = .ok (.getfield 196, 3) := by decide +kernel
theorem dX11_view_156 : decode cX11_view 156 = .ok (.lreturn, 1) := by decide +kernel
theorem cf_clear {G : rx_E} {d : Nat} {C : rx_M} {S : gs_T} (hG : rx_OK G) : rx_C G MX5_clear d [.ref 9] (gl C S) 0 0 (fun v mu => v = none ∧ mu = gl (rx_u C.1 9 1 (nI 0), C.2) S) := by
  refine rx_meth0 (by decide +kernel) rfl (Nat.le_of_ble_eq_true rfl) ?_
  refine rx_aload_n dX5_clear_0 rfl rfl ?_
  refine rx_iconst (v := nI 0) dX5_clear_1 rfl ?_
  refine gc_putI hG hf_RX5_15 (gw_nf rfl rfl) rfl dX5_clear_2 rfl rfl rfl rfl rfl ?_
  exact rx_vret rfl dX5_clear_5 ⟨rfl, rfl⟩
/-- the memory after Machine.load -/
def cld (C : rx_M) (a0 h : Nat) : rx_M := (rx_u (rx_u C.1 9 1 (nI 0)) 4 6 (nI h), rx_k1 C.2.1 8 (va_cpy (C.2.1 a0) (C.2.1 8) 0 0 1024), C.2.2)
theorem cf_load {G : rx_E} {d : Nat} {C : rx_M} {S : gs_T} {a0 h : Nat} (hG : rx_OK G) (ha : rk C a0 14 1024) : rx_C G MX7_load (d + 2) [.ref 4, .ref a0, .int (nI h)] (gl C S) 0 0 (fun v mu => v = none ∧ mu = gl (cld C a0 h) S) := by
  refine rx_meth0 (by decide +kernel) rfl (Nat.le_of_ble_eq_true rfl) ?_
  refine rx_aload_n dX7_load_0 rfl rfl ?_
  refine g_getR hG hf_RX7_21 rfl dX7_load_1 rfl rfl rfl ?_
  refine rx_aload_n dX7_load_4 rfl rfl ?_
  refine gv_invV (as := [.ref _]) hG okX9_loadFrom lk_RX7_46 rfl rfl dX7_load_5 rfl (by simp [Value.category]) (cs_loadFrom hG ha.1.2.1 (rk_n ha) (rk_k ha)) ?_
  rintro _ _ ⟨rfl, rfl⟩
  refine rx_aload_n dX7_load_8 rfl rfl ?_
  refine g_getR hG hf_RX7_28 rfl dX7_load_9 rfl rfl rfl ?_
  refine gv_invV (as := []) hG okX5_clear lk_RX7_50 rfl rfl dX7_load_12 rfl (by simp [Value.category]) (cf_clear hG) ?_
  rintro _ _ ⟨rfl, rfl⟩
  refine rx_aload_n dX7_load_15 rfl rfl ?_
  refine rx_iload_n dX7_load_16 rfl ?_
  refine gc_putI hG hf_RX7_53 (gw_nf rfl rfl) rfl dX7_load_17 rfl rfl rfl rfl rfl ?_
  exact rx_vret rfl dX7_load_20 ⟨rfl, rfl⟩
theorem cld_ag {C : rx_M} {a0 h : Nat} : rc_agE (fun a => a = 9) (fun _ => False) C (cld C a0 h) :=
  ⟨fun a hE ha _ => by
    have hE : ¬ a = 9 := hE
    exact ⟨(rx_une _ (by omega)).trans (rx_une _ hE), k1_ne _ (by omega)⟩, fun _ _ _ _ => rfl, fun _ _ _ => rfl, Nat.le_refl _⟩
theorem cld_P {K : Nat → Nat × Nat} {C : rx_M} {cs : Nat → List Nat} {N a0 h o od : Nat} {n : Nat → Int64} (hK : cK K C cs N) (hl : ∀ k, k < 1024 → C.2.1 a0 k = lf n k) (hod : C.1 9 2 = nI od) : rc_P K (cld C a0 h) (cs, N, o, h) 0 od n := by
  have hK' := cK_agE hK (cld_ag (a0 := a0) (h := h)) (by decide) (noF 6) (fun a ha => by show ¬ a = 9; omega) (fun a _ => noF a)
  refine ⟨⟨hK'.1, hK'.2, by simp [cld, rx_ru]⟩, fun k hk => ?_, by simp [cld, rx_ru], by simpa [cld, rx_ru] using hod⟩
  show rx_k1 C.2.1 8 (va_cpy (C.2.1 a0) (C.2.1 8) 0 0 1024) 8 k = _
  rw [k1_eq, pk_cpy_in (by omega) (by omega), show 0 + (k - 0) = k by omega]
  exact hl k hk
/-- a run leaves what the world is held in -/
theorem run_ag {C C1 C' : rx_M} {bs : Nat} (h1 : rc_agE (fun a => a = 9) (fun _ => False) C C1) (h : rc_rest bs C1 C') : rc_agE (fun a => a = 9) (fun _ => False) C C' := by
  refine ⟨fun a hE ha hn => ?_, fun a hF ha hn => ?_, fun a ha hn => ?_, ?_⟩
  · have hE' : ¬ a = 9 := hE
    have e := h.1 a (by omega)
    exact ⟨e.1.trans (h1.1 a hE ha hn).1, e.2.trans (h1.1 a hE ha hn).2⟩
  · exact (h.2.1 a (by omega)).trans (h1.2.1 a hF ha hn)
  · rw [h.2.2.1]; exact h1.2.2.1 a ha hn
  · rw [h.2.2.1]; exact h1.2.2.2
def w_seen (w : wW) (q : Int32 × Int32 × Int32) : wW := (w.1, w.2.1, w.2.2.1, w.2.2.2.1, w.2.2.2.2.1, q)
theorem rcw_seen {A : wP} {C C' : rx_M} {w : wW} {x y z : Int32} (h : rcw A C w) (hg : rc_agE (fun a => a = 9) (fun _ => False) C C') (hT : cT C') : rcw A (rx_u (rx_u (rx_u C'.1 0 9 x) 0 10 y) 0 11 z, C'.2) (w_seen w (x, y, z)) := by
  have hg2 : rc_agE (fun a => a = 9 ∨ a = 0) (fun _ => False) C (rx_u (rx_u (rx_u C'.1 0 9 x) 0 10 y) 0 11 z, C'.2) := by
    refine ⟨fun a hE ha hn => ?_, hg.2.1, hg.2.2.1, hg.2.2.2⟩
    have hE : ¬ (a = 9 ∨ a = 0) := hE
    have e := hg.1 a (by show ¬ a = 9; omega) ha hn
    exact ⟨((rx_une _ (by omega)).trans ((rx_une _ (by omega)).trans (rx_une _ (by omega)))).trans e.1, e.2⟩
  have e0 := (hg.1 0 (by decide) (by omega) (by omega)).1
  have hB1 := h.2.2.2.1
  obtain ⟨od, hT1, hT2⟩ := hT
  refine ⟨cD_agE h.1 hg2 (by decide) (by decide), cK_agE h.2.1 hg2 (by decide) (by decide) (fun a ha => by show ¬ (a = 9 ∨ a = 0); omega) (fun a _ => noF a), ⟨?_, fun k hk => ⟨?_, cO1_agE (h.2.2.1.2 k hk).2 hg2 (fun a ha => by show ¬ (a = 9 ∨ a = 0); omega)⟩⟩, ⟨?_, fun b hb => ⟨?_, cB1_agE (hB1.2.1 b hb).2 hg2 (fun a h1 _ => by show ¬ (a = 9 ∨ a = 0); omega) (fun a _ _ => noF a)⟩, hB1.2.2.1, hB1.2.2.2.1, od, hT1, ?_⟩, cV_agE h.2.2.2.2.1 hg2 (by decide) (by decide), cS_agE h.2.2.2.2.2.1 hg2 (by decide), ⟨by simp [rx_ru, w_seen], by simp [rx_ru, w_seen], by simp [rx_ru, w_seen]⟩⟩
  · simp [rx_ru]; rw [e0]; exact h.2.2.1.1
  · rw [hg2.2.1 43 (noF 43) (by omega) (by omega)]; exact (h.2.2.1.2 k hk).1
  · simp [rx_ru]; rw [e0]; exact hB1.1
  · rw [hg2.2.1 44 (noF 44) (by omega) (by omega)]; exact (hB1.2.1 b hb).1
  · simpa [rx_ru] using hT2
theorem cf_view_b {G : rx_E} {d : Nat} {C : rx_M} {S : gs_T} (hG : rx_OK G) {nb : Nat} (h05 : C.1 0 5 = nI nb) (hnb : nb ≤ 40) {x f t g : Int32} {ar : Int64} (hx : wi_out x nb) : rx_X G MX10_view (d + 8) [.ref 0, .int x, .int f, .int t, .long ar, .int g] (gl C S) 8 2000 (fun _ _ => False) (zq C S "java/lang/IndexOutOfBoundsException") := by
  refine rx_meth (by decide +kernel) rfl (Nat.le_of_ble_eq_true rfl) ?_
  refine rx_aload_n dX10_view_0 rfl rfl ?_
  refine rx_iload_n dX10_view_1 rfl ?_
  refine gv_invV (as := [.int _]) hG okX10_isBlock lk_RX10_150 rfl rfl dX10_view_2 rfl (by simp [Value.category]) (cf_isBlockO hG h05 hnb hx) ?_
  rintro _ _ ⟨rfl, rfl⟩
  refine rx_if_eq (tgt := 24) dX10_view_5 (by decide) (fun h5 => ?_) (fun h5 => (absurd h5 (by decide))) 
  exact gx_throw hG rfl rfl th_x hw_876 dX10_view_24 dX10_view_27 dX10_view_28 dX10_view_30 dX10_view_33
theorem cf_view_f {G : rx_E} {d : Nat} {C : rx_M} {S : gs_T} (hG : rx_OK G) {nb : Nat} (h05 : C.1 0 5 = nI nb) (hnb : nb ≤ 40) {b : Nat} {f t g : Int32} {ar : Int64} (hb : b < nb) (hf : wi_out f 32) : rx_X G MX10_view (d + 8) [.ref 0, .int (nI b), .int f, .int t, .long ar, .int g] (gl C S) 8 2000 (fun _ _ => False) (zq C S "java/lang/IndexOutOfBoundsException") := by
  refine rx_meth (by decide +kernel) rfl (Nat.le_of_ble_eq_true rfl) ?_
  refine rx_aload_n dX10_view_0 rfl rfl ?_
  refine rx_iload_n dX10_view_1 rfl ?_
  refine gv_invV (as := [.int _]) hG okX10_isBlock lk_RX10_150 rfl rfl dX10_view_2 rfl (by simp [Value.category]) (cf_isBlock hG h05 hnb hb) ?_
  rintro _ _ ⟨rfl, rfl⟩
  refine rx_if_eq (tgt := 24) dX10_view_5 (by decide) (fun h5 => (absurd h5 (by decide))) (fun h5 => ?_)
  refine rx_iload_n dX10_view_8 rfl ?_
  refine rx_i2l dX10_view_9 ?_
  refine rx_invS0 (as := [.long _]) hG okX10_isAccount lk_RX10_106 dX10_view_10 rfl (by simp [Value.category]) (cw_acctO hG hf) ?_
  rintro _ _ ⟨rfl, rfl⟩
  refine rx_if_eq (tgt := 24) dX10_view_13 (by decide) (fun h13 => ?_) (fun h13 => (absurd h13 (by decide))) 
  exact gx_throw hG rfl rfl th_x hw_876 dX10_view_24 dX10_view_27 dX10_view_28 dX10_view_30 dX10_view_33
theorem cf_view_t {G : rx_E} {d : Nat} {C : rx_M} {S : gs_T} (hG : rx_OK G) {nb : Nat} (h05 : C.1 0 5 = nI nb) (hnb : nb ≤ 40) {b i : Nat} {t g : Int32} {ar : Int64} (hb : b < nb) (hi : i < 32) (ht : wi_out t 32) : rx_X G MX10_view (d + 8) [.ref 0, .int (nI b), .int (nI i), .int t, .long ar, .int g] (gl C S) 8 2000 (fun _ _ => False) (zq C S "java/lang/IndexOutOfBoundsException") := by
  refine rx_meth (by decide +kernel) rfl (Nat.le_of_ble_eq_true rfl) ?_
  refine rx_aload_n dX10_view_0 rfl rfl ?_
  refine rx_iload_n dX10_view_1 rfl ?_
  refine gv_invV (as := [.int _]) hG okX10_isBlock lk_RX10_150 rfl rfl dX10_view_2 rfl (by simp [Value.category]) (cf_isBlock hG h05 hnb hb) ?_
  rintro _ _ ⟨rfl, rfl⟩
  refine rx_if_eq (tgt := 24) dX10_view_5 (by decide) (fun h5 => (absurd h5 (by decide))) (fun h5 => ?_)
  refine rx_iload_n dX10_view_8 rfl ?_
  refine rx_i2l dX10_view_9 ?_
  refine rx_tl (y := lN i) (nI_l (by omega)) ?_
  refine rx_invS0 (as := [.long _]) hG okX10_isAccount lk_RX10_106 dX10_view_10 rfl (by simp [Value.category]) (cw_acct hG hi) ?_
  rintro _ _ ⟨rfl, rfl⟩
  refine rx_if_eq (tgt := 24) dX10_view_13 (by decide) (fun h13 => (absurd h13 (by decide))) (fun h13 => ?_)
  refine rx_iload_n dX10_view_16 rfl ?_
  refine rx_i2l dX10_view_17 ?_
  refine rx_invS0 (as := [.long _]) hG okX10_isAccount lk_RX10_106 dX10_view_18 rfl (by simp [Value.category]) (cw_acctO hG ht) ?_
  rintro _ _ ⟨rfl, rfl⟩
  refine rx_if_ne (tgt := 34) dX10_view_21 (by decide) (fun h21 => (absurd h21 (by decide))) (fun h21 => ?_)
  exact gx_throw hG rfl rfl th_x hw_876 dX10_view_24 dX10_view_27 dX10_view_28 dX10_view_30 dX10_view_33
theorem cf_view_g {G : rx_E} {d : Nat} {C : rx_M} {S : gs_T} (hG : rx_OK G) {nb : Nat} (h05 : C.1 0 5 = nI nb) (hnb : nb ≤ 40) {b i j : Nat} {g : Int32} {ar : Int64} (hb : b < nb) (hi : i < 32) (hj : j < 32) (hg : wi_out g 30001) : rx_X G MX10_view (d + 8) [.ref 0, .int (nI b), .int (nI i), .int (nI j), .long ar, .int g] (gl C S) 8 2000 (fun _ _ => False) (zq C S "java/lang/IllegalArgumentException") := by
  refine rx_meth (by decide +kernel) rfl (Nat.le_of_ble_eq_true rfl) ?_
  refine rx_aload_n dX10_view_0 rfl rfl ?_
  refine rx_iload_n dX10_view_1 rfl ?_
  refine gv_invV (as := [.int _]) hG okX10_isBlock lk_RX10_150 rfl rfl dX10_view_2 rfl (by simp [Value.category]) (cf_isBlock hG h05 hnb hb) ?_
  rintro _ _ ⟨rfl, rfl⟩
  refine rx_if_eq (tgt := 24) dX10_view_5 (by decide) (fun h5 => (absurd h5 (by decide))) (fun h5 => ?_)
  refine rx_iload_n dX10_view_8 rfl ?_
  refine rx_i2l dX10_view_9 ?_
  refine rx_tl (y := lN i) (nI_l (by omega)) ?_
  refine rx_invS0 (as := [.long _]) hG okX10_isAccount lk_RX10_106 dX10_view_10 rfl (by simp [Value.category]) (cw_acct hG hi) ?_
  rintro _ _ ⟨rfl, rfl⟩
  refine rx_if_eq (tgt := 24) dX10_view_13 (by decide) (fun h13 => (absurd h13 (by decide))) (fun h13 => ?_)
  refine rx_iload_n dX10_view_16 rfl ?_
  refine rx_i2l dX10_view_17 ?_
  refine rx_tl (y := lN j) (nI_l (by omega)) ?_
  refine rx_invS0 (as := [.long _]) hG okX10_isAccount lk_RX10_106 dX10_view_18 rfl (by simp [Value.category]) (cw_acct hG hj) ?_
  rintro _ _ ⟨rfl, rfl⟩
  refine rx_if_ne (tgt := 34) dX10_view_21 (by decide) (fun h21 => ?_) (fun h21 => (absurd h21 (by decide))) 
  refine rx_iload dX10_view_34 rfl ?_
  refine rx_if_lt (tgt := 47) dX10_view_36 (by decide) (fun h36 => ?_) (fun h36 => ?_)
  · exact gx_throw hG rfl rfl th_a hw_877 dX10_view_47 dX10_view_50 dX10_view_51 dX10_view_53 dX10_view_56
  · refine rx_iload dX10_view_39 rfl ?_
    refine rx_sipush (v := nI 30000) dX10_view_41 rfl ?_
    refine rx_icmp_le (tgt := 57) dX10_view_44 (by decide) (fun h44 => wi_d3 hg (by decide) (by decide) h36 h44) (fun h44 => ?_)
    exact gx_throw hG rfl rfl th_a hw_877 dX10_view_47 dX10_view_50 dX10_view_51 dX10_view_53 dX10_view_56
set_option maxHeartbeats 1000000 in
theorem cf_view {G : rx_E} {d : Nat} {C : rx_M} {S : gs_T} (hG : rx_OK G) {A : wP} {w : wW} {b i j q od : Nat} {a : wA} {q0 : wB} {ar : Int64} (hC : rcw A C w) (h05 : C.1 0 5 = nI w.2.2.1.1) (hnb : w.2.2.1.1 ≤ 40) (hb : b < w.2.2.1.1) (hr : C.2.2.1 44 b = some a.1) (hB : cB1 C a q0) (hi : i < 32) (hj : j < 32) (hq : q < 30001) (hod : od < 10) (hodc : C.1 9 2 = nI od) (hvg : vw_G (w.1.2.1, w.1.2.2, i, q0.1.2.1)) (hvc : vw_codes (w.1.2.1, w.1.2.2, i, q0.1.2.1) q0.2.1) {Q : Option Value → rx_M → Prop} (hK : ∀ C' X' how x u, vm_whole (w.1.2.1, w.1.2.2, i, q0.1.2.1) q0.2.1 [] (lN j) 0 ar q true = (X', some (how, x, u)) → rc_agE (fun a => a = 9) (fun _ => False) C C' → cT C' → Q (some (.long x)) (gl (rx_u (rx_u (rx_u C'.1 0 9 (nI how)) 0 10 (nI q - nI u)) 0 11 (nI X'.2.2.2.2), C'.2) S)) : rx_X G MX10_view (d + 8) [.ref 0, .int (nI b), .int (nI i), .int (nI j), .long ar, .int (nI q)] (gl C S) 8 2000 Q (fun _ _ => False) := by
  refine rx_meth (by decide +kernel) rfl (Nat.le_of_ble_eq_true rfl) ?_
  refine rx_aload_n dX10_view_0 rfl rfl ?_
  refine rx_iload_n dX10_view_1 rfl ?_
  refine gv_invV (as := [.int _]) hG okX10_isBlock lk_RX10_150 rfl rfl dX10_view_2 rfl (by simp [Value.category]) (cf_isBlock hG h05 hnb hb) ?_
  rintro _ _ ⟨rfl, rfl⟩
  refine rx_if_eq (tgt := 24) dX10_view_5 (by decide) (fun h5 => (absurd h5 (by decide))) (fun h5 => ?_)
  refine rx_iload_n dX10_view_8 rfl ?_
  refine rx_i2l dX10_view_9 ?_
  refine rx_tl (y := lN i) (nI_l (by omega)) ?_
  refine rx_invS0 (as := [.long _]) hG okX10_isAccount lk_RX10_106 dX10_view_10 rfl (by simp [Value.category]) (cw_acct hG hi) ?_
  rintro _ _ ⟨rfl, rfl⟩
  refine rx_if_eq (tgt := 24) dX10_view_13 (by decide) (fun h13 => (absurd h13 (by decide))) (fun h13 => ?_)
  refine rx_iload_n dX10_view_16 rfl ?_
  refine rx_i2l dX10_view_17 ?_
  refine rx_tl (y := lN j) (nI_l (by omega)) ?_
  refine rx_invS0 (as := [.long _]) hG okX10_isAccount lk_RX10_106 dX10_view_18 rfl (by simp [Value.category]) (cw_acct hG hj) ?_
  rintro _ _ ⟨rfl, rfl⟩
  refine rx_if_ne (tgt := 34) dX10_view_21 (by decide) (fun h21 => ?_) (fun h21 => (absurd h21 (by decide))) 
  refine rx_iload dX10_view_34 rfl ?_
  refine rx_if_lt (tgt := 47) dX10_view_36 (by decide) (fun h36 => (absurd h36 (nI_pos (by omega)))) (fun h36 => ?_)
  refine rx_iload dX10_view_39 rfl ?_
  refine rx_sipush (v := nI 30000) dX10_view_41 rfl ?_
  refine rx_icmp_le (tgt := 57) dX10_view_44 (by decide) (fun h44 => ?_) (fun h44 => (absurd (by rw [nI_leI (by omega) (by omega)]; omega) h44)) 
  refine rx_aload_n dX10_view_57 rfl rfl ?_
  refine g_getR hG hf_RX10_19 rfl dX10_view_58 rfl rfl rfl ?_
  refine rx_aload_n dX10_view_61 rfl rfl ?_
  refine g_getR hG hf_RX10_31 rfl dX10_view_62 rfl rfl rfl ?_
  refine rx_iload_n dX10_view_65 rfl ?_
  refine gd_aald hG dX10_view_66 rfl rfl (by decide) rfl (show b < 40 by omega) (by decide) (gk44 (by omega)) hr ?_
  refine gy_getR hG hf_RX10_124 rfl dX10_view_67 hB.1.1 hB.2.1.2.2.1 ?_
  refine rx_aload_n dX10_view_70 rfl rfl ?_
  refine g_getR hG hf_RX10_31 rfl dX10_view_71 rfl rfl rfl ?_
  refine rx_iload_n dX10_view_74 rfl ?_
  refine gd_aald hG dX10_view_75 rfl rfl (by decide) rfl (show b < 40 by omega) (by decide) (gk44 (by omega)) hr ?_
  refine gy_getI (v := nI q0.1.2.1) hG hf_RX10_157 rfl dX10_view_76 hB.1.1 hB.2.1.2.1 ?_
  refine gv_invV (as := [.ref _, .int _]) hG okX7_load lk_RX10_160 rfl rfl dX10_view_79 rfl (by simp [Value.category]) (cf_load hG hB.2.2.1.1.1) ?_
  rintro _ _ ⟨rfl, rfl⟩
  refine rx_aload_n dX10_view_82 rfl rfl ?_
  refine g_getR hG hf_RX10_19 rfl dX10_view_83 rfl rfl rfl ?_
  refine rx_iload_n dX10_view_86 rfl ?_
  refine rx_iload_n dX10_view_87 rfl ?_
  refine rx_lconst (v := 0) dX10_view_88 rfl ?_
  refine rx_lload dX10_view_89 rfl ?_
  refine rx_iload dX10_view_91 rfl ?_
  refine rx_iconst (v := nI 1) dX10_view_93 rfl ?_
  refine gv_invV (as := [.int _, .int _, .long _, .long _, .int _, .int _]) hG okX7_run lk_RX10_222 rfl rfl dX10_view_94 rfl (by simp [Value.category]) (cc_run (l := true) (K := A.1) (g := (w.1.2.1, w.1.2.2, i, q0.1.2.1)) (n := q0.2.1) hG hod (by decide) hvg hvc (by omega) hj (fun _ => rfl) (cld_P hC.2.1 hB.2.2.1.2 hodc)) ?_
  rintro _ _ ⟨rfl, C', X', how, x, u, rfl, hR, hE, ⟨z, hU⟩, hF⟩
  have hm : C'.1 4 9 = nI X'.2.2.2.2 := rc_run (n := X'.1) (e := X'.2.1) (b := X'.2.2.1) (gs := X'.2.2.2.1) hU
  have hag := run_ag (cld_ag (C := C) (a0 := a.2.1) (h := q0.1.2.1)) hU.2.1
  have hT : cT C' := ⟨od, hod, rc_od (n := X'.1) (e := X'.2.1) (b := X'.2.2.1) (gs := X'.2.2.2.1) (m := X'.2.2.2.2) hU⟩
  refine rx_aload_n dX10_view_97 rfl rfl ?_
  refine rx_aload_n dX10_view_98 rfl rfl ?_
  refine g_getR hG hf_RX10_19 rfl dX10_view_99 rfl rfl rfl ?_
  refine gcv_getI (v := nI how) hG hf_RX10_226 rfl dX10_view_102 rfl rfl rfl hF.1 ?_
  refine gc_putI hG hf_RX10_229 (gw_nf rfl rfl) rfl dX10_view_105 rfl rfl rfl rfl rfl ?_
  refine rx_aload_n dX10_view_108 rfl rfl ?_
  refine rx_iload dX10_view_109 rfl ?_
  refine rx_aload_n dX10_view_111 rfl rfl ?_
  refine g_getR hG hf_RX10_19 rfl dX10_view_112 rfl rfl rfl ?_
  refine gcv_getI (v := nI u) hG hf_RX10_232 rfl dX10_view_115 rfl rfl rfl (by simpa [rx_ru] using (by simpa [rx_ru] using hF.2.2)) ?_
  refine rx_isub dX10_view_118 ?_
  refine gc_putI hG hf_RX10_235 (gw_nf rfl rfl) rfl dX10_view_119 rfl rfl rfl rfl rfl ?_
  refine rx_aload_n dX10_view_122 rfl rfl ?_
  refine rx_aload_n dX10_view_123 rfl rfl ?_
  refine g_getR hG hf_RX10_19 rfl dX10_view_124 rfl rfl rfl ?_
  refine gcv_getI (v := nI X'.2.2.2.2) hG hf_RX10_238 rfl dX10_view_127 rfl rfl rfl (by simpa [rx_ru] using (by simpa [rx_ru] using hm)) ?_
  refine gc_putI hG hf_RX10_241 (gw_nf rfl rfl) rfl dX10_view_130 rfl rfl rfl rfl rfl ?_
  refine rx_aload_n dX10_view_133 rfl rfl ?_
  refine g_getR hG hf_RX10_19 rfl dX10_view_134 rfl rfl rfl ?_
  refine gcv_getL (v := x) hG hf_RX10_244 rfl dX10_view_137 rfl rfl rfl hF.2.1 ?_
  exact rx_lret rfl dX10_view_140 (hK C' X' how x u hR hag hT)
theorem mf_view_b {G : rx_E} {d : Nat} {C : rx_M} {S : gs_T} (hG : rx_OK G) {nb : Nat} (h15 : S.1 52 15 = nI nb) (hnb : nb ≤ 40) {x f t g : Int32} {ar : Int64} (hx : wi_out x nb) : rx_C G MX11_view (d + 2) [.ref 52, .int x, .int f, .int t, .long ar, .int g] (gl C S) 0 0 (fun vv mu => vv = some (.long 0) ∧ mu = gl C (rx_u S.1 52 0 (nI 1), S.2)) := by
  refine rx_meth0 (by decide +kernel) rfl (Nat.le_of_ble_eq_true rfl) ?_
  refine rx_aload_n dX11_view_0 rfl rfl ?_
  refine rx_aload_n dX11_view_1 rfl rfl ?_
  refine rx_iload_n dX11_view_2 rfl ?_
  refine gv_invV (as := [.int _]) hG okX11_isBlock lk_RX11_318 rfl rfl dX11_view_3 rfl (by simp [Value.category]) (mf_isBlockO hG h15 hnb hx) ?_
  rintro _ _ ⟨rfl, rfl⟩
  refine rx_if_eq (tgt := 25) dX11_view_6 (by decide) (fun h6 => ?_) (fun h6 => (absurd h6 (by decide))) 
  refine rx_iconst (v := nI 1) dX11_view_25 rfl ?_
  refine rx_goto (tgt := 47) dX11_view_26 (by decide) ?_
  refine gm_putI hG hf_RX11_160 (gw_nf rfl rfl) rfl dX11_view_47 rfl rfl rfl rfl rfl ?_
  refine rx_aload_n dX11_view_50 rfl rfl ?_
  refine gmv_getI (v := nI 1) hG hf_RX11_160 rfl dX11_view_51 rfl rfl rfl (by simp [rx_ru]) ?_
  refine rx_if_le (tgt := 59) dX11_view_54 (by decide) (fun h54 => (absurd h54 (by decide))) (fun h54 => ?_)
  refine rx_lconst (v := 0) dX11_view_57 rfl ?_
  exact rx_lret rfl dX11_view_58 ⟨rfl, rfl⟩
theorem mf_view_f {G : rx_E} {d : Nat} {C : rx_M} {S : gs_T} (hG : rx_OK G) {nb : Nat} (h15 : S.1 52 15 = nI nb) (hnb : nb ≤ 40) {b : Nat} {f t g : Int32} {ar : Int64} (hb : b < nb) (hf : wi_out f 32) : rx_C G MX11_view (d + 2) [.ref 52, .int (nI b), .int f, .int t, .long ar, .int g] (gl C S) 0 0 (fun vv mu => vv = some (.long 0) ∧ mu = gl C (rx_u S.1 52 0 (nI 1), S.2)) := by
  refine rx_meth0 (by decide +kernel) rfl (Nat.le_of_ble_eq_true rfl) ?_
  refine rx_aload_n dX11_view_0 rfl rfl ?_
  refine rx_aload_n dX11_view_1 rfl rfl ?_
  refine rx_iload_n dX11_view_2 rfl ?_
  refine gv_invV (as := [.int _]) hG okX11_isBlock lk_RX11_318 rfl rfl dX11_view_3 rfl (by simp [Value.category]) (mf_isBlock hG h15 hnb hb) ?_
  rintro _ _ ⟨rfl, rfl⟩
  refine rx_if_eq (tgt := 25) dX11_view_6 (by decide) (fun h6 => (absurd h6 (by decide))) (fun h6 => ?_)
  refine rx_iload_n dX11_view_9 rfl ?_
  refine rx_i2l dX11_view_10 ?_
  refine rx_invS0 (as := [.long _]) hG okX11_isAccount lk_RX11_181 dX11_view_11 rfl (by simp [Value.category]) (cm_isAccountF hG (acct_out hf)) ?_
  rintro _ _ ⟨rfl, rfl⟩
  refine rx_if_eq (tgt := 25) dX11_view_14 (by decide) (fun h14 => ?_) (fun h14 => (absurd h14 (by decide))) 
  refine rx_iconst (v := nI 1) dX11_view_25 rfl ?_
  refine rx_goto (tgt := 47) dX11_view_26 (by decide) ?_
  refine gm_putI hG hf_RX11_160 (gw_nf rfl rfl) rfl dX11_view_47 rfl rfl rfl rfl rfl ?_
  refine rx_aload_n dX11_view_50 rfl rfl ?_
  refine gmv_getI (v := nI 1) hG hf_RX11_160 rfl dX11_view_51 rfl rfl rfl (by simp [rx_ru]) ?_
  refine rx_if_le (tgt := 59) dX11_view_54 (by decide) (fun h54 => (absurd h54 (by decide))) (fun h54 => ?_)
  refine rx_lconst (v := 0) dX11_view_57 rfl ?_
  exact rx_lret rfl dX11_view_58 ⟨rfl, rfl⟩
theorem mf_view_t {G : rx_E} {d : Nat} {C : rx_M} {S : gs_T} (hG : rx_OK G) {nb : Nat} (h15 : S.1 52 15 = nI nb) (hnb : nb ≤ 40) {b i : Nat} {t g : Int32} {ar : Int64} (hb : b < nb) (hi : i < 32) (ht : wi_out t 32) : rx_C G MX11_view (d + 2) [.ref 52, .int (nI b), .int (nI i), .int t, .long ar, .int g] (gl C S) 0 0 (fun vv mu => vv = some (.long 0) ∧ mu = gl C (rx_u S.1 52 0 (nI 1), S.2)) := by
  refine rx_meth0 (by decide +kernel) rfl (Nat.le_of_ble_eq_true rfl) ?_
  refine rx_aload_n dX11_view_0 rfl rfl ?_
  refine rx_aload_n dX11_view_1 rfl rfl ?_
  refine rx_iload_n dX11_view_2 rfl ?_
  refine gv_invV (as := [.int _]) hG okX11_isBlock lk_RX11_318 rfl rfl dX11_view_3 rfl (by simp [Value.category]) (mf_isBlock hG h15 hnb hb) ?_
  rintro _ _ ⟨rfl, rfl⟩
  refine rx_if_eq (tgt := 25) dX11_view_6 (by decide) (fun h6 => (absurd h6 (by decide))) (fun h6 => ?_)
  refine rx_iload_n dX11_view_9 rfl ?_
  refine rx_i2l dX11_view_10 ?_
  refine rx_tl (y := lN i) (nI_l (by omega)) ?_
  refine rx_invS0 (as := [.long _]) hG okX11_isAccount lk_RX11_181 dX11_view_11 rfl (by simp [Value.category]) (cm_isAccountT hG (lN_isacct hi)) ?_
  rintro _ _ ⟨rfl, rfl⟩
  refine rx_if_eq (tgt := 25) dX11_view_14 (by decide) (fun h14 => (absurd h14 (by decide))) (fun h14 => ?_)
  refine rx_iload_n dX11_view_17 rfl ?_
  refine rx_i2l dX11_view_18 ?_
  refine rx_invS0 (as := [.long _]) hG okX11_isAccount lk_RX11_181 dX11_view_19 rfl (by simp [Value.category]) (cm_isAccountF hG (acct_out ht)) ?_
  rintro _ _ ⟨rfl, rfl⟩
  refine rx_if_ne (tgt := 29) dX11_view_22 (by decide) (fun h22 => (absurd h22 (by decide))) (fun h22 => ?_)
  refine rx_iconst (v := nI 1) dX11_view_25 rfl ?_
  refine rx_goto (tgt := 47) dX11_view_26 (by decide) ?_
  refine gm_putI hG hf_RX11_160 (gw_nf rfl rfl) rfl dX11_view_47 rfl rfl rfl rfl rfl ?_
  refine rx_aload_n dX11_view_50 rfl rfl ?_
  refine gmv_getI (v := nI 1) hG hf_RX11_160 rfl dX11_view_51 rfl rfl rfl (by simp [rx_ru]) ?_
  refine rx_if_le (tgt := 59) dX11_view_54 (by decide) (fun h54 => (absurd h54 (by decide))) (fun h54 => ?_)
  refine rx_lconst (v := 0) dX11_view_57 rfl ?_
  exact rx_lret rfl dX11_view_58 ⟨rfl, rfl⟩
theorem mf_view_g {G : rx_E} {d : Nat} {C : rx_M} {S : gs_T} (hG : rx_OK G) {nb : Nat} (h15 : S.1 52 15 = nI nb) (hnb : nb ≤ 40) {b i j : Nat} {g : Int32} {ar : Int64} (hb : b < nb) (hi : i < 32) (hj : j < 32) (hg : wi_out g 30001) : rx_C G MX11_view (d + 2) [.ref 52, .int (nI b), .int (nI i), .int (nI j), .long ar, .int g] (gl C S) 0 0 (fun vv mu => vv = some (.long 0) ∧ mu = gl C (rx_u S.1 52 0 (nI 2), S.2)) := by
  refine rx_meth0 (by decide +kernel) rfl (Nat.le_of_ble_eq_true rfl) ?_
  refine rx_aload_n dX11_view_0 rfl rfl ?_
  refine rx_aload_n dX11_view_1 rfl rfl ?_
  refine rx_iload_n dX11_view_2 rfl ?_
  refine gv_invV (as := [.int _]) hG okX11_isBlock lk_RX11_318 rfl rfl dX11_view_3 rfl (by simp [Value.category]) (mf_isBlock hG h15 hnb hb) ?_
  rintro _ _ ⟨rfl, rfl⟩
  refine rx_if_eq (tgt := 25) dX11_view_6 (by decide) (fun h6 => (absurd h6 (by decide))) (fun h6 => ?_)
  refine rx_iload_n dX11_view_9 rfl ?_
  refine rx_i2l dX11_view_10 ?_
  refine rx_tl (y := lN i) (nI_l (by omega)) ?_
  refine rx_invS0 (as := [.long _]) hG okX11_isAccount lk_RX11_181 dX11_view_11 rfl (by simp [Value.category]) (cm_isAccountT hG (lN_isacct hi)) ?_
  rintro _ _ ⟨rfl, rfl⟩
  refine rx_if_eq (tgt := 25) dX11_view_14 (by decide) (fun h14 => (absurd h14 (by decide))) (fun h14 => ?_)
  refine rx_iload_n dX11_view_17 rfl ?_
  refine rx_i2l dX11_view_18 ?_
  refine rx_tl (y := lN j) (nI_l (by omega)) ?_
  refine rx_invS0 (as := [.long _]) hG okX11_isAccount lk_RX11_181 dX11_view_19 rfl (by simp [Value.category]) (cm_isAccountT hG (lN_isacct hj)) ?_
  rintro _ _ ⟨rfl, rfl⟩
  refine rx_if_ne (tgt := 29) dX11_view_22 (by decide) (fun h22 => ?_) (fun h22 => (absurd h22 (by decide))) 
  refine rx_iload dX11_view_29 rfl ?_
  refine rx_if_lt (tgt := 42) dX11_view_31 (by decide) (fun h31 => ?_) (fun h31 => ?_)
  · refine rx_iconst (v := nI 2) dX11_view_42 rfl ?_
    refine rx_goto (tgt := 47) dX11_view_43 (by decide) ?_
    refine gm_putI hG hf_RX11_160 (gw_nf rfl rfl) rfl dX11_view_47 rfl rfl rfl rfl rfl ?_
    refine rx_aload_n dX11_view_50 rfl rfl ?_
    refine gmv_getI (v := nI 2) hG hf_RX11_160 rfl dX11_view_51 rfl rfl rfl (by simp [rx_ru]) ?_
    refine rx_if_le (tgt := 59) dX11_view_54 (by decide) (fun h54 => (absurd h54 (by decide))) (fun h54 => ?_)
    refine rx_lconst (v := 0) dX11_view_57 rfl ?_
    exact rx_lret rfl dX11_view_58 ⟨rfl, rfl⟩
  · refine rx_iload dX11_view_34 rfl ?_
    refine rx_sipush (v := nI 30000) dX11_view_36 rfl ?_
    refine rx_icmp_le (tgt := 46) dX11_view_39 (by decide) (fun h39 => wi_d3 hg (by decide) (by decide) h31 h39) (fun h39 => ?_)
    refine rx_iconst (v := nI 2) dX11_view_42 rfl ?_
    refine rx_goto (tgt := 47) dX11_view_43 (by decide) ?_
    refine gm_putI hG hf_RX11_160 (gw_nf rfl rfl) rfl dX11_view_47 rfl rfl rfl rfl rfl ?_
    refine rx_aload_n dX11_view_50 rfl rfl ?_
    refine gmv_getI (v := nI 2) hG hf_RX11_160 rfl dX11_view_51 rfl rfl rfl (by simp [rx_ru]) ?_
    refine rx_if_le (tgt := 59) dX11_view_54 (by decide) (fun h54 => (absurd h54 (by decide))) (fun h54 => ?_)
    refine rx_lconst (v := 0) dX11_view_57 rfl ?_
    exact rx_lret rfl dX11_view_58 ⟨rfl, rfl⟩
/-- only the longs of one row differ -/
def mzr (u : Nat) (S S' : gs_T) : Prop := S'.1 = S.1 ∧ ∀ a, a ≠ u → S'.2 a = S.2 a
theorem mzr_u {u : Nat} {S S' : gs_T} {j : Nat} {x : Int64} (h : mzr u S S') : mzr u S (S'.1, rx_u S'.2 u j x) := ⟨h.1, fun a ha => (rx_une _ ha).trans (h.2 a ha)⟩
theorem mzr_r {u : Nat} {S : gs_T} : mzr u S S := ⟨rfl, fun _ _ => rfl⟩
theorem lm_vcopy {G : rx_E} {d mc ms : Nat} {C : rx_M} {S : gs_T} {b i j q : Nat} {ar : Int64} {n : Nat → Int64} {Q : Option Value → rx_M → Prop} {Z : String → rx_M → Prop} (hG : rx_OK G) (hb40 : b < 40) (hst : ∀ k, k < 608 → S.2 71 (608 * b + k) = n k) (kk : ∀ S', mzr 82 S S' → (∀ t, t < 608 → S'.2 82 t = n t) → rx_W G MX11_view d 96 [(7, .int (nI 608)), (0, .ref 52), (1, .int (nI b)), (2, .int (nI i)), (3, .int (nI j)), (4, .long ar), (6, .int (nI q))] [] (gl C S') mc ms Q Z) : ∀ (m k : Nat) (S' : gs_T), k + m = 608 → mzr 82 S S' → (∀ t, t < k → S'.2 82 t = n t) → rx_W G MX11_view d 62 [(7, .int (nI k)), (0, .ref 52), (1, .int (nI b)), (2, .int (nI i)), (3, .int (nI j)), (4, .long ar), (6, .int (nI q))] [] (gl C S') mc ms Q Z := by
  intro m
  induction m with
  | zero =>
    intro k S' hk hm hd
    have hk : k = 608 := by omega
    subst hk
    refine rx_iload dX11_view_62 rfl ?_
    refine rx_sipush (v := nI 608) dX11_view_64 rfl ?_
    refine rx_icmp_ge (tgt := 96) dX11_view_67 (by decide) (fun _ => ?_) (fun q => absurd (by decide) q)
    exact kk S' hm hd
  | succ m ih =>
    intro k S' hk hm hd
    refine rx_iload dX11_view_62 rfl ?_
    refine rx_sipush (v := nI 608) dX11_view_64 rfl ?_
    refine rx_icmp_ge (tgt := 96) dX11_view_67 (by decide) (fun h67 => (absurd h67 (by rw [nI_leI (by omega) (by omega)]; omega))) (fun h67 => ?_)
    refine rx_aload_n dX11_view_70 rfl rfl ?_
    refine g_getR hG hf_RX11_99 rfl dX11_view_71 rfl rfl rfl ?_
    refine rx_iload dX11_view_74 rfl ?_
    refine rx_aload_n dX11_view_76 rfl rfl ?_
    refine g_getR hG hf_RX11_66 rfl dX11_view_77 rfl rfl rfl ?_
    refine rx_sipush (v := nI 608) dX11_view_80 rfl ?_
    refine rx_iload_n dX11_view_83 rfl ?_
    refine rx_imul dX11_view_84 ?_
    refine rx_ti (y := nI (608 * b)) ((pk_mul _ _).trans (congrArg nI (by omega))) ?_
    refine rx_iload dX11_view_85 rfl ?_
    refine rx_iadd dX11_view_87 ?_
    refine rx_ti (y := nI (608 * b + k)) ((nI_add _ _).trans (congrArg nI (by omega))) ?_
    refine gmv_lald (j := 608 * b + k) (v := n k) hG dX11_view_88 rfl rfl rfl rfl (by omega) (by decide) ((congrFun (hm.2 71 (by decide)) _).trans (hst k (by omega))) ?_
    refine gm_last (j := k) hG dX11_view_89 rfl rfl rfl rfl (by omega) (by decide) ?_
    refine rx_iinc (v := nI (k + 1)) dX11_view_90 rfl ((nI_add _ 1).trans (congrArg nI (by omega))) ?_
    refine rx_goto (tgt := 62) dX11_view_93 (by decide) ?_
    refine rx_lv (lv' := [(7, .int (nI (k + 1))), (0, .ref 52), (1, .int (nI b)), (2, .int (nI i)), (3, .int (nI j)), (4, .long ar), (6, .int (nI q))]) ⟨rfl, rfl, rfl, rfl, rfl, rfl, rfl, trivial⟩ ?_
    refine ih (k + 1) _ (by omega) (mzr_u hm) (fun t ht => ?_)
    show rx_u S'.2 82 k _ 82 t = _
    rw [rx_ru, if_pos rfl]
    split
    · rename_i q; subst q; rfl
    · exact hd t (by omega)
set_option maxHeartbeats 1000000 in
theorem mf_view {G : rx_E} {d : Nat} {C : rx_M} {S : gs_T} (hG : rx_OK G) {w : wW} {b i j q : Nat} {q0 : wB} {ar : Int64} (hS : rmw S w) (h15 : S.1 52 15 = nI w.2.2.1.1) (hnb : w.2.2.1.1 ≤ 40) (hb : b < w.2.2.1.1) (hB : mB1 S b q0) (hi : i < 32) (hj : j < 32) (hq : q < 30001) (hvg : vw_G (w.1.2.1, w.1.2.2, i, q0.1.2.1)) (hvc : vw_codes (w.1.2.1, w.1.2.2, i, q0.1.2.1) q0.2.1) {Q : Option Value → rx_M → Prop} (hK : ∀ S' X' how x u, vm_whole (w.1.2.1, w.1.2.2, i, q0.1.2.1) q0.2.1 [] (lN j) 0 ar q true = (X', some (how, x, u)) → (rm_agE (fun _ => False) (fun k => 61 ≤ k ∧ k ≤ 63) S S' ∧ S'.1 52 0 = nI 0 ∧ S'.1 52 61 = nI how ∧ S'.1 52 62 = nI q - nI u ∧ S'.1 52 63 = nI X'.2.2.2.2) → Q (some (.long x)) (gl C S')) : rx_C G MX11_view (d + 7) [.ref 52, .int (nI b), .int (nI i), .int (nI j), .long ar, .int (nI q)] (gl C S) 0 0 Q := by
  refine rx_meth0 (by decide +kernel) rfl (Nat.le_of_ble_eq_true rfl) ?_
  refine rx_aload_n dX11_view_0 rfl rfl ?_
  refine rx_aload_n dX11_view_1 rfl rfl ?_
  refine rx_iload_n dX11_view_2 rfl ?_
  refine gv_invV (as := [.int _]) hG okX11_isBlock lk_RX11_318 rfl rfl dX11_view_3 rfl (by simp [Value.category]) (mf_isBlock hG h15 hnb hb) ?_
  rintro _ _ ⟨rfl, rfl⟩
  refine rx_if_eq (tgt := 25) dX11_view_6 (by decide) (fun h6 => (absurd h6 (by decide))) (fun h6 => ?_)
  refine rx_iload_n dX11_view_9 rfl ?_
  refine rx_i2l dX11_view_10 ?_
  refine rx_tl (y := lN i) (nI_l (by omega)) ?_
  refine rx_invS0 (as := [.long _]) hG okX11_isAccount lk_RX11_181 dX11_view_11 rfl (by simp [Value.category]) (cm_isAccountT hG (lN_isacct hi)) ?_
  rintro _ _ ⟨rfl, rfl⟩
  refine rx_if_eq (tgt := 25) dX11_view_14 (by decide) (fun h14 => (absurd h14 (by decide))) (fun h14 => ?_)
  refine rx_iload_n dX11_view_17 rfl ?_
  refine rx_i2l dX11_view_18 ?_
  refine rx_tl (y := lN j) (nI_l (by omega)) ?_
  refine rx_invS0 (as := [.long _]) hG okX11_isAccount lk_RX11_181 dX11_view_19 rfl (by simp [Value.category]) (cm_isAccountT hG (lN_isacct hj)) ?_
  rintro _ _ ⟨rfl, rfl⟩
  refine rx_if_ne (tgt := 29) dX11_view_22 (by decide) (fun h22 => ?_) (fun h22 => (absurd h22 (by decide))) 
  refine rx_iload dX11_view_29 rfl ?_
  refine rx_if_lt (tgt := 42) dX11_view_31 (by decide) (fun h31 => (absurd h31 (nI_pos (by omega)))) (fun h31 => ?_)
  refine rx_iload dX11_view_34 rfl ?_
  refine rx_sipush (v := nI 30000) dX11_view_36 rfl ?_
  refine rx_icmp_le (tgt := 46) dX11_view_39 (by decide) (fun h39 => ?_) (fun h39 => (absurd (by rw [nI_leI (by omega) (by omega)]; omega) h39)) 
  refine rx_iconst (v := nI 0) dX11_view_46 rfl ?_
  refine gm_putI hG hf_RX11_160 (gw_nf rfl rfl) rfl dX11_view_47 rfl rfl rfl rfl rfl ?_
  refine rx_aload_n dX11_view_50 rfl rfl ?_
  refine gmv_getI (v := nI 0) hG hf_RX11_160 rfl dX11_view_51 rfl rfl rfl (by simp [rx_ru]) ?_
  refine rx_if_le (tgt := 59) dX11_view_54 (by decide) (fun h54 => ?_) (fun h54 => (absurd h54 (by decide))) 
  refine rx_iconst (v := nI 0) dX11_view_59 rfl ?_
  refine rx_istore dX11_view_60 (by decide) ?_
  refine rx_lv (lv' := [(7, .int (nI 0)), (0, .ref 52), (1, .int (nI b)), (2, .int (nI i)), (3, .int (nI j)), (4, .long ar), (6, .int (nI q))]) ⟨rfl, rfl, rfl, rfl, rfl, rfl, rfl, trivial⟩ ?_
  refine lm_vcopy (S := (rx_u S.1 52 0 (nI 0), S.2)) (n := q0.2.1) hG (by omega) (fun k hk => hB.2.1 k hk) (fun S1 hm hd => ?_) 608 0 _ rfl mzr_r (fun _ q => absurd q (Nat.not_lt_zero _))
  have e1 : S1.1 = rx_u S.1 52 0 (nI 0) := hm.1
  refine rx_aload_n dX11_view_96 rfl rfl ?_
  refine rx_aload_n dX11_view_97 rfl rfl ?_
  refine g_getR hG hf_RX11_48 rfl dX11_view_98 rfl rfl rfl ?_
  refine rx_iload_n dX11_view_101 rfl ?_
  refine gmv_iald (j := b) (v := nI q0.1.2.1) hG dX11_view_102 rfl rfl rfl rfl (by omega) (by decide) (by rw [e1]; simpa [rx_ru] using hB.1.2.1) ?_
  refine gm_putI hG hf_RX11_275 (gw_nf rfl rfl) rfl dX11_view_103 rfl rfl rfl rfl rfl ?_
  refine rx_aload_n dX11_view_106 rfl rfl ?_
  refine rx_iconst (v := nI 0) dX11_view_107 rfl ?_
  refine gm_putI hG hf_RX11_212 (gw_nf rfl rfl) rfl dX11_view_108 rfl rfl rfl rfl rfl ?_
  refine rx_aload_n dX11_view_111 rfl rfl ?_
  refine rx_iload_n dX11_view_112 rfl ?_
  refine rx_iload_n dX11_view_113 rfl ?_
  refine rx_lconst (v := 0) dX11_view_114 rfl ?_
  refine rx_lload dX11_view_115 rfl ?_
  refine rx_iload dX11_view_117 rfl ?_
  refine rx_i2l dX11_view_119 ?_
  refine rx_tl (y := lN q) (nI_l (by omega)) ?_
  refine rx_iconst (v := nI 1) dX11_view_120 rfl ?_
  have hP : rm_P (rx_u (rx_u S1.1 52 51 (nI q0.1.2.1)) 52 52 (nI 0), S1.2) (w.1.2.1, w.1.2.2, i, q0.1.2.1) q0.2.1 := by
    obtain ⟨k1, k2⟩ := hS.2.1
    refine ⟨⟨fun c hc => ⟨?_, fun k hk => ?_⟩, ?_, by simp [rx_ru]⟩, hd, by simp [rx_ru]⟩
    · rw [e1]; simpa [rx_ru] using (k1 c hc).1
    · rw [e1]; simpa [rx_ru] using (k1 c hc).2 k hk
    · rw [e1]; simpa [rx_ru] using k2
  refine gv_invV (as := [.int _, .int _, .long _, .long _, .long _, .int _]) hG okX11_wholeCall lk_RX11_314 rfl rfl dX11_view_121 rfl (by simp [Value.category]) (cr_whole (l := true) hG hvg hvc (by omega) hj (fun _ => rfl) hP) ?_
  rintro _ _ ⟨rfl, S2, X', how, x, u, rfl, hR, hE, hY, h59, h60⟩
  have hrs := hY.2.1
  refine rx_aload_n dX11_view_124 rfl rfl ?_
  refine rx_aload_n dX11_view_125 rfl rfl ?_
  refine gmv_getI (v := nI how) hG hf_RX11_193 rfl dX11_view_126 rfl rfl rfl hY.2.2 ?_
  refine gm_putI hG hf_RX11_338 (gw_nf rfl rfl) rfl dX11_view_129 rfl rfl rfl rfl rfl ?_
  refine rx_aload_n dX11_view_132 rfl rfl ?_
  refine rx_iload dX11_view_133 rfl ?_
  refine rx_aload_n dX11_view_135 rfl rfl ?_
  refine gmv_getL (v := lN u) hG hf_RX11_200 rfl dX11_view_136 rfl rfl rfl h60 ?_
  refine rx_l2i dX11_view_139 ?_
  refine rx_ti (y := nI u) (lN_i _) ?_
  refine rx_isub dX11_view_140 ?_
  refine gm_putI hG hf_RX11_341 (gw_nf rfl rfl) rfl dX11_view_141 rfl rfl rfl rfl rfl ?_
  refine rx_aload_n dX11_view_144 rfl rfl ?_
  refine rx_aload_n dX11_view_145 rfl rfl ?_
  refine gmv_getI (v := nI X'.2.2.2.2) hG hf_RX11_218 rfl dX11_view_146 rfl rfl rfl (by simpa [rx_ru] using hY.1.2.2.2.2.2) ?_
  refine gm_putI hG hf_RX11_344 (gw_nf rfl rfl) rfl dX11_view_149 rfl rfl rfl rfl rfl ?_
  refine rx_aload_n dX11_view_152 rfl rfl ?_
  refine gmv_getL (v := x) hG hf_RX11_196 rfl dX11_view_153 rfl rfl rfl h59 ?_
  refine rx_lret rfl dX11_view_156 (hK _ X' how x u hR ?_)
  obtain ⟨r1, r2, r3⟩ := hrs
  refine ⟨⟨fun a hE2 h1 h2 h3 => ?_, fun k hF hk => ?_⟩, ?_⟩
  · have e2 := r1 a h2 (by omega)
    refine ⟨(rx_une _ (by omega)).trans ((rx_une _ (by omega)).trans ((rx_une _ (by omega)).trans (e2.1.trans ?_))), e2.2.trans (hm.2 a (by omega))⟩
    refine (rx_une _ (by omega)).trans ((rx_une _ (by omega)).trans ?_)
    rw [e1]; exact rx_une _ (by omega)
  · have hF : ¬ (61 ≤ k ∧ k ≤ 63) := hF
    have e2 := (r3 k (by omega) (by omega) (by omega) (by omega) (by omega) (by omega) (by omega) (by omega)).1
    have n1 : ¬ k = 61 := by omega
    have n2 : ¬ k = 62 := by omega
    have n3 : ¬ k = 63 := by omega
    simp [rx_ru, n1, n2, n3]; rw [e2]
    have n4 : ¬ k = 51 := by omega
    have n5 : ¬ k = 52 := by omega
    have n6 : ¬ k = 0 := by omega
    simp [rx_ru, n4, n5]; rw [e1]; simp [rx_ru, n6]
  · have e2 := (r3 0 (by decide) (by decide) (by decide) (by decide) (by decide) (by decide) (by decide) (by decide)).1
    refine ⟨?_, by simp [rx_ru], by simp [rx_ru], by simp [rx_ru]⟩
    simp [rx_ru]; rw [e2]; simp [rx_ru]; rw [e1]; simp [rx_ru]
theorem F_view {G : rx_E} {d n : Nat} {w : wW} (hG : rx_OK G) (hN : rx_NC G) (hv : vW w n) (hn : n ≤ 512) (x y z : Int32) (ar : Int64) (u : Int32) : fP n w (fun C S Q => rx_H G ML_view hL_view (d + 9) [.ref 0, .int x, .int y, .int z, .long ar, .int u, .ref 101] (gl C S) 8 2000 Q) (fun C S Q => rx_C G MX11_view (d + 9) [.ref 52, .int x, .int y, .int z, .long ar, .int u] (gl C S) 0 0 Q) mRL := by
  have hnb := hv.2.2.2.1.1.2
  rcases wi_ix x (show w.2.2.1.1 < 2 ^ 31 by omega) with hx | ⟨b, hb, rfl⟩
  · exact ⟨1, 0, w, by decide, vW_up hv (Nat.le_succ n), fun A C S hC => rx_Hm (HL_view_x hG hN (cf_view_b hG (rcw_b hC) hnb hx)) (hR_x hC (by decide)), fun C S hS => rx_Cm (mf_view_b hG (rmw_b hS) hnb hx) (mRL_t hS (fun h => absurd h (by decide)))⟩
  rcases wi_ix y (N := 32) (by decide) with hy | ⟨i, hi, rfl⟩
  · exact ⟨1, 0, w, by decide, vW_up hv (Nat.le_succ n), fun A C S hC => rx_Hm (HL_view_x hG hN (cf_view_f hG (rcw_b hC) hnb hb hy)) (hR_x hC (by decide)), fun C S hS => rx_Cm (mf_view_f hG (rmw_b hS) hnb hb hy) (mRL_t hS (fun h => absurd h (by decide)))⟩
  rcases wi_ix z (N := 32) (by decide) with hz | ⟨j, hj, rfl⟩
  · exact ⟨1, 0, w, by decide, vW_up hv (Nat.le_succ n), fun A C S hC => rx_Hm (HL_view_x hG hN (cf_view_t hG (rcw_b hC) hnb hb hi hz)) (hR_x hC (by decide)), fun C S hS => rx_Cm (mf_view_t hG (rmw_b hS) hnb hb hi hz) (mRL_t hS (fun h => absurd h (by decide)))⟩
  rcases wi_ix u (N := 30001) (by decide) with hu | ⟨q, hq, rfl⟩
  · exact ⟨2, 0, w, by decide, vW_up hv (Nat.le_succ n), fun A C S hC => rx_Hm (HL_view_a hG hN (cf_view_g hG (rcw_b hC) hnb hb hi hj hu)) (hR_x hC (by decide)), fun C S hS => rx_Cm (mf_view_g hG (rmw_b hS) hnb hb hi hj hu) (mRL_t hS (fun h => absurd h (by decide)))⟩
  have hB := hv.2.2.2.1.2.1 b hb
  have hvg : vw_G (w_g w i (w.2.2.1.2 b).1.2.1) := ⟨hv.2.1.1, hv.2.1.2, hi, by show (w.2.2.1.2 b).1.2.1 < 100; have := hB.1.1; omega⟩
  refine ⟨0, ((vm_whole (w_g w i (w.2.2.1.2 b).1.2.1) (w.2.2.1.2 b).2.1 [] (lN j) 0 ar q true).2.getD (0, 0, 0)).2.1, w_seen w (nI ((vm_whole (w_g w i (w.2.2.1.2 b).1.2.1) (w.2.2.1.2 b).2.1 [] (lN j) 0 ar q true).2.getD (0, 0, 0)).1, nI q - nI ((vm_whole (w_g w i (w.2.2.1.2 b).1.2.1) (w.2.2.1.2 b).2.1 [] (lN j) 0 ar q true).2.getD (0, 0, 0)).2.2, nI (vm_whole (w_g w i (w.2.2.1.2 b).1.2.1) (w.2.2.1.2 b).2.1 [] (lN j) 0 ar q true).1.2.2.2.2), by decide, vW_up hv (Nat.le_succ n), fun A C S hC => ?_, fun C S hS => ?_⟩
  · obtain ⟨od, ho1, ho2⟩ := hC.2.2.2.1.2.2.2.2
    refine rx_Hm (HL_view (r := ((vm_whole (w_g w i (w.2.2.1.2 b).1.2.1) (w.2.2.1.2 b).2.1 [] (lN j) 0 ar q true).2.getD (0, 0, 0)).2.1) (P := fun C' => rcw A C' (w_seen w (nI ((vm_whole (w_g w i (w.2.2.1.2 b).1.2.1) (w.2.2.1.2 b).2.1 [] (lN j) 0 ar q true).2.getD (0, 0, 0)).1, nI q - nI ((vm_whole (w_g w i (w.2.2.1.2 b).1.2.1) (w.2.2.1.2 b).2.1 [] (lN j) 0 ar q true).2.getD (0, 0, 0)).2.2, nI (vm_whole (w_g w i (w.2.2.1.2 b).1.2.1) (w.2.2.1.2 b).2.1 [] (lN j) 0 ar q true).1.2.2.2.2))) hG (cf_view hG hC (rcw_b hC) hnb hb (hC.2.2.2.1.2.1 b hb).1 (hC.2.2.2.1.2.1 b hb).2 hi hj hq ho1 ho2 hvg hB.2.1 ?_)) ?_
    · intro C' X' how x u hR hg hT
      refine ⟨?_, _, rfl, ?_⟩
      · rw [hR]; rfl
      · rw [hR]; exact rcw_seen hC hg hT
    · rintro _ _ ⟨rfl, C', rfl, hP⟩
      exact ⟨rfl, A, _, rfl, rcw_ag hP rc_ag_out, fun _ => by simp [rx_ru]⟩
  · refine mf_view hG hS (rmw_b hS) hnb hb (hS.2.2.2.1.2 b hb).1 hi hj hq hvg hB.2.1 ?_
    intro S' X' how x u hR hg
    obtain ⟨hg, h0, h1, h2, h3⟩ := hg
    refine ⟨S', x, rfl, rfl, ?_, h0, fun _ => by rw [hR]; rfl⟩
    rw [hR]
    exact ⟨mD_agE hS.1 hg (noF 55) (by decide), mK_agE hS.2.1 hg (noF 53) (noF 54) (by decide), mO_agE hS.2.2.1 hg (fun a _ _ => noF a) (by decide), mB_agE hS.2.2.2.1 hg (fun a _ _ => noF a) (by decide), mV_agE hS.2.2.2.2.1 hg (noF 79) (noF 80), mS_agE hS.2.2.2.2.2.1 hg (noF 81), h1, h2, h3⟩

theorem cm_isAccountT {G : rx_E} {d : Nat} (hG : rx_OK G) {x : Int64} {mu : rx_M} (h : vm_acct x) : rx_C G MX11_isAccount d [.long x] mu 0 0 (fun v m => v = some (.int (nI 1)) ∧ m = mu) := by
  haveI := Classical.propDecidable
  refine rx_Cm (cm_isAccount hG) (fun v m hq => ?_)
  rw [if_pos h] at hq
  exact hq
theorem cm_isAccountF {G : rx_E} {d : Nat} (hG : rx_OK G) {x : Int64} {mu : rx_M} (h : ¬ vm_acct x) : rx_C G MX11_isAccount d [.long x] mu 0 0 (fun v m => v = some (.int (nI 0)) ∧ m = mu) := by
  haveI := Classical.propDecidable
  refine rx_Cm (cm_isAccount hG) (fun v m hq => ?_)
  rw [if_neg h] at hq
  exact hq
theorem lN_acct {x : Int64} (h : vm_acct x) : ∃ a, a < 32 ∧ x = lN a := by
  obtain ⟨k, hk, rfl⟩ := pk_lOf (Int64.not_lt.mpr h.1)
  have h2 : lN k < lN 32 := h.2
  rw [pk_lLT hk (by decide)] at h2
  exact ⟨k, h2, rfl⟩
theorem lm_begin {G : rx_E} {d mc ms : Nat} {C : rx_M} {S : gs_T} {Q : Option Value → rx_M → Prop} {Z : String → rx_M → Prop} (hG : rx_OK G) {p cl a : Nat} {vl ar gs : Int64} {lk : Int32} (hp : S.1 52 49 = nI p) (hp1 : p < 11) (K : rx_W G MX11_begin d 100 [(12, .int (nI 608)), (0, .ref 52), (1, .int (nI cl)), (2, .long (lN a)), (4, .long vl), (6, .long ar), (8, .long gs), (10, .int lk), (11, .int (nI a))] [] (gl C (S.1, rx_cp S.2 83 (608 * p) 82 0 608)) mc ms Q Z) : ∀ (k i : Nat), i + k = 608 → rx_W G MX11_begin d 63 [(12, .int (nI i)), (0, .ref 52), (1, .int (nI cl)), (2, .long (lN a)), (4, .long vl), (6, .long ar), (8, .long gs), (10, .int lk), (11, .int (nI a))] [] (gl C (S.1, rx_cp S.2 83 (608 * p) 82 0 i)) mc ms Q Z := by
  intro k
  induction k with
  | zero =>
    intro i hi
    have hi : i = 608 := by omega
    subst hi
    refine rx_iload dX11_begin_63 rfl ?_
    refine rx_sipush (v := nI 608) dX11_begin_65 rfl ?_
    exact rx_icmp_ge (tgt := 100) dX11_begin_68 (by decide) (fun _ => K) (fun h => absurd (by rw [nI_leI (by omega) (by omega)]; omega) h)
  | succ k ih =>
    intro i hi
    refine rx_iload dX11_begin_63 rfl ?_
    refine rx_sipush (v := nI 608) dX11_begin_65 rfl ?_
    refine rx_icmp_ge (tgt := 100) dX11_begin_68 (by decide) (fun h => absurd h (by rw [nI_leI (by omega) (by omega)]; omega)) (fun h68 => ?_)
    refine rx_aload_n dX11_begin_71 rfl rfl ?_
    refine g_getR hG hf_RX11_102 rfl dX11_begin_72 rfl rfl rfl ?_
    refine rx_sipush (v := nI 608) dX11_begin_75 rfl ?_
    refine rx_aload_n dX11_begin_78 rfl rfl ?_
    refine gmv_getI (v := nI p) hG hf_RX11_203 rfl dX11_begin_79 rfl rfl rfl hp ?_
    refine rx_imul dX11_begin_82 ?_
    refine rx_ti (y := nI (608 * p)) ((pk_mul _ _).trans (congrArg nI (by omega))) ?_
    refine rx_iload dX11_begin_83 rfl ?_
    refine rx_iadd dX11_begin_85 ?_
    refine rx_ti (y := nI (i + 608 * p)) ((nI_add _ _).trans (congrArg nI (by omega))) ?_
    refine rx_aload_n dX11_begin_86 rfl rfl ?_
    refine g_getR hG hf_RX11_99 rfl dX11_begin_87 rfl rfl rfl ?_
    refine rx_iload dX11_begin_90 rfl ?_
    refine gmv_lald (j := i) (v := S.2 82 i) hG dX11_begin_92 rfl rfl rfl rfl (by omega) (by decide) (by show rx_cp S.2 83 (608 * p) 82 0 i 82 i = _; exact rx_cp_get (by decide)) ?_
    refine gm_last (j := i + 608 * p) hG dX11_begin_93 rfl rfl rfl rfl (by omega) (by decide) ?_
    refine rx_iinc (v := nI (i + 1)) dX11_begin_94 rfl ((nI_add _ 1).trans (congrArg nI (by omega))) ?_
    refine rx_goto (tgt := 63) dX11_begin_97 (by decide) ?_
    refine rx_lv (lv' := [(12, .int (nI (i + 1))), (0, .ref 52), (1, .int (nI cl)), (2, .long (lN a)), (4, .long vl), (6, .long ar), (8, .long gs), (10, .int lk), (11, .int (nI a))]) ⟨rfl, rfl, rfl, rfl, rfl, rfl, rfl, rfl, rfl, trivial⟩ ?_
    refine rx_tm (mu' := gl C (S.1, rx_cp S.2 83 (608 * p) 82 0 (i + 1))) (congrArg (fun q => gl C (S.1, q)) (rx_cp_succ (by omega) (by omega))) ?_
    exact ih (i + 1) (by omega)
set_option maxHeartbeats 1000000 in
theorem cm_begin {G : rx_E} {d : Nat} {C : rx_M} {S : gs_T} (hG : rx_OK G) {p cl : Nat} {tt vl ar gs : Int64} {lk : Int32} (hp : S.1 52 49 = nI p) (hp1 : p < 11) (hcl : cl < 32) (hlk1 : narrow .boolean (.int lk) = .int lk) : rx_C G MX11_begin (d + 1) [.ref 52, .int (nI cl), .long tt, .long vl, .long ar, .long gs, .int lk] (gl C S) 0 0 (fun v mu => ((¬ vm_acct tt ∨ vl < 0 ∨ S.2 82 (19 * cl) < vl ∨ (∃ j, j < p ∧ (S.1 94 j ≠ 0 ∧ (S.1 89 j).toInt64 = tt)) ∨ p = 10) ∧ v = some (.int (nI 0)) ∧ mu = gl C ((rx_u S.1 52 58 (nI 2)), (rx_u (rx_u S.2 52 59 0) 52 60 gs))) ∨
    (∃ a, a < 32 ∧ tt = lN a ∧ (¬ (vl < 0) ∧ ¬ (S.2 82 (19 * cl) < vl) ∧ ¬ (∃ j, j < p ∧ (S.1 94 j ≠ 0 ∧ (S.1 89 j).toInt64 = lN a)) ∧ p ≠ 10) ∧ (up1 (up1 (fun k => S.2 82 k) (19 * cl) (S.2 82 (19 * cl) - vl)) (19 * a) ((up1 (fun k => S.2 82 k) (19 * cl) (S.2 82 (19 * cl) - vl)) (19 * a) + vl)) (19 * a + 2) = 0 ∧ v = some (.int (nI 0)) ∧ mu = gl C ((rx_u (rx_u (rx_u S.1 84 p (S.1 52 52)) 85 p (S.1 52 56)) 52 58 (nI 1)), (rx_u (rx_u (rx_u (rx_u (rx_cp S.2 83 (608 * p) 82 0 608) 82 (19 * cl) ((S.2 82 (19 * cl)) - vl)) 82 (19 * a) (((up1 (fun k => S.2 82 k) (19 * cl) (S.2 82 (19 * cl) - vl)) (19 * a)) + vl)) 52 59 0) 52 60 gs))) ∨
    (∃ a, a < 32 ∧ tt = lN a ∧ (¬ (vl < 0) ∧ ¬ (S.2 82 (19 * cl) < vl) ∧ ¬ (∃ j, j < p ∧ (S.1 94 j ≠ 0 ∧ (S.1 89 j).toInt64 = lN a)) ∧ p ≠ 10) ∧ ¬ (up1 (up1 (fun k => S.2 82 k) (19 * cl) (S.2 82 (19 * cl) - vl)) (19 * a) ((up1 (fun k => S.2 82 k) (19 * cl) (S.2 82 (19 * cl) - vl)) (19 * a) + vl)) (19 * a + 2) = 0 ∧ v = some (.int (nI 1)) ∧ mu = gl C ((rx_u (rx_u (rx_u (rx_u (rx_u (rx_u (rx_u (rx_u (rx_u (rx_u (rx_u S.1 84 p (S.1 52 52)) 85 p (S.1 52 56)) 86 p ((((up1 (up1 (fun k => S.2 82 k) (19 * cl) (S.2 82 (19 * cl) - vl)) (19 * a) ((up1 (fun k => S.2 82 k) (19 * cl) (S.2 82 (19 * cl) - vl)) (19 * a) + vl)) (19 * a + 2)).toInt32) - (nI 1))) 87 p (nI 0)) 89 p (nI a)) 90 p (nI cl)) 93 p lk) 94 p (nI 0)) 96 p (nI 0)) 52 49 (nI (p + 1))) 52 57 ((S.1 52 57) + (nI 1))), (rx_u (rx_u (rx_u (rx_u (rx_u (rx_cp S.2 83 (608 * p) 82 0 608) 82 (19 * cl) ((S.2 82 (19 * cl)) - vl)) 82 (19 * a) (((up1 (fun k => S.2 82 k) (19 * cl) (S.2 82 (19 * cl) - vl)) (19 * a)) + vl)) 88 p gs) 91 p vl) 92 p ar)))) := by
  refine rx_meth0 (by decide +kernel) rfl (Nat.le_of_ble_eq_true rfl) ?_
  by_cases hac : vm_acct tt
  rotate_left
  · refine rx_lload_n dX11_begin_0 rfl ?_
    refine rx_invS0 (as := [.long _]) hG okX11_isAccount lk_RX11_181 dX11_begin_1 rfl (by simp [Value.category]) (cm_isAccountF hG hac) ?_
    rintro _ _ ⟨rfl, rfl⟩
    refine rx_if_eq (tgt := 46) dX11_begin_4 (by decide) (fun _ => ?_) (fun h => absurd (by decide) h)
    refine rx_aload_n dX11_begin_46 rfl rfl ?_
    refine rx_iconst (v := nI 2) dX11_begin_47 rfl ?_
    refine rx_lconst (v := 0) dX11_begin_48 rfl ?_
    refine rx_lload dX11_begin_49 rfl ?_
    refine gv_invV (as := [.int _, .long _, .long _]) hG okX11_end lk_RX11_209 rfl rfl dX11_begin_51 rfl (by simp [Value.category]) (cm_end hG _ _ _) ?_
    rintro _ _ ⟨rfl, rfl⟩
    refine rx_iconst (v := nI 0) dX11_begin_54 rfl ?_
    exact rx_zret rfl rfl dX11_begin_55 (Or.inl ⟨Or.inl hac, rfl, rfl⟩)
  obtain ⟨a, ha, rfl⟩ := lN_acct hac
  refine rx_lload_n dX11_begin_0 rfl ?_
  refine rx_invS0 (as := [.long _]) hG okX11_isAccount lk_RX11_181 dX11_begin_1 rfl (by simp [Value.category]) (cm_isAccountT hG hac) ?_
  rintro _ _ ⟨rfl, rfl⟩
  refine rx_if_eq (tgt := 46) dX11_begin_4 (by decide) (fun h => absurd h (by decide)) (fun _ => ?_)
  refine rx_lload dX11_begin_7 rfl ?_
  refine rx_lconst (v := 0) dX11_begin_9 rfl ?_
  refine rx_lc_lt (tgt := 46) dX11_begin_10 dX11_begin_11 (by decide) (fun h10 => ?_) (fun h10 => ?_)
  · refine rx_aload_n dX11_begin_46 rfl rfl ?_
    refine rx_iconst (v := nI 2) dX11_begin_47 rfl ?_
    refine rx_lconst (v := 0) dX11_begin_48 rfl ?_
    refine rx_lload dX11_begin_49 rfl ?_
    refine gv_invV (as := [.int _, .long _, .long _]) hG okX11_end lk_RX11_209 rfl rfl dX11_begin_51 rfl (by simp [Value.category]) (cm_end hG _ _ _) ?_
    rintro _ _ ⟨rfl, rfl⟩
    refine rx_iconst (v := nI 0) dX11_begin_54 rfl ?_
    exact rx_zret rfl rfl dX11_begin_55 (Or.inl ⟨Or.inr (Or.inl h10), rfl, rfl⟩)
  refine rx_lload dX11_begin_14 rfl ?_
  refine rx_aload_n dX11_begin_16 rfl rfl ?_
  refine g_getR hG hf_RX11_99 rfl dX11_begin_17 rfl rfl rfl ?_
  refine rx_bipush (v := nI 19) dX11_begin_20 rfl ?_
  refine rx_iload_n dX11_begin_22 rfl ?_
  refine rx_imul dX11_begin_23 ?_
  refine rx_ti (y := nI (19 * cl)) ((pk_mul _ _).trans (congrArg nI (by omega))) ?_
  refine gmv_lald (j := 19 * cl) (v := S.2 82 (19 * cl)) hG dX11_begin_24 rfl rfl rfl rfl (by omega) (by decide) rfl ?_
  refine rx_lc_gt (tgt := 46) dX11_begin_25 dX11_begin_26 (by decide) (fun h25 => ?_) (fun h25 => ?_)
  · refine rx_aload_n dX11_begin_46 rfl rfl ?_
    refine rx_iconst (v := nI 2) dX11_begin_47 rfl ?_
    refine rx_lconst (v := 0) dX11_begin_48 rfl ?_
    refine rx_lload dX11_begin_49 rfl ?_
    refine gv_invV (as := [.int _, .long _, .long _]) hG okX11_end lk_RX11_209 rfl rfl dX11_begin_51 rfl (by simp [Value.category]) (cm_end hG _ _ _) ?_
    rintro _ _ ⟨rfl, rfl⟩
    refine rx_iconst (v := nI 0) dX11_begin_54 rfl ?_
    exact rx_zret rfl rfl dX11_begin_55 (Or.inl ⟨Or.inr (Or.inr (Or.inl h25)), rfl, rfl⟩)
  refine rx_aload_n dX11_begin_29 rfl rfl ?_
  refine rx_lload_n dX11_begin_30 rfl ?_
  refine gv_invV (as := [.long _]) hG okX11_isLocked lk_RX11_206 rfl rfl dX11_begin_31 rfl (by simp [Value.category]) (cm_isLocked hG hp (by omega)) ?_
  rintro _ _ ⟨⟨r, hr, rfl⟩, rfl⟩
  rcases hr with ⟨rfl, hlk⟩ | ⟨rfl, hlk⟩
  · refine rx_if_ne (tgt := 46) dX11_begin_34 (by decide) (fun _ => ?_) (fun h => absurd h (by decide))
    refine rx_aload_n dX11_begin_46 rfl rfl ?_
    refine rx_iconst (v := nI 2) dX11_begin_47 rfl ?_
    refine rx_lconst (v := 0) dX11_begin_48 rfl ?_
    refine rx_lload dX11_begin_49 rfl ?_
    refine gv_invV (as := [.int _, .long _, .long _]) hG okX11_end lk_RX11_209 rfl rfl dX11_begin_51 rfl (by simp [Value.category]) (cm_end hG _ _ _) ?_
    rintro _ _ ⟨rfl, rfl⟩
    refine rx_iconst (v := nI 0) dX11_begin_54 rfl ?_
    exact rx_zret rfl rfl dX11_begin_55 (Or.inl ⟨Or.inr (Or.inr (Or.inr (Or.inl hlk))), rfl, rfl⟩)
  refine rx_if_ne (tgt := 46) dX11_begin_34 (by decide) (fun h => absurd (by decide) h) (fun _ => ?_)
  refine rx_aload_n dX11_begin_37 rfl rfl ?_
  refine gmv_getI (v := nI p) hG hf_RX11_203 rfl dX11_begin_38 rfl rfl rfl hp ?_
  refine rx_bipush (v := nI 10) dX11_begin_41 rfl ?_
  refine rx_icmp_ne (tgt := 56) dX11_begin_43 (by decide) (fun h43 => ?_) (fun h43 => ?_)
  rotate_left
  · rw [nI_eq (by omega) (by omega)] at h43
    refine rx_aload_n dX11_begin_46 rfl rfl ?_
    refine rx_iconst (v := nI 2) dX11_begin_47 rfl ?_
    refine rx_lconst (v := 0) dX11_begin_48 rfl ?_
    refine rx_lload dX11_begin_49 rfl ?_
    refine gv_invV (as := [.int _, .long _, .long _]) hG okX11_end lk_RX11_209 rfl rfl dX11_begin_51 rfl (by simp [Value.category]) (cm_end hG _ _ _) ?_
    rintro _ _ ⟨rfl, rfl⟩
    refine rx_iconst (v := nI 0) dX11_begin_54 rfl ?_
    exact rx_zret rfl rfl dX11_begin_55 (Or.inl ⟨Or.inr (Or.inr (Or.inr (Or.inr h43))), rfl, rfl⟩)
  rw [nI_eq (by omega) (by omega)] at h43
  refine rx_lload_n dX11_begin_56 rfl ?_
  refine rx_l2i dX11_begin_57 ?_
  refine rx_ti (y := nI a) (lN_i a) ?_
  refine rx_istore dX11_begin_58 (by decide) ?_
  refine rx_iconst (v := nI 0) dX11_begin_60 rfl ?_
  refine rx_istore dX11_begin_61 (by decide) ?_
  refine rx_lv (lv' := [(12, .int (nI 0)), (0, .ref 52), (1, .int (nI cl)), (2, .long (lN a)), (4, .long vl), (6, .long ar), (8, .long gs), (10, .int lk), (11, .int (nI a))]) ⟨rfl, rfl, rfl, rfl, rfl, rfl, rfl, rfl, rfl, trivial⟩ ?_
  refine rx_tm (mu' := gl C (S.1, rx_cp S.2 83 (608 * p) 82 0 0)) (by rw [rx_cp_0]) ?_
  refine lm_begin hG hp (by omega) ?_ 608 0 (by omega)
  refine rx_aload_n dX11_begin_100 rfl rfl ?_
  refine g_getR hG hf_RX11_105 rfl dX11_begin_101 rfl rfl rfl ?_
  refine rx_aload_n dX11_begin_104 rfl rfl ?_
  refine gmv_getI (v := nI p) hG hf_RX11_203 rfl dX11_begin_105 rfl rfl rfl hp ?_
  refine rx_aload_n dX11_begin_108 rfl rfl ?_
  refine gmv_getI (v := S.1 52 52) hG hf_RX11_212 rfl dX11_begin_109 rfl rfl rfl rfl ?_
  refine gm_iast (j := p) hG dX11_begin_112 rfl rfl rfl rfl (by omega) (by decide) ?_
  refine rx_aload_n dX11_begin_113 rfl rfl ?_
  refine g_getR hG hf_RX11_108 rfl dX11_begin_114 rfl rfl rfl ?_
  refine rx_aload_n dX11_begin_117 rfl rfl ?_
  refine gmv_getI (v := nI p) hG hf_RX11_203 rfl dX11_begin_118 rfl rfl rfl (by simp [rx_ru, hp]) ?_
  refine rx_aload_n dX11_begin_121 rfl rfl ?_
  refine gmv_getI (v := S.1 52 56) hG hf_RX11_215 rfl dX11_begin_122 rfl rfl rfl (by simp [rx_ru]) ?_
  refine gm_iast (j := p) hG dX11_begin_125 rfl rfl rfl rfl (by omega) (by decide) ?_
  refine rx_aload_n dX11_begin_126 rfl rfl ?_
  refine g_getR hG hf_RX11_99 rfl dX11_begin_127 rfl rfl rfl ?_
  refine rx_bipush (v := nI 19) dX11_begin_130 rfl ?_
  refine rx_iload_n dX11_begin_132 rfl ?_
  refine rx_imul dX11_begin_133 ?_
  refine rx_ti (y := nI (19 * cl)) ((pk_mul _ _).trans (congrArg nI (by omega))) ?_
  refine rx_dup2 dX11_begin_134 rfl rfl ?_
  refine gmv_lald (j := 19 * cl) (v := S.2 82 (19 * cl)) hG dX11_begin_135 rfl rfl rfl rfl (by omega) (by decide) (by simp [rx_ru, rx_cp, up1]) ?_
  refine rx_lload dX11_begin_136 rfl ?_
  refine rx_lsub dX11_begin_138 ?_
  refine gm_last (j := 19 * cl) hG dX11_begin_139 rfl rfl rfl rfl (by omega) (by decide) ?_
  refine rx_aload_n dX11_begin_140 rfl rfl ?_
  refine g_getR hG hf_RX11_99 rfl dX11_begin_141 rfl rfl rfl ?_
  refine rx_bipush (v := nI 19) dX11_begin_144 rfl ?_
  refine rx_iload dX11_begin_146 rfl ?_
  refine rx_imul dX11_begin_148 ?_
  refine rx_ti (y := nI (19 * a)) ((pk_mul _ _).trans (congrArg nI (by omega))) ?_
  refine rx_dup2 dX11_begin_149 rfl rfl ?_
  refine gmv_lald (j := 19 * a) (v := (up1 (fun k => S.2 82 k) (19 * cl) (S.2 82 (19 * cl) - vl)) (19 * a)) hG dX11_begin_150 rfl rfl rfl rfl (by omega) (by decide) (by simp [rx_ru, rx_cp, up1]) ?_
  refine rx_lload dX11_begin_151 rfl ?_
  refine rx_ladd dX11_begin_153 ?_
  refine gm_last (j := 19 * a) hG dX11_begin_154 rfl rfl rfl rfl (by omega) (by decide) ?_
  refine rx_aload_n dX11_begin_155 rfl rfl ?_
  refine g_getR hG hf_RX11_99 rfl dX11_begin_156 rfl rfl rfl ?_
  refine rx_bipush (v := nI 19) dX11_begin_159 rfl ?_
  refine rx_iload dX11_begin_161 rfl ?_
  refine rx_imul dX11_begin_163 ?_
  refine rx_ti (y := nI (19 * a)) ((pk_mul _ _).trans (congrArg nI (by omega))) ?_
  refine rx_iconst (v := nI 2) dX11_begin_164 rfl ?_
  refine rx_iadd dX11_begin_165 ?_
  refine rx_ti (y := nI (19 * a + 2)) ((nI_add _ _).trans (congrArg nI (by omega))) ?_
  refine gmv_lald (j := 19 * a + 2) (v := (up1 (up1 (fun k => S.2 82 k) (19 * cl) (S.2 82 (19 * cl) - vl)) (19 * a) ((up1 (fun k => S.2 82 k) (19 * cl) (S.2 82 (19 * cl) - vl)) (19 * a) + vl)) (19 * a + 2)) hG dX11_begin_166 rfl rfl rfl rfl (by omega) (by decide) (by simp only [rx_ru, rx_cp, up1]; simp) ?_
  refine rx_lconst (v := 0) dX11_begin_167 rfl ?_
  refine rx_lc_ne (tgt := 182) dX11_begin_168 dX11_begin_169 (by decide) (fun h168 => ?_) (fun h168 => ?_)
  rotate_left
  · have hok : ¬ (vl < 0) ∧ ¬ (S.2 82 (19 * cl) < vl) ∧ ¬ (∃ j, j < p ∧ (S.1 94 j ≠ 0 ∧ (S.1 89 j).toInt64 = lN a)) ∧ p ≠ 10 := ⟨h10, h25, hlk, h43⟩
    refine rx_aload_n dX11_begin_172 rfl rfl ?_
    refine rx_iconst (v := nI 1) dX11_begin_173 rfl ?_
    refine rx_lconst (v := 0) dX11_begin_174 rfl ?_
    refine rx_lload dX11_begin_175 rfl ?_
    refine gv_invV (as := [.int _, .long _, .long _]) hG okX11_end lk_RX11_209 rfl rfl dX11_begin_177 rfl (by simp [Value.category]) (cm_end hG _ _ _) ?_
    rintro _ _ ⟨rfl, rfl⟩
    refine rx_iconst (v := nI 0) dX11_begin_180 rfl ?_
    exact rx_zret rfl rfl dX11_begin_181 (Or.inr (Or.inl ⟨a, ha, rfl, hok, h168, rfl, rfl⟩))
  have hok : ¬ (vl < 0) ∧ ¬ (S.2 82 (19 * cl) < vl) ∧ ¬ (∃ j, j < p ∧ (S.1 94 j ≠ 0 ∧ (S.1 89 j).toInt64 = lN a)) ∧ p ≠ 10 := ⟨h10, h25, hlk, h43⟩
  refine rx_aload_n dX11_begin_182 rfl rfl ?_
  refine gmv_getI (v := nI p) hG hf_RX11_203 rfl dX11_begin_183 rfl rfl rfl (by simp [rx_ru, hp]) ?_
  refine rx_istore dX11_begin_186 (by decide) ?_
  refine rx_aload_n dX11_begin_188 rfl rfl ?_
  refine g_getR hG hf_RX11_111 rfl dX11_begin_189 rfl rfl rfl ?_
  refine rx_iload dX11_begin_192 rfl ?_
  refine rx_aload_n dX11_begin_194 rfl rfl ?_
  refine g_getR hG hf_RX11_99 rfl dX11_begin_195 rfl rfl rfl ?_
  refine rx_bipush (v := nI 19) dX11_begin_198 rfl ?_
  refine rx_iload dX11_begin_200 rfl ?_
  refine rx_imul dX11_begin_202 ?_
  refine rx_ti (y := nI (19 * a)) ((pk_mul _ _).trans (congrArg nI (by omega))) ?_
  refine rx_iconst (v := nI 2) dX11_begin_203 rfl ?_
  refine rx_iadd dX11_begin_204 ?_
  refine rx_ti (y := nI (19 * a + 2)) ((nI_add _ _).trans (congrArg nI (by omega))) ?_
  refine gmv_lald (j := 19 * a + 2) (v := (up1 (up1 (fun k => S.2 82 k) (19 * cl) (S.2 82 (19 * cl) - vl)) (19 * a) ((up1 (fun k => S.2 82 k) (19 * cl) (S.2 82 (19 * cl) - vl)) (19 * a) + vl)) (19 * a + 2)) hG dX11_begin_205 rfl rfl rfl rfl (by omega) (by decide) (by simp only [rx_ru, rx_cp, up1]; simp) ?_
  refine rx_l2i dX11_begin_206 ?_
  refine rx_iconst (v := nI 1) dX11_begin_207 rfl ?_
  refine rx_isub dX11_begin_208 ?_
  refine gm_iast (j := p) hG dX11_begin_209 rfl rfl rfl rfl (by omega) (by decide) ?_
  refine rx_aload_n dX11_begin_210 rfl rfl ?_
  refine g_getR hG hf_RX11_114 rfl dX11_begin_211 rfl rfl rfl ?_
  refine rx_iload dX11_begin_214 rfl ?_
  refine rx_iconst (v := nI 0) dX11_begin_216 rfl ?_
  refine gm_iast (j := p) hG dX11_begin_217 rfl rfl rfl rfl (by omega) (by decide) ?_
  refine rx_aload_n dX11_begin_218 rfl rfl ?_
  refine g_getR hG hf_RX11_117 rfl dX11_begin_219 rfl rfl rfl ?_
  refine rx_iload dX11_begin_222 rfl ?_
  refine rx_lload dX11_begin_224 rfl ?_
  refine gm_last (j := p) hG dX11_begin_226 rfl rfl rfl rfl (by omega) (by decide) ?_
  refine rx_aload_n dX11_begin_227 rfl rfl ?_
  refine g_getR hG hf_RX11_120 rfl dX11_begin_228 rfl rfl rfl ?_
  refine rx_iload dX11_begin_231 rfl ?_
  refine rx_iload dX11_begin_233 rfl ?_
  refine gm_iast (j := p) hG dX11_begin_235 rfl rfl rfl rfl (by omega) (by decide) ?_
  refine rx_aload_n dX11_begin_236 rfl rfl ?_
  refine g_getR hG hf_RX11_123 rfl dX11_begin_237 rfl rfl rfl ?_
  refine rx_iload dX11_begin_240 rfl ?_
  refine rx_iload_n dX11_begin_242 rfl ?_
  refine gm_iast (j := p) hG dX11_begin_243 rfl rfl rfl rfl (by omega) (by decide) ?_
  refine rx_aload_n dX11_begin_244 rfl rfl ?_
  refine g_getR hG hf_RX11_126 rfl dX11_begin_245 rfl rfl rfl ?_
  refine rx_iload dX11_begin_248 rfl ?_
  refine rx_lload dX11_begin_250 rfl ?_
  refine gm_last (j := p) hG dX11_begin_252 rfl rfl rfl rfl (by omega) (by decide) ?_
  refine rx_aload_n dX11_begin_253 rfl rfl ?_
  refine g_getR hG hf_RX11_129 rfl dX11_begin_254 rfl rfl rfl ?_
  refine rx_iload dX11_begin_257 rfl ?_
  refine rx_lload dX11_begin_259 rfl ?_
  refine gm_last (j := p) hG dX11_begin_261 rfl rfl rfl rfl (by omega) (by decide) ?_
  refine rx_aload_n dX11_begin_262 rfl rfl ?_
  refine g_getR hG hf_RX11_132 rfl dX11_begin_263 rfl rfl rfl ?_
  refine rx_iload dX11_begin_266 rfl ?_
  refine rx_iload dX11_begin_268 rfl ?_
  refine gm_zast (j := p) hG dX11_begin_270 rfl rfl rfl rfl (by omega) (by decide) hlk1 ?_
  refine rx_aload_n dX11_begin_271 rfl rfl ?_
  refine g_getR hG hf_RX11_135 rfl dX11_begin_272 rfl rfl rfl ?_
  refine rx_iload dX11_begin_275 rfl ?_
  refine rx_iconst (v := nI 0) dX11_begin_277 rfl ?_
  refine gm_zast (j := p) hG dX11_begin_278 rfl rfl rfl rfl (by omega) (by decide) rfl ?_
  refine rx_aload_n dX11_begin_279 rfl rfl ?_
  refine g_getR hG hf_RX11_141 rfl dX11_begin_280 rfl rfl rfl ?_
  refine rx_iload dX11_begin_283 rfl ?_
  refine rx_iconst (v := nI 0) dX11_begin_285 rfl ?_
  refine gm_iast (j := p) hG dX11_begin_286 rfl rfl rfl rfl (by omega) (by decide) ?_
  refine rx_aload_n dX11_begin_287 rfl rfl ?_
  refine rx_dup dX11_begin_288 rfl ?_
  refine gmv_getI (v := nI p) hG hf_RX11_203 rfl dX11_begin_289 rfl rfl rfl (by simp [rx_ru, hp]) ?_
  refine rx_iconst (v := nI 1) dX11_begin_292 rfl ?_
  refine rx_iadd dX11_begin_293 ?_
  refine rx_ti (y := nI (p + 1)) ((nI_add _ _).trans (congrArg nI (by omega))) ?_
  refine gm_putI hG hf_RX11_203 (gw_nf rfl rfl) rfl dX11_begin_294 rfl rfl rfl rfl rfl ?_
  refine rx_aload_n dX11_begin_297 rfl rfl ?_
  refine rx_dup dX11_begin_298 rfl ?_
  refine gmv_getI (v := S.1 52 57) hG hf_RX11_218 rfl dX11_begin_299 rfl rfl rfl (by simp [rx_ru]) ?_
  refine rx_iconst (v := nI 1) dX11_begin_302 rfl ?_
  refine rx_iadd dX11_begin_303 ?_
  refine gm_putI hG hf_RX11_218 (gw_nf rfl rfl) rfl dX11_begin_304 rfl rfl rfl rfl rfl ?_
  refine rx_iconst (v := nI 1) dX11_begin_307 rfl ?_
  exact rx_zret rfl rfl dX11_begin_308 (Or.inr (Or.inr ⟨a, ha, rfl, hok, h168, rfl, rfl⟩))

theorem cr_greater31 {G : rx_E} {d : Nat} {C : rx_M} {S0 S : gs_T} {g : vg_T} {n : Nat → Int64} {e : List (Nat × Int64 × Int64)} {b m c a q s k : Nat} {v r : Int64} {l o : Bool} {t : List Int64} {w : (Nat → Int64) × Nat × Nat} {fs : List vf_T} (hG : rx_OK G) {to vl ar ask : Int64} (hp : fs.length < 10) (hs1 : s < 32) (hs : ∀ f ∈ fs, fS f < 32) (hcd : vw_codes g n) (hg : g.2.1 ≤ 16) (ho : g.2.2.1 < 32) (hq : q ≤ 30000) (hw : w.2.1 ≤ e.length) (he : e.length ≤ 2001) (hlow : vw_low fs) (hY : rm_Y S0 S g (n, e, b, ((c, a, q, s, k), (v, r), (l, o), (to :: (vl :: (ar :: (ask :: t)))), w) :: fs, m) 0) : rx_C G MX11_greater (d + 3) [.ref 52, .int (nI 31)] (gl C S) 0 0 (rq_on C S0 g (vm_do5 g (n, e, b, ((c, a, q, s, k), (v, r), (l, o), (to :: (vl :: (ar :: (ask :: t)))), w) :: fs, m) 31 ((c, a, q, s, k), (v, r), (l, o), (to :: (vl :: (ar :: (ask :: t)))), w) fs)) := by
  refine rx_meth0 (by decide +kernel) rfl (Nat.le_of_ble_eq_true rfl) ?_
  refine rx_aload_n dX11_greater_0 rfl rfl ?_
  refine gmv_getI (v := nI (fs.length + 1)) hG hf_RX11_203 rfl dX11_greater_1 rfl rfl rfl (rY_dep hY) ?_
  refine rx_iconst (v := nI 1) dX11_greater_4 rfl ?_
  refine rx_isub dX11_greater_5 ?_
  refine rx_ti (y := nI fs.length) ((pk_sub (by omega)).trans (congrArg nI (by omega))) ?_
  refine rx_istore_n dX11_greater_6 (by decide) ?_
  refine rx_aload_n dX11_greater_7 rfl rfl ?_
  refine g_getR hG hf_RX11_120 rfl dX11_greater_8 rfl rfl rfl ?_
  refine rx_iload_n dX11_greater_11 rfl ?_
  refine gmv_iald (j := fs.length) (v := nI s) hG dX11_greater_12 rfl rfl rfl rfl (by omega) (by decide) (rY_self hY) ?_
  refine rx_istore_n dX11_greater_13 (by decide) ?_
  refine rx_iload_n dX11_greater_14 rfl ?_
  refine rx_tabIn (tgt := 60) dX11_greater_15 (by decide) (by decide) rfl (by decide) ?_
  refine rx_aload_n dX11_greater_60 rfl rfl ?_
  refine rx_iload_n dX11_greater_61 rfl ?_
  refine rx_bipush (v := nI 32) dX11_greater_62 rfl ?_
  refine rx_icmp_ne (tgt := 71) dX11_greater_64 (by decide) (fun h64 => ?_) (fun h64 => (absurd h64 (by decide))) 
  refine rx_iconst (v := nI 0) dX11_greater_71 rfl ?_
  refine gv_invV (as := [.int _]) hG okX11_calls lk_RX11_278 rfl rfl dX11_greater_72 rfl (by simp [Value.category]) (cr_calls0 hG hp hs1 hs hcd hg hq hw hlow hY) ?_
  rintro _ _ ⟨rfl, _, rfl, hF⟩
  refine rx_goto (tgt := 184) dX11_greater_75 (by decide) ?_
  exact rx_vret rfl dX11_greater_184 ⟨rfl, _, rfl, rm_onE (rfl) hF⟩
theorem cr_greater32 {G : rx_E} {d : Nat} {C : rx_M} {S0 S : gs_T} {g : vg_T} {n : Nat → Int64} {e : List (Nat × Int64 × Int64)} {b m c a q s k : Nat} {v r : Int64} {l o : Bool} {t : List Int64} {w : (Nat → Int64) × Nat × Nat} {fs : List vf_T} (hG : rx_OK G) {to ar ask : Int64} (hp : fs.length < 10) (hs1 : s < 32) (hs : ∀ f ∈ fs, fS f < 32) (hcd : vw_codes g n) (hg : g.2.1 ≤ 16) (ho : g.2.2.1 < 32) (hq : q ≤ 30000) (hw : w.2.1 ≤ e.length) (he : e.length ≤ 2001) (hlow : vw_low fs) (hY : rm_Y S0 S g (n, e, b, ((c, a, q, s, k), (v, r), (l, o), (to :: (ar :: (ask :: t))), w) :: fs, m) 0) : rx_C G MX11_greater (d + 3) [.ref 52, .int (nI 32)] (gl C S) 0 0 (rq_on C S0 g (vm_do5 g (n, e, b, ((c, a, q, s, k), (v, r), (l, o), (to :: (ar :: (ask :: t))), w) :: fs, m) 32 ((c, a, q, s, k), (v, r), (l, o), (to :: (ar :: (ask :: t))), w) fs)) := by
  refine rx_meth0 (by decide +kernel) rfl (Nat.le_of_ble_eq_true rfl) ?_
  refine rx_aload_n dX11_greater_0 rfl rfl ?_
  refine gmv_getI (v := nI (fs.length + 1)) hG hf_RX11_203 rfl dX11_greater_1 rfl rfl rfl (rY_dep hY) ?_
  refine rx_iconst (v := nI 1) dX11_greater_4 rfl ?_
  refine rx_isub dX11_greater_5 ?_
  refine rx_ti (y := nI fs.length) ((pk_sub (by omega)).trans (congrArg nI (by omega))) ?_
  refine rx_istore_n dX11_greater_6 (by decide) ?_
  refine rx_aload_n dX11_greater_7 rfl rfl ?_
  refine g_getR hG hf_RX11_120 rfl dX11_greater_8 rfl rfl rfl ?_
  refine rx_iload_n dX11_greater_11 rfl ?_
  refine gmv_iald (j := fs.length) (v := nI s) hG dX11_greater_12 rfl rfl rfl rfl (by omega) (by decide) (rY_self hY) ?_
  refine rx_istore_n dX11_greater_13 (by decide) ?_
  refine rx_iload_n dX11_greater_14 rfl ?_
  refine rx_tabIn (tgt := 60) dX11_greater_15 (by decide) (by decide) rfl (by decide) ?_
  refine rx_aload_n dX11_greater_60 rfl rfl ?_
  refine rx_iload_n dX11_greater_61 rfl ?_
  refine rx_bipush (v := nI 32) dX11_greater_62 rfl ?_
  refine rx_icmp_ne (tgt := 71) dX11_greater_64 (by decide) (fun h64 => (absurd h64 (by decide))) (fun h64 => ?_)
  refine rx_iconst (v := nI 1) dX11_greater_67 rfl ?_
  refine rx_goto (tgt := 72) dX11_greater_68 (by decide) ?_
  refine gv_invV (as := [.int _]) hG okX11_calls lk_RX11_278 rfl rfl dX11_greater_72 rfl (by simp [Value.category]) (cr_calls1 hG hp hs1 hs hcd hg hq hw hlow hY) ?_
  rintro _ _ ⟨rfl, _, rfl, hF⟩
  refine rx_goto (tgt := 184) dX11_greater_75 (by decide) ?_
  exact rx_vret rfl dX11_greater_184 ⟨rfl, _, rfl, rm_onE (rfl) hF⟩
theorem cr_greater33 {G : rx_E} {d : Nat} {C : rx_M} {S0 S : gs_T} {g : vg_T} {n : Nat → Int64} {e : List (Nat × Int64 × Int64)} {b m c a q s k : Nat} {v r : Int64} {l o : Bool} {t : List Int64} {w : (Nat → Int64) × Nat × Nat} {fs : List vf_T} (hG : rx_OK G) {x y : Int64} (hp : fs.length < 10) (hs1 : s < 32) (hs : ∀ f ∈ fs, fS f < 32) (hcd : vw_codes g n) (hg : g.2.1 ≤ 16) (ho : g.2.2.1 < 32) (hq : q ≤ 30000) (hw : w.2.1 ≤ e.length) (he : e.length ≤ 2001) (hlow : vw_low fs) (hY : rm_Y S0 S g (n, e, b, ((c, a, q, s, k), (v, r), (l, o), (y :: (x :: t)), w) :: fs, m) 0) : rx_C G MX11_greater (d + 3) [.ref 52, .int (nI 33)] (gl C S) 0 0 (rq_on C S0 g (vm_do5 g (n, e, b, ((c, a, q, s, k), (v, r), (l, o), (y :: (x :: t)), w) :: fs, m) 33 ((c, a, q, s, k), (v, r), (l, o), (y :: (x :: t)), w) fs)) := by
  refine rx_meth0 (by decide +kernel) rfl (Nat.le_of_ble_eq_true rfl) ?_
  refine rx_aload_n dX11_greater_0 rfl rfl ?_
  refine gmv_getI (v := nI (fs.length + 1)) hG hf_RX11_203 rfl dX11_greater_1 rfl rfl rfl (rY_dep hY) ?_
  refine rx_iconst (v := nI 1) dX11_greater_4 rfl ?_
  refine rx_isub dX11_greater_5 ?_
  refine rx_ti (y := nI fs.length) ((pk_sub (by omega)).trans (congrArg nI (by omega))) ?_
  refine rx_istore_n dX11_greater_6 (by decide) ?_
  refine rx_aload_n dX11_greater_7 rfl rfl ?_
  refine g_getR hG hf_RX11_120 rfl dX11_greater_8 rfl rfl rfl ?_
  refine rx_iload_n dX11_greater_11 rfl ?_
  refine gmv_iald (j := fs.length) (v := nI s) hG dX11_greater_12 rfl rfl rfl rfl (by omega) (by decide) (rY_self hY) ?_
  refine rx_istore_n dX11_greater_13 (by decide) ?_
  refine rx_iload_n dX11_greater_14 rfl ?_
  refine rx_tabIn (tgt := 78) dX11_greater_15 (by decide) (by decide) rfl (by decide) ?_
  refine rx_aload_n dX11_greater_78 rfl rfl ?_
  refine rx_iload_n dX11_greater_79 rfl ?_
  refine gv_invV (as := [.int _]) hG okX11_make lk_RX11_282 rfl rfl dX11_greater_80 rfl (by simp [Value.category]) (cr_make hG hp hs1 hs ho hg hY) ?_
  rintro _ _ ⟨rfl, _, rfl, hF⟩
  refine rx_goto (tgt := 184) dX11_greater_83 (by decide) ?_
  exact rx_vret rfl dX11_greater_184 ⟨rfl, _, rfl, rm_onE (rfl) hF⟩
theorem cr_greater34 {G : rx_E} {d : Nat} {C : rx_M} {S0 S : gs_T} {g : vg_T} {n : Nat → Int64} {e : List (Nat × Int64 × Int64)} {b m c a q s k : Nat} {v r : Int64} {l o : Bool} {t : List Int64} {w : (Nat → Int64) × Nat × Nat} {fs : List vf_T} (hG : rx_OK G) {y : Int64} (hp : fs.length < 10) (hs1 : s < 32) (hs : ∀ f ∈ fs, fS f < 32) (hcd : vw_codes g n) (hg : g.2.1 ≤ 16) (ho : g.2.2.1 < 32) (hq : q ≤ 30000) (hw : w.2.1 ≤ e.length) (he : e.length ≤ 2001) (hlow : vw_low fs) (hY : rm_Y S0 S g (n, e, b, ((c, a, q, s, k), (v, r), (l, o), (y :: t), w) :: fs, m) 0) : rx_C G MX11_greater (d + 3) [.ref 52, .int (nI 34)] (gl C S) 0 0 (rq_on C S0 g (vm_do5 g (n, e, b, ((c, a, q, s, k), (v, r), (l, o), (y :: t), w) :: fs, m) 34 ((c, a, q, s, k), (v, r), (l, o), (y :: t), w) fs)) := by
  refine rx_meth0 (by decide +kernel) rfl (Nat.le_of_ble_eq_true rfl) ?_
  have ht : t.length + 1 ≤ 24 := rY_n hY
  refine rx_aload_n dX11_greater_0 rfl rfl ?_
  refine gmv_getI (v := nI (fs.length + 1)) hG hf_RX11_203 rfl dX11_greater_1 rfl rfl rfl (rY_dep hY) ?_
  refine rx_iconst (v := nI 1) dX11_greater_4 rfl ?_
  refine rx_isub dX11_greater_5 ?_
  refine rx_ti (y := nI fs.length) ((pk_sub (by omega)).trans (congrArg nI (by omega))) ?_
  refine rx_istore_n dX11_greater_6 (by decide) ?_
  refine rx_aload_n dX11_greater_7 rfl rfl ?_
  refine g_getR hG hf_RX11_120 rfl dX11_greater_8 rfl rfl rfl ?_
  refine rx_iload_n dX11_greater_11 rfl ?_
  refine gmv_iald (j := fs.length) (v := nI s) hG dX11_greater_12 rfl rfl rfl rfl (by omega) (by decide) (rY_self hY) ?_
  refine rx_istore_n dX11_greater_13 (by decide) ?_
  refine rx_iload_n dX11_greater_14 rfl ?_
  refine rx_tabIn (tgt := 86) dX11_greater_15 (by decide) (by decide) rfl (by decide) ?_
  refine rx_aload_n dX11_greater_86 rfl rfl ?_
  refine gv_invV (as := []) hG okX11_pop lk_RX11_262 rfl rfl dX11_greater_87 rfl (by simp [Value.category]) (cr_pop hG hY (by omega)) ?_
  rintro _ _ ⟨rfl, _, rfl, hY1⟩
  refine rx_lstore dX11_greater_90 (by decide) ?_
  refine rx_lload dX11_greater_92 rfl ?_
  refine rx_lconst (v := lN 0) dX11_greater_94 rfl ?_
  refine rx_lc_lt (tgt := 110) dX11_greater_95 dX11_greater_96 (by decide) (fun h95 => ?_) (fun h95 => ?_)
  · refine rx_aload_n dX11_greater_110 rfl rfl ?_
    refine rx_iconst (v := nI 3) dX11_greater_111 rfl ?_
    refine rx_lconst (v := lN 0) dX11_greater_112 rfl ?_
    refine gv_invV (as := [.int _, .long _]) hG okX11_finish lk_RX11_231 rfl rfl dX11_greater_113 rfl (by simp [Value.category]) (cr_fin3 hG hY1 (by omega) hlow hw _) ?_
    rintro _ _ ⟨rfl, _, rfl, hF⟩
    refine rx_goto (tgt := 184) dX11_greater_116 (by decide) ?_
    exact rx_vret rfl dX11_greater_184 ⟨rfl, _, rfl, rm_onE (if_pos (Or.inl h95)) hF⟩
  · refine rx_lload dX11_greater_99 rfl ?_
    refine rx_aload_n dX11_greater_101 rfl rfl ?_
    refine gmv_getI (v := nI g.2.1) hG hf_RX11_172 rfl dX11_greater_102 rfl rfl rfl (rY_many hY1) ?_
    refine rx_i2l dX11_greater_105 ?_
    refine rx_tl (y := lN g.2.1) (nI_l (by omega)) ?_
    refine rx_lc_lt (tgt := 119) dX11_greater_106 dX11_greater_107 (by decide) (fun h106 => ?_) (fun h106 => ?_)
    · refine rx_aload_n dX11_greater_119 rfl rfl ?_
      refine g_getR hG hf_RX11_99 rfl dX11_greater_120 rfl rfl rfl ?_
      refine rx_bipush (v := nI 19) dX11_greater_123 rfl ?_
      refine rx_iload_n dX11_greater_125 rfl ?_
      refine rx_imul dX11_greater_126 ?_
      refine rx_ti (y := nI (19 * s)) ((pk_mul _ _).trans (congrArg nI (by omega))) ?_
      refine rx_iconst (v := nI 2) dX11_greater_127 rfl ?_
      refine rx_iadd dX11_greater_128 ?_
      refine rx_ti (y := nI (19 * s + 2)) ((nI_add _ _).trans (congrArg nI (by omega))) ?_
      refine rx_lload dX11_greater_129 rfl ?_
      refine rx_lconst (v := lN 1) dX11_greater_131 rfl ?_
      refine rx_ladd dX11_greater_132 ?_
      refine gm_last (j := 19 * s + 2) hG dX11_greater_133 rfl rfl rfl rfl (by omega) (by decide) ?_
      refine rY_ab (rY_setNow hY1 (19 * s + 2) (y + (lN 1))) (fun _ hY2 => ?_)
      refine rx_goto (tgt := 184) dX11_greater_134 (by decide) ?_
      exact rx_vret rfl dX11_greater_184 ⟨rfl, _, rfl, Or.inl ⟨_, if_neg (by rintro (h | h); (exact h95 h); exact absurd h106 (Int64.not_lt.mpr h)), hY2⟩⟩
    · refine rx_aload_n dX11_greater_110 rfl rfl ?_
      refine rx_iconst (v := nI 3) dX11_greater_111 rfl ?_
      refine rx_lconst (v := lN 0) dX11_greater_112 rfl ?_
      refine gv_invV (as := [.int _, .long _]) hG okX11_finish lk_RX11_231 rfl rfl dX11_greater_113 rfl (by simp [Value.category]) (cr_fin3 hG hY1 (by omega) hlow hw _) ?_
      rintro _ _ ⟨rfl, _, rfl, hF⟩
      refine rx_goto (tgt := 184) dX11_greater_116 (by decide) ?_
      exact rx_vret rfl dX11_greater_184 ⟨rfl, _, rfl, rm_onE (if_pos (Or.inr (Int64.not_lt.mp h106))) hF⟩
theorem cr_greater35 {G : rx_E} {d : Nat} {C : rx_M} {S0 S : gs_T} {g : vg_T} {n : Nat → Int64} {e : List (Nat × Int64 × Int64)} {b m c a q s k : Nat} {v r : Int64} {l o : Bool} {t : List Int64} {w : (Nat → Int64) × Nat × Nat} {fs : List vf_T} (hG : rx_OK G) {x y : Int64} (hp : fs.length < 10) (hs1 : s < 32) (hs : ∀ f ∈ fs, fS f < 32) (hcd : vw_codes g n) (hg : g.2.1 ≤ 16) (ho : g.2.2.1 < 32) (hq : q ≤ 30000) (hw : w.2.1 ≤ e.length) (he : e.length ≤ 2001) (hlow : vw_low fs) (hY : rm_Y S0 S g (n, e, b, ((c, a, q, s, k), (v, r), (l, o), (y :: (x :: t)), w) :: fs, m) 0) : rx_C G MX11_greater (d + 3) [.ref 52, .int (nI 35)] (gl C S) 0 0 (rq_on C S0 g (vm_do5 g (n, e, b, ((c, a, q, s, k), (v, r), (l, o), (y :: (x :: t)), w) :: fs, m) 35 ((c, a, q, s, k), (v, r), (l, o), (y :: (x :: t)), w) fs)) := by
  refine rx_meth0 (by decide +kernel) rfl (Nat.le_of_ble_eq_true rfl) ?_
  refine rx_aload_n dX11_greater_0 rfl rfl ?_
  refine gmv_getI (v := nI (fs.length + 1)) hG hf_RX11_203 rfl dX11_greater_1 rfl rfl rfl (rY_dep hY) ?_
  refine rx_iconst (v := nI 1) dX11_greater_4 rfl ?_
  refine rx_isub dX11_greater_5 ?_
  refine rx_ti (y := nI fs.length) ((pk_sub (by omega)).trans (congrArg nI (by omega))) ?_
  refine rx_istore_n dX11_greater_6 (by decide) ?_
  refine rx_aload_n dX11_greater_7 rfl rfl ?_
  refine g_getR hG hf_RX11_120 rfl dX11_greater_8 rfl rfl rfl ?_
  refine rx_iload_n dX11_greater_11 rfl ?_
  refine gmv_iald (j := fs.length) (v := nI s) hG dX11_greater_12 rfl rfl rfl rfl (by omega) (by decide) (rY_self hY) ?_
  refine rx_istore_n dX11_greater_13 (by decide) ?_
  refine rx_iload_n dX11_greater_14 rfl ?_
  refine rx_tabIn (tgt := 137) dX11_greater_15 (by decide) (by decide) rfl (by decide) ?_
  refine rx_aload_n dX11_greater_137 rfl rfl ?_
  refine rx_iload_n dX11_greater_138 rfl ?_
  refine gv_invV (as := [.int _]) hG okX11_emit lk_RX11_285 rfl rfl dX11_greater_139 rfl (by simp [Value.category]) (cr_emit hG (by omega) he hY) ?_
  rintro _ _ ⟨rfl, _, rfl, hF⟩
  refine rx_goto (tgt := 184) dX11_greater_142 (by decide) ?_
  exact rx_vret rfl dX11_greater_184 ⟨rfl, _, rfl, Or.inl ⟨_, rfl, hF⟩⟩
theorem cr_greater36 {G : rx_E} {d : Nat} {C : rx_M} {S0 S : gs_T} {g : vg_T} {n : Nat → Int64} {e : List (Nat × Int64 × Int64)} {b m c a q s k : Nat} {v r : Int64} {l o : Bool} {t : List Int64} {w : (Nat → Int64) × Nat × Nat} {fs : List vf_T} (hG : rx_OK G) {y : Int64} (hp : fs.length < 10) (hs1 : s < 32) (hs : ∀ f ∈ fs, fS f < 32) (hcd : vw_codes g n) (hg : g.2.1 ≤ 16) (ho : g.2.2.1 < 32) (hq : q ≤ 30000) (hw : w.2.1 ≤ e.length) (he : e.length ≤ 2001) (hlow : vw_low fs) (hY : rm_Y S0 S g (n, e, b, ((c, a, q, s, k), (v, r), (l, o), (y :: t), w) :: fs, m) 0) : rx_C G MX11_greater (d + 3) [.ref 52, .int (nI 36)] (gl C S) 0 0 (rq_on C S0 g (vm_do5 g (n, e, b, ((c, a, q, s, k), (v, r), (l, o), (y :: t), w) :: fs, m) 36 ((c, a, q, s, k), (v, r), (l, o), (y :: t), w) fs)) := by
  refine rx_meth0 (by decide +kernel) rfl (Nat.le_of_ble_eq_true rfl) ?_
  refine rx_aload_n dX11_greater_0 rfl rfl ?_
  refine gmv_getI (v := nI (fs.length + 1)) hG hf_RX11_203 rfl dX11_greater_1 rfl rfl rfl (rY_dep hY) ?_
  refine rx_iconst (v := nI 1) dX11_greater_4 rfl ?_
  refine rx_isub dX11_greater_5 ?_
  refine rx_ti (y := nI fs.length) ((pk_sub (by omega)).trans (congrArg nI (by omega))) ?_
  refine rx_istore_n dX11_greater_6 (by decide) ?_
  refine rx_aload_n dX11_greater_7 rfl rfl ?_
  refine g_getR hG hf_RX11_120 rfl dX11_greater_8 rfl rfl rfl ?_
  refine rx_iload_n dX11_greater_11 rfl ?_
  refine gmv_iald (j := fs.length) (v := nI s) hG dX11_greater_12 rfl rfl rfl rfl (by omega) (by decide) (rY_self hY) ?_
  refine rx_istore_n dX11_greater_13 (by decide) ?_
  refine rx_iload_n dX11_greater_14 rfl ?_
  refine rx_tabIn (tgt := 145) dX11_greater_15 (by decide) (by decide) rfl (by decide) ?_
  refine rx_aload_n dX11_greater_145 rfl rfl ?_
  refine rx_iconst (v := nI 1) dX11_greater_146 rfl ?_
  refine rx_aload_n dX11_greater_147 rfl rfl ?_
  refine gv_invV (as := []) hG okX11_pop lk_RX11_262 rfl rfl dX11_greater_148 rfl (by simp [Value.category]) (cr_pop hG hY (by omega)) ?_
  rintro _ _ ⟨rfl, _, rfl, hY1⟩
  refine gv_invV (as := [.int _, .long _]) hG okX11_finish lk_RX11_231 rfl rfl dX11_greater_151 rfl (by simp [Value.category]) (cr_fin1 hG hY1 (by omega) hlow _) ?_
  rintro _ _ ⟨rfl, _, rfl, hF⟩
  refine rx_goto (tgt := 184) dX11_greater_154 (by decide) ?_
  exact rx_vret rfl dX11_greater_184 ⟨rfl, _, rfl, rm_onE (rfl) hF⟩
theorem cr_greater37 {G : rx_E} {d : Nat} {C : rx_M} {S0 S : gs_T} {g : vg_T} {n : Nat → Int64} {e : List (Nat × Int64 × Int64)} {b m c a q s k : Nat} {v r : Int64} {l o : Bool} {t : List Int64} {w : (Nat → Int64) × Nat × Nat} {fs : List vf_T} (hG : rx_OK G) {y : Int64} (hp : fs.length < 10) (hs1 : s < 32) (hs : ∀ f ∈ fs, fS f < 32) (hcd : vw_codes g n) (hg : g.2.1 ≤ 16) (ho : g.2.2.1 < 32) (hq : q ≤ 30000) (hw : w.2.1 ≤ e.length) (he : e.length ≤ 2001) (hlow : vw_low fs) (hY : rm_Y S0 S g (n, e, b, ((c, a, q, s, k), (v, r), (l, o), (y :: t), w) :: fs, m) 0) : rx_C G MX11_greater (d + 3) [.ref 52, .int (nI 37)] (gl C S) 0 0 (rq_on C S0 g (vm_do5 g (n, e, b, ((c, a, q, s, k), (v, r), (l, o), (y :: t), w) :: fs, m) 37 ((c, a, q, s, k), (v, r), (l, o), (y :: t), w) fs)) := by
  refine rx_meth0 (by decide +kernel) rfl (Nat.le_of_ble_eq_true rfl) ?_
  refine rx_aload_n dX11_greater_0 rfl rfl ?_
  refine gmv_getI (v := nI (fs.length + 1)) hG hf_RX11_203 rfl dX11_greater_1 rfl rfl rfl (rY_dep hY) ?_
  refine rx_iconst (v := nI 1) dX11_greater_4 rfl ?_
  refine rx_isub dX11_greater_5 ?_
  refine rx_ti (y := nI fs.length) ((pk_sub (by omega)).trans (congrArg nI (by omega))) ?_
  refine rx_istore_n dX11_greater_6 (by decide) ?_
  refine rx_aload_n dX11_greater_7 rfl rfl ?_
  refine g_getR hG hf_RX11_120 rfl dX11_greater_8 rfl rfl rfl ?_
  refine rx_iload_n dX11_greater_11 rfl ?_
  refine gmv_iald (j := fs.length) (v := nI s) hG dX11_greater_12 rfl rfl rfl rfl (by omega) (by decide) (rY_self hY) ?_
  refine rx_istore_n dX11_greater_13 (by decide) ?_
  refine rx_iload_n dX11_greater_14 rfl ?_
  refine rx_tabIn (tgt := 157) dX11_greater_15 (by decide) (by decide) rfl (by decide) ?_
  refine rx_aload_n dX11_greater_157 rfl rfl ?_
  refine rx_iconst (v := nI 2) dX11_greater_158 rfl ?_
  refine rx_aload_n dX11_greater_159 rfl rfl ?_
  refine gv_invV (as := []) hG okX11_pop lk_RX11_262 rfl rfl dX11_greater_160 rfl (by simp [Value.category]) (cr_pop hG hY (by omega)) ?_
  rintro _ _ ⟨rfl, _, rfl, hY1⟩
  refine gv_invV (as := [.int _, .long _]) hG okX11_finish lk_RX11_231 rfl rfl dX11_greater_163 rfl (by simp [Value.category]) (cr_fin2 hG hY1 (by omega) hlow hw _) ?_
  rintro _ _ ⟨rfl, _, rfl, hF⟩
  refine rx_goto (tgt := 184) dX11_greater_166 (by decide) ?_
  exact rx_vret rfl dX11_greater_184 ⟨rfl, _, rfl, rm_onE (rfl) hF⟩
theorem cr_greater38 {G : rx_E} {d : Nat} {C : rx_M} {S0 S : gs_T} {g : vg_T} {n : Nat → Int64} {e : List (Nat × Int64 × Int64)} {b m c a q s k : Nat} {v r : Int64} {l o : Bool} {t : List Int64} {w : (Nat → Int64) × Nat × Nat} {fs : List vf_T} (hG : rx_OK G) {y : Int64} (hp : fs.length < 10) (hs1 : s < 32) (hs : ∀ f ∈ fs, fS f < 32) (hcd : vw_codes g n) (hg : g.2.1 ≤ 16) (ho : g.2.2.1 < 32) (hq : q ≤ 30000) (hw : w.2.1 ≤ e.length) (he : e.length ≤ 2001) (hlow : vw_low fs) (hY : rm_Y S0 S g (n, e, b, ((c, a, q, s, k), (v, r), (l, o), (y :: t), w) :: fs, m) 0) : rx_C G MX11_greater (d + 3) [.ref 52, .int (nI 38)] (gl C S) 0 0 (rq_on C S0 g (vm_do5 g (n, e, b, ((c, a, q, s, k), (v, r), (l, o), (y :: t), w) :: fs, m) 38 ((c, a, q, s, k), (v, r), (l, o), (y :: t), w) fs)) := by
  refine rx_meth0 (by decide +kernel) rfl (Nat.le_of_ble_eq_true rfl) ?_
  refine rx_aload_n dX11_greater_0 rfl rfl ?_
  refine gmv_getI (v := nI (fs.length + 1)) hG hf_RX11_203 rfl dX11_greater_1 rfl rfl rfl (rY_dep hY) ?_
  refine rx_iconst (v := nI 1) dX11_greater_4 rfl ?_
  refine rx_isub dX11_greater_5 ?_
  refine rx_ti (y := nI fs.length) ((pk_sub (by omega)).trans (congrArg nI (by omega))) ?_
  refine rx_istore_n dX11_greater_6 (by decide) ?_
  refine rx_aload_n dX11_greater_7 rfl rfl ?_
  refine g_getR hG hf_RX11_120 rfl dX11_greater_8 rfl rfl rfl ?_
  refine rx_iload_n dX11_greater_11 rfl ?_
  refine gmv_iald (j := fs.length) (v := nI s) hG dX11_greater_12 rfl rfl rfl rfl (by omega) (by decide) (rY_self hY) ?_
  refine rx_istore_n dX11_greater_13 (by decide) ?_
  refine rx_iload_n dX11_greater_14 rfl ?_
  refine rx_tabIn (tgt := 169) dX11_greater_15 (by decide) (by decide) rfl (by decide) ?_
  refine rx_aload_n dX11_greater_169 rfl rfl ?_
  refine rx_iload_n dX11_greater_170 rfl ?_
  refine gv_invV (as := [.int _]) hG okX11_close lk_RX11_288 rfl rfl dX11_greater_171 rfl (by simp [Value.category]) (cr_close hG (by omega) hs1 hw hlow hY) ?_
  rintro _ _ ⟨rfl, _, rfl, hF⟩
  refine rx_goto (tgt := 184) dX11_greater_174 (by decide) ?_
  exact rx_vret rfl dX11_greater_184 ⟨rfl, _, rfl, rm_onE (rfl) hF⟩
theorem cr_greater39 {G : rx_E} {d : Nat} {C : rx_M} {S0 S : gs_T} {g : vg_T} {n : Nat → Int64} {e : List (Nat × Int64 × Int64)} {b m c a q s k : Nat} {v r : Int64} {l o : Bool} {t : List Int64} {w : (Nat → Int64) × Nat × Nat} {fs : List vf_T} (hG : rx_OK G) (hp : fs.length < 10) (hs1 : s < 32) (hs : ∀ f ∈ fs, fS f < 32) (hcd : vw_codes g n) (hg : g.2.1 ≤ 16) (ho : g.2.2.1 < 32) (hq : q ≤ 30000) (hw : w.2.1 ≤ e.length) (he : e.length ≤ 2001) (hlow : vw_low fs) (hY : rm_Y S0 S g (n, e, b, ((c, a, q, s, k), (v, r), (l, o), t, w) :: fs, m) 0) : rx_C G MX11_greater (d + 3) [.ref 52, .int (nI 39)] (gl C S) 0 0 (rq_on C S0 g (vm_do5 g (n, e, b, ((c, a, q, s, k), (v, r), (l, o), t, w) :: fs, m) 39 ((c, a, q, s, k), (v, r), (l, o), t, w) fs)) := by
  refine rx_meth0 (by decide +kernel) rfl (Nat.le_of_ble_eq_true rfl) ?_
  refine rx_aload_n dX11_greater_0 rfl rfl ?_
  refine gmv_getI (v := nI (fs.length + 1)) hG hf_RX11_203 rfl dX11_greater_1 rfl rfl rfl (rY_dep hY) ?_
  refine rx_iconst (v := nI 1) dX11_greater_4 rfl ?_
  refine rx_isub dX11_greater_5 ?_
  refine rx_ti (y := nI fs.length) ((pk_sub (by omega)).trans (congrArg nI (by omega))) ?_
  refine rx_istore_n dX11_greater_6 (by decide) ?_
  refine rx_aload_n dX11_greater_7 rfl rfl ?_
  refine g_getR hG hf_RX11_120 rfl dX11_greater_8 rfl rfl rfl ?_
  refine rx_iload_n dX11_greater_11 rfl ?_
  refine gmv_iald (j := fs.length) (v := nI s) hG dX11_greater_12 rfl rfl rfl rfl (by omega) (by decide) (rY_self hY) ?_
  refine rx_istore_n dX11_greater_13 (by decide) ?_
  refine rx_iload_n dX11_greater_14 rfl ?_
  refine rx_tabOut (tgt := 177) dX11_greater_15 (by decide) (by decide) ?_
  refine rx_aload_n dX11_greater_177 rfl rfl ?_
  refine g_getR hG hf_RX11_135 rfl dX11_greater_178 rfl rfl rfl ?_
  refine rx_iload_n dX11_greater_181 rfl ?_
  refine rx_iconst (v := nI 1) dX11_greater_182 rfl ?_
  refine gm_zast (j := fs.length) hG dX11_greater_183 rfl rfl rfl rfl (by omega) (by decide) rfl ?_
  refine rY_ab (rY_setLock hY) (fun _ hY1 => ?_)
  exact rx_vret rfl dX11_greater_184 ⟨rfl, _, rfl, Or.inl ⟨_, rfl, hY1⟩⟩

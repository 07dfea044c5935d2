theorem cr_tell {G : rx_E} {d : Nat} {C : rx_M} {S0 S : gs_T} {g : vg_T} {n : Nat → Int64} {e : List (Nat × Int64 × Int64)} {b m c a q s k : Nat} {v r : Int64} {l o : Bool} {t : List Int64} {w : (Nat → Int64) × Nat × Nat} {fs : List vf_T} (hG : rx_OK G) (hp : fs.length < 11) (ht : t.length ≤ 22) {u how : Nat} {x : Int64} (hx : S.2 52 59 = x) (hu : S.2 52 60 = lN u) (hh : 1 ≤ how ∧ how ≤ 3) (hY : rm_Y S0 S g (n, e, b, ((c, a, q, s, k), (v, r), (l, o), t, w) :: fs, m) how) : rx_C G MX11_tell (d + 1) [.ref 52] (gl C S) 0 0 (rq_Y C S0 g (n, e, b, ((c, a, q + u, s, k), (v, r), (l, o), ((if how = 1 then 1 else 0) :: x :: t), w) :: fs, m) how none) := by
  have h3 : how = 1 ∨ how = 2 ∨ how = 3 := by omega
  rcases h3 with rfl | rfl | rfl
  · exact cr_tell1 hG hp ht hx hu hY
  · exact cr_tell2 hG hp ht hx hu hY
  · exact cr_tell3 hG hp ht hx hu hY
set_option maxHeartbeats 1000000 in
theorem lm_calls0 {G : rx_E} {d : Nat} {C : rx_M} {S0 S : gs_T} {g : vg_T} {n : Nat → Int64} {e : List (Nat × Int64 × Int64)} {b m c a q s k : Nat} {v r : Int64} {l o : Bool} {t : List Int64} {w : (Nat → Int64) × Nat × Nat} {fs : List vf_T} {mc ms gg : Nat} {to vl ar ask : Int64} {Q : Option Value → rx_M → Prop} {Z : String → rx_M → Prop} (hG : rx_OK G) (hp : fs.length < 10) (ht : t.length ≤ 22) (hs1 : s < 32) (hs : ∀ f ∈ fs, fS f < 32) (hcd : vw_codes g n) (hg : g.2.1 ≤ 16) (hgg : gg ≤ q) (hq : q ≤ 30000) (hY : rm_Y S0 S g (n, e, b, ((c, a, q, s, k), (v, r), (l, o), t, w) :: fs, m) 0) (hQ : ∀ u mu, rq_on C S0 g (vm_begin (n, e, b, ((c, a, q - gg, s, k), (v, r), (l, o), t, w) :: fs, m) s to vl ar gg (false || l)) u mu → Q u mu) : rx_W G MX11_calls (d + 2) 95 [(9, .long ask), (7, .long ar), (5, .long vl), (3, .long to), (2, .int (nI fs.length)), (1, .int (nI 0)), (0, .ref 52)] [.long (lN gg)] (gl C S) mc ms Q Z := by
  cases l
  · refine rx_lstore dX11_calls_95 (by decide) ?_
    refine rx_aload_n dX11_calls_97 rfl rfl ?_
    refine g_getR hG hf_RX11_117 rfl dX11_calls_98 rfl rfl rfl ?_
    refine rx_iload_n dX11_calls_101 rfl ?_
    refine rx_dup2 dX11_calls_102 rfl rfl ?_
    refine gmv_lald (j := fs.length) (v := lN q) hG dX11_calls_103 rfl rfl rfl rfl (by omega) (by decide) (rY_gas hY) ?_
    refine rx_lload dX11_calls_104 rfl ?_
    refine rx_lsub dX11_calls_106 ?_
    refine rx_tl (y := lN (q - gg)) (lN_sub (by omega)) ?_
    refine gm_last (j := fs.length) hG dX11_calls_107 rfl rfl rfl rfl (by omega) (by decide) ?_
    refine rY_ab (rY_setGas hY (q - gg)) (fun _ hY1 => ?_)
    refine rx_aload_n dX11_calls_108 rfl rfl ?_
    refine rx_aload_n dX11_calls_109 rfl rfl ?_
    refine g_getR hG hf_RX11_120 rfl dX11_calls_110 rfl rfl rfl ?_
    refine rx_iload_n dX11_calls_113 rfl ?_
    refine gmv_iald (j := fs.length) (v := nI s) hG dX11_calls_114 rfl rfl rfl rfl (by omega) (by decide) (rY_self hY1) ?_
    refine rx_lload_n dX11_calls_115 rfl ?_
    refine rx_lload dX11_calls_116 rfl ?_
    refine rx_lload dX11_calls_118 rfl ?_
    refine rx_lload dX11_calls_120 rfl ?_
    refine rx_iload_n dX11_calls_122 rfl ?_
    refine rx_if_ne (tgt := 135) dX11_calls_123 (by decide) (fun h123 => (absurd h123 (by decide))) (fun h123 => ?_)
    refine rx_aload_n dX11_calls_126 rfl rfl ?_
    refine g_getR hG hf_RX11_132 rfl dX11_calls_127 rfl rfl rfl ?_
    refine rx_iload_n dX11_calls_130 rfl ?_
    refine gmv_zald (j := fs.length) (v := nI 0) hG dX11_calls_131 rfl rfl rfl rfl (by omega) (by decide) (rY_look hY1) ?_
    refine rx_if_eq (tgt := 139) dX11_calls_132 (by decide) (fun h132 => ?_) (fun h132 => (absurd h132 (by decide))) 
    refine rx_iconst (v := nI 0) dX11_calls_139 rfl ?_
    have hs2 : ∀ f ∈ ((c, a, (q - gg), s, k), (v, r), (false, o), t, w) :: fs, fS f < 32 := List.forall_mem_cons.mpr ⟨hs1, hs⟩
    refine gv_invV (as := [.int _, .long _, .long _, .long _, .long _, .int _]) hG okX11_begin lk_RX11_291 rfl rfl dX11_calls_140 rfl (by simp [Value.category]) (cr_begin hG hY1 (by show fs.length + 1 ≤ 10; omega) hs2 hcd hg hs1 to vl ar false) ?_
    intro _ _ hb
    rcases hb with ⟨rfl, S2, rfl, n1, how, hh, hR, hY8, hx, hu⟩ | ⟨rfl, S2, rfl, X', hR, hY8⟩
    · refine rx_if_ne (tgt := 155) dX11_calls_143 (by decide) (fun h143 => (absurd h143 (by decide))) (fun h143 => ?_)
      refine rx_aload_n dX11_calls_146 rfl rfl ?_
      refine gv_invV (as := []) hG okX11_tell lk_RX11_228 rfl rfl dX11_calls_147 rfl (by simp [Value.category]) (cr_tell hG (by omega) (by omega) hx hu hh hY8) ?_
      rintro _ _ ⟨rfl, _, rfl, hY2⟩
      refine rx_aload_n dX11_calls_150 rfl rfl ?_
      refine rx_iconst (v := nI 0) dX11_calls_151 rfl ?_
      refine gm_putI hG hf_RX11_193 (gw_nf rfl rfl) rfl dX11_calls_152 rfl rfl rfl rfl rfl ?_
      refine rY_ab (rY_setEnd hY2 0) (fun _ hY3 => ?_)
      exact rx_vret rfl dX11_calls_155 (hQ _ _ ⟨rfl, _, rfl, Or.inl ⟨_, hR.trans rfl, hY3⟩⟩)
    · refine rx_if_ne (tgt := 155) dX11_calls_143 (by decide) (fun h143 => ?_) (fun h143 => (absurd h143 (by decide))) 
      exact rx_vret rfl dX11_calls_155 (hQ _ _ ⟨rfl, _, rfl, Or.inl ⟨_, hR, hY8⟩⟩)
  · refine rx_lstore dX11_calls_95 (by decide) ?_
    refine rx_aload_n dX11_calls_97 rfl rfl ?_
    refine g_getR hG hf_RX11_117 rfl dX11_calls_98 rfl rfl rfl ?_
    refine rx_iload_n dX11_calls_101 rfl ?_
    refine rx_dup2 dX11_calls_102 rfl rfl ?_
    refine gmv_lald (j := fs.length) (v := lN q) hG dX11_calls_103 rfl rfl rfl rfl (by omega) (by decide) (rY_gas hY) ?_
    refine rx_lload dX11_calls_104 rfl ?_
    refine rx_lsub dX11_calls_106 ?_
    refine rx_tl (y := lN (q - gg)) (lN_sub (by omega)) ?_
    refine gm_last (j := fs.length) hG dX11_calls_107 rfl rfl rfl rfl (by omega) (by decide) ?_
    refine rY_ab (rY_setGas hY (q - gg)) (fun _ hY1 => ?_)
    refine rx_aload_n dX11_calls_108 rfl rfl ?_
    refine rx_aload_n dX11_calls_109 rfl rfl ?_
    refine g_getR hG hf_RX11_120 rfl dX11_calls_110 rfl rfl rfl ?_
    refine rx_iload_n dX11_calls_113 rfl ?_
    refine gmv_iald (j := fs.length) (v := nI s) hG dX11_calls_114 rfl rfl rfl rfl (by omega) (by decide) (rY_self hY1) ?_
    refine rx_lload_n dX11_calls_115 rfl ?_
    refine rx_lload dX11_calls_116 rfl ?_
    refine rx_lload dX11_calls_118 rfl ?_
    refine rx_lload dX11_calls_120 rfl ?_
    refine rx_iload_n dX11_calls_122 rfl ?_
    refine rx_if_ne (tgt := 135) dX11_calls_123 (by decide) (fun h123 => (absurd h123 (by decide))) (fun h123 => ?_)
    refine rx_aload_n dX11_calls_126 rfl rfl ?_
    refine g_getR hG hf_RX11_132 rfl dX11_calls_127 rfl rfl rfl ?_
    refine rx_iload_n dX11_calls_130 rfl ?_
    refine gmv_zald (j := fs.length) (v := nI 1) hG dX11_calls_131 rfl rfl rfl rfl (by omega) (by decide) (rY_look hY1) ?_
    refine rx_if_eq (tgt := 139) dX11_calls_132 (by decide) (fun h132 => (absurd h132 (by decide))) (fun h132 => ?_)
    refine rx_iconst (v := nI 1) dX11_calls_135 rfl ?_
    refine rx_goto (tgt := 140) dX11_calls_136 (by decide) ?_
    have hs2 : ∀ f ∈ ((c, a, (q - gg), s, k), (v, r), (true, o), t, w) :: fs, fS f < 32 := List.forall_mem_cons.mpr ⟨hs1, hs⟩
    refine gv_invV (as := [.int _, .long _, .long _, .long _, .long _, .int _]) hG okX11_begin lk_RX11_291 rfl rfl dX11_calls_140 rfl (by simp [Value.category]) (cr_begin hG hY1 (by show fs.length + 1 ≤ 10; omega) hs2 hcd hg hs1 to vl ar true) ?_
    intro _ _ hb
    rcases hb with ⟨rfl, S2, rfl, n1, how, hh, hR, hY8, hx, hu⟩ | ⟨rfl, S2, rfl, X', hR, hY8⟩
    · refine rx_if_ne (tgt := 155) dX11_calls_143 (by decide) (fun h143 => (absurd h143 (by decide))) (fun h143 => ?_)
      refine rx_aload_n dX11_calls_146 rfl rfl ?_
      refine gv_invV (as := []) hG okX11_tell lk_RX11_228 rfl rfl dX11_calls_147 rfl (by simp [Value.category]) (cr_tell hG (by omega) (by omega) hx hu hh hY8) ?_
      rintro _ _ ⟨rfl, _, rfl, hY2⟩
      refine rx_aload_n dX11_calls_150 rfl rfl ?_
      refine rx_iconst (v := nI 0) dX11_calls_151 rfl ?_
      refine gm_putI hG hf_RX11_193 (gw_nf rfl rfl) rfl dX11_calls_152 rfl rfl rfl rfl rfl ?_
      refine rY_ab (rY_setEnd hY2 0) (fun _ hY3 => ?_)
      exact rx_vret rfl dX11_calls_155 (hQ _ _ ⟨rfl, _, rfl, Or.inl ⟨_, hR.trans rfl, hY3⟩⟩)
    · refine rx_if_ne (tgt := 155) dX11_calls_143 (by decide) (fun h143 => ?_) (fun h143 => (absurd h143 (by decide))) 
      exact rx_vret rfl dX11_calls_155 (hQ _ _ ⟨rfl, _, rfl, Or.inl ⟨_, hR, hY8⟩⟩)
set_option maxHeartbeats 1000000 in
theorem lm_calls1 {G : rx_E} {d : Nat} {C : rx_M} {S0 S : gs_T} {g : vg_T} {n : Nat → Int64} {e : List (Nat × Int64 × Int64)} {b m c a q s k : Nat} {v r : Int64} {l o : Bool} {t : List Int64} {w : (Nat → Int64) × Nat × Nat} {fs : List vf_T} {mc ms gg : Nat} {to vl ar ask : Int64} {Q : Option Value → rx_M → Prop} {Z : String → rx_M → Prop} (hG : rx_OK G) (hp : fs.length < 10) (ht : t.length ≤ 22) (hs1 : s < 32) (hs : ∀ f ∈ fs, fS f < 32) (hcd : vw_codes g n) (hg : g.2.1 ≤ 16) (hgg : gg ≤ q) (hq : q ≤ 30000) (hY : rm_Y S0 S g (n, e, b, ((c, a, q, s, k), (v, r), (l, o), t, w) :: fs, m) 0) (hQ : ∀ u mu, rq_on C S0 g (vm_begin (n, e, b, ((c, a, q - gg, s, k), (v, r), (l, o), t, w) :: fs, m) s to vl ar gg (true || l)) u mu → Q u mu) : rx_W G MX11_calls (d + 2) 95 [(9, .long ask), (7, .long ar), (5, .long vl), (3, .long to), (2, .int (nI fs.length)), (1, .int (nI 1)), (0, .ref 52)] [.long (lN gg)] (gl C S) mc ms Q Z := by
  cases l
  · refine rx_lstore dX11_calls_95 (by decide) ?_
    refine rx_aload_n dX11_calls_97 rfl rfl ?_
    refine g_getR hG hf_RX11_117 rfl dX11_calls_98 rfl rfl rfl ?_
    refine rx_iload_n dX11_calls_101 rfl ?_
    refine rx_dup2 dX11_calls_102 rfl rfl ?_
    refine gmv_lald (j := fs.length) (v := lN q) hG dX11_calls_103 rfl rfl rfl rfl (by omega) (by decide) (rY_gas hY) ?_
    refine rx_lload dX11_calls_104 rfl ?_
    refine rx_lsub dX11_calls_106 ?_
    refine rx_tl (y := lN (q - gg)) (lN_sub (by omega)) ?_
    refine gm_last (j := fs.length) hG dX11_calls_107 rfl rfl rfl rfl (by omega) (by decide) ?_
    refine rY_ab (rY_setGas hY (q - gg)) (fun _ hY1 => ?_)
    refine rx_aload_n dX11_calls_108 rfl rfl ?_
    refine rx_aload_n dX11_calls_109 rfl rfl ?_
    refine g_getR hG hf_RX11_120 rfl dX11_calls_110 rfl rfl rfl ?_
    refine rx_iload_n dX11_calls_113 rfl ?_
    refine gmv_iald (j := fs.length) (v := nI s) hG dX11_calls_114 rfl rfl rfl rfl (by omega) (by decide) (rY_self hY1) ?_
    refine rx_lload_n dX11_calls_115 rfl ?_
    refine rx_lload dX11_calls_116 rfl ?_
    refine rx_lload dX11_calls_118 rfl ?_
    refine rx_lload dX11_calls_120 rfl ?_
    refine rx_iload_n dX11_calls_122 rfl ?_
    refine rx_if_ne (tgt := 135) dX11_calls_123 (by decide) (fun h123 => ?_) (fun h123 => (absurd h123 (by decide))) 
    refine rx_iconst (v := nI 1) dX11_calls_135 rfl ?_
    refine rx_goto (tgt := 140) dX11_calls_136 (by decide) ?_
    have hs2 : ∀ f ∈ ((c, a, (q - gg), s, k), (v, r), (false, o), t, w) :: fs, fS f < 32 := List.forall_mem_cons.mpr ⟨hs1, hs⟩
    refine gv_invV (as := [.int _, .long _, .long _, .long _, .long _, .int _]) hG okX11_begin lk_RX11_291 rfl rfl dX11_calls_140 rfl (by simp [Value.category]) (cr_begin hG hY1 (by show fs.length + 1 ≤ 10; omega) hs2 hcd hg hs1 to vl ar true) ?_
    intro _ _ hb
    rcases hb with ⟨rfl, S2, rfl, n1, how, hh, hR, hY8, hx, hu⟩ | ⟨rfl, S2, rfl, X', hR, hY8⟩
    · refine rx_if_ne (tgt := 155) dX11_calls_143 (by decide) (fun h143 => (absurd h143 (by decide))) (fun h143 => ?_)
      refine rx_aload_n dX11_calls_146 rfl rfl ?_
      refine gv_invV (as := []) hG okX11_tell lk_RX11_228 rfl rfl dX11_calls_147 rfl (by simp [Value.category]) (cr_tell hG (by omega) (by omega) hx hu hh hY8) ?_
      rintro _ _ ⟨rfl, _, rfl, hY2⟩
      refine rx_aload_n dX11_calls_150 rfl rfl ?_
      refine rx_iconst (v := nI 0) dX11_calls_151 rfl ?_
      refine gm_putI hG hf_RX11_193 (gw_nf rfl rfl) rfl dX11_calls_152 rfl rfl rfl rfl rfl ?_
      refine rY_ab (rY_setEnd hY2 0) (fun _ hY3 => ?_)
      exact rx_vret rfl dX11_calls_155 (hQ _ _ ⟨rfl, _, rfl, Or.inl ⟨_, hR.trans rfl, hY3⟩⟩)
    · refine rx_if_ne (tgt := 155) dX11_calls_143 (by decide) (fun h143 => ?_) (fun h143 => (absurd h143 (by decide))) 
      exact rx_vret rfl dX11_calls_155 (hQ _ _ ⟨rfl, _, rfl, Or.inl ⟨_, hR, hY8⟩⟩)
  · refine rx_lstore dX11_calls_95 (by decide) ?_
    refine rx_aload_n dX11_calls_97 rfl rfl ?_
    refine g_getR hG hf_RX11_117 rfl dX11_calls_98 rfl rfl rfl ?_
    refine rx_iload_n dX11_calls_101 rfl ?_
    refine rx_dup2 dX11_calls_102 rfl rfl ?_
    refine gmv_lald (j := fs.length) (v := lN q) hG dX11_calls_103 rfl rfl rfl rfl (by omega) (by decide) (rY_gas hY) ?_
    refine rx_lload dX11_calls_104 rfl ?_
    refine rx_lsub dX11_calls_106 ?_
    refine rx_tl (y := lN (q - gg)) (lN_sub (by omega)) ?_
    refine gm_last (j := fs.length) hG dX11_calls_107 rfl rfl rfl rfl (by omega) (by decide) ?_
    refine rY_ab (rY_setGas hY (q - gg)) (fun _ hY1 => ?_)
    refine rx_aload_n dX11_calls_108 rfl rfl ?_
    refine rx_aload_n dX11_calls_109 rfl rfl ?_
    refine g_getR hG hf_RX11_120 rfl dX11_calls_110 rfl rfl rfl ?_
    refine rx_iload_n dX11_calls_113 rfl ?_
    refine gmv_iald (j := fs.length) (v := nI s) hG dX11_calls_114 rfl rfl rfl rfl (by omega) (by decide) (rY_self hY1) ?_
    refine rx_lload_n dX11_calls_115 rfl ?_
    refine rx_lload dX11_calls_116 rfl ?_
    refine rx_lload dX11_calls_118 rfl ?_
    refine rx_lload dX11_calls_120 rfl ?_
    refine rx_iload_n dX11_calls_122 rfl ?_
    refine rx_if_ne (tgt := 135) dX11_calls_123 (by decide) (fun h123 => ?_) (fun h123 => (absurd h123 (by decide))) 
    refine rx_iconst (v := nI 1) dX11_calls_135 rfl ?_
    refine rx_goto (tgt := 140) dX11_calls_136 (by decide) ?_
    have hs2 : ∀ f ∈ ((c, a, (q - gg), s, k), (v, r), (true, o), t, w) :: fs, fS f < 32 := List.forall_mem_cons.mpr ⟨hs1, hs⟩
    refine gv_invV (as := [.int _, .long _, .long _, .long _, .long _, .int _]) hG okX11_begin lk_RX11_291 rfl rfl dX11_calls_140 rfl (by simp [Value.category]) (cr_begin hG hY1 (by show fs.length + 1 ≤ 10; omega) hs2 hcd hg hs1 to vl ar true) ?_
    intro _ _ hb
    rcases hb with ⟨rfl, S2, rfl, n1, how, hh, hR, hY8, hx, hu⟩ | ⟨rfl, S2, rfl, X', hR, hY8⟩
    · refine rx_if_ne (tgt := 155) dX11_calls_143 (by decide) (fun h143 => (absurd h143 (by decide))) (fun h143 => ?_)
      refine rx_aload_n dX11_calls_146 rfl rfl ?_
      refine gv_invV (as := []) hG okX11_tell lk_RX11_228 rfl rfl dX11_calls_147 rfl (by simp [Value.category]) (cr_tell hG (by omega) (by omega) hx hu hh hY8) ?_
      rintro _ _ ⟨rfl, _, rfl, hY2⟩
      refine rx_aload_n dX11_calls_150 rfl rfl ?_
      refine rx_iconst (v := nI 0) dX11_calls_151 rfl ?_
      refine gm_putI hG hf_RX11_193 (gw_nf rfl rfl) rfl dX11_calls_152 rfl rfl rfl rfl rfl ?_
      refine rY_ab (rY_setEnd hY2 0) (fun _ hY3 => ?_)
      exact rx_vret rfl dX11_calls_155 (hQ _ _ ⟨rfl, _, rfl, Or.inl ⟨_, hR.trans rfl, hY3⟩⟩)
    · refine rx_if_ne (tgt := 155) dX11_calls_143 (by decide) (fun h143 => ?_) (fun h143 => (absurd h143 (by decide))) 
      exact rx_vret rfl dX11_calls_155 (hQ _ _ ⟨rfl, _, rfl, Or.inl ⟨_, hR, hY8⟩⟩)
theorem vm_gas0 {ask : Int64} {q : Nat} (h : ask < 0) : vm_gas ask q = 0 := if_pos h
theorem vm_gas1 {j q : Nat} (hj : j < 2 ^ 31) (hq : q ≤ 30000) (h : lN j < lN q) : vm_gas (lN j) q = j := by
  unfold vm_gas
  rw [if_neg (fun q => by have q2 : lN j < lN 0 := q; rw [lN_lt hj (by decide)] at q2; omega), if_pos h, lN_toNat hj]
theorem vm_gas2 {ask : Int64} {q : Nat} (h1 : ¬ ask < 0) (h2 : ¬ ask < lN q) : vm_gas ask q = q := by
  unfold vm_gas
  rw [if_neg h1, if_neg h2]
theorem vm_gasle {ask : Int64} {q : Nat} (hq : q ≤ 30000) : vm_gas ask q ≤ q := by
  unfold vm_gas
  split
  · omega
  · split
    · rename_i h1 h2
      obtain ⟨j, hj, rfl⟩ := pk_lOf h1
      rw [pk_lLT hj (by omega)] at h2
      rw [pk_lT hj]
      show j ≤ q
      omega
    · omega
theorem vm_gasN {ask : Int64} {q : Nat} (hq : q ≤ 30000) (h1 : ¬ ask < 0) (h2 : ask < lN q) : ask = lN (vm_gas ask q) := by
  obtain ⟨j, hj, rfl⟩ := pk_lOf h1
  rw [pk_lLT hj (by omega)] at h2
  rw [vm_gas1 (by omega) hq (by rw [pk_lLT hj (by omega)]; exact h2)]
set_option maxHeartbeats 1000000 in
theorem cr_calls0 {G : rx_E} {d : Nat} {C : rx_M} {S0 S : gs_T} {g : vg_T} {n : Nat → Int64} {e : List (Nat × Int64 × Int64)} {b m c a q s k : Nat} {v r : Int64} {l o : Bool} {t : List Int64} {w : (Nat → Int64) × Nat × Nat} {fs : List vf_T} (hG : rx_OK G) {to vl ar ask : Int64} (hp : fs.length < 10) (hs1 : s < 32) (hs : ∀ f ∈ fs, fS f < 32) (hcd : vw_codes g n) (hg : g.2.1 ≤ 16) (hq : q ≤ 30000) (hw : w.2.1 ≤ e.length) (hlow : vw_low fs) (hY : rm_Y S0 S g (n, e, b, ((c, a, q, s, k), (v, r), (l, o), (to :: (vl :: (ar :: (ask :: t)))), w) :: fs, m) 0) : rx_C G MX11_calls (d + 2) [.ref 52, .int (nI 0)] (gl C S) 0 0 (rq_on C S0 g (vm_call (n, e, b, ((c, a, q, s, k), (v, r), (l, o), (to :: (vl :: (ar :: (ask :: t)))), w) :: fs, m) false to vl ar ask ((c, a, q, s, k), (v, r), (l, o), (to :: (vl :: (ar :: (ask :: t)))), w) fs t)) := by
  refine rx_meth0 (by decide +kernel) rfl (Nat.le_of_ble_eq_true rfl) ?_
  have hgl : vm_gas ask q ≤ q := vm_gasle hq
  have ht : t.length + 4 ≤ 24 := rY_n hY
  by_cases hl : l = true ∧ (vl : Int64) ≠ 0
  · obtain ⟨rfl, hv⟩ := hl
    refine rx_aload_n dX11_calls_0 rfl rfl ?_
    refine gmv_getI (v := nI (fs.length + 1)) hG hf_RX11_203 rfl dX11_calls_1 rfl rfl rfl (rY_dep hY) ?_
    refine rx_iconst (v := nI 1) dX11_calls_4 rfl ?_
    refine rx_isub dX11_calls_5 ?_
    refine rx_ti (y := nI fs.length) ((pk_sub (by omega)).trans (congrArg nI (by omega))) ?_
    refine rx_istore_n dX11_calls_6 (by decide) ?_
    refine rx_aload_n dX11_calls_7 rfl rfl ?_
    refine gv_invV (as := []) hG okX11_pop lk_RX11_262 rfl rfl dX11_calls_8 rfl (by simp [Value.category]) (cr_pop hG hY (by omega)) ?_
    rintro _ _ ⟨rfl, _, rfl, hY1⟩
    refine rx_lstore_n dX11_calls_11 (by decide) ?_
    refine rx_iload_n dX11_calls_12 rfl ?_
    refine rx_if_eq (tgt := 20) dX11_calls_13 (by decide) (fun h13 => ?_) (fun h13 => (absurd h13 (by decide))) 
    refine rx_aload_n dX11_calls_20 rfl rfl ?_
    refine gv_invV (as := []) hG okX11_pop lk_RX11_262 rfl rfl dX11_calls_21 rfl (by simp [Value.category]) (cr_pop hG hY1 (by omega)) ?_
    rintro _ _ ⟨rfl, _, rfl, hY2⟩
    refine rx_lstore dX11_calls_24 (by decide) ?_
    refine rx_aload_n dX11_calls_26 rfl rfl ?_
    refine gv_invV (as := []) hG okX11_pop lk_RX11_262 rfl rfl dX11_calls_27 rfl (by simp [Value.category]) (cr_pop hG hY2 (by omega)) ?_
    rintro _ _ ⟨rfl, _, rfl, hY3⟩
    refine rx_lstore dX11_calls_30 (by decide) ?_
    refine rx_aload_n dX11_calls_32 rfl rfl ?_
    refine gv_invV (as := []) hG okX11_pop lk_RX11_262 rfl rfl dX11_calls_33 rfl (by simp [Value.category]) (cr_pop hG hY3 (by omega)) ?_
    rintro _ _ ⟨rfl, _, rfl, hY4⟩
    refine rx_lstore dX11_calls_36 (by decide) ?_
    refine rx_aload_n dX11_calls_38 rfl rfl ?_
    refine g_getR hG hf_RX11_132 rfl dX11_calls_39 rfl rfl rfl ?_
    refine rx_iload_n dX11_calls_42 rfl ?_
    refine gmv_zald (j := fs.length) (v := nI 1) hG dX11_calls_43 rfl rfl rfl rfl (by omega) (by decide) (rY_look hY4) ?_
    refine rx_if_eq (tgt := 61) dX11_calls_44 (by decide) (fun h44 => (absurd h44 (by decide))) (fun h44 => ?_)
    refine rx_lload dX11_calls_47 rfl ?_
    refine rx_lconst (v := lN 0) dX11_calls_49 rfl ?_
    refine rx_lc_eq (tgt := 61) dX11_calls_50 dX11_calls_51 (by decide) (fun h50 => absurd h50 hv) (fun h50 => ?_)
    refine rx_aload_n dX11_calls_54 rfl rfl ?_
    refine rx_iconst (v := nI 3) dX11_calls_55 rfl ?_
    refine rx_lconst (v := lN 0) dX11_calls_56 rfl ?_
    refine gv_invV (as := [.int _, .long _]) hG okX11_finish lk_RX11_231 rfl rfl dX11_calls_57 rfl (by simp [Value.category]) (cr_fin3 hG hY4 (by omega) hlow hw _) ?_
    rintro _ _ ⟨rfl, _, rfl, hF⟩
    exact rx_vret rfl dX11_calls_60 ⟨rfl, _, rfl, rm_onE (if_pos ⟨rfl, hv⟩) hF⟩
  have hE : ∀ X z, vm_call X false to vl ar ask ((c, a, q, s, k), (v, r), (l, o), z, w) fs t = vm_begin (X.1, X.2.1, X.2.2.1, ((c, a, q - vm_gas ask q, s, k), (v, r), (l, o), t, w) :: fs, X.2.2.2.2) s to vl ar (vm_gas ask q) (false || l) := fun X z => if_neg hl
  rw [hE]
  cases l
  · refine rx_aload_n dX11_calls_0 rfl rfl ?_
    refine gmv_getI (v := nI (fs.length + 1)) hG hf_RX11_203 rfl dX11_calls_1 rfl rfl rfl (rY_dep hY) ?_
    refine rx_iconst (v := nI 1) dX11_calls_4 rfl ?_
    refine rx_isub dX11_calls_5 ?_
    refine rx_ti (y := nI fs.length) ((pk_sub (by omega)).trans (congrArg nI (by omega))) ?_
    refine rx_istore_n dX11_calls_6 (by decide) ?_
    refine rx_aload_n dX11_calls_7 rfl rfl ?_
    refine gv_invV (as := []) hG okX11_pop lk_RX11_262 rfl rfl dX11_calls_8 rfl (by simp [Value.category]) (cr_pop hG hY (by omega)) ?_
    rintro _ _ ⟨rfl, _, rfl, hY1⟩
    refine rx_lstore_n dX11_calls_11 (by decide) ?_
    refine rx_iload_n dX11_calls_12 rfl ?_
    refine rx_if_eq (tgt := 20) dX11_calls_13 (by decide) (fun h13 => ?_) (fun h13 => (absurd h13 (by decide))) 
    refine rx_aload_n dX11_calls_20 rfl rfl ?_
    refine gv_invV (as := []) hG okX11_pop lk_RX11_262 rfl rfl dX11_calls_21 rfl (by simp [Value.category]) (cr_pop hG hY1 (by omega)) ?_
    rintro _ _ ⟨rfl, _, rfl, hY2⟩
    refine rx_lstore dX11_calls_24 (by decide) ?_
    refine rx_aload_n dX11_calls_26 rfl rfl ?_
    refine gv_invV (as := []) hG okX11_pop lk_RX11_262 rfl rfl dX11_calls_27 rfl (by simp [Value.category]) (cr_pop hG hY2 (by omega)) ?_
    rintro _ _ ⟨rfl, _, rfl, hY3⟩
    refine rx_lstore dX11_calls_30 (by decide) ?_
    refine rx_aload_n dX11_calls_32 rfl rfl ?_
    refine gv_invV (as := []) hG okX11_pop lk_RX11_262 rfl rfl dX11_calls_33 rfl (by simp [Value.category]) (cr_pop hG hY3 (by omega)) ?_
    rintro _ _ ⟨rfl, _, rfl, hY4⟩
    refine rx_lstore dX11_calls_36 (by decide) ?_
    refine rx_aload_n dX11_calls_38 rfl rfl ?_
    refine g_getR hG hf_RX11_132 rfl dX11_calls_39 rfl rfl rfl ?_
    refine rx_iload_n dX11_calls_42 rfl ?_
    refine gmv_zald (j := fs.length) (v := nI 0) hG dX11_calls_43 rfl rfl rfl rfl (by omega) (by decide) (rY_look hY4) ?_
    refine rx_if_eq (tgt := 61) dX11_calls_44 (by decide) (fun h44 => ?_) (fun h44 => (absurd h44 (by decide))) 
    refine rx_lload dX11_calls_61 rfl ?_
    refine rx_lconst (v := lN 0) dX11_calls_63 rfl ?_
    refine rx_lc_ge (tgt := 72) dX11_calls_64 dX11_calls_65 (by decide) (fun h64 => ?_) (fun h64 => ?_)
    · refine rx_lload dX11_calls_72 rfl ?_
      refine rx_aload_n dX11_calls_74 rfl rfl ?_
      refine g_getR hG hf_RX11_117 rfl dX11_calls_75 rfl rfl rfl ?_
      refine rx_iload_n dX11_calls_78 rfl ?_
      refine gmv_lald (j := fs.length) (v := lN q) hG dX11_calls_79 rfl rfl rfl rfl (by omega) (by decide) (rY_gas hY4) ?_
      refine rx_lc_ge (tgt := 89) dX11_calls_80 dX11_calls_81 (by decide) (fun h80 => ?_) (fun h80 => ?_)
      · refine rx_aload_n dX11_calls_89 rfl rfl ?_
        refine g_getR hG hf_RX11_117 rfl dX11_calls_90 rfl rfl rfl ?_
        refine rx_iload_n dX11_calls_93 rfl ?_
        refine gmv_lald (j := fs.length) (v := lN q) hG dX11_calls_94 rfl rfl rfl rfl (by omega) (by decide) (rY_gas hY4) ?_
        refine rx_tl (y := lN (vm_gas ask q)) (by rw [vm_gas2 (Int64.not_lt.mpr h64) (Int64.not_lt.mpr h80)]) ?_
        refine rx_lv (lv' := [(9, .long ask), (7, .long ar), (5, .long vl), (3, .long to), (2, .int (nI fs.length)), (1, .int (nI 0)), (0, .ref 52)]) ⟨rfl, rfl, rfl, rfl, rfl, rfl, rfl, trivial⟩ ?_
        exact lm_calls0 hG (by omega) (by omega) hs1 hs hcd hg hgl hq hY4 (fun _ _ h => h)
      · refine rx_lload dX11_calls_84 rfl ?_
        refine rx_goto (tgt := 95) dX11_calls_86 (by decide) ?_
        refine rx_tl (y := lN (vm_gas ask q)) (vm_gasN hq (Int64.not_lt.mpr h64) (Int64.not_le.mp h80)) ?_
        refine rx_lv (lv' := [(9, .long ask), (7, .long ar), (5, .long vl), (3, .long to), (2, .int (nI fs.length)), (1, .int (nI 0)), (0, .ref 52)]) ⟨rfl, rfl, rfl, rfl, rfl, rfl, rfl, trivial⟩ ?_
        exact lm_calls0 hG (by omega) (by omega) hs1 hs hcd hg hgl hq hY4 (fun _ _ h => h)
    · refine rx_lconst (v := lN 0) dX11_calls_68 rfl ?_
      refine rx_goto (tgt := 95) dX11_calls_69 (by decide) ?_
      refine rx_tl (y := lN (vm_gas ask q)) (by rw [vm_gas0 (Int64.not_le.mp h64)]) ?_
      refine rx_lv (lv' := [(9, .long ask), (7, .long ar), (5, .long vl), (3, .long to), (2, .int (nI fs.length)), (1, .int (nI 0)), (0, .ref 52)]) ⟨rfl, rfl, rfl, rfl, rfl, rfl, rfl, trivial⟩ ?_
      exact lm_calls0 hG (by omega) (by omega) hs1 hs hcd hg hgl hq hY4 (fun _ _ h => h)
  · refine rx_aload_n dX11_calls_0 rfl rfl ?_
    refine gmv_getI (v := nI (fs.length + 1)) hG hf_RX11_203 rfl dX11_calls_1 rfl rfl rfl (rY_dep hY) ?_
    refine rx_iconst (v := nI 1) dX11_calls_4 rfl ?_
    refine rx_isub dX11_calls_5 ?_
    refine rx_ti (y := nI fs.length) ((pk_sub (by omega)).trans (congrArg nI (by omega))) ?_
    refine rx_istore_n dX11_calls_6 (by decide) ?_
    refine rx_aload_n dX11_calls_7 rfl rfl ?_
    refine gv_invV (as := []) hG okX11_pop lk_RX11_262 rfl rfl dX11_calls_8 rfl (by simp [Value.category]) (cr_pop hG hY (by omega)) ?_
    rintro _ _ ⟨rfl, _, rfl, hY1⟩
    refine rx_lstore_n dX11_calls_11 (by decide) ?_
    refine rx_iload_n dX11_calls_12 rfl ?_
    refine rx_if_eq (tgt := 20) dX11_calls_13 (by decide) (fun h13 => ?_) (fun h13 => (absurd h13 (by decide))) 
    refine rx_aload_n dX11_calls_20 rfl rfl ?_
    refine gv_invV (as := []) hG okX11_pop lk_RX11_262 rfl rfl dX11_calls_21 rfl (by simp [Value.category]) (cr_pop hG hY1 (by omega)) ?_
    rintro _ _ ⟨rfl, _, rfl, hY2⟩
    refine rx_lstore dX11_calls_24 (by decide) ?_
    refine rx_aload_n dX11_calls_26 rfl rfl ?_
    refine gv_invV (as := []) hG okX11_pop lk_RX11_262 rfl rfl dX11_calls_27 rfl (by simp [Value.category]) (cr_pop hG hY2 (by omega)) ?_
    rintro _ _ ⟨rfl, _, rfl, hY3⟩
    refine rx_lstore dX11_calls_30 (by decide) ?_
    refine rx_aload_n dX11_calls_32 rfl rfl ?_
    refine gv_invV (as := []) hG okX11_pop lk_RX11_262 rfl rfl dX11_calls_33 rfl (by simp [Value.category]) (cr_pop hG hY3 (by omega)) ?_
    rintro _ _ ⟨rfl, _, rfl, hY4⟩
    refine rx_lstore dX11_calls_36 (by decide) ?_
    refine rx_aload_n dX11_calls_38 rfl rfl ?_
    refine g_getR hG hf_RX11_132 rfl dX11_calls_39 rfl rfl rfl ?_
    refine rx_iload_n dX11_calls_42 rfl ?_
    refine gmv_zald (j := fs.length) (v := nI 1) hG dX11_calls_43 rfl rfl rfl rfl (by omega) (by decide) (rY_look hY4) ?_
    refine rx_if_eq (tgt := 61) dX11_calls_44 (by decide) (fun h44 => (absurd h44 (by decide))) (fun h44 => ?_)
    refine rx_lload dX11_calls_47 rfl ?_
    refine rx_lconst (v := lN 0) dX11_calls_49 rfl ?_
    refine rx_lc_eq (tgt := 61) dX11_calls_50 dX11_calls_51 (by decide) (fun h50 => ?_) (fun h50 => absurd ⟨rfl, h50⟩ hl) 
    refine rx_lload dX11_calls_61 rfl ?_
    refine rx_lconst (v := lN 0) dX11_calls_63 rfl ?_
    refine rx_lc_ge (tgt := 72) dX11_calls_64 dX11_calls_65 (by decide) (fun h64 => ?_) (fun h64 => ?_)
    · refine rx_lload dX11_calls_72 rfl ?_
      refine rx_aload_n dX11_calls_74 rfl rfl ?_
      refine g_getR hG hf_RX11_117 rfl dX11_calls_75 rfl rfl rfl ?_
      refine rx_iload_n dX11_calls_78 rfl ?_
      refine gmv_lald (j := fs.length) (v := lN q) hG dX11_calls_79 rfl rfl rfl rfl (by omega) (by decide) (rY_gas hY4) ?_
      refine rx_lc_ge (tgt := 89) dX11_calls_80 dX11_calls_81 (by decide) (fun h80 => ?_) (fun h80 => ?_)
      · refine rx_aload_n dX11_calls_89 rfl rfl ?_
        refine g_getR hG hf_RX11_117 rfl dX11_calls_90 rfl rfl rfl ?_
        refine rx_iload_n dX11_calls_93 rfl ?_
        refine gmv_lald (j := fs.length) (v := lN q) hG dX11_calls_94 rfl rfl rfl rfl (by omega) (by decide) (rY_gas hY4) ?_
        refine rx_tl (y := lN (vm_gas ask q)) (by rw [vm_gas2 (Int64.not_lt.mpr h64) (Int64.not_lt.mpr h80)]) ?_
        refine rx_lv (lv' := [(9, .long ask), (7, .long ar), (5, .long vl), (3, .long to), (2, .int (nI fs.length)), (1, .int (nI 0)), (0, .ref 52)]) ⟨rfl, rfl, rfl, rfl, rfl, rfl, rfl, trivial⟩ ?_
        exact lm_calls0 hG (by omega) (by omega) hs1 hs hcd hg hgl hq hY4 (fun _ _ h => h)
      · refine rx_lload dX11_calls_84 rfl ?_
        refine rx_goto (tgt := 95) dX11_calls_86 (by decide) ?_
        refine rx_tl (y := lN (vm_gas ask q)) (vm_gasN hq (Int64.not_lt.mpr h64) (Int64.not_le.mp h80)) ?_
        refine rx_lv (lv' := [(9, .long ask), (7, .long ar), (5, .long vl), (3, .long to), (2, .int (nI fs.length)), (1, .int (nI 0)), (0, .ref 52)]) ⟨rfl, rfl, rfl, rfl, rfl, rfl, rfl, trivial⟩ ?_
        exact lm_calls0 hG (by omega) (by omega) hs1 hs hcd hg hgl hq hY4 (fun _ _ h => h)
    · refine rx_lconst (v := lN 0) dX11_calls_68 rfl ?_
      refine rx_goto (tgt := 95) dX11_calls_69 (by decide) ?_
      refine rx_tl (y := lN (vm_gas ask q)) (by rw [vm_gas0 (Int64.not_le.mp h64)]) ?_
      refine rx_lv (lv' := [(9, .long ask), (7, .long ar), (5, .long vl), (3, .long to), (2, .int (nI fs.length)), (1, .int (nI 0)), (0, .ref 52)]) ⟨rfl, rfl, rfl, rfl, rfl, rfl, rfl, trivial⟩ ?_
      exact lm_calls0 hG (by omega) (by omega) hs1 hs hcd hg hgl hq hY4 (fun _ _ h => h)
set_option maxHeartbeats 1000000 in
theorem cr_calls1 {G : rx_E} {d : Nat} {C : rx_M} {S0 S : gs_T} {g : vg_T} {n : Nat → Int64} {e : List (Nat × Int64 × Int64)} {b m c a q s k : Nat} {v r : Int64} {l o : Bool} {t : List Int64} {w : (Nat → Int64) × Nat × Nat} {fs : List vf_T} (hG : rx_OK G) {to ar ask : Int64} (hp : fs.length < 10) (hs1 : s < 32) (hs : ∀ f ∈ fs, fS f < 32) (hcd : vw_codes g n) (hg : g.2.1 ≤ 16) (hq : q ≤ 30000) (hw : w.2.1 ≤ e.length) (hlow : vw_low fs) (hY : rm_Y S0 S g (n, e, b, ((c, a, q, s, k), (v, r), (l, o), (to :: (ar :: (ask :: t))), w) :: fs, m) 0) : rx_C G MX11_calls (d + 2) [.ref 52, .int (nI 1)] (gl C S) 0 0 (rq_on C S0 g (vm_call (n, e, b, ((c, a, q, s, k), (v, r), (l, o), (to :: (ar :: (ask :: t))), w) :: fs, m) true to 0 ar ask ((c, a, q, s, k), (v, r), (l, o), (to :: (ar :: (ask :: t))), w) fs t)) := by
  refine rx_meth0 (by decide +kernel) rfl (Nat.le_of_ble_eq_true rfl) ?_
  have hgl : vm_gas ask q ≤ q := vm_gasle hq
  have ht : t.length + 3 ≤ 24 := rY_n hY
  have hE : ∀ X z, vm_call X true to 0 ar ask ((c, a, q, s, k), (v, r), (l, o), z, w) fs t = vm_begin (X.1, X.2.1, X.2.2.1, ((c, a, q - vm_gas ask q, s, k), (v, r), (l, o), t, w) :: fs, X.2.2.2.2) s to 0 ar (vm_gas ask q) (true || l) := fun X z => if_neg (fun h => h.2 rfl)
  rw [hE]
  cases l
  · refine rx_aload_n dX11_calls_0 rfl rfl ?_
    refine gmv_getI (v := nI (fs.length + 1)) hG hf_RX11_203 rfl dX11_calls_1 rfl rfl rfl (rY_dep hY) ?_
    refine rx_iconst (v := nI 1) dX11_calls_4 rfl ?_
    refine rx_isub dX11_calls_5 ?_
    refine rx_ti (y := nI fs.length) ((pk_sub (by omega)).trans (congrArg nI (by omega))) ?_
    refine rx_istore_n dX11_calls_6 (by decide) ?_
    refine rx_aload_n dX11_calls_7 rfl rfl ?_
    refine gv_invV (as := []) hG okX11_pop lk_RX11_262 rfl rfl dX11_calls_8 rfl (by simp [Value.category]) (cr_pop hG hY (by omega)) ?_
    rintro _ _ ⟨rfl, _, rfl, hY1⟩
    refine rx_lstore_n dX11_calls_11 (by decide) ?_
    refine rx_iload_n dX11_calls_12 rfl ?_
    refine rx_if_eq (tgt := 20) dX11_calls_13 (by decide) (fun h13 => (absurd h13 (by decide))) (fun h13 => ?_)
    refine rx_lconst (v := lN 0) dX11_calls_16 rfl ?_
    refine rx_goto (tgt := 24) dX11_calls_17 (by decide) ?_
    refine rx_lstore dX11_calls_24 (by decide) ?_
    refine rx_aload_n dX11_calls_26 rfl rfl ?_
    refine gv_invV (as := []) hG okX11_pop lk_RX11_262 rfl rfl dX11_calls_27 rfl (by simp [Value.category]) (cr_pop hG hY1 (by omega)) ?_
    rintro _ _ ⟨rfl, _, rfl, hY2⟩
    refine rx_lstore dX11_calls_30 (by decide) ?_
    refine rx_aload_n dX11_calls_32 rfl rfl ?_
    refine gv_invV (as := []) hG okX11_pop lk_RX11_262 rfl rfl dX11_calls_33 rfl (by simp [Value.category]) (cr_pop hG hY2 (by omega)) ?_
    rintro _ _ ⟨rfl, _, rfl, hY3⟩
    refine rx_lstore dX11_calls_36 (by decide) ?_
    refine rx_aload_n dX11_calls_38 rfl rfl ?_
    refine g_getR hG hf_RX11_132 rfl dX11_calls_39 rfl rfl rfl ?_
    refine rx_iload_n dX11_calls_42 rfl ?_
    refine gmv_zald (j := fs.length) (v := nI 0) hG dX11_calls_43 rfl rfl rfl rfl (by omega) (by decide) (rY_look hY3) ?_
    refine rx_if_eq (tgt := 61) dX11_calls_44 (by decide) (fun h44 => ?_) (fun h44 => (absurd h44 (by decide))) 
    refine rx_lload dX11_calls_61 rfl ?_
    refine rx_lconst (v := lN 0) dX11_calls_63 rfl ?_
    refine rx_lc_ge (tgt := 72) dX11_calls_64 dX11_calls_65 (by decide) (fun h64 => ?_) (fun h64 => ?_)
    · refine rx_lload dX11_calls_72 rfl ?_
      refine rx_aload_n dX11_calls_74 rfl rfl ?_
      refine g_getR hG hf_RX11_117 rfl dX11_calls_75 rfl rfl rfl ?_
      refine rx_iload_n dX11_calls_78 rfl ?_
      refine gmv_lald (j := fs.length) (v := lN q) hG dX11_calls_79 rfl rfl rfl rfl (by omega) (by decide) (rY_gas hY3) ?_
      refine rx_lc_ge (tgt := 89) dX11_calls_80 dX11_calls_81 (by decide) (fun h80 => ?_) (fun h80 => ?_)
      · refine rx_aload_n dX11_calls_89 rfl rfl ?_
        refine g_getR hG hf_RX11_117 rfl dX11_calls_90 rfl rfl rfl ?_
        refine rx_iload_n dX11_calls_93 rfl ?_
        refine gmv_lald (j := fs.length) (v := lN q) hG dX11_calls_94 rfl rfl rfl rfl (by omega) (by decide) (rY_gas hY3) ?_
        refine rx_tl (y := lN (vm_gas ask q)) (by rw [vm_gas2 (Int64.not_lt.mpr h64) (Int64.not_lt.mpr h80)]) ?_
        refine rx_lv (lv' := [(9, .long ask), (7, .long ar), (5, .long 0), (3, .long to), (2, .int (nI fs.length)), (1, .int (nI 1)), (0, .ref 52)]) ⟨rfl, rfl, rfl, rfl, rfl, rfl, rfl, trivial⟩ ?_
        exact lm_calls1 hG (by omega) (by omega) hs1 hs hcd hg hgl hq hY3 (fun _ _ h => h)
      · refine rx_lload dX11_calls_84 rfl ?_
        refine rx_goto (tgt := 95) dX11_calls_86 (by decide) ?_
        refine rx_tl (y := lN (vm_gas ask q)) (vm_gasN hq (Int64.not_lt.mpr h64) (Int64.not_le.mp h80)) ?_
        refine rx_lv (lv' := [(9, .long ask), (7, .long ar), (5, .long 0), (3, .long to), (2, .int (nI fs.length)), (1, .int (nI 1)), (0, .ref 52)]) ⟨rfl, rfl, rfl, rfl, rfl, rfl, rfl, trivial⟩ ?_
        exact lm_calls1 hG (by omega) (by omega) hs1 hs hcd hg hgl hq hY3 (fun _ _ h => h)
    · refine rx_lconst (v := lN 0) dX11_calls_68 rfl ?_
      refine rx_goto (tgt := 95) dX11_calls_69 (by decide) ?_
      refine rx_tl (y := lN (vm_gas ask q)) (by rw [vm_gas0 (Int64.not_le.mp h64)]) ?_
      refine rx_lv (lv' := [(9, .long ask), (7, .long ar), (5, .long 0), (3, .long to), (2, .int (nI fs.length)), (1, .int (nI 1)), (0, .ref 52)]) ⟨rfl, rfl, rfl, rfl, rfl, rfl, rfl, trivial⟩ ?_
      exact lm_calls1 hG (by omega) (by omega) hs1 hs hcd hg hgl hq hY3 (fun _ _ h => h)
  · refine rx_aload_n dX11_calls_0 rfl rfl ?_
    refine gmv_getI (v := nI (fs.length + 1)) hG hf_RX11_203 rfl dX11_calls_1 rfl rfl rfl (rY_dep hY) ?_
    refine rx_iconst (v := nI 1) dX11_calls_4 rfl ?_
    refine rx_isub dX11_calls_5 ?_
    refine rx_ti (y := nI fs.length) ((pk_sub (by omega)).trans (congrArg nI (by omega))) ?_
    refine rx_istore_n dX11_calls_6 (by decide) ?_
    refine rx_aload_n dX11_calls_7 rfl rfl ?_
    refine gv_invV (as := []) hG okX11_pop lk_RX11_262 rfl rfl dX11_calls_8 rfl (by simp [Value.category]) (cr_pop hG hY (by omega)) ?_
    rintro _ _ ⟨rfl, _, rfl, hY1⟩
    refine rx_lstore_n dX11_calls_11 (by decide) ?_
    refine rx_iload_n dX11_calls_12 rfl ?_
    refine rx_if_eq (tgt := 20) dX11_calls_13 (by decide) (fun h13 => (absurd h13 (by decide))) (fun h13 => ?_)
    refine rx_lconst (v := lN 0) dX11_calls_16 rfl ?_
    refine rx_goto (tgt := 24) dX11_calls_17 (by decide) ?_
    refine rx_lstore dX11_calls_24 (by decide) ?_
    refine rx_aload_n dX11_calls_26 rfl rfl ?_
    refine gv_invV (as := []) hG okX11_pop lk_RX11_262 rfl rfl dX11_calls_27 rfl (by simp [Value.category]) (cr_pop hG hY1 (by omega)) ?_
    rintro _ _ ⟨rfl, _, rfl, hY2⟩
    refine rx_lstore dX11_calls_30 (by decide) ?_
    refine rx_aload_n dX11_calls_32 rfl rfl ?_
    refine gv_invV (as := []) hG okX11_pop lk_RX11_262 rfl rfl dX11_calls_33 rfl (by simp [Value.category]) (cr_pop hG hY2 (by omega)) ?_
    rintro _ _ ⟨rfl, _, rfl, hY3⟩
    refine rx_lstore dX11_calls_36 (by decide) ?_
    refine rx_aload_n dX11_calls_38 rfl rfl ?_
    refine g_getR hG hf_RX11_132 rfl dX11_calls_39 rfl rfl rfl ?_
    refine rx_iload_n dX11_calls_42 rfl ?_
    refine gmv_zald (j := fs.length) (v := nI 1) hG dX11_calls_43 rfl rfl rfl rfl (by omega) (by decide) (rY_look hY3) ?_
    refine rx_if_eq (tgt := 61) dX11_calls_44 (by decide) (fun h44 => (absurd h44 (by decide))) (fun h44 => ?_)
    refine rx_lload dX11_calls_47 rfl ?_
    refine rx_lconst (v := lN 0) dX11_calls_49 rfl ?_
    refine rx_lc_eq (tgt := 61) dX11_calls_50 dX11_calls_51 (by decide) (fun h50 => ?_) (fun h50 => (absurd h50 (by decide))) 
    refine rx_lload dX11_calls_61 rfl ?_
    refine rx_lconst (v := lN 0) dX11_calls_63 rfl ?_
    refine rx_lc_ge (tgt := 72) dX11_calls_64 dX11_calls_65 (by decide) (fun h64 => ?_) (fun h64 => ?_)
    · refine rx_lload dX11_calls_72 rfl ?_
      refine rx_aload_n dX11_calls_74 rfl rfl ?_
      refine g_getR hG hf_RX11_117 rfl dX11_calls_75 rfl rfl rfl ?_
      refine rx_iload_n dX11_calls_78 rfl ?_
      refine gmv_lald (j := fs.length) (v := lN q) hG dX11_calls_79 rfl rfl rfl rfl (by omega) (by decide) (rY_gas hY3) ?_
      refine rx_lc_ge (tgt := 89) dX11_calls_80 dX11_calls_81 (by decide) (fun h80 => ?_) (fun h80 => ?_)
      · refine rx_aload_n dX11_calls_89 rfl rfl ?_
        refine g_getR hG hf_RX11_117 rfl dX11_calls_90 rfl rfl rfl ?_
        refine rx_iload_n dX11_calls_93 rfl ?_
        refine gmv_lald (j := fs.length) (v := lN q) hG dX11_calls_94 rfl rfl rfl rfl (by omega) (by decide) (rY_gas hY3) ?_
        refine rx_tl (y := lN (vm_gas ask q)) (by rw [vm_gas2 (Int64.not_lt.mpr h64) (Int64.not_lt.mpr h80)]) ?_
        refine rx_lv (lv' := [(9, .long ask), (7, .long ar), (5, .long 0), (3, .long to), (2, .int (nI fs.length)), (1, .int (nI 1)), (0, .ref 52)]) ⟨rfl, rfl, rfl, rfl, rfl, rfl, rfl, trivial⟩ ?_
        exact lm_calls1 hG (by omega) (by omega) hs1 hs hcd hg hgl hq hY3 (fun _ _ h => h)
      · refine rx_lload dX11_calls_84 rfl ?_
        refine rx_goto (tgt := 95) dX11_calls_86 (by decide) ?_
        refine rx_tl (y := lN (vm_gas ask q)) (vm_gasN hq (Int64.not_lt.mpr h64) (Int64.not_le.mp h80)) ?_
        refine rx_lv (lv' := [(9, .long ask), (7, .long ar), (5, .long 0), (3, .long to), (2, .int (nI fs.length)), (1, .int (nI 1)), (0, .ref 52)]) ⟨rfl, rfl, rfl, rfl, rfl, rfl, rfl, trivial⟩ ?_
        exact lm_calls1 hG (by omega) (by omega) hs1 hs hcd hg hgl hq hY3 (fun _ _ h => h)
    · refine rx_lconst (v := lN 0) dX11_calls_68 rfl ?_
      refine rx_goto (tgt := 95) dX11_calls_69 (by decide) ?_
      refine rx_tl (y := lN (vm_gas ask q)) (by rw [vm_gas0 (Int64.not_le.mp h64)]) ?_
      refine rx_lv (lv' := [(9, .long ask), (7, .long ar), (5, .long 0), (3, .long to), (2, .int (nI fs.length)), (1, .int (nI 1)), (0, .ref 52)]) ⟨rfl, rfl, rfl, rfl, rfl, rfl, rfl, trivial⟩ ?_
      exact lm_calls1 hG (by omega) (by omega) hs1 hs hcd hg hgl hq hY3 (fun _ _ h => h)

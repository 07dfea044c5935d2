theorem dX7_run_0 : decode cX7_run 0 = .ok (.aload_n 0, 1) := by decide +kernel
theorem dX7_run_1 : decode cX7_run 1 = .ok (.iload_n 1, 1) := by decide +kernel
theorem dX7_run_2 : decode cX7_run 2 = .ok (.putfield 57, 3) := by decide +kernel
theorem dX7_run_5 : decode cX7_run 5 = .ok (.aload_n 0, 1) := by decide +kernel
theorem dX7_run_6 : decode cX7_run 6 = .ok (.iconst 0, 1) := by decide +kernel
theorem dX7_run_7 : decode cX7_run 7 = .ok (.putfield 60, 3) := by decide +kernel
theorem dX7_run_10 : decode cX7_run 10 = .ok (.aload_n 0, 1) := by decide +kernel
theorem dX7_run_11 : decode cX7_run 11 = .ok (.iconst 0, 1) := by decide +kernel
theorem dX7_run_12 : decode cX7_run 12 = .ok (.putfield 63, 3) := by decide +kernel
theorem dX7_run_15 : decode cX7_run 15 = .ok (.aload_n 0, 1) := by decide +kernel
theorem dX7_run_16 : decode cX7_run 16 = .ok (.iconst 0, 1) := by decide +kernel
theorem dX7_run_17 : decode cX7_run 17 = .ok (.putfield 66, 3) := by decide +kernel
theorem dX7_run_20 : decode cX7_run 20 = .ok (.aload_n 0, 1) := by decide +kernel
theorem dX7_run_21 : decode cX7_run 21 = .ok (.getfield 35, 3) := by decide +kernel
theorem dX7_run_24 : decode cX7_run 24 = .ok (.iload_n 1, 1) := by decide +kernel
theorem dX7_run_25 : decode cX7_run 25 = .ok (.iload_n 2, 1) := by decide +kernel
theorem dX7_run_26 : decode cX7_run 26 = .ok (.i2l, 1) := by decide +kernel
theorem dX7_run_27 : decode cX7_run 27 = .ok (.lload_n 3, 1) := by decide +kernel
theorem dX7_run_28 : decode cX7_run 28 = .ok (.lload 5, 2) := by decide +kernel
theorem dX7_run_30 : decode cX7_run 30 = .ok (.iload 7, 2) := by decide +kernel
theorem dX7_run_32 : decode cX7_run 32 = .ok (.iload 8, 2) := by decide +kernel
theorem dX7_run_34 : decode cX7_run 34 = .ok (.invokevirtual 69, 3) := by decide +kernel
theorem dX7_run_37 : decode cX7_run 37 = .ok (.aload_n 0, 1) := by decide +kernel
theorem dX7_run_38 : decode cX7_run 38 = .ok (.invokevirtual 73, 3) := by decide +kernel
theorem dX7_run_41 : decode cX7_run 41 = .ok (.iconst 0, 1) := by decide +kernel
theorem dX7_run_42 : decode cX7_run 42 = .ok (.istore 9, 2) := by decide +kernel
theorem dX7_run_44 : decode cX7_run 44 = .ok (.aload_n 0, 1) := by decide +kernel
theorem dX7_run_45 : decode cX7_run 45 = .ok (.getfield 60, 3) := by decide +kernel
theorem dX7_run_48 : decode cX7_run 48 = .ok (.ifCond .le 128, 3) := by decide +kernel
theorem dX7_run_51 : decode cX7_run 51 = .ok (.iload 9, 2) := by decide +kernel
theorem dX7_run_53 : decode cX7_run 53 = .ok (.ldc 76, 2) := by decide +kernel
theorem dX7_run_55 : decode cX7_run 55 = .ok (.if_icmp .ge 121, 3) := by decide +kernel
theorem dX7_run_58 : decode cX7_run 58 = .ok (.aload_n 0, 1) := by decide +kernel
theorem dX7_run_59 : decode cX7_run 59 = .ok (.getfield 41, 3) := by decide +kernel
theorem dX7_run_62 : decode cX7_run 62 = .ok (.aload_n 0, 1) := by decide +kernel
theorem dX7_run_63 : decode cX7_run 63 = .ok (.getfield 60, 3) := by decide +kernel
theorem dX7_run_66 : decode cX7_run 66 = .ok (.iconst 1, 1) := by decide +kernel
theorem dX7_run_67 : decode cX7_run 67 = .ok (.isub, 1) := by decide +kernel
theorem dX7_run_68 : decode cX7_run 68 = .ok (.aaload, 1) := by decide +kernel
theorem dX7_run_69 : decode cX7_run 69 = .ok (.astore 10, 2) := by decide +kernel
theorem dX7_run_71 : decode cX7_run 71 = .ok (.aload 10, 2) := by decide +kernel
theorem dX7_run_73 : decode cX7_run 73 = .ok (.invokevirtual 77, 3) := by decide +kernel
theorem dX7_run_76 : decode cX7_run 76 = .ok (.istore 11, 2) := by decide +kernel
theorem dX7_run_78 : decode cX7_run 78 = .ok (.aload 10, 2) := by decide +kernel
theorem dX7_run_80 : decode cX7_run 80 = .ok (.getstatic 81, 3) := by decide +kernel
theorem dX7_run_83 : decode cX7_run 83 = .ok (.iload 11, 2) := by decide +kernel
theorem dX7_run_85 : decode cX7_run 85 = .ok (.iaload, 1) := by decide +kernel
theorem dX7_run_86 : decode cX7_run 86 = .ok (.invokevirtual 85, 3) := by decide +kernel
theorem dX7_run_89 : decode cX7_run 89 = .ok (.ifCond .eq 33, 3) := by decide +kernel
theorem dX7_run_92 : decode cX7_run 92 = .ok (.aload 10, 2) := by decide +kernel
theorem dX7_run_94 : decode cX7_run 94 = .ok (.iload 11, 2) := by decide +kernel
theorem dX7_run_96 : decode cX7_run 96 = .ok (.invokevirtual 89, 3) := by decide +kernel
theorem dX7_run_99 : decode cX7_run 99 = .ok (.ifCond .eq 23, 3) := by decide +kernel
theorem dX7_run_102 : decode cX7_run 102 = .ok (.aload 10, 2) := by decide +kernel
theorem dX7_run_104 : decode cX7_run 104 = .ok (.getfield 92, 3) := by decide +kernel
theorem dX7_run_107 : decode cX7_run 107 = .ok (.ifCond .eq 11, 3) := by decide +kernel
theorem dX7_run_110 : decode cX7_run 110 = .ok (.iload 11, 2) := by decide +kernel
theorem dX7_run_112 : decode cX7_run 112 = .ok (.invokestatic 96, 3) := by decide +kernel
theorem dX7_run_115 : decode cX7_run 115 = .ok (.ifCond .ne 7, 3) := by decide +kernel
theorem dX7_run_118 : decode cX7_run 118 = .ok (.iconst 1, 1) := by decide +kernel
theorem dX7_run_119 : decode cX7_run 119 = .ok (.goto 4, 3) := by decide +kernel
theorem dX7_run_122 : decode cX7_run 122 = .ok (.iconst 0, 1) := by decide +kernel
theorem dX7_run_123 : decode cX7_run 123 = .ok (.istore 12, 2) := by decide +kernel
theorem dX7_run_125 : decode cX7_run 125 = .ok (.iload 12, 2) := by decide +kernel
theorem dX7_run_127 : decode cX7_run 127 = .ok (.ifCond .eq 14, 3) := by decide +kernel
theorem dX7_run_130 : decode cX7_run 130 = .ok (.aload_n 0, 1) := by decide +kernel
theorem dX7_run_131 : decode cX7_run 131 = .ok (.aload 10, 2) := by decide +kernel
theorem dX7_run_133 : decode cX7_run 133 = .ok (.iload 11, 2) := by decide +kernel
theorem dX7_run_135 : decode cX7_run 135 = .ok (.invokevirtual 99, 3) := by decide +kernel
theorem dX7_run_138 : decode cX7_run 138 = .ok (.goto 4, 3) := by decide +kernel
theorem dX7_run_141 : decode cX7_run 141 = .ok (.iconst 3, 1) := by decide +kernel
theorem dX7_run_142 : decode cX7_run 142 = .ok (.istore 13, 2) := by decide +kernel
theorem dX7_run_144 : decode cX7_run 144 = .ok (.iload 13, 2) := by decide +kernel
theorem dX7_run_146 : decode cX7_run 146 = .ok (.iconst 4, 1) := by decide +kernel
theorem dX7_run_147 : decode cX7_run 147 = .ok (.if_icmp .ne 10, 3) := by decide +kernel
theorem dX7_run_150 : decode cX7_run 150 = .ok (.aload_n 0, 1) := by decide +kernel
theorem dX7_run_151 : decode cX7_run 151 = .ok (.invokevirtual 73, 3) := by decide +kernel
theorem dX7_run_154 : decode cX7_run 154 = .ok (.goto 16, 3) := by decide +kernel
theorem dX7_run_157 : decode cX7_run 157 = .ok (.iload 13, 2) := by decide +kernel
theorem dX7_run_159 : decode cX7_run 159 = .ok (.ifCond .eq 11, 3) := by decide +kernel
theorem dX7_run_162 : decode cX7_run 162 = .ok (.aload_n 0, 1) := by decide +kernel
theorem dX7_run_163 : decode cX7_run 163 = .ok (.aload 10, 2) := by decide +kernel
theorem dX7_run_165 : decode cX7_run 165 = .ok (.iload 13, 2) := by decide +kernel
theorem dX7_run_167 : decode cX7_run 167 = .ok (.invokevirtual 103, 3) := by decide +kernel
theorem dX7_run_170 : decode cX7_run 170 = .ok (.iinc 9 1, 3) := by decide +kernel
theorem dX7_run_173 : decode cX7_run 173 = .ok (.goto (-129), 3) := by decide +kernel
theorem dX7_run_176 : decode cX7_run 176 = .ok (.return_, 1) := by decide +kernel
theorem dX7_load_0 : decode cX7_load 0 = .ok (.aload_n 0, 1) := by decide +kernel
theorem dX7_load_1 : decode cX7_load 1 = .ok (.getfield 21, 3) := by decide +kernel
theorem dX7_load_4 : decode cX7_load 4 = .ok (.aload_n 1, 1) := by decide +kernel
theorem dX7_load_5 : decode cX7_load 5 = .ok (.invokevirtual 46, 3) := by decide +kernel
theorem dX7_load_8 : decode cX7_load 8 = .ok (.aload_n 0, 1) := by decide +kernel
theorem dX7_load_9 : decode cX7_load 9 = .ok (.getfield 28, 3) := by decide +kernel
theorem dX7_load_12 : decode cX7_load 12 = .ok (.invokevirtual 50, 3) := by decide +kernel
theorem dX7_load_15 : decode cX7_load 15 = .ok (.aload_n 0, 1) := by decide +kernel
theorem dX7_load_16 : decode cX7_load 16 = .ok (.iload_n 2, 1) := by decide +kernel
theorem dX7_load_17 : decode cX7_load 17 = .ok (.putfield 53, 3) := by decide +kernel
theorem dX7_load_20 : decode cX7_load 20 = .ok (.return_, 1) := by decide +kernel
theorem cp_act {G : rx_E} {d : Nat} {S : gs_T} {K : Nat → Nat × Nat} {C0 C : rx_M} {g : vg_T} {bs od : Nat} {n : Nat → Int64} {e : List (Nat × Int64 × Int64)} {b m c a q s k : Nat} {v r : Int64} {l o : Bool} {t : List Int64} {w : (Nat → Int64) × Nat × Nat} {fs : List vf_T} (hG : rx_OK G) {op mo : Nat} (hp : fs.length < 10) (hs1 : s < 32) (hk : k < 32) (hs : ∀ f ∈ fs, fS f < 32) (hg : g.2.1 ≤ 16) (ho : g.2.2.1 < 32) (hh : g.2.2.2 < 100) (hq : q ≤ 30000) (hb : b ≤ 30001) (hod : od < 10) (hbs : bs + e.length ≤ 40000) (hc : c < g.2.1) (hcl : (g.1 c).length ≤ 200) (hoct : ∀ k, k < (g.1 c).length → (g.1 c).getD k 0 < 256) (ha : a < 256) (hop : (g.1 c).getD a 0 = op) (hop1 : op < 40) (hmo : (if 1 < vm_size op then (g.1 c).getD (a + 1) 0 else 0) = mo) (h2 : ¬ q < vm_cost op) (h3 : ¬ (t.length < vm_takes op ∨ 24 < t.length - vm_takes op + vm_gives op ∨ ((op = 4 ∨ op = 5) ∧ t.length ≤ mo) ∨ (l = true ∧ vm_bars op = true))) (hY : rc_Y K C0 C g bs od (n, e, b, ((c, a + vm_size op, q - vm_cost op, s, k), (v, r), (l, o), t, w) :: fs, m) (nI (a + 1))) : rx_C G MX7_perform (d + 3) [.ref 4, .ref (13 + 3 * fs.length), .int (nI op)] (gl C S) 0 0 (rc_out S K C0 g bs od n e b m ((c, a + vm_size op, q - vm_cost op, s, k), (v, r), (l, o), t, w) fs (vm_act g (n, e, b, ((c, a, q, s, k), (v, r), (l, o), t, w) :: fs, m))) := by
  have hq' : q - vm_cost op ≤ 30000 := by omega
  by_cases h1 : (g.1 c).length ≤ a
  · have h0 : op = 0 := by rw [← hop, List.getD_eq_getElem?_getD, List.getElem?_eq_none h1]; rfl
    subst h0
    rw [va_end h1]
    exact cp_do1 (F0 := ((c, a, q, s, k), (v, r), (l, o), t, w)) hG hp hs1 hk hs hg ho hh hq' hb hod hbs rfl hc hcl hoct ha hmo h3 (by omega) (by omega) hY
  by_cases q1 : op ≤ 5
  · rw [va_1 h1 hop hmo h2 h3 q1]
    exact cp_do1 (F0 := ((c, a, q, s, k), (v, r), (l, o), t, w)) hG hp hs1 hk hs hg ho hh hq' hb hod hbs rfl hc hcl hoct ha hmo h3 (by omega) (by omega) hY
  by_cases q2 : op ≤ 18
  · rw [va_2 h1 hop hmo h2 h3 q1 q2]
    exact cp_do2 (F0 := ((c, a, q, s, k), (v, r), (l, o), t, w)) hG hp hs1 hk hs hg ho hh hq' hb hod hbs rfl hc hcl hoct ha hmo h3 (by omega) (by omega) hY
  by_cases q3 : op ≤ 22
  · rw [va_3 h1 hop hmo h2 h3 q1 q2 q3]
    exact cp_do3 (F0 := ((c, a, q, s, k), (v, r), (l, o), t, w)) hG hp hs1 hk hs hg ho hh hq' hb hod hbs rfl hc hcl hoct ha hmo h3 (by omega) (by omega) hY
  by_cases q4 : op ≤ 30
  · rw [va_4 h1 hop hmo h2 h3 q1 q2 q3 q4]
    exact cp_do4 (F0 := ((c, a, q, s, k), (v, r), (l, o), t, w)) hG hp hs1 hk hs hg ho hh hq' hb hod hbs rfl hc hcl hoct ha hmo h3 (by omega) (by omega) hY
  rw [va_5 h1 hop hmo h2 h3 q1 q2 q3 q4]
  exact cp_do5 (F0 := ((c, a, q, s, k), (v, r), (l, o), t, w)) hG hp hs1 hk hs hg ho hh hq' hb hod hbs rfl hc hcl hoct ha hmo h3 (by omega) (by omega) hY
set_option maxHeartbeats 1000000 in
theorem lc_after {G : rx_E} {d mc ms i : Nat} {S : gs_T} {K : Nat → Nat × Nat} {C0 C : rx_M} {g : vg_T} {bs od : Nat} {n : Nat → Int64} {e : List (Nat × Int64 × Int64)} {b m c a q s k : Nat} {v r : Int64} {l o : Bool} {t : List Int64} {w : (Nat → Int64) × Nat × Nat} {fs : List vf_T} {how : Nat} {R : vx_S × Option (Nat × Int64 × Nat)} {Q : Option Value → rx_M → Prop} {Z : String → rx_M → Prop} (hG : rx_OK G) (hp : fs.length < 10) (hs1 : s < 32) (hs : ∀ f ∈ fs, fS f < 32) (hg : g.2.1 ≤ 16) (hcod : vw_codes g n) (hq30 : q ≤ 30000) (hw : w.2.1 ≤ e.length) (hlk : l = true → w = (n, e.length, b)) (hlow : vw_low fs) (hsum : q + vw_sum fs ≤ 30001) (hO : rc_oc K C0 C g bs od n e b m ((c, a, q, s, k), (v, r), (l, o), t, w) fs R how) (kk : ∀ C', rc_U K C0 C' g bs od R.1 → (∀ how x u, R.2 = some (how, x, u) → rc_fin C' how x u) → rx_W G MX7_run (d + 4) 170 [(9, .int (nI i)), (0, .ref 4)] [] (gl C' S) mc ms Q Z) : rx_W G MX7_run (d + 4) 144 [(13, .int (nI how)), (10, .ref (13 + 3 * fs.length)), (9, .int (nI i)), (0, .ref 4)] [] (gl C S) mc ms Q Z := by
  rcases hO with ⟨rfl, hN, hU⟩ | ⟨hh, n1, q1, t1, x, z1, hn1, hq1, hY1, hR, hA⟩ | ⟨rfl, q1, t1, z1, to, vl, ar, qq, l1, hY1, hcl, hq1, ht1, hl1, hR⟩
  · refine rx_iload dX7_run_144 rfl ?_
    refine rx_iconst (v := nI 4) dX7_run_146 rfl ?_
    refine rx_icmp_ne (tgt := 157) dX7_run_147 (by decide) (fun _ => ?_) (fun h => absurd h (by decide))
    refine rx_iload dX7_run_157 rfl ?_
    refine rx_if_eq (tgt := 170) dX7_run_159 (by decide) (fun _ => ?_) (fun h => absurd (by decide) h)
    refine rx_lv (lv' := [(9, .int (nI i)), (0, .ref 4)]) ⟨rfl, rfl, trivial⟩ ?_
    exact kk C hU (fun how x u h => absurd (hN.symm.trans h) (by simp))
  · have hn1 : l = true → n1 = n := hn1
    have hq1 : q1 ≤ q := hq1
    have hY1 : rc_Y K C0 C g bs od (n1, e, b, ((c, a, q1, s, k), (v, r), (l, o), t1, w) :: fs, m) z1 := hY1
    have hlk' : l = true → w = (n1, e.length, b) := fun h => by rw [hn1 h]; exact hlk h
    rcases hh with rfl | rfl | rfl
    · have hA : C.2.1 4 11 = x := hA.resolve_left (by decide)
      refine rx_iload dX7_run_144 rfl ?_
      refine rx_iconst (v := nI 4) dX7_run_146 rfl ?_
      refine rx_icmp_ne (tgt := 157) dX7_run_147 (by decide) (fun _ => ?_) (fun h => absurd h (by decide))
      refine rx_iload dX7_run_157 rfl ?_
      refine rx_if_eq (tgt := 170) dX7_run_159 (by decide) (fun h => absurd h (by decide)) (fun _ => ?_)
      refine rx_aload_n dX7_run_162 rfl rfl ?_
      refine rx_aload dX7_run_163 rfl rfl ?_
      refine rx_iload dX7_run_165 rfl ?_
      refine gv_invV (as := [.ref _, .int _]) hG okX7_finish lk_RX7_103 rfl rfl dX7_run_167 rfl (by simp [Value.category]) (cc_finish1 hG hp hw hlk' hlow (by omega) hY1 hA) ?_
      rintro _ _ ⟨rfl, C2, rfl, hU2, hF2⟩
      refine rx_lv (lv' := [(9, .int (nI i)), (0, .ref 4)]) ⟨rfl, rfl, trivial⟩ ?_
      subst hR
      exact kk C2 hU2 hF2
    · have hA : C.2.1 4 11 = x := hA.resolve_left (by decide)
      refine rx_iload dX7_run_144 rfl ?_
      refine rx_iconst (v := nI 4) dX7_run_146 rfl ?_
      refine rx_icmp_ne (tgt := 157) dX7_run_147 (by decide) (fun _ => ?_) (fun h => absurd h (by decide))
      refine rx_iload dX7_run_157 rfl ?_
      refine rx_if_eq (tgt := 170) dX7_run_159 (by decide) (fun h => absurd h (by decide)) (fun _ => ?_)
      refine rx_aload_n dX7_run_162 rfl rfl ?_
      refine rx_aload dX7_run_163 rfl rfl ?_
      refine rx_iload dX7_run_165 rfl ?_
      refine gv_invV (as := [.ref _, .int _]) hG okX7_finish lk_RX7_103 rfl rfl dX7_run_167 rfl (by simp [Value.category]) (cc_finish2 hG hp hw hlk' hlow (by omega) hY1 hA) ?_
      rintro _ _ ⟨rfl, C2, rfl, hU2, hF2⟩
      refine rx_lv (lv' := [(9, .int (nI i)), (0, .ref 4)]) ⟨rfl, rfl, trivial⟩ ?_
      subst hR
      exact kk C2 hU2 hF2
    · skip
      refine rx_iload dX7_run_144 rfl ?_
      refine rx_iconst (v := nI 4) dX7_run_146 rfl ?_
      refine rx_icmp_ne (tgt := 157) dX7_run_147 (by decide) (fun _ => ?_) (fun h => absurd h (by decide))
      refine rx_iload dX7_run_157 rfl ?_
      refine rx_if_eq (tgt := 170) dX7_run_159 (by decide) (fun h => absurd h (by decide)) (fun _ => ?_)
      refine rx_aload_n dX7_run_162 rfl rfl ?_
      refine rx_aload dX7_run_163 rfl rfl ?_
      refine rx_iload dX7_run_165 rfl ?_
      refine gv_invV (as := [.ref _, .int _]) hG okX7_finish lk_RX7_103 rfl rfl dX7_run_167 rfl (by simp [Value.category]) (cc_finish3 hG hp hw hlk' hlow (by omega) hY1 rfl) ?_
      rintro _ _ ⟨rfl, C2, rfl, hU2, hF2⟩
      refine rx_lv (lv' := [(9, .int (nI i)), (0, .ref 4)]) ⟨rfl, rfl, trivial⟩ ?_
      subst hR
      exact kk C2 hU2 hF2
  · have hY1 : rc_Y K C0 C g bs od (n, e, b, ((c, a, q1, s, k), (v, r), (l, o), t1, w) :: fs, m) z1 := hY1
    have hcl : rc_call C s to vl ar qq l1 := hcl
    have hq1 : q1 + qq ≤ q := hq1
    refine rx_iload dX7_run_144 rfl ?_
    refine rx_iconst (v := nI 4) dX7_run_146 rfl ?_
    refine rx_icmp_ne (tgt := 157) dX7_run_147 (by decide) (fun h => absurd rfl h) (fun _ => ?_)
    refine rx_aload_n dX7_run_150 rfl rfl ?_
    refine gv_invV (as := []) hG okX7_begin lk_RX7_73 rfl rfl dX7_run_151 rfl (by simp [Value.category]) (cc_begin hG hY1 hcl hs1 (by show fs.length + 1 ≤ 10; omega) (fun f hf => by rcases List.mem_cons.mp hf with rfl | hf; (exact hs1); exact hs f hf) ⟨ht1, hlow⟩ (by show q1 + vw_sum fs + qq ≤ 30001; omega) hcod hg) ?_
    rintro _ _ ⟨rfl, C2, rfl, hU2, hF2⟩
    refine rx_goto (tgt := 170) dX7_run_154 (by decide) ?_
    refine rx_lv (lv' := [(9, .int (nI i)), (0, .ref 4)]) ⟨rfl, rfl, trivial⟩ ?_
    subst hR
    exact kk C2 hU2 hF2
theorem vm_cost_le {op : Nat} (hop : op < 40) : vm_cost op ≤ 100 := by
  have h : ∀ op, op < 40 → vm_cost op ≤ 100 := by decide +kernel
  exact h op hop
set_option maxHeartbeats 2000000 in
theorem lc_body {G : rx_E} {d mc ms i : Nat} {S : gs_T} {K : Nat → Nat × Nat} {C0 C : rx_M} {g : vg_T} {bs od : Nat} {n : Nat → Int64} {e : List (Nat × Int64 × Int64)} {b m c a q s k : Nat} {v r : Int64} {l o : Bool} {t : List Int64} {w : (Nat → Int64) × Nat × Nat} {fs : List vf_T} {z : Int32} {op : Nat} {Q : Option Value → rx_M → Prop} {Z : String → rx_M → Prop} (hG : rx_OK G) (hp : fs.length < 10) (hs1 : s < 32) (hk : k < 32) (hs : ∀ f ∈ fs, fS f < 32) (hg : g.2.1 ≤ 16) (ho : g.2.2.1 < 32) (hh : g.2.2.2 < 100) (hq : q ≤ 30000) (hb : b ≤ 30001) (hod : od < 10) (hbs : bs + e.length ≤ 40000) (hcod : vw_codes g n) (hw : w.2.1 ≤ e.length) (hlk : l = true → w = (n, e.length, b)) (hlow : vw_low fs) (hsum : q + vw_sum fs ≤ 30001) (hc : c < g.2.1) (hcl : (g.1 c).length ≤ 200) (hoct : ∀ k, k < (g.1 c).length → (g.1 c).getD k 0 < 256) (ha : a < 256) (hop : (g.1 c).getD a 0 = op) (hact : a < (g.1 c).length → (g.1 c).getD a 0 < 40) (hY : rc_Y K C0 C g bs od (n, e, b, ((c, a, q, s, k), (v, r), (l, o), t, w) :: fs, m) z) (kk : ∀ C', rc_U K C0 C' g bs od (vm_act g (n, e, b, ((c, a, q, s, k), (v, r), (l, o), t, w) :: fs, m)).1 → (∀ how x u, (vm_act g (n, e, b, ((c, a, q, s, k), (v, r), (l, o), t, w) :: fs, m)).2 = some (how, x, u) → rc_fin C' how x u) → rx_W G MX7_run (d + 4) 170 [(9, .int (nI i)), (0, .ref 4)] [] (gl C' S) mc ms Q Z) : rx_W G MX7_run (d + 4) 58 [(9, .int (nI i)), (0, .ref 4)] [] (gl C S) mc ms Q Z := by
  have hn24 := rc_n hY
  have hop1 : op < 40 := by
    by_cases h1 : a < (g.1 c).length
    · rw [← hop]; exact hact h1
    · rw [← hop, List.getD_eq_getElem?_getD, List.getElem?_eq_none (by omega)]; decide
  have h0 : (g.1 c).length ≤ a → op = 0 := fun h1 => by rw [← hop, List.getD_eq_getElem?_getD, List.getElem?_eq_none h1]; rfl
  obtain ⟨mo, hmo⟩ : ∃ mo, (if 1 < vm_size op then (g.1 c).getD (a + 1) 0 else 0) = mo := ⟨_, rfl⟩
  refine rx_aload_n dX7_run_58 rfl rfl ?_
  refine g_getR hG hf_RX7_41 rfl dX7_run_59 rfl rfl rfl ?_
  refine rx_aload_n dX7_run_62 rfl rfl ?_
  refine gcv_getI (v := nI (fs.length + 1)) hG hf_RX7_60 rfl dX7_run_63 rfl rfl rfl (rc_dep hY) ?_
  refine rx_iconst (v := nI 1) dX7_run_66 rfl ?_
  refine rx_isub dX7_run_67 ?_
  refine rx_ti (y := nI fs.length) ((pk_sub (by omega)).trans (congrArg nI (by omega))) ?_
  refine g_aald hG dX7_run_68 rfl rfl (by decide) rfl hp (by decide) (gkF_12 hp) ?_
  refine rx_astore dX7_run_69 (by decide) rfl ?_
  refine rx_aload dX7_run_71 rfl rfl ?_
  refine gv_invV (as := []) hG okX6_nextAct lk_RX7_77 (gkF_f hp) (gkF_k hp) dX7_run_73 rfl (by simp [Value.category]) (cc_nextAct hG hp rfl hc hcl hoct ha hop hop1 hY) ?_
  rintro _ _ ⟨rfl, C1, rfl, hY1⟩
  refine rx_istore dX7_run_76 (by decide) ?_
  refine rx_aload dX7_run_78 rfl rfl ?_
  refine rx_getsC hG hw_919 dX7_run_80 ?_
  refine rx_iload dX7_run_83 rfl ?_
  refine rx_ialdC hG dX7_run_85 rfl hop1 ?_
  refine rx_ti (y := nI (vm_cost op)) (rx_costsE op hop1) ?_
  have hct : vm_cost op ≤ 100 := vm_cost_le hop1
  by_cases h2 : q < vm_cost op
  · refine gv_invV (as := [.int _]) hG okX6_pays lk_RX7_85 (gkF_f hp) (gkF_k hp) dX7_run_86 rfl (by simp [Value.category]) (cc_paysF hG hp hct hq h2 hY1) ?_
    rintro _ _ ⟨rfl, C2, rfl, hY2⟩
    have h1 : ¬ (g.1 c).length ≤ a := fun h1 => by have := h0 h1; subst this; exact absurd h2 (Nat.not_lt_zero _)
    refine rx_if_eq (tgt := 122) dX7_run_89 (by decide) (fun _ => ?_) (fun h => absurd (by decide) h)
    refine rx_iconst (v := nI 0) dX7_run_122 rfl ?_
    refine rx_istore dX7_run_123 (by decide) ?_
    refine rx_iload dX7_run_125 rfl ?_
    refine rx_if_eq (tgt := 141) dX7_run_127 (by decide) (fun _ => ?_) (fun h => absurd (by decide) h)
    refine rx_iconst (v := nI 3) dX7_run_141 rfl ?_
    refine rx_istore dX7_run_142 (by decide) ?_
    refine rx_lv (lv' := [(13, .int (nI 3)), (10, .ref (13 + 3 * fs.length)), (9, .int (nI i)), (0, .ref 4)]) ⟨rfl, rfl, rfl, rfl, trivial⟩ ?_
    exact lc_after (R := vm_act g (n, e, b, ((c, a, q, s, k), (v, r), (l, o), t, w) :: fs, m)) (t := t) hG hp hs1 hs hg hcod (by omega) hw hlk hlow (by omega) (how := 3) (Or.inr (Or.inl ⟨Or.inr (Or.inr rfl), _, _, _, _, _, fun _ => rfl, Nat.le_refl _, hY2, ((va_gas h1 hop h2).trans rfl), Or.inl rfl⟩)) kk
  · refine gv_invV (as := [.int _]) hG okX6_pays lk_RX7_85 (gkF_f hp) (gkF_k hp) dX7_run_86 rfl (by simp [Value.category]) (cc_paysT hG hp hct hq (by omega) hY1) ?_
    rintro _ _ ⟨rfl, C2, rfl, hY2⟩
    refine rx_if_eq (tgt := 122) dX7_run_89 (by decide) (fun h => absurd h (by decide)) (fun _ => ?_)
    refine rx_aload dX7_run_92 rfl rfl ?_
    refine rx_iload dX7_run_94 rfl ?_
    refine gv_invV (as := [.int _]) hG okX6_fits lk_RX7_89 (gkF_f hp) (gkF_k hp) dX7_run_96 rfl (by simp [Value.category]) (cc_fits (mo := mo) hG hp rfl hc hcl hoct ha hop1 (fun h => by rw [← hmo]; rcases h with rfl | rfl <;> rfl) hY2) ?_
    rintro _ _ ⟨⟨r1, hr1, rfl⟩, C3, rfl, hY3⟩
    have hbadR : (t.length < vm_takes op ∨ 24 < t.length - vm_takes op + vm_gives op ∨ ((op = 4 ∨ op = 5) ∧ t.length ≤ mo) ∨ (l = true ∧ vm_bars op = true)) → vm_act g (n, e, b, ((c, a, q, s, k), (v, r), (l, o), t, w) :: fs, m) = vm_end (n, e, b, ((c, a, q, s, k), (v, r), (l, o), t, w) :: fs, m) ((c, a + vm_size op, q - vm_cost op, s, k), (v, r), (l, o), t, w) fs 3 0 := fun h3 => va_bad (fun h1 => by have := h0 h1; subst this; simp [vm_takes, vm_gives, vm_bars] at h3; omega) hop hmo h2 h3
    rcases hr1 with ⟨rfl, hf⟩ | ⟨rfl, hf⟩
    rotate_left
    · refine rx_if_eq (tgt := 122) dX7_run_99 (by decide) (fun _ => ?_) (fun h => absurd (by decide) h)
      refine rx_iconst (v := nI 0) dX7_run_122 rfl ?_
      refine rx_istore dX7_run_123 (by decide) ?_
      refine rx_iload dX7_run_125 rfl ?_
      refine rx_if_eq (tgt := 141) dX7_run_127 (by decide) (fun _ => ?_) (fun h => absurd (by decide) h)
      refine rx_iconst (v := nI 3) dX7_run_141 rfl ?_
      refine rx_istore dX7_run_142 (by decide) ?_
      refine rx_lv (lv' := [(13, .int (nI 3)), (10, .ref (13 + 3 * fs.length)), (9, .int (nI i)), (0, .ref 4)]) ⟨rfl, rfl, rfl, rfl, trivial⟩ ?_
      exact lc_after (R := vm_act g (n, e, b, ((c, a, q, s, k), (v, r), (l, o), t, w) :: fs, m)) (t := t) hG hp hs1 hs hg hcod (by omega) hw hlk hlow (by omega) (how := 3) (Or.inr (Or.inl ⟨Or.inr (Or.inr rfl), _, _, _, _, _, fun _ => rfl, Nat.le_refl _, hY3, (hbadR (by rcases hf with h | h | h; (exact Or.inl h); (exact Or.inr (Or.inl h)); exact Or.inr (Or.inr (Or.inl h)))), Or.inl rfl⟩)) kk
    · refine rx_if_eq (tgt := 122) dX7_run_99 (by decide) (fun h => absurd h (by decide)) (fun _ => ?_)
      refine rx_aload dX7_run_102 rfl rfl ?_
      refine gcv_getI (v := bI l) hG hf_RX7_92 rfl dX7_run_104 (gkF_m hp) (gkF_f hp) (gkF_k hp) (rc_look hY3) ?_
      by_cases hl : l = true
      · refine rx_if_eq (tgt := 118) dX7_run_107 (by decide) (fun h => absurd h ((bI_ne l).mpr hl)) (fun _ => ?_)
        refine rx_iload dX7_run_110 rfl ?_
        refine rx_invS0 (as := [.int _]) hG okX7_changesState lk_RX7_96 dX7_run_112 rfl (by simp [Value.category]) (cc_changes hG hop1) ?_
        rintro _ _ ⟨⟨r2, hr2, rfl⟩, rfl⟩
        rcases hr2 with ⟨rfl, hb2⟩ | ⟨rfl, hb2⟩
        · refine rx_if_ne (tgt := 122) dX7_run_115 (by decide) (fun _ => ?_) (fun h => absurd h (by decide))
          refine rx_iconst (v := nI 0) dX7_run_122 rfl ?_
          refine rx_istore dX7_run_123 (by decide) ?_
          refine rx_iload dX7_run_125 rfl ?_
          refine rx_if_eq (tgt := 141) dX7_run_127 (by decide) (fun _ => ?_) (fun h => absurd (by decide) h)
          refine rx_iconst (v := nI 3) dX7_run_141 rfl ?_
          refine rx_istore dX7_run_142 (by decide) ?_
          refine rx_lv (lv' := [(13, .int (nI 3)), (10, .ref (13 + 3 * fs.length)), (9, .int (nI i)), (0, .ref 4)]) ⟨rfl, rfl, rfl, rfl, trivial⟩ ?_
          exact lc_after (R := vm_act g (n, e, b, ((c, a, q, s, k), (v, r), (l, o), t, w) :: fs, m)) (t := t) hG hp hs1 hs hg hcod (by omega) hw hlk hlow (by omega) (how := 3) (Or.inr (Or.inl ⟨Or.inr (Or.inr rfl), _, _, _, _, _, fun _ => rfl, Nat.le_refl _, hY3, (hbadR (Or.inr (Or.inr (Or.inr ⟨hl, hb2⟩)))), Or.inl rfl⟩)) kk
        · refine rx_if_ne (tgt := 122) dX7_run_115 (by decide) (fun h => absurd h (by decide)) (fun _ => ?_)
          have h3 : ¬ (t.length < vm_takes op ∨ 24 < t.length - vm_takes op + vm_gives op ∨ ((op = 4 ∨ op = 5) ∧ t.length ≤ mo) ∨ (l = true ∧ vm_bars op = true)) := by rintro (h | h | h | ⟨_, h⟩); (exact hf (Or.inl h)); (exact hf (Or.inr (Or.inl h))); (exact hf (Or.inr (Or.inr h))); rw [hb2] at h; exact absurd h (by decide)
          refine rx_iconst (v := nI 1) dX7_run_118 rfl ?_
          refine rx_goto (tgt := 123) dX7_run_119 (by decide) ?_
          refine rx_istore dX7_run_123 (by decide) ?_
          refine rx_iload dX7_run_125 rfl ?_
          refine rx_if_eq (tgt := 141) dX7_run_127 (by decide) (fun h => absurd h (by decide)) (fun _ => ?_)
          refine rx_aload_n dX7_run_130 rfl rfl ?_
          refine rx_aload dX7_run_131 rfl rfl ?_
          refine rx_iload dX7_run_133 rfl ?_
          refine gv_invV (as := [.ref _, .int _]) hG okX7_perform lk_RX7_99 rfl rfl dX7_run_135 rfl (by simp [Value.category]) (cp_act hG hp hs1 hk hs hg ho hh hq hb hod hbs hc hcl hoct ha hop hop1 hmo h2 h3 hY3) ?_
          rintro _ _ ⟨how, rfl, C4, rfl, hO⟩
          refine rx_goto (tgt := 142) dX7_run_138 (by decide) ?_
          refine rx_istore dX7_run_142 (by decide) ?_
          refine rx_lv (lv' := [(13, .int (nI how)), (10, .ref (13 + 3 * fs.length)), (9, .int (nI i)), (0, .ref 4)]) ⟨rfl, rfl, rfl, rfl, trivial⟩ ?_
          exact lc_after hG hp hs1 hs hg hcod (by omega) hw hlk hlow (by omega) hO kk
      · refine rx_if_eq (tgt := 118) dX7_run_107 (by decide) (fun _ => ?_) (fun h => absurd ((bI_ne l).mp h) hl)
        have h3 : ¬ (t.length < vm_takes op ∨ 24 < t.length - vm_takes op + vm_gives op ∨ ((op = 4 ∨ op = 5) ∧ t.length ≤ mo) ∨ (l = true ∧ vm_bars op = true)) := by rintro (h | h | h | ⟨h, _⟩); (exact hf (Or.inl h)); (exact hf (Or.inr (Or.inl h))); (exact hf (Or.inr (Or.inr h))); exact hl h
        refine rx_iconst (v := nI 1) dX7_run_118 rfl ?_
        refine rx_goto (tgt := 123) dX7_run_119 (by decide) ?_
        refine rx_istore dX7_run_123 (by decide) ?_
        refine rx_iload dX7_run_125 rfl ?_
        refine rx_if_eq (tgt := 141) dX7_run_127 (by decide) (fun h => absurd h (by decide)) (fun _ => ?_)
        refine rx_aload_n dX7_run_130 rfl rfl ?_
        refine rx_aload dX7_run_131 rfl rfl ?_
        refine rx_iload dX7_run_133 rfl ?_
        refine gv_invV (as := [.ref _, .int _]) hG okX7_perform lk_RX7_99 rfl rfl dX7_run_135 rfl (by simp [Value.category]) (cp_act hG hp hs1 hk hs hg ho hh hq hb hod hbs hc hcl hoct ha hop hop1 hmo h2 h3 hY3) ?_
        rintro _ _ ⟨how, rfl, C4, rfl, hO⟩
        refine rx_goto (tgt := 142) dX7_run_138 (by decide) ?_
        refine rx_istore dX7_run_142 (by decide) ?_
        refine rx_lv (lv' := [(13, .int (nI how)), (10, .ref (13 + 3 * fs.length)), (9, .int (nI i)), (0, .ref 4)]) ⟨rfl, rfl, rfl, rfl, trivial⟩ ?_
        exact lc_after hG hp hs1 hs hg hcod (by omega) hw hlk hlow (by omega) hO kk

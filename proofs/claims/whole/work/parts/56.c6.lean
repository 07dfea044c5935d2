theorem dX7_end_0 : decode cX7_end 0 = .ok (.aload_n 0, 1) := by decide +kernel
theorem dX7_end_1 : decode cX7_end 1 = .ok (.iload_n 1, 1) := by decide +kernel
theorem dX7_end_2 : decode cX7_end 2 = .ok (.putfield 192, 3) := by decide +kernel
theorem dX7_end_5 : decode cX7_end 5 = .ok (.aload_n 0, 1) := by decide +kernel
theorem dX7_end_6 : decode cX7_end 6 = .ok (.lload_n 2, 1) := by decide +kernel
theorem dX7_end_7 : decode cX7_end 7 = .ok (.putfield 188, 3) := by decide +kernel
theorem dX7_end_10 : decode cX7_end 10 = .ok (.aload_n 0, 1) := by decide +kernel
theorem dX7_end_11 : decode cX7_end 11 = .ok (.iload 4, 2) := by decide +kernel
theorem dX7_end_13 : decode cX7_end 13 = .ok (.putfield 195, 3) := by decide +kernel
theorem dX7_end_16 : decode cX7_end 16 = .ok (.aload_n 0, 1) := by decide +kernel
theorem dX7_end_17 : decode cX7_end 17 = .ok (.getfield 60, 3) := by decide +kernel
theorem dX7_end_20 : decode cX7_end 20 = .ok (.ifCond .le 49, 3) := by decide +kernel
theorem dX7_end_23 : decode cX7_end 23 = .ok (.aload_n 0, 1) := by decide +kernel
theorem dX7_end_24 : decode cX7_end 24 = .ok (.getfield 41, 3) := by decide +kernel
theorem dX7_end_27 : decode cX7_end 27 = .ok (.aload_n 0, 1) := by decide +kernel
theorem dX7_end_28 : decode cX7_end 28 = .ok (.getfield 60, 3) := by decide +kernel
theorem dX7_end_31 : decode cX7_end 31 = .ok (.iconst 1, 1) := by decide +kernel
theorem dX7_end_32 : decode cX7_end 32 = .ok (.isub, 1) := by decide +kernel
theorem dX7_end_33 : decode cX7_end 33 = .ok (.aaload, 1) := by decide +kernel
theorem dX7_end_34 : decode cX7_end 34 = .ok (.astore 5, 2) := by decide +kernel
theorem dX7_end_36 : decode cX7_end 36 = .ok (.aload 5, 2) := by decide +kernel
theorem dX7_end_38 : decode cX7_end 38 = .ok (.dup, 1) := by decide +kernel
theorem dX7_end_39 : decode cX7_end 39 = .ok (.getfield 191, 3) := by decide +kernel
theorem dX7_end_42 : decode cX7_end 42 = .ok (.iload 4, 2) := by decide +kernel
theorem dX7_end_44 : decode cX7_end 44 = .ok (.iadd, 1) := by decide +kernel
theorem dX7_end_45 : decode cX7_end 45 = .ok (.putfield 191, 3) := by decide +kernel
theorem dX7_end_48 : decode cX7_end 48 = .ok (.aload 5, 2) := by decide +kernel
theorem dX7_end_50 : decode cX7_end 50 = .ok (.lload_n 2, 1) := by decide +kernel
theorem dX7_end_51 : decode cX7_end 51 = .ok (.invokevirtual 198, 3) := by decide +kernel
theorem dX7_end_54 : decode cX7_end 54 = .ok (.aload 5, 2) := by decide +kernel
theorem dX7_end_56 : decode cX7_end 56 = .ok (.iload_n 1, 1) := by decide +kernel
theorem dX7_end_57 : decode cX7_end 57 = .ok (.iconst 1, 1) := by decide +kernel
theorem dX7_end_58 : decode cX7_end 58 = .ok (.if_icmp .ne 7, 3) := by decide +kernel
theorem dX7_end_61 : decode cX7_end 61 = .ok (.lconst 1, 1) := by decide +kernel
theorem dX7_end_62 : decode cX7_end 62 = .ok (.goto 4, 3) := by decide +kernel
theorem dX7_end_65 : decode cX7_end 65 = .ok (.lconst 0, 1) := by decide +kernel
theorem dX7_end_66 : decode cX7_end 66 = .ok (.invokevirtual 198, 3) := by decide +kernel
theorem dX7_end_69 : decode cX7_end 69 = .ok (.return_, 1) := by decide +kernel
theorem dX7_undo_0 : decode cX7_undo 0 = .ok (.aload_n 1, 1) := by decide +kernel
theorem dX7_undo_1 : decode cX7_undo 1 = .ok (.getfield 92, 3) := by decide +kernel
theorem dX7_undo_4 : decode cX7_undo 4 = .ok (.ifCond .ne 33, 3) := by decide +kernel
theorem dX7_undo_7 : decode cX7_undo 7 = .ok (.aload_n 0, 1) := by decide +kernel
theorem dX7_undo_8 : decode cX7_undo 8 = .ok (.getfield 21, 3) := by decide +kernel
theorem dX7_undo_11 : decode cX7_undo 11 = .ok (.aload_n 1, 1) := by decide +kernel
theorem dX7_undo_12 : decode cX7_undo 12 = .ok (.getfield 165, 3) := by decide +kernel
theorem dX7_undo_15 : decode cX7_undo 15 = .ok (.invokevirtual 46, 3) := by decide +kernel
theorem dX7_undo_18 : decode cX7_undo 18 = .ok (.aload_n 0, 1) := by decide +kernel
theorem dX7_undo_19 : decode cX7_undo 19 = .ok (.getfield 28, 3) := by decide +kernel
theorem dX7_undo_22 : decode cX7_undo 22 = .ok (.aload_n 1, 1) := by decide +kernel
theorem dX7_undo_23 : decode cX7_undo 23 = .ok (.getfield 175, 3) := by decide +kernel
theorem dX7_undo_26 : decode cX7_undo 26 = .ok (.invokevirtual 181, 3) := by decide +kernel
theorem dX7_undo_29 : decode cX7_undo 29 = .ok (.aload_n 0, 1) := by decide +kernel
theorem dX7_undo_30 : decode cX7_undo 30 = .ok (.aload_n 1, 1) := by decide +kernel
theorem dX7_undo_31 : decode cX7_undo 31 = .ok (.getfield 178, 3) := by decide +kernel
theorem dX7_undo_34 : decode cX7_undo 34 = .ok (.putfield 63, 3) := by decide +kernel
theorem dX7_undo_37 : decode cX7_undo 37 = .ok (.return_, 1) := by decide +kernel
theorem dX7_finish_0 : decode cX7_finish 0 = .ok (.iload_n 2, 1) := by decide +kernel
theorem dX7_finish_1 : decode cX7_finish 1 = .ok (.iconst 1, 1) := by decide +kernel
theorem dX7_finish_2 : decode cX7_finish 2 = .ok (.if_icmp .eq 8, 3) := by decide +kernel
theorem dX7_finish_5 : decode cX7_finish 5 = .ok (.aload_n 0, 1) := by decide +kernel
theorem dX7_finish_6 : decode cX7_finish 6 = .ok (.aload_n 1, 1) := by decide +kernel
theorem dX7_finish_7 : decode cX7_finish 7 = .ok (.invokevirtual 185, 3) := by decide +kernel
theorem dX7_finish_10 : decode cX7_finish 10 = .ok (.aload_n 0, 1) := by decide +kernel
theorem dX7_finish_11 : decode cX7_finish 11 = .ok (.dup, 1) := by decide +kernel
theorem dX7_finish_12 : decode cX7_finish 12 = .ok (.getfield 60, 3) := by decide +kernel
theorem dX7_finish_15 : decode cX7_finish 15 = .ok (.iconst 1, 1) := by decide +kernel
theorem dX7_finish_16 : decode cX7_finish 16 = .ok (.isub, 1) := by decide +kernel
theorem dX7_finish_17 : decode cX7_finish 17 = .ok (.putfield 60, 3) := by decide +kernel
theorem dX7_finish_20 : decode cX7_finish 20 = .ok (.aload_n 0, 1) := by decide +kernel
theorem dX7_finish_21 : decode cX7_finish 21 = .ok (.iload_n 2, 1) := by decide +kernel
theorem dX7_finish_22 : decode cX7_finish 22 = .ok (.iload_n 2, 1) := by decide +kernel
theorem dX7_finish_23 : decode cX7_finish 23 = .ok (.iconst 3, 1) := by decide +kernel
theorem dX7_finish_24 : decode cX7_finish 24 = .ok (.if_icmp .ne 7, 3) := by decide +kernel
theorem dX7_finish_27 : decode cX7_finish 27 = .ok (.lconst 0, 1) := by decide +kernel
theorem dX7_finish_28 : decode cX7_finish 28 = .ok (.goto 7, 3) := by decide +kernel
theorem dX7_finish_31 : decode cX7_finish 31 = .ok (.aload_n 0, 1) := by decide +kernel
theorem dX7_finish_32 : decode cX7_finish 32 = .ok (.getfield 188, 3) := by decide +kernel
theorem dX7_finish_35 : decode cX7_finish 35 = .ok (.iload_n 2, 1) := by decide +kernel
theorem dX7_finish_36 : decode cX7_finish 36 = .ok (.iconst 3, 1) := by decide +kernel
theorem dX7_finish_37 : decode cX7_finish 37 = .ok (.if_icmp .ne 7, 3) := by decide +kernel
theorem dX7_finish_40 : decode cX7_finish 40 = .ok (.iconst 0, 1) := by decide +kernel
theorem dX7_finish_41 : decode cX7_finish 41 = .ok (.goto 7, 3) := by decide +kernel
theorem dX7_finish_44 : decode cX7_finish 44 = .ok (.aload_n 1, 1) := by decide +kernel
theorem dX7_finish_45 : decode cX7_finish 45 = .ok (.getfield 191, 3) := by decide +kernel
theorem dX7_finish_48 : decode cX7_finish 48 = .ok (.invokevirtual 114, 3) := by decide +kernel
theorem dX7_finish_51 : decode cX7_finish 51 = .ok (.return_, 1) := by decide +kernel
theorem dX7_fails_0 : decode cX7_fails 0 = .ok (.aload_n 0, 1) := by decide +kernel
theorem dX7_fails_1 : decode cX7_fails 1 = .ok (.getfield 35, 3) := by decide +kernel
theorem dX7_fails_4 : decode cX7_fails 4 = .ok (.getfield 118, 3) := by decide +kernel
theorem dX7_fails_7 : decode cX7_fails 7 = .ok (.invokestatic 151, 3) := by decide +kernel
theorem dX7_fails_10 : decode cX7_fails 10 = .ok (.ifCond .eq 64, 3) := by decide +kernel
theorem dX7_fails_13 : decode cX7_fails 13 = .ok (.aload_n 0, 1) := by decide +kernel
theorem dX7_fails_14 : decode cX7_fails 14 = .ok (.getfield 35, 3) := by decide +kernel
theorem dX7_fails_17 : decode cX7_fails 17 = .ok (.getfield 133, 3) := by decide +kernel
theorem dX7_fails_20 : decode cX7_fails 20 = .ok (.lconst 0, 1) := by decide +kernel
theorem dX7_fails_21 : decode cX7_fails 21 = .ok (.lcmp, 1) := by decide +kernel
theorem dX7_fails_22 : decode cX7_fails 22 = .ok (.ifCond .lt 52, 3) := by decide +kernel
theorem dX7_fails_25 : decode cX7_fails 25 = .ok (.aload_n 0, 1) := by decide +kernel
theorem dX7_fails_26 : decode cX7_fails 26 = .ok (.getfield 35, 3) := by decide +kernel
theorem dX7_fails_29 : decode cX7_fails 29 = .ok (.getfield 133, 3) := by decide +kernel
theorem dX7_fails_32 : decode cX7_fails 32 = .ok (.aload_n 0, 1) := by decide +kernel
theorem dX7_fails_33 : decode cX7_fails 33 = .ok (.getfield 21, 3) := by decide +kernel
theorem dX7_fails_36 : decode cX7_fails 36 = .ok (.aload_n 0, 1) := by decide +kernel
theorem dX7_fails_37 : decode cX7_fails 37 = .ok (.getfield 35, 3) := by decide +kernel
theorem dX7_fails_40 : decode cX7_fails 40 = .ok (.getfield 130, 3) := by decide +kernel
theorem dX7_fails_43 : decode cX7_fails 43 = .ok (.invokevirtual 154, 3) := by decide +kernel
theorem dX7_fails_46 : decode cX7_fails 46 = .ok (.lcmp, 1) := by decide +kernel
theorem dX7_fails_47 : decode cX7_fails 47 = .ok (.ifCond .gt 27, 3) := by decide +kernel
theorem dX7_fails_50 : decode cX7_fails 50 = .ok (.aload_n 0, 1) := by decide +kernel
theorem dX7_fails_51 : decode cX7_fails 51 = .ok (.getfield 60, 3) := by decide +kernel
theorem dX7_fails_54 : decode cX7_fails 54 = .ok (.bipush 10, 2) := by decide +kernel
theorem dX7_fails_56 : decode cX7_fails 56 = .ok (.if_icmp .ge 18, 3) := by decide +kernel
theorem dX7_fails_59 : decode cX7_fails 59 = .ok (.aload_n 0, 1) := by decide +kernel
theorem dX7_fails_60 : decode cX7_fails 60 = .ok (.aload_n 0, 1) := by decide +kernel
theorem dX7_fails_61 : decode cX7_fails 61 = .ok (.getfield 35, 3) := by decide +kernel
theorem dX7_fails_64 : decode cX7_fails 64 = .ok (.getfield 118, 3) := by decide +kernel
theorem dX7_fails_67 : decode cX7_fails 67 = .ok (.l2i, 1) := by decide +kernel
theorem dX7_fails_68 : decode cX7_fails 68 = .ok (.invokevirtual 157, 3) := by decide +kernel
theorem dX7_fails_71 : decode cX7_fails 71 = .ok (.ifCond .eq 7, 3) := by decide +kernel
theorem dX7_fails_74 : decode cX7_fails 74 = .ok (.iconst 1, 1) := by decide +kernel
theorem dX7_fails_75 : decode cX7_fails 75 = .ok (.goto 4, 3) := by decide +kernel
theorem dX7_fails_78 : decode cX7_fails 78 = .ok (.iconst 0, 1) := by decide +kernel
theorem dX7_fails_79 : decode cX7_fails 79 = .ok (.ireturn, 1) := by decide +kernel
def rc_U (K : Nat → Nat × Nat) (C0 C : rx_M) (g : vg_T) (bs od : Nat) (X : vx_S) : Prop := ∃ z, rc_Y K C0 C g bs od X z
def rc_fin (C : rx_M) (how : Nat) (v : Int64) (u : Nat) : Prop := C.1 4 10 = nI how ∧ C.2.1 4 11 = v ∧ C.1 4 12 = nI u
/-- what came of it, in the class's cells -/
def rc_res (S : gs_T) (K : Nat → Nat × Nat) (C0 : rx_M) (g : vg_T) (bs od : Nat) (R : vx_S × Option (Nat × Int64 × Nat)) (v : Option Value) (mu : rx_M) : Prop := v = none ∧ ∃ C', mu = gl C' S ∧ rc_U K C0 C' g bs od R.1 ∧ ∀ how x u, R.2 = some (how, x, u) → rc_fin C' how x u
theorem rcY_down {K : Nat → Nat × Nat} {C0 C : rx_M} {g : vg_T} {bs od : Nat} {n : Nat → Int64} {e : List (Nat × Int64 × Int64)} {b m : Nat} {z : Int32} {f : vf_T} {fs : List vf_T} (h : rc_Y K C0 C g bs od (n, e, b, f :: fs, m) z) : rc_Y K C0 (rx_u C.1 4 5 (nI fs.length), C.2) g bs od (n, e, b, fs, m) (C.1 (13 + 3 * (fs.length - 1)) 7) := by
  obtain ⟨⟨h1, h2, ⟨h3, h4, h5⟩, h6, ⟨h7, h8⟩, h9⟩, ⟨r1, r2, r3, r4⟩, hz⟩ := h
  refine ⟨⟨rc_G_congr h1 (fun a ha => rx_une _ (by omega)) (fun _ _ => rfl) rfl rfl (by simp [rx_ru]) (by simp [rx_ru]) (by simp [rx_ru]), h2, ⟨by simpa [rx_ru] using h3, by simpa [rx_ru] using h4, rc_E_congr (C := C) (fun j _ => rfl) h5⟩, by simpa [rx_ru] using h6, ⟨by simp [rx_ru], rc_Fs_congr (C := C) (fun a ha ha2 => ⟨rx_une _ (by omega), rfl, rfl⟩) h8.2⟩, by simpa [rx_ru] using h9⟩, ⟨fun a ha => ⟨(rx_une _ (by omega)).trans (r1 a ha).1, (r1 a ha).2⟩, r2, r3, r4⟩, congrFun (rx_une _ (by omega)) 7⟩
theorem rcY_load {K : Nat → Nat × Nat} {C0 C : rx_M} {g : vg_T} {bs od : Nat} {n : Nat → Int64} {e : List (Nat × Int64 × Int64)} {b m : Nat} {gs : List vf_T} {z : Int32} (h : rc_Y K C0 C g bs od (n, e, b, gs, m) z) {n' : Nat → Int64} {a0 : Nat} (hn : ∀ k, k < 1024 → C.2.1 a0 k = lf n' k) : rc_Y K C0 (C.1, rx_k1 C.2.1 8 (va_cpy (C.2.1 a0) (C.2.1 8) 0 0 1024), C.2.2) g bs od (n', e, b, gs, m) z := by
  obtain ⟨⟨h1, h2, ⟨h3, h4, h5⟩, h6, ⟨h7, h8⟩, h9⟩, ⟨r1, r2, r3, r4⟩, hz⟩ := h
  have hz8 : ∀ c, c ≠ 8 → rx_k1 C.2.1 8 (va_cpy (C.2.1 a0) (C.2.1 8) 0 0 1024) c = C.2.1 c := fun c hc => if_neg hc
  refine ⟨⟨h1, fun k hk => ?_, ⟨h3, h4, rc_E_congr (C := C) (fun i _ => congrFun (hz8 10 (by decide)) i) h5⟩, h6, ⟨h7, rc_Fs_congr (C := C) (fun a ha ha2 => ⟨rfl, hz8 a (by omega), rfl⟩) h8⟩, h9⟩, ⟨fun a ha => ⟨(r1 a ha).1, (hz8 a (by omega)).trans (r1 a ha).2⟩, r2, r3, fun i hi => (congrFun (hz8 10 (by decide)) i).trans (r4 i hi)⟩, hz⟩
  show rx_k1 C.2.1 8 (va_cpy (C.2.1 a0) (C.2.1 8) 0 0 1024) 8 k = lf n' k
  unfold rx_k1
  rw [if_pos rfl, pk_cpy_in (by omega) (by omega), show 0 + (k - 0) = k by omega]
  exact hn k hk
theorem cc_end0 {G : rx_E} {d : Nat} {S : gs_T} {K : Nat → Nat × Nat} {C0 C : rx_M} {g : vg_T} {bs od : Nat} {n : Nat → Int64} {e : List (Nat × Int64 × Int64)} {b m : Nat} {z : Int32} (hG : rx_OK G) {how u : Nat} {x : Int64} (hY : rc_Y K C0 C g bs od (n, e, b, [], m) z) : rx_C G MX7_end (d + 1) [.ref 4, .int (nI how), .long x, .int (nI u)] (gl C S) 0 0 (rc_res S K C0 g bs od (vm_tell (n, e, b, [], m) how x u)) := by
  refine rx_meth0 (by decide +kernel) rfl (Nat.le_of_ble_eq_true rfl) ?_
  refine rx_aload_n dX7_end_0 rfl rfl ?_
  refine rx_iload_n dX7_end_1 rfl ?_
  refine gc_putI hG hf_RX7_192 (gw_nf rfl rfl) rfl dX7_end_2 rfl rfl rfl rfl rfl ?_
  refine rx_aload_n dX7_end_5 rfl rfl ?_
  refine rx_lload_n dX7_end_6 rfl ?_
  refine gc_putL hG hf_RX7_188 (gw_nf rfl rfl) dX7_end_7 rfl rfl rfl ?_
  refine rx_aload_n dX7_end_10 rfl rfl ?_
  refine rx_iload dX7_end_11 rfl ?_
  refine gc_putI hG hf_RX7_195 (gw_nf rfl rfl) rfl dX7_end_13 rfl rfl rfl rfl rfl ?_
  refine rx_aload_n dX7_end_16 rfl rfl ?_
  refine gcv_getI (v := nI 0) hG hf_RX7_60 rfl dX7_end_17 rfl rfl rfl (by simp only [rx_ru]; simp; exact rc_dep' hY) ?_
  refine rx_if_le (tgt := 69) dX7_end_20 (by decide) (fun h20 => ?_) (fun h20 => (absurd h20 (by decide))) 
  refine rx_vret rfl dX7_end_69 ⟨rfl, _, rfl, ⟨_, rcY_set4 (rcY_setA (rcY_set4 hY (by decide) (nI how)) x) (by decide) (nI u)⟩, fun h1 x1 u1 hr => ?_⟩
  have hr' : some (how, x, u) = some (h1, x1, u1) := hr
  obtain ⟨rfl, rfl, rfl⟩ : how = h1 ∧ x = x1 ∧ u = u1 := by simpa using hr'
  exact ⟨by simp [rx_ru], by simp [rx_ru], by simp [rx_ru]⟩
theorem cc_endF {G : rx_E} {d : Nat} {S : gs_T} {K : Nat → Nat × Nat} {C0 C : rx_M} {g : vg_T} {bs od : Nat} {n : Nat → Int64} {e : List (Nat × Int64 × Int64)} {b m c a q s k : Nat} {v r : Int64} {l o : Bool} {t : List Int64} {w : (Nat → Int64) × Nat × Nat} {fs : List vf_T} {z : Int32} (hG : rx_OK G) {how u : Nat} {x : Int64} (hp : fs.length < 10) (ht : t.length ≤ 22) (hq : q + u ≤ 30001) (hh : how < 4) (hY : rc_Y K C0 C g bs od (n, e, b, ((c, a, q, s, k), (v, r), (l, o), t, w) :: fs, m) z) : rx_C G MX7_end (d + 1) [.ref 4, .int (nI how), .long x, .int (nI u)] (gl C S) 0 0 (rc_res S K C0 g bs od (vm_tell (n, e, b, ((c, a, q, s, k), (v, r), (l, o), t, w) :: fs, m) how x u)) := by
  refine rx_meth0 (by decide +kernel) rfl (Nat.le_of_ble_eq_true rfl) ?_
  refine rx_aload_n dX7_end_0 rfl rfl ?_
  refine rx_iload_n dX7_end_1 rfl ?_
  refine gc_putI hG hf_RX7_192 (gw_nf rfl rfl) rfl dX7_end_2 rfl rfl rfl rfl rfl ?_
  refine rcY_ab (rcY_set4 hY (by decide) (nI how)) (fun _ hY1 => ?_)
  refine rx_aload_n dX7_end_5 rfl rfl ?_
  refine rx_lload_n dX7_end_6 rfl ?_
  refine gc_putL hG hf_RX7_188 (gw_nf rfl rfl) dX7_end_7 rfl rfl rfl ?_
  refine rcY_ab (rcY_setA hY1 x) (fun _ hY2 => ?_)
  refine rx_aload_n dX7_end_10 rfl rfl ?_
  refine rx_iload dX7_end_11 rfl ?_
  refine gc_putI hG hf_RX7_195 (gw_nf rfl rfl) rfl dX7_end_13 rfl rfl rfl rfl rfl ?_
  refine rcY_ab (rcY_set4 hY2 (by decide) (nI u)) (fun _ hY3 => ?_)
  refine rx_aload_n dX7_end_16 rfl rfl ?_
  refine gcv_getI (v := nI (fs.length + 1)) hG hf_RX7_60 rfl dX7_end_17 rfl rfl rfl (rc_dep hY3) ?_
  refine rx_if_le (tgt := 69) dX7_end_20 (by decide) (fun h20 => absurd h20 (by rw [← nI_0, nI_leI (by omega) (by omega)]; omega)) (fun h20 => ?_)
  refine rx_aload_n dX7_end_23 rfl rfl ?_
  refine g_getR hG hf_RX7_41 rfl dX7_end_24 rfl rfl rfl ?_
  refine rx_aload_n dX7_end_27 rfl rfl ?_
  refine gcv_getI (v := nI (fs.length + 1)) hG hf_RX7_60 rfl dX7_end_28 rfl rfl rfl (rc_dep hY3) ?_
  refine rx_iconst (v := nI 1) dX7_end_31 rfl ?_
  refine rx_isub dX7_end_32 ?_
  refine rx_ti (y := nI fs.length) ((pk_sub (by omega)).trans (congrArg nI (by omega))) ?_
  refine g_aald hG dX7_end_33 rfl rfl (by decide) rfl hp (by decide) (gkF_12 hp) ?_
  refine rx_astore dX7_end_34 (by decide) rfl ?_
  refine rx_aload dX7_end_36 rfl rfl ?_
  refine rx_dup dX7_end_38 rfl ?_
  refine gcv_getI (v := nI q) hG hf_RX7_191 rfl dX7_end_39 (gkF_m hp) (gkF_f hp) (gkF_k hp) (rc_gas hY3) ?_
  refine rx_iload dX7_end_42 rfl ?_
  refine rx_iadd dX7_end_44 ?_
  refine rx_ti (y := nI (q + u)) ((nI_add _ _).trans (congrArg nI (by omega))) ?_
  refine gc_putI hG hf_RX7_191 (gw_nf rfl rfl) rfl dX7_end_45 (gkF_m hp) (gkF_f hp) (gkF_k hp) rfl rfl ?_
  refine rcY_ab (rcY_setGas hY3 hp (q + u)) (fun _ hY4 => ?_)
  refine rx_aload dX7_end_48 rfl rfl ?_
  refine rx_lload_n dX7_end_50 rfl ?_
  refine gv_invV (as := [.long _]) hG okX6_push lk_RX7_198 (gkF_f hp) (gkF_k hp) dX7_end_51 rfl (by simp [Value.category]) (cc_push hG hY4 hp (by (try simp only [List.length_cons, List.length_nil]); omega) _) ?_
  rintro _ _ ⟨rfl, _, rfl, hY5⟩
  refine rx_aload dX7_end_54 rfl rfl ?_
  refine rx_iload_n dX7_end_56 rfl ?_
  refine rx_iconst (v := nI 1) dX7_end_57 rfl ?_
  refine rx_icmp_ne (tgt := 65) dX7_end_58 (by decide) (fun h58 => ?_) (fun h58 => ?_)
  · rw [nI_eq (by omega) (by omega)] at h58
    refine rx_lconst (v := lN 0) dX7_end_65 rfl ?_
    refine gv_invV (as := [.long _]) hG okX6_push lk_RX7_198 (gkF_f hp) (gkF_k hp) dX7_end_66 rfl (by simp [Value.category]) (cc_push hG hY5 hp (by (try simp only [List.length_cons, List.length_nil]); omega) _) ?_
    rintro _ _ ⟨rfl, _, rfl, hY6⟩
    exact rx_vret rfl dX7_end_69 ⟨rfl, _, rfl, ⟨_, (by show rc_Y _ _ _ _ _ _ (n, e, b, ((c, a, q + u, s, k), (v, r), (l, o), (if how = 1 then 1 else 0) :: x :: t, w) :: fs, m) _; rw [if_neg h58]; exact hY6)⟩, fun _ _ _ hr => by cases hr⟩
  · rw [nI_eq (by omega) (by omega)] at h58
    refine rx_lconst (v := lN 1) dX7_end_61 rfl ?_
    refine rx_goto (tgt := 66) dX7_end_62 (by decide) ?_
    refine gv_invV (as := [.long _]) hG okX6_push lk_RX7_198 (gkF_f hp) (gkF_k hp) dX7_end_66 rfl (by simp [Value.category]) (cc_push hG hY5 hp (by (try simp only [List.length_cons, List.length_nil]); omega) _) ?_
    rintro _ _ ⟨rfl, _, rfl, hY6⟩
    exact rx_vret rfl dX7_end_69 ⟨rfl, _, rfl, ⟨_, (by show rc_Y _ _ _ _ _ _ (n, e, b, ((c, a, q + u, s, k), (v, r), (l, o), (if how = 1 then 1 else 0) :: x :: t, w) :: fs, m) _; rw [if_pos h58]; exact hY6)⟩, fun _ _ _ hr => by cases hr⟩
theorem cc_end {G : rx_E} {d : Nat} {S : gs_T} {K : Nat → Nat × Nat} {C0 C : rx_M} {g : vg_T} {bs od : Nat} {n : Nat → Int64} {e : List (Nat × Int64 × Int64)} {b m : Nat} {gs : List vf_T} {z : Int32} (hG : rx_OK G) {how u : Nat} {x : Int64} (hlow : vw_low gs) (hl : gs.length ≤ 10) (hs : vw_sum gs + u ≤ 30001) (hh : how < 4) (hY : rc_Y K C0 C g bs od (n, e, b, gs, m) z) : rx_C G MX7_end (d + 1) [.ref 4, .int (nI how), .long x, .int (nI u)] (gl C S) 0 0 (rc_res S K C0 g bs od (vm_tell (n, e, b, gs, m) how x u)) := by
  match gs, hlow, hl, hs with
  | [], _, _, _ => exact cc_end0 hG hY
  | ((c, a, q, s, k), (v, r), (l, o), t, w) :: fs, hlow, hl, hs =>
    have hl : fs.length + 1 ≤ 10 := hl
    have hs : q + vw_sum fs + u ≤ 30001 := hs
    have ht : t.length ≤ 21 := hlow.1
    exact cc_endF hG (by omega) (by omega) (by omega) hh hY
theorem rx_abA {G : rx_E} {M : rx_Me} {d pc mc ms : Nat} {lv : List (Nat × Value)} {st : List Value} {S : gs_T} {K : Nat → Nat × Nat} {C0 C : rx_M} {g : vg_T} {bs od : Nat} {X : vx_S} {z : Int32} {x : Int64} {Q : Option Value → rx_M → Prop} {Z : String → rx_M → Prop} (h : rc_Y K C0 C g bs od X z) (hA : C.2.1 4 11 = x) (k : ∀ C', rc_Y K C0 C' g bs od X z → C'.2.1 4 11 = x → rx_W G M d pc lv st (gl C' S) mc ms Q Z) : rx_W G M d pc lv st (gl C S) mc ms Q Z := k C h hA
theorem cs_backTo {G : rx_E} {d : Nat} {S : gs_T} {C : rx_M} {x : Int32} (hG : rx_OK G) : rx_C G MX5_backTo d [.ref 9, .int x] (gl C S) 0 0 (fun v mu => v = none ∧ mu = gl (rx_u C.1 9 1 x, C.2) S) := by
  refine rx_meth0 (by decide +kernel) rfl (Nat.le_of_ble_eq_true rfl) ?_
  refine rx_aload_n dX5_backTo_0 rfl rfl ?_
  refine rx_iload_n dX5_backTo_1 rfl ?_
  refine gc_putI hG hf_RX5_15 (gw_nf rfl rfl) rfl dX5_backTo_2 rfl rfl rfl rfl rfl ?_
  exact rx_vret rfl dX5_backTo_5 ⟨rfl, rfl⟩
theorem cc_undo {G : rx_E} {d : Nat} {S : gs_T} {K : Nat → Nat × Nat} {C0 C : rx_M} {g : vg_T} {bs od : Nat} {n : Nat → Int64} {e : List (Nat × Int64 × Int64)} {b m c a q s k : Nat} {v r : Int64} {l o : Bool} {t : List Int64} {w : (Nat → Int64) × Nat × Nat} {fs : List vf_T} {z : Int32} (hG : rx_OK G) {av : Int64} (hp : fs.length < 10) (hw : w.2.1 ≤ e.length) (hlk : l = true → w = (n, e.length, b)) (hY : rc_Y K C0 C g bs od (n, e, b, ((c, a, q, s, k), (v, r), (l, o), t, w) :: fs, m) z) (hA : C.2.1 4 11 = av) : rx_C G MX7_undo (d + 2) [.ref 4, .ref (13 + 3 * fs.length)] (gl C S) 0 0 (fun vv mu => vv = none ∧ ∃ C', mu = gl C' S ∧ rc_Y K C0 C' g bs od (w.1, e.drop (e.length - w.2.1), w.2.2, ((c, a, q, s, k), (v, r), (l, o), t, w) :: fs, m) z ∧ C'.2.1 4 11 = av) := by
  refine rx_meth0 (by decide +kernel) rfl (Nat.le_of_ble_eq_true rfl) ?_
  cases l
  · refine rx_aload_n dX7_undo_0 rfl rfl ?_
    refine gcv_getI (v := nI 0) hG hf_RX7_92 rfl dX7_undo_1 (gkF_m hp) (gkF_f hp) (gkF_k hp) (rc_look hY) ?_
    refine rx_if_ne (tgt := 37) dX7_undo_4 (by decide) (fun h => absurd h (by decide)) (fun _ => ?_)
    refine rx_aload_n dX7_undo_7 rfl rfl ?_
    refine g_getR hG hf_RX7_21 rfl dX7_undo_8 rfl rfl rfl ?_
    refine rx_aload_n dX7_undo_11 rfl rfl ?_
    refine g_getR hG hf_RX7_165 rfl dX7_undo_12 (gkF_f hp) (gkF_k hp) (gkF_r1 hp) ?_
    refine gv_invV (as := [.ref _]) hG okX9_loadFrom lk_RX7_46 rfl rfl dX7_undo_15 rfl (by simp [Value.category]) (cs_loadFrom hG (gkL_m hp) (gl_n (gkL_f hp)) (gl_k (gkL_f hp) (gkL_k hp))) ?_
    rintro _ _ ⟨rfl, rfl⟩
    refine rx_abA (rcY_load hY ((rcF hY).2.2.2.2 rfl).1) hA (fun C1 hY1 hA1 => ?_)
    refine rx_aload_n dX7_undo_18 rfl rfl ?_
    refine g_getR hG hf_RX7_28 rfl dX7_undo_19 rfl rfl rfl ?_
    refine rx_aload_n dX7_undo_22 rfl rfl ?_
    refine gcv_getI (v := nI (bs + w.2.1)) hG hf_RX7_175 rfl dX7_undo_23 (gkF_m hp) (gkF_f hp) (gkF_k hp) ((rcF hY1).2.2.2.2 rfl).2.1 ?_
    refine gv_invV (as := [.int _]) hG okX5_backTo lk_RX7_181 rfl rfl dX7_undo_26 rfl (by simp [Value.category]) (cs_backTo hG) ?_
    rintro _ _ ⟨rfl, rfl⟩
    refine rx_abA (rcY_setEv hY1 hw) hA1 (fun C2 hY2 hA2 => ?_)
    refine rx_aload_n dX7_undo_29 rfl rfl ?_
    refine rx_aload_n dX7_undo_30 rfl rfl ?_
    refine gcv_getI (v := nI w.2.2) hG hf_RX7_178 rfl dX7_undo_31 (gkF_m hp) (gkF_f hp) (gkF_k hp) ((rcF hY2).2.2.2.2 rfl).2.2 ?_
    refine gc_putI hG hf_RX7_63 (gw_nf rfl rfl) rfl dX7_undo_34 rfl rfl rfl rfl rfl ?_
    exact rx_vret rfl dX7_undo_37 ⟨rfl, _, rfl, rcY_setBack hY2 w.2.2, hA2⟩
  · refine rx_aload_n dX7_undo_0 rfl rfl ?_
    refine gcv_getI (v := nI 1) hG hf_RX7_92 rfl dX7_undo_1 (gkF_m hp) (gkF_f hp) (gkF_k hp) (rc_look hY) ?_
    refine rx_if_ne (tgt := 37) dX7_undo_4 (by decide) (fun _ => ?_) (fun h => absurd h (by decide))
    refine rx_vret rfl dX7_undo_37 ⟨rfl, C, rfl, ?_, hA⟩
    have hlk := hlk rfl
    subst hlk
    show rc_Y _ _ _ _ _ _ (n, e.drop (e.length - e.length), b, _, m) _
    rw [Nat.sub_self, List.drop_zero]
    exact hY
theorem rcY_abg {G : rx_E} {M : rx_Me} {d pc mc ms : Nat} {lv : List (Nat × Value)} {st : List Value} {S : gs_T} {K : Nat → Nat × Nat} {C0 C : rx_M} {g : vg_T} {bs od : Nat} {X : vx_S} {z : Int32} {a : Nat} {x : Int32} {y : Int64} {Q : Option Value → rx_M → Prop} {Z : String → rx_M → Prop} (h : rc_Y K C0 C g bs od X z) (hg : C.1 a 8 = x) (hA : C.2.1 4 11 = y) (k : ∀ C', rc_Y K C0 C' g bs od X z → C'.1 a 8 = x → C'.2.1 4 11 = y → rx_W G M d pc lv st (gl C' S) mc ms Q Z) : rx_W G M d pc lv st (gl C S) mc ms Q Z := k C h hg hA
theorem cc_finish1 {G : rx_E} {d : Nat} {S : gs_T} {K : Nat → Nat × Nat} {C0 C : rx_M} {g : vg_T} {bs od : Nat} {n : Nat → Int64} {e : List (Nat × Int64 × Int64)} {b m c a q s k : Nat} {v r : Int64} {l o : Bool} {t : List Int64} {w : (Nat → Int64) × Nat × Nat} {fs : List vf_T} {z : Int32} (hG : rx_OK G) {av : Int64} (hp : fs.length < 10) (hw : w.2.1 ≤ e.length) (hlk : l = true → w = (n, e.length, b)) (hlow : vw_low fs) (hsum : q + vw_sum fs ≤ 30001) (hY : rc_Y K C0 C g bs od (n, e, b, ((c, a, q, s, k), (v, r), (l, o), t, w) :: fs, m) z) (hA : C.2.1 4 11 = av) : rx_C G MX7_finish (d + 3) [.ref 4, .ref (13 + 3 * fs.length), .int (nI 1)] (gl C S) 0 0 (rc_res S K C0 g bs od (vm_fin (n, e, b, ((c, a, q, s, k), (v, r), (l, o), t, w) :: fs, m) 1 av)) := by
  refine rx_meth0 (by decide +kernel) rfl (Nat.le_of_ble_eq_true rfl) ?_
  have hA := hA
  refine rx_iload_n dX7_finish_0 rfl ?_
  refine rx_iconst (v := nI 1) dX7_finish_1 rfl ?_
  refine rx_icmp_eq (tgt := 10) dX7_finish_2 (by decide) (fun h2 => ?_) (fun h2 => (absurd h2 (by decide))) 
  refine rx_aload_n dX7_finish_10 rfl rfl ?_
  refine rx_dup dX7_finish_11 rfl ?_
  refine gcv_getI (v := nI (fs.length + 1)) hG hf_RX7_60 rfl dX7_finish_12 rfl rfl rfl (rc_dep hY) ?_
  refine rx_iconst (v := nI 1) dX7_finish_15 rfl ?_
  refine rx_isub dX7_finish_16 ?_
  refine rx_ti (y := nI fs.length) ((pk_sub (by omega)).trans (congrArg nI (by omega))) ?_
  refine gc_putI hG hf_RX7_60 (gw_nf rfl rfl) rfl dX7_finish_17 rfl rfl rfl rfl rfl ?_
  have hg := rc_gas hY
  refine rcY_abg (rcY_down hY) (a := 13 + 3 * fs.length) (x := nI q) ((congrFun (rx_une _ (by omega)) 8).trans hg) hA (fun C2 hY hg hA => ?_)
  refine rx_aload_n dX7_finish_20 rfl rfl ?_
  refine rx_iload_n dX7_finish_21 rfl ?_
  refine rx_iload_n dX7_finish_22 rfl ?_
  refine rx_iconst (v := nI 3) dX7_finish_23 rfl ?_
  refine rx_icmp_ne (tgt := 31) dX7_finish_24 (by decide) (fun h24 => ?_) (fun h24 => (absurd h24 (by decide))) 
  refine rx_aload_n dX7_finish_31 rfl rfl ?_
  refine gcv_getL (v := av) hG hf_RX7_188 rfl dX7_finish_32 rfl rfl rfl hA ?_
  refine rx_iload_n dX7_finish_35 rfl ?_
  refine rx_iconst (v := nI 3) dX7_finish_36 rfl ?_
  refine rx_icmp_ne (tgt := 44) dX7_finish_37 (by decide) (fun h37 => ?_) (fun h37 => (absurd h37 (by decide))) 
  refine rx_aload_n dX7_finish_44 rfl rfl ?_
  refine gcv_getI (v := nI q) hG hf_RX7_191 rfl dX7_finish_45 (gkF_m hp) (gkF_f hp) (gkF_k hp) hg ?_
  refine gv_invV (as := [.int _, .long _, .int _]) hG okX7_end lk_RX7_114 rfl rfl dX7_finish_48 rfl (by simp [Value.category]) (cc_end hG hlow (by omega) (by omega) (by decide) hY) ?_
  rintro _ _ ⟨rfl, hres⟩
  exact rx_vret rfl dX7_finish_51 ⟨rfl, hres⟩
theorem cc_finish2 {G : rx_E} {d : Nat} {S : gs_T} {K : Nat → Nat × Nat} {C0 C : rx_M} {g : vg_T} {bs od : Nat} {n : Nat → Int64} {e : List (Nat × Int64 × Int64)} {b m c a q s k : Nat} {v r : Int64} {l o : Bool} {t : List Int64} {w : (Nat → Int64) × Nat × Nat} {fs : List vf_T} {z : Int32} (hG : rx_OK G) {av : Int64} (hp : fs.length < 10) (hw : w.2.1 ≤ e.length) (hlk : l = true → w = (n, e.length, b)) (hlow : vw_low fs) (hsum : q + vw_sum fs ≤ 30001) (hY : rc_Y K C0 C g bs od (n, e, b, ((c, a, q, s, k), (v, r), (l, o), t, w) :: fs, m) z) (hA : C.2.1 4 11 = av) : rx_C G MX7_finish (d + 3) [.ref 4, .ref (13 + 3 * fs.length), .int (nI 2)] (gl C S) 0 0 (rc_res S K C0 g bs od (vm_fin (n, e, b, ((c, a, q, s, k), (v, r), (l, o), t, w) :: fs, m) 2 av)) := by
  refine rx_meth0 (by decide +kernel) rfl (Nat.le_of_ble_eq_true rfl) ?_
  refine rx_iload_n dX7_finish_0 rfl ?_
  refine rx_iconst (v := nI 1) dX7_finish_1 rfl ?_
  refine rx_icmp_eq (tgt := 10) dX7_finish_2 (by decide) (fun h2 => (absurd h2 (by decide))) (fun h2 => ?_)
  refine rx_aload_n dX7_finish_5 rfl rfl ?_
  refine rx_aload_n dX7_finish_6 rfl rfl ?_
  refine gv_invV (as := [.ref _]) hG okX7_undo lk_RX7_185 rfl rfl dX7_finish_7 rfl (by simp [Value.category]) (cc_undo hG hp hw hlk hY hA) ?_
  rintro _ _ ⟨rfl, C1, rfl, hY, hA⟩
  refine rx_aload_n dX7_finish_10 rfl rfl ?_
  refine rx_dup dX7_finish_11 rfl ?_
  refine gcv_getI (v := nI (fs.length + 1)) hG hf_RX7_60 rfl dX7_finish_12 rfl rfl rfl (rc_dep hY) ?_
  refine rx_iconst (v := nI 1) dX7_finish_15 rfl ?_
  refine rx_isub dX7_finish_16 ?_
  refine rx_ti (y := nI fs.length) ((pk_sub (by omega)).trans (congrArg nI (by omega))) ?_
  refine gc_putI hG hf_RX7_60 (gw_nf rfl rfl) rfl dX7_finish_17 rfl rfl rfl rfl rfl ?_
  have hg := rc_gas hY
  refine rcY_abg (rcY_down hY) (a := 13 + 3 * fs.length) (x := nI q) ((congrFun (rx_une _ (by omega)) 8).trans hg) hA (fun C2 hY hg hA => ?_)
  refine rx_aload_n dX7_finish_20 rfl rfl ?_
  refine rx_iload_n dX7_finish_21 rfl ?_
  refine rx_iload_n dX7_finish_22 rfl ?_
  refine rx_iconst (v := nI 3) dX7_finish_23 rfl ?_
  refine rx_icmp_ne (tgt := 31) dX7_finish_24 (by decide) (fun h24 => ?_) (fun h24 => (absurd h24 (by decide))) 
  refine rx_aload_n dX7_finish_31 rfl rfl ?_
  refine gcv_getL (v := av) hG hf_RX7_188 rfl dX7_finish_32 rfl rfl rfl hA ?_
  refine rx_iload_n dX7_finish_35 rfl ?_
  refine rx_iconst (v := nI 3) dX7_finish_36 rfl ?_
  refine rx_icmp_ne (tgt := 44) dX7_finish_37 (by decide) (fun h37 => ?_) (fun h37 => (absurd h37 (by decide))) 
  refine rx_aload_n dX7_finish_44 rfl rfl ?_
  refine gcv_getI (v := nI q) hG hf_RX7_191 rfl dX7_finish_45 (gkF_m hp) (gkF_f hp) (gkF_k hp) hg ?_
  refine gv_invV (as := [.int _, .long _, .int _]) hG okX7_end lk_RX7_114 rfl rfl dX7_finish_48 rfl (by simp [Value.category]) (cc_end hG hlow (by omega) (by omega) (by decide) hY) ?_
  rintro _ _ ⟨rfl, hres⟩
  exact rx_vret rfl dX7_finish_51 ⟨rfl, hres⟩
theorem cc_finish3 {G : rx_E} {d : Nat} {S : gs_T} {K : Nat → Nat × Nat} {C0 C : rx_M} {g : vg_T} {bs od : Nat} {n : Nat → Int64} {e : List (Nat × Int64 × Int64)} {b m c a q s k : Nat} {v r : Int64} {l o : Bool} {t : List Int64} {w : (Nat → Int64) × Nat × Nat} {fs : List vf_T} {z : Int32} (hG : rx_OK G) {av : Int64} (hp : fs.length < 10) (hw : w.2.1 ≤ e.length) (hlk : l = true → w = (n, e.length, b)) (hlow : vw_low fs) (hsum : q + vw_sum fs ≤ 30001) (hY : rc_Y K C0 C g bs od (n, e, b, ((c, a, q, s, k), (v, r), (l, o), t, w) :: fs, m) z) (hA : C.2.1 4 11 = av) : rx_C G MX7_finish (d + 3) [.ref 4, .ref (13 + 3 * fs.length), .int (nI 3)] (gl C S) 0 0 (rc_res S K C0 g bs od (vm_fin (n, e, b, ((c, a, q, s, k), (v, r), (l, o), t, w) :: fs, m) 3 av)) := by
  refine rx_meth0 (by decide +kernel) rfl (Nat.le_of_ble_eq_true rfl) ?_
  refine rx_iload_n dX7_finish_0 rfl ?_
  refine rx_iconst (v := nI 1) dX7_finish_1 rfl ?_
  refine rx_icmp_eq (tgt := 10) dX7_finish_2 (by decide) (fun h2 => (absurd h2 (by decide))) (fun h2 => ?_)
  refine rx_aload_n dX7_finish_5 rfl rfl ?_
  refine rx_aload_n dX7_finish_6 rfl rfl ?_
  refine gv_invV (as := [.ref _]) hG okX7_undo lk_RX7_185 rfl rfl dX7_finish_7 rfl (by simp [Value.category]) (cc_undo hG hp hw hlk hY hA) ?_
  rintro _ _ ⟨rfl, C1, rfl, hY, hA⟩
  refine rx_aload_n dX7_finish_10 rfl rfl ?_
  refine rx_dup dX7_finish_11 rfl ?_
  refine gcv_getI (v := nI (fs.length + 1)) hG hf_RX7_60 rfl dX7_finish_12 rfl rfl rfl (rc_dep hY) ?_
  refine rx_iconst (v := nI 1) dX7_finish_15 rfl ?_
  refine rx_isub dX7_finish_16 ?_
  refine rx_ti (y := nI fs.length) ((pk_sub (by omega)).trans (congrArg nI (by omega))) ?_
  refine gc_putI hG hf_RX7_60 (gw_nf rfl rfl) rfl dX7_finish_17 rfl rfl rfl rfl rfl ?_
  have hg := rc_gas hY
  refine rcY_abg (rcY_down hY) (a := 13 + 3 * fs.length) (x := nI q) ((congrFun (rx_une _ (by omega)) 8).trans hg) hA (fun C2 hY hg hA => ?_)
  refine rx_aload_n dX7_finish_20 rfl rfl ?_
  refine rx_iload_n dX7_finish_21 rfl ?_
  refine rx_iload_n dX7_finish_22 rfl ?_
  refine rx_iconst (v := nI 3) dX7_finish_23 rfl ?_
  refine rx_icmp_ne (tgt := 31) dX7_finish_24 (by decide) (fun h24 => (absurd h24 (by decide))) (fun h24 => ?_)
  refine rx_lconst (v := lN 0) dX7_finish_27 rfl ?_
  refine rx_goto (tgt := 35) dX7_finish_28 (by decide) ?_
  refine rx_iload_n dX7_finish_35 rfl ?_
  refine rx_iconst (v := nI 3) dX7_finish_36 rfl ?_
  refine rx_icmp_ne (tgt := 44) dX7_finish_37 (by decide) (fun h37 => (absurd h37 (by decide))) (fun h37 => ?_)
  refine rx_iconst (v := nI 0) dX7_finish_40 rfl ?_
  refine rx_goto (tgt := 48) dX7_finish_41 (by decide) ?_
  refine gv_invV (as := [.int _, .long _, .int _]) hG okX7_end lk_RX7_114 rfl rfl dX7_finish_48 rfl (by simp [Value.category]) (cc_end hG hlow (by omega) (by omega) (by decide) hY) ?_
  rintro _ _ ⟨rfl, hres⟩
  exact rx_vret rfl dX7_finish_51 ⟨rfl, hres⟩
